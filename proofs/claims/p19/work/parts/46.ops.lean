theorem lk_RL_102 : LkV RL 102 RX7 yX7_mapOf cX7_mapOf 5 (some .int) 3 := ⟨⟨mw_1340, mw_1341, mw_1342, mw_59, mw_1343⟩, by decide +kernel⟩
theorem lk_RL_103 : LkV RL 103 RX6 yX6_meets cX6_meets 2 (some .int) 0 := ⟨⟨mw_879, mw_880, mw_881, mw_52, mw_882⟩, by decide +kernel⟩
theorem lk_RL_106 : LkV RL 106 RX7 yX7_meets cX7_meets 2 (some .int) 0 := ⟨⟨mw_1344, mw_1345, mw_1346, mw_59, mw_1347⟩, by decide +kernel⟩
theorem lk_RL_107 : LkV RL 107 RX6 yX6_used cX6_used 7 (some .int) 3 := ⟨⟨mw_892, mw_893, mw_894, mw_52, mw_895⟩, by decide +kernel⟩
theorem lk_RL_110 : LkV RL 110 RX7 yX7_used cX7_used 6 (some .int) 3 := ⟨⟨mw_1348, mw_1349, mw_1350, mw_59, mw_1351⟩, by decide +kernel⟩
theorem lk_RL_111 : LkV RL 111 RX6 yX6_bad cX6_bad 4 (some .int) 2 := ⟨⟨mw_896, mw_897, mw_898, mw_52, mw_899⟩, by decide +kernel⟩
theorem lk_RL_114 : LkV RL 114 RX7 yX7_bad cX7_bad 3 (some .int) 2 := ⟨⟨mw_1353, mw_1354, mw_1355, mw_59, mw_1356⟩, by decide +kernel⟩
theorem lk_RL_115 : LkV RL 115 RX6 yX6_sent cX6_sent 5 (some .int) 3 := ⟨⟨mw_900, mw_901, mw_902, mw_52, mw_903⟩, by decide +kernel⟩
theorem lk_RL_118 : LkV RL 118 RX7 yX7_sent cX7_sent 4 (some .int) 3 := ⟨⟨mw_1357, mw_1358, mw_1359, mw_59, mw_1360⟩, by decide +kernel⟩
theorem lk_RL_119 : LkV RL 119 RX6 yX6_link cX6_link 5 (some .int) 3 := ⟨⟨mw_904, mw_905, mw_906, mw_52, mw_907⟩, by decide +kernel⟩
theorem lk_RL_122 : LkV RL 122 RX7 yX7_link cX7_link 5 (some .int) 3 := ⟨⟨mw_1361, mw_1362, mw_1363, mw_59, mw_1364⟩, by decide +kernel⟩
theorem lk_RL_123 : LkV RL 123 RX6 yX6_hash cX6_hash 5 (some .int) 3 := ⟨⟨mw_908, mw_909, mw_910, mw_52, mw_911⟩, by decide +kernel⟩
theorem lk_RL_126 : LkV RL 126 RX7 yX7_hash cX7_hash 4 (some .int) 3 := ⟨⟨mw_1365, mw_1366, mw_1367, mw_59, mw_1368⟩, by decide +kernel⟩
theorem lk_RL_127 : LkV RL 127 RX6 yX6_reserved cX6_reserved 5 (some .int) 3 := ⟨⟨mw_912, mw_913, mw_914, mw_52, mw_915⟩, by decide +kernel⟩
theorem lk_RL_13 : LkV RL 13 RX6 yX6_radio cX6_radio 2 (some .int) 1 := ⟨⟨mw_450, mw_451, mw_452, mw_52, mw_453⟩, by decide +kernel⟩
theorem lk_RL_130 : LkV RL 130 RX7 yX7_reserved cX7_reserved 4 (some .int) 3 := ⟨⟨mw_1369, mw_1370, mw_1371, mw_59, mw_1372⟩, by decide +kernel⟩
theorem lk_RL_131 : LkV RL 131 RX6 yX6_isThere cX6_isThere 5 (some .int) 3 := ⟨⟨mw_916, mw_917, mw_918, mw_52, mw_919⟩, by decide +kernel⟩
theorem lk_RL_134 : LkV RL 134 RX7 yX7_isThere cX7_isThere 4 (some .int) 3 := ⟨⟨mw_1374, mw_1375, mw_1376, mw_59, mw_1377⟩, by decide +kernel⟩
theorem lk_RL_135 : LkV RL 135 RX6 yX6_odds cX6_odds 9 (some .int) 4 := ⟨⟨mw_921, mw_922, mw_923, mw_52, mw_924⟩, by decide +kernel⟩
theorem lk_RL_138 : LkV RL 138 RX7 yX7_odds cX7_odds 8 (some .int) 4 := ⟨⟨mw_1378, mw_1379, mw_1380, mw_59, mw_1381⟩, by decide +kernel⟩
theorem lk_RL_139 : LkV RL 139 RX6 yX6_clashes cX6_clashes 4 (some .int) 1 := ⟨⟨mw_932, mw_933, mw_934, mw_52, mw_935⟩, by decide +kernel⟩
theorem lk_RL_142 : LkV RL 142 RX7 yX7_clashes cX7_clashes 2 (some .int) 1 := ⟨⟨mw_1390, mw_1391, mw_1392, mw_59, mw_1393⟩, by decide +kernel⟩
theorem lk_RL_143 : LkV RL 143 RX6 yX6_bestOffset cX6_bestOffset 6 (some .int) 1 := ⟨⟨mw_936, mw_937, mw_938, mw_52, mw_939⟩, by decide +kernel⟩
theorem lk_RL_146 : LkV RL 146 RX7 yX7_bestOffset cX7_bestOffset 8 (some .int) 1 := ⟨⟨mw_1402, mw_1403, mw_1404, mw_59, mw_1405⟩, by decide +kernel⟩
theorem lk_RL_147 : LkV RL 147 RX6 yX6_drain cX6_drain 5 (some .int) 2 := ⟨⟨mw_950, mw_951, mw_952, mw_52, mw_953⟩, by decide +kernel⟩
theorem lk_RL_150 : LkV RL 150 RX7 yX7_drain cX7_drain 5 (some .int) 2 := ⟨⟨mw_1443, mw_1444, mw_1445, mw_59, mw_1446⟩, by decide +kernel⟩
theorem lk_RL_151 : LkV RL 151 RX6 yX6_would cX6_would 6 (some .int) 3 := ⟨⟨mw_955, mw_956, mw_957, mw_52, mw_958⟩, by decide +kernel⟩
theorem lk_RL_154 : LkV RL 154 RX7 yX7_would cX7_would 4 (some .int) 3 := ⟨⟨mw_1451, mw_1452, mw_1453, mw_59, mw_1454⟩, by decide +kernel⟩
theorem lk_RL_155 : LkV RL 155 RX6 yX6_ready cX6_ready 5 (some .int) 2 := ⟨⟨mw_971, mw_972, mw_973, mw_52, mw_974⟩, by decide +kernel⟩
theorem lk_RL_158 : LkV RL 158 RX7 yX7_ready cX7_ready 5 (some .int) 2 := ⟨⟨mw_1406, mw_1407, mw_1408, mw_59, mw_1409⟩, by decide +kernel⟩
theorem lk_RL_159 : LkV RL 159 RX6 yX6_bothReady cX6_bothReady 10 (some .int) 4 := ⟨⟨mw_976, mw_977, mw_978, mw_52, mw_979⟩, by decide +kernel⟩
theorem lk_RL_162 : LkV RL 162 RX7 yX7_bothReady cX7_bothReady 8 (some .int) 4 := ⟨⟨mw_1410, mw_1411, mw_1412, mw_59, mw_1413⟩, by decide +kernel⟩
theorem lk_RL_163 : LkV RL 163 RX6 yX6_ahead cX6_ahead 4 (some .int) 2 := ⟨⟨mw_980, mw_981, mw_982, mw_52, mw_983⟩, by decide +kernel⟩
theorem lk_RL_166 : LkV RL 166 RX7 yX7_ahead cX7_ahead 3 (some .int) 2 := ⟨⟨mw_1414, mw_1415, mw_1416, mw_59, mw_1417⟩, by decide +kernel⟩
theorem lk_RL_167 : LkV RL 167 RX6 yX6_together cX6_together 8 (some .int) 3 := ⟨⟨mw_984, mw_985, mw_986, mw_52, mw_987⟩, by decide +kernel⟩
theorem lk_RL_17 : LkV RL 17 RX7 yX7_radio cX7_radio 3 (some .int) 1 := ⟨⟨mw_1152, mw_1153, mw_1154, mw_59, mw_1155⟩, by decide +kernel⟩
theorem lk_RL_170 : LkV RL 170 RX7 yX7_together cX7_together 6 (some .int) 3 := ⟨⟨mw_1422, mw_1423, mw_1424, mw_59, mw_1425⟩, by decide +kernel⟩
theorem lk_RL_171 : LkV RL 171 RX6 yX6_ranked cX6_ranked 5 (some .int) 2 := ⟨⟨mw_989, mw_990, mw_991, mw_52, mw_992⟩, by decide +kernel⟩
theorem lk_RL_174 : LkV RL 174 RX7 yX7_ranked cX7_ranked 7 (some .int) 2 := ⟨⟨mw_1430, mw_1431, mw_1432, mw_59, mw_1433⟩, by decide +kernel⟩
theorem lk_RL_175 : LkV RL 175 RX6 yX6_quiet cX6_quiet 6 (some .int) 2 := ⟨⟨mw_997, mw_998, mw_999, mw_52, mw_1000⟩, by decide +kernel⟩
theorem lk_RL_178 : LkV RL 178 RX7 yX7_quiet cX7_quiet 5 (some .int) 2 := ⟨⟨mw_1438, mw_1439, mw_1440, mw_59, mw_1441⟩, by decide +kernel⟩
theorem lk_RL_179 : LkV RL 179 RX6 yX6_bestShare cX6_bestShare 6 (some .int) 1 := ⟨⟨mw_1001, mw_1002, mw_1003, mw_52, mw_1004⟩, by decide +kernel⟩
theorem lk_RL_18 : LkV RL 18 RX6 yX6_net cX6_net 4 (some .int) 3 := ⟨⟨mw_503, mw_504, mw_505, mw_52, mw_506⟩, by decide +kernel⟩
theorem lk_RL_182 : LkV RL 182 RX7 yX7_bestShare cX7_bestShare 6 (some .int) 1 := ⟨⟨mw_1463, mw_1464, mw_1465, mw_59, mw_1466⟩, by decide +kernel⟩
theorem lk_RL_183 : LkV RL 183 RX6 yX6_ofNet cX6_ofNet 4 (some .int) 2 := ⟨⟨mw_1005, mw_1006, mw_1007, mw_52, mw_1008⟩, by decide +kernel⟩
theorem lk_RL_186 : LkV RL 186 RX7 yX7_ofNet cX7_ofNet 4 (some .int) 2 := ⟨⟨mw_1467, mw_1468, mw_1469, mw_59, mw_1470⟩, by decide +kernel⟩
theorem lk_RL_187 : LkV RL 187 RX6 yX6_count cX6_count 2 (some .int) 1 := ⟨⟨mw_1009, mw_1010, mw_1011, mw_52, mw_1012⟩, by decide +kernel⟩
theorem lk_RL_190 : LkV RL 190 RX7 yX7_count cX7_count 2 (some .int) 1 := ⟨⟨mw_1471, mw_1472, mw_1473, mw_59, mw_1474⟩, by decide +kernel⟩
theorem lk_RL_191 : LkV RL 191 RX6 yX6_status cX6_status 1 (some .int) 0 := ⟨⟨mw_1017, mw_1018, mw_1019, mw_52, mw_1020⟩, by decide +kernel⟩
theorem lk_RL_194 : LkV RL 194 RX7 yX7_status cX7_status 1 (some .int) 0 := ⟨⟨mw_1481, mw_1482, mw_1483, mw_59, mw_1484⟩, by decide +kernel⟩
theorem lk_RL_22 : LkV RL 22 RX7 yX7_net cX7_net 6 (some .int) 3 := ⟨⟨mw_1160, mw_1161, mw_1162, mw_59, mw_1163⟩, by decide +kernel⟩
theorem lk_RL_23 : LkV RL 23 RX6 yX6_join cX6_join 4 (some .int) 2 := ⟨⟨mw_512, mw_513, mw_514, mw_52, mw_515⟩, by decide +kernel⟩
theorem lk_RL_27 : LkV RL 27 RX7 yX7_join cX7_join 7 (some .int) 2 := ⟨⟨mw_1170, mw_1171, mw_1172, mw_59, mw_1173⟩, by decide +kernel⟩
theorem lk_RL_28 : LkV RL 28 RX6 yX6_leave cX6_leave 4 (some .int) 2 := ⟨⟨mw_540, mw_541, mw_542, mw_52, mw_543⟩, by decide +kernel⟩
theorem lk_RL_31 : LkV RL 31 RX7 yX7_leave cX7_leave 5 (some .int) 2 := ⟨⟨mw_1178, mw_1179, mw_1180, mw_59, mw_1181⟩, by decide +kernel⟩
theorem lk_RL_32 : LkV RL 32 RX6 yX6_noise cX6_noise 4 (some .int) 2 := ⟨⟨mw_553, mw_554, mw_555, mw_52, mw_556⟩, by decide +kernel⟩
theorem lk_RL_35 : LkV RL 35 RX7 yX7_noise cX7_noise 4 (some .int) 2 := ⟨⟨mw_1182, mw_1183, mw_1184, mw_59, mw_1185⟩, by decide +kernel⟩
theorem lk_RL_36 : LkV RL 36 RX6 yX6_terms cX6_terms 4 (some .int) 2 := ⟨⟨mw_557, mw_558, mw_559, mw_52, mw_560⟩, by decide +kernel⟩
theorem lk_RL_39 : LkV RL 39 RX7 yX7_terms cX7_terms 4 (some .int) 2 := ⟨⟨mw_1188, mw_1189, mw_1190, mw_59, mw_1191⟩, by decide +kernel⟩
theorem lk_RL_40 : LkV RL 40 RX6 yX6_put cX6_put 7 (some .int) 4 := ⟨⟨mw_568, mw_569, mw_570, mw_52, mw_571⟩, by decide +kernel⟩
theorem lk_RL_44 : LkV RL 44 RX7 yX7_put cX7_put 7 (some .int) 4 := ⟨⟨mw_1199, mw_1200, mw_1201, mw_59, mw_1202⟩, by decide +kernel⟩
theorem lk_RL_45 : LkV RL 45 RX6 yX6_reserve cX6_reserve 9 (some .int) 5 := ⟨⟨mw_586, mw_587, mw_588, mw_52, mw_589⟩, by decide +kernel⟩
theorem lk_RL_49 : LkV RL 49 RX7 yX7_reserve cX7_reserve 8 (some .int) 5 := ⟨⟨mw_1223, mw_1224, mw_1225, mw_59, mw_1226⟩, by decide +kernel⟩
theorem lk_RL_50 : LkV RL 50 RX6 yX6_sniff cX6_sniff 8 (some .int) 4 := ⟨⟨mw_591, mw_592, mw_593, mw_52, mw_594⟩, by decide +kernel⟩
theorem lk_RL_53 : LkV RL 53 RX7 yX7_sniff cX7_sniff 7 (some .int) 4 := ⟨⟨mw_1208, mw_1209, mw_1210, mw_59, mw_1211⟩, by decide +kernel⟩
theorem lk_RL_54 : LkV RL 54 RX6 yX6_weigh cX6_weigh 6 (some .int) 3 := ⟨⟨mw_595, mw_596, mw_597, mw_52, mw_598⟩, by decide +kernel⟩
theorem lk_RL_57 : LkV RL 57 RX7 yX7_weigh cX7_weigh 6 (some .int) 3 := ⟨⟨mw_1215, mw_1216, mw_1217, mw_59, mw_1218⟩, by decide +kernel⟩
theorem lk_RL_58 : LkV RL 58 RX6 yX6_cast cX6_cast 4 (some .int) 2 := ⟨⟨mw_599, mw_600, mw_601, mw_52, mw_602⟩, by decide +kernel⟩
theorem lk_RL_61 : LkV RL 61 RX7 yX7_cast cX7_cast 4 (some .int) 2 := ⟨⟨mw_1219, mw_1220, mw_1221, mw_59, mw_1222⟩, by decide +kernel⟩
theorem lk_RL_62 : LkV RL 62 RX6 yX6_map cX6_map 5 (some .int) 3 := ⟨⟨mw_603, mw_604, mw_605, mw_52, mw_606⟩, by decide +kernel⟩
theorem lk_RL_65 : LkV RL 65 RX7 yX7_map cX7_map 4 (some .int) 3 := ⟨⟨mw_1228, mw_1229, mw_1230, mw_59, mw_1231⟩, by decide +kernel⟩
theorem lk_RL_66 : LkV RL 66 RX6 yX6_adapt cX6_adapt 7 (some .int) 3 := ⟨⟨mw_633, mw_634, mw_635, mw_52, mw_636⟩, by decide +kernel⟩
theorem lk_RL_69 : LkV RL 69 RX7 yX7_adapt cX7_adapt 8 (some .int) 3 := ⟨⟨mw_1238, mw_1239, mw_1240, mw_59, mw_1241⟩, by decide +kernel⟩
theorem lk_RL_70 : LkV RL 70 RX6 yX6_run cX6_run 2 (some .int) 1 := ⟨⟨mw_645, mw_646, mw_647, mw_52, mw_648⟩, by decide +kernel⟩
theorem lk_RL_73 : LkV RL 73 RX7 yX7_run cX7_run 2 (some .int) 1 := ⟨⟨mw_1251, mw_1252, mw_1253, mw_59, mw_1254⟩, by decide +kernel⟩
theorem lk_RL_74 : LkV RL 74 RX6 yX6_undo cX6_undo 1 (some .int) 0 := ⟨⟨mw_833, mw_834, mw_835, mw_52, mw_836⟩, by decide +kernel⟩
theorem lk_RL_78 : LkV RL 78 RX7 yX7_undo cX7_undo 1 (some .int) 0 := ⟨⟨mw_1082, mw_1083, mw_1084, mw_59, mw_1085⟩, by decide +kernel⟩
theorem lk_RL_79 : LkV RL 79 RX6 yX6_image cX6_image 2 (some .int) 1 := ⟨⟨mw_837, mw_838, mw_839, mw_52, mw_840⟩, by decide +kernel⟩
theorem lk_RL_82 : LkV RL 82 RX7 yX7_image cX7_image 2 (some .int) 1 := ⟨⟨mw_1097, mw_1098, mw_1099, mw_59, mw_1100⟩, by decide +kernel⟩
theorem lk_RL_83 : LkV RL 83 RX6 yX6_back cX6_back 2 (some .int) 1 := ⟨⟨mw_841, mw_842, mw_843, mw_52, mw_844⟩, by decide +kernel⟩
theorem lk_RL_86 : LkV RL 86 RX7 yX7_back cX7_back 2 (some .int) 1 := ⟨⟨mw_1104, mw_1105, mw_1106, mw_59, mw_1107⟩, by decide +kernel⟩
theorem lk_RL_87 : LkV RL 87 RX6 yX6_kernel cX6_kernel 3 (some .int) 2 := ⟨⟨mw_845, mw_846, mw_847, mw_52, mw_848⟩, by decide +kernel⟩
theorem lk_RL_90 : LkV RL 90 RX7 yX7_kernel cX7_kernel 3 (some .int) 2 := ⟨⟨mw_1108, mw_1109, mw_1110, mw_59, mw_1111⟩, by decide +kernel⟩
theorem lk_RL_91 : LkV RL 91 RX6 yX6_hop cX6_hop 5 (some .int) 3 := ⟨⟨mw_851, mw_852, mw_853, mw_52, mw_854⟩, by decide +kernel⟩
theorem lk_RL_94 : LkV RL 94 RX7 yX7_hop cX7_hop 4 (some .int) 3 := ⟨⟨mw_1119, mw_1120, mw_1121, mw_59, mw_1122⟩, by decide +kernel⟩
theorem lk_RL_95 : LkV RL 95 RX6 yX6_alike cX6_alike 6 (some .int) 3 := ⟨⟨mw_864, mw_865, mw_866, mw_52, mw_867⟩, by decide +kernel⟩
theorem lk_RL_98 : LkV RL 98 RX7 yX7_alike cX7_alike 8 (some .int) 3 := ⟨⟨mw_1336, mw_1337, mw_1338, mw_59, mw_1339⟩, by decide +kernel⟩
theorem lk_RL_99 : LkV RL 99 RX6 yX6_mapOf cX6_mapOf 5 (some .int) 3 := ⟨⟨mw_875, mw_876, mw_877, mw_52, mw_878⟩, by decide +kernel⟩
section OP
variable {p : Program} {l : Launch} {e : Env} {s : State} {m : MethodId} {below : List Frame} {meth : Method} {c : Code} {H : Heap} {locs : List Loc} {cells slots : Nat} {Q : State → Prop} {ls : Array Slot} {E : hE} {b pc L : Nat} {xs : Nat → Int32} {rest : List Value} {R : Room} {args : Array Value} {ρ : Nat → Nat → Int32} {j : Nat}
theorem sldn {q : Nat} {i : Int32} (B : MB p s m args c code 4 RL E) (hX : va_X b L xs s s.heap) (hbl : b < s.heap.size) (hbA : ¬ hA E b) (hS : va_S (hA E) s.heap H locs) (hL : L ≤ 3072) (hi : i = nI q) (hj : q < L) (hd : decode code pc = .ok (.iaload, 1)) (kk : W p l e R s m args below meth c H locs cells slots Q (F0 m (pc + 1) ls (.int (xs q) :: rest))) : W p l e R s m args below meth c H locs cells slots Q (F0 m pc ls (.int i :: .ref b :: rest)) := by
  subst hi
  refine va_sld B.1.1 B.1.2.1 hX hbl hbA hS (vp_in_nI hj (by omega)) hd ?_
  rw [nI_clamp (by omega)]
  exact kk
set_option maxHeartbeats 4000000 in
set_option maxRecDepth 100000 in
theorem op_0 (B : MB p s m #[Value.ref b] c code 4 RL E) (hl : lv_has ls 4 [(3, .int (nI j)), (2, .ref (E.2.1 + 1076)), (1, .ref (E.2.1 + 0)), (0, .ref b)]) (hP : WP E ρ H) (hS : va_S (hA E) s.heap H locs) (hX : va_X b L xs s s.heap) (hbl : b < s.heap.size) (hbA : ¬ hA E b) (hI : LI ρ) (hj : j + 6 ≤ L) (hL : L ≤ 3072) (kk : ∀ (ρ : Nat → Nat → Int32) (H : Heap) (locs : List Loc), LI ρ → WP E ρ H → va_S (hA E) s.heap H locs → W p l e room_1 s m #[Value.ref b] below meth c H locs 1090 19159 Q (F0 m 1796 ls [])) : W p l e room_1 s m #[Value.ref b] below meth c H locs 1090 19159 Q (F0 m 224 ls []) := by
  have hx := B.1.1
  have hb := B.1.2.1
  refine lv_aload_n hx hb dL_law_224 rfl (lv_at hl 2 rfl) ?_
  refine lv_aload_n hx hb dL_law_225 rfl (lv_at hl 3 rfl) ?_
  refine lv_iload_n hx hb dL_law_226 rfl (lv_at hl 0 rfl) ?_
  refine lv_iconst (v := 1) hx hb dL_law_227 (by decide) ?_
  refine lv_iadd hx hb dL_law_228 ?_
  refine lv_topi (fun z1 ez1 => ?_)
  obtain rfl : z1 = (nI (1 + j)) := ez1.trans (by rw [show (nI j) = nI j from rfl, show 1 = nI 1 from rfl, nI_add] <;> exact congrArg nI (by omega))
  refine sldn (q := (1 + j)) B hX hbl hbA hS hL rfl (by omega) dL_law_229 ?_
  refine call_i (cVt (k := 0) (av := [.int (xs (1 + j))]) (rest := []) B hP hS (d_X6_radio l E ρ ρ (xs (1 + j)) hI.1) lk_RL_13 (hrecv (ci := 6) B hP (by decide) (hcc6 _ _ (show hk 0 = 6 by decide +kernel)) rfl) rfl rfl hl.1 (Nat.le_of_ble_eq_true rfl) ⟨Nat.le_of_ble_eq_true rfl, Nat.le_of_ble_eq_true rfl⟩ ⟨Nat.le_of_ble_eq_true rfl, Nat.le_of_ble_eq_true rfl⟩ dL_law_230) hS (fun r1 ρ1 H locs q1 hP hS => ?_)
  have hC : CI ρ S0 ρ1 := q1
  refine lv_pop hx hb dL_law_233 rfl ?_
  refine lv_aload_n hx hb dL_law_234 rfl (lv_at hl 1 rfl) ?_
  refine lv_aload_n hx hb dL_law_235 rfl (lv_at hl 3 rfl) ?_
  refine lv_iload_n hx hb dL_law_236 rfl (lv_at hl 0 rfl) ?_
  refine lv_iconst (v := 1) hx hb dL_law_237 (by decide) ?_
  refine lv_iadd hx hb dL_law_238 ?_
  refine lv_topi (fun z2 ez2 => ?_)
  obtain rfl : z2 = (nI (1 + j)) := ez2.trans (by rw [show (nI j) = nI j from rfl, show 1 = nI 1 from rfl, nI_add] <;> exact congrArg nI (by omega))
  refine sldn (q := (1 + j)) B hX hbl hbA hS hL rfl (by omega) dL_law_239 ?_
  have hp1 := PI_cls hI.2 hC
  obtain ⟨M, LL, hG⟩ := hp1.2.1
  refine call_i (cVt (k := 1076) (av := [.int (xs (1 + j))]) (rest := []) B hP hS (d_X7_radio l E ρ1 ρ1 M LL ⟨hp1, hG⟩ (xs (1 + j))) lk_RL_17 (hrecv (ci := 7) B hP (by decide) (hcc7 _ _ (show hk 1076 = 7 by decide +kernel)) rfl) rfl rfl hl.1 (Nat.le_of_ble_eq_true rfl) ⟨Nat.le_of_ble_eq_true rfl, Nat.le_of_ble_eq_true rfl⟩ ⟨Nat.le_of_ble_eq_true rfl, Nat.le_of_ble_eq_true rfl⟩ dL_law_240) hS (fun r2 ρ2 H locs q2 hP hS => ?_)
  have hp : PI ρ1 ρ2 := q2.1
  refine lv_pop hx hb dL_law_243 rfl ?_
  refine lv_goto (tgt := 1796) hx hb dL_law_244 (by decide) ?_
  exact kk ρ2 _ _ (LI_step hC hp) hP hS
set_option maxHeartbeats 4000000 in
set_option maxRecDepth 100000 in
theorem op_1 (B : MB p s m #[Value.ref b] c code 4 RL E) (hl : lv_has ls 4 [(3, .int (nI j)), (2, .ref (E.2.1 + 1076)), (1, .ref (E.2.1 + 0)), (0, .ref b)]) (hP : WP E ρ H) (hS : va_S (hA E) s.heap H locs) (hX : va_X b L xs s s.heap) (hbl : b < s.heap.size) (hbA : ¬ hA E b) (hI : LI ρ) (hj : j + 6 ≤ L) (hL : L ≤ 3072) (kk : ∀ (ρ : Nat → Nat → Int32) (H : Heap) (locs : List Loc), LI ρ → WP E ρ H → va_S (hA E) s.heap H locs → W p l e room_1 s m #[Value.ref b] below meth c H locs 1090 19159 Q (F0 m 1796 ls [])) : W p l e room_1 s m #[Value.ref b] below meth c H locs 1090 19159 Q (F0 m 247 ls []) := by
  have hx := B.1.1
  have hb := B.1.2.1
  refine lv_aload_n hx hb dL_law_247 rfl (lv_at hl 2 rfl) ?_
  refine lv_aload_n hx hb dL_law_248 rfl (lv_at hl 3 rfl) ?_
  refine lv_iload_n hx hb dL_law_249 rfl (lv_at hl 0 rfl) ?_
  refine lv_iconst (v := 1) hx hb dL_law_250 (by decide) ?_
  refine lv_iadd hx hb dL_law_251 ?_
  refine lv_topi (fun z1 ez1 => ?_)
  obtain rfl : z1 = (nI (1 + j)) := ez1.trans (by rw [show (nI j) = nI j from rfl, show 1 = nI 1 from rfl, nI_add] <;> exact congrArg nI (by omega))
  refine sldn (q := (1 + j)) B hX hbl hbA hS hL rfl (by omega) dL_law_252 ?_
  refine lv_aload_n hx hb dL_law_253 rfl (lv_at hl 3 rfl) ?_
  refine lv_iload_n hx hb dL_law_254 rfl (lv_at hl 0 rfl) ?_
  refine lv_iconst (v := 2) hx hb dL_law_255 (by decide) ?_
  refine lv_iadd hx hb dL_law_256 ?_
  refine lv_topi (fun z2 ez2 => ?_)
  obtain rfl : z2 = (nI (2 + j)) := ez2.trans (by rw [show (nI j) = nI j from rfl, show 2 = nI 2 from rfl, nI_add] <;> exact congrArg nI (by omega))
  refine sldn (q := (2 + j)) B hX hbl hbA hS hL rfl (by omega) dL_law_257 ?_
  refine lv_aload_n hx hb dL_law_258 rfl (lv_at hl 3 rfl) ?_
  refine lv_iload_n hx hb dL_law_259 rfl (lv_at hl 0 rfl) ?_
  refine lv_iconst (v := 3) hx hb dL_law_260 (by decide) ?_
  refine lv_iadd hx hb dL_law_261 ?_
  refine lv_topi (fun z3 ez3 => ?_)
  obtain rfl : z3 = (nI (3 + j)) := ez3.trans (by rw [show (nI j) = nI j from rfl, show 3 = nI 3 from rfl, nI_add] <;> exact congrArg nI (by omega))
  refine sldn (q := (3 + j)) B hX hbl hbA hS hL rfl (by omega) dL_law_262 ?_
  refine call_i (cVt (k := 0) (av := [.int (xs (1 + j)), .int (xs (2 + j)), .int (xs (3 + j))]) (rest := []) B hP hS (d_X6_net l E ρ ρ (xs (1 + j)) (xs (2 + j)) (xs (3 + j)) hI.1) lk_RL_18 (hrecv (ci := 6) B hP (by decide) (hcc6 _ _ (show hk 0 = 6 by decide +kernel)) rfl) rfl rfl hl.1 (Nat.le_of_ble_eq_true rfl) ⟨Nat.le_of_ble_eq_true rfl, Nat.le_of_ble_eq_true rfl⟩ ⟨Nat.le_of_ble_eq_true rfl, Nat.le_of_ble_eq_true rfl⟩ dL_law_263) hS (fun r1 ρ1 H locs q1 hP hS => ?_)
  have hC : CI ρ S0 ρ1 := q1
  refine lv_pop hx hb dL_law_266 rfl ?_
  refine lv_aload_n hx hb dL_law_267 rfl (lv_at hl 1 rfl) ?_
  refine lv_aload_n hx hb dL_law_268 rfl (lv_at hl 3 rfl) ?_
  refine lv_iload_n hx hb dL_law_269 rfl (lv_at hl 0 rfl) ?_
  refine lv_iconst (v := 1) hx hb dL_law_270 (by decide) ?_
  refine lv_iadd hx hb dL_law_271 ?_
  refine lv_topi (fun z4 ez4 => ?_)
  obtain rfl : z4 = (nI (1 + j)) := ez4.trans (by rw [show (nI j) = nI j from rfl, show 1 = nI 1 from rfl, nI_add] <;> exact congrArg nI (by omega))
  refine sldn (q := (1 + j)) B hX hbl hbA hS hL rfl (by omega) dL_law_272 ?_
  refine lv_aload_n hx hb dL_law_273 rfl (lv_at hl 3 rfl) ?_
  refine lv_iload_n hx hb dL_law_274 rfl (lv_at hl 0 rfl) ?_
  refine lv_iconst (v := 2) hx hb dL_law_275 (by decide) ?_
  refine lv_iadd hx hb dL_law_276 ?_
  refine lv_topi (fun z5 ez5 => ?_)
  obtain rfl : z5 = (nI (2 + j)) := ez5.trans (by rw [show (nI j) = nI j from rfl, show 2 = nI 2 from rfl, nI_add] <;> exact congrArg nI (by omega))
  refine sldn (q := (2 + j)) B hX hbl hbA hS hL rfl (by omega) dL_law_277 ?_
  refine lv_aload_n hx hb dL_law_278 rfl (lv_at hl 3 rfl) ?_
  refine lv_iload_n hx hb dL_law_279 rfl (lv_at hl 0 rfl) ?_
  refine lv_iconst (v := 3) hx hb dL_law_280 (by decide) ?_
  refine lv_iadd hx hb dL_law_281 ?_
  refine lv_topi (fun z6 ez6 => ?_)
  obtain rfl : z6 = (nI (3 + j)) := ez6.trans (by rw [show (nI j) = nI j from rfl, show 3 = nI 3 from rfl, nI_add] <;> exact congrArg nI (by omega))
  refine sldn (q := (3 + j)) B hX hbl hbA hS hL rfl (by omega) dL_law_282 ?_
  have hp1 := PI_cls hI.2 hC
  obtain ⟨M, LL, hG⟩ := hp1.2.1
  refine call_i (cVt (k := 1076) (av := [.int (xs (1 + j)), .int (xs (2 + j)), .int (xs (3 + j))]) (rest := []) B hP hS (d_X7_net l E ρ1 ρ1 M LL ⟨hp1, hG⟩ (xs (1 + j)) (xs (2 + j)) (xs (3 + j))) lk_RL_22 (hrecv (ci := 7) B hP (by decide) (hcc7 _ _ (show hk 1076 = 7 by decide +kernel)) rfl) rfl rfl hl.1 (Nat.le_of_ble_eq_true rfl) ⟨Nat.le_of_ble_eq_true rfl, Nat.le_of_ble_eq_true rfl⟩ ⟨Nat.le_of_ble_eq_true rfl, Nat.le_of_ble_eq_true rfl⟩ dL_law_283) hS (fun r2 ρ2 H locs q2 hP hS => ?_)
  have hp : PI ρ1 ρ2 := q2
  refine lv_pop hx hb dL_law_286 rfl ?_
  refine lv_goto (tgt := 1796) hx hb dL_law_287 (by decide) ?_
  exact kk ρ2 _ _ (LI_step hC hp) hP hS
set_option maxHeartbeats 4000000 in
set_option maxRecDepth 100000 in
theorem op_2 (B : MB p s m #[Value.ref b] c code 4 RL E) (hl : lv_has ls 4 [(3, .int (nI j)), (2, .ref (E.2.1 + 1076)), (1, .ref (E.2.1 + 0)), (0, .ref b)]) (hP : WP E ρ H) (hS : va_S (hA E) s.heap H locs) (hX : va_X b L xs s s.heap) (hbl : b < s.heap.size) (hbA : ¬ hA E b) (hI : LI ρ) (hj : j + 6 ≤ L) (hL : L ≤ 3072) (kk : ∀ (ρ : Nat → Nat → Int32) (H : Heap) (locs : List Loc), LI ρ → WP E ρ H → va_S (hA E) s.heap H locs → W p l e room_1 s m #[Value.ref b] below meth c H locs 1090 19159 Q (F0 m 1796 ls [])) : W p l e room_1 s m #[Value.ref b] below meth c H locs 1090 19159 Q (F0 m 290 ls []) := by
  have hx := B.1.1
  have hb := B.1.2.1
  refine lv_aload_n hx hb dL_law_290 rfl (lv_at hl 2 rfl) ?_
  refine lv_aload_n hx hb dL_law_291 rfl (lv_at hl 3 rfl) ?_
  refine lv_iload_n hx hb dL_law_292 rfl (lv_at hl 0 rfl) ?_
  refine lv_iconst (v := 1) hx hb dL_law_293 (by decide) ?_
  refine lv_iadd hx hb dL_law_294 ?_
  refine lv_topi (fun z1 ez1 => ?_)
  obtain rfl : z1 = (nI (1 + j)) := ez1.trans (by rw [show (nI j) = nI j from rfl, show 1 = nI 1 from rfl, nI_add] <;> exact congrArg nI (by omega))
  refine sldn (q := (1 + j)) B hX hbl hbA hS hL rfl (by omega) dL_law_295 ?_
  refine lv_aload_n hx hb dL_law_296 rfl (lv_at hl 3 rfl) ?_
  refine lv_iload_n hx hb dL_law_297 rfl (lv_at hl 0 rfl) ?_
  refine lv_iconst (v := 2) hx hb dL_law_298 (by decide) ?_
  refine lv_iadd hx hb dL_law_299 ?_
  refine lv_topi (fun z2 ez2 => ?_)
  obtain rfl : z2 = (nI (2 + j)) := ez2.trans (by rw [show (nI j) = nI j from rfl, show 2 = nI 2 from rfl, nI_add] <;> exact congrArg nI (by omega))
  refine sldn (q := (2 + j)) B hX hbl hbA hS hL rfl (by omega) dL_law_300 ?_
  refine call_i (cVt (k := 0) (av := [.int (xs (1 + j)), .int (xs (2 + j))]) (rest := []) B hP hS (d_X6_join l E ρ ρ (xs (1 + j)) (xs (2 + j)) hI.1) lk_RL_23 (hrecv (ci := 6) B hP (by decide) (hcc6 _ _ (show hk 0 = 6 by decide +kernel)) rfl) rfl rfl hl.1 (Nat.le_of_ble_eq_true rfl) ⟨Nat.le_of_ble_eq_true rfl, Nat.le_of_ble_eq_true rfl⟩ ⟨Nat.le_of_ble_eq_true rfl, Nat.le_of_ble_eq_true rfl⟩ dL_law_301) hS (fun r1 ρ1 H locs q1 hP hS => ?_)
  have hC : CI ρ S0 ρ1 := q1
  refine lv_pop hx hb dL_law_304 rfl ?_
  refine lv_aload_n hx hb dL_law_305 rfl (lv_at hl 1 rfl) ?_
  refine lv_aload_n hx hb dL_law_306 rfl (lv_at hl 3 rfl) ?_
  refine lv_iload_n hx hb dL_law_307 rfl (lv_at hl 0 rfl) ?_
  refine lv_iconst (v := 1) hx hb dL_law_308 (by decide) ?_
  refine lv_iadd hx hb dL_law_309 ?_
  refine lv_topi (fun z3 ez3 => ?_)
  obtain rfl : z3 = (nI (1 + j)) := ez3.trans (by rw [show (nI j) = nI j from rfl, show 1 = nI 1 from rfl, nI_add] <;> exact congrArg nI (by omega))
  refine sldn (q := (1 + j)) B hX hbl hbA hS hL rfl (by omega) dL_law_310 ?_
  refine lv_aload_n hx hb dL_law_311 rfl (lv_at hl 3 rfl) ?_
  refine lv_iload_n hx hb dL_law_312 rfl (lv_at hl 0 rfl) ?_
  refine lv_iconst (v := 2) hx hb dL_law_313 (by decide) ?_
  refine lv_iadd hx hb dL_law_314 ?_
  refine lv_topi (fun z4 ez4 => ?_)
  obtain rfl : z4 = (nI (2 + j)) := ez4.trans (by rw [show (nI j) = nI j from rfl, show 2 = nI 2 from rfl, nI_add] <;> exact congrArg nI (by omega))
  refine sldn (q := (2 + j)) B hX hbl hbA hS hL rfl (by omega) dL_law_315 ?_
  have hp1 := PI_cls hI.2 hC
  obtain ⟨M, LL, hG⟩ := hp1.2.1
  refine call_i (cVt (k := 1076) (av := [.int (xs (1 + j)), .int (xs (2 + j))]) (rest := []) B hP hS (d_X7_join l E ρ1 ρ1 M LL ⟨hp1, hG⟩ (xs (1 + j)) (xs (2 + j))) lk_RL_27 (hrecv (ci := 7) B hP (by decide) (hcc7 _ _ (show hk 1076 = 7 by decide +kernel)) rfl) rfl rfl hl.1 (Nat.le_of_ble_eq_true rfl) ⟨Nat.le_of_ble_eq_true rfl, Nat.le_of_ble_eq_true rfl⟩ ⟨Nat.le_of_ble_eq_true rfl, Nat.le_of_ble_eq_true rfl⟩ dL_law_316) hS (fun r2 ρ2 H locs q2 hP hS => ?_)
  have hp : PI ρ1 ρ2 := q2
  refine lv_pop hx hb dL_law_319 rfl ?_
  refine lv_goto (tgt := 1796) hx hb dL_law_320 (by decide) ?_
  exact kk ρ2 _ _ (LI_step hC hp) hP hS
set_option maxHeartbeats 4000000 in
set_option maxRecDepth 100000 in
theorem op_3 (B : MB p s m #[Value.ref b] c code 4 RL E) (hl : lv_has ls 4 [(3, .int (nI j)), (2, .ref (E.2.1 + 1076)), (1, .ref (E.2.1 + 0)), (0, .ref b)]) (hP : WP E ρ H) (hS : va_S (hA E) s.heap H locs) (hX : va_X b L xs s s.heap) (hbl : b < s.heap.size) (hbA : ¬ hA E b) (hI : LI ρ) (hj : j + 6 ≤ L) (hL : L ≤ 3072) (kk : ∀ (ρ : Nat → Nat → Int32) (H : Heap) (locs : List Loc), LI ρ → WP E ρ H → va_S (hA E) s.heap H locs → W p l e room_1 s m #[Value.ref b] below meth c H locs 1090 19159 Q (F0 m 1796 ls [])) : W p l e room_1 s m #[Value.ref b] below meth c H locs 1090 19159 Q (F0 m 323 ls []) := by
  have hx := B.1.1
  have hb := B.1.2.1
  refine lv_aload_n hx hb dL_law_323 rfl (lv_at hl 2 rfl) ?_
  refine lv_aload_n hx hb dL_law_324 rfl (lv_at hl 3 rfl) ?_
  refine lv_iload_n hx hb dL_law_325 rfl (lv_at hl 0 rfl) ?_
  refine lv_iconst (v := 1) hx hb dL_law_326 (by decide) ?_
  refine lv_iadd hx hb dL_law_327 ?_
  refine lv_topi (fun z1 ez1 => ?_)
  obtain rfl : z1 = (nI (1 + j)) := ez1.trans (by rw [show (nI j) = nI j from rfl, show 1 = nI 1 from rfl, nI_add] <;> exact congrArg nI (by omega))
  refine sldn (q := (1 + j)) B hX hbl hbA hS hL rfl (by omega) dL_law_328 ?_
  refine lv_aload_n hx hb dL_law_329 rfl (lv_at hl 3 rfl) ?_
  refine lv_iload_n hx hb dL_law_330 rfl (lv_at hl 0 rfl) ?_
  refine lv_iconst (v := 2) hx hb dL_law_331 (by decide) ?_
  refine lv_iadd hx hb dL_law_332 ?_
  refine lv_topi (fun z2 ez2 => ?_)
  obtain rfl : z2 = (nI (2 + j)) := ez2.trans (by rw [show (nI j) = nI j from rfl, show 2 = nI 2 from rfl, nI_add] <;> exact congrArg nI (by omega))
  refine sldn (q := (2 + j)) B hX hbl hbA hS hL rfl (by omega) dL_law_333 ?_
  refine call_i (cVt (k := 0) (av := [.int (xs (1 + j)), .int (xs (2 + j))]) (rest := []) B hP hS (d_X6_leave l E ρ ρ (xs (1 + j)) (xs (2 + j)) hI.1) lk_RL_28 (hrecv (ci := 6) B hP (by decide) (hcc6 _ _ (show hk 0 = 6 by decide +kernel)) rfl) rfl rfl hl.1 (Nat.le_of_ble_eq_true rfl) ⟨Nat.le_of_ble_eq_true rfl, Nat.le_of_ble_eq_true rfl⟩ ⟨Nat.le_of_ble_eq_true rfl, Nat.le_of_ble_eq_true rfl⟩ dL_law_334) hS (fun r1 ρ1 H locs q1 hP hS => ?_)
  have hC : CI ρ S0 ρ1 := q1
  refine lv_pop hx hb dL_law_337 rfl ?_
  refine lv_aload_n hx hb dL_law_338 rfl (lv_at hl 1 rfl) ?_
  refine lv_aload_n hx hb dL_law_339 rfl (lv_at hl 3 rfl) ?_
  refine lv_iload_n hx hb dL_law_340 rfl (lv_at hl 0 rfl) ?_
  refine lv_iconst (v := 1) hx hb dL_law_341 (by decide) ?_
  refine lv_iadd hx hb dL_law_342 ?_
  refine lv_topi (fun z3 ez3 => ?_)
  obtain rfl : z3 = (nI (1 + j)) := ez3.trans (by rw [show (nI j) = nI j from rfl, show 1 = nI 1 from rfl, nI_add] <;> exact congrArg nI (by omega))
  refine sldn (q := (1 + j)) B hX hbl hbA hS hL rfl (by omega) dL_law_343 ?_
  refine lv_aload_n hx hb dL_law_344 rfl (lv_at hl 3 rfl) ?_
  refine lv_iload_n hx hb dL_law_345 rfl (lv_at hl 0 rfl) ?_
  refine lv_iconst (v := 2) hx hb dL_law_346 (by decide) ?_
  refine lv_iadd hx hb dL_law_347 ?_
  refine lv_topi (fun z4 ez4 => ?_)
  obtain rfl : z4 = (nI (2 + j)) := ez4.trans (by rw [show (nI j) = nI j from rfl, show 2 = nI 2 from rfl, nI_add] <;> exact congrArg nI (by omega))
  refine sldn (q := (2 + j)) B hX hbl hbA hS hL rfl (by omega) dL_law_348 ?_
  have hp1 := PI_cls hI.2 hC
  obtain ⟨M, LL, hG⟩ := hp1.2.1
  refine call_i (cVt (k := 1076) (av := [.int (xs (1 + j)), .int (xs (2 + j))]) (rest := []) B hP hS (d_X7_leave l E ρ1 ρ1 M LL ⟨hp1, hG⟩ (xs (1 + j)) (xs (2 + j))) lk_RL_31 (hrecv (ci := 7) B hP (by decide) (hcc7 _ _ (show hk 1076 = 7 by decide +kernel)) rfl) rfl rfl hl.1 (Nat.le_of_ble_eq_true rfl) ⟨Nat.le_of_ble_eq_true rfl, Nat.le_of_ble_eq_true rfl⟩ ⟨Nat.le_of_ble_eq_true rfl, Nat.le_of_ble_eq_true rfl⟩ dL_law_349) hS (fun r2 ρ2 H locs q2 hP hS => ?_)
  have hp : PI ρ1 ρ2 := q2
  refine lv_pop hx hb dL_law_352 rfl ?_
  refine lv_goto (tgt := 1796) hx hb dL_law_353 (by decide) ?_
  exact kk ρ2 _ _ (LI_step hC hp) hP hS
set_option maxHeartbeats 4000000 in
set_option maxRecDepth 100000 in
theorem op_4 (B : MB p s m #[Value.ref b] c code 4 RL E) (hl : lv_has ls 4 [(3, .int (nI j)), (2, .ref (E.2.1 + 1076)), (1, .ref (E.2.1 + 0)), (0, .ref b)]) (hP : WP E ρ H) (hS : va_S (hA E) s.heap H locs) (hX : va_X b L xs s s.heap) (hbl : b < s.heap.size) (hbA : ¬ hA E b) (hI : LI ρ) (hj : j + 6 ≤ L) (hL : L ≤ 3072) (kk : ∀ (ρ : Nat → Nat → Int32) (H : Heap) (locs : List Loc), LI ρ → WP E ρ H → va_S (hA E) s.heap H locs → W p l e room_1 s m #[Value.ref b] below meth c H locs 1090 19159 Q (F0 m 1796 ls [])) : W p l e room_1 s m #[Value.ref b] below meth c H locs 1090 19159 Q (F0 m 356 ls []) := by
  have hx := B.1.1
  have hb := B.1.2.1
  refine lv_aload_n hx hb dL_law_356 rfl (lv_at hl 2 rfl) ?_
  refine lv_aload_n hx hb dL_law_357 rfl (lv_at hl 3 rfl) ?_
  refine lv_iload_n hx hb dL_law_358 rfl (lv_at hl 0 rfl) ?_
  refine lv_iconst (v := 1) hx hb dL_law_359 (by decide) ?_
  refine lv_iadd hx hb dL_law_360 ?_
  refine lv_topi (fun z1 ez1 => ?_)
  obtain rfl : z1 = (nI (1 + j)) := ez1.trans (by rw [show (nI j) = nI j from rfl, show 1 = nI 1 from rfl, nI_add] <;> exact congrArg nI (by omega))
  refine sldn (q := (1 + j)) B hX hbl hbA hS hL rfl (by omega) dL_law_361 ?_
  refine lv_aload_n hx hb dL_law_362 rfl (lv_at hl 3 rfl) ?_
  refine lv_iload_n hx hb dL_law_363 rfl (lv_at hl 0 rfl) ?_
  refine lv_iconst (v := 2) hx hb dL_law_364 (by decide) ?_
  refine lv_iadd hx hb dL_law_365 ?_
  refine lv_topi (fun z2 ez2 => ?_)
  obtain rfl : z2 = (nI (2 + j)) := ez2.trans (by rw [show (nI j) = nI j from rfl, show 2 = nI 2 from rfl, nI_add] <;> exact congrArg nI (by omega))
  refine sldn (q := (2 + j)) B hX hbl hbA hS hL rfl (by omega) dL_law_366 ?_
  refine call_i (cVt (k := 0) (av := [.int (xs (1 + j)), .int (xs (2 + j))]) (rest := []) B hP hS (d_X6_noise l E ρ ρ (xs (1 + j)) (xs (2 + j)) hI.1) lk_RL_32 (hrecv (ci := 6) B hP (by decide) (hcc6 _ _ (show hk 0 = 6 by decide +kernel)) rfl) rfl rfl hl.1 (Nat.le_of_ble_eq_true rfl) ⟨Nat.le_of_ble_eq_true rfl, Nat.le_of_ble_eq_true rfl⟩ ⟨Nat.le_of_ble_eq_true rfl, Nat.le_of_ble_eq_true rfl⟩ dL_law_367) hS (fun r1 ρ1 H locs q1 hP hS => ?_)
  have hC : CI ρ S0 ρ1 := q1
  refine lv_pop hx hb dL_law_370 rfl ?_
  refine lv_aload_n hx hb dL_law_371 rfl (lv_at hl 1 rfl) ?_
  refine lv_aload_n hx hb dL_law_372 rfl (lv_at hl 3 rfl) ?_
  refine lv_iload_n hx hb dL_law_373 rfl (lv_at hl 0 rfl) ?_
  refine lv_iconst (v := 1) hx hb dL_law_374 (by decide) ?_
  refine lv_iadd hx hb dL_law_375 ?_
  refine lv_topi (fun z3 ez3 => ?_)
  obtain rfl : z3 = (nI (1 + j)) := ez3.trans (by rw [show (nI j) = nI j from rfl, show 1 = nI 1 from rfl, nI_add] <;> exact congrArg nI (by omega))
  refine sldn (q := (1 + j)) B hX hbl hbA hS hL rfl (by omega) dL_law_376 ?_
  refine lv_aload_n hx hb dL_law_377 rfl (lv_at hl 3 rfl) ?_
  refine lv_iload_n hx hb dL_law_378 rfl (lv_at hl 0 rfl) ?_
  refine lv_iconst (v := 2) hx hb dL_law_379 (by decide) ?_
  refine lv_iadd hx hb dL_law_380 ?_
  refine lv_topi (fun z4 ez4 => ?_)
  obtain rfl : z4 = (nI (2 + j)) := ez4.trans (by rw [show (nI j) = nI j from rfl, show 2 = nI 2 from rfl, nI_add] <;> exact congrArg nI (by omega))
  refine sldn (q := (2 + j)) B hX hbl hbA hS hL rfl (by omega) dL_law_381 ?_
  have hp1 := PI_cls hI.2 hC
  obtain ⟨M, LL, hG⟩ := hp1.2.1
  refine call_i (cVt (k := 1076) (av := [.int (xs (1 + j)), .int (xs (2 + j))]) (rest := []) B hP hS (d_X7_noise l E ρ1 ρ1 M LL ⟨hp1, hG⟩ (xs (1 + j)) (xs (2 + j))) lk_RL_35 (hrecv (ci := 7) B hP (by decide) (hcc7 _ _ (show hk 1076 = 7 by decide +kernel)) rfl) rfl rfl hl.1 (Nat.le_of_ble_eq_true rfl) ⟨Nat.le_of_ble_eq_true rfl, Nat.le_of_ble_eq_true rfl⟩ ⟨Nat.le_of_ble_eq_true rfl, Nat.le_of_ble_eq_true rfl⟩ dL_law_382) hS (fun r2 ρ2 H locs q2 hP hS => ?_)
  have hp : PI ρ1 ρ2 := q2.1
  refine lv_pop hx hb dL_law_385 rfl ?_
  refine lv_goto (tgt := 1796) hx hb dL_law_386 (by decide) ?_
  exact kk ρ2 _ _ (LI_step hC hp) hP hS
set_option maxHeartbeats 4000000 in
set_option maxRecDepth 100000 in
theorem op_5 (B : MB p s m #[Value.ref b] c code 4 RL E) (hl : lv_has ls 4 [(3, .int (nI j)), (2, .ref (E.2.1 + 1076)), (1, .ref (E.2.1 + 0)), (0, .ref b)]) (hP : WP E ρ H) (hS : va_S (hA E) s.heap H locs) (hX : va_X b L xs s s.heap) (hbl : b < s.heap.size) (hbA : ¬ hA E b) (hI : LI ρ) (hj : j + 6 ≤ L) (hL : L ≤ 3072) (kk : ∀ (ρ : Nat → Nat → Int32) (H : Heap) (locs : List Loc), LI ρ → WP E ρ H → va_S (hA E) s.heap H locs → W p l e room_1 s m #[Value.ref b] below meth c H locs 1090 19159 Q (F0 m 1796 ls [])) : W p l e room_1 s m #[Value.ref b] below meth c H locs 1090 19159 Q (F0 m 389 ls []) := by
  have hx := B.1.1
  have hb := B.1.2.1
  refine lv_aload_n hx hb dL_law_389 rfl (lv_at hl 2 rfl) ?_
  refine lv_aload_n hx hb dL_law_390 rfl (lv_at hl 3 rfl) ?_
  refine lv_iload_n hx hb dL_law_391 rfl (lv_at hl 0 rfl) ?_
  refine lv_iconst (v := 1) hx hb dL_law_392 (by decide) ?_
  refine lv_iadd hx hb dL_law_393 ?_
  refine lv_topi (fun z1 ez1 => ?_)
  obtain rfl : z1 = (nI (1 + j)) := ez1.trans (by rw [show (nI j) = nI j from rfl, show 1 = nI 1 from rfl, nI_add] <;> exact congrArg nI (by omega))
  refine sldn (q := (1 + j)) B hX hbl hbA hS hL rfl (by omega) dL_law_394 ?_
  refine lv_aload_n hx hb dL_law_395 rfl (lv_at hl 3 rfl) ?_
  refine lv_iload_n hx hb dL_law_396 rfl (lv_at hl 0 rfl) ?_
  refine lv_iconst (v := 2) hx hb dL_law_397 (by decide) ?_
  refine lv_iadd hx hb dL_law_398 ?_
  refine lv_topi (fun z2 ez2 => ?_)
  obtain rfl : z2 = (nI (2 + j)) := ez2.trans (by rw [show (nI j) = nI j from rfl, show 2 = nI 2 from rfl, nI_add] <;> exact congrArg nI (by omega))
  refine sldn (q := (2 + j)) B hX hbl hbA hS hL rfl (by omega) dL_law_399 ?_
  refine call_i (cVt (k := 0) (av := [.int (xs (1 + j)), .int (xs (2 + j))]) (rest := []) B hP hS (d_X6_terms l E ρ ρ (xs (1 + j)) (xs (2 + j)) hI.1) lk_RL_36 (hrecv (ci := 6) B hP (by decide) (hcc6 _ _ (show hk 0 = 6 by decide +kernel)) rfl) rfl rfl hl.1 (Nat.le_of_ble_eq_true rfl) ⟨Nat.le_of_ble_eq_true rfl, Nat.le_of_ble_eq_true rfl⟩ ⟨Nat.le_of_ble_eq_true rfl, Nat.le_of_ble_eq_true rfl⟩ dL_law_400) hS (fun r1 ρ1 H locs q1 hP hS => ?_)
  have hC : CI ρ S0 ρ1 := q1
  refine lv_pop hx hb dL_law_403 rfl ?_
  refine lv_aload_n hx hb dL_law_404 rfl (lv_at hl 1 rfl) ?_
  refine lv_aload_n hx hb dL_law_405 rfl (lv_at hl 3 rfl) ?_
  refine lv_iload_n hx hb dL_law_406 rfl (lv_at hl 0 rfl) ?_
  refine lv_iconst (v := 1) hx hb dL_law_407 (by decide) ?_
  refine lv_iadd hx hb dL_law_408 ?_
  refine lv_topi (fun z3 ez3 => ?_)
  obtain rfl : z3 = (nI (1 + j)) := ez3.trans (by rw [show (nI j) = nI j from rfl, show 1 = nI 1 from rfl, nI_add] <;> exact congrArg nI (by omega))
  refine sldn (q := (1 + j)) B hX hbl hbA hS hL rfl (by omega) dL_law_409 ?_
  refine lv_aload_n hx hb dL_law_410 rfl (lv_at hl 3 rfl) ?_
  refine lv_iload_n hx hb dL_law_411 rfl (lv_at hl 0 rfl) ?_
  refine lv_iconst (v := 2) hx hb dL_law_412 (by decide) ?_
  refine lv_iadd hx hb dL_law_413 ?_
  refine lv_topi (fun z4 ez4 => ?_)
  obtain rfl : z4 = (nI (2 + j)) := ez4.trans (by rw [show (nI j) = nI j from rfl, show 2 = nI 2 from rfl, nI_add] <;> exact congrArg nI (by omega))
  refine sldn (q := (2 + j)) B hX hbl hbA hS hL rfl (by omega) dL_law_414 ?_
  have hp1 := PI_cls hI.2 hC
  obtain ⟨M, LL, hG⟩ := hp1.2.1
  refine call_i (cVt (k := 1076) (av := [.int (xs (1 + j)), .int (xs (2 + j))]) (rest := []) B hP hS (d_X7_terms l E ρ1 ρ1 M LL ⟨hp1, hG⟩ (xs (1 + j)) (xs (2 + j))) lk_RL_39 (hrecv (ci := 7) B hP (by decide) (hcc7 _ _ (show hk 1076 = 7 by decide +kernel)) rfl) rfl rfl hl.1 (Nat.le_of_ble_eq_true rfl) ⟨Nat.le_of_ble_eq_true rfl, Nat.le_of_ble_eq_true rfl⟩ ⟨Nat.le_of_ble_eq_true rfl, Nat.le_of_ble_eq_true rfl⟩ dL_law_415) hS (fun r2 ρ2 H locs q2 hP hS => ?_)
  have hp : PI ρ1 ρ2 := q2.1
  refine lv_pop hx hb dL_law_418 rfl ?_
  refine lv_goto (tgt := 1796) hx hb dL_law_419 (by decide) ?_
  exact kk ρ2 _ _ (LI_step hC hp) hP hS
set_option maxHeartbeats 4000000 in
set_option maxRecDepth 100000 in
theorem op_6 (B : MB p s m #[Value.ref b] c code 4 RL E) (hl : lv_has ls 4 [(3, .int (nI j)), (2, .ref (E.2.1 + 1076)), (1, .ref (E.2.1 + 0)), (0, .ref b)]) (hP : WP E ρ H) (hS : va_S (hA E) s.heap H locs) (hX : va_X b L xs s s.heap) (hbl : b < s.heap.size) (hbA : ¬ hA E b) (hI : LI ρ) (hj : j + 6 ≤ L) (hL : L ≤ 3072) (kk : ∀ (ρ : Nat → Nat → Int32) (H : Heap) (locs : List Loc), LI ρ → WP E ρ H → va_S (hA E) s.heap H locs → W p l e room_1 s m #[Value.ref b] below meth c H locs 1090 19159 Q (F0 m 1796 ls [])) : W p l e room_1 s m #[Value.ref b] below meth c H locs 1090 19159 Q (F0 m 422 ls []) := by
  have hx := B.1.1
  have hb := B.1.2.1
  refine lv_aload_n hx hb dL_law_422 rfl (lv_at hl 2 rfl) ?_
  refine lv_aload_n hx hb dL_law_423 rfl (lv_at hl 3 rfl) ?_
  refine lv_iload_n hx hb dL_law_424 rfl (lv_at hl 0 rfl) ?_
  refine lv_iconst (v := 1) hx hb dL_law_425 (by decide) ?_
  refine lv_iadd hx hb dL_law_426 ?_
  refine lv_topi (fun z1 ez1 => ?_)
  obtain rfl : z1 = (nI (1 + j)) := ez1.trans (by rw [show (nI j) = nI j from rfl, show 1 = nI 1 from rfl, nI_add] <;> exact congrArg nI (by omega))
  refine sldn (q := (1 + j)) B hX hbl hbA hS hL rfl (by omega) dL_law_427 ?_
  refine lv_aload_n hx hb dL_law_428 rfl (lv_at hl 3 rfl) ?_
  refine lv_iload_n hx hb dL_law_429 rfl (lv_at hl 0 rfl) ?_
  refine lv_iconst (v := 2) hx hb dL_law_430 (by decide) ?_
  refine lv_iadd hx hb dL_law_431 ?_
  refine lv_topi (fun z2 ez2 => ?_)
  obtain rfl : z2 = (nI (2 + j)) := ez2.trans (by rw [show (nI j) = nI j from rfl, show 2 = nI 2 from rfl, nI_add] <;> exact congrArg nI (by omega))
  refine sldn (q := (2 + j)) B hX hbl hbA hS hL rfl (by omega) dL_law_432 ?_
  refine lv_aload_n hx hb dL_law_433 rfl (lv_at hl 3 rfl) ?_
  refine lv_iload_n hx hb dL_law_434 rfl (lv_at hl 0 rfl) ?_
  refine lv_iconst (v := 3) hx hb dL_law_435 (by decide) ?_
  refine lv_iadd hx hb dL_law_436 ?_
  refine lv_topi (fun z3 ez3 => ?_)
  obtain rfl : z3 = (nI (3 + j)) := ez3.trans (by rw [show (nI j) = nI j from rfl, show 3 = nI 3 from rfl, nI_add] <;> exact congrArg nI (by omega))
  refine sldn (q := (3 + j)) B hX hbl hbA hS hL rfl (by omega) dL_law_437 ?_
  refine lv_aload_n hx hb dL_law_438 rfl (lv_at hl 3 rfl) ?_
  refine lv_iload_n hx hb dL_law_439 rfl (lv_at hl 0 rfl) ?_
  refine lv_iconst (v := 4) hx hb dL_law_440 (by decide) ?_
  refine lv_iadd hx hb dL_law_441 ?_
  refine lv_topi (fun z4 ez4 => ?_)
  obtain rfl : z4 = (nI (4 + j)) := ez4.trans (by rw [show (nI j) = nI j from rfl, show 4 = nI 4 from rfl, nI_add] <;> exact congrArg nI (by omega))
  refine sldn (q := (4 + j)) B hX hbl hbA hS hL rfl (by omega) dL_law_442 ?_
  refine call_i (cVt (k := 0) (av := [.int (xs (1 + j)), .int (xs (2 + j)), .int (xs (3 + j)), .int (xs (4 + j))]) (rest := []) B hP hS (d_X6_put l E ρ ρ (xs (1 + j)) (xs (2 + j)) (xs (3 + j)) (xs (4 + j)) hI.1) lk_RL_40 (hrecv (ci := 6) B hP (by decide) (hcc6 _ _ (show hk 0 = 6 by decide +kernel)) rfl) rfl rfl hl.1 (Nat.le_of_ble_eq_true rfl) ⟨Nat.le_of_ble_eq_true rfl, Nat.le_of_ble_eq_true rfl⟩ ⟨Nat.le_of_ble_eq_true rfl, Nat.le_of_ble_eq_true rfl⟩ dL_law_443) hS (fun r1 ρ1 H locs q1 hP hS => ?_)
  have hC : CI ρ S0 ρ1 := q1
  refine lv_pop hx hb dL_law_446 rfl ?_
  refine lv_aload_n hx hb dL_law_447 rfl (lv_at hl 1 rfl) ?_
  refine lv_aload_n hx hb dL_law_448 rfl (lv_at hl 3 rfl) ?_
  refine lv_iload_n hx hb dL_law_449 rfl (lv_at hl 0 rfl) ?_
  refine lv_iconst (v := 1) hx hb dL_law_450 (by decide) ?_
  refine lv_iadd hx hb dL_law_451 ?_
  refine lv_topi (fun z5 ez5 => ?_)
  obtain rfl : z5 = (nI (1 + j)) := ez5.trans (by rw [show (nI j) = nI j from rfl, show 1 = nI 1 from rfl, nI_add] <;> exact congrArg nI (by omega))
  refine sldn (q := (1 + j)) B hX hbl hbA hS hL rfl (by omega) dL_law_452 ?_
  refine lv_aload_n hx hb dL_law_453 rfl (lv_at hl 3 rfl) ?_
  refine lv_iload_n hx hb dL_law_454 rfl (lv_at hl 0 rfl) ?_
  refine lv_iconst (v := 2) hx hb dL_law_455 (by decide) ?_
  refine lv_iadd hx hb dL_law_456 ?_
  refine lv_topi (fun z6 ez6 => ?_)
  obtain rfl : z6 = (nI (2 + j)) := ez6.trans (by rw [show (nI j) = nI j from rfl, show 2 = nI 2 from rfl, nI_add] <;> exact congrArg nI (by omega))
  refine sldn (q := (2 + j)) B hX hbl hbA hS hL rfl (by omega) dL_law_457 ?_
  refine lv_aload_n hx hb dL_law_458 rfl (lv_at hl 3 rfl) ?_
  refine lv_iload_n hx hb dL_law_459 rfl (lv_at hl 0 rfl) ?_
  refine lv_iconst (v := 3) hx hb dL_law_460 (by decide) ?_
  refine lv_iadd hx hb dL_law_461 ?_
  refine lv_topi (fun z7 ez7 => ?_)
  obtain rfl : z7 = (nI (3 + j)) := ez7.trans (by rw [show (nI j) = nI j from rfl, show 3 = nI 3 from rfl, nI_add] <;> exact congrArg nI (by omega))
  refine sldn (q := (3 + j)) B hX hbl hbA hS hL rfl (by omega) dL_law_462 ?_
  refine lv_aload_n hx hb dL_law_463 rfl (lv_at hl 3 rfl) ?_
  refine lv_iload_n hx hb dL_law_464 rfl (lv_at hl 0 rfl) ?_
  refine lv_iconst (v := 4) hx hb dL_law_465 (by decide) ?_
  refine lv_iadd hx hb dL_law_466 ?_
  refine lv_topi (fun z8 ez8 => ?_)
  obtain rfl : z8 = (nI (4 + j)) := ez8.trans (by rw [show (nI j) = nI j from rfl, show 4 = nI 4 from rfl, nI_add] <;> exact congrArg nI (by omega))
  refine sldn (q := (4 + j)) B hX hbl hbA hS hL rfl (by omega) dL_law_467 ?_
  have hp1 := PI_cls hI.2 hC
  obtain ⟨M, LL, hG⟩ := hp1.2.1
  refine call_i (cVt (k := 1076) (av := [.int (xs (1 + j)), .int (xs (2 + j)), .int (xs (3 + j)), .int (xs (4 + j))]) (rest := []) B hP hS (d_X7_put l E ρ1 ρ1 M LL ⟨hp1, hG⟩ (xs (1 + j)) (xs (2 + j)) (xs (3 + j)) (xs (4 + j))) lk_RL_44 (hrecv (ci := 7) B hP (by decide) (hcc7 _ _ (show hk 1076 = 7 by decide +kernel)) rfl) rfl rfl hl.1 (Nat.le_of_ble_eq_true rfl) ⟨Nat.le_of_ble_eq_true rfl, Nat.le_of_ble_eq_true rfl⟩ ⟨Nat.le_of_ble_eq_true rfl, Nat.le_of_ble_eq_true rfl⟩ dL_law_468) hS (fun r2 ρ2 H locs q2 hP hS => ?_)
  have hp : PI ρ1 ρ2 := q2.1
  refine lv_pop hx hb dL_law_471 rfl ?_
  refine lv_goto (tgt := 1796) hx hb dL_law_472 (by decide) ?_
  exact kk ρ2 _ _ (LI_step hC hp) hP hS
set_option maxHeartbeats 4000000 in
set_option maxRecDepth 100000 in
theorem op_7 (B : MB p s m #[Value.ref b] c code 4 RL E) (hl : lv_has ls 4 [(3, .int (nI j)), (2, .ref (E.2.1 + 1076)), (1, .ref (E.2.1 + 0)), (0, .ref b)]) (hP : WP E ρ H) (hS : va_S (hA E) s.heap H locs) (hX : va_X b L xs s s.heap) (hbl : b < s.heap.size) (hbA : ¬ hA E b) (hI : LI ρ) (hj : j + 6 ≤ L) (hL : L ≤ 3072) (kk : ∀ (ρ : Nat → Nat → Int32) (H : Heap) (locs : List Loc), LI ρ → WP E ρ H → va_S (hA E) s.heap H locs → W p l e room_1 s m #[Value.ref b] below meth c H locs 1090 19159 Q (F0 m 1796 ls [])) : W p l e room_1 s m #[Value.ref b] below meth c H locs 1090 19159 Q (F0 m 475 ls []) := by
  have hx := B.1.1
  have hb := B.1.2.1
  refine lv_aload_n hx hb dL_law_475 rfl (lv_at hl 2 rfl) ?_
  refine lv_aload_n hx hb dL_law_476 rfl (lv_at hl 3 rfl) ?_
  refine lv_iload_n hx hb dL_law_477 rfl (lv_at hl 0 rfl) ?_
  refine lv_iconst (v := 1) hx hb dL_law_478 (by decide) ?_
  refine lv_iadd hx hb dL_law_479 ?_
  refine lv_topi (fun z1 ez1 => ?_)
  obtain rfl : z1 = (nI (1 + j)) := ez1.trans (by rw [show (nI j) = nI j from rfl, show 1 = nI 1 from rfl, nI_add] <;> exact congrArg nI (by omega))
  refine sldn (q := (1 + j)) B hX hbl hbA hS hL rfl (by omega) dL_law_480 ?_
  refine lv_aload_n hx hb dL_law_481 rfl (lv_at hl 3 rfl) ?_
  refine lv_iload_n hx hb dL_law_482 rfl (lv_at hl 0 rfl) ?_
  refine lv_iconst (v := 2) hx hb dL_law_483 (by decide) ?_
  refine lv_iadd hx hb dL_law_484 ?_
  refine lv_topi (fun z2 ez2 => ?_)
  obtain rfl : z2 = (nI (2 + j)) := ez2.trans (by rw [show (nI j) = nI j from rfl, show 2 = nI 2 from rfl, nI_add] <;> exact congrArg nI (by omega))
  refine sldn (q := (2 + j)) B hX hbl hbA hS hL rfl (by omega) dL_law_485 ?_
  refine lv_aload_n hx hb dL_law_486 rfl (lv_at hl 3 rfl) ?_
  refine lv_iload_n hx hb dL_law_487 rfl (lv_at hl 0 rfl) ?_
  refine lv_iconst (v := 3) hx hb dL_law_488 (by decide) ?_
  refine lv_iadd hx hb dL_law_489 ?_
  refine lv_topi (fun z3 ez3 => ?_)
  obtain rfl : z3 = (nI (3 + j)) := ez3.trans (by rw [show (nI j) = nI j from rfl, show 3 = nI 3 from rfl, nI_add] <;> exact congrArg nI (by omega))
  refine sldn (q := (3 + j)) B hX hbl hbA hS hL rfl (by omega) dL_law_490 ?_
  refine lv_aload_n hx hb dL_law_491 rfl (lv_at hl 3 rfl) ?_
  refine lv_iload_n hx hb dL_law_492 rfl (lv_at hl 0 rfl) ?_
  refine lv_iconst (v := 4) hx hb dL_law_493 (by decide) ?_
  refine lv_iadd hx hb dL_law_494 ?_
  refine lv_topi (fun z4 ez4 => ?_)
  obtain rfl : z4 = (nI (4 + j)) := ez4.trans (by rw [show (nI j) = nI j from rfl, show 4 = nI 4 from rfl, nI_add] <;> exact congrArg nI (by omega))
  refine sldn (q := (4 + j)) B hX hbl hbA hS hL rfl (by omega) dL_law_495 ?_
  refine lv_aload_n hx hb dL_law_496 rfl (lv_at hl 3 rfl) ?_
  refine lv_iload_n hx hb dL_law_497 rfl (lv_at hl 0 rfl) ?_
  refine lv_iconst (v := 5) hx hb dL_law_498 (by decide) ?_
  refine lv_iadd hx hb dL_law_499 ?_
  refine lv_topi (fun z5 ez5 => ?_)
  obtain rfl : z5 = (nI (5 + j)) := ez5.trans (by rw [show (nI j) = nI j from rfl, show 5 = nI 5 from rfl, nI_add] <;> exact congrArg nI (by omega))
  refine sldn (q := (5 + j)) B hX hbl hbA hS hL rfl (by omega) dL_law_500 ?_
  refine call_i (cVt (k := 0) (av := [.int (xs (1 + j)), .int (xs (2 + j)), .int (xs (3 + j)), .int (xs (4 + j)), .int (xs (5 + j))]) (rest := []) B hP hS (d_X6_reserve l E ρ ρ (xs (1 + j)) (xs (2 + j)) (xs (3 + j)) (xs (4 + j)) (xs (5 + j)) hI.1) lk_RL_45 (hrecv (ci := 6) B hP (by decide) (hcc6 _ _ (show hk 0 = 6 by decide +kernel)) rfl) rfl rfl hl.1 (Nat.le_of_ble_eq_true rfl) ⟨Nat.le_of_ble_eq_true rfl, Nat.le_of_ble_eq_true rfl⟩ ⟨Nat.le_of_ble_eq_true rfl, Nat.le_of_ble_eq_true rfl⟩ dL_law_501) hS (fun r1 ρ1 H locs q1 hP hS => ?_)
  have hC : CI ρ S0 ρ1 := q1
  refine lv_pop hx hb dL_law_504 rfl ?_
  refine lv_aload_n hx hb dL_law_505 rfl (lv_at hl 1 rfl) ?_
  refine lv_aload_n hx hb dL_law_506 rfl (lv_at hl 3 rfl) ?_
  refine lv_iload_n hx hb dL_law_507 rfl (lv_at hl 0 rfl) ?_
  refine lv_iconst (v := 1) hx hb dL_law_508 (by decide) ?_
  refine lv_iadd hx hb dL_law_509 ?_
  refine lv_topi (fun z6 ez6 => ?_)
  obtain rfl : z6 = (nI (1 + j)) := ez6.trans (by rw [show (nI j) = nI j from rfl, show 1 = nI 1 from rfl, nI_add] <;> exact congrArg nI (by omega))
  refine sldn (q := (1 + j)) B hX hbl hbA hS hL rfl (by omega) dL_law_510 ?_
  refine lv_aload_n hx hb dL_law_511 rfl (lv_at hl 3 rfl) ?_
  refine lv_iload_n hx hb dL_law_512 rfl (lv_at hl 0 rfl) ?_
  refine lv_iconst (v := 2) hx hb dL_law_513 (by decide) ?_
  refine lv_iadd hx hb dL_law_514 ?_
  refine lv_topi (fun z7 ez7 => ?_)
  obtain rfl : z7 = (nI (2 + j)) := ez7.trans (by rw [show (nI j) = nI j from rfl, show 2 = nI 2 from rfl, nI_add] <;> exact congrArg nI (by omega))
  refine sldn (q := (2 + j)) B hX hbl hbA hS hL rfl (by omega) dL_law_515 ?_
  refine lv_aload_n hx hb dL_law_516 rfl (lv_at hl 3 rfl) ?_
  refine lv_iload_n hx hb dL_law_517 rfl (lv_at hl 0 rfl) ?_
  refine lv_iconst (v := 3) hx hb dL_law_518 (by decide) ?_
  refine lv_iadd hx hb dL_law_519 ?_
  refine lv_topi (fun z8 ez8 => ?_)
  obtain rfl : z8 = (nI (3 + j)) := ez8.trans (by rw [show (nI j) = nI j from rfl, show 3 = nI 3 from rfl, nI_add] <;> exact congrArg nI (by omega))
  refine sldn (q := (3 + j)) B hX hbl hbA hS hL rfl (by omega) dL_law_520 ?_
  refine lv_aload_n hx hb dL_law_521 rfl (lv_at hl 3 rfl) ?_
  refine lv_iload_n hx hb dL_law_522 rfl (lv_at hl 0 rfl) ?_
  refine lv_iconst (v := 4) hx hb dL_law_523 (by decide) ?_
  refine lv_iadd hx hb dL_law_524 ?_
  refine lv_topi (fun z9 ez9 => ?_)
  obtain rfl : z9 = (nI (4 + j)) := ez9.trans (by rw [show (nI j) = nI j from rfl, show 4 = nI 4 from rfl, nI_add] <;> exact congrArg nI (by omega))
  refine sldn (q := (4 + j)) B hX hbl hbA hS hL rfl (by omega) dL_law_525 ?_
  refine lv_aload_n hx hb dL_law_526 rfl (lv_at hl 3 rfl) ?_
  refine lv_iload_n hx hb dL_law_527 rfl (lv_at hl 0 rfl) ?_
  refine lv_iconst (v := 5) hx hb dL_law_528 (by decide) ?_
  refine lv_iadd hx hb dL_law_529 ?_
  refine lv_topi (fun z10 ez10 => ?_)
  obtain rfl : z10 = (nI (5 + j)) := ez10.trans (by rw [show (nI j) = nI j from rfl, show 5 = nI 5 from rfl, nI_add] <;> exact congrArg nI (by omega))
  refine sldn (q := (5 + j)) B hX hbl hbA hS hL rfl (by omega) dL_law_530 ?_
  have hp1 := PI_cls hI.2 hC
  obtain ⟨M, LL, hG⟩ := hp1.2.1
  refine call_i (cVt (k := 1076) (av := [.int (xs (1 + j)), .int (xs (2 + j)), .int (xs (3 + j)), .int (xs (4 + j)), .int (xs (5 + j))]) (rest := []) B hP hS (d_X7_reserve l E ρ1 ρ1 M LL ⟨hp1, hG⟩ (xs (1 + j)) (xs (2 + j)) (xs (3 + j)) (xs (4 + j)) (xs (5 + j))) lk_RL_49 (hrecv (ci := 7) B hP (by decide) (hcc7 _ _ (show hk 1076 = 7 by decide +kernel)) rfl) rfl rfl hl.1 (Nat.le_of_ble_eq_true rfl) ⟨Nat.le_of_ble_eq_true rfl, Nat.le_of_ble_eq_true rfl⟩ ⟨Nat.le_of_ble_eq_true rfl, Nat.le_of_ble_eq_true rfl⟩ dL_law_531) hS (fun r2 ρ2 H locs q2 hP hS => ?_)
  have hp : PI ρ1 ρ2 := q2.1
  refine lv_pop hx hb dL_law_534 rfl ?_
  refine lv_goto (tgt := 1796) hx hb dL_law_535 (by decide) ?_
  exact kk ρ2 _ _ (LI_step hC hp) hP hS
set_option maxHeartbeats 4000000 in
set_option maxRecDepth 100000 in
theorem op_8 (B : MB p s m #[Value.ref b] c code 4 RL E) (hl : lv_has ls 4 [(3, .int (nI j)), (2, .ref (E.2.1 + 1076)), (1, .ref (E.2.1 + 0)), (0, .ref b)]) (hP : WP E ρ H) (hS : va_S (hA E) s.heap H locs) (hX : va_X b L xs s s.heap) (hbl : b < s.heap.size) (hbA : ¬ hA E b) (hI : LI ρ) (hj : j + 6 ≤ L) (hL : L ≤ 3072) (kk : ∀ (ρ : Nat → Nat → Int32) (H : Heap) (locs : List Loc), LI ρ → WP E ρ H → va_S (hA E) s.heap H locs → W p l e room_1 s m #[Value.ref b] below meth c H locs 1090 19159 Q (F0 m 1796 ls [])) : W p l e room_1 s m #[Value.ref b] below meth c H locs 1090 19159 Q (F0 m 538 ls []) := by
  have hx := B.1.1
  have hb := B.1.2.1
  refine lv_aload_n hx hb dL_law_538 rfl (lv_at hl 2 rfl) ?_
  refine lv_aload_n hx hb dL_law_539 rfl (lv_at hl 3 rfl) ?_
  refine lv_iload_n hx hb dL_law_540 rfl (lv_at hl 0 rfl) ?_
  refine lv_iconst (v := 1) hx hb dL_law_541 (by decide) ?_
  refine lv_iadd hx hb dL_law_542 ?_
  refine lv_topi (fun z1 ez1 => ?_)
  obtain rfl : z1 = (nI (1 + j)) := ez1.trans (by rw [show (nI j) = nI j from rfl, show 1 = nI 1 from rfl, nI_add] <;> exact congrArg nI (by omega))
  refine sldn (q := (1 + j)) B hX hbl hbA hS hL rfl (by omega) dL_law_543 ?_
  refine lv_aload_n hx hb dL_law_544 rfl (lv_at hl 3 rfl) ?_
  refine lv_iload_n hx hb dL_law_545 rfl (lv_at hl 0 rfl) ?_
  refine lv_iconst (v := 2) hx hb dL_law_546 (by decide) ?_
  refine lv_iadd hx hb dL_law_547 ?_
  refine lv_topi (fun z2 ez2 => ?_)
  obtain rfl : z2 = (nI (2 + j)) := ez2.trans (by rw [show (nI j) = nI j from rfl, show 2 = nI 2 from rfl, nI_add] <;> exact congrArg nI (by omega))
  refine sldn (q := (2 + j)) B hX hbl hbA hS hL rfl (by omega) dL_law_548 ?_
  refine lv_aload_n hx hb dL_law_549 rfl (lv_at hl 3 rfl) ?_
  refine lv_iload_n hx hb dL_law_550 rfl (lv_at hl 0 rfl) ?_
  refine lv_iconst (v := 3) hx hb dL_law_551 (by decide) ?_
  refine lv_iadd hx hb dL_law_552 ?_
  refine lv_topi (fun z3 ez3 => ?_)
  obtain rfl : z3 = (nI (3 + j)) := ez3.trans (by rw [show (nI j) = nI j from rfl, show 3 = nI 3 from rfl, nI_add] <;> exact congrArg nI (by omega))
  refine sldn (q := (3 + j)) B hX hbl hbA hS hL rfl (by omega) dL_law_553 ?_
  refine lv_aload_n hx hb dL_law_554 rfl (lv_at hl 3 rfl) ?_
  refine lv_iload_n hx hb dL_law_555 rfl (lv_at hl 0 rfl) ?_
  refine lv_iconst (v := 4) hx hb dL_law_556 (by decide) ?_
  refine lv_iadd hx hb dL_law_557 ?_
  refine lv_topi (fun z4 ez4 => ?_)
  obtain rfl : z4 = (nI (4 + j)) := ez4.trans (by rw [show (nI j) = nI j from rfl, show 4 = nI 4 from rfl, nI_add] <;> exact congrArg nI (by omega))
  refine sldn (q := (4 + j)) B hX hbl hbA hS hL rfl (by omega) dL_law_558 ?_
  refine call_i (cVt (k := 0) (av := [.int (xs (1 + j)), .int (xs (2 + j)), .int (xs (3 + j)), .int (xs (4 + j))]) (rest := []) B hP hS (d_X6_sniff l E ρ ρ (xs (1 + j)) (xs (2 + j)) (xs (3 + j)) (xs (4 + j)) hI.1) lk_RL_50 (hrecv (ci := 6) B hP (by decide) (hcc6 _ _ (show hk 0 = 6 by decide +kernel)) rfl) rfl rfl hl.1 (Nat.le_of_ble_eq_true rfl) ⟨Nat.le_of_ble_eq_true rfl, Nat.le_of_ble_eq_true rfl⟩ ⟨Nat.le_of_ble_eq_true rfl, Nat.le_of_ble_eq_true rfl⟩ dL_law_559) hS (fun r1 ρ1 H locs q1 hP hS => ?_)
  have hC : CI ρ S0 ρ1 := q1
  refine lv_pop hx hb dL_law_562 rfl ?_
  refine lv_aload_n hx hb dL_law_563 rfl (lv_at hl 1 rfl) ?_
  refine lv_aload_n hx hb dL_law_564 rfl (lv_at hl 3 rfl) ?_
  refine lv_iload_n hx hb dL_law_565 rfl (lv_at hl 0 rfl) ?_
  refine lv_iconst (v := 1) hx hb dL_law_566 (by decide) ?_
  refine lv_iadd hx hb dL_law_567 ?_
  refine lv_topi (fun z5 ez5 => ?_)
  obtain rfl : z5 = (nI (1 + j)) := ez5.trans (by rw [show (nI j) = nI j from rfl, show 1 = nI 1 from rfl, nI_add] <;> exact congrArg nI (by omega))
  refine sldn (q := (1 + j)) B hX hbl hbA hS hL rfl (by omega) dL_law_568 ?_
  refine lv_aload_n hx hb dL_law_569 rfl (lv_at hl 3 rfl) ?_
  refine lv_iload_n hx hb dL_law_570 rfl (lv_at hl 0 rfl) ?_
  refine lv_iconst (v := 2) hx hb dL_law_571 (by decide) ?_
  refine lv_iadd hx hb dL_law_572 ?_
  refine lv_topi (fun z6 ez6 => ?_)
  obtain rfl : z6 = (nI (2 + j)) := ez6.trans (by rw [show (nI j) = nI j from rfl, show 2 = nI 2 from rfl, nI_add] <;> exact congrArg nI (by omega))
  refine sldn (q := (2 + j)) B hX hbl hbA hS hL rfl (by omega) dL_law_573 ?_
  refine lv_aload_n hx hb dL_law_574 rfl (lv_at hl 3 rfl) ?_
  refine lv_iload_n hx hb dL_law_575 rfl (lv_at hl 0 rfl) ?_
  refine lv_iconst (v := 3) hx hb dL_law_576 (by decide) ?_
  refine lv_iadd hx hb dL_law_577 ?_
  refine lv_topi (fun z7 ez7 => ?_)
  obtain rfl : z7 = (nI (3 + j)) := ez7.trans (by rw [show (nI j) = nI j from rfl, show 3 = nI 3 from rfl, nI_add] <;> exact congrArg nI (by omega))
  refine sldn (q := (3 + j)) B hX hbl hbA hS hL rfl (by omega) dL_law_578 ?_
  refine lv_aload_n hx hb dL_law_579 rfl (lv_at hl 3 rfl) ?_
  refine lv_iload_n hx hb dL_law_580 rfl (lv_at hl 0 rfl) ?_
  refine lv_iconst (v := 4) hx hb dL_law_581 (by decide) ?_
  refine lv_iadd hx hb dL_law_582 ?_
  refine lv_topi (fun z8 ez8 => ?_)
  obtain rfl : z8 = (nI (4 + j)) := ez8.trans (by rw [show (nI j) = nI j from rfl, show 4 = nI 4 from rfl, nI_add] <;> exact congrArg nI (by omega))
  refine sldn (q := (4 + j)) B hX hbl hbA hS hL rfl (by omega) dL_law_583 ?_
  have hp1 := PI_cls hI.2 hC
  obtain ⟨M, LL, hG⟩ := hp1.2.1
  refine call_i (cVt (k := 1076) (av := [.int (xs (1 + j)), .int (xs (2 + j)), .int (xs (3 + j)), .int (xs (4 + j))]) (rest := []) B hP hS (d_X7_sniff l E ρ1 ρ1 M LL ⟨hp1, hG⟩ (xs (1 + j)) (xs (2 + j)) (xs (3 + j)) (xs (4 + j))) lk_RL_53 (hrecv (ci := 7) B hP (by decide) (hcc7 _ _ (show hk 1076 = 7 by decide +kernel)) rfl) rfl rfl hl.1 (Nat.le_of_ble_eq_true rfl) ⟨Nat.le_of_ble_eq_true rfl, Nat.le_of_ble_eq_true rfl⟩ ⟨Nat.le_of_ble_eq_true rfl, Nat.le_of_ble_eq_true rfl⟩ dL_law_584) hS (fun r2 ρ2 H locs q2 hP hS => ?_)
  have hp : PI ρ1 ρ2 := q2.1
  refine lv_pop hx hb dL_law_587 rfl ?_
  refine lv_goto (tgt := 1796) hx hb dL_law_588 (by decide) ?_
  exact kk ρ2 _ _ (LI_step hC hp) hP hS
set_option maxHeartbeats 4000000 in
set_option maxRecDepth 100000 in
theorem op_9 (B : MB p s m #[Value.ref b] c code 4 RL E) (hl : lv_has ls 4 [(3, .int (nI j)), (2, .ref (E.2.1 + 1076)), (1, .ref (E.2.1 + 0)), (0, .ref b)]) (hP : WP E ρ H) (hS : va_S (hA E) s.heap H locs) (hX : va_X b L xs s s.heap) (hbl : b < s.heap.size) (hbA : ¬ hA E b) (hI : LI ρ) (hj : j + 6 ≤ L) (hL : L ≤ 3072) (kk : ∀ (ρ : Nat → Nat → Int32) (H : Heap) (locs : List Loc), LI ρ → WP E ρ H → va_S (hA E) s.heap H locs → W p l e room_1 s m #[Value.ref b] below meth c H locs 1090 19159 Q (F0 m 1796 ls [])) : W p l e room_1 s m #[Value.ref b] below meth c H locs 1090 19159 Q (F0 m 591 ls []) := by
  have hx := B.1.1
  have hb := B.1.2.1
  refine lv_aload_n hx hb dL_law_591 rfl (lv_at hl 2 rfl) ?_
  refine lv_aload_n hx hb dL_law_592 rfl (lv_at hl 3 rfl) ?_
  refine lv_iload_n hx hb dL_law_593 rfl (lv_at hl 0 rfl) ?_
  refine lv_iconst (v := 1) hx hb dL_law_594 (by decide) ?_
  refine lv_iadd hx hb dL_law_595 ?_
  refine lv_topi (fun z1 ez1 => ?_)
  obtain rfl : z1 = (nI (1 + j)) := ez1.trans (by rw [show (nI j) = nI j from rfl, show 1 = nI 1 from rfl, nI_add] <;> exact congrArg nI (by omega))
  refine sldn (q := (1 + j)) B hX hbl hbA hS hL rfl (by omega) dL_law_596 ?_
  refine lv_aload_n hx hb dL_law_597 rfl (lv_at hl 3 rfl) ?_
  refine lv_iload_n hx hb dL_law_598 rfl (lv_at hl 0 rfl) ?_
  refine lv_iconst (v := 2) hx hb dL_law_599 (by decide) ?_
  refine lv_iadd hx hb dL_law_600 ?_
  refine lv_topi (fun z2 ez2 => ?_)
  obtain rfl : z2 = (nI (2 + j)) := ez2.trans (by rw [show (nI j) = nI j from rfl, show 2 = nI 2 from rfl, nI_add] <;> exact congrArg nI (by omega))
  refine sldn (q := (2 + j)) B hX hbl hbA hS hL rfl (by omega) dL_law_601 ?_
  refine lv_aload_n hx hb dL_law_602 rfl (lv_at hl 3 rfl) ?_
  refine lv_iload_n hx hb dL_law_603 rfl (lv_at hl 0 rfl) ?_
  refine lv_iconst (v := 3) hx hb dL_law_604 (by decide) ?_
  refine lv_iadd hx hb dL_law_605 ?_
  refine lv_topi (fun z3 ez3 => ?_)
  obtain rfl : z3 = (nI (3 + j)) := ez3.trans (by rw [show (nI j) = nI j from rfl, show 3 = nI 3 from rfl, nI_add] <;> exact congrArg nI (by omega))
  refine sldn (q := (3 + j)) B hX hbl hbA hS hL rfl (by omega) dL_law_606 ?_
  refine call_i (cVt (k := 0) (av := [.int (xs (1 + j)), .int (xs (2 + j)), .int (xs (3 + j))]) (rest := []) B hP hS (d_X6_weigh l E ρ ρ (xs (1 + j)) (xs (2 + j)) (xs (3 + j)) hI.1) lk_RL_54 (hrecv (ci := 6) B hP (by decide) (hcc6 _ _ (show hk 0 = 6 by decide +kernel)) rfl) rfl rfl hl.1 (Nat.le_of_ble_eq_true rfl) ⟨Nat.le_of_ble_eq_true rfl, Nat.le_of_ble_eq_true rfl⟩ ⟨Nat.le_of_ble_eq_true rfl, Nat.le_of_ble_eq_true rfl⟩ dL_law_607) hS (fun r1 ρ1 H locs q1 hP hS => ?_)
  have hC : CI ρ S0 ρ1 := q1
  refine lv_pop hx hb dL_law_610 rfl ?_
  refine lv_aload_n hx hb dL_law_611 rfl (lv_at hl 1 rfl) ?_
  refine lv_aload_n hx hb dL_law_612 rfl (lv_at hl 3 rfl) ?_
  refine lv_iload_n hx hb dL_law_613 rfl (lv_at hl 0 rfl) ?_
  refine lv_iconst (v := 1) hx hb dL_law_614 (by decide) ?_
  refine lv_iadd hx hb dL_law_615 ?_
  refine lv_topi (fun z4 ez4 => ?_)
  obtain rfl : z4 = (nI (1 + j)) := ez4.trans (by rw [show (nI j) = nI j from rfl, show 1 = nI 1 from rfl, nI_add] <;> exact congrArg nI (by omega))
  refine sldn (q := (1 + j)) B hX hbl hbA hS hL rfl (by omega) dL_law_616 ?_
  refine lv_aload_n hx hb dL_law_617 rfl (lv_at hl 3 rfl) ?_
  refine lv_iload_n hx hb dL_law_618 rfl (lv_at hl 0 rfl) ?_
  refine lv_iconst (v := 2) hx hb dL_law_619 (by decide) ?_
  refine lv_iadd hx hb dL_law_620 ?_
  refine lv_topi (fun z5 ez5 => ?_)
  obtain rfl : z5 = (nI (2 + j)) := ez5.trans (by rw [show (nI j) = nI j from rfl, show 2 = nI 2 from rfl, nI_add] <;> exact congrArg nI (by omega))
  refine sldn (q := (2 + j)) B hX hbl hbA hS hL rfl (by omega) dL_law_621 ?_
  refine lv_aload_n hx hb dL_law_622 rfl (lv_at hl 3 rfl) ?_
  refine lv_iload_n hx hb dL_law_623 rfl (lv_at hl 0 rfl) ?_
  refine lv_iconst (v := 3) hx hb dL_law_624 (by decide) ?_
  refine lv_iadd hx hb dL_law_625 ?_
  refine lv_topi (fun z6 ez6 => ?_)
  obtain rfl : z6 = (nI (3 + j)) := ez6.trans (by rw [show (nI j) = nI j from rfl, show 3 = nI 3 from rfl, nI_add] <;> exact congrArg nI (by omega))
  refine sldn (q := (3 + j)) B hX hbl hbA hS hL rfl (by omega) dL_law_626 ?_
  have hp1 := PI_cls hI.2 hC
  obtain ⟨M, LL, hG⟩ := hp1.2.1
  refine call_i (cVt (k := 1076) (av := [.int (xs (1 + j)), .int (xs (2 + j)), .int (xs (3 + j))]) (rest := []) B hP hS (d_X7_weigh l E ρ1 ρ1 M LL ⟨hp1, hG⟩ (xs (1 + j)) (xs (2 + j)) (xs (3 + j))) lk_RL_57 (hrecv (ci := 7) B hP (by decide) (hcc7 _ _ (show hk 1076 = 7 by decide +kernel)) rfl) rfl rfl hl.1 (Nat.le_of_ble_eq_true rfl) ⟨Nat.le_of_ble_eq_true rfl, Nat.le_of_ble_eq_true rfl⟩ ⟨Nat.le_of_ble_eq_true rfl, Nat.le_of_ble_eq_true rfl⟩ dL_law_627) hS (fun r2 ρ2 H locs q2 hP hS => ?_)
  have hp : PI ρ1 ρ2 := q2.1
  refine lv_pop hx hb dL_law_630 rfl ?_
  refine lv_goto (tgt := 1796) hx hb dL_law_631 (by decide) ?_
  exact kk ρ2 _ _ (LI_step hC hp) hP hS
set_option maxHeartbeats 4000000 in
set_option maxRecDepth 100000 in
theorem op_10 (B : MB p s m #[Value.ref b] c code 4 RL E) (hl : lv_has ls 4 [(3, .int (nI j)), (2, .ref (E.2.1 + 1076)), (1, .ref (E.2.1 + 0)), (0, .ref b)]) (hP : WP E ρ H) (hS : va_S (hA E) s.heap H locs) (hX : va_X b L xs s s.heap) (hbl : b < s.heap.size) (hbA : ¬ hA E b) (hI : LI ρ) (hj : j + 6 ≤ L) (hL : L ≤ 3072) (kk : ∀ (ρ : Nat → Nat → Int32) (H : Heap) (locs : List Loc), LI ρ → WP E ρ H → va_S (hA E) s.heap H locs → W p l e room_1 s m #[Value.ref b] below meth c H locs 1090 19159 Q (F0 m 1796 ls [])) : W p l e room_1 s m #[Value.ref b] below meth c H locs 1090 19159 Q (F0 m 634 ls []) := by
  have hx := B.1.1
  have hb := B.1.2.1
  refine lv_aload_n hx hb dL_law_634 rfl (lv_at hl 2 rfl) ?_
  refine lv_aload_n hx hb dL_law_635 rfl (lv_at hl 3 rfl) ?_
  refine lv_iload_n hx hb dL_law_636 rfl (lv_at hl 0 rfl) ?_
  refine lv_iconst (v := 1) hx hb dL_law_637 (by decide) ?_
  refine lv_iadd hx hb dL_law_638 ?_
  refine lv_topi (fun z1 ez1 => ?_)
  obtain rfl : z1 = (nI (1 + j)) := ez1.trans (by rw [show (nI j) = nI j from rfl, show 1 = nI 1 from rfl, nI_add] <;> exact congrArg nI (by omega))
  refine sldn (q := (1 + j)) B hX hbl hbA hS hL rfl (by omega) dL_law_639 ?_
  refine lv_aload_n hx hb dL_law_640 rfl (lv_at hl 3 rfl) ?_
  refine lv_iload_n hx hb dL_law_641 rfl (lv_at hl 0 rfl) ?_
  refine lv_iconst (v := 2) hx hb dL_law_642 (by decide) ?_
  refine lv_iadd hx hb dL_law_643 ?_
  refine lv_topi (fun z2 ez2 => ?_)
  obtain rfl : z2 = (nI (2 + j)) := ez2.trans (by rw [show (nI j) = nI j from rfl, show 2 = nI 2 from rfl, nI_add] <;> exact congrArg nI (by omega))
  refine sldn (q := (2 + j)) B hX hbl hbA hS hL rfl (by omega) dL_law_644 ?_
  refine call_i (cVt (k := 0) (av := [.int (xs (1 + j)), .int (xs (2 + j))]) (rest := []) B hP hS (d_X6_cast l E ρ ρ (xs (1 + j)) (xs (2 + j)) hI.1) lk_RL_58 (hrecv (ci := 6) B hP (by decide) (hcc6 _ _ (show hk 0 = 6 by decide +kernel)) rfl) rfl rfl hl.1 (Nat.le_of_ble_eq_true rfl) ⟨Nat.le_of_ble_eq_true rfl, Nat.le_of_ble_eq_true rfl⟩ ⟨Nat.le_of_ble_eq_true rfl, Nat.le_of_ble_eq_true rfl⟩ dL_law_645) hS (fun r1 ρ1 H locs q1 hP hS => ?_)
  have hC : CI ρ S0 ρ1 := q1
  refine lv_pop hx hb dL_law_648 rfl ?_
  refine lv_aload_n hx hb dL_law_649 rfl (lv_at hl 1 rfl) ?_
  refine lv_aload_n hx hb dL_law_650 rfl (lv_at hl 3 rfl) ?_
  refine lv_iload_n hx hb dL_law_651 rfl (lv_at hl 0 rfl) ?_
  refine lv_iconst (v := 1) hx hb dL_law_652 (by decide) ?_
  refine lv_iadd hx hb dL_law_653 ?_
  refine lv_topi (fun z3 ez3 => ?_)
  obtain rfl : z3 = (nI (1 + j)) := ez3.trans (by rw [show (nI j) = nI j from rfl, show 1 = nI 1 from rfl, nI_add] <;> exact congrArg nI (by omega))
  refine sldn (q := (1 + j)) B hX hbl hbA hS hL rfl (by omega) dL_law_654 ?_
  refine lv_aload_n hx hb dL_law_655 rfl (lv_at hl 3 rfl) ?_
  refine lv_iload_n hx hb dL_law_656 rfl (lv_at hl 0 rfl) ?_
  refine lv_iconst (v := 2) hx hb dL_law_657 (by decide) ?_
  refine lv_iadd hx hb dL_law_658 ?_
  refine lv_topi (fun z4 ez4 => ?_)
  obtain rfl : z4 = (nI (2 + j)) := ez4.trans (by rw [show (nI j) = nI j from rfl, show 2 = nI 2 from rfl, nI_add] <;> exact congrArg nI (by omega))
  refine sldn (q := (2 + j)) B hX hbl hbA hS hL rfl (by omega) dL_law_659 ?_
  have hp1 := PI_cls hI.2 hC
  obtain ⟨M, LL, hG⟩ := hp1.2.1
  refine call_i (cVt (k := 1076) (av := [.int (xs (1 + j)), .int (xs (2 + j))]) (rest := []) B hP hS (d_X7_cast l E ρ1 ρ1 M LL ⟨hp1, hG⟩ (xs (1 + j)) (xs (2 + j))) lk_RL_61 (hrecv (ci := 7) B hP (by decide) (hcc7 _ _ (show hk 1076 = 7 by decide +kernel)) rfl) rfl rfl hl.1 (Nat.le_of_ble_eq_true rfl) ⟨Nat.le_of_ble_eq_true rfl, Nat.le_of_ble_eq_true rfl⟩ ⟨Nat.le_of_ble_eq_true rfl, Nat.le_of_ble_eq_true rfl⟩ dL_law_660) hS (fun r2 ρ2 H locs q2 hP hS => ?_)
  have hp : PI ρ1 ρ2 := q2.1
  refine lv_pop hx hb dL_law_663 rfl ?_
  refine lv_goto (tgt := 1796) hx hb dL_law_664 (by decide) ?_
  exact kk ρ2 _ _ (LI_step hC hp) hP hS
set_option maxHeartbeats 4000000 in
set_option maxRecDepth 100000 in
theorem op_11 (B : MB p s m #[Value.ref b] c code 4 RL E) (hl : lv_has ls 4 [(3, .int (nI j)), (2, .ref (E.2.1 + 1076)), (1, .ref (E.2.1 + 0)), (0, .ref b)]) (hP : WP E ρ H) (hS : va_S (hA E) s.heap H locs) (hX : va_X b L xs s s.heap) (hbl : b < s.heap.size) (hbA : ¬ hA E b) (hI : LI ρ) (hj : j + 6 ≤ L) (hL : L ≤ 3072) (kk : ∀ (ρ : Nat → Nat → Int32) (H : Heap) (locs : List Loc), LI ρ → WP E ρ H → va_S (hA E) s.heap H locs → W p l e room_1 s m #[Value.ref b] below meth c H locs 1090 19159 Q (F0 m 1796 ls [])) : W p l e room_1 s m #[Value.ref b] below meth c H locs 1090 19159 Q (F0 m 667 ls []) := by
  have hx := B.1.1
  have hb := B.1.2.1
  refine lv_aload_n hx hb dL_law_667 rfl (lv_at hl 2 rfl) ?_
  refine lv_aload_n hx hb dL_law_668 rfl (lv_at hl 3 rfl) ?_
  refine lv_iload_n hx hb dL_law_669 rfl (lv_at hl 0 rfl) ?_
  refine lv_iconst (v := 1) hx hb dL_law_670 (by decide) ?_
  refine lv_iadd hx hb dL_law_671 ?_
  refine lv_topi (fun z1 ez1 => ?_)
  obtain rfl : z1 = (nI (1 + j)) := ez1.trans (by rw [show (nI j) = nI j from rfl, show 1 = nI 1 from rfl, nI_add] <;> exact congrArg nI (by omega))
  refine sldn (q := (1 + j)) B hX hbl hbA hS hL rfl (by omega) dL_law_672 ?_
  refine lv_aload_n hx hb dL_law_673 rfl (lv_at hl 3 rfl) ?_
  refine lv_iload_n hx hb dL_law_674 rfl (lv_at hl 0 rfl) ?_
  refine lv_iconst (v := 2) hx hb dL_law_675 (by decide) ?_
  refine lv_iadd hx hb dL_law_676 ?_
  refine lv_topi (fun z2 ez2 => ?_)
  obtain rfl : z2 = (nI (2 + j)) := ez2.trans (by rw [show (nI j) = nI j from rfl, show 2 = nI 2 from rfl, nI_add] <;> exact congrArg nI (by omega))
  refine sldn (q := (2 + j)) B hX hbl hbA hS hL rfl (by omega) dL_law_677 ?_
  refine lv_aload_n hx hb dL_law_678 rfl (lv_at hl 3 rfl) ?_
  refine lv_iload_n hx hb dL_law_679 rfl (lv_at hl 0 rfl) ?_
  refine lv_iconst (v := 3) hx hb dL_law_680 (by decide) ?_
  refine lv_iadd hx hb dL_law_681 ?_
  refine lv_topi (fun z3 ez3 => ?_)
  obtain rfl : z3 = (nI (3 + j)) := ez3.trans (by rw [show (nI j) = nI j from rfl, show 3 = nI 3 from rfl, nI_add] <;> exact congrArg nI (by omega))
  refine sldn (q := (3 + j)) B hX hbl hbA hS hL rfl (by omega) dL_law_682 ?_
  refine call_i (cVt (k := 0) (av := [.int (xs (1 + j)), .int (xs (2 + j)), .int (xs (3 + j))]) (rest := []) B hP hS (d_X6_map l E ρ ρ (xs (1 + j)) (xs (2 + j)) (xs (3 + j)) hI.1) lk_RL_62 (hrecv (ci := 6) B hP (by decide) (hcc6 _ _ (show hk 0 = 6 by decide +kernel)) rfl) rfl rfl hl.1 (Nat.le_of_ble_eq_true rfl) ⟨Nat.le_of_ble_eq_true rfl, Nat.le_of_ble_eq_true rfl⟩ ⟨Nat.le_of_ble_eq_true rfl, Nat.le_of_ble_eq_true rfl⟩ dL_law_683) hS (fun r1 ρ1 H locs q1 hP hS => ?_)
  have hC : CI ρ S0 ρ1 := q1
  refine lv_pop hx hb dL_law_686 rfl ?_
  refine lv_aload_n hx hb dL_law_687 rfl (lv_at hl 1 rfl) ?_
  refine lv_aload_n hx hb dL_law_688 rfl (lv_at hl 3 rfl) ?_
  refine lv_iload_n hx hb dL_law_689 rfl (lv_at hl 0 rfl) ?_
  refine lv_iconst (v := 1) hx hb dL_law_690 (by decide) ?_
  refine lv_iadd hx hb dL_law_691 ?_
  refine lv_topi (fun z4 ez4 => ?_)
  obtain rfl : z4 = (nI (1 + j)) := ez4.trans (by rw [show (nI j) = nI j from rfl, show 1 = nI 1 from rfl, nI_add] <;> exact congrArg nI (by omega))
  refine sldn (q := (1 + j)) B hX hbl hbA hS hL rfl (by omega) dL_law_692 ?_
  refine lv_aload_n hx hb dL_law_693 rfl (lv_at hl 3 rfl) ?_
  refine lv_iload_n hx hb dL_law_694 rfl (lv_at hl 0 rfl) ?_
  refine lv_iconst (v := 2) hx hb dL_law_695 (by decide) ?_
  refine lv_iadd hx hb dL_law_696 ?_
  refine lv_topi (fun z5 ez5 => ?_)
  obtain rfl : z5 = (nI (2 + j)) := ez5.trans (by rw [show (nI j) = nI j from rfl, show 2 = nI 2 from rfl, nI_add] <;> exact congrArg nI (by omega))
  refine sldn (q := (2 + j)) B hX hbl hbA hS hL rfl (by omega) dL_law_697 ?_
  refine lv_aload_n hx hb dL_law_698 rfl (lv_at hl 3 rfl) ?_
  refine lv_iload_n hx hb dL_law_699 rfl (lv_at hl 0 rfl) ?_
  refine lv_iconst (v := 3) hx hb dL_law_700 (by decide) ?_
  refine lv_iadd hx hb dL_law_701 ?_
  refine lv_topi (fun z6 ez6 => ?_)
  obtain rfl : z6 = (nI (3 + j)) := ez6.trans (by rw [show (nI j) = nI j from rfl, show 3 = nI 3 from rfl, nI_add] <;> exact congrArg nI (by omega))
  refine sldn (q := (3 + j)) B hX hbl hbA hS hL rfl (by omega) dL_law_702 ?_
  have hp1 := PI_cls hI.2 hC
  obtain ⟨M, LL, hG⟩ := hp1.2.1
  refine call_i (cVt (k := 1076) (av := [.int (xs (1 + j)), .int (xs (2 + j)), .int (xs (3 + j))]) (rest := []) B hP hS (d_X7_map l E ρ1 ρ1 M LL ⟨hp1, hG⟩ (xs (1 + j)) (xs (2 + j)) (xs (3 + j))) lk_RL_65 (hrecv (ci := 7) B hP (by decide) (hcc7 _ _ (show hk 1076 = 7 by decide +kernel)) rfl) rfl rfl hl.1 (Nat.le_of_ble_eq_true rfl) ⟨Nat.le_of_ble_eq_true rfl, Nat.le_of_ble_eq_true rfl⟩ ⟨Nat.le_of_ble_eq_true rfl, Nat.le_of_ble_eq_true rfl⟩ dL_law_703) hS (fun r2 ρ2 H locs q2 hP hS => ?_)
  have hp : PI ρ1 ρ2 := q2.1
  refine lv_pop hx hb dL_law_706 rfl ?_
  refine lv_goto (tgt := 1796) hx hb dL_law_707 (by decide) ?_
  exact kk ρ2 _ _ (LI_step hC hp) hP hS
set_option maxHeartbeats 4000000 in
set_option maxRecDepth 100000 in
theorem op_12 (B : MB p s m #[Value.ref b] c code 4 RL E) (hl : lv_has ls 4 [(3, .int (nI j)), (2, .ref (E.2.1 + 1076)), (1, .ref (E.2.1 + 0)), (0, .ref b)]) (hP : WP E ρ H) (hS : va_S (hA E) s.heap H locs) (hX : va_X b L xs s s.heap) (hbl : b < s.heap.size) (hbA : ¬ hA E b) (hI : LI ρ) (hj : j + 6 ≤ L) (hL : L ≤ 3072) (kk : ∀ (ρ : Nat → Nat → Int32) (H : Heap) (locs : List Loc), LI ρ → WP E ρ H → va_S (hA E) s.heap H locs → W p l e room_1 s m #[Value.ref b] below meth c H locs 1090 19159 Q (F0 m 1796 ls [])) : W p l e room_1 s m #[Value.ref b] below meth c H locs 1090 19159 Q (F0 m 710 ls []) := by
  have hx := B.1.1
  have hb := B.1.2.1
  refine lv_aload_n hx hb dL_law_710 rfl (lv_at hl 2 rfl) ?_
  refine lv_aload_n hx hb dL_law_711 rfl (lv_at hl 3 rfl) ?_
  refine lv_iload_n hx hb dL_law_712 rfl (lv_at hl 0 rfl) ?_
  refine lv_iconst (v := 1) hx hb dL_law_713 (by decide) ?_
  refine lv_iadd hx hb dL_law_714 ?_
  refine lv_topi (fun z1 ez1 => ?_)
  obtain rfl : z1 = (nI (1 + j)) := ez1.trans (by rw [show (nI j) = nI j from rfl, show 1 = nI 1 from rfl, nI_add] <;> exact congrArg nI (by omega))
  refine sldn (q := (1 + j)) B hX hbl hbA hS hL rfl (by omega) dL_law_715 ?_
  refine lv_aload_n hx hb dL_law_716 rfl (lv_at hl 3 rfl) ?_
  refine lv_iload_n hx hb dL_law_717 rfl (lv_at hl 0 rfl) ?_
  refine lv_iconst (v := 2) hx hb dL_law_718 (by decide) ?_
  refine lv_iadd hx hb dL_law_719 ?_
  refine lv_topi (fun z2 ez2 => ?_)
  obtain rfl : z2 = (nI (2 + j)) := ez2.trans (by rw [show (nI j) = nI j from rfl, show 2 = nI 2 from rfl, nI_add] <;> exact congrArg nI (by omega))
  refine sldn (q := (2 + j)) B hX hbl hbA hS hL rfl (by omega) dL_law_720 ?_
  refine lv_aload_n hx hb dL_law_721 rfl (lv_at hl 3 rfl) ?_
  refine lv_iload_n hx hb dL_law_722 rfl (lv_at hl 0 rfl) ?_
  refine lv_iconst (v := 3) hx hb dL_law_723 (by decide) ?_
  refine lv_iadd hx hb dL_law_724 ?_
  refine lv_topi (fun z3 ez3 => ?_)
  obtain rfl : z3 = (nI (3 + j)) := ez3.trans (by rw [show (nI j) = nI j from rfl, show 3 = nI 3 from rfl, nI_add] <;> exact congrArg nI (by omega))
  refine sldn (q := (3 + j)) B hX hbl hbA hS hL rfl (by omega) dL_law_725 ?_
  refine call_i (cVt (k := 0) (av := [.int (xs (1 + j)), .int (xs (2 + j)), .int (xs (3 + j))]) (rest := []) B hP hS (d_X6_adapt l E ρ ρ (xs (1 + j)) (xs (2 + j)) (xs (3 + j)) hI.1) lk_RL_66 (hrecv (ci := 6) B hP (by decide) (hcc6 _ _ (show hk 0 = 6 by decide +kernel)) rfl) rfl rfl hl.1 (Nat.le_of_ble_eq_true rfl) ⟨Nat.le_of_ble_eq_true rfl, Nat.le_of_ble_eq_true rfl⟩ ⟨Nat.le_of_ble_eq_true rfl, Nat.le_of_ble_eq_true rfl⟩ dL_law_726) hS (fun r1 ρ1 H locs q1 hP hS => ?_)
  have hC : CI ρ S0 ρ1 := q1
  refine lv_pop hx hb dL_law_729 rfl ?_
  refine lv_aload_n hx hb dL_law_730 rfl (lv_at hl 1 rfl) ?_
  refine lv_aload_n hx hb dL_law_731 rfl (lv_at hl 3 rfl) ?_
  refine lv_iload_n hx hb dL_law_732 rfl (lv_at hl 0 rfl) ?_
  refine lv_iconst (v := 1) hx hb dL_law_733 (by decide) ?_
  refine lv_iadd hx hb dL_law_734 ?_
  refine lv_topi (fun z4 ez4 => ?_)
  obtain rfl : z4 = (nI (1 + j)) := ez4.trans (by rw [show (nI j) = nI j from rfl, show 1 = nI 1 from rfl, nI_add] <;> exact congrArg nI (by omega))
  refine sldn (q := (1 + j)) B hX hbl hbA hS hL rfl (by omega) dL_law_735 ?_
  refine lv_aload_n hx hb dL_law_736 rfl (lv_at hl 3 rfl) ?_
  refine lv_iload_n hx hb dL_law_737 rfl (lv_at hl 0 rfl) ?_
  refine lv_iconst (v := 2) hx hb dL_law_738 (by decide) ?_
  refine lv_iadd hx hb dL_law_739 ?_
  refine lv_topi (fun z5 ez5 => ?_)
  obtain rfl : z5 = (nI (2 + j)) := ez5.trans (by rw [show (nI j) = nI j from rfl, show 2 = nI 2 from rfl, nI_add] <;> exact congrArg nI (by omega))
  refine sldn (q := (2 + j)) B hX hbl hbA hS hL rfl (by omega) dL_law_740 ?_
  refine lv_aload_n hx hb dL_law_741 rfl (lv_at hl 3 rfl) ?_
  refine lv_iload_n hx hb dL_law_742 rfl (lv_at hl 0 rfl) ?_
  refine lv_iconst (v := 3) hx hb dL_law_743 (by decide) ?_
  refine lv_iadd hx hb dL_law_744 ?_
  refine lv_topi (fun z6 ez6 => ?_)
  obtain rfl : z6 = (nI (3 + j)) := ez6.trans (by rw [show (nI j) = nI j from rfl, show 3 = nI 3 from rfl, nI_add] <;> exact congrArg nI (by omega))
  refine sldn (q := (3 + j)) B hX hbl hbA hS hL rfl (by omega) dL_law_745 ?_
  have hp1 := PI_cls hI.2 hC
  obtain ⟨M, LL, hG⟩ := hp1.2.1
  refine call_i (cVt (k := 1076) (av := [.int (xs (1 + j)), .int (xs (2 + j)), .int (xs (3 + j))]) (rest := []) B hP hS (d_X7_adapt l E ρ1 ρ1 M LL ⟨hp1, hG⟩ (xs (1 + j)) (xs (2 + j)) (xs (3 + j))) lk_RL_69 (hrecv (ci := 7) B hP (by decide) (hcc7 _ _ (show hk 1076 = 7 by decide +kernel)) rfl) rfl rfl hl.1 (Nat.le_of_ble_eq_true rfl) ⟨Nat.le_of_ble_eq_true rfl, Nat.le_of_ble_eq_true rfl⟩ ⟨Nat.le_of_ble_eq_true rfl, Nat.le_of_ble_eq_true rfl⟩ dL_law_746) hS (fun r2 ρ2 H locs q2 hP hS => ?_)
  have hp : PI ρ1 ρ2 := q2.1
  refine lv_pop hx hb dL_law_749 rfl ?_
  refine lv_goto (tgt := 1796) hx hb dL_law_750 (by decide) ?_
  exact kk ρ2 _ _ (LI_step hC hp) hP hS
set_option maxHeartbeats 4000000 in
set_option maxRecDepth 100000 in
theorem op_13 (B : MB p s m #[Value.ref b] c code 4 RL E) (hl : lv_has ls 4 [(3, .int (nI j)), (2, .ref (E.2.1 + 1076)), (1, .ref (E.2.1 + 0)), (0, .ref b)]) (hP : WP E ρ H) (hS : va_S (hA E) s.heap H locs) (hX : va_X b L xs s s.heap) (hbl : b < s.heap.size) (hbA : ¬ hA E b) (hI : LI ρ) (hj : j + 6 ≤ L) (hL : L ≤ 3072) (kk : ∀ (ρ : Nat → Nat → Int32) (H : Heap) (locs : List Loc), LI ρ → WP E ρ H → va_S (hA E) s.heap H locs → W p l e room_1 s m #[Value.ref b] below meth c H locs 1090 19159 Q (F0 m 1796 ls [])) : W p l e room_1 s m #[Value.ref b] below meth c H locs 1090 19159 Q (F0 m 753 ls []) := by
  have hx := B.1.1
  have hb := B.1.2.1
  refine lv_aload_n hx hb dL_law_753 rfl (lv_at hl 2 rfl) ?_
  refine lv_aload_n hx hb dL_law_754 rfl (lv_at hl 3 rfl) ?_
  refine lv_iload_n hx hb dL_law_755 rfl (lv_at hl 0 rfl) ?_
  refine lv_iconst (v := 1) hx hb dL_law_756 (by decide) ?_
  refine lv_iadd hx hb dL_law_757 ?_
  refine lv_topi (fun z1 ez1 => ?_)
  obtain rfl : z1 = (nI (1 + j)) := ez1.trans (by rw [show (nI j) = nI j from rfl, show 1 = nI 1 from rfl, nI_add] <;> exact congrArg nI (by omega))
  refine sldn (q := (1 + j)) B hX hbl hbA hS hL rfl (by omega) dL_law_758 ?_
  refine call_i (cVt (k := 0) (av := [.int (xs (1 + j))]) (rest := []) B hP hS (d_X6_run l E ρ ρ (xs (1 + j)) hI.1) lk_RL_70 (hrecv (ci := 6) B hP (by decide) (hcc6 _ _ (show hk 0 = 6 by decide +kernel)) rfl) rfl rfl hl.1 (Nat.le_of_ble_eq_true rfl) ⟨Nat.le_of_ble_eq_true rfl, Nat.le_of_ble_eq_true rfl⟩ ⟨Nat.le_of_ble_eq_true rfl, Nat.le_of_ble_eq_true rfl⟩ dL_law_759) hS (fun r1 ρ1 H locs q1 hP hS => ?_)
  have hC : CI ρ S0 ρ1 := q1
  refine lv_pop hx hb dL_law_762 rfl ?_
  refine lv_aload_n hx hb dL_law_763 rfl (lv_at hl 1 rfl) ?_
  refine lv_aload_n hx hb dL_law_764 rfl (lv_at hl 3 rfl) ?_
  refine lv_iload_n hx hb dL_law_765 rfl (lv_at hl 0 rfl) ?_
  refine lv_iconst (v := 1) hx hb dL_law_766 (by decide) ?_
  refine lv_iadd hx hb dL_law_767 ?_
  refine lv_topi (fun z2 ez2 => ?_)
  obtain rfl : z2 = (nI (1 + j)) := ez2.trans (by rw [show (nI j) = nI j from rfl, show 1 = nI 1 from rfl, nI_add] <;> exact congrArg nI (by omega))
  refine sldn (q := (1 + j)) B hX hbl hbA hS hL rfl (by omega) dL_law_768 ?_
  have hp1 := PI_cls hI.2 hC
  obtain ⟨M, LL, hG⟩ := hp1.2.1
  refine call_i (cVt (k := 1076) (av := [.int (xs (1 + j))]) (rest := []) B hP hS (d_X7_run l E ρ1 ρ1 M LL ⟨hp1, hG⟩ (xs (1 + j))) lk_RL_73 (hrecv (ci := 7) B hP (by decide) (hcc7 _ _ (show hk 1076 = 7 by decide +kernel)) rfl) rfl rfl hl.1 (Nat.le_of_ble_eq_true rfl) ⟨Nat.le_of_ble_eq_true rfl, Nat.le_of_ble_eq_true rfl⟩ ⟨Nat.le_of_ble_eq_true rfl, Nat.le_of_ble_eq_true rfl⟩ dL_law_769) hS (fun r2 ρ2 H locs q2 hP hS => ?_)
  have hp : PI ρ1 ρ2 := q2.1
  refine lv_pop hx hb dL_law_772 rfl ?_
  refine lv_goto (tgt := 1796) hx hb dL_law_773 (by decide) ?_
  exact kk ρ2 _ _ (LI_step hC hp) hP hS
set_option maxHeartbeats 4000000 in
set_option maxRecDepth 100000 in
theorem op_14 (B : MB p s m #[Value.ref b] c code 4 RL E) (hl : lv_has ls 4 [(3, .int (nI j)), (2, .ref (E.2.1 + 1076)), (1, .ref (E.2.1 + 0)), (0, .ref b)]) (hP : WP E ρ H) (hS : va_S (hA E) s.heap H locs) (hX : va_X b L xs s s.heap) (hbl : b < s.heap.size) (hbA : ¬ hA E b) (hI : LI ρ) (hj : j + 6 ≤ L) (hL : L ≤ 3072) (kk : ∀ (ρ : Nat → Nat → Int32) (H : Heap) (locs : List Loc), LI ρ → WP E ρ H → va_S (hA E) s.heap H locs → W p l e room_1 s m #[Value.ref b] below meth c H locs 1090 19159 Q (F0 m 1796 ls [])) : W p l e room_1 s m #[Value.ref b] below meth c H locs 1090 19159 Q (F0 m 776 ls []) := by
  have hx := B.1.1
  have hb := B.1.2.1
  refine lv_aload_n hx hb dL_law_776 rfl (lv_at hl 2 rfl) ?_
  refine call_i (cVt (k := 0) (av := []) (rest := []) B hP hS (d_X6_undo l E ρ ρ hI.1) lk_RL_74 (hrecv (ci := 6) B hP (by decide) (hcc6 _ _ (show hk 0 = 6 by decide +kernel)) rfl) rfl rfl hl.1 (Nat.le_of_ble_eq_true rfl) ⟨Nat.le_of_ble_eq_true rfl, Nat.le_of_ble_eq_true rfl⟩ ⟨Nat.le_of_ble_eq_true rfl, Nat.le_of_ble_eq_true rfl⟩ dL_law_777) hS (fun r1 ρ1 H locs q1 hP hS => ?_)
  have hC : CI ρ S0 ρ1 := q1
  refine lv_pop hx hb dL_law_780 rfl ?_
  refine lv_aload_n hx hb dL_law_781 rfl (lv_at hl 1 rfl) ?_
  have hp1 := PI_cls hI.2 hC
  obtain ⟨M, LL, hG⟩ := hp1.2.1
  refine call_i (cVt (k := 1076) (av := []) (rest := []) B hP hS (d_X7_undo l E ρ1 ρ1 hp1) lk_RL_78 (hrecv (ci := 7) B hP (by decide) (hcc7 _ _ (show hk 1076 = 7 by decide +kernel)) rfl) rfl rfl hl.1 (Nat.le_of_ble_eq_true rfl) ⟨Nat.le_of_ble_eq_true rfl, Nat.le_of_ble_eq_true rfl⟩ ⟨Nat.le_of_ble_eq_true rfl, Nat.le_of_ble_eq_true rfl⟩ dL_law_782) hS (fun r2 ρ2 H locs q2 hP hS => ?_)
  have hp : PI ρ1 ρ2 := q2
  refine lv_pop hx hb dL_law_785 rfl ?_
  refine lv_goto (tgt := 1796) hx hb dL_law_786 (by decide) ?_
  exact kk ρ2 _ _ (LI_step hC hp) hP hS
set_option maxHeartbeats 4000000 in
set_option maxRecDepth 100000 in
theorem op_15 (B : MB p s m #[Value.ref b] c code 4 RL E) (hl : lv_has ls 4 [(3, .int (nI j)), (2, .ref (E.2.1 + 1076)), (1, .ref (E.2.1 + 0)), (0, .ref b)]) (hP : WP E ρ H) (hS : va_S (hA E) s.heap H locs) (hX : va_X b L xs s s.heap) (hbl : b < s.heap.size) (hbA : ¬ hA E b) (hI : LI ρ) (hj : j + 6 ≤ L) (hL : L ≤ 3072) (kk : ∀ (ρ : Nat → Nat → Int32) (H : Heap) (locs : List Loc), LI ρ → WP E ρ H → va_S (hA E) s.heap H locs → W p l e room_1 s m #[Value.ref b] below meth c H locs 1090 19159 Q (F0 m 1796 ls [])) : W p l e room_1 s m #[Value.ref b] below meth c H locs 1090 19159 Q (F0 m 789 ls []) := by
  have hx := B.1.1
  have hb := B.1.2.1
  refine lv_aload_n hx hb dL_law_789 rfl (lv_at hl 2 rfl) ?_
  refine lv_aload_n hx hb dL_law_790 rfl (lv_at hl 3 rfl) ?_
  refine lv_iload_n hx hb dL_law_791 rfl (lv_at hl 0 rfl) ?_
  refine lv_iconst (v := 1) hx hb dL_law_792 (by decide) ?_
  refine lv_iadd hx hb dL_law_793 ?_
  refine lv_topi (fun z1 ez1 => ?_)
  obtain rfl : z1 = (nI (1 + j)) := ez1.trans (by rw [show (nI j) = nI j from rfl, show 1 = nI 1 from rfl, nI_add] <;> exact congrArg nI (by omega))
  refine sldn (q := (1 + j)) B hX hbl hbA hS hL rfl (by omega) dL_law_794 ?_
  refine call_i (cVt (k := 0) (av := [.int (xs (1 + j))]) (rest := []) B hP hS (d_X6_image l E ρ ρ (xs (1 + j)) hI.1) lk_RL_79 (hrecv (ci := 6) B hP (by decide) (hcc6 _ _ (show hk 0 = 6 by decide +kernel)) rfl) rfl rfl hl.1 (Nat.le_of_ble_eq_true rfl) ⟨Nat.le_of_ble_eq_true rfl, Nat.le_of_ble_eq_true rfl⟩ ⟨Nat.le_of_ble_eq_true rfl, Nat.le_of_ble_eq_true rfl⟩ dL_law_795) hS (fun r1 ρ1 H locs q1 hP hS => ?_)
  have hC : CI ρ S0 ρ1 := q1
  refine lv_pop hx hb dL_law_798 rfl ?_
  refine lv_aload_n hx hb dL_law_799 rfl (lv_at hl 1 rfl) ?_
  refine lv_aload_n hx hb dL_law_800 rfl (lv_at hl 3 rfl) ?_
  refine lv_iload_n hx hb dL_law_801 rfl (lv_at hl 0 rfl) ?_
  refine lv_iconst (v := 1) hx hb dL_law_802 (by decide) ?_
  refine lv_iadd hx hb dL_law_803 ?_
  refine lv_topi (fun z2 ez2 => ?_)
  obtain rfl : z2 = (nI (1 + j)) := ez2.trans (by rw [show (nI j) = nI j from rfl, show 1 = nI 1 from rfl, nI_add] <;> exact congrArg nI (by omega))
  refine sldn (q := (1 + j)) B hX hbl hbA hS hL rfl (by omega) dL_law_804 ?_
  have hp1 := PI_cls hI.2 hC
  obtain ⟨M, LL, hG⟩ := hp1.2.1
  refine call_i (cVt (k := 1076) (av := [.int (xs (1 + j))]) (rest := []) B hP hS (d_X7_image l E ρ1 ρ1 hp1 (xs (1 + j))) lk_RL_82 (hrecv (ci := 7) B hP (by decide) (hcc7 _ _ (show hk 1076 = 7 by decide +kernel)) rfl) rfl rfl hl.1 (Nat.le_of_ble_eq_true rfl) ⟨Nat.le_of_ble_eq_true rfl, Nat.le_of_ble_eq_true rfl⟩ ⟨Nat.le_of_ble_eq_true rfl, Nat.le_of_ble_eq_true rfl⟩ dL_law_805) hS (fun r2 ρ2 H locs q2 hP hS => ?_)
  have hp : PI ρ1 ρ2 := q2
  refine lv_pop hx hb dL_law_808 rfl ?_
  refine lv_goto (tgt := 1796) hx hb dL_law_809 (by decide) ?_
  exact kk ρ2 _ _ (LI_step hC hp) hP hS
set_option maxHeartbeats 4000000 in
set_option maxRecDepth 100000 in
theorem op_16 (B : MB p s m #[Value.ref b] c code 4 RL E) (hl : lv_has ls 4 [(3, .int (nI j)), (2, .ref (E.2.1 + 1076)), (1, .ref (E.2.1 + 0)), (0, .ref b)]) (hP : WP E ρ H) (hS : va_S (hA E) s.heap H locs) (hX : va_X b L xs s s.heap) (hbl : b < s.heap.size) (hbA : ¬ hA E b) (hI : LI ρ) (hj : j + 6 ≤ L) (hL : L ≤ 3072) (kk : ∀ (ρ : Nat → Nat → Int32) (H : Heap) (locs : List Loc), LI ρ → WP E ρ H → va_S (hA E) s.heap H locs → W p l e room_1 s m #[Value.ref b] below meth c H locs 1090 19159 Q (F0 m 1796 ls [])) : W p l e room_1 s m #[Value.ref b] below meth c H locs 1090 19159 Q (F0 m 812 ls []) := by
  have hx := B.1.1
  have hb := B.1.2.1
  refine lv_aload_n hx hb dL_law_812 rfl (lv_at hl 2 rfl) ?_
  refine lv_aload_n hx hb dL_law_813 rfl (lv_at hl 3 rfl) ?_
  refine lv_iload_n hx hb dL_law_814 rfl (lv_at hl 0 rfl) ?_
  refine lv_iconst (v := 1) hx hb dL_law_815 (by decide) ?_
  refine lv_iadd hx hb dL_law_816 ?_
  refine lv_topi (fun z1 ez1 => ?_)
  obtain rfl : z1 = (nI (1 + j)) := ez1.trans (by rw [show (nI j) = nI j from rfl, show 1 = nI 1 from rfl, nI_add] <;> exact congrArg nI (by omega))
  refine sldn (q := (1 + j)) B hX hbl hbA hS hL rfl (by omega) dL_law_817 ?_
  refine call_i (cVt (k := 0) (av := [.int (xs (1 + j))]) (rest := []) B hP hS (d_X6_back l E ρ ρ (xs (1 + j)) hI.1) lk_RL_83 (hrecv (ci := 6) B hP (by decide) (hcc6 _ _ (show hk 0 = 6 by decide +kernel)) rfl) rfl rfl hl.1 (Nat.le_of_ble_eq_true rfl) ⟨Nat.le_of_ble_eq_true rfl, Nat.le_of_ble_eq_true rfl⟩ ⟨Nat.le_of_ble_eq_true rfl, Nat.le_of_ble_eq_true rfl⟩ dL_law_818) hS (fun r1 ρ1 H locs q1 hP hS => ?_)
  have hC : CI ρ S0 ρ1 := q1
  refine lv_pop hx hb dL_law_821 rfl ?_
  refine lv_aload_n hx hb dL_law_822 rfl (lv_at hl 1 rfl) ?_
  refine lv_aload_n hx hb dL_law_823 rfl (lv_at hl 3 rfl) ?_
  refine lv_iload_n hx hb dL_law_824 rfl (lv_at hl 0 rfl) ?_
  refine lv_iconst (v := 1) hx hb dL_law_825 (by decide) ?_
  refine lv_iadd hx hb dL_law_826 ?_
  refine lv_topi (fun z2 ez2 => ?_)
  obtain rfl : z2 = (nI (1 + j)) := ez2.trans (by rw [show (nI j) = nI j from rfl, show 1 = nI 1 from rfl, nI_add] <;> exact congrArg nI (by omega))
  refine sldn (q := (1 + j)) B hX hbl hbA hS hL rfl (by omega) dL_law_827 ?_
  have hp1 := PI_cls hI.2 hC
  obtain ⟨M, LL, hG⟩ := hp1.2.1
  refine call_i (cVt (k := 1076) (av := [.int (xs (1 + j))]) (rest := []) B hP hS (d_X7_back l E ρ1 ρ1 hp1 (xs (1 + j))) lk_RL_86 (hrecv (ci := 7) B hP (by decide) (hcc7 _ _ (show hk 1076 = 7 by decide +kernel)) rfl) rfl rfl hl.1 (Nat.le_of_ble_eq_true rfl) ⟨Nat.le_of_ble_eq_true rfl, Nat.le_of_ble_eq_true rfl⟩ ⟨Nat.le_of_ble_eq_true rfl, Nat.le_of_ble_eq_true rfl⟩ dL_law_828) hS (fun r2 ρ2 H locs q2 hP hS => ?_)
  have hp : PI ρ1 ρ2 := q2
  refine lv_pop hx hb dL_law_831 rfl ?_
  refine lv_goto (tgt := 1796) hx hb dL_law_832 (by decide) ?_
  exact kk ρ2 _ _ (LI_step hC hp) hP hS
set_option maxHeartbeats 4000000 in
set_option maxRecDepth 100000 in
theorem op_17 (B : MB p s m #[Value.ref b] c code 4 RL E) (hl : lv_has ls 4 [(3, .int (nI j)), (2, .ref (E.2.1 + 1076)), (1, .ref (E.2.1 + 0)), (0, .ref b)]) (hP : WP E ρ H) (hS : va_S (hA E) s.heap H locs) (hX : va_X b L xs s s.heap) (hbl : b < s.heap.size) (hbA : ¬ hA E b) (hI : LI ρ) (hj : j + 6 ≤ L) (hL : L ≤ 3072) (kk : ∀ (ρ : Nat → Nat → Int32) (H : Heap) (locs : List Loc), LI ρ → WP E ρ H → va_S (hA E) s.heap H locs → W p l e room_1 s m #[Value.ref b] below meth c H locs 1090 19159 Q (F0 m 1796 ls [])) : W p l e room_1 s m #[Value.ref b] below meth c H locs 1090 19159 Q (F0 m 835 ls []) := by
  have hx := B.1.1
  have hb := B.1.2.1
  refine lv_aload_n hx hb dL_law_835 rfl (lv_at hl 2 rfl) ?_
  refine lv_aload_n hx hb dL_law_836 rfl (lv_at hl 3 rfl) ?_
  refine lv_iload_n hx hb dL_law_837 rfl (lv_at hl 0 rfl) ?_
  refine lv_iconst (v := 1) hx hb dL_law_838 (by decide) ?_
  refine lv_iadd hx hb dL_law_839 ?_
  refine lv_topi (fun z1 ez1 => ?_)
  obtain rfl : z1 = (nI (1 + j)) := ez1.trans (by rw [show (nI j) = nI j from rfl, show 1 = nI 1 from rfl, nI_add] <;> exact congrArg nI (by omega))
  refine sldn (q := (1 + j)) B hX hbl hbA hS hL rfl (by omega) dL_law_840 ?_
  refine lv_aload_n hx hb dL_law_841 rfl (lv_at hl 3 rfl) ?_
  refine lv_iload_n hx hb dL_law_842 rfl (lv_at hl 0 rfl) ?_
  refine lv_iconst (v := 2) hx hb dL_law_843 (by decide) ?_
  refine lv_iadd hx hb dL_law_844 ?_
  refine lv_topi (fun z2 ez2 => ?_)
  obtain rfl : z2 = (nI (2 + j)) := ez2.trans (by rw [show (nI j) = nI j from rfl, show 2 = nI 2 from rfl, nI_add] <;> exact congrArg nI (by omega))
  refine sldn (q := (2 + j)) B hX hbl hbA hS hL rfl (by omega) dL_law_845 ?_
  refine call_i (cVt (k := 0) (av := [.int (xs (1 + j)), .int (xs (2 + j))]) (rest := []) B hP hS (d_X6_kernel l E ρ ρ (xs (1 + j)) (xs (2 + j)) hI.1) lk_RL_87 (hrecv (ci := 6) B hP (by decide) (hcc6 _ _ (show hk 0 = 6 by decide +kernel)) rfl) rfl rfl hl.1 (Nat.le_of_ble_eq_true rfl) ⟨Nat.le_of_ble_eq_true rfl, Nat.le_of_ble_eq_true rfl⟩ ⟨Nat.le_of_ble_eq_true rfl, Nat.le_of_ble_eq_true rfl⟩ dL_law_846) hS (fun r1 ρ1 H locs q1 hP hS => ?_)
  have hC : CI ρ S0 ρ1 := q1.2.1
  refine lv_aload_n hx hb dL_law_849 rfl (lv_at hl 1 rfl) ?_
  refine lv_aload_n hx hb dL_law_850 rfl (lv_at hl 3 rfl) ?_
  refine lv_iload_n hx hb dL_law_851 rfl (lv_at hl 0 rfl) ?_
  refine lv_iconst (v := 1) hx hb dL_law_852 (by decide) ?_
  refine lv_iadd hx hb dL_law_853 ?_
  refine lv_topi (fun z3 ez3 => ?_)
  obtain rfl : z3 = (nI (1 + j)) := ez3.trans (by rw [show (nI j) = nI j from rfl, show 1 = nI 1 from rfl, nI_add] <;> exact congrArg nI (by omega))
  refine sldn (q := (1 + j)) B hX hbl hbA hS hL rfl (by omega) dL_law_854 ?_
  refine lv_aload_n hx hb dL_law_855 rfl (lv_at hl 3 rfl) ?_
  refine lv_iload_n hx hb dL_law_856 rfl (lv_at hl 0 rfl) ?_
  refine lv_iconst (v := 2) hx hb dL_law_857 (by decide) ?_
  refine lv_iadd hx hb dL_law_858 ?_
  refine lv_topi (fun z4 ez4 => ?_)
  obtain rfl : z4 = (nI (2 + j)) := ez4.trans (by rw [show (nI j) = nI j from rfl, show 2 = nI 2 from rfl, nI_add] <;> exact congrArg nI (by omega))
  refine sldn (q := (2 + j)) B hX hbl hbA hS hL rfl (by omega) dL_law_859 ?_
  have hp1 := PI_cls hI.2 hC
  obtain ⟨M, LL, hG⟩ := hp1.2.1
  refine call_i (cVt (k := 1076) (av := [.int (xs (1 + j)), .int (xs (2 + j))]) (rest := [.int r1]) B hP hS (d_X7_kernel l E ρ1 ρ1 99998 (by decide) M LL X0 (xs (1 + j)) (xs (2 + j)) ⟨fun _ _ _ => rfl, rfl, hG⟩) lk_RL_90 (hrecv (ci := 7) B hP (by decide) (hcc7 _ _ (show hk 1076 = 7 by decide +kernel)) rfl) rfl rfl hl.1 (Nat.le_of_ble_eq_true rfl) ⟨Nat.le_of_ble_eq_true rfl, Nat.le_of_ble_eq_true rfl⟩ ⟨Nat.le_of_ble_eq_true rfl, Nat.le_of_ble_eq_true rfl⟩ dL_law_860) hS (fun r2 ρ2 H locs q2 hP hS => ?_)
  have hp : PI ρ1 ρ2 := PI_RI hp1 q2.1
  exact lv_icmp_eq (tgt := 1796) hx hb dL_law_863 (by decide) (fun _ => kk ρ2 _ _ (LI_step hC hp) hP hS) (fun c => absurd (two q1.2.2 (by rw [HOP_KER]; exact q2.2)) c)
set_option maxHeartbeats 4000000 in
set_option maxRecDepth 100000 in
theorem op_18 (B : MB p s m #[Value.ref b] c code 4 RL E) (hl : lv_has ls 4 [(3, .int (nI j)), (2, .ref (E.2.1 + 1076)), (1, .ref (E.2.1 + 0)), (0, .ref b)]) (hP : WP E ρ H) (hS : va_S (hA E) s.heap H locs) (hX : va_X b L xs s s.heap) (hbl : b < s.heap.size) (hbA : ¬ hA E b) (hI : LI ρ) (hj : j + 6 ≤ L) (hL : L ≤ 3072) (kk : ∀ (ρ : Nat → Nat → Int32) (H : Heap) (locs : List Loc), LI ρ → WP E ρ H → va_S (hA E) s.heap H locs → W p l e room_1 s m #[Value.ref b] below meth c H locs 1090 19159 Q (F0 m 1796 ls [])) : W p l e room_1 s m #[Value.ref b] below meth c H locs 1090 19159 Q (F0 m 868 ls []) := by
  have hx := B.1.1
  have hb := B.1.2.1
  refine lv_aload_n hx hb dL_law_868 rfl (lv_at hl 2 rfl) ?_
  refine lv_aload_n hx hb dL_law_869 rfl (lv_at hl 3 rfl) ?_
  refine lv_iload_n hx hb dL_law_870 rfl (lv_at hl 0 rfl) ?_
  refine lv_iconst (v := 1) hx hb dL_law_871 (by decide) ?_
  refine lv_iadd hx hb dL_law_872 ?_
  refine lv_topi (fun z1 ez1 => ?_)
  obtain rfl : z1 = (nI (1 + j)) := ez1.trans (by rw [show (nI j) = nI j from rfl, show 1 = nI 1 from rfl, nI_add] <;> exact congrArg nI (by omega))
  refine sldn (q := (1 + j)) B hX hbl hbA hS hL rfl (by omega) dL_law_873 ?_
  refine lv_aload_n hx hb dL_law_874 rfl (lv_at hl 3 rfl) ?_
  refine lv_iload_n hx hb dL_law_875 rfl (lv_at hl 0 rfl) ?_
  refine lv_iconst (v := 2) hx hb dL_law_876 (by decide) ?_
  refine lv_iadd hx hb dL_law_877 ?_
  refine lv_topi (fun z2 ez2 => ?_)
  obtain rfl : z2 = (nI (2 + j)) := ez2.trans (by rw [show (nI j) = nI j from rfl, show 2 = nI 2 from rfl, nI_add] <;> exact congrArg nI (by omega))
  refine sldn (q := (2 + j)) B hX hbl hbA hS hL rfl (by omega) dL_law_878 ?_
  refine lv_aload_n hx hb dL_law_879 rfl (lv_at hl 3 rfl) ?_
  refine lv_iload_n hx hb dL_law_880 rfl (lv_at hl 0 rfl) ?_
  refine lv_iconst (v := 3) hx hb dL_law_881 (by decide) ?_
  refine lv_iadd hx hb dL_law_882 ?_
  refine lv_topi (fun z3 ez3 => ?_)
  obtain rfl : z3 = (nI (3 + j)) := ez3.trans (by rw [show (nI j) = nI j from rfl, show 3 = nI 3 from rfl, nI_add] <;> exact congrArg nI (by omega))
  refine sldn (q := (3 + j)) B hX hbl hbA hS hL rfl (by omega) dL_law_883 ?_
  refine call_i (cVt (k := 0) (av := [.int (xs (1 + j)), .int (xs (2 + j)), .int (xs (3 + j))]) (rest := []) B hP hS (d_X6_hop l E ρ ρ (xs (1 + j)) (xs (2 + j)) (xs (3 + j)) hI.1) lk_RL_91 (hrecv (ci := 6) B hP (by decide) (hcc6 _ _ (show hk 0 = 6 by decide +kernel)) rfl) rfl rfl hl.1 (Nat.le_of_ble_eq_true rfl) ⟨Nat.le_of_ble_eq_true rfl, Nat.le_of_ble_eq_true rfl⟩ ⟨Nat.le_of_ble_eq_true rfl, Nat.le_of_ble_eq_true rfl⟩ dL_law_884) hS (fun r1 ρ1 H locs q1 hP hS => ?_)
  have hC : CI ρ S0 ρ1 := q1.2
  refine lv_pop hx hb dL_law_887 rfl ?_
  refine lv_aload_n hx hb dL_law_888 rfl (lv_at hl 1 rfl) ?_
  refine lv_aload_n hx hb dL_law_889 rfl (lv_at hl 3 rfl) ?_
  refine lv_iload_n hx hb dL_law_890 rfl (lv_at hl 0 rfl) ?_
  refine lv_iconst (v := 1) hx hb dL_law_891 (by decide) ?_
  refine lv_iadd hx hb dL_law_892 ?_
  refine lv_topi (fun z4 ez4 => ?_)
  obtain rfl : z4 = (nI (1 + j)) := ez4.trans (by rw [show (nI j) = nI j from rfl, show 1 = nI 1 from rfl, nI_add] <;> exact congrArg nI (by omega))
  refine sldn (q := (1 + j)) B hX hbl hbA hS hL rfl (by omega) dL_law_893 ?_
  refine lv_aload_n hx hb dL_law_894 rfl (lv_at hl 3 rfl) ?_
  refine lv_iload_n hx hb dL_law_895 rfl (lv_at hl 0 rfl) ?_
  refine lv_iconst (v := 2) hx hb dL_law_896 (by decide) ?_
  refine lv_iadd hx hb dL_law_897 ?_
  refine lv_topi (fun z5 ez5 => ?_)
  obtain rfl : z5 = (nI (2 + j)) := ez5.trans (by rw [show (nI j) = nI j from rfl, show 2 = nI 2 from rfl, nI_add] <;> exact congrArg nI (by omega))
  refine sldn (q := (2 + j)) B hX hbl hbA hS hL rfl (by omega) dL_law_898 ?_
  refine lv_aload_n hx hb dL_law_899 rfl (lv_at hl 3 rfl) ?_
  refine lv_iload_n hx hb dL_law_900 rfl (lv_at hl 0 rfl) ?_
  refine lv_iconst (v := 3) hx hb dL_law_901 (by decide) ?_
  refine lv_iadd hx hb dL_law_902 ?_
  refine lv_topi (fun z6 ez6 => ?_)
  obtain rfl : z6 = (nI (3 + j)) := ez6.trans (by rw [show (nI j) = nI j from rfl, show 3 = nI 3 from rfl, nI_add] <;> exact congrArg nI (by omega))
  refine sldn (q := (3 + j)) B hX hbl hbA hS hL rfl (by omega) dL_law_903 ?_
  have hp1 := PI_cls hI.2 hC
  obtain ⟨M, LL, hG⟩ := hp1.2.1
  refine call_i (cVt (k := 1076) (av := [.int (xs (1 + j)), .int (xs (2 + j)), .int (xs (3 + j))]) (rest := []) B hP hS (d_X7_hop l E ρ1 ρ1 99998 (by decide) M LL X0 (xs (1 + j)) (xs (2 + j)) (xs (3 + j)) ⟨fun _ _ _ => rfl, rfl, hG⟩) lk_RL_94 (hrecv (ci := 7) B hP (by decide) (hcc7 _ _ (show hk 1076 = 7 by decide +kernel)) rfl) rfl rfl hl.1 (Nat.le_of_ble_eq_true rfl) ⟨Nat.le_of_ble_eq_true rfl, Nat.le_of_ble_eq_true rfl⟩ ⟨Nat.le_of_ble_eq_true rfl, Nat.le_of_ble_eq_true rfl⟩ dL_law_904) hS (fun r2 ρ2 H locs q2 hP hS => ?_)
  have hp : PI ρ1 ρ2 := PI_RI hp1 q2
  refine lv_pop hx hb dL_law_907 rfl ?_
  refine lv_goto (tgt := 1796) hx hb dL_law_908 (by decide) ?_
  exact kk ρ2 _ _ (LI_step hC hp) hP hS
set_option maxHeartbeats 4000000 in
set_option maxRecDepth 100000 in
theorem op_19 (B : MB p s m #[Value.ref b] c code 4 RL E) (hl : lv_has ls 4 [(3, .int (nI j)), (2, .ref (E.2.1 + 1076)), (1, .ref (E.2.1 + 0)), (0, .ref b)]) (hP : WP E ρ H) (hS : va_S (hA E) s.heap H locs) (hX : va_X b L xs s s.heap) (hbl : b < s.heap.size) (hbA : ¬ hA E b) (hI : LI ρ) (hj : j + 6 ≤ L) (hL : L ≤ 3072) (kk : ∀ (ρ : Nat → Nat → Int32) (H : Heap) (locs : List Loc), LI ρ → WP E ρ H → va_S (hA E) s.heap H locs → W p l e room_1 s m #[Value.ref b] below meth c H locs 1090 19159 Q (F0 m 1796 ls [])) : W p l e room_1 s m #[Value.ref b] below meth c H locs 1090 19159 Q (F0 m 911 ls []) := by
  have hx := B.1.1
  have hb := B.1.2.1
  refine lv_aload_n hx hb dL_law_911 rfl (lv_at hl 2 rfl) ?_
  refine lv_aload_n hx hb dL_law_912 rfl (lv_at hl 3 rfl) ?_
  refine lv_iload_n hx hb dL_law_913 rfl (lv_at hl 0 rfl) ?_
  refine lv_iconst (v := 1) hx hb dL_law_914 (by decide) ?_
  refine lv_iadd hx hb dL_law_915 ?_
  refine lv_topi (fun z1 ez1 => ?_)
  obtain rfl : z1 = (nI (1 + j)) := ez1.trans (by rw [show (nI j) = nI j from rfl, show 1 = nI 1 from rfl, nI_add] <;> exact congrArg nI (by omega))
  refine sldn (q := (1 + j)) B hX hbl hbA hS hL rfl (by omega) dL_law_916 ?_
  refine lv_aload_n hx hb dL_law_917 rfl (lv_at hl 3 rfl) ?_
  refine lv_iload_n hx hb dL_law_918 rfl (lv_at hl 0 rfl) ?_
  refine lv_iconst (v := 2) hx hb dL_law_919 (by decide) ?_
  refine lv_iadd hx hb dL_law_920 ?_
  refine lv_topi (fun z2 ez2 => ?_)
  obtain rfl : z2 = (nI (2 + j)) := ez2.trans (by rw [show (nI j) = nI j from rfl, show 2 = nI 2 from rfl, nI_add] <;> exact congrArg nI (by omega))
  refine sldn (q := (2 + j)) B hX hbl hbA hS hL rfl (by omega) dL_law_921 ?_
  refine lv_aload_n hx hb dL_law_922 rfl (lv_at hl 3 rfl) ?_
  refine lv_iload_n hx hb dL_law_923 rfl (lv_at hl 0 rfl) ?_
  refine lv_iconst (v := 3) hx hb dL_law_924 (by decide) ?_
  refine lv_iadd hx hb dL_law_925 ?_
  refine lv_topi (fun z3 ez3 => ?_)
  obtain rfl : z3 = (nI (3 + j)) := ez3.trans (by rw [show (nI j) = nI j from rfl, show 3 = nI 3 from rfl, nI_add] <;> exact congrArg nI (by omega))
  refine sldn (q := (3 + j)) B hX hbl hbA hS hL rfl (by omega) dL_law_926 ?_
  refine call_i (cVt (k := 0) (av := [.int (xs (1 + j)), .int (xs (2 + j)), .int (xs (3 + j))]) (rest := []) B hP hS (d_X6_alike l E ρ ρ (xs (1 + j)) (xs (2 + j)) (xs (3 + j)) hI.1) lk_RL_95 (hrecv (ci := 6) B hP (by decide) (hcc6 _ _ (show hk 0 = 6 by decide +kernel)) rfl) rfl rfl hl.1 (Nat.le_of_ble_eq_true rfl) ⟨Nat.le_of_ble_eq_true rfl, Nat.le_of_ble_eq_true rfl⟩ ⟨Nat.le_of_ble_eq_true rfl, Nat.le_of_ble_eq_true rfl⟩ dL_law_927) hS (fun r1 ρ1 H locs q1 hP hS => ?_)
  have hC : CI ρ S0 ρ1 := q1.2
  refine lv_pop hx hb dL_law_930 rfl ?_
  refine lv_aload_n hx hb dL_law_931 rfl (lv_at hl 1 rfl) ?_
  refine lv_aload_n hx hb dL_law_932 rfl (lv_at hl 3 rfl) ?_
  refine lv_iload_n hx hb dL_law_933 rfl (lv_at hl 0 rfl) ?_
  refine lv_iconst (v := 1) hx hb dL_law_934 (by decide) ?_
  refine lv_iadd hx hb dL_law_935 ?_
  refine lv_topi (fun z4 ez4 => ?_)
  obtain rfl : z4 = (nI (1 + j)) := ez4.trans (by rw [show (nI j) = nI j from rfl, show 1 = nI 1 from rfl, nI_add] <;> exact congrArg nI (by omega))
  refine sldn (q := (1 + j)) B hX hbl hbA hS hL rfl (by omega) dL_law_936 ?_
  refine lv_aload_n hx hb dL_law_937 rfl (lv_at hl 3 rfl) ?_
  refine lv_iload_n hx hb dL_law_938 rfl (lv_at hl 0 rfl) ?_
  refine lv_iconst (v := 2) hx hb dL_law_939 (by decide) ?_
  refine lv_iadd hx hb dL_law_940 ?_
  refine lv_topi (fun z5 ez5 => ?_)
  obtain rfl : z5 = (nI (2 + j)) := ez5.trans (by rw [show (nI j) = nI j from rfl, show 2 = nI 2 from rfl, nI_add] <;> exact congrArg nI (by omega))
  refine sldn (q := (2 + j)) B hX hbl hbA hS hL rfl (by omega) dL_law_941 ?_
  refine lv_aload_n hx hb dL_law_942 rfl (lv_at hl 3 rfl) ?_
  refine lv_iload_n hx hb dL_law_943 rfl (lv_at hl 0 rfl) ?_
  refine lv_iconst (v := 3) hx hb dL_law_944 (by decide) ?_
  refine lv_iadd hx hb dL_law_945 ?_
  refine lv_topi (fun z6 ez6 => ?_)
  obtain rfl : z6 = (nI (3 + j)) := ez6.trans (by rw [show (nI j) = nI j from rfl, show 3 = nI 3 from rfl, nI_add] <;> exact congrArg nI (by omega))
  refine sldn (q := (3 + j)) B hX hbl hbA hS hL rfl (by omega) dL_law_946 ?_
  have hp1 := PI_cls hI.2 hC
  obtain ⟨M, LL, hG⟩ := hp1.2.1
  refine call_i (cVt (k := 1076) (av := [.int (xs (1 + j)), .int (xs (2 + j)), .int (xs (3 + j))]) (rest := []) B hP hS (d_X7_alike l E ρ1 ρ1 99998 (by decide) M LL X0 (xs (1 + j)) (xs (2 + j)) (xs (3 + j)) ⟨fun _ _ _ => rfl, rfl, hG⟩) lk_RL_98 (hrecv (ci := 7) B hP (by decide) (hcc7 _ _ (show hk 1076 = 7 by decide +kernel)) rfl) rfl rfl hl.1 (Nat.le_of_ble_eq_true rfl) ⟨Nat.le_of_ble_eq_true rfl, Nat.le_of_ble_eq_true rfl⟩ ⟨Nat.le_of_ble_eq_true rfl, Nat.le_of_ble_eq_true rfl⟩ dL_law_947) hS (fun r2 ρ2 H locs q2 hP hS => ?_)
  have hp : PI ρ1 ρ2 := PI_RI hp1 q2
  refine lv_pop hx hb dL_law_950 rfl ?_
  refine lv_goto (tgt := 1796) hx hb dL_law_951 (by decide) ?_
  exact kk ρ2 _ _ (LI_step hC hp) hP hS
set_option maxHeartbeats 4000000 in
set_option maxRecDepth 100000 in
theorem op_20 (B : MB p s m #[Value.ref b] c code 4 RL E) (hl : lv_has ls 4 [(3, .int (nI j)), (2, .ref (E.2.1 + 1076)), (1, .ref (E.2.1 + 0)), (0, .ref b)]) (hP : WP E ρ H) (hS : va_S (hA E) s.heap H locs) (hX : va_X b L xs s s.heap) (hbl : b < s.heap.size) (hbA : ¬ hA E b) (hI : LI ρ) (hj : j + 6 ≤ L) (hL : L ≤ 3072) (kk : ∀ (ρ : Nat → Nat → Int32) (H : Heap) (locs : List Loc), LI ρ → WP E ρ H → va_S (hA E) s.heap H locs → W p l e room_1 s m #[Value.ref b] below meth c H locs 1090 19159 Q (F0 m 1796 ls [])) : W p l e room_1 s m #[Value.ref b] below meth c H locs 1090 19159 Q (F0 m 954 ls []) := by
  have hx := B.1.1
  have hb := B.1.2.1
  refine lv_aload_n hx hb dL_law_954 rfl (lv_at hl 2 rfl) ?_
  refine lv_aload_n hx hb dL_law_955 rfl (lv_at hl 3 rfl) ?_
  refine lv_iload_n hx hb dL_law_956 rfl (lv_at hl 0 rfl) ?_
  refine lv_iconst (v := 1) hx hb dL_law_957 (by decide) ?_
  refine lv_iadd hx hb dL_law_958 ?_
  refine lv_topi (fun z1 ez1 => ?_)
  obtain rfl : z1 = (nI (1 + j)) := ez1.trans (by rw [show (nI j) = nI j from rfl, show 1 = nI 1 from rfl, nI_add] <;> exact congrArg nI (by omega))
  refine sldn (q := (1 + j)) B hX hbl hbA hS hL rfl (by omega) dL_law_959 ?_
  refine lv_aload_n hx hb dL_law_960 rfl (lv_at hl 3 rfl) ?_
  refine lv_iload_n hx hb dL_law_961 rfl (lv_at hl 0 rfl) ?_
  refine lv_iconst (v := 2) hx hb dL_law_962 (by decide) ?_
  refine lv_iadd hx hb dL_law_963 ?_
  refine lv_topi (fun z2 ez2 => ?_)
  obtain rfl : z2 = (nI (2 + j)) := ez2.trans (by rw [show (nI j) = nI j from rfl, show 2 = nI 2 from rfl, nI_add] <;> exact congrArg nI (by omega))
  refine sldn (q := (2 + j)) B hX hbl hbA hS hL rfl (by omega) dL_law_964 ?_
  refine lv_aload_n hx hb dL_law_965 rfl (lv_at hl 3 rfl) ?_
  refine lv_iload_n hx hb dL_law_966 rfl (lv_at hl 0 rfl) ?_
  refine lv_iconst (v := 3) hx hb dL_law_967 (by decide) ?_
  refine lv_iadd hx hb dL_law_968 ?_
  refine lv_topi (fun z3 ez3 => ?_)
  obtain rfl : z3 = (nI (3 + j)) := ez3.trans (by rw [show (nI j) = nI j from rfl, show 3 = nI 3 from rfl, nI_add] <;> exact congrArg nI (by omega))
  refine sldn (q := (3 + j)) B hX hbl hbA hS hL rfl (by omega) dL_law_969 ?_
  refine call_i (cVt (k := 0) (av := [.int (xs (1 + j)), .int (xs (2 + j)), .int (xs (3 + j))]) (rest := []) B hP hS (d_X6_mapOf l E ρ ρ (xs (1 + j)) (xs (2 + j)) (xs (3 + j)) hI.1) lk_RL_99 (hrecv (ci := 6) B hP (by decide) (hcc6 _ _ (show hk 0 = 6 by decide +kernel)) rfl) rfl rfl hl.1 (Nat.le_of_ble_eq_true rfl) ⟨Nat.le_of_ble_eq_true rfl, Nat.le_of_ble_eq_true rfl⟩ ⟨Nat.le_of_ble_eq_true rfl, Nat.le_of_ble_eq_true rfl⟩ dL_law_970) hS (fun r1 ρ1 H locs q1 hP hS => ?_)
  have hC : CI ρ S0 ρ1 := q1.2
  refine lv_pop hx hb dL_law_973 rfl ?_
  refine lv_aload_n hx hb dL_law_974 rfl (lv_at hl 1 rfl) ?_
  refine lv_aload_n hx hb dL_law_975 rfl (lv_at hl 3 rfl) ?_
  refine lv_iload_n hx hb dL_law_976 rfl (lv_at hl 0 rfl) ?_
  refine lv_iconst (v := 1) hx hb dL_law_977 (by decide) ?_
  refine lv_iadd hx hb dL_law_978 ?_
  refine lv_topi (fun z4 ez4 => ?_)
  obtain rfl : z4 = (nI (1 + j)) := ez4.trans (by rw [show (nI j) = nI j from rfl, show 1 = nI 1 from rfl, nI_add] <;> exact congrArg nI (by omega))
  refine sldn (q := (1 + j)) B hX hbl hbA hS hL rfl (by omega) dL_law_979 ?_
  refine lv_aload_n hx hb dL_law_980 rfl (lv_at hl 3 rfl) ?_
  refine lv_iload_n hx hb dL_law_981 rfl (lv_at hl 0 rfl) ?_
  refine lv_iconst (v := 2) hx hb dL_law_982 (by decide) ?_
  refine lv_iadd hx hb dL_law_983 ?_
  refine lv_topi (fun z5 ez5 => ?_)
  obtain rfl : z5 = (nI (2 + j)) := ez5.trans (by rw [show (nI j) = nI j from rfl, show 2 = nI 2 from rfl, nI_add] <;> exact congrArg nI (by omega))
  refine sldn (q := (2 + j)) B hX hbl hbA hS hL rfl (by omega) dL_law_984 ?_
  refine lv_aload_n hx hb dL_law_985 rfl (lv_at hl 3 rfl) ?_
  refine lv_iload_n hx hb dL_law_986 rfl (lv_at hl 0 rfl) ?_
  refine lv_iconst (v := 3) hx hb dL_law_987 (by decide) ?_
  refine lv_iadd hx hb dL_law_988 ?_
  refine lv_topi (fun z6 ez6 => ?_)
  obtain rfl : z6 = (nI (3 + j)) := ez6.trans (by rw [show (nI j) = nI j from rfl, show 3 = nI 3 from rfl, nI_add] <;> exact congrArg nI (by omega))
  refine sldn (q := (3 + j)) B hX hbl hbA hS hL rfl (by omega) dL_law_989 ?_
  have hp1 := PI_cls hI.2 hC
  obtain ⟨M, LL, hG⟩ := hp1.2.1
  refine call_i (cVt (k := 1076) (av := [.int (xs (1 + j)), .int (xs (2 + j)), .int (xs (3 + j))]) (rest := []) B hP hS (d_X7_mapOf l E ρ1 ρ1 99998 (by decide) M LL X0 (xs (1 + j)) (xs (2 + j)) (xs (3 + j)) ⟨fun _ _ _ => rfl, rfl, hG⟩) lk_RL_102 (hrecv (ci := 7) B hP (by decide) (hcc7 _ _ (show hk 1076 = 7 by decide +kernel)) rfl) rfl rfl hl.1 (Nat.le_of_ble_eq_true rfl) ⟨Nat.le_of_ble_eq_true rfl, Nat.le_of_ble_eq_true rfl⟩ ⟨Nat.le_of_ble_eq_true rfl, Nat.le_of_ble_eq_true rfl⟩ dL_law_990) hS (fun r2 ρ2 H locs q2 hP hS => ?_)
  have hp : PI ρ1 ρ2 := PI_RI hp1 q2
  refine lv_pop hx hb dL_law_993 rfl ?_
  refine lv_goto (tgt := 1796) hx hb dL_law_994 (by decide) ?_
  exact kk ρ2 _ _ (LI_step hC hp) hP hS
set_option maxHeartbeats 4000000 in
set_option maxRecDepth 100000 in
theorem op_21 (B : MB p s m #[Value.ref b] c code 4 RL E) (hl : lv_has ls 4 [(3, .int (nI j)), (2, .ref (E.2.1 + 1076)), (1, .ref (E.2.1 + 0)), (0, .ref b)]) (hP : WP E ρ H) (hS : va_S (hA E) s.heap H locs) (hX : va_X b L xs s s.heap) (hbl : b < s.heap.size) (hbA : ¬ hA E b) (hI : LI ρ) (hj : j + 6 ≤ L) (hL : L ≤ 3072) (kk : ∀ (ρ : Nat → Nat → Int32) (H : Heap) (locs : List Loc), LI ρ → WP E ρ H → va_S (hA E) s.heap H locs → W p l e room_1 s m #[Value.ref b] below meth c H locs 1090 19159 Q (F0 m 1796 ls [])) : W p l e room_1 s m #[Value.ref b] below meth c H locs 1090 19159 Q (F0 m 997 ls []) := by
  have hx := B.1.1
  have hb := B.1.2.1
  refine lv_aload_n hx hb dL_law_997 rfl (lv_at hl 2 rfl) ?_
  refine call_i (cVt (k := 0) (av := []) (rest := []) B hP hS (d_X6_meets l E ρ ρ hI.1) lk_RL_103 (hrecv (ci := 6) B hP (by decide) (hcc6 _ _ (show hk 0 = 6 by decide +kernel)) rfl) rfl rfl hl.1 (Nat.le_of_ble_eq_true rfl) ⟨Nat.le_of_ble_eq_true rfl, Nat.le_of_ble_eq_true rfl⟩ ⟨Nat.le_of_ble_eq_true rfl, Nat.le_of_ble_eq_true rfl⟩ dL_law_998) hS (fun r1 ρ1 H locs q1 hP hS => ?_)
  have hC : CI ρ S0 ρ1 := q1.2
  refine lv_pop hx hb dL_law_1001 rfl ?_
  refine lv_aload_n hx hb dL_law_1002 rfl (lv_at hl 1 rfl) ?_
  have hp1 := PI_cls hI.2 hC
  obtain ⟨M, LL, hG⟩ := hp1.2.1
  refine call_i (cVt (k := 1076) (av := []) (rest := []) B hP hS (d_X7_meets l E ρ1 ρ1 99998 (by decide) M LL X0 ⟨fun _ _ _ => rfl, rfl, hG⟩) lk_RL_106 (hrecv (ci := 7) B hP (by decide) (hcc7 _ _ (show hk 1076 = 7 by decide +kernel)) rfl) rfl rfl hl.1 (Nat.le_of_ble_eq_true rfl) ⟨Nat.le_of_ble_eq_true rfl, Nat.le_of_ble_eq_true rfl⟩ ⟨Nat.le_of_ble_eq_true rfl, Nat.le_of_ble_eq_true rfl⟩ dL_law_1003) hS (fun r2 ρ2 H locs q2 hP hS => ?_)
  have hp : PI ρ1 ρ2 := PI_RI hp1 q2
  refine lv_pop hx hb dL_law_1006 rfl ?_
  refine lv_goto (tgt := 1796) hx hb dL_law_1007 (by decide) ?_
  exact kk ρ2 _ _ (LI_step hC hp) hP hS
end OP
