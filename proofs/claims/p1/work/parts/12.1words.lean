theorem m_1000 : Cond.code yX11_least cX11_least 2 (some .int) ∈ TB := tb_m 1000 (by decide +kernel) (by decide +kernel)
theorem m_1001 : Cond.methodLink RL 133 yX11_round ∈ TB := tb_m 1001 (by decide +kernel) (by decide +kernel)
theorem m_1002 : Cond.instanceMethod yX11_round ∈ TB := tb_m 1002 (by decide +kernel) (by decide +kernel)
theorem m_1003 : Cond.selects RX11 yX11_round yX11_round ∈ TB := tb_m 1003 (by decide +kernel) (by decide +kernel)
theorem m_1004 : Cond.code yX11_round cX11_round 2 (some .int) ∈ TB := tb_m 1004 (by decide +kernel) (by decide +kernel)
theorem m_1013 : Cond.methodLink RL 137 yX11_dumb ∈ TB := tb_m 1013 (by decide +kernel) (by decide +kernel)
theorem m_1014 : Cond.instanceMethod yX11_dumb ∈ TB := tb_m 1014 (by decide +kernel) (by decide +kernel)
theorem m_1015 : Cond.selects RX11 yX11_dumb yX11_dumb ∈ TB := tb_m 1015 (by decide +kernel) (by decide +kernel)
theorem m_1016 : Cond.code yX11_dumb cX11_dumb 1 (some .int) ∈ TB := tb_m 1016 (by decide +kernel) (by decide +kernel)
theorem m_1021 : Cond.methodLink RL 141 yX11_cost ∈ TB := tb_m 1021 (by decide +kernel) (by decide +kernel)
theorem m_1022 : Cond.instanceMethod yX11_cost ∈ TB := tb_m 1022 (by decide +kernel) (by decide +kernel)
theorem m_1023 : Cond.selects RX11 yX11_cost yX11_cost ∈ TB := tb_m 1023 (by decide +kernel) (by decide +kernel)
theorem m_1024 : Cond.code yX11_cost cX11_cost 2 (some .int) ∈ TB := tb_m 1024 (by decide +kernel) (by decide +kernel)
theorem m_1029 : Cond.methodLink RL 145 yX11_costs ∈ TB := tb_m 1029 (by decide +kernel) (by decide +kernel)
theorem m_1030 : Cond.instanceMethod yX11_costs ∈ TB := tb_m 1030 (by decide +kernel) (by decide +kernel)
theorem m_1031 : Cond.selects RX11 yX11_costs yX11_costs ∈ TB := tb_m 1031 (by decide +kernel) (by decide +kernel)
theorem m_1032 : Cond.code yX11_costs cX11_costs 1 (some .int) ∈ TB := tb_m 1032 (by decide +kernel) (by decide +kernel)
theorem m_1039 : Cond.methodLink RL 149 yX11_by ∈ TB := tb_m 1039 (by decide +kernel) (by decide +kernel)
theorem m_1040 : Cond.instanceMethod yX11_by ∈ TB := tb_m 1040 (by decide +kernel) (by decide +kernel)
theorem m_1041 : Cond.selects RX11 yX11_by yX11_by ∈ TB := tb_m 1041 (by decide +kernel) (by decide +kernel)
theorem m_1042 : Cond.code yX11_by cX11_by 2 (some .int) ∈ TB := tb_m 1042 (by decide +kernel) (by decide +kernel)
theorem m_1046 : Cond.methodLink RL 153 yX11_cheapest ∈ TB := tb_m 1046 (by decide +kernel) (by decide +kernel)
theorem m_1047 : Cond.instanceMethod yX11_cheapest ∈ TB := tb_m 1047 (by decide +kernel) (by decide +kernel)
theorem m_1048 : Cond.selects RX11 yX11_cheapest yX11_cheapest ∈ TB := tb_m 1048 (by decide +kernel) (by decide +kernel)
theorem m_1049 : Cond.code yX11_cheapest cX11_cheapest 2 (some .int) ∈ TB := tb_m 1049 (by decide +kernel) (by decide +kernel)
theorem m_1057 : Cond.methodLink RL 157 yX11_cover ∈ TB := tb_m 1057 (by decide +kernel) (by decide +kernel)
theorem m_1058 : Cond.instanceMethod yX11_cover ∈ TB := tb_m 1058 (by decide +kernel) (by decide +kernel)
theorem m_1059 : Cond.selects RX11 yX11_cover yX11_cover ∈ TB := tb_m 1059 (by decide +kernel) (by decide +kernel)
theorem m_1060 : Cond.code yX11_cover cX11_cover 3 (some .int) ∈ TB := tb_m 1060 (by decide +kernel) (by decide +kernel)
theorem m_1071 : Cond.methodLink RL 161 yX11_covers ∈ TB := tb_m 1071 (by decide +kernel) (by decide +kernel)
theorem m_1072 : Cond.instanceMethod yX11_covers ∈ TB := tb_m 1072 (by decide +kernel) (by decide +kernel)
theorem m_1073 : Cond.selects RX11 yX11_covers yX11_covers ∈ TB := tb_m 1073 (by decide +kernel) (by decide +kernel)
theorem m_1074 : Cond.code yX11_covers cX11_covers 2 (some .int) ∈ TB := tb_m 1074 (by decide +kernel) (by decide +kernel)
theorem m_1075 : Cond.methodLink RL 165 yX11_house ∈ TB := tb_m 1075 (by decide +kernel) (by decide +kernel)
theorem m_1076 : Cond.instanceMethod yX11_house ∈ TB := tb_m 1076 (by decide +kernel) (by decide +kernel)
theorem m_1077 : Cond.selects RX11 yX11_house yX11_house ∈ TB := tb_m 1077 (by decide +kernel) (by decide +kernel)
theorem m_1078 : Cond.code yX11_house cX11_house 1 (some .int) ∈ TB := tb_m 1078 (by decide +kernel) (by decide +kernel)
theorem m_1087 : Cond.methodLink RL 169 yX11_housed ∈ TB := tb_m 1087 (by decide +kernel) (by decide +kernel)
theorem m_1088 : Cond.instanceMethod yX11_housed ∈ TB := tb_m 1088 (by decide +kernel) (by decide +kernel)
theorem m_1089 : Cond.selects RX11 yX11_housed yX11_housed ∈ TB := tb_m 1089 (by decide +kernel) (by decide +kernel)
theorem m_1090 : Cond.code yX11_housed cX11_housed 1 (some .int) ∈ TB := tb_m 1090 (by decide +kernel) (by decide +kernel)
theorem m_1091 : Cond.methodLink RL 173 yX11_feint ∈ TB := tb_m 1091 (by decide +kernel) (by decide +kernel)
theorem m_1092 : Cond.instanceMethod yX11_feint ∈ TB := tb_m 1092 (by decide +kernel) (by decide +kernel)
theorem m_1093 : Cond.selects RX11 yX11_feint yX11_feint ∈ TB := tb_m 1093 (by decide +kernel) (by decide +kernel)
theorem m_1094 : Cond.code yX11_feint cX11_feint 2 (some .int) ∈ TB := tb_m 1094 (by decide +kernel) (by decide +kernel)
theorem m_1103 : Cond.methodLink RL 177 yX11_gains ∈ TB := tb_m 1103 (by decide +kernel) (by decide +kernel)
theorem m_1104 : Cond.instanceMethod yX11_gains ∈ TB := tb_m 1104 (by decide +kernel) (by decide +kernel)
theorem m_1105 : Cond.selects RX11 yX11_gains yX11_gains ∈ TB := tb_m 1105 (by decide +kernel) (by decide +kernel)
theorem m_1106 : Cond.code yX11_gains cX11_gains 2 (some .int) ∈ TB := tb_m 1106 (by decide +kernel) (by decide +kernel)
theorem m_1107 : Cond.methodLink RL 181 yX11_restless ∈ TB := tb_m 1107 (by decide +kernel) (by decide +kernel)
theorem m_1108 : Cond.instanceMethod yX11_restless ∈ TB := tb_m 1108 (by decide +kernel) (by decide +kernel)
theorem m_1109 : Cond.selects RX11 yX11_restless yX11_restless ∈ TB := tb_m 1109 (by decide +kernel) (by decide +kernel)
theorem m_1110 : Cond.code yX11_restless cX11_restless 3 (some .int) ∈ TB := tb_m 1110 (by decide +kernel) (by decide +kernel)
theorem m_1111 : Cond.methodLink RL 185 yX11_seats ∈ TB := tb_m 1111 (by decide +kernel) (by decide +kernel)
theorem m_1112 : Cond.instanceMethod yX11_seats ∈ TB := tb_m 1112 (by decide +kernel) (by decide +kernel)
theorem m_1113 : Cond.selects RX11 yX11_seats yX11_seats ∈ TB := tb_m 1113 (by decide +kernel) (by decide +kernel)
theorem m_1114 : Cond.code yX11_seats cX11_seats 2 (some .int) ∈ TB := tb_m 1114 (by decide +kernel) (by decide +kernel)
theorem m_1123 : Cond.methodLink RL 189 yX11_majority ∈ TB := tb_m 1123 (by decide +kernel) (by decide +kernel)
theorem m_1124 : Cond.instanceMethod yX11_majority ∈ TB := tb_m 1124 (by decide +kernel) (by decide +kernel)
theorem m_1125 : Cond.selects RX11 yX11_majority yX11_majority ∈ TB := tb_m 1125 (by decide +kernel) (by decide +kernel)
theorem m_1126 : Cond.code yX11_majority cX11_majority 2 (some .int) ∈ TB := tb_m 1126 (by decide +kernel) (by decide +kernel)
theorem m_1132 : Cond.methodLink RL 193 yX11_share ∈ TB := tb_m 1132 (by decide +kernel) (by decide +kernel)
theorem m_1133 : Cond.instanceMethod yX11_share ∈ TB := tb_m 1133 (by decide +kernel) (by decide +kernel)
theorem m_1134 : Cond.selects RX11 yX11_share yX11_share ∈ TB := tb_m 1134 (by decide +kernel) (by decide +kernel)
theorem m_1135 : Cond.code yX11_share cX11_share 4 (some .int) ∈ TB := tb_m 1135 (by decide +kernel) (by decide +kernel)
theorem m_1147 : Cond.methodLink RL 197 yX11_coalition ∈ TB := tb_m 1147 (by decide +kernel) (by decide +kernel)
theorem m_1148 : Cond.instanceMethod yX11_coalition ∈ TB := tb_m 1148 (by decide +kernel) (by decide +kernel)
theorem m_1149 : Cond.selects RX11 yX11_coalition yX11_coalition ∈ TB := tb_m 1149 (by decide +kernel) (by decide +kernel)
theorem m_1150 : Cond.code yX11_coalition cX11_coalition 1 (some .int) ∈ TB := tb_m 1150 (by decide +kernel) (by decide +kernel)
theorem m_1155 : Cond.methodLink RL 201 yX11_breaks ∈ TB := tb_m 1155 (by decide +kernel) (by decide +kernel)
theorem m_1156 : Cond.instanceMethod yX11_breaks ∈ TB := tb_m 1156 (by decide +kernel) (by decide +kernel)
theorem m_1157 : Cond.selects RX11 yX11_breaks yX11_breaks ∈ TB := tb_m 1157 (by decide +kernel) (by decide +kernel)
theorem m_1158 : Cond.code yX11_breaks cX11_breaks 2 (some .int) ∈ TB := tb_m 1158 (by decide +kernel) (by decide +kernel)
theorem m_1163 : Cond.methodLink RL 205 yX11_lists ∈ TB := tb_m 1163 (by decide +kernel) (by decide +kernel)
theorem m_1164 : Cond.instanceMethod yX11_lists ∈ TB := tb_m 1164 (by decide +kernel) (by decide +kernel)
theorem m_1165 : Cond.selects RX11 yX11_lists yX11_lists ∈ TB := tb_m 1165 (by decide +kernel) (by decide +kernel)
theorem m_1166 : Cond.code yX11_lists cX11_lists 3 (some .int) ∈ TB := tb_m 1166 (by decide +kernel) (by decide +kernel)
theorem m_1178 : Cond.methodLink RL 209 yX11_rigged ∈ TB := tb_m 1178 (by decide +kernel) (by decide +kernel)
theorem m_1179 : Cond.instanceMethod yX11_rigged ∈ TB := tb_m 1179 (by decide +kernel) (by decide +kernel)
theorem m_1180 : Cond.selects RX11 yX11_rigged yX11_rigged ∈ TB := tb_m 1180 (by decide +kernel) (by decide +kernel)
theorem m_1181 : Cond.code yX11_rigged cX11_rigged 2 (some .int) ∈ TB := tb_m 1181 (by decide +kernel) (by decide +kernel)
theorem m_1204 : Cond.methodLink RL 213 yX11_put ∈ TB := tb_m 1204 (by decide +kernel) (by decide +kernel)
theorem m_1205 : Cond.instanceMethod yX11_put ∈ TB := tb_m 1205 (by decide +kernel) (by decide +kernel)
theorem m_1206 : Cond.selects RX11 yX11_put yX11_put ∈ TB := tb_m 1206 (by decide +kernel) (by decide +kernel)
theorem m_1207 : Cond.code yX11_put cX11_put 3 (some .int) ∈ TB := tb_m 1207 (by decide +kernel) (by decide +kernel)
theorem m_1212 : Cond.methodLink RL 217 yX11_speech ∈ TB := tb_m 1212 (by decide +kernel) (by decide +kernel)
theorem m_1213 : Cond.instanceMethod yX11_speech ∈ TB := tb_m 1213 (by decide +kernel) (by decide +kernel)
theorem m_1214 : Cond.selects RX11 yX11_speech yX11_speech ∈ TB := tb_m 1214 (by decide +kernel) (by decide +kernel)
theorem m_1215 : Cond.code yX11_speech cX11_speech 3 (some .int) ∈ TB := tb_m 1215 (by decide +kernel) (by decide +kernel)
theorem m_1239 : Cond.methodLink RL 221 yX11_fits ∈ TB := tb_m 1239 (by decide +kernel) (by decide +kernel)
theorem m_1240 : Cond.instanceMethod yX11_fits ∈ TB := tb_m 1240 (by decide +kernel) (by decide +kernel)
theorem m_1241 : Cond.selects RX11 yX11_fits yX11_fits ∈ TB := tb_m 1241 (by decide +kernel) (by decide +kernel)
theorem m_1242 : Cond.code yX11_fits cX11_fits 3 (some .int) ∈ TB := tb_m 1242 (by decide +kernel) (by decide +kernel)
theorem m_1249 : Cond.methodLink RL 225 yX11_sure ∈ TB := tb_m 1249 (by decide +kernel) (by decide +kernel)
theorem m_1250 : Cond.instanceMethod yX11_sure ∈ TB := tb_m 1250 (by decide +kernel) (by decide +kernel)
theorem m_1251 : Cond.selects RX11 yX11_sure yX11_sure ∈ TB := tb_m 1251 (by decide +kernel) (by decide +kernel)
theorem m_1252 : Cond.code yX11_sure cX11_sure 4 (some .int) ∈ TB := tb_m 1252 (by decide +kernel) (by decide +kernel)
theorem m_1253 : Cond.methodLink RL 229 yX11_stand ∈ TB := tb_m 1253 (by decide +kernel) (by decide +kernel)
theorem m_1254 : Cond.instanceMethod yX11_stand ∈ TB := tb_m 1254 (by decide +kernel) (by decide +kernel)
theorem m_1255 : Cond.selects RX11 yX11_stand yX11_stand ∈ TB := tb_m 1255 (by decide +kernel) (by decide +kernel)
theorem m_1256 : Cond.code yX11_stand cX11_stand 4 (some .int) ∈ TB := tb_m 1256 (by decide +kernel) (by decide +kernel)
theorem m_1257 : Cond.methodLink RL 233 yX11_need ∈ TB := tb_m 1257 (by decide +kernel) (by decide +kernel)
theorem m_1258 : Cond.instanceMethod yX11_need ∈ TB := tb_m 1258 (by decide +kernel) (by decide +kernel)
theorem m_1259 : Cond.selects RX11 yX11_need yX11_need ∈ TB := tb_m 1259 (by decide +kernel) (by decide +kernel)
theorem m_1260 : Cond.code yX11_need cX11_need 4 (some .int) ∈ TB := tb_m 1260 (by decide +kernel) (by decide +kernel)
theorem m_1261 : Cond.methodLink RL 237 yX11_bill ∈ TB := tb_m 1261 (by decide +kernel) (by decide +kernel)
theorem m_1262 : Cond.instanceMethod yX11_bill ∈ TB := tb_m 1262 (by decide +kernel) (by decide +kernel)
theorem m_1263 : Cond.selects RX11 yX11_bill yX11_bill ∈ TB := tb_m 1263 (by decide +kernel) (by decide +kernel)
theorem m_1264 : Cond.code yX11_bill cX11_bill 4 (some .int) ∈ TB := tb_m 1264 (by decide +kernel) (by decide +kernel)
theorem m_1265 : Cond.methodLink RL 241 yX11_drawn ∈ TB := tb_m 1265 (by decide +kernel) (by decide +kernel)
theorem m_1266 : Cond.instanceMethod yX11_drawn ∈ TB := tb_m 1266 (by decide +kernel) (by decide +kernel)
theorem m_1267 : Cond.selects RX11 yX11_drawn yX11_drawn ∈ TB := tb_m 1267 (by decide +kernel) (by decide +kernel)
theorem m_1268 : Cond.code yX11_drawn cX11_drawn 3 (some .int) ∈ TB := tb_m 1268 (by decide +kernel) (by decide +kernel)
theorem m_1286 : Cond.methodLink RL 245 yX11_years ∈ TB := tb_m 1286 (by decide +kernel) (by decide +kernel)
theorem m_1287 : Cond.instanceMethod yX11_years ∈ TB := tb_m 1287 (by decide +kernel) (by decide +kernel)
theorem m_1288 : Cond.selects RX11 yX11_years yX11_years ∈ TB := tb_m 1288 (by decide +kernel) (by decide +kernel)
theorem m_1289 : Cond.code yX11_years cX11_years 6 (some .int) ∈ TB := tb_m 1289 (by decide +kernel) (by decide +kernel)
theorem m_1290 : Cond.methodLink RL 250 yX11_count ∈ TB := tb_m 1290 (by decide +kernel) (by decide +kernel)
theorem m_1291 : Cond.instanceMethod yX11_count ∈ TB := tb_m 1291 (by decide +kernel) (by decide +kernel)
theorem m_1292 : Cond.selects RX11 yX11_count yX11_count ∈ TB := tb_m 1292 (by decide +kernel) (by decide +kernel)
theorem m_1293 : Cond.code yX11_count cX11_count 2 (some .int) ∈ TB := tb_m 1293 (by decide +kernel) (by decide +kernel)
theorem m_1298 : Cond.methodLink RL 254 yX11_image ∈ TB := tb_m 1298 (by decide +kernel) (by decide +kernel)
theorem m_1299 : Cond.instanceMethod yX11_image ∈ TB := tb_m 1299 (by decide +kernel) (by decide +kernel)
theorem m_1300 : Cond.selects RX11 yX11_image yX11_image ∈ TB := tb_m 1300 (by decide +kernel) (by decide +kernel)
theorem m_1301 : Cond.code yX11_image cX11_image 2 (some .int) ∈ TB := tb_m 1301 (by decide +kernel) (by decide +kernel)
theorem m_1302 : Cond.methodLink RL 258 yX11_back ∈ TB := tb_m 1302 (by decide +kernel) (by decide +kernel)
theorem m_1303 : Cond.instanceMethod yX11_back ∈ TB := tb_m 1303 (by decide +kernel) (by decide +kernel)
theorem m_1304 : Cond.selects RX11 yX11_back yX11_back ∈ TB := tb_m 1304 (by decide +kernel) (by decide +kernel)
theorem m_1305 : Cond.code yX11_back cX11_back 2 (some .int) ∈ TB := tb_m 1305 (by decide +kernel) (by decide +kernel)
theorem m_1306 : Cond.methodLink RL 262 yX11_row ∈ TB := tb_m 1306 (by decide +kernel) (by decide +kernel)
theorem m_1307 : Cond.instanceMethod yX11_row ∈ TB := tb_m 1307 (by decide +kernel) (by decide +kernel)
theorem m_1308 : Cond.selects RX11 yX11_row yX11_row ∈ TB := tb_m 1308 (by decide +kernel) (by decide +kernel)
theorem m_1309 : Cond.code yX11_row cX11_row 4 (some .int) ∈ TB := tb_m 1309 (by decide +kernel) (by decide +kernel)
theorem m_1317 : Cond.methodLink RL 268 yX11_write ∈ TB := tb_m 1317 (by decide +kernel) (by decide +kernel)
theorem m_1318 : Cond.instanceMethod yX11_write ∈ TB := tb_m 1318 (by decide +kernel) (by decide +kernel)
theorem m_1319 : Cond.selects RX11 yX11_write yX11_write ∈ TB := tb_m 1319 (by decide +kernel) (by decide +kernel)
theorem m_1320 : Cond.code yX11_write cX11_write 5 (some .int) ∈ TB := tb_m 1320 (by decide +kernel) (by decide +kernel)
theorem m_1329 : Cond.methodLink RL 273 yX11_paste ∈ TB := tb_m 1329 (by decide +kernel) (by decide +kernel)
theorem m_1330 : Cond.instanceMethod yX11_paste ∈ TB := tb_m 1330 (by decide +kernel) (by decide +kernel)
theorem m_1331 : Cond.selects RX11 yX11_paste yX11_paste ∈ TB := tb_m 1331 (by decide +kernel) (by decide +kernel)
theorem m_1332 : Cond.code yX11_paste cX11_paste 8 (some .int) ∈ TB := tb_m 1332 (by decide +kernel) (by decide +kernel)
theorem m_1338 : Cond.classLink RL 10 RX12 ∈ TB := tb_m 1338 (by decide +kernel) (by decide +kernel)
theorem m_1339 : Cond.instantiable RX12 40 ∈ TB := tb_m 1339 (by decide +kernel) (by decide +kernel)
theorem m_1340 : Cond.methodLink RL 12 yX12_init ∈ TB := tb_m 1340 (by decide +kernel) (by decide +kernel)
theorem m_1341 : Cond.instanceMethod yX12_init ∈ TB := tb_m 1341 (by decide +kernel) (by decide +kernel)
theorem m_1342 : Cond.code yX12_init cX12_init 1 none ∈ TB := tb_m 1342 (by decide +kernel) (by decide +kernel)
theorem m_1464 : Cond.methodLink RL 257 yX12_image ∈ TB := tb_m 1464 (by decide +kernel) (by decide +kernel)
theorem m_1465 : Cond.instanceMethod yX12_image ∈ TB := tb_m 1465 (by decide +kernel) (by decide +kernel)
theorem m_1466 : Cond.selects RX12 yX12_image yX12_image ∈ TB := tb_m 1466 (by decide +kernel) (by decide +kernel)
theorem m_1467 : Cond.code yX12_image cX12_image 3 (some .int) ∈ TB := tb_m 1467 (by decide +kernel) (by decide +kernel)
theorem m_1472 : Cond.methodLink RL 261 yX12_back ∈ TB := tb_m 1472 (by decide +kernel) (by decide +kernel)
theorem m_1473 : Cond.instanceMethod yX12_back ∈ TB := tb_m 1473 (by decide +kernel) (by decide +kernel)
theorem m_1474 : Cond.selects RX12 yX12_back yX12_back ∈ TB := tb_m 1474 (by decide +kernel) (by decide +kernel)
theorem m_1475 : Cond.code yX12_back cX12_back 3 (some .int) ∈ TB := tb_m 1475 (by decide +kernel) (by decide +kernel)
theorem m_1476 : Cond.methodLink RL 17 yX12_feed ∈ TB := tb_m 1476 (by decide +kernel) (by decide +kernel)
theorem m_1477 : Cond.instanceMethod yX12_feed ∈ TB := tb_m 1477 (by decide +kernel) (by decide +kernel)
theorem m_1478 : Cond.selects RX12 yX12_feed yX12_feed ∈ TB := tb_m 1478 (by decide +kernel) (by decide +kernel)
theorem m_1479 : Cond.code yX12_feed cX12_feed 7 (some .int) ∈ TB := tb_m 1479 (by decide +kernel) (by decide +kernel)
theorem m_1480 : Cond.methodLink RL 22 yX12_end ∈ TB := tb_m 1480 (by decide +kernel) (by decide +kernel)
theorem m_1481 : Cond.instanceMethod yX12_end ∈ TB := tb_m 1481 (by decide +kernel) (by decide +kernel)
theorem m_1482 : Cond.selects RX12 yX12_end yX12_end ∈ TB := tb_m 1482 (by decide +kernel) (by decide +kernel)
theorem m_1483 : Cond.code yX12_end cX12_end 2 (some .int) ∈ TB := tb_m 1483 (by decide +kernel) (by decide +kernel)
theorem m_1484 : Cond.methodLink RL 31 yX12_fault ∈ TB := tb_m 1484 (by decide +kernel) (by decide +kernel)
theorem m_1485 : Cond.instanceMethod yX12_fault ∈ TB := tb_m 1485 (by decide +kernel) (by decide +kernel)
theorem m_1486 : Cond.selects RX12 yX12_fault yX12_fault ∈ TB := tb_m 1486 (by decide +kernel) (by decide +kernel)
theorem m_1487 : Cond.code yX12_fault cX12_fault 2 (some .int) ∈ TB := tb_m 1487 (by decide +kernel) (by decide +kernel)
theorem m_1488 : Cond.methodLink RL 27 yX12_chamber ∈ TB := tb_m 1488 (by decide +kernel) (by decide +kernel)
theorem m_1489 : Cond.instanceMethod yX12_chamber ∈ TB := tb_m 1489 (by decide +kernel) (by decide +kernel)
theorem m_1490 : Cond.selects RX12 yX12_chamber yX12_chamber ∈ TB := tb_m 1490 (by decide +kernel) (by decide +kernel)
theorem m_1491 : Cond.code yX12_chamber cX12_chamber 2 (some .int) ∈ TB := tb_m 1491 (by decide +kernel) (by decide +kernel)
theorem m_1603 : Cond.methodLink RL 36 yX12_word ∈ TB := tb_m 1603 (by decide +kernel) (by decide +kernel)
theorem m_1604 : Cond.instanceMethod yX12_word ∈ TB := tb_m 1604 (by decide +kernel) (by decide +kernel)
theorem m_1605 : Cond.selects RX12 yX12_word yX12_word ∈ TB := tb_m 1605 (by decide +kernel) (by decide +kernel)
theorem m_1606 : Cond.code yX12_word cX12_word 3 (some .int) ∈ TB := tb_m 1606 (by decide +kernel) (by decide +kernel)
theorem m_1619 : Cond.methodLink RL 40 yX12_speaker ∈ TB := tb_m 1619 (by decide +kernel) (by decide +kernel)
theorem m_1620 : Cond.instanceMethod yX12_speaker ∈ TB := tb_m 1620 (by decide +kernel) (by decide +kernel)
theorem m_1621 : Cond.selects RX12 yX12_speaker yX12_speaker ∈ TB := tb_m 1621 (by decide +kernel) (by decide +kernel)
theorem m_1622 : Cond.code yX12_speaker cX12_speaker 3 (some .int) ∈ TB := tb_m 1622 (by decide +kernel) (by decide +kernel)
theorem m_1632 : Cond.methodLink RL 44 yX12_district ∈ TB := tb_m 1632 (by decide +kernel) (by decide +kernel)
theorem m_1633 : Cond.instanceMethod yX12_district ∈ TB := tb_m 1633 (by decide +kernel) (by decide +kernel)
theorem m_1634 : Cond.selects RX12 yX12_district yX12_district ∈ TB := tb_m 1634 (by decide +kernel) (by decide +kernel)
theorem m_1635 : Cond.code yX12_district cX12_district 3 (some .int) ∈ TB := tb_m 1635 (by decide +kernel) (by decide +kernel)
theorem m_1660 : Cond.methodLink RL 48 yX12_likes ∈ TB := tb_m 1660 (by decide +kernel) (by decide +kernel)
theorem m_1661 : Cond.instanceMethod yX12_likes ∈ TB := tb_m 1661 (by decide +kernel) (by decide +kernel)
theorem m_1662 : Cond.selects RX12 yX12_likes yX12_likes ∈ TB := tb_m 1662 (by decide +kernel) (by decide +kernel)
theorem m_1663 : Cond.code yX12_likes cX12_likes 3 (some .int) ∈ TB := tb_m 1663 (by decide +kernel) (by decide +kernel)
theorem m_1671 : Cond.methodLink RL 52 yX12_order ∈ TB := tb_m 1671 (by decide +kernel) (by decide +kernel)
theorem m_1672 : Cond.instanceMethod yX12_order ∈ TB := tb_m 1672 (by decide +kernel) (by decide +kernel)
theorem m_1673 : Cond.selects RX12 yX12_order yX12_order ∈ TB := tb_m 1673 (by decide +kernel) (by decide +kernel)
theorem m_1674 : Cond.code yX12_order cX12_order 6 (some .int) ∈ TB := tb_m 1674 (by decide +kernel) (by decide +kernel)
theorem m_1691 : Cond.methodLink RL 56 yX12_votes ∈ TB := tb_m 1691 (by decide +kernel) (by decide +kernel)
theorem m_1692 : Cond.instanceMethod yX12_votes ∈ TB := tb_m 1692 (by decide +kernel) (by decide +kernel)
theorem m_1693 : Cond.selects RX12 yX12_votes yX12_votes ∈ TB := tb_m 1693 (by decide +kernel) (by decide +kernel)
theorem m_1694 : Cond.code yX12_votes cX12_votes 2 (some .int) ∈ TB := tb_m 1694 (by decide +kernel) (by decide +kernel)
theorem m_1703 : Cond.methodLink RL 60 yX12_abstains ∈ TB := tb_m 1703 (by decide +kernel) (by decide +kernel)
theorem m_1704 : Cond.instanceMethod yX12_abstains ∈ TB := tb_m 1704 (by decide +kernel) (by decide +kernel)
theorem m_1705 : Cond.selects RX12 yX12_abstains yX12_abstains ∈ TB := tb_m 1705 (by decide +kernel) (by decide +kernel)
theorem m_1706 : Cond.code yX12_abstains cX12_abstains 2 (some .int) ∈ TB := tb_m 1706 (by decide +kernel) (by decide +kernel)
theorem m_1707 : Cond.methodLink RL 64 yX12_wins ∈ TB := tb_m 1707 (by decide +kernel) (by decide +kernel)
theorem m_1708 : Cond.instanceMethod yX12_wins ∈ TB := tb_m 1708 (by decide +kernel) (by decide +kernel)
theorem m_1709 : Cond.selects RX12 yX12_wins yX12_wins ∈ TB := tb_m 1709 (by decide +kernel) (by decide +kernel)
theorem m_1710 : Cond.code yX12_wins cX12_wins 3 (some .int) ∈ TB := tb_m 1710 (by decide +kernel) (by decide +kernel)
theorem m_1730 : Cond.methodLink RL 68 yX12_sits ∈ TB := tb_m 1730 (by decide +kernel) (by decide +kernel)
theorem m_1731 : Cond.instanceMethod yX12_sits ∈ TB := tb_m 1731 (by decide +kernel) (by decide +kernel)
theorem m_1732 : Cond.selects RX12 yX12_sits yX12_sits ∈ TB := tb_m 1732 (by decide +kernel) (by decide +kernel)
theorem m_1733 : Cond.code yX12_sits cX12_sits 3 (some .int) ∈ TB := tb_m 1733 (by decide +kernel) (by decide +kernel)
theorem m_1738 : Cond.methodLink RL 72 yX12_with ∈ TB := tb_m 1738 (by decide +kernel) (by decide +kernel)
theorem m_1739 : Cond.instanceMethod yX12_with ∈ TB := tb_m 1739 (by decide +kernel) (by decide +kernel)
theorem m_1740 : Cond.selects RX12 yX12_with yX12_with ∈ TB := tb_m 1740 (by decide +kernel) (by decide +kernel)
theorem m_1741 : Cond.code yX12_with cX12_with 4 (some .int) ∈ TB := tb_m 1741 (by decide +kernel) (by decide +kernel)
theorem m_1742 : Cond.methodLink RL 76 yX12_struck ∈ TB := tb_m 1742 (by decide +kernel) (by decide +kernel)
theorem m_1743 : Cond.instanceMethod yX12_struck ∈ TB := tb_m 1743 (by decide +kernel) (by decide +kernel)
theorem m_1744 : Cond.selects RX12 yX12_struck yX12_struck ∈ TB := tb_m 1744 (by decide +kernel) (by decide +kernel)
theorem m_1745 : Cond.code yX12_struck cX12_struck 3 (some .int) ∈ TB := tb_m 1745 (by decide +kernel) (by decide +kernel)
theorem m_1746 : Cond.methodLink RL 80 yX12_beats ∈ TB := tb_m 1746 (by decide +kernel) (by decide +kernel)
theorem m_1747 : Cond.instanceMethod yX12_beats ∈ TB := tb_m 1747 (by decide +kernel) (by decide +kernel)
theorem m_1748 : Cond.selects RX12 yX12_beats yX12_beats ∈ TB := tb_m 1748 (by decide +kernel) (by decide +kernel)
theorem m_1749 : Cond.code yX12_beats cX12_beats 3 (some .int) ∈ TB := tb_m 1749 (by decide +kernel) (by decide +kernel)
theorem m_1758 : Cond.methodLink RL 84 yX12_best ∈ TB := tb_m 1758 (by decide +kernel) (by decide +kernel)
theorem m_1759 : Cond.instanceMethod yX12_best ∈ TB := tb_m 1759 (by decide +kernel) (by decide +kernel)
theorem m_1760 : Cond.selects RX12 yX12_best yX12_best ∈ TB := tb_m 1760 (by decide +kernel) (by decide +kernel)
theorem m_1761 : Cond.code yX12_best cX12_best 6 (some .int) ∈ TB := tb_m 1761 (by decide +kernel) (by decide +kernel)
theorem m_1762 : Cond.methodLink RL 88 yX12_unlike_ ∈ TB := tb_m 1762 (by decide +kernel) (by decide +kernel)
theorem m_1763 : Cond.instanceMethod yX12_unlike_ ∈ TB := tb_m 1763 (by decide +kernel) (by decide +kernel)
theorem m_1764 : Cond.selects RX12 yX12_unlike_ yX12_unlike_ ∈ TB := tb_m 1764 (by decide +kernel) (by decide +kernel)
theorem m_1765 : Cond.code yX12_unlike_ cX12_unlike_ 5 (some .int) ∈ TB := tb_m 1765 (by decide +kernel) (by decide +kernel)
theorem m_1770 : Cond.methodLink RL 92 yX12_synonyms ∈ TB := tb_m 1770 (by decide +kernel) (by decide +kernel)
theorem m_1771 : Cond.instanceMethod yX12_synonyms ∈ TB := tb_m 1771 (by decide +kernel) (by decide +kernel)
theorem m_1772 : Cond.selects RX12 yX12_synonyms yX12_synonyms ∈ TB := tb_m 1772 (by decide +kernel) (by decide +kernel)
theorem m_1773 : Cond.code yX12_synonyms cX12_synonyms 4 (some .int) ∈ TB := tb_m 1773 (by decide +kernel) (by decide +kernel)
theorem m_1774 : Cond.methodLink RL 96 yX12_spoils ∈ TB := tb_m 1774 (by decide +kernel) (by decide +kernel)
theorem m_1775 : Cond.instanceMethod yX12_spoils ∈ TB := tb_m 1775 (by decide +kernel) (by decide +kernel)
theorem m_1776 : Cond.selects RX12 yX12_spoils yX12_spoils ∈ TB := tb_m 1776 (by decide +kernel) (by decide +kernel)
theorem m_1777 : Cond.code yX12_spoils cX12_spoils 2 (some .int) ∈ TB := tb_m 1777 (by decide +kernel) (by decide +kernel)
theorem m_1782 : Cond.methodLink RL 100 yX12_spoilers ∈ TB := tb_m 1782 (by decide +kernel) (by decide +kernel)
theorem m_1783 : Cond.instanceMethod yX12_spoilers ∈ TB := tb_m 1783 (by decide +kernel) (by decide +kernel)
theorem m_1784 : Cond.selects RX12 yX12_spoilers yX12_spoilers ∈ TB := tb_m 1784 (by decide +kernel) (by decide +kernel)
theorem m_1785 : Cond.code yX12_spoilers cX12_spoilers 5 (some .int) ∈ TB := tb_m 1785 (by decide +kernel) (by decide +kernel)
theorem m_1786 : Cond.methodLink RL 104 yX12_elected ∈ TB := tb_m 1786 (by decide +kernel) (by decide +kernel)
theorem m_1787 : Cond.instanceMethod yX12_elected ∈ TB := tb_m 1787 (by decide +kernel) (by decide +kernel)
theorem m_1788 : Cond.selects RX12 yX12_elected yX12_elected ∈ TB := tb_m 1788 (by decide +kernel) (by decide +kernel)
theorem m_1789 : Cond.code yX12_elected cX12_elected 1 (some .int) ∈ TB := tb_m 1789 (by decide +kernel) (by decide +kernel)
theorem m_1794 : Cond.methodLink RL 108 yX12_sitting ∈ TB := tb_m 1794 (by decide +kernel) (by decide +kernel)
theorem m_1795 : Cond.instanceMethod yX12_sitting ∈ TB := tb_m 1795 (by decide +kernel) (by decide +kernel)
theorem m_1796 : Cond.selects RX12 yX12_sitting yX12_sitting ∈ TB := tb_m 1796 (by decide +kernel) (by decide +kernel)
theorem m_1797 : Cond.code yX12_sitting cX12_sitting 1 (some .int) ∈ TB := tb_m 1797 (by decide +kernel) (by decide +kernel)
theorem m_1798 : Cond.methodLink RL 112 yX12_term ∈ TB := tb_m 1798 (by decide +kernel) (by decide +kernel)
theorem m_1799 : Cond.instanceMethod yX12_term ∈ TB := tb_m 1799 (by decide +kernel) (by decide +kernel)
theorem m_1800 : Cond.selects RX12 yX12_term yX12_term ∈ TB := tb_m 1800 (by decide +kernel) (by decide +kernel)
theorem m_1801 : Cond.code yX12_term cX12_term 3 (some .int) ∈ TB := tb_m 1801 (by decide +kernel) (by decide +kernel)
theorem m_1806 : Cond.methodLink RL 116 yX12_undo ∈ TB := tb_m 1806 (by decide +kernel) (by decide +kernel)
theorem m_1807 : Cond.instanceMethod yX12_undo ∈ TB := tb_m 1807 (by decide +kernel) (by decide +kernel)
theorem m_1808 : Cond.selects RX12 yX12_undo yX12_undo ∈ TB := tb_m 1808 (by decide +kernel) (by decide +kernel)
theorem m_1809 : Cond.code yX12_undo cX12_undo 3 (some .int) ∈ TB := tb_m 1809 (by decide +kernel) (by decide +kernel)
theorem m_1810 : Cond.methodLink RL 120 yX12_led ∈ TB := tb_m 1810 (by decide +kernel) (by decide +kernel)
theorem m_1811 : Cond.instanceMethod yX12_led ∈ TB := tb_m 1811 (by decide +kernel) (by decide +kernel)
theorem m_1812 : Cond.selects RX12 yX12_led yX12_led ∈ TB := tb_m 1812 (by decide +kernel) (by decide +kernel)
theorem m_1813 : Cond.code yX12_led cX12_led 2 (some .int) ∈ TB := tb_m 1813 (by decide +kernel) (by decide +kernel)
theorem m_1814 : Cond.methodLink RL 124 yX12_dies ∈ TB := tb_m 1814 (by decide +kernel) (by decide +kernel)
theorem m_1815 : Cond.instanceMethod yX12_dies ∈ TB := tb_m 1815 (by decide +kernel) (by decide +kernel)
theorem m_1816 : Cond.selects RX12 yX12_dies yX12_dies ∈ TB := tb_m 1816 (by decide +kernel) (by decide +kernel)
theorem m_1817 : Cond.code yX12_dies cX12_dies 5 (some .int) ∈ TB := tb_m 1817 (by decide +kernel) (by decide +kernel)
theorem m_1818 : Cond.methodLink RL 128 yX12_said ∈ TB := tb_m 1818 (by decide +kernel) (by decide +kernel)
theorem m_1819 : Cond.instanceMethod yX12_said ∈ TB := tb_m 1819 (by decide +kernel) (by decide +kernel)
theorem m_1820 : Cond.selects RX12 yX12_said yX12_said ∈ TB := tb_m 1820 (by decide +kernel) (by decide +kernel)
theorem m_1821 : Cond.code yX12_said cX12_said 2 (some .int) ∈ TB := tb_m 1821 (by decide +kernel) (by decide +kernel)
theorem m_1838 : Cond.methodLink RL 132 yX12_least ∈ TB := tb_m 1838 (by decide +kernel) (by decide +kernel)
theorem m_1839 : Cond.instanceMethod yX12_least ∈ TB := tb_m 1839 (by decide +kernel) (by decide +kernel)
theorem m_1840 : Cond.selects RX12 yX12_least yX12_least ∈ TB := tb_m 1840 (by decide +kernel) (by decide +kernel)
theorem m_1841 : Cond.code yX12_least cX12_least 2 (some .int) ∈ TB := tb_m 1841 (by decide +kernel) (by decide +kernel)
theorem m_1842 : Cond.methodLink RL 136 yX12_round ∈ TB := tb_m 1842 (by decide +kernel) (by decide +kernel)
theorem m_1843 : Cond.instanceMethod yX12_round ∈ TB := tb_m 1843 (by decide +kernel) (by decide +kernel)
theorem m_1844 : Cond.selects RX12 yX12_round yX12_round ∈ TB := tb_m 1844 (by decide +kernel) (by decide +kernel)
theorem m_1845 : Cond.code yX12_round cX12_round 3 (some .int) ∈ TB := tb_m 1845 (by decide +kernel) (by decide +kernel)
theorem m_1846 : Cond.methodLink RL 140 yX12_dumb ∈ TB := tb_m 1846 (by decide +kernel) (by decide +kernel)
theorem m_1847 : Cond.instanceMethod yX12_dumb ∈ TB := tb_m 1847 (by decide +kernel) (by decide +kernel)
theorem m_1848 : Cond.selects RX12 yX12_dumb yX12_dumb ∈ TB := tb_m 1848 (by decide +kernel) (by decide +kernel)
theorem m_1849 : Cond.code yX12_dumb cX12_dumb 1 (some .int) ∈ TB := tb_m 1849 (by decide +kernel) (by decide +kernel)
theorem m_1854 : Cond.methodLink RL 144 yX12_cost ∈ TB := tb_m 1854 (by decide +kernel) (by decide +kernel)
theorem m_1855 : Cond.instanceMethod yX12_cost ∈ TB := tb_m 1855 (by decide +kernel) (by decide +kernel)
theorem m_1856 : Cond.selects RX12 yX12_cost yX12_cost ∈ TB := tb_m 1856 (by decide +kernel) (by decide +kernel)
theorem m_1857 : Cond.code yX12_cost cX12_cost 2 (some .int) ∈ TB := tb_m 1857 (by decide +kernel) (by decide +kernel)
theorem m_1862 : Cond.methodLink RL 148 yX12_costs ∈ TB := tb_m 1862 (by decide +kernel) (by decide +kernel)
theorem m_1863 : Cond.instanceMethod yX12_costs ∈ TB := tb_m 1863 (by decide +kernel) (by decide +kernel)
theorem m_1864 : Cond.selects RX12 yX12_costs yX12_costs ∈ TB := tb_m 1864 (by decide +kernel) (by decide +kernel)
theorem m_1865 : Cond.code yX12_costs cX12_costs 1 (some .int) ∈ TB := tb_m 1865 (by decide +kernel) (by decide +kernel)
theorem m_1870 : Cond.methodLink RL 152 yX12_by ∈ TB := tb_m 1870 (by decide +kernel) (by decide +kernel)
theorem m_1871 : Cond.instanceMethod yX12_by ∈ TB := tb_m 1871 (by decide +kernel) (by decide +kernel)
theorem m_1872 : Cond.selects RX12 yX12_by yX12_by ∈ TB := tb_m 1872 (by decide +kernel) (by decide +kernel)
theorem m_1873 : Cond.code yX12_by cX12_by 2 (some .int) ∈ TB := tb_m 1873 (by decide +kernel) (by decide +kernel)
theorem m_1874 : Cond.methodLink RL 156 yX12_cheapest ∈ TB := tb_m 1874 (by decide +kernel) (by decide +kernel)
theorem m_1875 : Cond.instanceMethod yX12_cheapest ∈ TB := tb_m 1875 (by decide +kernel) (by decide +kernel)
theorem m_1876 : Cond.selects RX12 yX12_cheapest yX12_cheapest ∈ TB := tb_m 1876 (by decide +kernel) (by decide +kernel)
theorem m_1877 : Cond.code yX12_cheapest cX12_cheapest 8 (some .int) ∈ TB := tb_m 1877 (by decide +kernel) (by decide +kernel)
theorem m_1878 : Cond.methodLink RL 160 yX12_cover ∈ TB := tb_m 1878 (by decide +kernel) (by decide +kernel)
theorem m_1879 : Cond.instanceMethod yX12_cover ∈ TB := tb_m 1879 (by decide +kernel) (by decide +kernel)
theorem m_1880 : Cond.selects RX12 yX12_cover yX12_cover ∈ TB := tb_m 1880 (by decide +kernel) (by decide +kernel)
theorem m_1881 : Cond.code yX12_cover cX12_cover 3 (some .int) ∈ TB := tb_m 1881 (by decide +kernel) (by decide +kernel)
theorem m_1890 : Cond.methodLink RL 164 yX12_covers ∈ TB := tb_m 1890 (by decide +kernel) (by decide +kernel)
theorem m_1891 : Cond.instanceMethod yX12_covers ∈ TB := tb_m 1891 (by decide +kernel) (by decide +kernel)
theorem m_1892 : Cond.selects RX12 yX12_covers yX12_covers ∈ TB := tb_m 1892 (by decide +kernel) (by decide +kernel)
theorem m_1893 : Cond.code yX12_covers cX12_covers 2 (some .int) ∈ TB := tb_m 1893 (by decide +kernel) (by decide +kernel)
theorem m_1894 : Cond.methodLink RL 168 yX12_house ∈ TB := tb_m 1894 (by decide +kernel) (by decide +kernel)
theorem m_1895 : Cond.instanceMethod yX12_house ∈ TB := tb_m 1895 (by decide +kernel) (by decide +kernel)
theorem m_1896 : Cond.selects RX12 yX12_house yX12_house ∈ TB := tb_m 1896 (by decide +kernel) (by decide +kernel)
theorem m_1897 : Cond.code yX12_house cX12_house 1 (some .int) ∈ TB := tb_m 1897 (by decide +kernel) (by decide +kernel)
theorem m_1906 : Cond.methodLink RL 172 yX12_housed ∈ TB := tb_m 1906 (by decide +kernel) (by decide +kernel)
theorem m_1907 : Cond.instanceMethod yX12_housed ∈ TB := tb_m 1907 (by decide +kernel) (by decide +kernel)
theorem m_1908 : Cond.selects RX12 yX12_housed yX12_housed ∈ TB := tb_m 1908 (by decide +kernel) (by decide +kernel)
theorem m_1909 : Cond.code yX12_housed cX12_housed 1 (some .int) ∈ TB := tb_m 1909 (by decide +kernel) (by decide +kernel)
theorem m_1910 : Cond.methodLink RL 176 yX12_feint ∈ TB := tb_m 1910 (by decide +kernel) (by decide +kernel)
theorem m_1911 : Cond.instanceMethod yX12_feint ∈ TB := tb_m 1911 (by decide +kernel) (by decide +kernel)
theorem m_1912 : Cond.selects RX12 yX12_feint yX12_feint ∈ TB := tb_m 1912 (by decide +kernel) (by decide +kernel)
theorem m_1913 : Cond.code yX12_feint cX12_feint 2 (some .int) ∈ TB := tb_m 1913 (by decide +kernel) (by decide +kernel)
theorem m_1922 : Cond.methodLink RL 180 yX12_gains ∈ TB := tb_m 1922 (by decide +kernel) (by decide +kernel)
theorem m_1923 : Cond.instanceMethod yX12_gains ∈ TB := tb_m 1923 (by decide +kernel) (by decide +kernel)
theorem m_1924 : Cond.selects RX12 yX12_gains yX12_gains ∈ TB := tb_m 1924 (by decide +kernel) (by decide +kernel)
theorem m_1925 : Cond.code yX12_gains cX12_gains 2 (some .int) ∈ TB := tb_m 1925 (by decide +kernel) (by decide +kernel)
theorem m_1926 : Cond.methodLink RL 184 yX12_restless ∈ TB := tb_m 1926 (by decide +kernel) (by decide +kernel)
theorem m_1927 : Cond.instanceMethod yX12_restless ∈ TB := tb_m 1927 (by decide +kernel) (by decide +kernel)
theorem m_1928 : Cond.selects RX12 yX12_restless yX12_restless ∈ TB := tb_m 1928 (by decide +kernel) (by decide +kernel)
theorem m_1929 : Cond.code yX12_restless cX12_restless 3 (some .int) ∈ TB := tb_m 1929 (by decide +kernel) (by decide +kernel)
theorem m_1930 : Cond.methodLink RL 188 yX12_seats ∈ TB := tb_m 1930 (by decide +kernel) (by decide +kernel)
theorem m_1931 : Cond.instanceMethod yX12_seats ∈ TB := tb_m 1931 (by decide +kernel) (by decide +kernel)
theorem m_1932 : Cond.selects RX12 yX12_seats yX12_seats ∈ TB := tb_m 1932 (by decide +kernel) (by decide +kernel)
theorem m_1933 : Cond.code yX12_seats cX12_seats 2 (some .int) ∈ TB := tb_m 1933 (by decide +kernel) (by decide +kernel)
theorem m_1941 : Cond.methodLink RL 192 yX12_majority ∈ TB := tb_m 1941 (by decide +kernel) (by decide +kernel)
theorem m_1942 : Cond.instanceMethod yX12_majority ∈ TB := tb_m 1942 (by decide +kernel) (by decide +kernel)
theorem m_1943 : Cond.selects RX12 yX12_majority yX12_majority ∈ TB := tb_m 1943 (by decide +kernel) (by decide +kernel)
theorem m_1944 : Cond.code yX12_majority cX12_majority 2 (some .int) ∈ TB := tb_m 1944 (by decide +kernel) (by decide +kernel)
theorem m_1954 : Cond.methodLink RL 196 yX12_share ∈ TB := tb_m 1954 (by decide +kernel) (by decide +kernel)
theorem m_1955 : Cond.instanceMethod yX12_share ∈ TB := tb_m 1955 (by decide +kernel) (by decide +kernel)
theorem m_1956 : Cond.selects RX12 yX12_share yX12_share ∈ TB := tb_m 1956 (by decide +kernel) (by decide +kernel)
theorem m_1957 : Cond.code yX12_share cX12_share 5 (some .int) ∈ TB := tb_m 1957 (by decide +kernel) (by decide +kernel)
theorem m_1964 : Cond.methodLink RL 200 yX12_coalition ∈ TB := tb_m 1964 (by decide +kernel) (by decide +kernel)
theorem m_1965 : Cond.instanceMethod yX12_coalition ∈ TB := tb_m 1965 (by decide +kernel) (by decide +kernel)
theorem m_1966 : Cond.selects RX12 yX12_coalition yX12_coalition ∈ TB := tb_m 1966 (by decide +kernel) (by decide +kernel)
theorem m_1967 : Cond.code yX12_coalition cX12_coalition 3 (some .int) ∈ TB := tb_m 1967 (by decide +kernel) (by decide +kernel)
theorem m_1968 : Cond.methodLink RL 204 yX12_breaks ∈ TB := tb_m 1968 (by decide +kernel) (by decide +kernel)
theorem m_1969 : Cond.instanceMethod yX12_breaks ∈ TB := tb_m 1969 (by decide +kernel) (by decide +kernel)
theorem m_1970 : Cond.selects RX12 yX12_breaks yX12_breaks ∈ TB := tb_m 1970 (by decide +kernel) (by decide +kernel)
theorem m_1971 : Cond.code yX12_breaks cX12_breaks 4 (some .int) ∈ TB := tb_m 1971 (by decide +kernel) (by decide +kernel)
theorem m_1972 : Cond.methodLink RL 208 yX12_lists ∈ TB := tb_m 1972 (by decide +kernel) (by decide +kernel)
theorem m_1973 : Cond.instanceMethod yX12_lists ∈ TB := tb_m 1973 (by decide +kernel) (by decide +kernel)
theorem m_1974 : Cond.selects RX12 yX12_lists yX12_lists ∈ TB := tb_m 1974 (by decide +kernel) (by decide +kernel)
theorem m_1975 : Cond.code yX12_lists cX12_lists 7 (some .int) ∈ TB := tb_m 1975 (by decide +kernel) (by decide +kernel)
theorem m_1977 : Cond.methodLink RL 212 yX12_rigged ∈ TB := tb_m 1977 (by decide +kernel) (by decide +kernel)
theorem m_1978 : Cond.instanceMethod yX12_rigged ∈ TB := tb_m 1978 (by decide +kernel) (by decide +kernel)
theorem m_1979 : Cond.selects RX12 yX12_rigged yX12_rigged ∈ TB := tb_m 1979 (by decide +kernel) (by decide +kernel)
theorem m_1980 : Cond.code yX12_rigged cX12_rigged 2 (some .int) ∈ TB := tb_m 1980 (by decide +kernel) (by decide +kernel)
theorem m_1989 : Cond.methodLink RL 216 yX12_put ∈ TB := tb_m 1989 (by decide +kernel) (by decide +kernel)
theorem m_1990 : Cond.instanceMethod yX12_put ∈ TB := tb_m 1990 (by decide +kernel) (by decide +kernel)
theorem m_1991 : Cond.selects RX12 yX12_put yX12_put ∈ TB := tb_m 1991 (by decide +kernel) (by decide +kernel)
theorem m_1992 : Cond.code yX12_put cX12_put 3 (some .int) ∈ TB := tb_m 1992 (by decide +kernel) (by decide +kernel)
theorem m_1993 : Cond.methodLink RL 220 yX12_speech ∈ TB := tb_m 1993 (by decide +kernel) (by decide +kernel)
theorem m_1994 : Cond.instanceMethod yX12_speech ∈ TB := tb_m 1994 (by decide +kernel) (by decide +kernel)
theorem m_1995 : Cond.selects RX12 yX12_speech yX12_speech ∈ TB := tb_m 1995 (by decide +kernel) (by decide +kernel)
theorem m_1996 : Cond.code yX12_speech cX12_speech 3 (some .int) ∈ TB := tb_m 1996 (by decide +kernel) (by decide +kernel)
theorem m_2013 : Cond.methodLink RL 224 yX12_fits ∈ TB := tb_m 2013 (by decide +kernel) (by decide +kernel)
theorem m_2014 : Cond.instanceMethod yX12_fits ∈ TB := tb_m 2014 (by decide +kernel) (by decide +kernel)
theorem m_2015 : Cond.selects RX12 yX12_fits yX12_fits ∈ TB := tb_m 2015 (by decide +kernel) (by decide +kernel)
theorem m_2016 : Cond.code yX12_fits cX12_fits 3 (some .int) ∈ TB := tb_m 2016 (by decide +kernel) (by decide +kernel)
theorem m_2021 : Cond.methodLink RL 228 yX12_sure ∈ TB := tb_m 2021 (by decide +kernel) (by decide +kernel)
theorem m_2022 : Cond.instanceMethod yX12_sure ∈ TB := tb_m 2022 (by decide +kernel) (by decide +kernel)
theorem m_2023 : Cond.selects RX12 yX12_sure yX12_sure ∈ TB := tb_m 2023 (by decide +kernel) (by decide +kernel)
theorem m_2024 : Cond.code yX12_sure cX12_sure 4 (some .int) ∈ TB := tb_m 2024 (by decide +kernel) (by decide +kernel)
theorem m_2025 : Cond.methodLink RL 232 yX12_stand ∈ TB := tb_m 2025 (by decide +kernel) (by decide +kernel)
theorem m_2026 : Cond.instanceMethod yX12_stand ∈ TB := tb_m 2026 (by decide +kernel) (by decide +kernel)
theorem m_2027 : Cond.selects RX12 yX12_stand yX12_stand ∈ TB := tb_m 2027 (by decide +kernel) (by decide +kernel)
theorem m_2028 : Cond.code yX12_stand cX12_stand 4 (some .int) ∈ TB := tb_m 2028 (by decide +kernel) (by decide +kernel)
theorem m_2029 : Cond.methodLink RL 236 yX12_need ∈ TB := tb_m 2029 (by decide +kernel) (by decide +kernel)
theorem m_2030 : Cond.instanceMethod yX12_need ∈ TB := tb_m 2030 (by decide +kernel) (by decide +kernel)
theorem m_2031 : Cond.selects RX12 yX12_need yX12_need ∈ TB := tb_m 2031 (by decide +kernel) (by decide +kernel)
theorem m_2032 : Cond.code yX12_need cX12_need 4 (some .int) ∈ TB := tb_m 2032 (by decide +kernel) (by decide +kernel)
theorem m_2033 : Cond.methodLink RL 240 yX12_bill ∈ TB := tb_m 2033 (by decide +kernel) (by decide +kernel)
theorem m_2034 : Cond.instanceMethod yX12_bill ∈ TB := tb_m 2034 (by decide +kernel) (by decide +kernel)
theorem m_2035 : Cond.selects RX12 yX12_bill yX12_bill ∈ TB := tb_m 2035 (by decide +kernel) (by decide +kernel)
theorem m_2036 : Cond.code yX12_bill cX12_bill 4 (some .int) ∈ TB := tb_m 2036 (by decide +kernel) (by decide +kernel)
theorem m_2038 : Cond.methodLink RL 244 yX12_drawn ∈ TB := tb_m 2038 (by decide +kernel) (by decide +kernel)
theorem m_2039 : Cond.instanceMethod yX12_drawn ∈ TB := tb_m 2039 (by decide +kernel) (by decide +kernel)
theorem m_2040 : Cond.selects RX12 yX12_drawn yX12_drawn ∈ TB := tb_m 2040 (by decide +kernel) (by decide +kernel)
theorem m_2041 : Cond.code yX12_drawn cX12_drawn 3 (some .int) ∈ TB := tb_m 2041 (by decide +kernel) (by decide +kernel)
theorem m_2054 : Cond.methodLink RL 249 yX12_years ∈ TB := tb_m 2054 (by decide +kernel) (by decide +kernel)
theorem m_2055 : Cond.instanceMethod yX12_years ∈ TB := tb_m 2055 (by decide +kernel) (by decide +kernel)
theorem m_2056 : Cond.selects RX12 yX12_years yX12_years ∈ TB := tb_m 2056 (by decide +kernel) (by decide +kernel)
theorem m_2057 : Cond.code yX12_years cX12_years 6 (some .int) ∈ TB := tb_m 2057 (by decide +kernel) (by decide +kernel)
theorem m_2058 : Cond.methodLink RL 253 yX12_count_ ∈ TB := tb_m 2058 (by decide +kernel) (by decide +kernel)
theorem m_2059 : Cond.instanceMethod yX12_count_ ∈ TB := tb_m 2059 (by decide +kernel) (by decide +kernel)
theorem m_2060 : Cond.selects RX12 yX12_count_ yX12_count_ ∈ TB := tb_m 2060 (by decide +kernel) (by decide +kernel)
theorem m_2061 : Cond.code yX12_count_ cX12_count_ 4 (some .int) ∈ TB := tb_m 2061 (by decide +kernel) (by decide +kernel)
theorem m_2062 : Cond.methodLink RL 265 yX12_row ∈ TB := tb_m 2062 (by decide +kernel) (by decide +kernel)
theorem m_2063 : Cond.instanceMethod yX12_row ∈ TB := tb_m 2063 (by decide +kernel) (by decide +kernel)
theorem m_2064 : Cond.selects RX12 yX12_row yX12_row ∈ TB := tb_m 2064 (by decide +kernel) (by decide +kernel)
theorem m_2065 : Cond.code yX12_row cX12_row 5 (some .int) ∈ TB := tb_m 2065 (by decide +kernel) (by decide +kernel)
theorem m_2066 : Cond.methodLink RL 272 yX12_write ∈ TB := tb_m 2066 (by decide +kernel) (by decide +kernel)
theorem m_2067 : Cond.instanceMethod yX12_write ∈ TB := tb_m 2067 (by decide +kernel) (by decide +kernel)
theorem m_2068 : Cond.selects RX12 yX12_write yX12_write ∈ TB := tb_m 2068 (by decide +kernel) (by decide +kernel)
theorem m_2069 : Cond.code yX12_write cX12_write 5 (some .int) ∈ TB := tb_m 2069 (by decide +kernel) (by decide +kernel)
theorem m_2073 : Cond.methodLink RL 276 yX12_paste ∈ TB := tb_m 2073 (by decide +kernel) (by decide +kernel)
theorem m_2074 : Cond.instanceMethod yX12_paste ∈ TB := tb_m 2074 (by decide +kernel) (by decide +kernel)
theorem m_2075 : Cond.selects RX12 yX12_paste yX12_paste ∈ TB := tb_m 2075 (by decide +kernel) (by decide +kernel)
theorem m_2076 : Cond.code yX12_paste cX12_paste 7 (some .int) ∈ TB := tb_m 2076 (by decide +kernel) (by decide +kernel)
theorem m_2077 : Cond.constantLong RL 266 (4294967295) ∈ TB := tb_m 2077 (by decide +kernel) (by decide +kernel)
theorem m_22 : Cond.classLink RL 7 RX11 ∈ TB := tb_m 22 (by decide +kernel) (by decide +kernel)
theorem m_23 : Cond.instantiable RX11 12 ∈ TB := tb_m 23 (by decide +kernel) (by decide +kernel)
theorem m_24 : Cond.methodLink RL 9 yX11_init ∈ TB := tb_m 24 (by decide +kernel) (by decide +kernel)
theorem m_25 : Cond.instanceMethod yX11_init ∈ TB := tb_m 25 (by decide +kernel) (by decide +kernel)
theorem m_26 : Cond.code yX11_init cX11_init 2 none ∈ TB := tb_m 26 (by decide +kernel) (by decide +kernel)
theorem m_470 : Cond.methodLink RL 13 yX11_feed ∈ TB := tb_m 470 (by decide +kernel) (by decide +kernel)
theorem m_471 : Cond.instanceMethod yX11_feed ∈ TB := tb_m 471 (by decide +kernel) (by decide +kernel)
theorem m_472 : Cond.selects RX11 yX11_feed yX11_feed ∈ TB := tb_m 472 (by decide +kernel) (by decide +kernel)
theorem m_473 : Cond.code yX11_feed cX11_feed 6 (some .int) ∈ TB := tb_m 473 (by decide +kernel) (by decide +kernel)
theorem m_482 : Cond.methodLink RL 18 yX11_end ∈ TB := tb_m 482 (by decide +kernel) (by decide +kernel)
theorem m_483 : Cond.instanceMethod yX11_end ∈ TB := tb_m 483 (by decide +kernel) (by decide +kernel)
theorem m_484 : Cond.selects RX11 yX11_end yX11_end ∈ TB := tb_m 484 (by decide +kernel) (by decide +kernel)
theorem m_485 : Cond.code yX11_end cX11_end 2 (some .int) ∈ TB := tb_m 485 (by decide +kernel) (by decide +kernel)
theorem m_486 : Cond.methodLink RL 23 yX11_chamber ∈ TB := tb_m 486 (by decide +kernel) (by decide +kernel)
theorem m_487 : Cond.instanceMethod yX11_chamber ∈ TB := tb_m 487 (by decide +kernel) (by decide +kernel)
theorem m_488 : Cond.selects RX11 yX11_chamber yX11_chamber ∈ TB := tb_m 488 (by decide +kernel) (by decide +kernel)
theorem m_489 : Cond.code yX11_chamber cX11_chamber 1 (some .int) ∈ TB := tb_m 489 (by decide +kernel) (by decide +kernel)
theorem m_694 : Cond.methodLink RL 28 yX11_fault ∈ TB := tb_m 694 (by decide +kernel) (by decide +kernel)
theorem m_695 : Cond.instanceMethod yX11_fault ∈ TB := tb_m 695 (by decide +kernel) (by decide +kernel)
theorem m_696 : Cond.selects RX11 yX11_fault yX11_fault ∈ TB := tb_m 696 (by decide +kernel) (by decide +kernel)
theorem m_697 : Cond.code yX11_fault cX11_fault 2 (some .int) ∈ TB := tb_m 697 (by decide +kernel) (by decide +kernel)
theorem m_698 : Cond.methodLink RL 32 yX11_word ∈ TB := tb_m 698 (by decide +kernel) (by decide +kernel)
theorem m_699 : Cond.instanceMethod yX11_word ∈ TB := tb_m 699 (by decide +kernel) (by decide +kernel)
theorem m_700 : Cond.selects RX11 yX11_word yX11_word ∈ TB := tb_m 700 (by decide +kernel) (by decide +kernel)
theorem m_701 : Cond.code yX11_word cX11_word 3 (some .int) ∈ TB := tb_m 701 (by decide +kernel) (by decide +kernel)
theorem m_709 : Cond.methodLink RL 37 yX11_speaker ∈ TB := tb_m 709 (by decide +kernel) (by decide +kernel)
theorem m_710 : Cond.instanceMethod yX11_speaker ∈ TB := tb_m 710 (by decide +kernel) (by decide +kernel)
theorem m_711 : Cond.selects RX11 yX11_speaker yX11_speaker ∈ TB := tb_m 711 (by decide +kernel) (by decide +kernel)
theorem m_712 : Cond.code yX11_speaker cX11_speaker 3 (some .int) ∈ TB := tb_m 712 (by decide +kernel) (by decide +kernel)
theorem m_717 : Cond.methodLink RL 41 yX11_district ∈ TB := tb_m 717 (by decide +kernel) (by decide +kernel)
theorem m_718 : Cond.instanceMethod yX11_district ∈ TB := tb_m 718 (by decide +kernel) (by decide +kernel)
theorem m_719 : Cond.selects RX11 yX11_district yX11_district ∈ TB := tb_m 719 (by decide +kernel) (by decide +kernel)
theorem m_720 : Cond.code yX11_district cX11_district 3 (some .int) ∈ TB := tb_m 720 (by decide +kernel) (by decide +kernel)
theorem m_742 : Cond.methodLink RL 45 yX11_likes ∈ TB := tb_m 742 (by decide +kernel) (by decide +kernel)
theorem m_743 : Cond.instanceMethod yX11_likes ∈ TB := tb_m 743 (by decide +kernel) (by decide +kernel)
theorem m_744 : Cond.selects RX11 yX11_likes yX11_likes ∈ TB := tb_m 744 (by decide +kernel) (by decide +kernel)
theorem m_745 : Cond.code yX11_likes cX11_likes 3 (some .int) ∈ TB := tb_m 745 (by decide +kernel) (by decide +kernel)
theorem m_758 : Cond.methodLink RL 49 yX11_order ∈ TB := tb_m 758 (by decide +kernel) (by decide +kernel)
theorem m_759 : Cond.instanceMethod yX11_order ∈ TB := tb_m 759 (by decide +kernel) (by decide +kernel)
theorem m_760 : Cond.selects RX11 yX11_order yX11_order ∈ TB := tb_m 760 (by decide +kernel) (by decide +kernel)
theorem m_761 : Cond.code yX11_order cX11_order 3 (some .int) ∈ TB := tb_m 761 (by decide +kernel) (by decide +kernel)
theorem m_791 : Cond.methodLink RL 53 yX11_votes ∈ TB := tb_m 791 (by decide +kernel) (by decide +kernel)
theorem m_792 : Cond.instanceMethod yX11_votes ∈ TB := tb_m 792 (by decide +kernel) (by decide +kernel)
theorem m_793 : Cond.selects RX11 yX11_votes yX11_votes ∈ TB := tb_m 793 (by decide +kernel) (by decide +kernel)
theorem m_794 : Cond.code yX11_votes cX11_votes 2 (some .int) ∈ TB := tb_m 794 (by decide +kernel) (by decide +kernel)
theorem m_800 : Cond.methodLink RL 57 yX11_abstains ∈ TB := tb_m 800 (by decide +kernel) (by decide +kernel)
theorem m_801 : Cond.instanceMethod yX11_abstains ∈ TB := tb_m 801 (by decide +kernel) (by decide +kernel)
theorem m_802 : Cond.selects RX11 yX11_abstains yX11_abstains ∈ TB := tb_m 802 (by decide +kernel) (by decide +kernel)
theorem m_803 : Cond.code yX11_abstains cX11_abstains 2 (some .int) ∈ TB := tb_m 803 (by decide +kernel) (by decide +kernel)
theorem m_804 : Cond.methodLink RL 61 yX11_wins ∈ TB := tb_m 804 (by decide +kernel) (by decide +kernel)
theorem m_805 : Cond.instanceMethod yX11_wins ∈ TB := tb_m 805 (by decide +kernel) (by decide +kernel)
theorem m_806 : Cond.selects RX11 yX11_wins yX11_wins ∈ TB := tb_m 806 (by decide +kernel) (by decide +kernel)
theorem m_807 : Cond.code yX11_wins cX11_wins 3 (some .int) ∈ TB := tb_m 807 (by decide +kernel) (by decide +kernel)
theorem m_841 : Cond.methodLink RL 65 yX11_sits ∈ TB := tb_m 841 (by decide +kernel) (by decide +kernel)
theorem m_842 : Cond.instanceMethod yX11_sits ∈ TB := tb_m 842 (by decide +kernel) (by decide +kernel)
theorem m_843 : Cond.selects RX11 yX11_sits yX11_sits ∈ TB := tb_m 843 (by decide +kernel) (by decide +kernel)
theorem m_844 : Cond.code yX11_sits cX11_sits 3 (some .int) ∈ TB := tb_m 844 (by decide +kernel) (by decide +kernel)
theorem m_855 : Cond.methodLink RL 69 yX11_with ∈ TB := tb_m 855 (by decide +kernel) (by decide +kernel)
theorem m_856 : Cond.instanceMethod yX11_with ∈ TB := tb_m 856 (by decide +kernel) (by decide +kernel)
theorem m_857 : Cond.selects RX11 yX11_with yX11_with ∈ TB := tb_m 857 (by decide +kernel) (by decide +kernel)
theorem m_858 : Cond.code yX11_with cX11_with 3 (some .int) ∈ TB := tb_m 858 (by decide +kernel) (by decide +kernel)
theorem m_859 : Cond.methodLink RL 73 yX11_struck ∈ TB := tb_m 859 (by decide +kernel) (by decide +kernel)
theorem m_860 : Cond.instanceMethod yX11_struck ∈ TB := tb_m 860 (by decide +kernel) (by decide +kernel)
theorem m_861 : Cond.selects RX11 yX11_struck yX11_struck ∈ TB := tb_m 861 (by decide +kernel) (by decide +kernel)
theorem m_862 : Cond.code yX11_struck cX11_struck 3 (some .int) ∈ TB := tb_m 862 (by decide +kernel) (by decide +kernel)
theorem m_867 : Cond.methodLink RL 77 yX11_beats ∈ TB := tb_m 867 (by decide +kernel) (by decide +kernel)
theorem m_868 : Cond.instanceMethod yX11_beats ∈ TB := tb_m 868 (by decide +kernel) (by decide +kernel)
theorem m_869 : Cond.selects RX11 yX11_beats yX11_beats ∈ TB := tb_m 869 (by decide +kernel) (by decide +kernel)
theorem m_870 : Cond.code yX11_beats cX11_beats 3 (some .int) ∈ TB := tb_m 870 (by decide +kernel) (by decide +kernel)
theorem m_875 : Cond.methodLink RL 81 yX11_best ∈ TB := tb_m 875 (by decide +kernel) (by decide +kernel)
theorem m_876 : Cond.instanceMethod yX11_best ∈ TB := tb_m 876 (by decide +kernel) (by decide +kernel)
theorem m_877 : Cond.selects RX11 yX11_best yX11_best ∈ TB := tb_m 877 (by decide +kernel) (by decide +kernel)
theorem m_878 : Cond.code yX11_best cX11_best 2 (some .int) ∈ TB := tb_m 878 (by decide +kernel) (by decide +kernel)
theorem m_888 : Cond.methodLink RL 85 yX11_unlike ∈ TB := tb_m 888 (by decide +kernel) (by decide +kernel)
theorem m_889 : Cond.instanceMethod yX11_unlike ∈ TB := tb_m 889 (by decide +kernel) (by decide +kernel)
theorem m_890 : Cond.selects RX11 yX11_unlike yX11_unlike ∈ TB := tb_m 890 (by decide +kernel) (by decide +kernel)
theorem m_891 : Cond.code yX11_unlike cX11_unlike 5 (some .int) ∈ TB := tb_m 891 (by decide +kernel) (by decide +kernel)
theorem m_896 : Cond.methodLink RL 89 yX11_synonyms ∈ TB := tb_m 896 (by decide +kernel) (by decide +kernel)
theorem m_897 : Cond.instanceMethod yX11_synonyms ∈ TB := tb_m 897 (by decide +kernel) (by decide +kernel)
theorem m_898 : Cond.selects RX11 yX11_synonyms yX11_synonyms ∈ TB := tb_m 898 (by decide +kernel) (by decide +kernel)
theorem m_899 : Cond.code yX11_synonyms cX11_synonyms 5 (some .int) ∈ TB := tb_m 899 (by decide +kernel) (by decide +kernel)
theorem m_900 : Cond.methodLink RL 93 yX11_spoils ∈ TB := tb_m 900 (by decide +kernel) (by decide +kernel)
theorem m_901 : Cond.instanceMethod yX11_spoils ∈ TB := tb_m 901 (by decide +kernel) (by decide +kernel)
theorem m_902 : Cond.selects RX11 yX11_spoils yX11_spoils ∈ TB := tb_m 902 (by decide +kernel) (by decide +kernel)
theorem m_903 : Cond.code yX11_spoils cX11_spoils 2 (some .int) ∈ TB := tb_m 903 (by decide +kernel) (by decide +kernel)
theorem m_908 : Cond.methodLink RL 97 yX11_spoilers ∈ TB := tb_m 908 (by decide +kernel) (by decide +kernel)
theorem m_909 : Cond.instanceMethod yX11_spoilers ∈ TB := tb_m 909 (by decide +kernel) (by decide +kernel)
theorem m_910 : Cond.selects RX11 yX11_spoilers yX11_spoilers ∈ TB := tb_m 910 (by decide +kernel) (by decide +kernel)
theorem m_911 : Cond.code yX11_spoilers cX11_spoilers 1 (some .int) ∈ TB := tb_m 911 (by decide +kernel) (by decide +kernel)
theorem m_918 : Cond.methodLink RL 101 yX11_elected ∈ TB := tb_m 918 (by decide +kernel) (by decide +kernel)
theorem m_919 : Cond.instanceMethod yX11_elected ∈ TB := tb_m 919 (by decide +kernel) (by decide +kernel)
theorem m_920 : Cond.selects RX11 yX11_elected yX11_elected ∈ TB := tb_m 920 (by decide +kernel) (by decide +kernel)
theorem m_921 : Cond.code yX11_elected cX11_elected 1 (some .int) ∈ TB := tb_m 921 (by decide +kernel) (by decide +kernel)
theorem m_926 : Cond.methodLink RL 105 yX11_sitting ∈ TB := tb_m 926 (by decide +kernel) (by decide +kernel)
theorem m_927 : Cond.instanceMethod yX11_sitting ∈ TB := tb_m 927 (by decide +kernel) (by decide +kernel)
theorem m_928 : Cond.selects RX11 yX11_sitting yX11_sitting ∈ TB := tb_m 928 (by decide +kernel) (by decide +kernel)
theorem m_929 : Cond.code yX11_sitting cX11_sitting 1 (some .int) ∈ TB := tb_m 929 (by decide +kernel) (by decide +kernel)
theorem m_930 : Cond.methodLink RL 109 yX11_term ∈ TB := tb_m 930 (by decide +kernel) (by decide +kernel)
theorem m_931 : Cond.instanceMethod yX11_term ∈ TB := tb_m 931 (by decide +kernel) (by decide +kernel)
theorem m_932 : Cond.selects RX11 yX11_term yX11_term ∈ TB := tb_m 932 (by decide +kernel) (by decide +kernel)
theorem m_933 : Cond.code yX11_term cX11_term 1 (some .int) ∈ TB := tb_m 933 (by decide +kernel) (by decide +kernel)
theorem m_940 : Cond.methodLink RL 113 yX11_undo ∈ TB := tb_m 940 (by decide +kernel) (by decide +kernel)
theorem m_941 : Cond.instanceMethod yX11_undo ∈ TB := tb_m 941 (by decide +kernel) (by decide +kernel)
theorem m_942 : Cond.selects RX11 yX11_undo yX11_undo ∈ TB := tb_m 942 (by decide +kernel) (by decide +kernel)
theorem m_943 : Cond.code yX11_undo cX11_undo 1 (some .int) ∈ TB := tb_m 943 (by decide +kernel) (by decide +kernel)
theorem m_948 : Cond.methodLink RL 117 yX11_led ∈ TB := tb_m 948 (by decide +kernel) (by decide +kernel)
theorem m_949 : Cond.instanceMethod yX11_led ∈ TB := tb_m 949 (by decide +kernel) (by decide +kernel)
theorem m_950 : Cond.selects RX11 yX11_led yX11_led ∈ TB := tb_m 950 (by decide +kernel) (by decide +kernel)
theorem m_951 : Cond.code yX11_led cX11_led 2 (some .int) ∈ TB := tb_m 951 (by decide +kernel) (by decide +kernel)
theorem m_952 : Cond.methodLink RL 121 yX11_dies ∈ TB := tb_m 952 (by decide +kernel) (by decide +kernel)
theorem m_953 : Cond.instanceMethod yX11_dies ∈ TB := tb_m 953 (by decide +kernel) (by decide +kernel)
theorem m_954 : Cond.selects RX11 yX11_dies yX11_dies ∈ TB := tb_m 954 (by decide +kernel) (by decide +kernel)
theorem m_955 : Cond.code yX11_dies cX11_dies 1 (some .int) ∈ TB := tb_m 955 (by decide +kernel) (by decide +kernel)
theorem m_964 : Cond.methodLink RL 125 yX11_said ∈ TB := tb_m 964 (by decide +kernel) (by decide +kernel)
theorem m_965 : Cond.instanceMethod yX11_said ∈ TB := tb_m 965 (by decide +kernel) (by decide +kernel)
theorem m_966 : Cond.selects RX11 yX11_said yX11_said ∈ TB := tb_m 966 (by decide +kernel) (by decide +kernel)
theorem m_967 : Cond.code yX11_said cX11_said 2 (some .int) ∈ TB := tb_m 967 (by decide +kernel) (by decide +kernel)
theorem m_997 : Cond.methodLink RL 129 yX11_least ∈ TB := tb_m 997 (by decide +kernel) (by decide +kernel)
theorem m_998 : Cond.instanceMethod yX11_least ∈ TB := tb_m 998 (by decide +kernel) (by decide +kernel)
theorem m_999 : Cond.selects RX11 yX11_least yX11_least ∈ TB := tb_m 999 (by decide +kernel) (by decide +kernel)
theorem hd_X11_abstains : yX11_abstains.cls ≠ "java/lang/invoke/MethodHandle" ∧ yX11_abstains.cls ≠ "java/lang/invoke/VarHandle" ∧ (parseMethodDescriptor yX11_abstains.desc).map (fun d => d.parameters.length) = some 1 := by decide +kernel
theorem hd_X11_back : yX11_back.cls ≠ "java/lang/invoke/MethodHandle" ∧ yX11_back.cls ≠ "java/lang/invoke/VarHandle" ∧ (parseMethodDescriptor yX11_back.desc).map (fun d => d.parameters.length) = some 1 := by decide +kernel
theorem hd_X11_beats : yX11_beats.cls ≠ "java/lang/invoke/MethodHandle" ∧ yX11_beats.cls ≠ "java/lang/invoke/VarHandle" ∧ (parseMethodDescriptor yX11_beats.desc).map (fun d => d.parameters.length) = some 2 := by decide +kernel
theorem hd_X11_best : yX11_best.cls ≠ "java/lang/invoke/MethodHandle" ∧ yX11_best.cls ≠ "java/lang/invoke/VarHandle" ∧ (parseMethodDescriptor yX11_best.desc).map (fun d => d.parameters.length) = some 1 := by decide +kernel
theorem hd_X11_bill : yX11_bill.cls ≠ "java/lang/invoke/MethodHandle" ∧ yX11_bill.cls ≠ "java/lang/invoke/VarHandle" ∧ (parseMethodDescriptor yX11_bill.desc).map (fun d => d.parameters.length) = some 2 := by decide +kernel
theorem hd_X11_breaks : yX11_breaks.cls ≠ "java/lang/invoke/MethodHandle" ∧ yX11_breaks.cls ≠ "java/lang/invoke/VarHandle" ∧ (parseMethodDescriptor yX11_breaks.desc).map (fun d => d.parameters.length) = some 1 := by decide +kernel
theorem hd_X11_by : yX11_by.cls ≠ "java/lang/invoke/MethodHandle" ∧ yX11_by.cls ≠ "java/lang/invoke/VarHandle" ∧ (parseMethodDescriptor yX11_by.desc).map (fun d => d.parameters.length) = some 1 := by decide +kernel
theorem hd_X11_chamber : yX11_chamber.cls ≠ "java/lang/invoke/MethodHandle" ∧ yX11_chamber.cls ≠ "java/lang/invoke/VarHandle" ∧ (parseMethodDescriptor yX11_chamber.desc).map (fun d => d.parameters.length) = some 0 := by decide +kernel
theorem hd_X11_cheapest : yX11_cheapest.cls ≠ "java/lang/invoke/MethodHandle" ∧ yX11_cheapest.cls ≠ "java/lang/invoke/VarHandle" ∧ (parseMethodDescriptor yX11_cheapest.desc).map (fun d => d.parameters.length) = some 1 := by decide +kernel
theorem hd_X11_coalition : yX11_coalition.cls ≠ "java/lang/invoke/MethodHandle" ∧ yX11_coalition.cls ≠ "java/lang/invoke/VarHandle" ∧ (parseMethodDescriptor yX11_coalition.desc).map (fun d => d.parameters.length) = some 0 := by decide +kernel
theorem hd_X11_cost : yX11_cost.cls ≠ "java/lang/invoke/MethodHandle" ∧ yX11_cost.cls ≠ "java/lang/invoke/VarHandle" ∧ (parseMethodDescriptor yX11_cost.desc).map (fun d => d.parameters.length) = some 1 := by decide +kernel
theorem hd_X11_costs : yX11_costs.cls ≠ "java/lang/invoke/MethodHandle" ∧ yX11_costs.cls ≠ "java/lang/invoke/VarHandle" ∧ (parseMethodDescriptor yX11_costs.desc).map (fun d => d.parameters.length) = some 0 := by decide +kernel
theorem hd_X11_count : yX11_count.cls ≠ "java/lang/invoke/MethodHandle" ∧ yX11_count.cls ≠ "java/lang/invoke/VarHandle" ∧ (parseMethodDescriptor yX11_count.desc).map (fun d => d.parameters.length) = some 1 := by decide +kernel
theorem hd_X11_cover : yX11_cover.cls ≠ "java/lang/invoke/MethodHandle" ∧ yX11_cover.cls ≠ "java/lang/invoke/VarHandle" ∧ (parseMethodDescriptor yX11_cover.desc).map (fun d => d.parameters.length) = some 1 := by decide +kernel
theorem hd_X11_covers : yX11_covers.cls ≠ "java/lang/invoke/MethodHandle" ∧ yX11_covers.cls ≠ "java/lang/invoke/VarHandle" ∧ (parseMethodDescriptor yX11_covers.desc).map (fun d => d.parameters.length) = some 1 := by decide +kernel
theorem hd_X11_dies : yX11_dies.cls ≠ "java/lang/invoke/MethodHandle" ∧ yX11_dies.cls ≠ "java/lang/invoke/VarHandle" ∧ (parseMethodDescriptor yX11_dies.desc).map (fun d => d.parameters.length) = some 0 := by decide +kernel
theorem hd_X11_district : yX11_district.cls ≠ "java/lang/invoke/MethodHandle" ∧ yX11_district.cls ≠ "java/lang/invoke/VarHandle" ∧ (parseMethodDescriptor yX11_district.desc).map (fun d => d.parameters.length) = some 2 := by decide +kernel
theorem hd_X11_drawn : yX11_drawn.cls ≠ "java/lang/invoke/MethodHandle" ∧ yX11_drawn.cls ≠ "java/lang/invoke/VarHandle" ∧ (parseMethodDescriptor yX11_drawn.desc).map (fun d => d.parameters.length) = some 2 := by decide +kernel
theorem hd_X11_dumb : yX11_dumb.cls ≠ "java/lang/invoke/MethodHandle" ∧ yX11_dumb.cls ≠ "java/lang/invoke/VarHandle" ∧ (parseMethodDescriptor yX11_dumb.desc).map (fun d => d.parameters.length) = some 0 := by decide +kernel
theorem hd_X11_elected : yX11_elected.cls ≠ "java/lang/invoke/MethodHandle" ∧ yX11_elected.cls ≠ "java/lang/invoke/VarHandle" ∧ (parseMethodDescriptor yX11_elected.desc).map (fun d => d.parameters.length) = some 0 := by decide +kernel
theorem hd_X11_end : yX11_end.cls ≠ "java/lang/invoke/MethodHandle" ∧ yX11_end.cls ≠ "java/lang/invoke/VarHandle" ∧ (parseMethodDescriptor yX11_end.desc).map (fun d => d.parameters.length) = some 1 := by decide +kernel
theorem hd_X11_fault : yX11_fault.cls ≠ "java/lang/invoke/MethodHandle" ∧ yX11_fault.cls ≠ "java/lang/invoke/VarHandle" ∧ (parseMethodDescriptor yX11_fault.desc).map (fun d => d.parameters.length) = some 1 := by decide +kernel
theorem hd_X11_feed : yX11_feed.cls ≠ "java/lang/invoke/MethodHandle" ∧ yX11_feed.cls ≠ "java/lang/invoke/VarHandle" ∧ (parseMethodDescriptor yX11_feed.desc).map (fun d => d.parameters.length) = some 5 := by decide +kernel
theorem hd_X11_feint : yX11_feint.cls ≠ "java/lang/invoke/MethodHandle" ∧ yX11_feint.cls ≠ "java/lang/invoke/VarHandle" ∧ (parseMethodDescriptor yX11_feint.desc).map (fun d => d.parameters.length) = some 1 := by decide +kernel
theorem hd_X11_fits : yX11_fits.cls ≠ "java/lang/invoke/MethodHandle" ∧ yX11_fits.cls ≠ "java/lang/invoke/VarHandle" ∧ (parseMethodDescriptor yX11_fits.desc).map (fun d => d.parameters.length) = some 1 := by decide +kernel
theorem hd_X11_gains : yX11_gains.cls ≠ "java/lang/invoke/MethodHandle" ∧ yX11_gains.cls ≠ "java/lang/invoke/VarHandle" ∧ (parseMethodDescriptor yX11_gains.desc).map (fun d => d.parameters.length) = some 1 := by decide +kernel
theorem hd_X11_house : yX11_house.cls ≠ "java/lang/invoke/MethodHandle" ∧ yX11_house.cls ≠ "java/lang/invoke/VarHandle" ∧ (parseMethodDescriptor yX11_house.desc).map (fun d => d.parameters.length) = some 0 := by decide +kernel
theorem hd_X11_housed : yX11_housed.cls ≠ "java/lang/invoke/MethodHandle" ∧ yX11_housed.cls ≠ "java/lang/invoke/VarHandle" ∧ (parseMethodDescriptor yX11_housed.desc).map (fun d => d.parameters.length) = some 0 := by decide +kernel
theorem hd_X11_image : yX11_image.cls ≠ "java/lang/invoke/MethodHandle" ∧ yX11_image.cls ≠ "java/lang/invoke/VarHandle" ∧ (parseMethodDescriptor yX11_image.desc).map (fun d => d.parameters.length) = some 1 := by decide +kernel
theorem hd_X11_init : yX11_init.cls ≠ "java/lang/invoke/MethodHandle" ∧ yX11_init.cls ≠ "java/lang/invoke/VarHandle" ∧ (parseMethodDescriptor yX11_init.desc).map (fun d => d.parameters.length) = some 0 := by decide +kernel
theorem hd_X11_least : yX11_least.cls ≠ "java/lang/invoke/MethodHandle" ∧ yX11_least.cls ≠ "java/lang/invoke/VarHandle" ∧ (parseMethodDescriptor yX11_least.desc).map (fun d => d.parameters.length) = some 1 := by decide +kernel
theorem hd_X11_led : yX11_led.cls ≠ "java/lang/invoke/MethodHandle" ∧ yX11_led.cls ≠ "java/lang/invoke/VarHandle" ∧ (parseMethodDescriptor yX11_led.desc).map (fun d => d.parameters.length) = some 1 := by decide +kernel
theorem hd_X11_likes : yX11_likes.cls ≠ "java/lang/invoke/MethodHandle" ∧ yX11_likes.cls ≠ "java/lang/invoke/VarHandle" ∧ (parseMethodDescriptor yX11_likes.desc).map (fun d => d.parameters.length) = some 2 := by decide +kernel
theorem hd_X11_lists : yX11_lists.cls ≠ "java/lang/invoke/MethodHandle" ∧ yX11_lists.cls ≠ "java/lang/invoke/VarHandle" ∧ (parseMethodDescriptor yX11_lists.desc).map (fun d => d.parameters.length) = some 2 := by decide +kernel
theorem hd_X11_majority : yX11_majority.cls ≠ "java/lang/invoke/MethodHandle" ∧ yX11_majority.cls ≠ "java/lang/invoke/VarHandle" ∧ (parseMethodDescriptor yX11_majority.desc).map (fun d => d.parameters.length) = some 1 := by decide +kernel
theorem hd_X11_need : yX11_need.cls ≠ "java/lang/invoke/MethodHandle" ∧ yX11_need.cls ≠ "java/lang/invoke/VarHandle" ∧ (parseMethodDescriptor yX11_need.desc).map (fun d => d.parameters.length) = some 2 := by decide +kernel
theorem hd_X11_order : yX11_order.cls ≠ "java/lang/invoke/MethodHandle" ∧ yX11_order.cls ≠ "java/lang/invoke/VarHandle" ∧ (parseMethodDescriptor yX11_order.desc).map (fun d => d.parameters.length) = some 2 := by decide +kernel
theorem hd_X11_paste : yX11_paste.cls ≠ "java/lang/invoke/MethodHandle" ∧ yX11_paste.cls ≠ "java/lang/invoke/VarHandle" ∧ (parseMethodDescriptor yX11_paste.desc).map (fun d => d.parameters.length) = some 5 := by decide +kernel
theorem hd_X11_put : yX11_put.cls ≠ "java/lang/invoke/MethodHandle" ∧ yX11_put.cls ≠ "java/lang/invoke/VarHandle" ∧ (parseMethodDescriptor yX11_put.desc).map (fun d => d.parameters.length) = some 2 := by decide +kernel
theorem hd_X11_restless : yX11_restless.cls ≠ "java/lang/invoke/MethodHandle" ∧ yX11_restless.cls ≠ "java/lang/invoke/VarHandle" ∧ (parseMethodDescriptor yX11_restless.desc).map (fun d => d.parameters.length) = some 0 := by decide +kernel
theorem hd_X11_rigged : yX11_rigged.cls ≠ "java/lang/invoke/MethodHandle" ∧ yX11_rigged.cls ≠ "java/lang/invoke/VarHandle" ∧ (parseMethodDescriptor yX11_rigged.desc).map (fun d => d.parameters.length) = some 1 := by decide +kernel
theorem hd_X11_round : yX11_round.cls ≠ "java/lang/invoke/MethodHandle" ∧ yX11_round.cls ≠ "java/lang/invoke/VarHandle" ∧ (parseMethodDescriptor yX11_round.desc).map (fun d => d.parameters.length) = some 1 := by decide +kernel
theorem hd_X11_row : yX11_row.cls ≠ "java/lang/invoke/MethodHandle" ∧ yX11_row.cls ≠ "java/lang/invoke/VarHandle" ∧ (parseMethodDescriptor yX11_row.desc).map (fun d => d.parameters.length) = some 3 := by decide +kernel
theorem hd_X11_said : yX11_said.cls ≠ "java/lang/invoke/MethodHandle" ∧ yX11_said.cls ≠ "java/lang/invoke/VarHandle" ∧ (parseMethodDescriptor yX11_said.desc).map (fun d => d.parameters.length) = some 1 := by decide +kernel
theorem hd_X11_seats : yX11_seats.cls ≠ "java/lang/invoke/MethodHandle" ∧ yX11_seats.cls ≠ "java/lang/invoke/VarHandle" ∧ (parseMethodDescriptor yX11_seats.desc).map (fun d => d.parameters.length) = some 1 := by decide +kernel
theorem hd_X11_share : yX11_share.cls ≠ "java/lang/invoke/MethodHandle" ∧ yX11_share.cls ≠ "java/lang/invoke/VarHandle" ∧ (parseMethodDescriptor yX11_share.desc).map (fun d => d.parameters.length) = some 2 := by decide +kernel
theorem hd_X11_sits : yX11_sits.cls ≠ "java/lang/invoke/MethodHandle" ∧ yX11_sits.cls ≠ "java/lang/invoke/VarHandle" ∧ (parseMethodDescriptor yX11_sits.desc).map (fun d => d.parameters.length) = some 2 := by decide +kernel
theorem hd_X11_sitting : yX11_sitting.cls ≠ "java/lang/invoke/MethodHandle" ∧ yX11_sitting.cls ≠ "java/lang/invoke/VarHandle" ∧ (parseMethodDescriptor yX11_sitting.desc).map (fun d => d.parameters.length) = some 0 := by decide +kernel
theorem hd_X11_speaker : yX11_speaker.cls ≠ "java/lang/invoke/MethodHandle" ∧ yX11_speaker.cls ≠ "java/lang/invoke/VarHandle" ∧ (parseMethodDescriptor yX11_speaker.desc).map (fun d => d.parameters.length) = some 2 := by decide +kernel
theorem hd_X11_speech : yX11_speech.cls ≠ "java/lang/invoke/MethodHandle" ∧ yX11_speech.cls ≠ "java/lang/invoke/VarHandle" ∧ (parseMethodDescriptor yX11_speech.desc).map (fun d => d.parameters.length) = some 1 := by decide +kernel
theorem hd_X11_spoilers : yX11_spoilers.cls ≠ "java/lang/invoke/MethodHandle" ∧ yX11_spoilers.cls ≠ "java/lang/invoke/VarHandle" ∧ (parseMethodDescriptor yX11_spoilers.desc).map (fun d => d.parameters.length) = some 0 := by decide +kernel
theorem hd_X11_spoils : yX11_spoils.cls ≠ "java/lang/invoke/MethodHandle" ∧ yX11_spoils.cls ≠ "java/lang/invoke/VarHandle" ∧ (parseMethodDescriptor yX11_spoils.desc).map (fun d => d.parameters.length) = some 1 := by decide +kernel
theorem hd_X11_stand : yX11_stand.cls ≠ "java/lang/invoke/MethodHandle" ∧ yX11_stand.cls ≠ "java/lang/invoke/VarHandle" ∧ (parseMethodDescriptor yX11_stand.desc).map (fun d => d.parameters.length) = some 2 := by decide +kernel
theorem hd_X11_struck : yX11_struck.cls ≠ "java/lang/invoke/MethodHandle" ∧ yX11_struck.cls ≠ "java/lang/invoke/VarHandle" ∧ (parseMethodDescriptor yX11_struck.desc).map (fun d => d.parameters.length) = some 2 := by decide +kernel
theorem hd_X11_sure : yX11_sure.cls ≠ "java/lang/invoke/MethodHandle" ∧ yX11_sure.cls ≠ "java/lang/invoke/VarHandle" ∧ (parseMethodDescriptor yX11_sure.desc).map (fun d => d.parameters.length) = some 2 := by decide +kernel
theorem hd_X11_synonyms : yX11_synonyms.cls ≠ "java/lang/invoke/MethodHandle" ∧ yX11_synonyms.cls ≠ "java/lang/invoke/VarHandle" ∧ (parseMethodDescriptor yX11_synonyms.desc).map (fun d => d.parameters.length) = some 1 := by decide +kernel
theorem hd_X11_term : yX11_term.cls ≠ "java/lang/invoke/MethodHandle" ∧ yX11_term.cls ≠ "java/lang/invoke/VarHandle" ∧ (parseMethodDescriptor yX11_term.desc).map (fun d => d.parameters.length) = some 0 := by decide +kernel
theorem hd_X11_undo : yX11_undo.cls ≠ "java/lang/invoke/MethodHandle" ∧ yX11_undo.cls ≠ "java/lang/invoke/VarHandle" ∧ (parseMethodDescriptor yX11_undo.desc).map (fun d => d.parameters.length) = some 0 := by decide +kernel
theorem hd_X11_unlike : yX11_unlike.cls ≠ "java/lang/invoke/MethodHandle" ∧ yX11_unlike.cls ≠ "java/lang/invoke/VarHandle" ∧ (parseMethodDescriptor yX11_unlike.desc).map (fun d => d.parameters.length) = some 2 := by decide +kernel
theorem hd_X11_votes : yX11_votes.cls ≠ "java/lang/invoke/MethodHandle" ∧ yX11_votes.cls ≠ "java/lang/invoke/VarHandle" ∧ (parseMethodDescriptor yX11_votes.desc).map (fun d => d.parameters.length) = some 1 := by decide +kernel
theorem hd_X11_wins : yX11_wins.cls ≠ "java/lang/invoke/MethodHandle" ∧ yX11_wins.cls ≠ "java/lang/invoke/VarHandle" ∧ (parseMethodDescriptor yX11_wins.desc).map (fun d => d.parameters.length) = some 2 := by decide +kernel
theorem hd_X11_with : yX11_with.cls ≠ "java/lang/invoke/MethodHandle" ∧ yX11_with.cls ≠ "java/lang/invoke/VarHandle" ∧ (parseMethodDescriptor yX11_with.desc).map (fun d => d.parameters.length) = some 2 := by decide +kernel
theorem hd_X11_word : yX11_word.cls ≠ "java/lang/invoke/MethodHandle" ∧ yX11_word.cls ≠ "java/lang/invoke/VarHandle" ∧ (parseMethodDescriptor yX11_word.desc).map (fun d => d.parameters.length) = some 2 := by decide +kernel
theorem hd_X11_write : yX11_write.cls ≠ "java/lang/invoke/MethodHandle" ∧ yX11_write.cls ≠ "java/lang/invoke/VarHandle" ∧ (parseMethodDescriptor yX11_write.desc).map (fun d => d.parameters.length) = some 3 := by decide +kernel
theorem hd_X11_years : yX11_years.cls ≠ "java/lang/invoke/MethodHandle" ∧ yX11_years.cls ≠ "java/lang/invoke/VarHandle" ∧ (parseMethodDescriptor yX11_years.desc).map (fun d => d.parameters.length) = some 3 := by decide +kernel
theorem hd_X12_abstains : yX12_abstains.cls ≠ "java/lang/invoke/MethodHandle" ∧ yX12_abstains.cls ≠ "java/lang/invoke/VarHandle" ∧ (parseMethodDescriptor yX12_abstains.desc).map (fun d => d.parameters.length) = some 1 := by decide +kernel
theorem hd_X12_back : yX12_back.cls ≠ "java/lang/invoke/MethodHandle" ∧ yX12_back.cls ≠ "java/lang/invoke/VarHandle" ∧ (parseMethodDescriptor yX12_back.desc).map (fun d => d.parameters.length) = some 1 := by decide +kernel
theorem hd_X12_beats : yX12_beats.cls ≠ "java/lang/invoke/MethodHandle" ∧ yX12_beats.cls ≠ "java/lang/invoke/VarHandle" ∧ (parseMethodDescriptor yX12_beats.desc).map (fun d => d.parameters.length) = some 2 := by decide +kernel
theorem hd_X12_best : yX12_best.cls ≠ "java/lang/invoke/MethodHandle" ∧ yX12_best.cls ≠ "java/lang/invoke/VarHandle" ∧ (parseMethodDescriptor yX12_best.desc).map (fun d => d.parameters.length) = some 1 := by decide +kernel
theorem hd_X12_bill : yX12_bill.cls ≠ "java/lang/invoke/MethodHandle" ∧ yX12_bill.cls ≠ "java/lang/invoke/VarHandle" ∧ (parseMethodDescriptor yX12_bill.desc).map (fun d => d.parameters.length) = some 2 := by decide +kernel
theorem hd_X12_breaks : yX12_breaks.cls ≠ "java/lang/invoke/MethodHandle" ∧ yX12_breaks.cls ≠ "java/lang/invoke/VarHandle" ∧ (parseMethodDescriptor yX12_breaks.desc).map (fun d => d.parameters.length) = some 1 := by decide +kernel
theorem hd_X12_by : yX12_by.cls ≠ "java/lang/invoke/MethodHandle" ∧ yX12_by.cls ≠ "java/lang/invoke/VarHandle" ∧ (parseMethodDescriptor yX12_by.desc).map (fun d => d.parameters.length) = some 1 := by decide +kernel
theorem hd_X12_chamber : yX12_chamber.cls ≠ "java/lang/invoke/MethodHandle" ∧ yX12_chamber.cls ≠ "java/lang/invoke/VarHandle" ∧ (parseMethodDescriptor yX12_chamber.desc).map (fun d => d.parameters.length) = some 0 := by decide +kernel
theorem hd_X12_cheapest : yX12_cheapest.cls ≠ "java/lang/invoke/MethodHandle" ∧ yX12_cheapest.cls ≠ "java/lang/invoke/VarHandle" ∧ (parseMethodDescriptor yX12_cheapest.desc).map (fun d => d.parameters.length) = some 1 := by decide +kernel
theorem hd_X12_coalition : yX12_coalition.cls ≠ "java/lang/invoke/MethodHandle" ∧ yX12_coalition.cls ≠ "java/lang/invoke/VarHandle" ∧ (parseMethodDescriptor yX12_coalition.desc).map (fun d => d.parameters.length) = some 0 := by decide +kernel
theorem hd_X12_cost : yX12_cost.cls ≠ "java/lang/invoke/MethodHandle" ∧ yX12_cost.cls ≠ "java/lang/invoke/VarHandle" ∧ (parseMethodDescriptor yX12_cost.desc).map (fun d => d.parameters.length) = some 1 := by decide +kernel
theorem hd_X12_costs : yX12_costs.cls ≠ "java/lang/invoke/MethodHandle" ∧ yX12_costs.cls ≠ "java/lang/invoke/VarHandle" ∧ (parseMethodDescriptor yX12_costs.desc).map (fun d => d.parameters.length) = some 0 := by decide +kernel
theorem hd_X12_count_ : yX12_count_.cls ≠ "java/lang/invoke/MethodHandle" ∧ yX12_count_.cls ≠ "java/lang/invoke/VarHandle" ∧ (parseMethodDescriptor yX12_count_.desc).map (fun d => d.parameters.length) = some 1 := by decide +kernel
theorem hd_X12_cover : yX12_cover.cls ≠ "java/lang/invoke/MethodHandle" ∧ yX12_cover.cls ≠ "java/lang/invoke/VarHandle" ∧ (parseMethodDescriptor yX12_cover.desc).map (fun d => d.parameters.length) = some 1 := by decide +kernel
theorem hd_X12_covers : yX12_covers.cls ≠ "java/lang/invoke/MethodHandle" ∧ yX12_covers.cls ≠ "java/lang/invoke/VarHandle" ∧ (parseMethodDescriptor yX12_covers.desc).map (fun d => d.parameters.length) = some 1 := by decide +kernel
theorem hd_X12_dies : yX12_dies.cls ≠ "java/lang/invoke/MethodHandle" ∧ yX12_dies.cls ≠ "java/lang/invoke/VarHandle" ∧ (parseMethodDescriptor yX12_dies.desc).map (fun d => d.parameters.length) = some 0 := by decide +kernel
theorem hd_X12_district : yX12_district.cls ≠ "java/lang/invoke/MethodHandle" ∧ yX12_district.cls ≠ "java/lang/invoke/VarHandle" ∧ (parseMethodDescriptor yX12_district.desc).map (fun d => d.parameters.length) = some 2 := by decide +kernel
theorem hd_X12_drawn : yX12_drawn.cls ≠ "java/lang/invoke/MethodHandle" ∧ yX12_drawn.cls ≠ "java/lang/invoke/VarHandle" ∧ (parseMethodDescriptor yX12_drawn.desc).map (fun d => d.parameters.length) = some 2 := by decide +kernel
theorem hd_X12_dumb : yX12_dumb.cls ≠ "java/lang/invoke/MethodHandle" ∧ yX12_dumb.cls ≠ "java/lang/invoke/VarHandle" ∧ (parseMethodDescriptor yX12_dumb.desc).map (fun d => d.parameters.length) = some 0 := by decide +kernel
theorem hd_X12_elected : yX12_elected.cls ≠ "java/lang/invoke/MethodHandle" ∧ yX12_elected.cls ≠ "java/lang/invoke/VarHandle" ∧ (parseMethodDescriptor yX12_elected.desc).map (fun d => d.parameters.length) = some 0 := by decide +kernel
theorem hd_X12_end : yX12_end.cls ≠ "java/lang/invoke/MethodHandle" ∧ yX12_end.cls ≠ "java/lang/invoke/VarHandle" ∧ (parseMethodDescriptor yX12_end.desc).map (fun d => d.parameters.length) = some 1 := by decide +kernel
theorem hd_X12_fault : yX12_fault.cls ≠ "java/lang/invoke/MethodHandle" ∧ yX12_fault.cls ≠ "java/lang/invoke/VarHandle" ∧ (parseMethodDescriptor yX12_fault.desc).map (fun d => d.parameters.length) = some 1 := by decide +kernel
theorem hd_X12_feed : yX12_feed.cls ≠ "java/lang/invoke/MethodHandle" ∧ yX12_feed.cls ≠ "java/lang/invoke/VarHandle" ∧ (parseMethodDescriptor yX12_feed.desc).map (fun d => d.parameters.length) = some 5 := by decide +kernel
theorem hd_X12_feint : yX12_feint.cls ≠ "java/lang/invoke/MethodHandle" ∧ yX12_feint.cls ≠ "java/lang/invoke/VarHandle" ∧ (parseMethodDescriptor yX12_feint.desc).map (fun d => d.parameters.length) = some 1 := by decide +kernel
theorem hd_X12_fits : yX12_fits.cls ≠ "java/lang/invoke/MethodHandle" ∧ yX12_fits.cls ≠ "java/lang/invoke/VarHandle" ∧ (parseMethodDescriptor yX12_fits.desc).map (fun d => d.parameters.length) = some 1 := by decide +kernel
theorem hd_X12_gains : yX12_gains.cls ≠ "java/lang/invoke/MethodHandle" ∧ yX12_gains.cls ≠ "java/lang/invoke/VarHandle" ∧ (parseMethodDescriptor yX12_gains.desc).map (fun d => d.parameters.length) = some 1 := by decide +kernel
theorem hd_X12_house : yX12_house.cls ≠ "java/lang/invoke/MethodHandle" ∧ yX12_house.cls ≠ "java/lang/invoke/VarHandle" ∧ (parseMethodDescriptor yX12_house.desc).map (fun d => d.parameters.length) = some 0 := by decide +kernel
theorem hd_X12_housed : yX12_housed.cls ≠ "java/lang/invoke/MethodHandle" ∧ yX12_housed.cls ≠ "java/lang/invoke/VarHandle" ∧ (parseMethodDescriptor yX12_housed.desc).map (fun d => d.parameters.length) = some 0 := by decide +kernel
theorem hd_X12_image : yX12_image.cls ≠ "java/lang/invoke/MethodHandle" ∧ yX12_image.cls ≠ "java/lang/invoke/VarHandle" ∧ (parseMethodDescriptor yX12_image.desc).map (fun d => d.parameters.length) = some 1 := by decide +kernel
theorem hd_X12_init : yX12_init.cls ≠ "java/lang/invoke/MethodHandle" ∧ yX12_init.cls ≠ "java/lang/invoke/VarHandle" ∧ (parseMethodDescriptor yX12_init.desc).map (fun d => d.parameters.length) = some 0 := by decide +kernel
theorem hd_X12_least : yX12_least.cls ≠ "java/lang/invoke/MethodHandle" ∧ yX12_least.cls ≠ "java/lang/invoke/VarHandle" ∧ (parseMethodDescriptor yX12_least.desc).map (fun d => d.parameters.length) = some 1 := by decide +kernel
theorem hd_X12_led : yX12_led.cls ≠ "java/lang/invoke/MethodHandle" ∧ yX12_led.cls ≠ "java/lang/invoke/VarHandle" ∧ (parseMethodDescriptor yX12_led.desc).map (fun d => d.parameters.length) = some 1 := by decide +kernel
theorem hd_X12_likes : yX12_likes.cls ≠ "java/lang/invoke/MethodHandle" ∧ yX12_likes.cls ≠ "java/lang/invoke/VarHandle" ∧ (parseMethodDescriptor yX12_likes.desc).map (fun d => d.parameters.length) = some 2 := by decide +kernel
theorem hd_X12_lists : yX12_lists.cls ≠ "java/lang/invoke/MethodHandle" ∧ yX12_lists.cls ≠ "java/lang/invoke/VarHandle" ∧ (parseMethodDescriptor yX12_lists.desc).map (fun d => d.parameters.length) = some 2 := by decide +kernel
theorem hd_X12_majority : yX12_majority.cls ≠ "java/lang/invoke/MethodHandle" ∧ yX12_majority.cls ≠ "java/lang/invoke/VarHandle" ∧ (parseMethodDescriptor yX12_majority.desc).map (fun d => d.parameters.length) = some 1 := by decide +kernel
theorem hd_X12_need : yX12_need.cls ≠ "java/lang/invoke/MethodHandle" ∧ yX12_need.cls ≠ "java/lang/invoke/VarHandle" ∧ (parseMethodDescriptor yX12_need.desc).map (fun d => d.parameters.length) = some 2 := by decide +kernel
theorem hd_X12_order : yX12_order.cls ≠ "java/lang/invoke/MethodHandle" ∧ yX12_order.cls ≠ "java/lang/invoke/VarHandle" ∧ (parseMethodDescriptor yX12_order.desc).map (fun d => d.parameters.length) = some 2 := by decide +kernel
theorem hd_X12_paste : yX12_paste.cls ≠ "java/lang/invoke/MethodHandle" ∧ yX12_paste.cls ≠ "java/lang/invoke/VarHandle" ∧ (parseMethodDescriptor yX12_paste.desc).map (fun d => d.parameters.length) = some 5 := by decide +kernel
theorem hd_X12_put : yX12_put.cls ≠ "java/lang/invoke/MethodHandle" ∧ yX12_put.cls ≠ "java/lang/invoke/VarHandle" ∧ (parseMethodDescriptor yX12_put.desc).map (fun d => d.parameters.length) = some 2 := by decide +kernel
theorem hd_X12_restless : yX12_restless.cls ≠ "java/lang/invoke/MethodHandle" ∧ yX12_restless.cls ≠ "java/lang/invoke/VarHandle" ∧ (parseMethodDescriptor yX12_restless.desc).map (fun d => d.parameters.length) = some 0 := by decide +kernel
theorem hd_X12_rigged : yX12_rigged.cls ≠ "java/lang/invoke/MethodHandle" ∧ yX12_rigged.cls ≠ "java/lang/invoke/VarHandle" ∧ (parseMethodDescriptor yX12_rigged.desc).map (fun d => d.parameters.length) = some 1 := by decide +kernel
theorem hd_X12_round : yX12_round.cls ≠ "java/lang/invoke/MethodHandle" ∧ yX12_round.cls ≠ "java/lang/invoke/VarHandle" ∧ (parseMethodDescriptor yX12_round.desc).map (fun d => d.parameters.length) = some 1 := by decide +kernel
theorem hd_X12_row : yX12_row.cls ≠ "java/lang/invoke/MethodHandle" ∧ yX12_row.cls ≠ "java/lang/invoke/VarHandle" ∧ (parseMethodDescriptor yX12_row.desc).map (fun d => d.parameters.length) = some 3 := by decide +kernel
theorem hd_X12_said : yX12_said.cls ≠ "java/lang/invoke/MethodHandle" ∧ yX12_said.cls ≠ "java/lang/invoke/VarHandle" ∧ (parseMethodDescriptor yX12_said.desc).map (fun d => d.parameters.length) = some 1 := by decide +kernel
theorem hd_X12_seats : yX12_seats.cls ≠ "java/lang/invoke/MethodHandle" ∧ yX12_seats.cls ≠ "java/lang/invoke/VarHandle" ∧ (parseMethodDescriptor yX12_seats.desc).map (fun d => d.parameters.length) = some 1 := by decide +kernel
theorem hd_X12_share : yX12_share.cls ≠ "java/lang/invoke/MethodHandle" ∧ yX12_share.cls ≠ "java/lang/invoke/VarHandle" ∧ (parseMethodDescriptor yX12_share.desc).map (fun d => d.parameters.length) = some 2 := by decide +kernel
theorem hd_X12_sits : yX12_sits.cls ≠ "java/lang/invoke/MethodHandle" ∧ yX12_sits.cls ≠ "java/lang/invoke/VarHandle" ∧ (parseMethodDescriptor yX12_sits.desc).map (fun d => d.parameters.length) = some 2 := by decide +kernel
theorem hd_X12_sitting : yX12_sitting.cls ≠ "java/lang/invoke/MethodHandle" ∧ yX12_sitting.cls ≠ "java/lang/invoke/VarHandle" ∧ (parseMethodDescriptor yX12_sitting.desc).map (fun d => d.parameters.length) = some 0 := by decide +kernel
theorem hd_X12_speaker : yX12_speaker.cls ≠ "java/lang/invoke/MethodHandle" ∧ yX12_speaker.cls ≠ "java/lang/invoke/VarHandle" ∧ (parseMethodDescriptor yX12_speaker.desc).map (fun d => d.parameters.length) = some 2 := by decide +kernel
theorem hd_X12_speech : yX12_speech.cls ≠ "java/lang/invoke/MethodHandle" ∧ yX12_speech.cls ≠ "java/lang/invoke/VarHandle" ∧ (parseMethodDescriptor yX12_speech.desc).map (fun d => d.parameters.length) = some 1 := by decide +kernel
theorem hd_X12_spoilers : yX12_spoilers.cls ≠ "java/lang/invoke/MethodHandle" ∧ yX12_spoilers.cls ≠ "java/lang/invoke/VarHandle" ∧ (parseMethodDescriptor yX12_spoilers.desc).map (fun d => d.parameters.length) = some 0 := by decide +kernel
theorem hd_X12_spoils : yX12_spoils.cls ≠ "java/lang/invoke/MethodHandle" ∧ yX12_spoils.cls ≠ "java/lang/invoke/VarHandle" ∧ (parseMethodDescriptor yX12_spoils.desc).map (fun d => d.parameters.length) = some 1 := by decide +kernel
theorem hd_X12_stand : yX12_stand.cls ≠ "java/lang/invoke/MethodHandle" ∧ yX12_stand.cls ≠ "java/lang/invoke/VarHandle" ∧ (parseMethodDescriptor yX12_stand.desc).map (fun d => d.parameters.length) = some 2 := by decide +kernel
theorem hd_X12_struck : yX12_struck.cls ≠ "java/lang/invoke/MethodHandle" ∧ yX12_struck.cls ≠ "java/lang/invoke/VarHandle" ∧ (parseMethodDescriptor yX12_struck.desc).map (fun d => d.parameters.length) = some 2 := by decide +kernel
theorem hd_X12_sure : yX12_sure.cls ≠ "java/lang/invoke/MethodHandle" ∧ yX12_sure.cls ≠ "java/lang/invoke/VarHandle" ∧ (parseMethodDescriptor yX12_sure.desc).map (fun d => d.parameters.length) = some 2 := by decide +kernel
theorem hd_X12_synonyms : yX12_synonyms.cls ≠ "java/lang/invoke/MethodHandle" ∧ yX12_synonyms.cls ≠ "java/lang/invoke/VarHandle" ∧ (parseMethodDescriptor yX12_synonyms.desc).map (fun d => d.parameters.length) = some 1 := by decide +kernel
theorem hd_X12_term : yX12_term.cls ≠ "java/lang/invoke/MethodHandle" ∧ yX12_term.cls ≠ "java/lang/invoke/VarHandle" ∧ (parseMethodDescriptor yX12_term.desc).map (fun d => d.parameters.length) = some 0 := by decide +kernel
theorem hd_X12_undo : yX12_undo.cls ≠ "java/lang/invoke/MethodHandle" ∧ yX12_undo.cls ≠ "java/lang/invoke/VarHandle" ∧ (parseMethodDescriptor yX12_undo.desc).map (fun d => d.parameters.length) = some 0 := by decide +kernel
theorem hd_X12_unlike_ : yX12_unlike_.cls ≠ "java/lang/invoke/MethodHandle" ∧ yX12_unlike_.cls ≠ "java/lang/invoke/VarHandle" ∧ (parseMethodDescriptor yX12_unlike_.desc).map (fun d => d.parameters.length) = some 2 := by decide +kernel
theorem hd_X12_votes : yX12_votes.cls ≠ "java/lang/invoke/MethodHandle" ∧ yX12_votes.cls ≠ "java/lang/invoke/VarHandle" ∧ (parseMethodDescriptor yX12_votes.desc).map (fun d => d.parameters.length) = some 1 := by decide +kernel
theorem hd_X12_wins : yX12_wins.cls ≠ "java/lang/invoke/MethodHandle" ∧ yX12_wins.cls ≠ "java/lang/invoke/VarHandle" ∧ (parseMethodDescriptor yX12_wins.desc).map (fun d => d.parameters.length) = some 2 := by decide +kernel
theorem hd_X12_with : yX12_with.cls ≠ "java/lang/invoke/MethodHandle" ∧ yX12_with.cls ≠ "java/lang/invoke/VarHandle" ∧ (parseMethodDescriptor yX12_with.desc).map (fun d => d.parameters.length) = some 2 := by decide +kernel
theorem hd_X12_word : yX12_word.cls ≠ "java/lang/invoke/MethodHandle" ∧ yX12_word.cls ≠ "java/lang/invoke/VarHandle" ∧ (parseMethodDescriptor yX12_word.desc).map (fun d => d.parameters.length) = some 2 := by decide +kernel
theorem hd_X12_write : yX12_write.cls ≠ "java/lang/invoke/MethodHandle" ∧ yX12_write.cls ≠ "java/lang/invoke/VarHandle" ∧ (parseMethodDescriptor yX12_write.desc).map (fun d => d.parameters.length) = some 3 := by decide +kernel
theorem hd_X12_years : yX12_years.cls ≠ "java/lang/invoke/MethodHandle" ∧ yX12_years.cls ≠ "java/lang/invoke/VarHandle" ∧ (parseMethodDescriptor yX12_years.desc).map (fun d => d.parameters.length) = some 3 := by decide +kernel
set_option maxRecDepth 100000 in
theorem dfX11 : ∀ j, j < 12 → defaultValue (tyX11 j) = vp_V [.null, .null, .null, .null, .null, .int 0, .null, .null, .null, .null, .null, .null] j := by
  intro j hj
  match j, hj with
  | 0, _ => rfl
  | 1, _ => rfl
  | 2, _ => rfl
  | 3, _ => rfl
  | 4, _ => rfl
  | 5, _ => rfl
  | 6, _ => rfl
  | 7, _ => rfl
  | 8, _ => rfl
  | 9, _ => rfl
  | 10, _ => rfl
  | 11, _ => rfl
  | j + 12, h => exact absurd h (by omega)
set_option maxRecDepth 100000 in
theorem dfX12 : ∀ j, j < 40 → defaultValue (tyX12 j) = vp_V [.int 0, .null, .null, .null, .null, .int 0, .null, .int 0, .int 0, .int 0, .int 0, .int 0, .int 0, .int 0, .null, .int 0, .null, .int 0, .int 0, .int 0, .null, .int 0, .null, .int 0, .null, .null, .null, .int 0, .int 0, .int 0, .null, .null, .null, .int 0, .int 0, .int 0, .null, .null, .null, .null] j := by
  intro j hj
  match j, hj with
  | 0, _ => rfl
  | 1, _ => rfl
  | 2, _ => rfl
  | 3, _ => rfl
  | 4, _ => rfl
  | 5, _ => rfl
  | 6, _ => rfl
  | 7, _ => rfl
  | 8, _ => rfl
  | 9, _ => rfl
  | 10, _ => rfl
  | 11, _ => rfl
  | 12, _ => rfl
  | 13, _ => rfl
  | 14, _ => rfl
  | 15, _ => rfl
  | 16, _ => rfl
  | 17, _ => rfl
  | 18, _ => rfl
  | 19, _ => rfl
  | 20, _ => rfl
  | 21, _ => rfl
  | 22, _ => rfl
  | 23, _ => rfl
  | 24, _ => rfl
  | 25, _ => rfl
  | 26, _ => rfl
  | 27, _ => rfl
  | 28, _ => rfl
  | 29, _ => rfl
  | 30, _ => rfl
  | 31, _ => rfl
  | 32, _ => rfl
  | 33, _ => rfl
  | 34, _ => rfl
  | 35, _ => rfl
  | 36, _ => rfl
  | 37, _ => rfl
  | 38, _ => rfl
  | 39, _ => rfl
  | j + 40, h => exact absurd h (by omega)
