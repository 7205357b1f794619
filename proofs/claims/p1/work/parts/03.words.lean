theorem iX0 : ∀ w ∈ u_ws RX0 TX0 19, w ∈ TB := by decide +kernel
theorem iX1 : ∀ w ∈ u_ws RX1 TX1 6, w ∈ TB := by decide +kernel
theorem iX2 : ∀ w ∈ u_ws RX2 TX2 13, w ∈ TB := by decide +kernel
theorem iX3 : ∀ w ∈ u_ws RX3 TX3 3, w ∈ TB := by decide +kernel
theorem iX4 : ∀ w ∈ u_ws RX4 TX4 8, w ∈ TB := by decide +kernel
theorem iX5 : ∀ w ∈ u_ws RX5 TX5 4, w ∈ TB := by decide +kernel
theorem iX6 : ∀ w ∈ u_ws RX6 TX6 3, w ∈ TB := by decide +kernel
theorem iX7 : ∀ w ∈ u_ws RX7 TX7 5, w ∈ TB := by decide +kernel
theorem iX8 : ∀ w ∈ u_ws RX8 TX8 2, w ∈ TB := by decide +kernel
theorem iX9 : ∀ w ∈ u_ws RX9 TX9 7, w ∈ TB := by decide +kernel
theorem iX10 : ∀ w ∈ u_ws RX10 TX10 3, w ∈ TB := by decide +kernel
theorem iX11 : ∀ w ∈ u_ws RX11 TX11 12, w ∈ TB := by decide +kernel
theorem iX12 : ∀ w ∈ u_ws RX12 TX12 40, w ∈ TB := by decide +kernel
theorem m_1 : Cond.initialized RX11 ∈ TB := tb_m 1 (by decide +kernel) (by decide +kernel)
theorem m_10 : Cond.initialized RX1 ∈ TB := tb_m 10 (by decide +kernel) (by decide +kernel)
theorem m_100 : Cond.fieldLink RX9 18 "WordSeats$Terms" "deadAhead" "[I" ∈ TB := tb_m 100 (by decide +kernel) (by decide +kernel)
theorem m_101 : Cond.fieldLink RX9 21 "WordSeats$Terms" "idleAhead" "[I" ∈ TB := tb_m 101 (by decide +kernel) (by decide +kernel)
theorem m_11 : Cond.initialized RX7 ∈ TB := tb_m 11 (by decide +kernel) (by decide +kernel)
theorem m_1115 : Cond.methodLink RX11 326 yX11_isParty ∈ TB := tb_m 1115 (by decide +kernel) (by decide +kernel)
theorem m_1116 : Cond.static yX11_isParty ∈ TB := tb_m 1116 (by decide +kernel) (by decide +kernel)
theorem m_1117 : Cond.code yX11_isParty cX11_isParty 1 (some .boolean) ∈ TB := tb_m 1117 (by decide +kernel) (by decide +kernel)
theorem m_117 : Cond.fieldLink RX0 53 "WordSeats$Chamber" "lines" "I" ∈ TB := tb_m 117 (by decide +kernel) (by decide +kernel)
theorem m_12 : Cond.initialized RX6 ∈ TB := tb_m 12 (by decide +kernel) (by decide +kernel)
theorem m_121 : Cond.fieldLink RX0 76 "WordSeats$Chamber" "meanings" "I" ∈ TB := tb_m 121 (by decide +kernel) (by decide +kernel)
theorem m_1216 : Cond.methodLink RX11 369 yX11_refusesSpeech ∈ TB := tb_m 1216 (by decide +kernel) (by decide +kernel)
theorem m_1218 : Cond.instanceMethod yX11_refusesSpeech ∈ TB := tb_m 1218 (by decide +kernel) (by decide +kernel)
theorem m_1219 : Cond.code yX11_refusesSpeech cX11_refusesSpeech 2 (some .int) ∈ TB := tb_m 1219 (by decide +kernel) (by decide +kernel)
theorem m_1220 : Cond.methodLink RX11 416 yX11_isSlot ∈ TB := tb_m 1220 (by decide +kernel) (by decide +kernel)
theorem m_1221 : Cond.static yX11_isSlot ∈ TB := tb_m 1221 (by decide +kernel) (by decide +kernel)
theorem m_1222 : Cond.code yX11_isSlot cX11_isSlot 1 (some .boolean) ∈ TB := tb_m 1222 (by decide +kernel) (by decide +kernel)
theorem m_1223 : Cond.methodLink RX11 423 yX6_isNothing ∈ TB := tb_m 1223 (by decide +kernel) (by decide +kernel)
theorem m_1224 : Cond.instanceMethod yX6_isNothing ∈ TB := tb_m 1224 (by decide +kernel) (by decide +kernel)
theorem m_1225 : Cond.selects RX6 yX6_isNothing yX6_isNothing ∈ TB := tb_m 1225 (by decide +kernel) (by decide +kernel)
theorem m_1226 : Cond.code yX6_isNothing cX6_isNothing 1 (some .boolean) ∈ TB := tb_m 1226 (by decide +kernel) (by decide +kernel)
theorem m_125 : Cond.fieldLink RX0 79 "WordSeats$Chamber" "law" "I" ∈ TB := tb_m 125 (by decide +kernel) (by decide +kernel)
theorem m_1269 : Cond.methodLink RX11 395 yX11_isSeed ∈ TB := tb_m 1269 (by decide +kernel) (by decide +kernel)
theorem m_1270 : Cond.static yX11_isSeed ∈ TB := tb_m 1270 (by decide +kernel) (by decide +kernel)
theorem m_1271 : Cond.code yX11_isSeed cX11_isSeed 1 (some .boolean) ∈ TB := tb_m 1271 (by decide +kernel) (by decide +kernel)
theorem m_1272 : Cond.constant RX11 451 (2000000000) ∈ TB := tb_m 1272 (by decide +kernel) (by decide +kernel)
theorem m_129 : Cond.fieldLink RX0 82 "WordSeats$Chamber" "bar" "I" ∈ TB := tb_m 129 (by decide +kernel) (by decide +kernel)
theorem m_1294 : Cond.methodLink RX11 410 yX11_filledSlots ∈ TB := tb_m 1294 (by decide +kernel) (by decide +kernel)
theorem m_1296 : Cond.instanceMethod yX11_filledSlots ∈ TB := tb_m 1296 (by decide +kernel) (by decide +kernel)
theorem m_1297 : Cond.code yX11_filledSlots cX11_filledSlots 3 (some .int) ∈ TB := tb_m 1297 (by decide +kernel) (by decide +kernel)
theorem m_13 : Cond.initialized RX12 ∈ TB := tb_m 13 (by decide +kernel) (by decide +kernel)
theorem m_1310 : Cond.methodLink RX11 419 yX6_lay ∈ TB := tb_m 1310 (by decide +kernel) (by decide +kernel)
theorem m_1311 : Cond.instanceMethod yX6_lay ∈ TB := tb_m 1311 (by decide +kernel) (by decide +kernel)
theorem m_1312 : Cond.selects RX6 yX6_lay yX6_lay ∈ TB := tb_m 1312 (by decide +kernel) (by decide +kernel)
theorem m_1313 : Cond.code yX6_lay cX6_lay 3 none ∈ TB := tb_m 1313 (by decide +kernel) (by decide +kernel)
theorem m_1314 : Cond.methodLink RX6 22 yJ7_fill_d0a16 ∈ TB := tb_m 1314 (by decide +kernel) (by decide +kernel)
theorem m_1315 : Cond.static yJ7_fill_d0a16 ∈ TB := tb_m 1315 (by decide +kernel) (by decide +kernel)
theorem m_1316 : Cond.code yJ7_fill_d0a16 cJ7_fill_d0a16 5 none ∈ TB := tb_m 1316 (by decide +kernel) (by decide +kernel)
theorem m_132 : Cond.fieldLink RX0 85 "WordSeats$Chamber" "dies" "I" ∈ TB := tb_m 132 (by decide +kernel) (by decide +kernel)
theorem m_1343 : Cond.methodLink RX12 3 objectInit ∈ TB := tb_m 1343 (by decide +kernel) (by decide +kernel)
theorem m_1344 : Cond.fieldLink RX12 9 "WordSeatsModel" "world" "[I" ∈ TB := tb_m 1344 (by decide +kernel) (by decide +kernel)
theorem m_1345 : Cond.fieldLink RX12 13 "WordSeatsModel" "images" "[I" ∈ TB := tb_m 1345 (by decide +kernel) (by decide +kernel)
theorem m_1346 : Cond.fieldLink RX12 16 "WordSeatsModel" "hasImage" "[Z" ∈ TB := tb_m 1346 (by decide +kernel) (by decide +kernel)
theorem m_1347 : Cond.fieldLink RX12 20 "WordSeatsModel" "tape" "[B" ∈ TB := tb_m 1347 (by decide +kernel) (by decide +kernel)
theorem m_1348 : Cond.fieldLink RX12 96 "WordSeatsModel" "taped" "I" ∈ TB := tb_m 1348 (by decide +kernel) (by decide +kernel)
theorem m_1349 : Cond.fieldLink RX12 24 "WordSeatsModel" "five" "[I" ∈ TB := tb_m 1349 (by decide +kernel) (by decide +kernel)
theorem m_135 : Cond.fieldLink RX0 61 "WordSeats$Chamber" "districts" "I" ∈ TB := tb_m 135 (by decide +kernel) (by decide +kernel)
theorem m_1350 : Cond.fieldLink RX12 99 "WordSeatsModel" "size" "I" ∈ TB := tb_m 1350 (by decide +kernel) (by decide +kernel)
theorem m_1351 : Cond.fieldLink RX12 102 "WordSeatsModel" "at" "I" ∈ TB := tb_m 1351 (by decide +kernel) (by decide +kernel)
theorem m_1352 : Cond.fieldLink RX12 109 "WordSeatsModel" "from" "I" ∈ TB := tb_m 1352 (by decide +kernel) (by decide +kernel)
theorem m_1353 : Cond.fieldLink RX12 112 "WordSeatsModel" "token" "I" ∈ TB := tb_m 1353 (by decide +kernel) (by decide +kernel)
theorem m_1355 : Cond.fieldLink RX12 132 "WordSeatsModel" "faultKind" "I" ∈ TB := tb_m 1355 (by decide +kernel) (by decide +kernel)
theorem m_1356 : Cond.fieldLink RX12 27 "WordSeatsModel" "faultPlace" "I" ∈ TB := tb_m 1356 (by decide +kernel) (by decide +kernel)
theorem m_1357 : Cond.fieldLink RX12 31 "WordSeatsModel" "fresh" "[I" ∈ TB := tb_m 1357 (by decide +kernel) (by decide +kernel)
theorem m_1359 : Cond.fieldLink RX12 34 "WordSeatsModel" "placeOf" "[I" ∈ TB := tb_m 1359 (by decide +kernel) (by decide +kernel)
theorem m_1361 : Cond.fieldLink RX12 37 "WordSeatsModel" "feinter" "I" ∈ TB := tb_m 1361 (by decide +kernel) (by decide +kernel)
theorem m_1363 : Cond.fieldLink RX12 40 "WordSeatsModel" "tally" "[I" ∈ TB := tb_m 1363 (by decide +kernel) (by decide +kernel)
theorem m_1365 : Cond.fieldLink RX12 43 "WordSeatsModel" "struckRow" "[I" ∈ TB := tb_m 1365 (by decide +kernel) (by decide +kernel)
theorem m_1367 : Cond.fieldLink RX12 46 "WordSeatsModel" "seasons" "[I" ∈ TB := tb_m 1367 (by decide +kernel) (by decide +kernel)
theorem m_1368 : Cond.fieldLink RX12 49 "WordSeatsModel" "saidBy" "[I" ∈ TB := tb_m 1368 (by decide +kernel) (by decide +kernel)
theorem m_1369 : Cond.fieldLink RX12 52 "WordSeatsModel" "leastBy" "[I" ∈ TB := tb_m 1369 (by decide +kernel) (by decide +kernel)
theorem m_1373 : Cond.fieldLink RX12 55 "WordSeatsModel" "partyVotes" "[I" ∈ TB := tb_m 1373 (by decide +kernel) (by decide +kernel)
theorem m_1374 : Cond.fieldLink RX12 58 "WordSeatsModel" "listed" "[I" ∈ TB := tb_m 1374 (by decide +kernel) (by decide +kernel)
theorem m_1375 : Cond.fieldLink RX12 61 "WordSeatsModel" "riggedRow" "[I" ∈ TB := tb_m 1375 (by decide +kernel) (by decide +kernel)
theorem m_1379 : Cond.fieldLink RX12 64 "WordSeatsModel" "many" "[I" ∈ TB := tb_m 1379 (by decide +kernel) (by decide +kernel)
theorem m_1380 : Cond.fieldLink RX12 67 "WordSeatsModel" "width" "[I" ∈ TB := tb_m 1380 (by decide +kernel) (by decide +kernel)
theorem m_1381 : Cond.fieldLink RX12 70 "WordSeatsModel" "numbers" "[J" ∈ TB := tb_m 1381 (by decide +kernel) (by decide +kernel)
theorem m_1382 : Cond.fieldLink RX12 74 "WordSeatsModel" "moving" "[J" ∈ TB := tb_m 1382 (by decide +kernel) (by decide +kernel)
theorem m_14 : Cond.initialized RJ7 ∈ TB := tb_m 14 (by decide +kernel) (by decide +kernel)
theorem m_142 : Cond.fieldLink RX0 64 "WordSeats$Chamber" "words" "I" ∈ TB := tb_m 142 (by decide +kernel) (by decide +kernel)
theorem m_1468 : Cond.constantLong RX12 80 (2) ∈ TB := tb_m 1468 (by decide +kernel) (by decide +kernel)
theorem m_1469 : Cond.methodLink RX12 82 yX12_in ∈ TB := tb_m 1469 (by decide +kernel) (by decide +kernel)
theorem m_1470 : Cond.static yX12_in ∈ TB := tb_m 1470 (by decide +kernel) (by decide +kernel)
theorem m_1471 : Cond.code yX12_in cX12_in 6 (some .boolean) ∈ TB := tb_m 1471 (by decide +kernel) (by decide +kernel)
theorem m_149 : Cond.fieldLink RX0 67 "WordSeats$Chamber" "speakers" "I" ∈ TB := tb_m 149 (by decide +kernel) (by decide +kernel)
theorem m_1492 : Cond.methodLink RX12 152 yX12_advance ∈ TB := tb_m 1492 (by decide +kernel) (by decide +kernel)
theorem m_1494 : Cond.instanceMethod yX12_advance ∈ TB := tb_m 1494 (by decide +kernel) (by decide +kernel)
theorem m_1495 : Cond.code yX12_advance cX12_advance 2 none ∈ TB := tb_m 1495 (by decide +kernel) (by decide +kernel)
theorem m_1496 : Cond.methodLink RX12 105 yX12_see ∈ TB := tb_m 1496 (by decide +kernel) (by decide +kernel)
theorem m_1498 : Cond.instanceMethod yX12_see ∈ TB := tb_m 1498 (by decide +kernel) (by decide +kernel)
theorem m_1499 : Cond.code yX12_see cX12_see 2 (some .int) ∈ TB := tb_m 1499 (by decide +kernel) (by decide +kernel)
theorem m_1506 : Cond.methodLink RX12 135 yX12_good ∈ TB := tb_m 1506 (by decide +kernel) (by decide +kernel)
theorem m_1508 : Cond.instanceMethod yX12_good ∈ TB := tb_m 1508 (by decide +kernel) (by decide +kernel)
theorem m_1509 : Cond.code yX12_good cX12_good 1 (some .boolean) ∈ TB := tb_m 1509 (by decide +kernel) (by decide +kernel)
theorem m_153 : Cond.fieldLink RX0 9 "WordSeats$Chamber" "seats" "[I" ∈ TB := tb_m 153 (by decide +kernel) (by decide +kernel)
theorem m_156 : Cond.fieldLink RX0 15 "WordSeats$Chamber" "letters" "[I" ∈ TB := tb_m 156 (by decide +kernel) (by decide +kernel)
theorem m_160 : Cond.fieldLink RX0 18 "WordSeats$Chamber" "home" "[I" ∈ TB := tb_m 160 (by decide +kernel) (by decide +kernel)
theorem m_1607 : Cond.methodLink RX12 322 yX12_isWord ∈ TB := tb_m 1607 (by decide +kernel) (by decide +kernel)
theorem m_1609 : Cond.instanceMethod yX12_isWord ∈ TB := tb_m 1609 (by decide +kernel) (by decide +kernel)
theorem m_1610 : Cond.code yX12_isWord cX12_isWord 3 (some .boolean) ∈ TB := tb_m 1610 (by decide +kernel) (by decide +kernel)
theorem m_1623 : Cond.methodLink RX12 328 yX12_isSpeaker ∈ TB := tb_m 1623 (by decide +kernel) (by decide +kernel)
theorem m_1625 : Cond.instanceMethod yX12_isSpeaker ∈ TB := tb_m 1625 (by decide +kernel) (by decide +kernel)
theorem m_1626 : Cond.code yX12_isSpeaker cX12_isSpeaker 2 (some .boolean) ∈ TB := tb_m 1626 (by decide +kernel) (by decide +kernel)
theorem m_1627 : Cond.constantLong RX12 86 (3) ∈ TB := tb_m 1627 (by decide +kernel) (by decide +kernel)
theorem m_1636 : Cond.methodLink RX12 332 yX12_isDistrict ∈ TB := tb_m 1636 (by decide +kernel) (by decide +kernel)
theorem m_1638 : Cond.instanceMethod yX12_isDistrict ∈ TB := tb_m 1638 (by decide +kernel) (by decide +kernel)
theorem m_1639 : Cond.code yX12_isDistrict cX12_isDistrict 2 (some .boolean) ∈ TB := tb_m 1639 (by decide +kernel) (by decide +kernel)
theorem m_164 : Cond.fieldLink RX0 21 "WordSeats$Chamber" "party" "[I" ∈ TB := tb_m 164 (by decide +kernel) (by decide +kernel)
theorem m_168 : Cond.fieldLink RX0 24 "WordSeats$Chamber" "means" "[I" ∈ TB := tb_m 168 (by decide +kernel) (by decide +kernel)
theorem m_172 : Cond.fieldLink RX0 27 "WordSeats$Chamber" "place" "[I" ∈ TB := tb_m 172 (by decide +kernel) (by decide +kernel)
theorem m_175 : Cond.fieldLink RX0 30 "WordSeats$Chamber" "weight" "[I" ∈ TB := tb_m 175 (by decide +kernel) (by decide +kernel)
theorem m_1766 : Cond.methodLink RX12 347 yX12_isChamber ∈ TB := tb_m 1766 (by decide +kernel) (by decide +kernel)
theorem m_1768 : Cond.instanceMethod yX12_isChamber ∈ TB := tb_m 1768 (by decide +kernel) (by decide +kernel)
theorem m_1769 : Cond.code yX12_isChamber cX12_isChamber 1 (some .boolean) ∈ TB := tb_m 1769 (by decide +kernel) (by decide +kernel)
theorem m_179 : Cond.fieldLink RX0 33 "WordSeats$Chamber" "comes" "[I" ∈ TB := tb_m 179 (by decide +kernel) (by decide +kernel)
theorem m_182 : Cond.fieldLink RX0 36 "WordSeats$Chamber" "needs" "[I" ∈ TB := tb_m 182 (by decide +kernel) (by decide +kernel)
theorem m_1822 : Cond.methodLink RX12 363 yX12_isMeaning ∈ TB := tb_m 1822 (by decide +kernel) (by decide +kernel)
theorem m_1824 : Cond.instanceMethod yX12_isMeaning ∈ TB := tb_m 1824 (by decide +kernel) (by decide +kernel)
theorem m_1825 : Cond.code yX12_isMeaning cX12_isMeaning 3 (some .boolean) ∈ TB := tb_m 1825 (by decide +kernel) (by decide +kernel)
theorem m_185 : Cond.fieldLink RX0 42 "WordSeats$Chamber" "rounds" "LWordSeats$Rounds;" ∈ TB := tb_m 185 (by decide +kernel) (by decide +kernel)
theorem m_1882 : Cond.methodLink RX12 381 yX12_areMeanings ∈ TB := tb_m 1882 (by decide +kernel) (by decide +kernel)
theorem m_1884 : Cond.instanceMethod yX12_areMeanings ∈ TB := tb_m 1884 (by decide +kernel) (by decide +kernel)
theorem m_1885 : Cond.code yX12_areMeanings cX12_areMeanings 2 (some .boolean) ∈ TB := tb_m 1885 (by decide +kernel) (by decide +kernel)
theorem m_189 : Cond.fieldLink RX0 49 "WordSeats$Chamber" "terms" "LWordSeats$Terms;" ∈ TB := tb_m 189 (by decide +kernel) (by decide +kernel)
theorem m_1934 : Cond.methodLink RX12 413 yX12_isParty ∈ TB := tb_m 1934 (by decide +kernel) (by decide +kernel)
theorem m_1935 : Cond.static yX12_isParty ∈ TB := tb_m 1935 (by decide +kernel) (by decide +kernel)
theorem m_1936 : Cond.code yX12_isParty cX12_isParty 1 (some .boolean) ∈ TB := tb_m 1936 (by decide +kernel) (by decide +kernel)
theorem m_1945 : Cond.methodLink RX12 416 yX12_areParties ∈ TB := tb_m 1945 (by decide +kernel) (by decide +kernel)
theorem m_1947 : Cond.instanceMethod yX12_areParties ∈ TB := tb_m 1947 (by decide +kernel) (by decide +kernel)
theorem m_1948 : Cond.code yX12_areParties cX12_areParties 2 (some .boolean) ∈ TB := tb_m 1948 (by decide +kernel) (by decide +kernel)
theorem m_1976 : Cond.constantLong RX12 428 (20) ∈ TB := tb_m 1976 (by decide +kernel) (by decide +kernel)
theorem m_1997 : Cond.methodLink RX12 448 yX12_asksSpeech ∈ TB := tb_m 1997 (by decide +kernel) (by decide +kernel)
theorem m_1999 : Cond.instanceMethod yX12_asksSpeech ∈ TB := tb_m 1999 (by decide +kernel) (by decide +kernel)
theorem m_2 : Cond.initialized RX8 ∈ TB := tb_m 2 (by decide +kernel) (by decide +kernel)
theorem m_20 : Cond.initialized RJ10 ∈ TB := tb_m 20 (by decide +kernel) (by decide +kernel)
theorem m_2000 : Cond.code yX12_asksSpeech cX12_asksSpeech 4 (some .int) ∈ TB := tb_m 2000 (by decide +kernel) (by decide +kernel)
theorem m_2001 : Cond.methodLink RX12 439 yX12_isSlot ∈ TB := tb_m 2001 (by decide +kernel) (by decide +kernel)
theorem m_2002 : Cond.static yX12_isSlot ∈ TB := tb_m 2002 (by decide +kernel) (by decide +kernel)
theorem m_2003 : Cond.code yX12_isSlot cX12_isSlot 1 (some .boolean) ∈ TB := tb_m 2003 (by decide +kernel) (by decide +kernel)
theorem m_2008 : Cond.constantLong RX12 446 (9) ∈ TB := tb_m 2008 (by decide +kernel) (by decide +kernel)
theorem m_2042 : Cond.methodLink RX12 476 yX12_isSeed ∈ TB := tb_m 2042 (by decide +kernel) (by decide +kernel)
theorem m_2043 : Cond.static yX12_isSeed ∈ TB := tb_m 2043 (by decide +kernel) (by decide +kernel)
theorem m_2044 : Cond.code yX12_isSeed cX12_isSeed 1 (some .boolean) ∈ TB := tb_m 2044 (by decide +kernel) (by decide +kernel)
theorem m_2045 : Cond.constantLong RX12 474 (2000000000) ∈ TB := tb_m 2045 (by decide +kernel) (by decide +kernel)
theorem m_233 : Cond.classLink RX11 23 RX4 ∈ TB := tb_m 233 (by decide +kernel) (by decide +kernel)
theorem m_234 : Cond.instantiable RX4 8 ∈ TB := tb_m 234 (by decide +kernel) (by decide +kernel)
theorem m_235 : Cond.methodLink RX11 25 yX4_init ∈ TB := tb_m 235 (by decide +kernel) (by decide +kernel)
theorem m_236 : Cond.instanceMethod yX4_init ∈ TB := tb_m 236 (by decide +kernel) (by decide +kernel)
theorem m_237 : Cond.code yX4_init cX4_init 3 none ∈ TB := tb_m 237 (by decide +kernel) (by decide +kernel)
theorem m_238 : Cond.methodLink RX4 3 objectInit ∈ TB := tb_m 238 (by decide +kernel) (by decide +kernel)
theorem m_239 : Cond.fieldLink RX4 15 "WordSeats$Reader" "tape" "LWordSeats$Tape;" ∈ TB := tb_m 239 (by decide +kernel) (by decide +kernel)
theorem m_240 : Cond.fieldLink RX4 19 "WordSeats$Reader" "draft" "LWordSeats$Chamber;" ∈ TB := tb_m 240 (by decide +kernel) (by decide +kernel)
theorem m_241 : Cond.fieldLink RX4 23 "WordSeats$Reader" "fault" "I" ∈ TB := tb_m 241 (by decide +kernel) (by decide +kernel)
theorem m_243 : Cond.fieldLink RX4 9 "WordSeats$Reader" "place" "I" ∈ TB := tb_m 243 (by decide +kernel) (by decide +kernel)
theorem m_245 : Cond.fieldLink RX4 37 "WordSeats$Reader" "kind" "I" ∈ TB := tb_m 245 (by decide +kernel) (by decide +kernel)
theorem m_246 : Cond.fieldLink RX4 183 "WordSeats$Reader" "from" "I" ∈ TB := tb_m 246 (by decide +kernel) (by decide +kernel)
theorem m_247 : Cond.fieldLink RX4 26 "WordSeats$Reader" "past" "I" ∈ TB := tb_m 247 (by decide +kernel) (by decide +kernel)
theorem m_267 : Cond.classLink RX11 39 RX6 ∈ TB := tb_m 267 (by decide +kernel) (by decide +kernel)
theorem m_269 : Cond.classLink RX11 45 RX2 ∈ TB := tb_m 269 (by decide +kernel) (by decide +kernel)
theorem m_27 : Cond.methodLink RX11 1 objectInit ∈ TB := tb_m 27 (by decide +kernel) (by decide +kernel)
theorem m_270 : Cond.instantiable RX2 13 ∈ TB := tb_m 270 (by decide +kernel) (by decide +kernel)
theorem m_271 : Cond.methodLink RX11 47 yX2_init ∈ TB := tb_m 271 (by decide +kernel) (by decide +kernel)
theorem m_272 : Cond.instanceMethod yX2_init ∈ TB := tb_m 272 (by decide +kernel) (by decide +kernel)
theorem m_273 : Cond.code yX2_init cX2_init 2 none ∈ TB := tb_m 273 (by decide +kernel) (by decide +kernel)
theorem m_274 : Cond.methodLink RX2 5 objectInit ∈ TB := tb_m 274 (by decide +kernel) (by decide +kernel)
theorem m_275 : Cond.fieldLink RX2 21 "WordSeats$Election" "chamber" "LWordSeats$Chamber;" ∈ TB := tb_m 275 (by decide +kernel) (by decide +kernel)
theorem m_28 : Cond.instanceMethod objectInit ∈ TB := tb_m 28 (by decide +kernel) (by decide +kernel)
theorem m_282 : Cond.fieldLink RX2 11 "WordSeats$Election" "zeal" "[I" ∈ TB := tb_m 282 (by decide +kernel) (by decide +kernel)
theorem m_283 : Cond.fieldLink RX2 15 "WordSeats$Election" "tally" "[I" ∈ TB := tb_m 283 (by decide +kernel) (by decide +kernel)
theorem m_288 : Cond.fieldLink RX2 18 "WordSeats$Election" "fallen" "[I" ∈ TB := tb_m 288 (by decide +kernel) (by decide +kernel)
theorem m_29 : Cond.code objectInit ⟨#[0xb1]⟩ 1 none ∈ TB := tb_m 29 (by decide +kernel) (by decide +kernel)
theorem m_3 : Cond.initialized RX0 ∈ TB := tb_m 3 (by decide +kernel) (by decide +kernel)
theorem m_30 : Cond.classLink RX11 7 RX8 ∈ TB := tb_m 30 (by decide +kernel) (by decide +kernel)
theorem m_31 : Cond.instantiable RX8 2 ∈ TB := tb_m 31 (by decide +kernel) (by decide +kernel)
theorem m_325 : Cond.classLink RX11 54 RX10 ∈ TB := tb_m 325 (by decide +kernel) (by decide +kernel)
theorem m_326 : Cond.instantiable RX10 3 ∈ TB := tb_m 326 (by decide +kernel) (by decide +kernel)
theorem m_327 : Cond.methodLink RX11 56 yX10_init ∈ TB := tb_m 327 (by decide +kernel) (by decide +kernel)
theorem m_328 : Cond.instanceMethod yX10_init ∈ TB := tb_m 328 (by decide +kernel) (by decide +kernel)
theorem m_329 : Cond.code yX10_init cX10_init 2 none ∈ TB := tb_m 329 (by decide +kernel) (by decide +kernel)
theorem m_33 : Cond.instanceMethod yX8_init ∈ TB := tb_m 33 (by decide +kernel) (by decide +kernel)
theorem m_330 : Cond.methodLink RX10 3 objectInit ∈ TB := tb_m 330 (by decide +kernel) (by decide +kernel)
theorem m_331 : Cond.fieldLink RX10 18 "WordSeats$Tongue" "chamber" "LWordSeats$Chamber;" ∈ TB := tb_m 331 (by decide +kernel) (by decide +kernel)
theorem m_332 : Cond.fieldLink RX10 9 "WordSeats$Tongue" "plain" "[I" ∈ TB := tb_m 332 (by decide +kernel) (by decide +kernel)
theorem m_334 : Cond.fieldLink RX10 15 "WordSeats$Tongue" "brief" "[I" ∈ TB := tb_m 334 (by decide +kernel) (by decide +kernel)
theorem m_34 : Cond.code yX8_init cX8_init 1 none ∈ TB := tb_m 34 (by decide +kernel) (by decide +kernel)
theorem m_343 : Cond.classLink RX11 61 RX3 ∈ TB := tb_m 343 (by decide +kernel) (by decide +kernel)
theorem m_344 : Cond.instantiable RX3 3 ∈ TB := tb_m 344 (by decide +kernel) (by decide +kernel)
theorem m_345 : Cond.methodLink RX11 63 yX3_init ∈ TB := tb_m 345 (by decide +kernel) (by decide +kernel)
theorem m_346 : Cond.instanceMethod yX3_init ∈ TB := tb_m 346 (by decide +kernel) (by decide +kernel)
theorem m_347 : Cond.code yX3_init cX3_init 2 none ∈ TB := tb_m 347 (by decide +kernel) (by decide +kernel)
theorem m_348 : Cond.methodLink RX3 3 objectInit ∈ TB := tb_m 348 (by decide +kernel) (by decide +kernel)
theorem m_349 : Cond.fieldLink RX3 18 "WordSeats$Parties" "chamber" "LWordSeats$Chamber;" ∈ TB := tb_m 349 (by decide +kernel) (by decide +kernel)
theorem m_35 : Cond.methodLink RX8 3 objectInit ∈ TB := tb_m 35 (by decide +kernel) (by decide +kernel)
theorem m_350 : Cond.fieldLink RX3 9 "WordSeats$Parties" "firstVotes" "[I" ∈ TB := tb_m 350 (by decide +kernel) (by decide +kernel)
theorem m_351 : Cond.fieldLink RX3 15 "WordSeats$Parties" "allotted" "[I" ∈ TB := tb_m 351 (by decide +kernel) (by decide +kernel)
theorem m_36 : Cond.fieldLink RX8 9 "WordSeats$Tape" "bytes" "[B" ∈ TB := tb_m 36 (by decide +kernel) (by decide +kernel)
theorem m_360 : Cond.classLink RX11 68 RX1 ∈ TB := tb_m 360 (by decide +kernel) (by decide +kernel)
theorem m_361 : Cond.instantiable RX1 6 ∈ TB := tb_m 361 (by decide +kernel) (by decide +kernel)
theorem m_362 : Cond.methodLink RX11 70 yX1_init ∈ TB := tb_m 362 (by decide +kernel) (by decide +kernel)
theorem m_363 : Cond.instanceMethod yX1_init ∈ TB := tb_m 363 (by decide +kernel) (by decide +kernel)
theorem m_364 : Cond.code yX1_init cX1_init 3 none ∈ TB := tb_m 364 (by decide +kernel) (by decide +kernel)
theorem m_365 : Cond.methodLink RX1 3 objectInit ∈ TB := tb_m 365 (by decide +kernel) (by decide +kernel)
theorem m_366 : Cond.fieldLink RX1 19 "WordSeats$Districting" "chamber" "LWordSeats$Chamber;" ∈ TB := tb_m 366 (by decide +kernel) (by decide +kernel)
theorem m_367 : Cond.fieldLink RX1 23 "WordSeats$Districting" "election" "LWordSeats$Election;" ∈ TB := tb_m 367 (by decide +kernel) (by decide +kernel)
theorem m_368 : Cond.fieldLink RX1 11 "WordSeats$Districting" "theirs" "[Z" ∈ TB := tb_m 368 (by decide +kernel) (by decide +kernel)
theorem m_369 : Cond.fieldLink RX1 15 "WordSeats$Districting" "people" "[I" ∈ TB := tb_m 369 (by decide +kernel) (by decide +kernel)
theorem m_37 : Cond.fieldLink RX8 15 "WordSeats$Tape" "length" "I" ∈ TB := tb_m 37 (by decide +kernel) (by decide +kernel)
theorem m_386 : Cond.arrayClass .boolean ∈ TB := tb_m 386 (by decide +kernel) (by decide +kernel)
theorem m_387 : Cond.classLink RX11 77 RX7 ∈ TB := tb_m 387 (by decide +kernel) (by decide +kernel)
theorem m_388 : Cond.instantiable RX7 5 ∈ TB := tb_m 388 (by decide +kernel) (by decide +kernel)
theorem m_389 : Cond.methodLink RX11 79 yX7_init ∈ TB := tb_m 389 (by decide +kernel) (by decide +kernel)
theorem m_390 : Cond.instanceMethod yX7_init ∈ TB := tb_m 390 (by decide +kernel) (by decide +kernel)
theorem m_391 : Cond.code yX7_init cX7_init 3 none ∈ TB := tb_m 391 (by decide +kernel) (by decide +kernel)
theorem m_392 : Cond.methodLink RX7 3 objectInit ∈ TB := tb_m 392 (by decide +kernel) (by decide +kernel)
theorem m_393 : Cond.fieldLink RX7 9 "WordSeats$Speeches" "chamber" "LWordSeats$Chamber;" ∈ TB := tb_m 393 (by decide +kernel) (by decide +kernel)
theorem m_394 : Cond.fieldLink RX7 15 "WordSeats$Speeches" "tongue" "LWordSeats$Tongue;" ∈ TB := tb_m 394 (by decide +kernel) (by decide +kernel)
theorem m_4 : Cond.initialized RX5 ∈ TB := tb_m 4 (by decide +kernel) (by decide +kernel)
theorem m_412 : Cond.instantiable RX6 3 ∈ TB := tb_m 412 (by decide +kernel) (by decide +kernel)
theorem m_414 : Cond.instanceMethod yX6_init ∈ TB := tb_m 414 (by decide +kernel) (by decide +kernel)
theorem m_415 : Cond.code yX6_init cX6_init 1 none ∈ TB := tb_m 415 (by decide +kernel) (by decide +kernel)
theorem m_416 : Cond.methodLink RX6 3 objectInit ∈ TB := tb_m 416 (by decide +kernel) (by decide +kernel)
theorem m_417 : Cond.fieldLink RX6 9 "WordSeats$Row" "numbers" "[J" ∈ TB := tb_m 417 (by decide +kernel) (by decide +kernel)
theorem m_420 : Cond.fieldLink RX6 15 "WordSeats$Row" "width" "I" ∈ TB := tb_m 420 (by decide +kernel) (by decide +kernel)
theorem m_423 : Cond.fieldLink RX6 19 "WordSeats$Row" "length" "I" ∈ TB := tb_m 423 (by decide +kernel) (by decide +kernel)
theorem m_432 : Cond.arrayClass .long ∈ TB := tb_m 432 (by decide +kernel) (by decide +kernel)
theorem m_433 : Cond.fieldLink RX11 10 "WordSeats" "tape" "LWordSeats$Tape;" ∈ TB := tb_m 433 (by decide +kernel) (by decide +kernel)
theorem m_434 : Cond.fieldLink RX11 19 "WordSeats" "draft" "LWordSeats$Chamber;" ∈ TB := tb_m 434 (by decide +kernel) (by decide +kernel)
theorem m_435 : Cond.fieldLink RX11 28 "WordSeats" "reader" "LWordSeats$Reader;" ∈ TB := tb_m 435 (by decide +kernel) (by decide +kernel)
theorem m_436 : Cond.fieldLink RX11 32 "WordSeats" "now" "LWordSeats$Chamber;" ∈ TB := tb_m 436 (by decide +kernel) (by decide +kernel)
theorem m_437 : Cond.fieldLink RX11 35 "WordSeats" "images" "[LWordSeats$Chamber;" ∈ TB := tb_m 437 (by decide +kernel) (by decide +kernel)
theorem m_438 : Cond.fieldLink RX11 413 "WordSeats" "imaged" "I" ∈ TB := tb_m 438 (by decide +kernel) (by decide +kernel)
theorem m_439 : Cond.fieldLink RX11 41 "WordSeats" "slots" "[LWordSeats$Row;" ∈ TB := tb_m 439 (by decide +kernel) (by decide +kernel)
theorem m_440 : Cond.fieldLink RX11 50 "WordSeats" "election" "LWordSeats$Election;" ∈ TB := tb_m 440 (by decide +kernel) (by decide +kernel)
theorem m_441 : Cond.fieldLink RX11 57 "WordSeats" "tongue" "LWordSeats$Tongue;" ∈ TB := tb_m 441 (by decide +kernel) (by decide +kernel)
theorem m_442 : Cond.fieldLink RX11 64 "WordSeats" "parties" "LWordSeats$Parties;" ∈ TB := tb_m 442 (by decide +kernel) (by decide +kernel)
theorem m_443 : Cond.fieldLink RX11 73 "WordSeats" "districting" "LWordSeats$Districting;" ∈ TB := tb_m 443 (by decide +kernel) (by decide +kernel)
theorem m_444 : Cond.fieldLink RX11 82 "WordSeats" "speeches" "LWordSeats$Speeches;" ∈ TB := tb_m 444 (by decide +kernel) (by decide +kernel)
theorem m_45 : Cond.arrayClass .byte ∈ TB := tb_m 45 (by decide +kernel) (by decide +kernel)
theorem m_46 : Cond.classLink RX11 16 RX0 ∈ TB := tb_m 46 (by decide +kernel) (by decide +kernel)
theorem m_47 : Cond.instantiable RX0 19 ∈ TB := tb_m 47 (by decide +kernel) (by decide +kernel)
theorem m_474 : Cond.methodLink RX11 87 yX8_hasRoom ∈ TB := tb_m 474 (by decide +kernel) (by decide +kernel)
theorem m_475 : Cond.instanceMethod yX8_hasRoom ∈ TB := tb_m 475 (by decide +kernel) (by decide +kernel)
theorem m_476 : Cond.selects RX8 yX8_hasRoom yX8_hasRoom ∈ TB := tb_m 476 (by decide +kernel) (by decide +kernel)
theorem m_477 : Cond.code yX8_hasRoom cX8_hasRoom 1 (some .boolean) ∈ TB := tb_m 477 (by decide +kernel) (by decide +kernel)
theorem m_478 : Cond.methodLink RX11 91 yX8_add ∈ TB := tb_m 478 (by decide +kernel) (by decide +kernel)
theorem m_479 : Cond.instanceMethod yX8_add ∈ TB := tb_m 479 (by decide +kernel) (by decide +kernel)
theorem m_480 : Cond.selects RX8 yX8_add yX8_add ∈ TB := tb_m 480 (by decide +kernel) (by decide +kernel)
theorem m_481 : Cond.code yX8_add cX8_add 3 none ∈ TB := tb_m 481 (by decide +kernel) (by decide +kernel)
theorem m_49 : Cond.instanceMethod yX0_init ∈ TB := tb_m 49 (by decide +kernel) (by decide +kernel)
theorem m_490 : Cond.methodLink RX11 99 yX4_read ∈ TB := tb_m 490 (by decide +kernel) (by decide +kernel)
theorem m_491 : Cond.instanceMethod yX4_read ∈ TB := tb_m 491 (by decide +kernel) (by decide +kernel)
theorem m_492 : Cond.selects RX4 yX4_read yX4_read ∈ TB := tb_m 492 (by decide +kernel) (by decide +kernel)
theorem m_493 : Cond.code yX4_read cX4_read 2 none ∈ TB := tb_m 493 (by decide +kernel) (by decide +kernel)
theorem m_494 : Cond.methodLink RX4 29 yX0_clear ∈ TB := tb_m 494 (by decide +kernel) (by decide +kernel)
theorem m_495 : Cond.instanceMethod yX0_clear ∈ TB := tb_m 495 (by decide +kernel) (by decide +kernel)
theorem m_496 : Cond.selects RX0 yX0_clear yX0_clear ∈ TB := tb_m 496 (by decide +kernel) (by decide +kernel)
theorem m_497 : Cond.code yX0_clear cX0_clear 1 none ∈ TB := tb_m 497 (by decide +kernel) (by decide +kernel)
theorem m_498 : Cond.methodLink RX0 57 yX0_open ∈ TB := tb_m 498 (by decide +kernel) (by decide +kernel)
theorem m_499 : Cond.instanceMethod yX0_open ∈ TB := tb_m 499 (by decide +kernel) (by decide +kernel)
theorem m_5 : Cond.initialized RX9 ∈ TB := tb_m 5 (by decide +kernel) (by decide +kernel)
theorem m_50 : Cond.code yX0_init cX0_init 1 none ∈ TB := tb_m 50 (by decide +kernel) (by decide +kernel)
theorem m_500 : Cond.selects RX0 yX0_open yX0_open ∈ TB := tb_m 500 (by decide +kernel) (by decide +kernel)
theorem m_501 : Cond.code yX0_open cX0_open 5 none ∈ TB := tb_m 501 (by decide +kernel) (by decide +kernel)
theorem m_502 : Cond.methodLink RX0 73 yX9_clear ∈ TB := tb_m 502 (by decide +kernel) (by decide +kernel)
theorem m_503 : Cond.instanceMethod yX9_clear ∈ TB := tb_m 503 (by decide +kernel) (by decide +kernel)
theorem m_504 : Cond.selects RX9 yX9_clear yX9_clear ∈ TB := tb_m 504 (by decide +kernel) (by decide +kernel)
theorem m_505 : Cond.code yX9_clear cX9_clear 1 none ∈ TB := tb_m 505 (by decide +kernel) (by decide +kernel)
theorem m_506 : Cond.methodLink RX9 34 yJ7_fill_53178 ∈ TB := tb_m 506 (by decide +kernel) (by decide +kernel)
theorem m_507 : Cond.static yJ7_fill_53178 ∈ TB := tb_m 507 (by decide +kernel) (by decide +kernel)
theorem m_508 : Cond.code yJ7_fill_53178 cJ7_fill_53178 4 none ∈ TB := tb_m 508 (by decide +kernel) (by decide +kernel)
theorem m_509 : Cond.methodLink RX4 34 yX4_advance ∈ TB := tb_m 509 (by decide +kernel) (by decide +kernel)
theorem m_51 : Cond.methodLink RX0 3 objectInit ∈ TB := tb_m 51 (by decide +kernel) (by decide +kernel)
theorem m_511 : Cond.instanceMethod yX4_advance ∈ TB := tb_m 511 (by decide +kernel) (by decide +kernel)
theorem m_512 : Cond.code yX4_advance cX4_advance 1 none ∈ TB := tb_m 512 (by decide +kernel) (by decide +kernel)
theorem m_52 : Cond.classLink RX0 39 RX5 ∈ TB := tb_m 52 (by decide +kernel) (by decide +kernel)
theorem m_53 : Cond.instantiable RX5 4 ∈ TB := tb_m 53 (by decide +kernel) (by decide +kernel)
theorem m_55 : Cond.instanceMethod yX5_init ∈ TB := tb_m 55 (by decide +kernel) (by decide +kernel)
theorem m_56 : Cond.code yX5_init cX5_init 1 none ∈ TB := tb_m 56 (by decide +kernel) (by decide +kernel)
theorem m_57 : Cond.methodLink RX5 3 objectInit ∈ TB := tb_m 57 (by decide +kernel) (by decide +kernel)
theorem m_58 : Cond.fieldLink RX5 21 "WordSeats$Rounds" "known" "I" ∈ TB := tb_m 58 (by decide +kernel) (by decide +kernel)
theorem m_6 : Cond.initialized RX4 ∈ TB := tb_m 6 (by decide +kernel) (by decide +kernel)
theorem m_63 : Cond.fieldLink RX5 9 "WordSeats$Rounds" "goal" "[I" ∈ TB := tb_m 63 (by decide +kernel) (by decide +kernel)
theorem m_65 : Cond.fieldLink RX5 15 "WordSeats$Rounds" "left" "[I" ∈ TB := tb_m 65 (by decide +kernel) (by decide +kernel)
theorem m_67 : Cond.fieldLink RX5 18 "WordSeats$Rounds" "right" "[I" ∈ TB := tb_m 67 (by decide +kernel) (by decide +kernel)
theorem m_677 : Cond.methodLink RX11 105 yX0_copyFrom ∈ TB := tb_m 677 (by decide +kernel) (by decide +kernel)
theorem m_678 : Cond.instanceMethod yX0_copyFrom ∈ TB := tb_m 678 (by decide +kernel) (by decide +kernel)
theorem m_679 : Cond.selects RX0 yX0_copyFrom yX0_copyFrom ∈ TB := tb_m 679 (by decide +kernel) (by decide +kernel)
theorem m_680 : Cond.code yX0_copyFrom cX0_copyFrom 2 none ∈ TB := tb_m 680 (by decide +kernel) (by decide +kernel)
theorem m_681 : Cond.methodLink RX0 88 arraycopyName ∈ TB := tb_m 681 (by decide +kernel) (by decide +kernel)
theorem m_682 : Cond.static arraycopyName ∈ TB := tb_m 682 (by decide +kernel) (by decide +kernel)
theorem m_683 : Cond.native arraycopyName ∈ TB := tb_m 683 (by decide +kernel) (by decide +kernel)
theorem m_684 : Cond.methodLink RX0 94 yX5_copyFrom ∈ TB := tb_m 684 (by decide +kernel) (by decide +kernel)
theorem m_685 : Cond.instanceMethod yX5_copyFrom ∈ TB := tb_m 685 (by decide +kernel) (by decide +kernel)
theorem m_686 : Cond.selects RX5 yX5_copyFrom yX5_copyFrom ∈ TB := tb_m 686 (by decide +kernel) (by decide +kernel)
theorem m_687 : Cond.code yX5_copyFrom cX5_copyFrom 2 none ∈ TB := tb_m 687 (by decide +kernel) (by decide +kernel)
theorem m_688 : Cond.methodLink RX5 25 arraycopyName ∈ TB := tb_m 688 (by decide +kernel) (by decide +kernel)
theorem m_689 : Cond.methodLink RX0 98 yX9_copyFrom ∈ TB := tb_m 689 (by decide +kernel) (by decide +kernel)
theorem m_690 : Cond.instanceMethod yX9_copyFrom ∈ TB := tb_m 690 (by decide +kernel) (by decide +kernel)
theorem m_691 : Cond.selects RX9 yX9_copyFrom yX9_copyFrom ∈ TB := tb_m 691 (by decide +kernel) (by decide +kernel)
theorem m_692 : Cond.code yX9_copyFrom cX9_copyFrom 2 none ∈ TB := tb_m 692 (by decide +kernel) (by decide +kernel)
theorem m_693 : Cond.methodLink RX9 40 arraycopyName ∈ TB := tb_m 693 (by decide +kernel) (by decide +kernel)
theorem m_7 : Cond.initialized RX2 ∈ TB := tb_m 7 (by decide +kernel) (by decide +kernel)
theorem m_702 : Cond.methodLink RX11 114 yX0_hasWord ∈ TB := tb_m 702 (by decide +kernel) (by decide +kernel)
theorem m_703 : Cond.instanceMethod yX0_hasWord ∈ TB := tb_m 703 (by decide +kernel) (by decide +kernel)
theorem m_704 : Cond.selects RX0 yX0_hasWord yX0_hasWord ∈ TB := tb_m 704 (by decide +kernel) (by decide +kernel)
theorem m_705 : Cond.code yX0_hasWord cX0_hasWord 2 (some .boolean) ∈ TB := tb_m 705 (by decide +kernel) (by decide +kernel)
theorem m_706 : Cond.methodLink RX11 143 yX11_holds ∈ TB := tb_m 706 (by decide +kernel) (by decide +kernel)
theorem m_707 : Cond.static yX11_holds ∈ TB := tb_m 707 (by decide +kernel) (by decide +kernel)
theorem m_708 : Cond.code yX11_holds cX11_holds 2 (some .boolean) ∈ TB := tb_m 708 (by decide +kernel) (by decide +kernel)
theorem m_713 : Cond.methodLink RX11 147 yX0_hasSpeaker ∈ TB := tb_m 713 (by decide +kernel) (by decide +kernel)
theorem m_714 : Cond.instanceMethod yX0_hasSpeaker ∈ TB := tb_m 714 (by decide +kernel) (by decide +kernel)
theorem m_715 : Cond.selects RX0 yX0_hasSpeaker yX0_hasSpeaker ∈ TB := tb_m 715 (by decide +kernel) (by decide +kernel)
theorem m_716 : Cond.code yX0_hasSpeaker cX0_hasSpeaker 2 (some .boolean) ∈ TB := tb_m 716 (by decide +kernel) (by decide +kernel)
theorem m_721 : Cond.methodLink RX11 161 yX0_hasDistrict ∈ TB := tb_m 721 (by decide +kernel) (by decide +kernel)
theorem m_722 : Cond.instanceMethod yX0_hasDistrict ∈ TB := tb_m 722 (by decide +kernel) (by decide +kernel)
theorem m_723 : Cond.selects RX0 yX0_hasDistrict yX0_hasDistrict ∈ TB := tb_m 723 (by decide +kernel) (by decide +kernel)
theorem m_724 : Cond.code yX0_hasDistrict cX0_hasDistrict 2 (some .boolean) ∈ TB := tb_m 724 (by decide +kernel) (by decide +kernel)
theorem m_78 : Cond.arrayClass .int ∈ TB := tb_m 78 (by decide +kernel) (by decide +kernel)
theorem m_79 : Cond.classLink RX0 46 RX9 ∈ TB := tb_m 79 (by decide +kernel) (by decide +kernel)
theorem m_8 : Cond.initialized RX10 ∈ TB := tb_m 8 (by decide +kernel) (by decide +kernel)
theorem m_80 : Cond.instantiable RX9 7 ∈ TB := tb_m 80 (by decide +kernel) (by decide +kernel)
theorem m_82 : Cond.instanceMethod yX9_init ∈ TB := tb_m 82 (by decide +kernel) (by decide +kernel)
theorem m_83 : Cond.code yX9_init cX9_init 1 none ∈ TB := tb_m 83 (by decide +kernel) (by decide +kernel)
theorem m_84 : Cond.methodLink RX9 3 objectInit ∈ TB := tb_m 84 (by decide +kernel) (by decide +kernel)
theorem m_85 : Cond.fieldLink RX9 24 "WordSeats$Terms" "held" "I" ∈ TB := tb_m 85 (by decide +kernel) (by decide +kernel)
theorem m_87 : Cond.fieldLink RX9 28 "WordSeats$Terms" "sitting" "I" ∈ TB := tb_m 87 (by decide +kernel) (by decide +kernel)
theorem m_892 : Cond.methodLink RX11 227 yX0_isNone ∈ TB := tb_m 892 (by decide +kernel) (by decide +kernel)
theorem m_893 : Cond.instanceMethod yX0_isNone ∈ TB := tb_m 893 (by decide +kernel) (by decide +kernel)
theorem m_894 : Cond.selects RX0 yX0_isNone yX0_isNone ∈ TB := tb_m 894 (by decide +kernel) (by decide +kernel)
theorem m_895 : Cond.code yX0_isNone cX0_isNone 1 (some .boolean) ∈ TB := tb_m 895 (by decide +kernel) (by decide +kernel)
theorem m_9 : Cond.initialized RX3 ∈ TB := tb_m 9 (by decide +kernel) (by decide +kernel)
theorem m_91 : Cond.fieldLink RX9 31 "WordSeats$Terms" "dead" "I" ∈ TB := tb_m 91 (by decide +kernel) (by decide +kernel)
theorem m_96 : Cond.fieldLink RX9 9 "WordSeats$Terms" "idle" "[I" ∈ TB := tb_m 96 (by decide +kernel) (by decide +kernel)
theorem m_968 : Cond.methodLink RX11 272 yX0_hasMeaning ∈ TB := tb_m 968 (by decide +kernel) (by decide +kernel)
theorem m_969 : Cond.instanceMethod yX0_hasMeaning ∈ TB := tb_m 969 (by decide +kernel) (by decide +kernel)
theorem m_970 : Cond.selects RX0 yX0_hasMeaning yX0_hasMeaning ∈ TB := tb_m 970 (by decide +kernel) (by decide +kernel)
theorem m_971 : Cond.code yX0_hasMeaning cX0_hasMeaning 2 (some .boolean) ∈ TB := tb_m 971 (by decide +kernel) (by decide +kernel)
theorem m_98 : Cond.fieldLink RX9 15 "WordSeats$Terms" "sat" "[I" ∈ TB := tb_m 98 (by decide +kernel) (by decide +kernel)
theorem m_s0 : Cond.selects RX4 yX4_advance yX4_advance ∈ TB := tb_s 0 (by decide +kernel) (by decide +kernel)
theorem m_s102 : Cond.selects RX12 yX12_asksSpeech yX12_asksSpeech ∈ TB := tb_s 102 (by decide +kernel) (by decide +kernel)
theorem m_s33 : Cond.selects RX11 yX11_refusesSpeech yX11_refusesSpeech ∈ TB := tb_s 33 (by decide +kernel) (by decide +kernel)
theorem m_s35 : Cond.selects RX11 yX11_filledSlots yX11_filledSlots ∈ TB := tb_s 35 (by decide +kernel) (by decide +kernel)
theorem m_s37 : Cond.selects RX12 yX12_advance yX12_advance ∈ TB := tb_s 37 (by decide +kernel) (by decide +kernel)
theorem m_s38 : Cond.selects RX12 yX12_see yX12_see ∈ TB := tb_s 38 (by decide +kernel) (by decide +kernel)
theorem m_s39 : Cond.selects RX12 yX12_good yX12_good ∈ TB := tb_s 39 (by decide +kernel) (by decide +kernel)
theorem m_s57 : Cond.selects RX12 yX12_isWord yX12_isWord ∈ TB := tb_s 57 (by decide +kernel) (by decide +kernel)
theorem m_s59 : Cond.selects RX12 yX12_isSpeaker yX12_isSpeaker ∈ TB := tb_s 59 (by decide +kernel) (by decide +kernel)
theorem m_s61 : Cond.selects RX12 yX12_isDistrict yX12_isDistrict ∈ TB := tb_s 61 (by decide +kernel) (by decide +kernel)
theorem m_s81 : Cond.selects RX12 yX12_isChamber yX12_isChamber ∈ TB := tb_s 81 (by decide +kernel) (by decide +kernel)
theorem m_s85 : Cond.selects RX12 yX12_isMeaning yX12_isMeaning ∈ TB := tb_s 85 (by decide +kernel) (by decide +kernel)
theorem m_s91 : Cond.selects RX12 yX12_areMeanings yX12_areMeanings ∈ TB := tb_s 91 (by decide +kernel) (by decide +kernel)
theorem m_s98 : Cond.selects RX12 yX12_areParties yX12_areParties ∈ TB := tb_s 98 (by decide +kernel) (by decide +kernel)
theorem n_119 : Cond.fieldLinkNest RX11 108 "WordSeats$Chamber" "lines" "I" "WordSeats" ∈ NB := nb_m 119 (by decide +kernel) rfl
theorem n_124 : Cond.fieldLinkNest RX11 305 "WordSeats$Chamber" "meanings" "I" "WordSeats" ∈ NB := nb_m 124 (by decide +kernel) rfl
theorem n_128 : Cond.fieldLinkNest RX11 389 "WordSeats$Chamber" "law" "I" "WordSeats" ∈ NB := nb_m 128 (by decide +kernel) rfl
theorem n_131 : Cond.fieldLinkNest RX11 392 "WordSeats$Chamber" "bar" "I" "WordSeats" ∈ NB := nb_m 131 (by decide +kernel) rfl
theorem n_133 : Cond.fieldLinkNest RX11 251 "WordSeats$Chamber" "dies" "I" "WordSeats" ∈ NB := nb_m 133 (by decide +kernel) rfl
theorem n_139 : Cond.fieldLinkNest RX11 230 "WordSeats$Chamber" "districts" "I" "WordSeats" ∈ NB := nb_m 139 (by decide +kernel) rfl
theorem n_146 : Cond.fieldLinkNest RX11 233 "WordSeats$Chamber" "words" "I" "WordSeats" ∈ NB := nb_m 146 (by decide +kernel) rfl
theorem n_152 : Cond.fieldLinkNest RX11 323 "WordSeats$Chamber" "speakers" "I" "WordSeats" ∈ NB := nb_m 152 (by decide +kernel) rfl
theorem n_188 : Cond.fieldLinkNest RX11 401 "WordSeats$Chamber" "rounds" "LWordSeats$Rounds;" "WordSeats" ∈ NB := nb_m 188 (by decide +kernel) rfl
theorem n_191 : Cond.fieldLinkNest RX11 131 "WordSeats$Chamber" "terms" "LWordSeats$Terms;" "WordSeats" ∈ NB := nb_m 191 (by decide +kernel) rfl
theorem n_242 : Cond.fieldLinkNest RX11 102 "WordSeats$Reader" "fault" "I" "WordSeats" ∈ NB := nb_m 242 (by decide +kernel) rfl
theorem n_244 : Cond.fieldLinkNest RX11 111 "WordSeats$Reader" "place" "I" "WordSeats" ∈ NB := nb_m 244 (by decide +kernel) rfl
theorem n_266 : Cond.arrayOver (.object RX0) ∈ NB := nb_m 266 (by decide +kernel) rfl
theorem n_268 : Cond.arrayOver (.object RX6) ∈ NB := nb_m 268 (by decide +kernel) rfl
theorem n_32 : Cond.methodLinkNest RX11 9 yX8_init "WordSeats" ∈ NB := nb_m 32 (by decide +kernel) rfl
theorem n_38 : Cond.fieldLinkNest RX11 95 "WordSeats$Tape" "length" "I" "WordSeats" ∈ NB := nb_m 38 (by decide +kernel) rfl
theorem n_39 : Cond.fieldLinkNest RX4 200 "WordSeats$Tape" "length" "I" "WordSeats" ∈ NB := nb_m 39 (by decide +kernel) rfl
theorem n_413 : Cond.methodLinkNest RX11 86 yX6_init "WordSeats" ∈ NB := nb_m 413 (by decide +kernel) rfl
theorem n_48 : Cond.methodLinkNest RX11 18 yX0_init "WordSeats" ∈ NB := nb_m 48 (by decide +kernel) rfl
theorem n_54 : Cond.methodLinkNest RX0 41 yX5_init "WordSeats" ∈ NB := nb_m 54 (by decide +kernel) rfl
theorem n_59 : Cond.fieldLinkNest RX0 70 "WordSeats$Rounds" "known" "I" "WordSeats" ∈ NB := nb_m 59 (by decide +kernel) rfl
theorem n_62 : Cond.fieldLinkNest RX11 405 "WordSeats$Rounds" "known" "I" "WordSeats" ∈ NB := nb_m 62 (by decide +kernel) rfl
theorem n_81 : Cond.methodLinkNest RX0 48 yX9_init "WordSeats" ∈ NB := nb_m 81 (by decide +kernel) rfl
theorem n_86 : Cond.fieldLinkNest RX11 248 "WordSeats$Terms" "held" "I" "WordSeats" ∈ NB := nb_m 86 (by decide +kernel) rfl
theorem hd_J7_fill_53178 : yJ7_fill_53178.cls ≠ "java/lang/invoke/MethodHandle" ∧ yJ7_fill_53178.cls ≠ "java/lang/invoke/VarHandle" ∧ (parseMethodDescriptor yJ7_fill_53178.desc).map (fun d => d.parameters.length) = some 2 := by decide +kernel
theorem hd_J7_fill_d0a16 : yJ7_fill_d0a16.cls ≠ "java/lang/invoke/MethodHandle" ∧ yJ7_fill_d0a16.cls ≠ "java/lang/invoke/VarHandle" ∧ (parseMethodDescriptor yJ7_fill_d0a16.desc).map (fun d => d.parameters.length) = some 2 := by decide +kernel
theorem hd_X0_clear : yX0_clear.cls ≠ "java/lang/invoke/MethodHandle" ∧ yX0_clear.cls ≠ "java/lang/invoke/VarHandle" ∧ (parseMethodDescriptor yX0_clear.desc).map (fun d => d.parameters.length) = some 0 := by decide +kernel
theorem hd_X0_copyFrom : yX0_copyFrom.cls ≠ "java/lang/invoke/MethodHandle" ∧ yX0_copyFrom.cls ≠ "java/lang/invoke/VarHandle" ∧ (parseMethodDescriptor yX0_copyFrom.desc).map (fun d => d.parameters.length) = some 1 := by decide +kernel
theorem hd_X0_hasDistrict : yX0_hasDistrict.cls ≠ "java/lang/invoke/MethodHandle" ∧ yX0_hasDistrict.cls ≠ "java/lang/invoke/VarHandle" ∧ (parseMethodDescriptor yX0_hasDistrict.desc).map (fun d => d.parameters.length) = some 1 := by decide +kernel
theorem hd_X0_hasMeaning : yX0_hasMeaning.cls ≠ "java/lang/invoke/MethodHandle" ∧ yX0_hasMeaning.cls ≠ "java/lang/invoke/VarHandle" ∧ (parseMethodDescriptor yX0_hasMeaning.desc).map (fun d => d.parameters.length) = some 1 := by decide +kernel
theorem hd_X0_hasSpeaker : yX0_hasSpeaker.cls ≠ "java/lang/invoke/MethodHandle" ∧ yX0_hasSpeaker.cls ≠ "java/lang/invoke/VarHandle" ∧ (parseMethodDescriptor yX0_hasSpeaker.desc).map (fun d => d.parameters.length) = some 1 := by decide +kernel
theorem hd_X0_hasWord : yX0_hasWord.cls ≠ "java/lang/invoke/MethodHandle" ∧ yX0_hasWord.cls ≠ "java/lang/invoke/VarHandle" ∧ (parseMethodDescriptor yX0_hasWord.desc).map (fun d => d.parameters.length) = some 1 := by decide +kernel
theorem hd_X0_init : yX0_init.cls ≠ "java/lang/invoke/MethodHandle" ∧ yX0_init.cls ≠ "java/lang/invoke/VarHandle" ∧ (parseMethodDescriptor yX0_init.desc).map (fun d => d.parameters.length) = some 0 := by decide +kernel
theorem hd_X0_isNone : yX0_isNone.cls ≠ "java/lang/invoke/MethodHandle" ∧ yX0_isNone.cls ≠ "java/lang/invoke/VarHandle" ∧ (parseMethodDescriptor yX0_isNone.desc).map (fun d => d.parameters.length) = some 0 := by decide +kernel
theorem hd_X0_open : yX0_open.cls ≠ "java/lang/invoke/MethodHandle" ∧ yX0_open.cls ≠ "java/lang/invoke/VarHandle" ∧ (parseMethodDescriptor yX0_open.desc).map (fun d => d.parameters.length) = some 4 := by decide +kernel
theorem hd_X10_init : yX10_init.cls ≠ "java/lang/invoke/MethodHandle" ∧ yX10_init.cls ≠ "java/lang/invoke/VarHandle" ∧ (parseMethodDescriptor yX10_init.desc).map (fun d => d.parameters.length) = some 1 := by decide +kernel
theorem hd_X11_filledSlots : yX11_filledSlots.cls ≠ "java/lang/invoke/MethodHandle" ∧ yX11_filledSlots.cls ≠ "java/lang/invoke/VarHandle" ∧ (parseMethodDescriptor yX11_filledSlots.desc).map (fun d => d.parameters.length) = some 0 := by decide +kernel
theorem hd_X11_holds : yX11_holds.cls ≠ "java/lang/invoke/MethodHandle" ∧ yX11_holds.cls ≠ "java/lang/invoke/VarHandle" ∧ (parseMethodDescriptor yX11_holds.desc).map (fun d => d.parameters.length) = some 2 := by decide +kernel
theorem hd_X11_isParty : yX11_isParty.cls ≠ "java/lang/invoke/MethodHandle" ∧ yX11_isParty.cls ≠ "java/lang/invoke/VarHandle" ∧ (parseMethodDescriptor yX11_isParty.desc).map (fun d => d.parameters.length) = some 1 := by decide +kernel
theorem hd_X11_isSeed : yX11_isSeed.cls ≠ "java/lang/invoke/MethodHandle" ∧ yX11_isSeed.cls ≠ "java/lang/invoke/VarHandle" ∧ (parseMethodDescriptor yX11_isSeed.desc).map (fun d => d.parameters.length) = some 1 := by decide +kernel
theorem hd_X11_isSlot : yX11_isSlot.cls ≠ "java/lang/invoke/MethodHandle" ∧ yX11_isSlot.cls ≠ "java/lang/invoke/VarHandle" ∧ (parseMethodDescriptor yX11_isSlot.desc).map (fun d => d.parameters.length) = some 1 := by decide +kernel
theorem hd_X11_refusesSpeech : yX11_refusesSpeech.cls ≠ "java/lang/invoke/MethodHandle" ∧ yX11_refusesSpeech.cls ≠ "java/lang/invoke/VarHandle" ∧ (parseMethodDescriptor yX11_refusesSpeech.desc).map (fun d => d.parameters.length) = some 1 := by decide +kernel
theorem hd_X12_advance : yX12_advance.cls ≠ "java/lang/invoke/MethodHandle" ∧ yX12_advance.cls ≠ "java/lang/invoke/VarHandle" ∧ (parseMethodDescriptor yX12_advance.desc).map (fun d => d.parameters.length) = some 0 := by decide +kernel
theorem hd_X12_areMeanings : yX12_areMeanings.cls ≠ "java/lang/invoke/MethodHandle" ∧ yX12_areMeanings.cls ≠ "java/lang/invoke/VarHandle" ∧ (parseMethodDescriptor yX12_areMeanings.desc).map (fun d => d.parameters.length) = some 1 := by decide +kernel
theorem hd_X12_areParties : yX12_areParties.cls ≠ "java/lang/invoke/MethodHandle" ∧ yX12_areParties.cls ≠ "java/lang/invoke/VarHandle" ∧ (parseMethodDescriptor yX12_areParties.desc).map (fun d => d.parameters.length) = some 1 := by decide +kernel
theorem hd_X12_asksSpeech : yX12_asksSpeech.cls ≠ "java/lang/invoke/MethodHandle" ∧ yX12_asksSpeech.cls ≠ "java/lang/invoke/VarHandle" ∧ (parseMethodDescriptor yX12_asksSpeech.desc).map (fun d => d.parameters.length) = some 2 := by decide +kernel
theorem hd_X12_good : yX12_good.cls ≠ "java/lang/invoke/MethodHandle" ∧ yX12_good.cls ≠ "java/lang/invoke/VarHandle" ∧ (parseMethodDescriptor yX12_good.desc).map (fun d => d.parameters.length) = some 0 := by decide +kernel
theorem hd_X12_in : yX12_in.cls ≠ "java/lang/invoke/MethodHandle" ∧ yX12_in.cls ≠ "java/lang/invoke/VarHandle" ∧ (parseMethodDescriptor yX12_in.desc).map (fun d => d.parameters.length) = some 3 := by decide +kernel
theorem hd_X12_isChamber : yX12_isChamber.cls ≠ "java/lang/invoke/MethodHandle" ∧ yX12_isChamber.cls ≠ "java/lang/invoke/VarHandle" ∧ (parseMethodDescriptor yX12_isChamber.desc).map (fun d => d.parameters.length) = some 0 := by decide +kernel
theorem hd_X12_isDistrict : yX12_isDistrict.cls ≠ "java/lang/invoke/MethodHandle" ∧ yX12_isDistrict.cls ≠ "java/lang/invoke/VarHandle" ∧ (parseMethodDescriptor yX12_isDistrict.desc).map (fun d => d.parameters.length) = some 1 := by decide +kernel
theorem hd_X12_isMeaning : yX12_isMeaning.cls ≠ "java/lang/invoke/MethodHandle" ∧ yX12_isMeaning.cls ≠ "java/lang/invoke/VarHandle" ∧ (parseMethodDescriptor yX12_isMeaning.desc).map (fun d => d.parameters.length) = some 1 := by decide +kernel
theorem hd_X12_isParty : yX12_isParty.cls ≠ "java/lang/invoke/MethodHandle" ∧ yX12_isParty.cls ≠ "java/lang/invoke/VarHandle" ∧ (parseMethodDescriptor yX12_isParty.desc).map (fun d => d.parameters.length) = some 1 := by decide +kernel
theorem hd_X12_isSeed : yX12_isSeed.cls ≠ "java/lang/invoke/MethodHandle" ∧ yX12_isSeed.cls ≠ "java/lang/invoke/VarHandle" ∧ (parseMethodDescriptor yX12_isSeed.desc).map (fun d => d.parameters.length) = some 1 := by decide +kernel
theorem hd_X12_isSlot : yX12_isSlot.cls ≠ "java/lang/invoke/MethodHandle" ∧ yX12_isSlot.cls ≠ "java/lang/invoke/VarHandle" ∧ (parseMethodDescriptor yX12_isSlot.desc).map (fun d => d.parameters.length) = some 1 := by decide +kernel
theorem hd_X12_isSpeaker : yX12_isSpeaker.cls ≠ "java/lang/invoke/MethodHandle" ∧ yX12_isSpeaker.cls ≠ "java/lang/invoke/VarHandle" ∧ (parseMethodDescriptor yX12_isSpeaker.desc).map (fun d => d.parameters.length) = some 1 := by decide +kernel
theorem hd_X12_isWord : yX12_isWord.cls ≠ "java/lang/invoke/MethodHandle" ∧ yX12_isWord.cls ≠ "java/lang/invoke/VarHandle" ∧ (parseMethodDescriptor yX12_isWord.desc).map (fun d => d.parameters.length) = some 1 := by decide +kernel
theorem hd_X12_see : yX12_see.cls ≠ "java/lang/invoke/MethodHandle" ∧ yX12_see.cls ≠ "java/lang/invoke/VarHandle" ∧ (parseMethodDescriptor yX12_see.desc).map (fun d => d.parameters.length) = some 1 := by decide +kernel
theorem hd_X1_init : yX1_init.cls ≠ "java/lang/invoke/MethodHandle" ∧ yX1_init.cls ≠ "java/lang/invoke/VarHandle" ∧ (parseMethodDescriptor yX1_init.desc).map (fun d => d.parameters.length) = some 2 := by decide +kernel
theorem hd_X2_init : yX2_init.cls ≠ "java/lang/invoke/MethodHandle" ∧ yX2_init.cls ≠ "java/lang/invoke/VarHandle" ∧ (parseMethodDescriptor yX2_init.desc).map (fun d => d.parameters.length) = some 1 := by decide +kernel
theorem hd_X3_init : yX3_init.cls ≠ "java/lang/invoke/MethodHandle" ∧ yX3_init.cls ≠ "java/lang/invoke/VarHandle" ∧ (parseMethodDescriptor yX3_init.desc).map (fun d => d.parameters.length) = some 1 := by decide +kernel
theorem hd_X4_advance : yX4_advance.cls ≠ "java/lang/invoke/MethodHandle" ∧ yX4_advance.cls ≠ "java/lang/invoke/VarHandle" ∧ (parseMethodDescriptor yX4_advance.desc).map (fun d => d.parameters.length) = some 0 := by decide +kernel
theorem hd_X4_init : yX4_init.cls ≠ "java/lang/invoke/MethodHandle" ∧ yX4_init.cls ≠ "java/lang/invoke/VarHandle" ∧ (parseMethodDescriptor yX4_init.desc).map (fun d => d.parameters.length) = some 2 := by decide +kernel
theorem hd_X4_read : yX4_read.cls ≠ "java/lang/invoke/MethodHandle" ∧ yX4_read.cls ≠ "java/lang/invoke/VarHandle" ∧ (parseMethodDescriptor yX4_read.desc).map (fun d => d.parameters.length) = some 0 := by decide +kernel
theorem hd_X5_copyFrom : yX5_copyFrom.cls ≠ "java/lang/invoke/MethodHandle" ∧ yX5_copyFrom.cls ≠ "java/lang/invoke/VarHandle" ∧ (parseMethodDescriptor yX5_copyFrom.desc).map (fun d => d.parameters.length) = some 1 := by decide +kernel
theorem hd_X5_init : yX5_init.cls ≠ "java/lang/invoke/MethodHandle" ∧ yX5_init.cls ≠ "java/lang/invoke/VarHandle" ∧ (parseMethodDescriptor yX5_init.desc).map (fun d => d.parameters.length) = some 0 := by decide +kernel
theorem hd_X6_init : yX6_init.cls ≠ "java/lang/invoke/MethodHandle" ∧ yX6_init.cls ≠ "java/lang/invoke/VarHandle" ∧ (parseMethodDescriptor yX6_init.desc).map (fun d => d.parameters.length) = some 0 := by decide +kernel
theorem hd_X6_isNothing : yX6_isNothing.cls ≠ "java/lang/invoke/MethodHandle" ∧ yX6_isNothing.cls ≠ "java/lang/invoke/VarHandle" ∧ (parseMethodDescriptor yX6_isNothing.desc).map (fun d => d.parameters.length) = some 0 := by decide +kernel
theorem hd_X6_lay : yX6_lay.cls ≠ "java/lang/invoke/MethodHandle" ∧ yX6_lay.cls ≠ "java/lang/invoke/VarHandle" ∧ (parseMethodDescriptor yX6_lay.desc).map (fun d => d.parameters.length) = some 2 := by decide +kernel
theorem hd_X7_init : yX7_init.cls ≠ "java/lang/invoke/MethodHandle" ∧ yX7_init.cls ≠ "java/lang/invoke/VarHandle" ∧ (parseMethodDescriptor yX7_init.desc).map (fun d => d.parameters.length) = some 2 := by decide +kernel
theorem hd_X8_add : yX8_add.cls ≠ "java/lang/invoke/MethodHandle" ∧ yX8_add.cls ≠ "java/lang/invoke/VarHandle" ∧ (parseMethodDescriptor yX8_add.desc).map (fun d => d.parameters.length) = some 1 := by decide +kernel
theorem hd_X8_hasRoom : yX8_hasRoom.cls ≠ "java/lang/invoke/MethodHandle" ∧ yX8_hasRoom.cls ≠ "java/lang/invoke/VarHandle" ∧ (parseMethodDescriptor yX8_hasRoom.desc).map (fun d => d.parameters.length) = some 0 := by decide +kernel
theorem hd_X8_init : yX8_init.cls ≠ "java/lang/invoke/MethodHandle" ∧ yX8_init.cls ≠ "java/lang/invoke/VarHandle" ∧ (parseMethodDescriptor yX8_init.desc).map (fun d => d.parameters.length) = some 0 := by decide +kernel
theorem hd_X9_clear : yX9_clear.cls ≠ "java/lang/invoke/MethodHandle" ∧ yX9_clear.cls ≠ "java/lang/invoke/VarHandle" ∧ (parseMethodDescriptor yX9_clear.desc).map (fun d => d.parameters.length) = some 0 := by decide +kernel
theorem hd_X9_copyFrom : yX9_copyFrom.cls ≠ "java/lang/invoke/MethodHandle" ∧ yX9_copyFrom.cls ≠ "java/lang/invoke/VarHandle" ∧ (parseMethodDescriptor yX9_copyFrom.desc).map (fun d => d.parameters.length) = some 1 := by decide +kernel
theorem hd_X9_init : yX9_init.cls ≠ "java/lang/invoke/MethodHandle" ∧ yX9_init.cls ≠ "java/lang/invoke/VarHandle" ∧ (parseMethodDescriptor yX9_init.desc).map (fun d => d.parameters.length) = some 0 := by decide +kernel
set_option maxRecDepth 100000 in
theorem dfX0 : ∀ j, j < 19 → defaultValue (tyX0 j) = vp_V [.int 0, .int 0, .int 0, .int 0, .int 0, .int 0, .int 0, .int 0, .null, .null, .null, .null, .null, .null, .null, .null, .null, .null, .null] j := by
  intro j hj
  match j, hj with
  | 0, _ => rfl
  | 1, _ => rfl
  | 2, _ => rfl
  | 3, _ => rfl
  | 4, _ => rfl
  | 5, _ => rfl
  | 6, _ => rfl
  | 7, _ => rfl
  | 8, _ => rfl
  | 9, _ => rfl
  | 10, _ => rfl
  | 11, _ => rfl
  | 12, _ => rfl
  | 13, _ => rfl
  | 14, _ => rfl
  | 15, _ => rfl
  | 16, _ => rfl
  | 17, _ => rfl
  | 18, _ => rfl
  | j + 19, h => exact absurd h (by omega)
set_option maxRecDepth 100000 in
theorem dfX1 : ∀ j, j < 6 → defaultValue (tyX1 j) = vp_V [.null, .null, .null, .null, .int 0, .int 0] j := by
  intro j hj
  match j, hj with
  | 0, _ => rfl
  | 1, _ => rfl
  | 2, _ => rfl
  | 3, _ => rfl
  | 4, _ => rfl
  | 5, _ => rfl
  | j + 6, h => exact absurd h (by omega)
set_option maxRecDepth 100000 in
theorem dfX2 : ∀ j, j < 13 → defaultValue (tyX2 j) = vp_V [.null, .int 0, .int 0, .int 0, .null, .null, .int 0, .null, .int 0, .int 0, .int 0, .int 0, .int 0] j := by
  intro j hj
  match j, hj with
  | 0, _ => rfl
  | 1, _ => rfl
  | 2, _ => rfl
  | 3, _ => rfl
  | 4, _ => rfl
  | 5, _ => rfl
  | 6, _ => rfl
  | 7, _ => rfl
  | 8, _ => rfl
  | 9, _ => rfl
  | 10, _ => rfl
  | 11, _ => rfl
  | 12, _ => rfl
  | j + 13, h => exact absurd h (by omega)
set_option maxRecDepth 100000 in
theorem dfX3 : ∀ j, j < 3 → defaultValue (tyX3 j) = vp_V [.null, .null, .null] j := by
  intro j hj
  match j, hj with
  | 0, _ => rfl
  | 1, _ => rfl
  | 2, _ => rfl
  | j + 3, h => exact absurd h (by omega)
set_option maxRecDepth 100000 in
theorem dfX4 : ∀ j, j < 8 → defaultValue (tyX4 j) = vp_V [.null, .null, .int 0, .int 0, .int 0, .int 0, .int 0, .int 0] j := by
  intro j hj
  match j, hj with
  | 0, _ => rfl
  | 1, _ => rfl
  | 2, _ => rfl
  | 3, _ => rfl
  | 4, _ => rfl
  | 5, _ => rfl
  | 6, _ => rfl
  | 7, _ => rfl
  | j + 8, h => exact absurd h (by omega)
set_option maxRecDepth 100000 in
theorem dfX5 : ∀ j, j < 4 → defaultValue (tyX5 j) = vp_V [.int 0, .null, .null, .null] j := by
  intro j hj
  match j, hj with
  | 0, _ => rfl
  | 1, _ => rfl
  | 2, _ => rfl
  | 3, _ => rfl
  | j + 4, h => exact absurd h (by omega)
set_option maxRecDepth 100000 in
theorem dfX6 : ∀ j, j < 3 → defaultValue (tyX6 j) = vp_V [.null, .int 0, .int 0] j := by
  intro j hj
  match j, hj with
  | 0, _ => rfl
  | 1, _ => rfl
  | 2, _ => rfl
  | j + 3, h => exact absurd h (by omega)
set_option maxRecDepth 100000 in
theorem dfX7 : ∀ j, j < 5 → defaultValue (tyX7 j) = vp_V [.null, .null, .int 0, .int 0, .int 0] j := by
  intro j hj
  match j, hj with
  | 0, _ => rfl
  | 1, _ => rfl
  | 2, _ => rfl
  | 3, _ => rfl
  | 4, _ => rfl
  | j + 5, h => exact absurd h (by omega)
set_option maxRecDepth 100000 in
theorem dfX8 : ∀ j, j < 2 → defaultValue (tyX8 j) = vp_V [.null, .int 0] j := by
  intro j hj
  match j, hj with
  | 0, _ => rfl
  | 1, _ => rfl
  | j + 2, h => exact absurd h (by omega)
set_option maxRecDepth 100000 in
theorem dfX9 : ∀ j, j < 7 → defaultValue (tyX9 j) = vp_V [.int 0, .int 0, .int 0, .null, .null, .null, .null] j := by
  intro j hj
  match j, hj with
  | 0, _ => rfl
  | 1, _ => rfl
  | 2, _ => rfl
  | 3, _ => rfl
  | 4, _ => rfl
  | 5, _ => rfl
  | 6, _ => rfl
  | j + 7, h => exact absurd h (by omega)
set_option maxRecDepth 100000 in
theorem dfX10 : ∀ j, j < 3 → defaultValue (tyX10 j) = vp_V [.null, .null, .null] j := by
  intro j hj
  match j, hj with
  | 0, _ => rfl
  | 1, _ => rfl
  | 2, _ => rfl
  | j + 3, h => exact absurd h (by omega)
