theorem w_45 : Cond.selects yX9_kind.cls yX9_kind yX9_kind ∈ lw_g := g_in (List.mem_of_getElem? (i := 45) (by decide +kernel)) rfl
theorem w_1220 : Cond.code yX9_kind cX9_kind 1 (some .int) ∈ lw_g := g_in (List.mem_of_getElem? (i := 1220) (by decide +kernel)) rfl
theorem w_1235 : Cond.methodLink RX9 234 yX9_hazard ∈ lw_g := g_in (List.mem_of_getElem? (i := 1235) (by decide +kernel)) rfl
theorem w_1237 : Cond.instanceMethod yX9_hazard ∈ lw_g := g_in (List.mem_of_getElem? (i := 1237) (by decide +kernel)) rfl
theorem w_48 : Cond.selects yX9_hazard.cls yX9_hazard yX9_hazard ∈ lw_g := g_in (List.mem_of_getElem? (i := 48) (by decide +kernel)) rfl
theorem w_1238 : Cond.code yX9_hazard cX9_hazard 2 (some .int) ∈ lw_g := g_in (List.mem_of_getElem? (i := 1238) (by decide +kernel)) rfl
theorem w_1242 : Cond.methodLink RX9 237 yX9_sort ∈ lw_g := g_in (List.mem_of_getElem? (i := 1242) (by decide +kernel)) rfl
theorem w_1244 : Cond.instanceMethod yX9_sort ∈ lw_g := g_in (List.mem_of_getElem? (i := 1244) (by decide +kernel)) rfl
theorem w_49 : Cond.selects yX9_sort.cls yX9_sort yX9_sort ∈ lw_g := g_in (List.mem_of_getElem? (i := 49) (by decide +kernel)) rfl
theorem w_1245 : Cond.code yX9_sort cX9_sort 2 (some .int) ∈ lw_g := g_in (List.mem_of_getElem? (i := 1245) (by decide +kernel)) rfl
theorem w_1250 : Cond.methodLink RX9 245 yX9_word ∈ lw_g := g_in (List.mem_of_getElem? (i := 1250) (by decide +kernel)) rfl
theorem w_1252 : Cond.instanceMethod yX9_word ∈ lw_g := g_in (List.mem_of_getElem? (i := 1252) (by decide +kernel)) rfl
theorem w_50 : Cond.selects yX9_word.cls yX9_word yX9_word ∈ lw_g := g_in (List.mem_of_getElem? (i := 50) (by decide +kernel)) rfl
theorem w_1253 : Cond.code yX9_word cX9_word 4 none ∈ lw_g := g_in (List.mem_of_getElem? (i := 1253) (by decide +kernel)) rfl
theorem w_1254 : Cond.methodLink RX9 249 yX9_number ∈ lw_g := g_in (List.mem_of_getElem? (i := 1254) (by decide +kernel)) rfl
theorem w_1256 : Cond.instanceMethod yX9_number ∈ lw_g := g_in (List.mem_of_getElem? (i := 1256) (by decide +kernel)) rfl
theorem w_51 : Cond.selects yX9_number.cls yX9_number yX9_number ∈ lw_g := g_in (List.mem_of_getElem? (i := 51) (by decide +kernel)) rfl
theorem w_1257 : Cond.code yX9_number cX9_number 6 (some .int) ∈ lw_g := g_in (List.mem_of_getElem? (i := 1257) (by decide +kernel)) rfl
theorem w_1201 : Cond.methodLink RX9 256 yX9_readRule ∈ lw_g := g_in (List.mem_of_getElem? (i := 1201) (by decide +kernel)) rfl
theorem w_1203 : Cond.instanceMethod yX9_readRule ∈ lw_g := g_in (List.mem_of_getElem? (i := 1203) (by decide +kernel)) rfl
theorem w_41 : Cond.selects yX9_readRule.cls yX9_readRule yX9_readRule ∈ lw_g := g_in (List.mem_of_getElem? (i := 41) (by decide +kernel)) rfl
theorem w_1204 : Cond.code yX9_readRule cX9_readRule 1 none ∈ lw_g := g_in (List.mem_of_getElem? (i := 1204) (by decide +kernel)) rfl
theorem w_1264 : Cond.methodLink RX9 259 yX9_isRule ∈ lw_g := g_in (List.mem_of_getElem? (i := 1264) (by decide +kernel)) rfl
theorem w_1266 : Cond.instanceMethod yX9_isRule ∈ lw_g := g_in (List.mem_of_getElem? (i := 1266) (by decide +kernel)) rfl
theorem w_52 : Cond.selects yX9_isRule.cls yX9_isRule yX9_isRule ∈ lw_g := g_in (List.mem_of_getElem? (i := 52) (by decide +kernel)) rfl
theorem w_1267 : Cond.code yX9_isRule cX9_isRule 2 (some .boolean) ∈ lw_g := g_in (List.mem_of_getElem? (i := 1267) (by decide +kernel)) rfl
theorem w_1280 : Cond.methodLink RX9 262 yX9_isPermit ∈ lw_g := g_in (List.mem_of_getElem? (i := 1280) (by decide +kernel)) rfl
theorem w_1282 : Cond.instanceMethod yX9_isPermit ∈ lw_g := g_in (List.mem_of_getElem? (i := 1282) (by decide +kernel)) rfl
theorem w_53 : Cond.selects yX9_isPermit.cls yX9_isPermit yX9_isPermit ∈ lw_g := g_in (List.mem_of_getElem? (i := 53) (by decide +kernel)) rfl
theorem w_1283 : Cond.code yX9_isPermit cX9_isPermit 2 (some .boolean) ∈ lw_g := g_in (List.mem_of_getElem? (i := 1283) (by decide +kernel)) rfl
theorem w_1311 : Cond.methodLink RX9 268 yX9_rules ∈ lw_g := g_in (List.mem_of_getElem? (i := 1311) (by decide +kernel)) rfl
theorem w_1313 : Cond.instanceMethod yX9_rules ∈ lw_g := g_in (List.mem_of_getElem? (i := 1313) (by decide +kernel)) rfl
theorem w_59 : Cond.selects yX9_rules.cls yX9_rules yX9_rules ∈ lw_g := g_in (List.mem_of_getElem? (i := 59) (by decide +kernel)) rfl
theorem w_1314 : Cond.code yX9_rules cX9_rules 4 (some .boolean) ∈ lw_g := g_in (List.mem_of_getElem? (i := 1314) (by decide +kernel)) rfl
theorem w_1319 : Cond.methodLink RX9 270 yX9_within ∈ lw_g := g_in (List.mem_of_getElem? (i := 1319) (by decide +kernel)) rfl
theorem w_1321 : Cond.instanceMethod yX9_within ∈ lw_g := g_in (List.mem_of_getElem? (i := 1321) (by decide +kernel)) rfl
theorem w_61 : Cond.selects yX9_within.cls yX9_within yX9_within ∈ lw_g := g_in (List.mem_of_getElem? (i := 61) (by decide +kernel)) rfl
theorem w_1322 : Cond.code yX9_within cX9_within 6 (some .int) ∈ lw_g := g_in (List.mem_of_getElem? (i := 1322) (by decide +kernel)) rfl
theorem w_1327 : Cond.methodLink RX9 273 yX9_insideOf ∈ lw_g := g_in (List.mem_of_getElem? (i := 1327) (by decide +kernel)) rfl
theorem w_1329 : Cond.instanceMethod yX9_insideOf ∈ lw_g := g_in (List.mem_of_getElem? (i := 1329) (by decide +kernel)) rfl
theorem w_63 : Cond.selects yX9_insideOf.cls yX9_insideOf yX9_insideOf ∈ lw_g := g_in (List.mem_of_getElem? (i := 63) (by decide +kernel)) rfl
theorem w_1330 : Cond.code yX9_insideOf cX9_insideOf 4 (some .int) ∈ lw_g := g_in (List.mem_of_getElem? (i := 1330) (by decide +kernel)) rfl
theorem w_1299 : Cond.methodLink RX9 276 yX9_mayBegin ∈ lw_g := g_in (List.mem_of_getElem? (i := 1299) (by decide +kernel)) rfl
theorem w_1301 : Cond.instanceMethod yX9_mayBegin ∈ lw_g := g_in (List.mem_of_getElem? (i := 1301) (by decide +kernel)) rfl
theorem w_56 : Cond.selects yX9_mayBegin.cls yX9_mayBegin yX9_mayBegin ∈ lw_g := g_in (List.mem_of_getElem? (i := 56) (by decide +kernel)) rfl
theorem w_1302 : Cond.code yX9_mayBegin cX9_mayBegin 2 (some .boolean) ∈ lw_g := g_in (List.mem_of_getElem? (i := 1302) (by decide +kernel)) rfl
theorem w_1307 : Cond.methodLink RX9 279 yX9_lacksTest ∈ lw_g := g_in (List.mem_of_getElem? (i := 1307) (by decide +kernel)) rfl
theorem w_1309 : Cond.instanceMethod yX9_lacksTest ∈ lw_g := g_in (List.mem_of_getElem? (i := 1309) (by decide +kernel)) rfl
theorem w_58 : Cond.selects yX9_lacksTest.cls yX9_lacksTest yX9_lacksTest ∈ lw_g := g_in (List.mem_of_getElem? (i := 58) (by decide +kernel)) rfl
theorem w_1310 : Cond.code yX9_lacksTest cX9_lacksTest 5 (some .boolean) ∈ lw_g := g_in (List.mem_of_getElem? (i := 1310) (by decide +kernel)) rfl
theorem w_1315 : Cond.methodLink RX9 282 yX9_quarrelOf ∈ lw_g := g_in (List.mem_of_getElem? (i := 1315) (by decide +kernel)) rfl
theorem w_1317 : Cond.instanceMethod yX9_quarrelOf ∈ lw_g := g_in (List.mem_of_getElem? (i := 1317) (by decide +kernel)) rfl
theorem w_60 : Cond.selects yX9_quarrelOf.cls yX9_quarrelOf yX9_quarrelOf ∈ lw_g := g_in (List.mem_of_getElem? (i := 60) (by decide +kernel)) rfl
theorem w_1318 : Cond.code yX9_quarrelOf cX9_quarrelOf 3 (some .int) ∈ lw_g := g_in (List.mem_of_getElem? (i := 1318) (by decide +kernel)) rfl
theorem w_1323 : Cond.methodLink RX9 285 yX9_isOutOfHours ∈ lw_g := g_in (List.mem_of_getElem? (i := 1323) (by decide +kernel)) rfl
theorem w_1325 : Cond.instanceMethod yX9_isOutOfHours ∈ lw_g := g_in (List.mem_of_getElem? (i := 1325) (by decide +kernel)) rfl
theorem w_62 : Cond.selects yX9_isOutOfHours.cls yX9_isOutOfHours yX9_isOutOfHours ∈ lw_g := g_in (List.mem_of_getElem? (i := 62) (by decide +kernel)) rfl
theorem w_1326 : Cond.code yX9_isOutOfHours cX9_isOutOfHours 8 (some .boolean) ∈ lw_g := g_in (List.mem_of_getElem? (i := 1326) (by decide +kernel)) rfl
theorem w_1295 : Cond.methodLink RX9 288 yX9_isOutOfState ∈ lw_g := g_in (List.mem_of_getElem? (i := 1295) (by decide +kernel)) rfl
theorem w_1297 : Cond.instanceMethod yX9_isOutOfState ∈ lw_g := g_in (List.mem_of_getElem? (i := 1297) (by decide +kernel)) rfl
theorem w_55 : Cond.selects yX9_isOutOfState.cls yX9_isOutOfState yX9_isOutOfState ∈ lw_g := g_in (List.mem_of_getElem? (i := 55) (by decide +kernel)) rfl
theorem w_1298 : Cond.code yX9_isOutOfState cX9_isOutOfState 3 (some .boolean) ∈ lw_g := g_in (List.mem_of_getElem? (i := 1298) (by decide +kernel)) rfl
theorem w_1303 : Cond.methodLink RX9 291 yX9_startBar ∈ lw_g := g_in (List.mem_of_getElem? (i := 1303) (by decide +kernel)) rfl
theorem w_1305 : Cond.instanceMethod yX9_startBar ∈ lw_g := g_in (List.mem_of_getElem? (i := 1305) (by decide +kernel)) rfl
theorem w_57 : Cond.selects yX9_startBar.cls yX9_startBar yX9_startBar ∈ lw_g := g_in (List.mem_of_getElem? (i := 57) (by decide +kernel)) rfl
theorem w_1306 : Cond.code yX9_startBar cX9_startBar 2 (some .int) ∈ lw_g := g_in (List.mem_of_getElem? (i := 1306) (by decide +kernel)) rfl
theorem w_1331 : Cond.methodLink RX9 294 yX9_isWatched ∈ lw_g := g_in (List.mem_of_getElem? (i := 1331) (by decide +kernel)) rfl
theorem w_1333 : Cond.instanceMethod yX9_isWatched ∈ lw_g := g_in (List.mem_of_getElem? (i := 1333) (by decide +kernel)) rfl
theorem w_64 : Cond.selects yX9_isWatched.cls yX9_isWatched yX9_isWatched ∈ lw_g := g_in (List.mem_of_getElem? (i := 64) (by decide +kernel)) rfl
theorem w_1334 : Cond.code yX9_isWatched cX9_isWatched 4 (some .boolean) ∈ lw_g := g_in (List.mem_of_getElem? (i := 1334) (by decide +kernel)) rfl
theorem w_1335 : Cond.methodLink RX9 297 yX9_areTooMany ∈ lw_g := g_in (List.mem_of_getElem? (i := 1335) (by decide +kernel)) rfl
theorem w_1337 : Cond.instanceMethod yX9_areTooMany ∈ lw_g := g_in (List.mem_of_getElem? (i := 1337) (by decide +kernel)) rfl
theorem w_65 : Cond.selects yX9_areTooMany.cls yX9_areTooMany yX9_areTooMany ∈ lw_g := g_in (List.mem_of_getElem? (i := 65) (by decide +kernel)) rfl
theorem w_1338 : Cond.code yX9_areTooMany cX9_areTooMany 4 (some .boolean) ∈ lw_g := g_in (List.mem_of_getElem? (i := 1338) (by decide +kernel)) rfl
theorem w_1291 : Cond.methodLink RX9 300 yX9_bar ∈ lw_g := g_in (List.mem_of_getElem? (i := 1291) (by decide +kernel)) rfl
theorem w_1293 : Cond.instanceMethod yX9_bar ∈ lw_g := g_in (List.mem_of_getElem? (i := 1293) (by decide +kernel)) rfl
theorem w_54 : Cond.selects yX9_bar.cls yX9_bar yX9_bar ∈ lw_g := g_in (List.mem_of_getElem? (i := 54) (by decide +kernel)) rfl
theorem w_1294 : Cond.code yX9_bar cX9_bar 3 (some .int) ∈ lw_g := g_in (List.mem_of_getElem? (i := 1294) (by decide +kernel)) rfl
theorem w_1354 : Cond.methodLink RX9 306 yX9_hangUp ∈ lw_g := g_in (List.mem_of_getElem? (i := 1354) (by decide +kernel)) rfl
theorem w_1356 : Cond.instanceMethod yX9_hangUp ∈ lw_g := g_in (List.mem_of_getElem? (i := 1356) (by decide +kernel)) rfl
theorem w_66 : Cond.selects yX9_hangUp.cls yX9_hangUp yX9_hangUp ∈ lw_g := g_in (List.mem_of_getElem? (i := 66) (by decide +kernel)) rfl
theorem w_1357 : Cond.code yX9_hangUp cX9_hangUp 2 none ∈ lw_g := g_in (List.mem_of_getElem? (i := 1357) (by decide +kernel)) rfl
theorem w_1386 : Cond.methodLink RX9 310 yX9_holdsLive ∈ lw_g := g_in (List.mem_of_getElem? (i := 1386) (by decide +kernel)) rfl
theorem w_1388 : Cond.instanceMethod yX9_holdsLive ∈ lw_g := g_in (List.mem_of_getElem? (i := 1388) (by decide +kernel)) rfl
theorem w_67 : Cond.selects yX9_holdsLive.cls yX9_holdsLive yX9_holdsLive ∈ lw_g := g_in (List.mem_of_getElem? (i := 67) (by decide +kernel)) rfl
theorem w_1389 : Cond.code yX9_holdsLive cX9_holdsLive 4 (some .boolean) ∈ lw_g := g_in (List.mem_of_getElem? (i := 1389) (by decide +kernel)) rfl
theorem w_1402 : Cond.methodLink RX9 313 yX9_hoursOf ∈ lw_g := g_in (List.mem_of_getElem? (i := 1402) (by decide +kernel)) rfl
theorem w_1404 : Cond.instanceMethod yX9_hoursOf ∈ lw_g := g_in (List.mem_of_getElem? (i := 1404) (by decide +kernel)) rfl
theorem w_69 : Cond.selects yX9_hoursOf.cls yX9_hoursOf yX9_hoursOf ∈ lw_g := g_in (List.mem_of_getElem? (i := 69) (by decide +kernel)) rfl
theorem w_1405 : Cond.code yX9_hoursOf cX9_hoursOf 4 (some .int) ∈ lw_g := g_in (List.mem_of_getElem? (i := 1405) (by decide +kernel)) rfl
theorem w_1409 : Cond.methodLink RX9 319 yX9_areFittings ∈ lw_g := g_in (List.mem_of_getElem? (i := 1409) (by decide +kernel)) rfl
theorem w_1411 : Cond.instanceMethod yX9_areFittings ∈ lw_g := g_in (List.mem_of_getElem? (i := 1411) (by decide +kernel)) rfl
theorem w_70 : Cond.selects yX9_areFittings.cls yX9_areFittings yX9_areFittings ∈ lw_g := g_in (List.mem_of_getElem? (i := 70) (by decide +kernel)) rfl
theorem w_1412 : Cond.code yX9_areFittings cX9_areFittings 4 (some .boolean) ∈ lw_g := g_in (List.mem_of_getElem? (i := 1412) (by decide +kernel)) rfl
theorem w_1398 : Cond.methodLink RX9 322 yX9_leastOf ∈ lw_g := g_in (List.mem_of_getElem? (i := 1398) (by decide +kernel)) rfl
theorem w_1400 : Cond.instanceMethod yX9_leastOf ∈ lw_g := g_in (List.mem_of_getElem? (i := 1400) (by decide +kernel)) rfl
theorem w_68 : Cond.selects yX9_leastOf.cls yX9_leastOf yX9_leastOf ∈ lw_g := g_in (List.mem_of_getElem? (i := 68) (by decide +kernel)) rfl
theorem w_1401 : Cond.code yX9_leastOf cX9_leastOf 6 (some .int) ∈ lw_g := g_in (List.mem_of_getElem? (i := 1401) (by decide +kernel)) rfl
theorem w_1437 : Cond.methodLink RX9 328 yX9_moves ∈ lw_g := g_in (List.mem_of_getElem? (i := 1437) (by decide +kernel)) rfl
theorem w_1439 : Cond.instanceMethod yX9_moves ∈ lw_g := g_in (List.mem_of_getElem? (i := 1439) (by decide +kernel)) rfl
theorem w_73 : Cond.selects yX9_moves.cls yX9_moves yX9_moves ∈ lw_g := g_in (List.mem_of_getElem? (i := 73) (by decide +kernel)) rfl
theorem w_1440 : Cond.code yX9_moves cX9_moves 5 (some .int) ∈ lw_g := g_in (List.mem_of_getElem? (i := 1440) (by decide +kernel)) rfl
theorem w_1429 : Cond.methodLink RX9 331 yX9_asked ∈ lw_g := g_in (List.mem_of_getElem? (i := 1429) (by decide +kernel)) rfl
theorem w_1431 : Cond.instanceMethod yX9_asked ∈ lw_g := g_in (List.mem_of_getElem? (i := 1431) (by decide +kernel)) rfl
theorem w_71 : Cond.selects yX9_asked.cls yX9_asked yX9_asked ∈ lw_g := g_in (List.mem_of_getElem? (i := 71) (by decide +kernel)) rfl
theorem w_1432 : Cond.code yX9_asked cX9_asked 3 (some .int) ∈ lw_g := g_in (List.mem_of_getElem? (i := 1432) (by decide +kernel)) rfl
theorem w_1433 : Cond.methodLink RX9 334 yX9_findRest ∈ lw_g := g_in (List.mem_of_getElem? (i := 1433) (by decide +kernel)) rfl
theorem w_1435 : Cond.instanceMethod yX9_findRest ∈ lw_g := g_in (List.mem_of_getElem? (i := 1435) (by decide +kernel)) rfl
theorem w_72 : Cond.selects yX9_findRest.cls yX9_findRest yX9_findRest ∈ lw_g := g_in (List.mem_of_getElem? (i := 72) (by decide +kernel)) rfl
theorem w_1436 : Cond.code yX9_findRest cX9_findRest 7 none ∈ lw_g := g_in (List.mem_of_getElem? (i := 1436) (by decide +kernel)) rfl
theorem w_1465 : Cond.methodLink RX9 350 yX9_permitsThat ∈ lw_g := g_in (List.mem_of_getElem? (i := 1465) (by decide +kernel)) rfl
theorem w_1467 : Cond.instanceMethod yX9_permitsThat ∈ lw_g := g_in (List.mem_of_getElem? (i := 1467) (by decide +kernel)) rfl
theorem w_74 : Cond.selects yX9_permitsThat.cls yX9_permitsThat yX9_permitsThat ∈ lw_g := g_in (List.mem_of_getElem? (i := 74) (by decide +kernel)) rfl
theorem w_1468 : Cond.code yX9_permitsThat cX9_permitsThat 4 (some .int) ∈ lw_g := g_in (List.mem_of_getElem? (i := 1468) (by decide +kernel)) rfl
theorem w_1469 : Cond.methodLink RX9 353 yX9_men ∈ lw_g := g_in (List.mem_of_getElem? (i := 1469) (by decide +kernel)) rfl
theorem w_1471 : Cond.instanceMethod yX9_men ∈ lw_g := g_in (List.mem_of_getElem? (i := 1471) (by decide +kernel)) rfl
theorem w_75 : Cond.selects yX9_men.cls yX9_men yX9_men ∈ lw_g := g_in (List.mem_of_getElem? (i := 75) (by decide +kernel)) rfl
theorem w_1472 : Cond.code yX9_men cX9_men 5 (some .int) ∈ lw_g := g_in (List.mem_of_getElem? (i := 1472) (by decide +kernel)) rfl
theorem w_1473 : Cond.methodLink RX9 357 yX9_allLocks ∈ lw_g := g_in (List.mem_of_getElem? (i := 1473) (by decide +kernel)) rfl
theorem w_1475 : Cond.instanceMethod yX9_allLocks ∈ lw_g := g_in (List.mem_of_getElem? (i := 1475) (by decide +kernel)) rfl
theorem w_76 : Cond.selects yX9_allLocks.cls yX9_allLocks yX9_allLocks ∈ lw_g := g_in (List.mem_of_getElem? (i := 76) (by decide +kernel)) rfl
theorem w_1476 : Cond.code yX9_allLocks cX9_allLocks 3 (some .int) ∈ lw_g := g_in (List.mem_of_getElem? (i := 1476) (by decide +kernel)) rfl
theorem w_575 : Cond.methodLink RJ0 495 yJ1_charAt_3b067 ∈ lw_g := g_in (List.mem_of_getElem? (i := 575) (by decide +kernel)) rfl
theorem w_576 : Cond.static yJ1_charAt_3b067 ∈ lw_g := g_in (List.mem_of_getElem? (i := 576) (by decide +kernel)) rfl
theorem w_89 : Cond.initialized RJ1 ∈ lw_g := g_in (List.mem_of_getElem? (i := 89) (by decide +kernel)) rfl
theorem w_577 : Cond.code yJ1_charAt_3b067 cJ1_charAt_3b067 2 (some .char) ∈ lw_g := g_in (List.mem_of_getElem? (i := 577) (by decide +kernel)) rfl
theorem w_583 : Cond.methodLink RJ0 1059 yJ3_checkIndex_8e157 ∈ lw_g := g_in (List.mem_of_getElem? (i := 583) (by decide +kernel)) rfl
theorem w_584 : Cond.static yJ3_checkIndex_8e157 ∈ lw_g := g_in (List.mem_of_getElem? (i := 584) (by decide +kernel)) rfl
theorem w_90 : Cond.initialized RJ3 ∈ lw_g := g_in (List.mem_of_getElem? (i := 90) (by decide +kernel)) rfl
theorem w_585 : Cond.code yJ3_checkIndex_8e157 cJ3_checkIndex_8e157 3 (some .int) ∈ lw_g := g_in (List.mem_of_getElem? (i := 585) (by decide +kernel)) rfl
theorem w_578 : Cond.methodLink RJ1 9 yJ0_checkIndex_df160 ∈ lw_g := g_in (List.mem_of_getElem? (i := 578) (by decide +kernel)) rfl
theorem w_579 : Cond.static yJ0_checkIndex_df160 ∈ lw_g := g_in (List.mem_of_getElem? (i := 579) (by decide +kernel)) rfl
theorem w_580 : Cond.code yJ0_checkIndex_df160 cJ0_checkIndex_df160 2 none ∈ lw_g := g_in (List.mem_of_getElem? (i := 580) (by decide +kernel)) rfl
theorem w_858 : Cond.methodLink RX2 62 yJ6_bitCount_0f7a4 ∈ lw_g := g_in (List.mem_of_getElem? (i := 858) (by decide +kernel)) rfl
theorem w_752 : Cond.static yJ6_bitCount_0f7a4 ∈ lw_g := g_in (List.mem_of_getElem? (i := 752) (by decide +kernel)) rfl
theorem w_92 : Cond.initialized RJ6 ∈ lw_g := g_in (List.mem_of_getElem? (i := 92) (by decide +kernel)) rfl
theorem w_753 : Cond.code yJ6_bitCount_0f7a4 cJ6_bitCount_0f7a4 1 (some .int) ∈ lw_g := g_in (List.mem_of_getElem? (i := 753) (by decide +kernel)) rfl
theorem w_851 : Cond.methodLink RX2 77 yX2_leastSetFrom ∈ lw_g := g_in (List.mem_of_getElem? (i := 851) (by decide +kernel)) rfl
theorem w_852 : Cond.static yX2_leastSetFrom ∈ lw_g := g_in (List.mem_of_getElem? (i := 852) (by decide +kernel)) rfl
theorem w_853 : Cond.code yX2_leastSetFrom cX2_leastSetFrom 11 (some .int) ∈ lw_g := g_in (List.mem_of_getElem? (i := 853) (by decide +kernel)) rfl
theorem w_953 : Cond.methodLink RX3 44 yJ6_bitCount_0f7a4 ∈ lw_g := g_in (List.mem_of_getElem? (i := 953) (by decide +kernel)) rfl
theorem w_897 : Cond.methodLink RX4 73 yJ6_bitCount_0f7a4 ∈ lw_g := g_in (List.mem_of_getElem? (i := 897) (by decide +kernel)) rfl
theorem w_727 : Cond.methodLink RX5 133 yX5_isWithin ∈ lw_g := g_in (List.mem_of_getElem? (i := 727) (by decide +kernel)) rfl
theorem w_728 : Cond.static yX5_isWithin ∈ lw_g := g_in (List.mem_of_getElem? (i := 728) (by decide +kernel)) rfl
theorem w_729 : Cond.code yX5_isWithin cX5_isWithin 3 (some .boolean) ∈ lw_g := g_in (List.mem_of_getElem? (i := 729) (by decide +kernel)) rfl
theorem w_402 : Cond.methodLink RX8 61 yX8_isPlace ∈ lw_g := g_in (List.mem_of_getElem? (i := 402) (by decide +kernel)) rfl
theorem w_403 : Cond.static yX8_isPlace ∈ lw_g := g_in (List.mem_of_getElem? (i := 403) (by decide +kernel)) rfl
theorem w_404 : Cond.code yX8_isPlace cX8_isPlace 1 (some .boolean) ∈ lw_g := g_in (List.mem_of_getElem? (i := 404) (by decide +kernel)) rfl
theorem w_672 : Cond.methodLink RX8 183 yX8_isMan ∈ lw_g := g_in (List.mem_of_getElem? (i := 672) (by decide +kernel)) rfl
theorem w_673 : Cond.static yX8_isMan ∈ lw_g := g_in (List.mem_of_getElem? (i := 673) (by decide +kernel)) rfl
theorem w_674 : Cond.code yX8_isMan cX8_isMan 1 (some .boolean) ∈ lw_g := g_in (List.mem_of_getElem? (i := 674) (by decide +kernel)) rfl
theorem w_751 : Cond.methodLink RX8 200 yJ6_bitCount_0f7a4 ∈ lw_g := g_in (List.mem_of_getElem? (i := 751) (by decide +kernel)) rfl
theorem w_1110 : Cond.methodLink RX9 105 yX9_in ∈ lw_g := g_in (List.mem_of_getElem? (i := 1110) (by decide +kernel)) rfl
theorem w_1111 : Cond.static yX9_in ∈ lw_g := g_in (List.mem_of_getElem? (i := 1111) (by decide +kernel)) rfl
theorem w_1112 : Cond.code yX9_in cX9_in 3 (some .boolean) ∈ lw_g := g_in (List.mem_of_getElem? (i := 1112) (by decide +kernel)) rfl
theorem w_1107 : Cond.methodLink RX9 116 yX9_isPlace ∈ lw_g := g_in (List.mem_of_getElem? (i := 1107) (by decide +kernel)) rfl
theorem w_1108 : Cond.static yX9_isPlace ∈ lw_g := g_in (List.mem_of_getElem? (i := 1108) (by decide +kernel)) rfl
theorem w_1109 : Cond.code yX9_isPlace cX9_isPlace 1 (some .boolean) ∈ lw_g := g_in (List.mem_of_getElem? (i := 1109) (by decide +kernel)) rfl
theorem w_1133 : Cond.methodLink RX9 125 yX9_has ∈ lw_g := g_in (List.mem_of_getElem? (i := 1133) (by decide +kernel)) rfl
theorem w_1134 : Cond.static yX9_has ∈ lw_g := g_in (List.mem_of_getElem? (i := 1134) (by decide +kernel)) rfl
theorem w_1135 : Cond.code yX9_has cX9_has 2 (some .boolean) ∈ lw_g := g_in (List.mem_of_getElem? (i := 1135) (by decide +kernel)) rfl
theorem w_1284 : Cond.methodLink RX9 265 yX9_isMan ∈ lw_g := g_in (List.mem_of_getElem? (i := 1284) (by decide +kernel)) rfl
theorem w_1285 : Cond.static yX9_isMan ∈ lw_g := g_in (List.mem_of_getElem? (i := 1285) (by decide +kernel)) rfl
theorem w_1286 : Cond.code yX9_isMan cX9_isMan 1 (some .boolean) ∈ lw_g := g_in (List.mem_of_getElem? (i := 1286) (by decide +kernel)) rfl
theorem w_1339 : Cond.methodLink RX9 303 yX9_ones ∈ lw_g := g_in (List.mem_of_getElem? (i := 1339) (by decide +kernel)) rfl
theorem w_1340 : Cond.static yX9_ones ∈ lw_g := g_in (List.mem_of_getElem? (i := 1340) (by decide +kernel)) rfl
theorem w_1341 : Cond.code yX9_ones cX9_ones 3 (some .int) ∈ lw_g := g_in (List.mem_of_getElem? (i := 1341) (by decide +kernel)) rfl
theorem w_1406 : Cond.methodLink RX9 316 yX9_isAhead ∈ lw_g := g_in (List.mem_of_getElem? (i := 1406) (by decide +kernel)) rfl
theorem w_1407 : Cond.static yX9_isAhead ∈ lw_g := g_in (List.mem_of_getElem? (i := 1407) (by decide +kernel)) rfl
theorem w_1408 : Cond.code yX9_isAhead cX9_isAhead 3 (some .boolean) ∈ lw_g := g_in (List.mem_of_getElem? (i := 1408) (by decide +kernel)) rfl
theorem w_1478 : Cond.fieldLink RJ0 9 "java/lang/String" "value" "[B" ∈ lw_g := g_in (List.mem_of_getElem? (i := 1478) (by decide +kernel)) rfl
theorem w_1479 : Cond.fieldLink RJ0 15 "java/lang/String" "coder" "B" ∈ lw_g := g_in (List.mem_of_getElem? (i := 1479) (by decide +kernel)) rfl
theorem w_565 : Cond.fieldLink RJ0 38 "java/lang/String" "COMPACT_STRINGS" "Z" ∈ lw_g := g_in (List.mem_of_getElem? (i := 565) (by decide +kernel)) rfl
theorem w_581 : Cond.fieldLink RJ0 1053 "jdk/internal/util/Preconditions" "SIOOBE_FORMATTER" "Ljava/util/function/BiFunction;" ∈ lw_g := g_in (List.mem_of_getElem? (i := 581) (by decide +kernel)) rfl
theorem w_692 : Cond.fieldLink RX5 47 "PermitRoom$Plant" "GOES_FROM" "[I" ∈ lw_g := g_in (List.mem_of_getElem? (i := 692) (by decide +kernel)) rfl
theorem w_754 : Cond.constant RJ6 265 (1431655765) ∈ lw_g := g_in (List.mem_of_getElem? (i := 754) (by decide +kernel)) rfl
theorem w_755 : Cond.constant RJ6 266 (858993459) ∈ lw_g := g_in (List.mem_of_getElem? (i := 755) (by decide +kernel)) rfl
theorem w_756 : Cond.constant RJ6 267 (252645135) ∈ lw_g := g_in (List.mem_of_getElem? (i := 756) (by decide +kernel)) rfl
theorem w_523 : Cond.constantLong RX7 40 (255) ∈ lw_g := g_in (List.mem_of_getElem? (i := 523) (by decide +kernel)) rfl
theorem w_1196 : Cond.constantLong RX9 171 (255) ∈ lw_g := g_in (List.mem_of_getElem? (i := 1196) (by decide +kernel)) rfl
theorem w_1246 : Cond.constantLong RX9 198 (1668246628) ∈ lw_g := g_in (List.mem_of_getElem? (i := 1246) (by decide +kernel)) rfl
theorem w_1247 : Cond.constantLong RX9 200 (6844276) ∈ lw_g := g_in (List.mem_of_getElem? (i := 1247) (by decide +kernel)) rfl
theorem w_1248 : Cond.constantLong RX9 202 (130178100716908) ∈ lw_g := g_in (List.mem_of_getElem? (i := 1248) (by decide +kernel)) rfl
theorem w_1239 : Cond.constantLong RX9 204 (6775155) ∈ lw_g := g_in (List.mem_of_getElem? (i := 1239) (by decide +kernel)) rfl
theorem w_1240 : Cond.constantLong RX9 206 (495874040173) ∈ lw_g := g_in (List.mem_of_getElem? (i := 1240) (by decide +kernel)) rfl
theorem w_1241 : Cond.constantLong RX9 208 (482906432882) ∈ lw_g := g_in (List.mem_of_getElem? (i := 1241) (by decide +kernel)) rfl
theorem w_1221 : Cond.constantLong RX9 210 (1852138852) ∈ lw_g := g_in (List.mem_of_getElem? (i := 1221) (by decide +kernel)) rfl
theorem w_1226 : Cond.constantLong RX9 212 (6447474) ∈ lw_g := g_in (List.mem_of_getElem? (i := 1226) (by decide +kernel)) rfl
theorem w_1227 : Cond.constantLong RX9 214 (110429873532005) ∈ lw_g := g_in (List.mem_of_getElem? (i := 1227) (by decide +kernel)) rfl
theorem w_1228 : Cond.constantLong RX9 216 (7169390) ∈ lw_g := g_in (List.mem_of_getElem? (i := 1228) (by decide +kernel)) rfl
theorem w_1229 : Cond.constantLong RX9 218 (448546566771) ∈ lw_g := g_in (List.mem_of_getElem? (i := 1229) (by decide +kernel)) rfl
theorem w_1230 : Cond.constantLong RX9 220 (512736125800) ∈ lw_g := g_in (List.mem_of_getElem? (i := 1230) (by decide +kernel)) rfl
theorem w_1249 : Cond.constantLong RX9 243 (1952805748) ∈ lw_g := g_in (List.mem_of_getElem? (i := 1249) (by decide +kernel)) rfl
theorem w_1258 : Cond.constantLong RX9 252 (131294808271214) ∈ lw_g := g_in (List.mem_of_getElem? (i := 1258) (by decide +kernel)) rfl
theorem w_1259 : Cond.constantLong RX9 254 (29807) ∈ lw_g := g_in (List.mem_of_getElem? (i := 1259) (by decide +kernel)) rfl
theorem gX0 : ∀ w ∈ u_ws RX0 TX0 2, w ∈ lw_g := by decide +kernel
theorem gX1 : ∀ w ∈ u_ws RX1 TX1 2, w ∈ lw_g := by decide +kernel
theorem gX2 : ∀ w ∈ u_ws RX2 TX2 10, w ∈ lw_g := by decide +kernel
theorem gX3 : ∀ w ∈ u_ws RX3 TX3 9, w ∈ lw_g := by decide +kernel
theorem gX4 : ∀ w ∈ u_ws RX4 TX4 10, w ∈ lw_g := by decide +kernel
theorem gX5 : ∀ w ∈ u_ws RX5 TX5 4, w ∈ lw_g := by decide +kernel
theorem gX6 : ∀ w ∈ u_ws RX6 TX6 7, w ∈ lw_g := by decide +kernel
theorem gX7 : ∀ w ∈ u_ws RX7 TX7 9, w ∈ lw_g := by decide +kernel
theorem gX8 : ∀ w ∈ u_ws RX8 TX8 9, w ∈ lw_g := by decide +kernel
theorem gX9 : ∀ w ∈ u_ws RX9 TX9 47, w ∈ lw_g := by decide +kernel
theorem f_X0_9 : LkF RX0 9 0 0 := ⟨RX0, TX0, 2, rfl, by decide, gX0, w_248⟩
theorem f_X0_15 : LkF RX0 15 0 1 := ⟨RX0, TX0, 2, rfl, by decide, gX0, w_250⟩
theorem f_X1_9 : LkF RX1 9 1 0 := ⟨RX1, TX1, 2, rfl, by decide, gX1, w_319⟩
theorem f_X1_15 : LkF RX1 15 1 1 := ⟨RX1, TX1, 2, rfl, by decide, gX1, w_321⟩
theorem f_X2_9 : LkF RX2 9 2 0 := ⟨RX2, TX2, 10, rfl, by decide, gX2, w_115⟩
theorem f_X2_15 : LkF RX2 15 2 1 := ⟨RX2, TX2, 10, rfl, by decide, gX2, w_117⟩
theorem f_X2_18 : LkF RX2 18 2 2 := ⟨RX2, TX2, 10, rfl, by decide, gX2, w_119⟩
theorem f_X2_21 : LkF RX2 21 2 3 := ⟨RX2, TX2, 10, rfl, by decide, gX2, w_120⟩
theorem f_X2_24 : LkF RX2 24 2 4 := ⟨RX2, TX2, 10, rfl, by decide, gX2, w_122⟩
theorem f_X2_27 : LkF RX2 27 2 5 := ⟨RX2, TX2, 10, rfl, by decide, gX2, w_124⟩
theorem f_X2_30 : LkF RX2 30 2 6 := ⟨RX2, TX2, 10, rfl, by decide, gX2, w_125⟩
theorem f_X2_34 : LkF RX2 34 2 7 := ⟨RX2, TX2, 10, rfl, by decide, gX2, w_127⟩
theorem f_X2_37 : LkF RX2 37 2 8 := ⟨RX2, TX2, 10, rfl, by decide, gX2, w_128⟩
theorem f_X2_40 : LkF RX2 40 2 9 := ⟨RX2, TX2, 10, rfl, by decide, gX2, w_129⟩
theorem f_X3_9 : LkF RX3 9 3 0 := ⟨RX3, TX3, 9, rfl, by decide, gX3, w_196⟩
theorem f_X3_15 : LkF RX3 15 3 1 := ⟨RX3, TX3, 9, rfl, by decide, gX3, w_199⟩
theorem f_X3_18 : LkF RX3 18 3 2 := ⟨RX3, TX3, 9, rfl, by decide, gX3, w_202⟩
theorem f_X3_21 : LkF RX3 21 3 3 := ⟨RX3, TX3, 9, rfl, by decide, gX3, w_205⟩
theorem f_X3_24 : LkF RX3 24 3 4 := ⟨RX3, TX3, 9, rfl, by decide, gX3, w_209⟩
theorem f_X3_27 : LkF RX3 27 3 5 := ⟨RX3, TX3, 9, rfl, by decide, gX3, w_212⟩
theorem f_X3_30 : LkF RX3 30 3 6 := ⟨RX3, TX3, 9, rfl, by decide, gX3, w_214⟩
theorem f_X3_33 : LkF RX3 33 3 7 := ⟨RX3, TX3, 9, rfl, by decide, gX3, w_216⟩
theorem f_X3_36 : LkF RX3 36 3 8 := ⟨RX3, TX3, 9, rfl, by decide, gX3, w_219⟩
theorem f_X4_9 : LkF RX4 9 4 0 := ⟨RX4, TX4, 10, rfl, by decide, gX4, w_334⟩
theorem f_X4_15 : LkF RX4 15 4 1 := ⟨RX4, TX4, 10, rfl, by decide, gX4, w_336⟩
theorem f_X4_18 : LkF RX4 18 4 2 := ⟨RX4, TX4, 10, rfl, by decide, gX4, w_337⟩
theorem f_X4_21 : LkF RX4 21 4 3 := ⟨RX4, TX4, 10, rfl, by decide, gX4, w_339⟩
theorem f_X4_25 : LkF RX4 25 4 4 := ⟨RX4, TX4, 10, rfl, by decide, gX4, w_341⟩
theorem f_X4_28 : LkF RX4 28 4 5 := ⟨RX4, TX4, 10, rfl, by decide, gX4, w_342⟩
theorem f_X4_35 : LkF RX4 35 4 7 := ⟨RX4, TX4, 10, rfl, by decide, gX4, w_346⟩
theorem f_X4_38 : LkF RX4 38 4 8 := ⟨RX4, TX4, 10, rfl, by decide, gX4, w_347⟩
theorem f_X4_41 : LkF RX4 41 4 9 := ⟨RX4, TX4, 10, rfl, by decide, gX4, w_348⟩
theorem f_X4_62 : LkF RX4 62 3 8 := ⟨RX3, TX3, 9, rfl, by decide, gX3, w_220⟩
theorem f_X4_67 : LkF RX4 67 3 3 := ⟨RX3, TX3, 9, rfl, by decide, gX3, w_207⟩
theorem f_X4_70 : LkF RX4 70 3 2 := ⟨RX3, TX3, 9, rfl, by decide, gX3, w_203⟩
theorem f_X5_12 : LkF RX5 12 5 0 := ⟨RX5, TX5, 4, rfl, by decide, gX5, w_257⟩
theorem f_X5_21 : LkF RX5 21 5 1 := ⟨RX5, TX5, 4, rfl, by decide, gX5, w_259⟩
theorem f_X5_28 : LkF RX5 28 5 2 := ⟨RX5, TX5, 4, rfl, by decide, gX5, w_261⟩
theorem f_X5_35 : LkF RX5 35 5 3 := ⟨RX5, TX5, 4, rfl, by decide, gX5, w_263⟩
theorem f_X5_39 : LkF RX5 39 2 9 := ⟨RX2, TX2, 10, rfl, by decide, gX2, w_130⟩
theorem f_X5_51 : LkF RX5 51 3 3 := ⟨RX3, TX3, 9, rfl, by decide, gX3, w_206⟩
theorem f_X5_68 : LkF RX5 68 3 0 := ⟨RX3, TX3, 9, rfl, by decide, gX3, w_197⟩
theorem f_X5_94 : LkF RX5 94 3 4 := ⟨RX3, TX3, 9, rfl, by decide, gX3, w_210⟩
theorem f_X5_107 : LkF RX5 107 6 6 := ⟨RX6, TX6, 7, rfl, by decide, gX6, w_173⟩
theorem f_X5_110 : LkF RX5 110 3 1 := ⟨RX3, TX3, 9, rfl, by decide, gX3, w_200⟩
theorem f_X5_116 : LkF RX5 116 6 2 := ⟨RX6, TX6, 7, rfl, by decide, gX6, w_164⟩
theorem f_X5_123 : LkF RX5 123 3 8 := ⟨RX3, TX3, 9, rfl, by decide, gX3, w_221⟩
theorem f_X5_130 : LkF RX5 130 6 3 := ⟨RX6, TX6, 7, rfl, by decide, gX6, w_167⟩
theorem f_X5_136 : LkF RX5 136 3 7 := ⟨RX3, TX3, 9, rfl, by decide, gX3, w_217⟩
theorem f_X6_9 : LkF RX6 9 6 0 := ⟨RX6, TX6, 7, rfl, by decide, gX6, w_159⟩
theorem f_X6_15 : LkF RX6 15 6 1 := ⟨RX6, TX6, 7, rfl, by decide, gX6, w_161⟩
theorem f_X6_18 : LkF RX6 18 6 2 := ⟨RX6, TX6, 7, rfl, by decide, gX6, w_163⟩
theorem f_X6_21 : LkF RX6 21 6 3 := ⟨RX6, TX6, 7, rfl, by decide, gX6, w_166⟩
theorem f_X6_24 : LkF RX6 24 6 4 := ⟨RX6, TX6, 7, rfl, by decide, gX6, w_169⟩
theorem f_X6_27 : LkF RX6 27 6 5 := ⟨RX6, TX6, 7, rfl, by decide, gX6, w_170⟩
theorem f_X6_30 : LkF RX6 30 6 6 := ⟨RX6, TX6, 7, rfl, by decide, gX6, w_172⟩
theorem f_X6_34 : LkF RX6 34 7 2 := ⟨RX7, TX7, 9, rfl, by decide, gX7, w_284⟩
theorem f_X6_38 : LkF RX6 38 7 3 := ⟨RX7, TX7, 9, rfl, by decide, gX7, w_286⟩
theorem f_X6_40 : LkF RX6 40 7 4 := ⟨RX7, TX7, 9, rfl, by decide, gX7, w_288⟩
theorem f_X6_42 : LkF RX6 42 7 5 := ⟨RX7, TX7, 9, rfl, by decide, gX7, w_290⟩
theorem f_X7_9 : LkF RX7 9 7 0 := ⟨RX7, TX7, 9, rfl, by decide, gX7, w_280⟩
theorem f_X7_15 : LkF RX7 15 7 1 := ⟨RX7, TX7, 9, rfl, by decide, gX7, w_281⟩
theorem f_X7_19 : LkF RX7 19 7 2 := ⟨RX7, TX7, 9, rfl, by decide, gX7, w_283⟩
theorem f_X7_31 : LkF RX7 31 7 6 := ⟨RX7, TX7, 9, rfl, by decide, gX7, w_291⟩
theorem f_X7_34 : LkF RX7 34 7 7 := ⟨RX7, TX7, 9, rfl, by decide, gX7, w_292⟩
theorem f_X7_37 : LkF RX7 37 7 8 := ⟨RX7, TX7, 9, rfl, by decide, gX7, w_293⟩
theorem f_X8_10 : LkF RX8 10 8 0 := ⟨RX8, TX8, 9, rfl, by decide, gX8, w_370⟩
theorem f_X8_20 : LkF RX8 20 8 1 := ⟨RX8, TX8, 9, rfl, by decide, gX8, w_371⟩
theorem f_X8_25 : LkF RX8 25 8 2 := ⟨RX8, TX8, 9, rfl, by decide, gX8, w_372⟩
theorem f_X8_30 : LkF RX8 30 8 3 := ⟨RX8, TX8, 9, rfl, by decide, gX8, w_373⟩
theorem f_X8_35 : LkF RX8 35 8 4 := ⟨RX8, TX8, 9, rfl, by decide, gX8, w_374⟩
theorem f_X8_39 : LkF RX8 39 8 5 := ⟨RX8, TX8, 9, rfl, by decide, gX8, w_375⟩
theorem f_X8_46 : LkF RX8 46 8 6 := ⟨RX8, TX8, 9, rfl, by decide, gX8, w_376⟩
theorem f_X8_53 : LkF RX8 53 8 7 := ⟨RX8, TX8, 9, rfl, by decide, gX8, w_377⟩
theorem f_X8_57 : LkF RX8 57 8 8 := ⟨RX8, TX8, 9, rfl, by decide, gX8, w_378⟩
theorem f_X8_65 : LkF RX8 65 2 6 := ⟨RX2, TX2, 10, rfl, by decide, gX2, w_126⟩
theorem f_X8_77 : LkF RX8 77 2 0 := ⟨RX2, TX2, 10, rfl, by decide, gX2, w_116⟩
theorem f_X8_81 : LkF RX8 81 2 1 := ⟨RX2, TX2, 10, rfl, by decide, gX2, w_118⟩
theorem f_X8_84 : LkF RX8 84 2 3 := ⟨RX2, TX2, 10, rfl, by decide, gX2, w_121⟩
theorem f_X8_87 : LkF RX8 87 2 4 := ⟨RX2, TX2, 10, rfl, by decide, gX2, w_123⟩
theorem f_X8_138 : LkF RX8 138 7 1 := ⟨RX7, TX7, 9, rfl, by decide, gX7, w_282⟩
theorem f_X8_151 : LkF RX8 151 6 6 := ⟨RX6, TX6, 7, rfl, by decide, gX6, w_174⟩
theorem f_X8_157 : LkF RX8 157 6 5 := ⟨RX6, TX6, 7, rfl, by decide, gX6, w_171⟩
theorem f_X8_160 : LkF RX8 160 6 0 := ⟨RX6, TX6, 7, rfl, by decide, gX6, w_160⟩
theorem f_X8_163 : LkF RX8 163 6 1 := ⟨RX6, TX6, 7, rfl, by decide, gX6, w_162⟩
theorem f_X8_166 : LkF RX8 166 6 2 := ⟨RX6, TX6, 7, rfl, by decide, gX6, w_165⟩
theorem f_X8_169 : LkF RX8 169 6 3 := ⟨RX6, TX6, 7, rfl, by decide, gX6, w_168⟩
theorem f_X8_179 : LkF RX8 179 3 8 := ⟨RX3, TX3, 9, rfl, by decide, gX3, w_222⟩
theorem f_X8_186 : LkF RX8 186 3 3 := ⟨RX3, TX3, 9, rfl, by decide, gX3, w_208⟩
theorem f_X8_194 : LkF RX8 194 3 4 := ⟨RX3, TX3, 9, rfl, by decide, gX3, w_211⟩
theorem f_X8_219 : LkF RX8 219 3 0 := ⟨RX3, TX3, 9, rfl, by decide, gX3, w_198⟩
theorem f_X8_222 : LkF RX8 222 3 1 := ⟨RX3, TX3, 9, rfl, by decide, gX3, w_201⟩
theorem f_X8_225 : LkF RX8 225 3 2 := ⟨RX3, TX3, 9, rfl, by decide, gX3, w_204⟩
theorem f_X8_231 : LkF RX8 231 3 5 := ⟨RX3, TX3, 9, rfl, by decide, gX3, w_213⟩
theorem f_X8_234 : LkF RX8 234 3 6 := ⟨RX3, TX3, 9, rfl, by decide, gX3, w_215⟩
theorem f_X8_237 : LkF RX8 237 3 7 := ⟨RX3, TX3, 9, rfl, by decide, gX3, w_218⟩
theorem f_X8_240 : LkF RX8 240 0 1 := ⟨RX0, TX0, 2, rfl, by decide, gX0, w_251⟩
theorem f_X8_269 : LkF RX8 269 1 1 := ⟨RX1, TX1, 2, rfl, by decide, gX1, w_322⟩
theorem f_X8_272 : LkF RX8 272 1 0 := ⟨RX1, TX1, 2, rfl, by decide, gX1, w_320⟩
theorem f_X8_282 : LkF RX8 282 4 3 := ⟨RX4, TX4, 10, rfl, by decide, gX4, w_340⟩
theorem f_X8_285 : LkF RX8 285 4 0 := ⟨RX4, TX4, 10, rfl, by decide, gX4, w_335⟩
theorem f_X8_288 : LkF RX8 288 4 5 := ⟨RX4, TX4, 10, rfl, by decide, gX4, w_343⟩
theorem f_X8_291 : LkF RX8 291 4 2 := ⟨RX4, TX4, 10, rfl, by decide, gX4, w_338⟩
theorem f_X8_294 : LkF RX8 294 4 6 := ⟨RX4, TX4, 10, rfl, by decide, gX4, w_345⟩
theorem f_X8_304 : LkF RX8 304 0 0 := ⟨RX0, TX0, 2, rfl, by decide, gX0, w_249⟩
theorem f_X9_7 : LkF RX9 7 9 2 := ⟨RX9, TX9, 47, rfl, by decide, gX9, w_962⟩
theorem f_X9_13 : LkF RX9 13 9 3 := ⟨RX9, TX9, 47, rfl, by decide, gX9, w_963⟩
theorem f_X9_16 : LkF RX9 16 9 4 := ⟨RX9, TX9, 47, rfl, by decide, gX9, w_964⟩
theorem f_X9_19 : LkF RX9 19 9 5 := ⟨RX9, TX9, 47, rfl, by decide, gX9, w_965⟩
theorem f_X9_22 : LkF RX9 22 9 6 := ⟨RX9, TX9, 47, rfl, by decide, gX9, w_966⟩
theorem f_X9_26 : LkF RX9 26 9 7 := ⟨RX9, TX9, 47, rfl, by decide, gX9, w_967⟩
theorem f_X9_29 : LkF RX9 29 9 9 := ⟨RX9, TX9, 47, rfl, by decide, gX9, w_969⟩
theorem f_X9_32 : LkF RX9 32 9 10 := ⟨RX9, TX9, 47, rfl, by decide, gX9, w_970⟩
theorem f_X9_35 : LkF RX9 35 9 11 := ⟨RX9, TX9, 47, rfl, by decide, gX9, w_971⟩
theorem f_X9_38 : LkF RX9 38 9 12 := ⟨RX9, TX9, 47, rfl, by decide, gX9, w_972⟩
theorem f_X9_41 : LkF RX9 41 9 13 := ⟨RX9, TX9, 47, rfl, by decide, gX9, w_973⟩
theorem f_X9_44 : LkF RX9 44 9 14 := ⟨RX9, TX9, 47, rfl, by decide, gX9, w_974⟩
theorem f_X9_47 : LkF RX9 47 9 15 := ⟨RX9, TX9, 47, rfl, by decide, gX9, w_975⟩
theorem f_X9_50 : LkF RX9 50 9 16 := ⟨RX9, TX9, 47, rfl, by decide, gX9, w_976⟩
theorem f_X9_53 : LkF RX9 53 9 18 := ⟨RX9, TX9, 47, rfl, by decide, gX9, w_978⟩
theorem f_X9_56 : LkF RX9 56 9 19 := ⟨RX9, TX9, 47, rfl, by decide, gX9, w_979⟩
theorem f_X9_59 : LkF RX9 59 9 20 := ⟨RX9, TX9, 47, rfl, by decide, gX9, w_980⟩
theorem f_X9_62 : LkF RX9 62 9 21 := ⟨RX9, TX9, 47, rfl, by decide, gX9, w_981⟩
theorem f_X9_65 : LkF RX9 65 9 22 := ⟨RX9, TX9, 47, rfl, by decide, gX9, w_982⟩
theorem f_X9_68 : LkF RX9 68 9 23 := ⟨RX9, TX9, 47, rfl, by decide, gX9, w_983⟩
theorem f_X9_71 : LkF RX9 71 9 24 := ⟨RX9, TX9, 47, rfl, by decide, gX9, w_984⟩
theorem f_X9_74 : LkF RX9 74 9 25 := ⟨RX9, TX9, 47, rfl, by decide, gX9, w_985⟩
theorem f_X9_77 : LkF RX9 77 9 26 := ⟨RX9, TX9, 47, rfl, by decide, gX9, w_986⟩
theorem f_X9_80 : LkF RX9 80 9 27 := ⟨RX9, TX9, 47, rfl, by decide, gX9, w_987⟩
theorem f_X9_83 : LkF RX9 83 9 28 := ⟨RX9, TX9, 47, rfl, by decide, gX9, w_988⟩
theorem f_X9_86 : LkF RX9 86 9 30 := ⟨RX9, TX9, 47, rfl, by decide, gX9, w_990⟩
theorem f_X9_89 : LkF RX9 89 9 38 := ⟨RX9, TX9, 47, rfl, by decide, gX9, w_998⟩
theorem f_X9_92 : LkF RX9 92 9 41 := ⟨RX9, TX9, 47, rfl, by decide, gX9, w_1001⟩
theorem f_X9_95 : LkF RX9 95 9 43 := ⟨RX9, TX9, 47, rfl, by decide, gX9, w_1003⟩
theorem f_X9_98 : LkF RX9 98 9 45 := ⟨RX9, TX9, 47, rfl, by decide, gX9, w_1005⟩
theorem f_X9_101 : LkF RX9 101 9 1 := ⟨RX9, TX9, 47, rfl, by decide, gX9, w_961⟩
theorem f_X9_113 : LkF RX9 113 9 17 := ⟨RX9, TX9, 47, rfl, by decide, gX9, w_977⟩
theorem f_X9_119 : LkF RX9 119 9 0 := ⟨RX9, TX9, 47, rfl, by decide, gX9, w_960⟩
theorem f_X9_140 : LkF RX9 140 9 8 := ⟨RX9, TX9, 47, rfl, by decide, gX9, w_968⟩
theorem f_X9_168 : LkF RX9 168 9 29 := ⟨RX9, TX9, 47, rfl, by decide, gX9, w_989⟩
theorem f_X9_173 : LkF RX9 173 9 32 := ⟨RX9, TX9, 47, rfl, by decide, gX9, w_992⟩
theorem f_X9_176 : LkF RX9 176 9 31 := ⟨RX9, TX9, 47, rfl, by decide, gX9, w_991⟩
theorem f_X9_185 : LkF RX9 185 9 33 := ⟨RX9, TX9, 47, rfl, by decide, gX9, w_993⟩
theorem f_X9_222 : LkF RX9 222 9 36 := ⟨RX9, TX9, 47, rfl, by decide, gX9, w_996⟩
theorem f_X9_225 : LkF RX9 225 9 37 := ⟨RX9, TX9, 47, rfl, by decide, gX9, w_997⟩
theorem f_X9_231 : LkF RX9 231 9 34 := ⟨RX9, TX9, 47, rfl, by decide, gX9, w_994⟩
theorem f_X9_240 : LkF RX9 240 9 35 := ⟨RX9, TX9, 47, rfl, by decide, gX9, w_995⟩
theorem f_X9_325 : LkF RX9 325 9 46 := ⟨RX9, TX9, 47, rfl, by decide, gX9, w_1006⟩
theorem f_X9_337 : LkF RX9 337 9 39 := ⟨RX9, TX9, 47, rfl, by decide, gX9, w_999⟩
theorem f_X9_340 : LkF RX9 340 9 42 := ⟨RX9, TX9, 47, rfl, by decide, gX9, w_1002⟩
theorem f_X9_343 : LkF RX9 343 9 40 := ⟨RX9, TX9, 47, rfl, by decide, gX9, w_1000⟩
theorem f_X9_347 : LkF RX9 347 9 44 := ⟨RX9, TX9, 47, rfl, by decide, gX9, w_1004⟩
theorem pf_X0_9 : LkP RX0 9 0 0 .int := ⟨RX0, TX0, 2, tyX0, rfl, by decide, gX0, w_248, rfl, tyX0_ok, nmX0, by decide +kernel⟩
theorem pf_X2_30 : LkP RX2 30 2 6 .int := ⟨RX2, TX2, 10, tyX2, rfl, by decide, gX2, w_125, rfl, tyX2_ok, nmX2, by decide +kernel⟩
theorem pf_X2_34 : LkP RX2 34 2 7 .int := ⟨RX2, TX2, 10, tyX2, rfl, by decide, gX2, w_127, rfl, tyX2_ok, nmX2, by decide +kernel⟩
theorem pf_X2_37 : LkP RX2 37 2 8 .int := ⟨RX2, TX2, 10, tyX2, rfl, by decide, gX2, w_128, rfl, tyX2_ok, nmX2, by decide +kernel⟩
theorem pf_X2_40 : LkP RX2 40 2 9 .int := ⟨RX2, TX2, 10, tyX2, rfl, by decide, gX2, w_129, rfl, tyX2_ok, nmX2, by decide +kernel⟩
theorem pf_X3_36 : LkP RX3 36 3 8 .int := ⟨RX3, TX3, 9, tyX3, rfl, by decide, gX3, w_219, rfl, tyX3_ok, nmX3, by decide +kernel⟩
theorem pf_X4_21 : LkP RX4 21 4 3 .int := ⟨RX4, TX4, 10, tyX4, rfl, by decide, gX4, w_339, rfl, tyX4_ok, nmX4, by decide +kernel⟩
theorem pf_X4_25 : LkP RX4 25 4 4 .int := ⟨RX4, TX4, 10, tyX4, rfl, by decide, gX4, w_341, rfl, tyX4_ok, nmX4, by decide +kernel⟩
theorem pf_X4_28 : LkP RX4 28 4 5 .int := ⟨RX4, TX4, 10, tyX4, rfl, by decide, gX4, w_342, rfl, tyX4_ok, nmX4, by decide +kernel⟩
theorem pf_X4_31 : LkP RX4 31 4 6 .boolean := ⟨RX4, TX4, 10, tyX4, rfl, by decide, gX4, w_344, rfl, tyX4_ok, nmX4, by decide +kernel⟩
theorem pf_X6_30 : LkP RX6 30 6 6 .int := ⟨RX6, TX6, 7, tyX6, rfl, by decide, gX6, w_172, rfl, tyX6_ok, nmX6, by decide +kernel⟩
theorem pf_X7_15 : LkP RX7 15 7 1 .int := ⟨RX7, TX7, 9, tyX7, rfl, by decide, gX7, w_281, rfl, tyX7_ok, nmX7, by decide +kernel⟩
theorem pf_X7_19 : LkP RX7 19 7 2 .int := ⟨RX7, TX7, 9, tyX7, rfl, by decide, gX7, w_283, rfl, tyX7_ok, nmX7, by decide +kernel⟩
theorem pf_X7_22 : LkP RX7 22 7 3 .int := ⟨RX7, TX7, 9, tyX7, rfl, by decide, gX7, w_285, rfl, tyX7_ok, nmX7, by decide +kernel⟩
theorem pf_X7_25 : LkP RX7 25 7 4 .int := ⟨RX7, TX7, 9, tyX7, rfl, by decide, gX7, w_287, rfl, tyX7_ok, nmX7, by decide +kernel⟩
theorem pf_X7_28 : LkP RX7 28 7 5 .int := ⟨RX7, TX7, 9, tyX7, rfl, by decide, gX7, w_289, rfl, tyX7_ok, nmX7, by decide +kernel⟩
theorem pf_X7_31 : LkP RX7 31 7 6 .int := ⟨RX7, TX7, 9, tyX7, rfl, by decide, gX7, w_291, rfl, tyX7_ok, nmX7, by decide +kernel⟩
theorem pf_X7_34 : LkP RX7 34 7 7 .int := ⟨RX7, TX7, 9, tyX7, rfl, by decide, gX7, w_292, rfl, tyX7_ok, nmX7, by decide +kernel⟩
theorem pf_X7_37 : LkP RX7 37 7 8 .int := ⟨RX7, TX7, 9, tyX7, rfl, by decide, gX7, w_293, rfl, tyX7_ok, nmX7, by decide +kernel⟩
theorem pf_X8_57 : LkP RX8 57 8 8 .int := ⟨RX8, TX8, 9, tyX8, rfl, by decide, gX8, w_378, rfl, tyX8_ok, nmX8, by decide +kernel⟩
theorem pf_X8_288 : LkP RX8 288 4 5 .int := ⟨RX4, TX4, 10, tyX4, rfl, by decide, gX4, w_343, rfl, tyX4_ok, nmX4, by decide +kernel⟩
theorem pf_X9_101 : LkP RX9 101 9 1 .int := ⟨RX9, TX9, 47, tyX9, rfl, by decide, gX9, w_961, rfl, tyX9_ok, nmX9, by decide +kernel⟩
theorem pf_X9_113 : LkP RX9 113 9 17 .int := ⟨RX9, TX9, 47, tyX9, rfl, by decide, gX9, w_977, rfl, tyX9_ok, nmX9, by decide +kernel⟩
theorem pf_X9_119 : LkP RX9 119 9 0 .int := ⟨RX9, TX9, 47, tyX9, rfl, by decide, gX9, w_960, rfl, tyX9_ok, nmX9, by decide +kernel⟩
theorem pf_X9_140 : LkP RX9 140 9 8 .int := ⟨RX9, TX9, 47, tyX9, rfl, by decide, gX9, w_968, rfl, tyX9_ok, nmX9, by decide +kernel⟩
theorem pf_X9_168 : LkP RX9 168 9 29 .int := ⟨RX9, TX9, 47, tyX9, rfl, by decide, gX9, w_989, rfl, tyX9_ok, nmX9, by decide +kernel⟩
theorem pf_X9_173 : LkP RX9 173 9 32 .int := ⟨RX9, TX9, 47, tyX9, rfl, by decide, gX9, w_992, rfl, tyX9_ok, nmX9, by decide +kernel⟩
theorem pf_X9_176 : LkP RX9 176 9 31 .int := ⟨RX9, TX9, 47, tyX9, rfl, by decide, gX9, w_991, rfl, tyX9_ok, nmX9, by decide +kernel⟩
theorem pf_X9_185 : LkP RX9 185 9 33 .int := ⟨RX9, TX9, 47, tyX9, rfl, by decide, gX9, w_993, rfl, tyX9_ok, nmX9, by decide +kernel⟩
theorem pf_X9_222 : LkP RX9 222 9 36 .int := ⟨RX9, TX9, 47, tyX9, rfl, by decide, gX9, w_996, rfl, tyX9_ok, nmX9, by decide +kernel⟩
theorem pf_X9_225 : LkP RX9 225 9 37 .int := ⟨RX9, TX9, 47, tyX9, rfl, by decide, gX9, w_997, rfl, tyX9_ok, nmX9, by decide +kernel⟩
theorem pf_X9_231 : LkP RX9 231 9 34 .int := ⟨RX9, TX9, 47, tyX9, rfl, by decide, gX9, w_994, rfl, tyX9_ok, nmX9, by decide +kernel⟩
theorem pf_X9_240 : LkP RX9 240 9 35 .int := ⟨RX9, TX9, 47, tyX9, rfl, by decide, gX9, w_995, rfl, tyX9_ok, nmX9, by decide +kernel⟩
theorem pf_X9_325 : LkP RX9 325 9 46 .int := ⟨RX9, TX9, 47, tyX9, rfl, by decide, gX9, w_1006, rfl, tyX9_ok, nmX9, by decide +kernel⟩
theorem pf_X9_337 : LkP RX9 337 9 39 .int := ⟨RX9, TX9, 47, tyX9, rfl, by decide, gX9, w_999, rfl, tyX9_ok, nmX9, by decide +kernel⟩
theorem pf_X9_340 : LkP RX9 340 9 42 .int := ⟨RX9, TX9, 47, tyX9, rfl, by decide, gX9, w_1002, rfl, tyX9_ok, nmX9, by decide +kernel⟩
theorem pf_X9_343 : LkP RX9 343 9 40 .boolean := ⟨RX9, TX9, 47, tyX9, rfl, by decide, gX9, w_1000, rfl, tyX9_ok, nmX9, by decide +kernel⟩
theorem pf_X9_347 : LkP RX9 347 9 44 .int := ⟨RX9, TX9, 47, tyX9, rfl, by decide, gX9, w_1004, rfl, tyX9_ok, nmX9, by decide +kernel⟩
theorem lm_min : ∀ w ∈ ([Cond.methodLink RX4 83 Lib.Math.min.name, Cond.static Lib.Math.min.name, Cond.initialized "java/lang/Math", Cond.code Lib.Math.min.name Lib.Math.min.code 2 (some .int)] : List Cond), w ∈ lw_g := (List.forall_mem_cons.mpr ⟨w_902, (List.forall_mem_cons.mpr ⟨w_903, (List.forall_mem_cons.mpr ⟨w_93, (List.forall_mem_cons.mpr ⟨w_904, (fun _ h => absurd h List.not_mem_nil)⟩)⟩)⟩)⟩)
theorem lm_cpy : ∀ w ∈ ([Cond.methodLink RX4 56 arraycopyName, Cond.native arraycopyName, Cond.static arraycopyName, Cond.initialized "java/lang/System"] : List Cond), w ∈ lw_g := (List.forall_mem_cons.mpr ⟨w_917, (List.forall_mem_cons.mpr ⟨w_919, (List.forall_mem_cons.mpr ⟨w_918, (List.forall_mem_cons.mpr ⟨w_94, (fun _ h => absurd h List.not_mem_nil)⟩)⟩)⟩)⟩)
theorem lv_J0_335 : LkV RJ0 335 yJ0_coder_7d493 cJ0_coder_7d493 1 (some .byte) 0 := ⟨(List.forall_mem_cons.mpr ⟨w_561, (List.forall_mem_cons.mpr ⟨w_562, (List.forall_mem_cons.mpr ⟨w_563, (List.forall_mem_cons.mpr ⟨w_88, (List.forall_mem_cons.mpr ⟨w_564, (fun _ h => absurd h List.not_mem_nil)⟩)⟩)⟩)⟩)⟩), by decide +kernel⟩
theorem lv_J0_492 : LkV RJ0 492 yJ0_isLatin1_aae02 cJ0_isLatin1_aae02 1 (some .boolean) 0 := ⟨(List.forall_mem_cons.mpr ⟨w_571, (List.forall_mem_cons.mpr ⟨w_572, (List.forall_mem_cons.mpr ⟨w_573, (List.forall_mem_cons.mpr ⟨w_88, (List.forall_mem_cons.mpr ⟨w_574, (fun _ h => absurd h List.not_mem_nil)⟩)⟩)⟩)⟩)⟩), by decide +kernel⟩
theorem lv_X0_23 : LkV RX0 23 yX0_insideFor cX0_insideFor 4 (some .int) 1 := ⟨(List.forall_mem_cons.mpr ⟨w_827, (List.forall_mem_cons.mpr ⟨w_732, (List.forall_mem_cons.mpr ⟨w_733, (List.forall_mem_cons.mpr ⟨w_83, (List.forall_mem_cons.mpr ⟨w_734, (fun _ h => absurd h List.not_mem_nil)⟩)⟩)⟩)⟩)⟩), by decide +kernel⟩
theorem lv_X0_27 : LkV RX0 27 yX0_allInside cX0_allInside 1 (some .int) 0 := ⟨(List.forall_mem_cons.mpr ⟨w_823, (List.forall_mem_cons.mpr ⟨w_824, (List.forall_mem_cons.mpr ⟨w_825, (List.forall_mem_cons.mpr ⟨w_83, (List.forall_mem_cons.mpr ⟨w_826, (fun _ h => absurd h List.not_mem_nil)⟩)⟩)⟩)⟩)⟩), by decide +kernel⟩
theorem lv_X2_43 : LkV RX2 43 yX2_has cX2_has 2 (some .boolean) 1 := ⟨(List.forall_mem_cons.mpr ⟨w_449, (List.forall_mem_cons.mpr ⟨w_414, (List.forall_mem_cons.mpr ⟨w_415, (List.forall_mem_cons.mpr ⟨w_80, (List.forall_mem_cons.mpr ⟨w_416, (fun _ h => absurd h List.not_mem_nil)⟩)⟩)⟩)⟩)⟩), by decide +kernel⟩
theorem lv_X2_47 : LkV RX2 47 yX2_spread cX2_spread 7 (some .int) 2 := ⟨(List.forall_mem_cons.mpr ⟨w_474, (List.forall_mem_cons.mpr ⟨w_475, (List.forall_mem_cons.mpr ⟨w_476, (List.forall_mem_cons.mpr ⟨w_80, (List.forall_mem_cons.mpr ⟨w_477, (fun _ h => absurd h List.not_mem_nil)⟩)⟩)⟩)⟩)⟩), by decide +kernel⟩
theorem lv_X2_51 : LkV RX2 51 yX2_sourcesOf cX2_sourcesOf 4 (some .int) 1 := ⟨(List.forall_mem_cons.mpr ⟨w_478, (List.forall_mem_cons.mpr ⟨w_479, (List.forall_mem_cons.mpr ⟨w_480, (List.forall_mem_cons.mpr ⟨w_80, (List.forall_mem_cons.mpr ⟨w_481, (fun _ h => absurd h List.not_mem_nil)⟩)⟩)⟩)⟩)⟩), by decide +kernel⟩
theorem lv_X2_55 : LkV RX2 55 yX2_stepOver cX2_stepOver 5 (some .int) 2 := ⟨(List.forall_mem_cons.mpr ⟨w_482, (List.forall_mem_cons.mpr ⟨w_483, (List.forall_mem_cons.mpr ⟨w_484, (List.forall_mem_cons.mpr ⟨w_80, (List.forall_mem_cons.mpr ⟨w_485, (fun _ h => absurd h List.not_mem_nil)⟩)⟩)⟩)⟩)⟩), by decide +kernel⟩
theorem lv_X2_58 : LkV RX2 58 yX2_allPipes cX2_allPipes 1 (some .int) 0 := ⟨(List.forall_mem_cons.mpr ⟨w_494, (List.forall_mem_cons.mpr ⟨w_459, (List.forall_mem_cons.mpr ⟨w_460, (List.forall_mem_cons.mpr ⟨w_80, (List.forall_mem_cons.mpr ⟨w_461, (fun _ h => absurd h List.not_mem_nil)⟩)⟩)⟩)⟩)⟩), by decide +kernel⟩
theorem lv_X2_67 : LkV RX2 67 yX2_isSafe cX2_isSafe 8 (some .boolean) 4 := ⟨(List.forall_mem_cons.mpr ⟨w_845, (List.forall_mem_cons.mpr ⟨w_471, (List.forall_mem_cons.mpr ⟨w_472, (List.forall_mem_cons.mpr ⟨w_80, (List.forall_mem_cons.mpr ⟨w_473, (fun _ h => absurd h List.not_mem_nil)⟩)⟩)⟩)⟩)⟩), by decide +kernel⟩
theorem lv_X2_71 : LkV RX2 71 yX2_allFittings cX2_allFittings 1 (some .int) 0 := ⟨(List.forall_mem_cons.mpr ⟨w_846, (List.forall_mem_cons.mpr ⟨w_657, (List.forall_mem_cons.mpr ⟨w_658, (List.forall_mem_cons.mpr ⟨w_80, (List.forall_mem_cons.mpr ⟨w_659, (fun _ h => absurd h List.not_mem_nil)⟩)⟩)⟩)⟩)⟩), by decide +kernel⟩
theorem lv_X2_74 : LkV RX2 74 yX2_thinned cX2_thinned 6 (some .int) 2 := ⟨(List.forall_mem_cons.mpr ⟨w_847, (List.forall_mem_cons.mpr ⟨w_849, (List.forall_mem_cons.mpr ⟨w_20, (List.forall_mem_cons.mpr ⟨w_80, (List.forall_mem_cons.mpr ⟨w_850, (fun _ h => absurd h List.not_mem_nil)⟩)⟩)⟩)⟩)⟩), by decide +kernel⟩
theorem lv_X2_81 : LkV RX2 81 yX2_hoursOf cX2_hoursOf 2 (some .int) 1 := ⟨(List.forall_mem_cons.mpr ⟨w_854, (List.forall_mem_cons.mpr ⟨w_855, (List.forall_mem_cons.mpr ⟨w_856, (List.forall_mem_cons.mpr ⟨w_80, (List.forall_mem_cons.mpr ⟨w_857, (fun _ h => absurd h List.not_mem_nil)⟩)⟩)⟩)⟩)⟩), by decide +kernel⟩
theorem lv_X2_84 : LkV RX2 84 yX2_isBetter cX2_isBetter 5 (some .boolean) 2 := ⟨(List.forall_mem_cons.mpr ⟨w_859, (List.forall_mem_cons.mpr ⟨w_861, (List.forall_mem_cons.mpr ⟨w_21, (List.forall_mem_cons.mpr ⟨w_80, (List.forall_mem_cons.mpr ⟨w_862, (fun _ h => absurd h List.not_mem_nil)⟩)⟩)⟩)⟩)⟩), by decide +kernel⟩
theorem lv_X3_40 : LkV RX3 40 yX3_locksOf cX3_locksOf 2 (some .int) 1 := ⟨(List.forall_mem_cons.mpr ⟨w_425, (List.forall_mem_cons.mpr ⟨w_427, (List.forall_mem_cons.mpr ⟨w_0, (List.forall_mem_cons.mpr ⟨w_82, (List.forall_mem_cons.mpr ⟨w_428, (fun _ h => absurd h List.not_mem_nil)⟩)⟩)⟩)⟩)⟩), by decide +kernel⟩
theorem lv_X3_49 : LkV RX3 49 yX3_endLive cX3_endLive 3 none 2 := ⟨(List.forall_mem_cons.mpr ⟨w_832, (List.forall_mem_cons.mpr ⟨w_774, (List.forall_mem_cons.mpr ⟨w_775, (List.forall_mem_cons.mpr ⟨w_82, (List.forall_mem_cons.mpr ⟨w_776, (fun _ h => absurd h List.not_mem_nil)⟩)⟩)⟩)⟩)⟩), by decide +kernel⟩
theorem lv_X4_44 : LkV RX4 44 yX4_gatherWorks cX4_gatherWorks 4 none 2 := ⟨(List.forall_mem_cons.mpr ⟨w_889, (List.forall_mem_cons.mpr ⟨w_891, (List.forall_mem_cons.mpr ⟨w_23, (List.forall_mem_cons.mpr ⟨w_86, (List.forall_mem_cons.mpr ⟨w_892, (fun _ h => absurd h List.not_mem_nil)⟩)⟩)⟩)⟩)⟩), by decide +kernel⟩
theorem lv_X4_48 : LkV RX4 48 yX4_fewestLeft cX4_fewestLeft 5 (some .int) 2 := ⟨(List.forall_mem_cons.mpr ⟨w_893, (List.forall_mem_cons.mpr ⟨w_895, (List.forall_mem_cons.mpr ⟨w_24, (List.forall_mem_cons.mpr ⟨w_86, (List.forall_mem_cons.mpr ⟨w_896, (fun _ h => absurd h List.not_mem_nil)⟩)⟩)⟩)⟩)⟩), by decide +kernel⟩
theorem lv_X4_52 : LkV RX4 52 yX4_layOrder cX4_layOrder 7 (some .int) 0 := ⟨(List.forall_mem_cons.mpr ⟨w_905, (List.forall_mem_cons.mpr ⟨w_907, (List.forall_mem_cons.mpr ⟨w_26, (List.forall_mem_cons.mpr ⟨w_86, (List.forall_mem_cons.mpr ⟨w_908, (fun _ h => absurd h List.not_mem_nil)⟩)⟩)⟩)⟩)⟩), by decide +kernel⟩
theorem lv_X4_79 : LkV RX4 79 yX4_movesThrough cX4_movesThrough 5 (some .int) 3 := ⟨(List.forall_mem_cons.mpr ⟨w_898, (List.forall_mem_cons.mpr ⟨w_900, (List.forall_mem_cons.mpr ⟨w_25, (List.forall_mem_cons.mpr ⟨w_86, (List.forall_mem_cons.mpr ⟨w_901, (fun _ h => absurd h List.not_mem_nil)⟩)⟩)⟩)⟩)⟩), by decide +kernel⟩
theorem lv_X4_88 : LkV RX4 88 yX4_bestWork cX4_bestWork 9 (some .int) 4 := ⟨(List.forall_mem_cons.mpr ⟨w_909, (List.forall_mem_cons.mpr ⟨w_911, (List.forall_mem_cons.mpr ⟨w_27, (List.forall_mem_cons.mpr ⟨w_86, (List.forall_mem_cons.mpr ⟨w_912, (fun _ h => absurd h List.not_mem_nil)⟩)⟩)⟩)⟩)⟩), by decide +kernel⟩
theorem lv_X4_92 : LkV RX4 92 yX4_addRow cX4_addRow 4 none 3 := ⟨(List.forall_mem_cons.mpr ⟨w_913, (List.forall_mem_cons.mpr ⟨w_915, (List.forall_mem_cons.mpr ⟨w_28, (List.forall_mem_cons.mpr ⟨w_86, (List.forall_mem_cons.mpr ⟨w_916, (fun _ h => absurd h List.not_mem_nil)⟩)⟩)⟩)⟩)⟩), by decide +kernel⟩
theorem lv_X5_43 : LkV RX5 43 yX3_lockedPipes cX3_lockedPipes 3 (some .int) 0 := ⟨(List.forall_mem_cons.mpr ⟨w_421, (List.forall_mem_cons.mpr ⟨w_422, (List.forall_mem_cons.mpr ⟨w_423, (List.forall_mem_cons.mpr ⟨w_82, (List.forall_mem_cons.mpr ⟨w_424, (fun _ h => absurd h List.not_mem_nil)⟩)⟩)⟩)⟩)⟩), by decide +kernel⟩
theorem lv_X5_54 : LkV RX5 54 yX5_barOfStart cX5_barOfStart 3 (some .int) 2 := ⟨(List.forall_mem_cons.mpr ⟨w_694, (List.forall_mem_cons.mpr ⟨w_696, (List.forall_mem_cons.mpr ⟨w_13, (List.forall_mem_cons.mpr ⟨w_79, (List.forall_mem_cons.mpr ⟨w_697, (fun _ h => absurd h List.not_mem_nil)⟩)⟩)⟩)⟩)⟩), by decide +kernel⟩
theorem lv_X5_58 : LkV RX5 58 yX0_insideFor cX0_insideFor 4 (some .int) 1 := ⟨(List.forall_mem_cons.mpr ⟨w_731, (List.forall_mem_cons.mpr ⟨w_732, (List.forall_mem_cons.mpr ⟨w_733, (List.forall_mem_cons.mpr ⟨w_83, (List.forall_mem_cons.mpr ⟨w_734, (fun _ h => absurd h List.not_mem_nil)⟩)⟩)⟩)⟩)⟩), by decide +kernel⟩
theorem lv_X5_62 : LkV RX5 62 yX5_barOfBack cX5_barOfBack 3 (some .int) 2 := ⟨(List.forall_mem_cons.mpr ⟨w_735, (List.forall_mem_cons.mpr ⟨w_737, (List.forall_mem_cons.mpr ⟨w_16, (List.forall_mem_cons.mpr ⟨w_79, (List.forall_mem_cons.mpr ⟨w_738, (fun _ h => absurd h List.not_mem_nil)⟩)⟩)⟩)⟩)⟩), by decide +kernel⟩
theorem lv_X5_65 : LkV RX5 65 yX5_barOfEnter cX5_barOfEnter 3 (some .int) 2 := ⟨(List.forall_mem_cons.mpr ⟨w_743, (List.forall_mem_cons.mpr ⟨w_745, (List.forall_mem_cons.mpr ⟨w_18, (List.forall_mem_cons.mpr ⟨w_79, (List.forall_mem_cons.mpr ⟨w_746, (fun _ h => absurd h List.not_mem_nil)⟩)⟩)⟩)⟩)⟩), by decide +kernel⟩
theorem lv_X5_71 : LkV RX5 71 yX5_closedNow cX5_closedNow 1 (some .int) 0 := ⟨(List.forall_mem_cons.mpr ⟨w_698, (List.forall_mem_cons.mpr ⟨w_418, (List.forall_mem_cons.mpr ⟨w_419, (List.forall_mem_cons.mpr ⟨w_79, (List.forall_mem_cons.mpr ⟨w_420, (fun _ h => absurd h List.not_mem_nil)⟩)⟩)⟩)⟩)⟩), by decide +kernel⟩
theorem lv_X5_74 : LkV RX5 74 yX2_allPipes cX2_allPipes 1 (some .int) 0 := ⟨(List.forall_mem_cons.mpr ⟨w_699, (List.forall_mem_cons.mpr ⟨w_459, (List.forall_mem_cons.mpr ⟨w_460, (List.forall_mem_cons.mpr ⟨w_80, (List.forall_mem_cons.mpr ⟨w_461, (fun _ h => absurd h List.not_mem_nil)⟩)⟩)⟩)⟩)⟩), by decide +kernel⟩
theorem lv_X5_77 : LkV RX5 77 yX6_doubledAt cX6_doubledAt 4 (some .int) 1 := ⟨(List.forall_mem_cons.mpr ⟨w_700, (List.forall_mem_cons.mpr ⟨w_463, (List.forall_mem_cons.mpr ⟨w_464, (List.forall_mem_cons.mpr ⟨w_81, (List.forall_mem_cons.mpr ⟨w_465, (fun _ h => absurd h List.not_mem_nil)⟩)⟩)⟩)⟩)⟩), by decide +kernel⟩
theorem lv_X5_80 : LkV RX5 80 yX2_isSafe cX2_isSafe 8 (some .boolean) 4 := ⟨(List.forall_mem_cons.mpr ⟨w_701, (List.forall_mem_cons.mpr ⟨w_471, (List.forall_mem_cons.mpr ⟨w_472, (List.forall_mem_cons.mpr ⟨w_80, (List.forall_mem_cons.mpr ⟨w_473, (fun _ h => absurd h List.not_mem_nil)⟩)⟩)⟩)⟩)⟩), by decide +kernel⟩
theorem lv_X5_84 : LkV RX5 84 yX5_lacksTest cX5_lacksTest 5 (some .boolean) 2 := ⟨(List.forall_mem_cons.mpr ⟨w_702, (List.forall_mem_cons.mpr ⟨w_704, (List.forall_mem_cons.mpr ⟨w_14, (List.forall_mem_cons.mpr ⟨w_79, (List.forall_mem_cons.mpr ⟨w_705, (fun _ h => absurd h List.not_mem_nil)⟩)⟩)⟩)⟩)⟩), by decide +kernel⟩
theorem lv_X5_88 : LkV RX5 88 yX5_quarrelOf cX5_quarrelOf 5 (some .int) 2 := ⟨(List.forall_mem_cons.mpr ⟨w_714, (List.forall_mem_cons.mpr ⟨w_715, (List.forall_mem_cons.mpr ⟨w_716, (List.forall_mem_cons.mpr ⟨w_79, (List.forall_mem_cons.mpr ⟨w_717, (fun _ h => absurd h List.not_mem_nil)⟩)⟩)⟩)⟩)⟩), by decide +kernel⟩
theorem lv_X5_91 : LkV RX5 91 yX5_isOffHours cX5_isOffHours 5 (some .boolean) 2 := ⟨(List.forall_mem_cons.mpr ⟨w_723, (List.forall_mem_cons.mpr ⟨w_725, (List.forall_mem_cons.mpr ⟨w_15, (List.forall_mem_cons.mpr ⟨w_79, (List.forall_mem_cons.mpr ⟨w_726, (fun _ h => absurd h List.not_mem_nil)⟩)⟩)⟩)⟩)⟩), by decide +kernel⟩
theorem lv_X5_97 : LkV RX5 97 yX0_isOn cX0_isOn 2 (some .boolean) 1 := ⟨(List.forall_mem_cons.mpr ⟨w_730, (List.forall_mem_cons.mpr ⟨w_676, (List.forall_mem_cons.mpr ⟨w_677, (List.forall_mem_cons.mpr ⟨w_83, (List.forall_mem_cons.mpr ⟨w_678, (fun _ h => absurd h List.not_mem_nil)⟩)⟩)⟩)⟩)⟩), by decide +kernel⟩
theorem lv_X5_101 : LkV RX5 101 yX5_isWatched cX5_isWatched 5 (some .boolean) 2 := ⟨(List.forall_mem_cons.mpr ⟨w_739, (List.forall_mem_cons.mpr ⟨w_741, (List.forall_mem_cons.mpr ⟨w_17, (List.forall_mem_cons.mpr ⟨w_79, (List.forall_mem_cons.mpr ⟨w_742, (fun _ h => absurd h List.not_mem_nil)⟩)⟩)⟩)⟩)⟩), by decide +kernel⟩
theorem lv_X5_104 : LkV RX5 104 yX5_isCrowded cX5_isCrowded 5 (some .boolean) 2 := ⟨(List.forall_mem_cons.mpr ⟨w_747, (List.forall_mem_cons.mpr ⟨w_749, (List.forall_mem_cons.mpr ⟨w_19, (List.forall_mem_cons.mpr ⟨w_79, (List.forall_mem_cons.mpr ⟨w_750, (fun _ h => absurd h List.not_mem_nil)⟩)⟩)⟩)⟩)⟩), by decide +kernel⟩
theorem lv_X5_113 : LkV RX5 113 yX6_speaksOf cX6_speaksOf 5 (some .boolean) 4 := ⟨(List.forall_mem_cons.mpr ⟨w_706, (List.forall_mem_cons.mpr ⟨w_707, (List.forall_mem_cons.mpr ⟨w_708, (List.forall_mem_cons.mpr ⟨w_81, (List.forall_mem_cons.mpr ⟨w_709, (fun _ h => absurd h List.not_mem_nil)⟩)⟩)⟩)⟩)⟩), by decide +kernel⟩
theorem lv_X5_119 : LkV RX5 119 yX3_hasGoodTest cX3_hasGoodTest 4 (some .boolean) 3 := ⟨(List.forall_mem_cons.mpr ⟨w_710, (List.forall_mem_cons.mpr ⟨w_711, (List.forall_mem_cons.mpr ⟨w_712, (List.forall_mem_cons.mpr ⟨w_82, (List.forall_mem_cons.mpr ⟨w_713, (fun _ h => absurd h List.not_mem_nil)⟩)⟩)⟩)⟩)⟩), by decide +kernel⟩
theorem lv_X5_124 : LkV RX5 124 yX2_pipesApart cX2_pipesApart 5 (some .int) 2 := ⟨(List.forall_mem_cons.mpr ⟨w_718, (List.forall_mem_cons.mpr ⟨w_500, (List.forall_mem_cons.mpr ⟨w_501, (List.forall_mem_cons.mpr ⟨w_80, (List.forall_mem_cons.mpr ⟨w_502, (fun _ h => absurd h List.not_mem_nil)⟩)⟩)⟩)⟩)⟩), by decide +kernel⟩
theorem lv_X5_127 : LkV RX5 127 yX6_barsBoth cX6_barsBoth 7 (some .boolean) 4 := ⟨(List.forall_mem_cons.mpr ⟨w_719, (List.forall_mem_cons.mpr ⟨w_720, (List.forall_mem_cons.mpr ⟨w_721, (List.forall_mem_cons.mpr ⟨w_81, (List.forall_mem_cons.mpr ⟨w_722, (fun _ h => absurd h List.not_mem_nil)⟩)⟩)⟩)⟩)⟩), by decide +kernel⟩
theorem lv_X6_44 : LkV RX6 44 yX6_inForce cX6_inForce 3 (some .boolean) 2 := ⟨(List.forall_mem_cons.mpr ⟨w_466, (List.forall_mem_cons.mpr ⟨w_467, (List.forall_mem_cons.mpr ⟨w_468, (List.forall_mem_cons.mpr ⟨w_81, (List.forall_mem_cons.mpr ⟨w_469, (fun _ h => absurd h List.not_mem_nil)⟩)⟩)⟩)⟩)⟩), by decide +kernel⟩
theorem lv_X7_44 : LkV RX7 44 yX7_readOneOf cX7_readOneOf 3 (some .int) 1 := ⟨(List.forall_mem_cons.mpr ⟨w_533, (List.forall_mem_cons.mpr ⟨w_535, (List.forall_mem_cons.mpr ⟨w_1, (List.forall_mem_cons.mpr ⟨w_84, (List.forall_mem_cons.mpr ⟨w_536, (fun _ h => absurd h List.not_mem_nil)⟩)⟩)⟩)⟩)⟩), by decide +kernel⟩
theorem lv_X7_52 : LkV RX7 52 yX7_readRest cX7_readRest 1 none 0 := ⟨(List.forall_mem_cons.mpr ⟨w_611, (List.forall_mem_cons.mpr ⟨w_613, (List.forall_mem_cons.mpr ⟨w_8, (List.forall_mem_cons.mpr ⟨w_84, (List.forall_mem_cons.mpr ⟨w_614, (fun _ h => absurd h List.not_mem_nil)⟩)⟩)⟩)⟩)⟩), by decide +kernel⟩
theorem lv_X7_55 : LkV RX7 55 yX7_readEnd cX7_readEnd 1 none 0 := ⟨(List.forall_mem_cons.mpr ⟨w_626, (List.forall_mem_cons.mpr ⟨w_628, (List.forall_mem_cons.mpr ⟨w_11, (List.forall_mem_cons.mpr ⟨w_84, (List.forall_mem_cons.mpr ⟨w_629, (fun _ h => absurd h List.not_mem_nil)⟩)⟩)⟩)⟩)⟩), by decide +kernel⟩
theorem lv_X7_60 : LkV RX7 60 yX7_readNumber cX7_readNumber 4 (some .int) 2 := ⟨(List.forall_mem_cons.mpr ⟨w_616, (List.forall_mem_cons.mpr ⟨w_618, (List.forall_mem_cons.mpr ⟨w_9, (List.forall_mem_cons.mpr ⟨w_84, (List.forall_mem_cons.mpr ⟨w_619, (fun _ h => absurd h List.not_mem_nil)⟩)⟩)⟩)⟩)⟩), by decide +kernel⟩
theorem lv_X7_68 : LkV RX7 68 yX7_findPiece cX7_findPiece 2 none 0 := ⟨(List.forall_mem_cons.mpr ⟨w_537, (List.forall_mem_cons.mpr ⟨w_539, (List.forall_mem_cons.mpr ⟨w_2, (List.forall_mem_cons.mpr ⟨w_84, (List.forall_mem_cons.mpr ⟨w_540, (fun _ h => absurd h List.not_mem_nil)⟩)⟩)⟩)⟩)⟩), by decide +kernel⟩
theorem lv_X7_71 : LkV RX7 71 yX7_blame cX7_blame 1 none 0 := ⟨(List.forall_mem_cons.mpr ⟨w_605, (List.forall_mem_cons.mpr ⟨w_607, (List.forall_mem_cons.mpr ⟨w_7, (List.forall_mem_cons.mpr ⟨w_84, (List.forall_mem_cons.mpr ⟨w_608, (fun _ h => absurd h List.not_mem_nil)⟩)⟩)⟩)⟩)⟩), by decide +kernel⟩
theorem lv_X7_74 : LkV RX7 74 yX7_isParted cX7_isParted 1 (some .boolean) 0 := ⟨(List.forall_mem_cons.mpr ⟨w_549, (List.forall_mem_cons.mpr ⟨w_551, (List.forall_mem_cons.mpr ⟨w_5, (List.forall_mem_cons.mpr ⟨w_84, (List.forall_mem_cons.mpr ⟨w_552, (fun _ h => absurd h List.not_mem_nil)⟩)⟩)⟩)⟩)⟩), by decide +kernel⟩
theorem lv_X7_78 : LkV RX7 78 yX7_placeAmong cX7_placeAmong 6 (some .int) 1 := ⟨(List.forall_mem_cons.mpr ⟨w_553, (List.forall_mem_cons.mpr ⟨w_555, (List.forall_mem_cons.mpr ⟨w_6, (List.forall_mem_cons.mpr ⟨w_84, (List.forall_mem_cons.mpr ⟨w_556, (fun _ h => absurd h List.not_mem_nil)⟩)⟩)⟩)⟩)⟩), by decide +kernel⟩
theorem lv_X7_81 : LkV RX7 81 yX7_numberOfPiece cX7_numberOfPiece 3 (some .int) 0 := ⟨(List.forall_mem_cons.mpr ⟨w_620, (List.forall_mem_cons.mpr ⟨w_622, (List.forall_mem_cons.mpr ⟨w_10, (List.forall_mem_cons.mpr ⟨w_84, (List.forall_mem_cons.mpr ⟨w_623, (fun _ h => absurd h List.not_mem_nil)⟩)⟩)⟩)⟩)⟩), by decide +kernel⟩
theorem lv_X7_85 : LkV RX7 85 yX7_isLetter cX7_isLetter 2 (some .boolean) 1 := ⟨(List.forall_mem_cons.mpr ⟨w_541, (List.forall_mem_cons.mpr ⟨w_543, (List.forall_mem_cons.mpr ⟨w_3, (List.forall_mem_cons.mpr ⟨w_84, (List.forall_mem_cons.mpr ⟨w_544, (fun _ h => absurd h List.not_mem_nil)⟩)⟩)⟩)⟩)⟩), by decide +kernel⟩
theorem lv_X7_89 : LkV RX7 89 yX7_isDigit cX7_isDigit 2 (some .boolean) 1 := ⟨(List.forall_mem_cons.mpr ⟨w_545, (List.forall_mem_cons.mpr ⟨w_547, (List.forall_mem_cons.mpr ⟨w_4, (List.forall_mem_cons.mpr ⟨w_84, (List.forall_mem_cons.mpr ⟨w_548, (fun _ h => absurd h List.not_mem_nil)⟩)⟩)⟩)⟩)⟩), by decide +kernel⟩
theorem lv_X7_92 : LkV RX7 92 yJ0_length_8abf5 cJ0_length_8abf5 1 (some .int) 0 := ⟨(List.forall_mem_cons.mpr ⟨w_557, (List.forall_mem_cons.mpr ⟨w_558, (List.forall_mem_cons.mpr ⟨w_559, (List.forall_mem_cons.mpr ⟨w_88, (List.forall_mem_cons.mpr ⟨w_560, (fun _ h => absurd h List.not_mem_nil)⟩)⟩)⟩)⟩)⟩), by decide +kernel⟩
theorem lv_X7_96 : LkV RX7 96 yJ0_charAt_5068e cJ0_charAt_5068e 2 (some .char) 1 := ⟨(List.forall_mem_cons.mpr ⟨w_567, (List.forall_mem_cons.mpr ⟨w_568, (List.forall_mem_cons.mpr ⟨w_569, (List.forall_mem_cons.mpr ⟨w_88, (List.forall_mem_cons.mpr ⟨w_570, (fun _ h => absurd h List.not_mem_nil)⟩)⟩)⟩)⟩)⟩), by decide +kernel⟩
theorem lv_X8_70 : LkV RX8 70 yX2_lay cX2_lay 6 (some .int) 4 := ⟨(List.forall_mem_cons.mpr ⟨w_405, (List.forall_mem_cons.mpr ⟨w_406, (List.forall_mem_cons.mpr ⟨w_407, (List.forall_mem_cons.mpr ⟨w_80, (List.forall_mem_cons.mpr ⟨w_408, (fun _ h => absurd h List.not_mem_nil)⟩)⟩)⟩)⟩)⟩), by decide +kernel⟩
theorem lv_X8_74 : LkV RX8 74 yX2_has cX2_has 2 (some .boolean) 1 := ⟨(List.forall_mem_cons.mpr ⟨w_413, (List.forall_mem_cons.mpr ⟨w_414, (List.forall_mem_cons.mpr ⟨w_415, (List.forall_mem_cons.mpr ⟨w_80, (List.forall_mem_cons.mpr ⟨w_416, (fun _ h => absurd h List.not_mem_nil)⟩)⟩)⟩)⟩)⟩), by decide +kernel⟩
theorem lv_X8_90 : LkV RX8 90 yX5_closedNow cX5_closedNow 1 (some .int) 0 := ⟨(List.forall_mem_cons.mpr ⟨w_417, (List.forall_mem_cons.mpr ⟨w_418, (List.forall_mem_cons.mpr ⟨w_419, (List.forall_mem_cons.mpr ⟨w_79, (List.forall_mem_cons.mpr ⟨w_420, (fun _ h => absurd h List.not_mem_nil)⟩)⟩)⟩)⟩)⟩), by decide +kernel⟩
theorem lv_X8_94 : LkV RX8 94 yX3_locksOn cX3_locksOn 4 (some .int) 1 := ⟨(List.forall_mem_cons.mpr ⟨w_429, (List.forall_mem_cons.mpr ⟨w_430, (List.forall_mem_cons.mpr ⟨w_431, (List.forall_mem_cons.mpr ⟨w_82, (List.forall_mem_cons.mpr ⟨w_432, (fun _ h => absurd h List.not_mem_nil)⟩)⟩)⟩)⟩)⟩), by decide +kernel⟩
theorem lv_X8_100 : LkV RX8 100 yX2_tellSource cX2_tellSource 5 (some .boolean) 3 := ⟨(List.forall_mem_cons.mpr ⟨w_437, (List.forall_mem_cons.mpr ⟨w_438, (List.forall_mem_cons.mpr ⟨w_439, (List.forall_mem_cons.mpr ⟨w_80, (List.forall_mem_cons.mpr ⟨w_440, (fun _ h => absurd h List.not_mem_nil)⟩)⟩)⟩)⟩)⟩), by decide +kernel⟩
theorem lv_X8_104 : LkV RX8 104 yX2_hasFitting cX2_hasFitting 2 (some .boolean) 1 := ⟨(List.forall_mem_cons.mpr ⟨w_445, (List.forall_mem_cons.mpr ⟨w_446, (List.forall_mem_cons.mpr ⟨w_447, (List.forall_mem_cons.mpr ⟨w_80, (List.forall_mem_cons.mpr ⟨w_448, (fun _ h => absurd h List.not_mem_nil)⟩)⟩)⟩)⟩)⟩), by decide +kernel⟩
theorem lv_X8_107 : LkV RX8 107 yX2_turnByHand cX2_turnByHand 4 (some .boolean) 2 := ⟨(List.forall_mem_cons.mpr ⟨w_450, (List.forall_mem_cons.mpr ⟨w_451, (List.forall_mem_cons.mpr ⟨w_452, (List.forall_mem_cons.mpr ⟨w_80, (List.forall_mem_cons.mpr ⟨w_453, (fun _ h => absurd h List.not_mem_nil)⟩)⟩)⟩)⟩)⟩), by decide +kernel⟩
theorem lv_X8_111 : LkV RX8 111 yX2_allPipes cX2_allPipes 1 (some .int) 0 := ⟨(List.forall_mem_cons.mpr ⟨w_458, (List.forall_mem_cons.mpr ⟨w_459, (List.forall_mem_cons.mpr ⟨w_460, (List.forall_mem_cons.mpr ⟨w_80, (List.forall_mem_cons.mpr ⟨w_461, (fun _ h => absurd h List.not_mem_nil)⟩)⟩)⟩)⟩)⟩), by decide +kernel⟩
theorem lv_X8_114 : LkV RX8 114 yX6_doubledAt cX6_doubledAt 4 (some .int) 1 := ⟨(List.forall_mem_cons.mpr ⟨w_462, (List.forall_mem_cons.mpr ⟨w_463, (List.forall_mem_cons.mpr ⟨w_464, (List.forall_mem_cons.mpr ⟨w_81, (List.forall_mem_cons.mpr ⟨w_465, (fun _ h => absurd h List.not_mem_nil)⟩)⟩)⟩)⟩)⟩), by decide +kernel⟩
theorem lv_X8_119 : LkV RX8 119 yX2_isSafe cX2_isSafe 8 (some .boolean) 4 := ⟨(List.forall_mem_cons.mpr ⟨w_470, (List.forall_mem_cons.mpr ⟨w_471, (List.forall_mem_cons.mpr ⟨w_472, (List.forall_mem_cons.mpr ⟨w_80, (List.forall_mem_cons.mpr ⟨w_473, (fun _ h => absurd h List.not_mem_nil)⟩)⟩)⟩)⟩)⟩), by decide +kernel⟩
theorem lv_X8_123 : LkV RX8 123 yX2_fewestBarriers cX2_fewestBarriers 9 (some .int) 3 := ⟨(List.forall_mem_cons.mpr ⟨w_490, (List.forall_mem_cons.mpr ⟨w_491, (List.forall_mem_cons.mpr ⟨w_492, (List.forall_mem_cons.mpr ⟨w_80, (List.forall_mem_cons.mpr ⟨w_493, (fun _ h => absurd h List.not_mem_nil)⟩)⟩)⟩)⟩)⟩), by decide +kernel⟩
theorem lv_X8_127 : LkV RX8 127 yX2_pipesApart cX2_pipesApart 5 (some .int) 2 := ⟨(List.forall_mem_cons.mpr ⟨w_499, (List.forall_mem_cons.mpr ⟨w_500, (List.forall_mem_cons.mpr ⟨w_501, (List.forall_mem_cons.mpr ⟨w_80, (List.forall_mem_cons.mpr ⟨w_502, (fun _ h => absurd h List.not_mem_nil)⟩)⟩)⟩)⟩)⟩), by decide +kernel⟩
theorem lv_X8_131 : LkV RX8 131 yX3_inState cX3_inState 4 (some .int) 1 := ⟨(List.forall_mem_cons.mpr ⟨w_507, (List.forall_mem_cons.mpr ⟨w_508, (List.forall_mem_cons.mpr ⟨w_509, (List.forall_mem_cons.mpr ⟨w_82, (List.forall_mem_cons.mpr ⟨w_510, (fun _ h => absurd h List.not_mem_nil)⟩)⟩)⟩)⟩)⟩), by decide +kernel⟩
theorem lv_X8_134 : LkV RX8 134 yX1_keep cX1_keep 6 none 4 := ⟨(List.forall_mem_cons.mpr ⟨w_511, (List.forall_mem_cons.mpr ⟨w_512, (List.forall_mem_cons.mpr ⟨w_513, (List.forall_mem_cons.mpr ⟨w_85, (List.forall_mem_cons.mpr ⟨w_514, (fun _ h => absurd h List.not_mem_nil)⟩)⟩)⟩)⟩)⟩), by decide +kernel⟩
theorem lv_X8_141 : LkV RX8 141 yX7_takeBytes cX7_takeBytes 5 none 2 := ⟨(List.forall_mem_cons.mpr ⟨w_519, (List.forall_mem_cons.mpr ⟨w_520, (List.forall_mem_cons.mpr ⟨w_521, (List.forall_mem_cons.mpr ⟨w_84, (List.forall_mem_cons.mpr ⟨w_522, (fun _ h => absurd h List.not_mem_nil)⟩)⟩)⟩)⟩)⟩), by decide +kernel⟩
theorem lv_X8_145 : LkV RX8 145 yX7_readRule cX7_readRule 1 (some .int) 0 := ⟨(List.forall_mem_cons.mpr ⟨w_528, (List.forall_mem_cons.mpr ⟨w_529, (List.forall_mem_cons.mpr ⟨w_530, (List.forall_mem_cons.mpr ⟨w_84, (List.forall_mem_cons.mpr ⟨w_531, (fun _ h => absurd h List.not_mem_nil)⟩)⟩)⟩)⟩)⟩), by decide +kernel⟩
theorem lv_X8_148 : LkV RX8 148 yX7_wipe cX7_wipe 1 none 0 := ⟨(List.forall_mem_cons.mpr ⟨w_630, (List.forall_mem_cons.mpr ⟨w_631, (List.forall_mem_cons.mpr ⟨w_632, (List.forall_mem_cons.mpr ⟨w_84, (List.forall_mem_cons.mpr ⟨w_633, (fun _ h => absurd h List.not_mem_nil)⟩)⟩)⟩)⟩)⟩), by decide +kernel⟩
theorem lv_X8_152 : LkV RX8 152 yX6_write cX6_write 4 (some .int) 2 := ⟨(List.forall_mem_cons.mpr ⟨w_634, (List.forall_mem_cons.mpr ⟨w_635, (List.forall_mem_cons.mpr ⟨w_636, (List.forall_mem_cons.mpr ⟨w_81, (List.forall_mem_cons.mpr ⟨w_637, (fun _ h => absurd h List.not_mem_nil)⟩)⟩)⟩)⟩)⟩), by decide +kernel⟩
theorem lv_X8_156 : LkV RX8 156 yX6_has cX6_has 2 (some .boolean) 1 := ⟨(List.forall_mem_cons.mpr ⟨w_643, (List.forall_mem_cons.mpr ⟨w_644, (List.forall_mem_cons.mpr ⟨w_645, (List.forall_mem_cons.mpr ⟨w_81, (List.forall_mem_cons.mpr ⟨w_646, (fun _ h => absurd h List.not_mem_nil)⟩)⟩)⟩)⟩)⟩), by decide +kernel⟩
theorem lv_X8_172 : LkV RX8 172 yX6_inForce cX6_inForce 3 (some .boolean) 2 := ⟨(List.forall_mem_cons.mpr ⟨w_651, (List.forall_mem_cons.mpr ⟨w_467, (List.forall_mem_cons.mpr ⟨w_468, (List.forall_mem_cons.mpr ⟨w_81, (List.forall_mem_cons.mpr ⟨w_469, (fun _ h => absurd h List.not_mem_nil)⟩)⟩)⟩)⟩)⟩), by decide +kernel⟩
theorem lv_X8_176 : LkV RX8 176 yX2_allFittings cX2_allFittings 1 (some .int) 0 := ⟨(List.forall_mem_cons.mpr ⟨w_656, (List.forall_mem_cons.mpr ⟨w_657, (List.forall_mem_cons.mpr ⟨w_658, (List.forall_mem_cons.mpr ⟨w_80, (List.forall_mem_cons.mpr ⟨w_659, (fun _ h => absurd h List.not_mem_nil)⟩)⟩)⟩)⟩)⟩), by decide +kernel⟩
theorem lv_X8_180 : LkV RX8 180 yX3_write cX3_write 5 (some .int) 3 := ⟨(List.forall_mem_cons.mpr ⟨w_660, (List.forall_mem_cons.mpr ⟨w_661, (List.forall_mem_cons.mpr ⟨w_662, (List.forall_mem_cons.mpr ⟨w_82, (List.forall_mem_cons.mpr ⟨w_663, (fun _ h => absurd h List.not_mem_nil)⟩)⟩)⟩)⟩)⟩), by decide +kernel⟩
theorem lv_X8_182 : LkV RX8 182 yX3_has cX3_has 2 (some .boolean) 1 := ⟨(List.forall_mem_cons.mpr ⟨w_668, (List.forall_mem_cons.mpr ⟨w_669, (List.forall_mem_cons.mpr ⟨w_670, (List.forall_mem_cons.mpr ⟨w_82, (List.forall_mem_cons.mpr ⟨w_671, (fun _ h => absurd h List.not_mem_nil)⟩)⟩)⟩)⟩)⟩), by decide +kernel⟩
theorem lv_X8_189 : LkV RX8 189 yX0_isOn cX0_isOn 2 (some .boolean) 1 := ⟨(List.forall_mem_cons.mpr ⟨w_675, (List.forall_mem_cons.mpr ⟨w_676, (List.forall_mem_cons.mpr ⟨w_677, (List.forall_mem_cons.mpr ⟨w_83, (List.forall_mem_cons.mpr ⟨w_678, (fun _ h => absurd h List.not_mem_nil)⟩)⟩)⟩)⟩)⟩), by decide +kernel⟩
theorem lv_X8_197 : LkV RX8 197 yX8_refusalOf cX8_refusalOf 4 (some .int) 2 := ⟨(List.forall_mem_cons.mpr ⟨w_684, (List.forall_mem_cons.mpr ⟨w_686, (List.forall_mem_cons.mpr ⟨w_12, (List.forall_mem_cons.mpr ⟨w_78, (List.forall_mem_cons.mpr ⟨w_687, (fun _ h => absurd h List.not_mem_nil)⟩)⟩)⟩)⟩)⟩), by decide +kernel⟩
theorem lv_X8_205 : LkV RX8 205 yX3_noteTest cX3_noteTest 4 none 3 := ⟨(List.forall_mem_cons.mpr ⟨w_761, (List.forall_mem_cons.mpr ⟨w_762, (List.forall_mem_cons.mpr ⟨w_763, (List.forall_mem_cons.mpr ⟨w_82, (List.forall_mem_cons.mpr ⟨w_764, (fun _ h => absurd h List.not_mem_nil)⟩)⟩)⟩)⟩)⟩), by decide +kernel⟩
theorem lv_X8_209 : LkV RX8 209 yX3_endLive cX3_endLive 3 none 2 := ⟨(List.forall_mem_cons.mpr ⟨w_773, (List.forall_mem_cons.mpr ⟨w_774, (List.forall_mem_cons.mpr ⟨w_775, (List.forall_mem_cons.mpr ⟨w_82, (List.forall_mem_cons.mpr ⟨w_776, (fun _ h => absurd h List.not_mem_nil)⟩)⟩)⟩)⟩)⟩), by decide +kernel⟩
theorem lv_X8_213 : LkV RX8 213 yX5_firstBar cX5_firstBar 4 (some .int) 3 := ⟨(List.forall_mem_cons.mpr ⟨w_688, (List.forall_mem_cons.mpr ⟨w_689, (List.forall_mem_cons.mpr ⟨w_690, (List.forall_mem_cons.mpr ⟨w_79, (List.forall_mem_cons.mpr ⟨w_691, (fun _ h => absurd h List.not_mem_nil)⟩)⟩)⟩)⟩)⟩), by decide +kernel⟩
theorem lv_X8_216 : LkV RX8 216 yX5_quarrelOf cX5_quarrelOf 5 (some .int) 2 := ⟨(List.forall_mem_cons.mpr ⟨w_789, (List.forall_mem_cons.mpr ⟨w_715, (List.forall_mem_cons.mpr ⟨w_716, (List.forall_mem_cons.mpr ⟨w_79, (List.forall_mem_cons.mpr ⟨w_717, (fun _ h => absurd h List.not_mem_nil)⟩)⟩)⟩)⟩)⟩), by decide +kernel⟩
theorem lv_X8_228 : LkV RX8 228 yX0_insideFor cX0_insideFor 4 (some .int) 1 := ⟨(List.forall_mem_cons.mpr ⟨w_794, (List.forall_mem_cons.mpr ⟨w_732, (List.forall_mem_cons.mpr ⟨w_733, (List.forall_mem_cons.mpr ⟨w_83, (List.forall_mem_cons.mpr ⟨w_734, (fun _ h => absurd h List.not_mem_nil)⟩)⟩)⟩)⟩)⟩), by decide +kernel⟩
theorem lv_X8_243 : LkV RX8 243 yX3_holdsLive cX3_holdsLive 3 (some .boolean) 1 := ⟨(List.forall_mem_cons.mpr ⟨w_807, (List.forall_mem_cons.mpr ⟨w_808, (List.forall_mem_cons.mpr ⟨w_809, (List.forall_mem_cons.mpr ⟨w_82, (List.forall_mem_cons.mpr ⟨w_810, (fun _ h => absurd h List.not_mem_nil)⟩)⟩)⟩)⟩)⟩), by decide +kernel⟩
theorem lv_X8_246 : LkV RX8 246 yX0_tellShift cX0_tellShift 3 none 2 := ⟨(List.forall_mem_cons.mpr ⟨w_811, (List.forall_mem_cons.mpr ⟨w_812, (List.forall_mem_cons.mpr ⟨w_813, (List.forall_mem_cons.mpr ⟨w_83, (List.forall_mem_cons.mpr ⟨w_814, (fun _ h => absurd h List.not_mem_nil)⟩)⟩)⟩)⟩)⟩), by decide +kernel⟩
theorem lv_X8_250 : LkV RX8 250 yX0_comeOut cX0_comeOut 3 (some .int) 0 := ⟨(List.forall_mem_cons.mpr ⟨w_819, (List.forall_mem_cons.mpr ⟨w_820, (List.forall_mem_cons.mpr ⟨w_821, (List.forall_mem_cons.mpr ⟨w_83, (List.forall_mem_cons.mpr ⟨w_822, (fun _ h => absurd h List.not_mem_nil)⟩)⟩)⟩)⟩)⟩), by decide +kernel⟩
theorem lv_X8_253 : LkV RX8 253 yX3_endAllLive cX3_endAllLive 3 none 1 := ⟨(List.forall_mem_cons.mpr ⟨w_828, (List.forall_mem_cons.mpr ⟨w_829, (List.forall_mem_cons.mpr ⟨w_830, (List.forall_mem_cons.mpr ⟨w_82, (List.forall_mem_cons.mpr ⟨w_831, (fun _ h => absurd h List.not_mem_nil)⟩)⟩)⟩)⟩)⟩), by decide +kernel⟩
theorem lv_X8_257 : LkV RX8 257 yX8_leastSet cX8_leastSet 2 (some .int) 1 := ⟨(List.forall_mem_cons.mpr ⟨w_837, (List.forall_mem_cons.mpr ⟨w_838, (List.forall_mem_cons.mpr ⟨w_839, (List.forall_mem_cons.mpr ⟨w_78, (List.forall_mem_cons.mpr ⟨w_840, (fun _ h => absurd h List.not_mem_nil)⟩)⟩)⟩)⟩)⟩), by decide +kernel⟩
theorem lv_X8_260 : LkV RX8 260 yX2_hoursOf cX2_hoursOf 2 (some .int) 1 := ⟨(List.forall_mem_cons.mpr ⟨w_863, (List.forall_mem_cons.mpr ⟨w_855, (List.forall_mem_cons.mpr ⟨w_856, (List.forall_mem_cons.mpr ⟨w_80, (List.forall_mem_cons.mpr ⟨w_857, (fun _ h => absurd h List.not_mem_nil)⟩)⟩)⟩)⟩)⟩), by decide +kernel⟩
theorem lv_X8_263 : LkV RX8 263 yX2_leastSetFor cX2_leastSetFor 3 (some .int) 2 := ⟨(List.forall_mem_cons.mpr ⟨w_841, (List.forall_mem_cons.mpr ⟨w_842, (List.forall_mem_cons.mpr ⟨w_843, (List.forall_mem_cons.mpr ⟨w_80, (List.forall_mem_cons.mpr ⟨w_844, (fun _ h => absurd h List.not_mem_nil)⟩)⟩)⟩)⟩)⟩), by decide +kernel⟩
theorem lv_X8_266 : LkV RX8 266 yX8_isPast cX8_isPast 2 (some .boolean) 1 := ⟨(List.forall_mem_cons.mpr ⟨w_873, (List.forall_mem_cons.mpr ⟨w_875, (List.forall_mem_cons.mpr ⟨w_22, (List.forall_mem_cons.mpr ⟨w_78, (List.forall_mem_cons.mpr ⟨w_876, (fun _ h => absurd h List.not_mem_nil)⟩)⟩)⟩)⟩)⟩), by decide +kernel⟩
theorem lv_X8_275 : LkV RX8 275 yX2_knownAt cX2_knownAt 4 (some .int) 1 := ⟨(List.forall_mem_cons.mpr ⟨w_877, (List.forall_mem_cons.mpr ⟨w_878, (List.forall_mem_cons.mpr ⟨w_879, (List.forall_mem_cons.mpr ⟨w_80, (List.forall_mem_cons.mpr ⟨w_880, (fun _ h => absurd h List.not_mem_nil)⟩)⟩)⟩)⟩)⟩), by decide +kernel⟩
theorem lv_X8_278 : LkV RX8 278 yX4_tell cX4_tell 5 (some .int) 2 := ⟨(List.forall_mem_cons.mpr ⟨w_885, (List.forall_mem_cons.mpr ⟨w_886, (List.forall_mem_cons.mpr ⟨w_887, (List.forall_mem_cons.mpr ⟨w_86, (List.forall_mem_cons.mpr ⟨w_888, (fun _ h => absurd h List.not_mem_nil)⟩)⟩)⟩)⟩)⟩), by decide +kernel⟩
theorem lv_X8_298 : LkV RX8 298 yX4_firstWrongRow cX4_firstWrongRow 2 (some .int) 0 := ⟨(List.forall_mem_cons.mpr ⟨w_940, (List.forall_mem_cons.mpr ⟨w_941, (List.forall_mem_cons.mpr ⟨w_942, (List.forall_mem_cons.mpr ⟨w_86, (List.forall_mem_cons.mpr ⟨w_943, (fun _ h => absurd h List.not_mem_nil)⟩)⟩)⟩)⟩)⟩), by decide +kernel⟩
theorem lv_X8_301 : LkV RX8 301 yX0_allInside cX0_allInside 1 (some .int) 0 := ⟨(List.forall_mem_cons.mpr ⟨w_948, (List.forall_mem_cons.mpr ⟨w_824, (List.forall_mem_cons.mpr ⟨w_825, (List.forall_mem_cons.mpr ⟨w_83, (List.forall_mem_cons.mpr ⟨w_826, (fun _ h => absurd h List.not_mem_nil)⟩)⟩)⟩)⟩)⟩), by decide +kernel⟩
theorem lv_X8_307 : LkV RX8 307 yX3_allLocks cX3_allLocks 3 (some .int) 0 := ⟨(List.forall_mem_cons.mpr ⟨w_949, (List.forall_mem_cons.mpr ⟨w_950, (List.forall_mem_cons.mpr ⟨w_951, (List.forall_mem_cons.mpr ⟨w_82, (List.forall_mem_cons.mpr ⟨w_952, (fun _ h => absurd h List.not_mem_nil)⟩)⟩)⟩)⟩)⟩), by decide +kernel⟩
theorem lv_X9_109 : LkV RX9 109 yX9_isPipe cX9_isPipe 2 (some .boolean) 1 := ⟨(List.forall_mem_cons.mpr ⟨w_1117, (List.forall_mem_cons.mpr ⟨w_1119, (List.forall_mem_cons.mpr ⟨w_29, (List.forall_mem_cons.mpr ⟨w_87, (List.forall_mem_cons.mpr ⟨w_1120, (fun _ h => absurd h List.not_mem_nil)⟩)⟩)⟩)⟩)⟩), by decide +kernel⟩
theorem lv_X9_122 : LkV RX9 122 yX9_hasLocks cX9_hasLocks 2 (some .boolean) 1 := ⟨(List.forall_mem_cons.mpr ⟨w_1129, (List.forall_mem_cons.mpr ⟨w_1131, (List.forall_mem_cons.mpr ⟨w_32, (List.forall_mem_cons.mpr ⟨w_87, (List.forall_mem_cons.mpr ⟨w_1132, (fun _ h => absurd h List.not_mem_nil)⟩)⟩)⟩)⟩)⟩), by decide +kernel⟩
theorem lv_X9_129 : LkV RX9 129 yX9_locks cX9_locks 4 (some .int) 1 := ⟨(List.forall_mem_cons.mpr ⟨w_1125, (List.forall_mem_cons.mpr ⟨w_1127, (List.forall_mem_cons.mpr ⟨w_31, (List.forall_mem_cons.mpr ⟨w_87, (List.forall_mem_cons.mpr ⟨w_1128, (fun _ h => absurd h List.not_mem_nil)⟩)⟩)⟩)⟩)⟩), by decide +kernel⟩
theorem lv_X9_133 : LkV RX9 133 yX9_closedNow cX9_closedNow 3 (some .int) 0 := ⟨(List.forall_mem_cons.mpr ⟨w_1121, (List.forall_mem_cons.mpr ⟨w_1123, (List.forall_mem_cons.mpr ⟨w_30, (List.forall_mem_cons.mpr ⟨w_87, (List.forall_mem_cons.mpr ⟨w_1124, (fun _ h => absurd h List.not_mem_nil)⟩)⟩)⟩)⟩)⟩), by decide +kernel⟩
theorem lv_X9_137 : LkV RX9 137 yX9_isFitting cX9_isFitting 2 (some .boolean) 1 := ⟨(List.forall_mem_cons.mpr ⟨w_1144, (List.forall_mem_cons.mpr ⟨w_1146, (List.forall_mem_cons.mpr ⟨w_33, (List.forall_mem_cons.mpr ⟨w_87, (List.forall_mem_cons.mpr ⟨w_1147, (fun _ h => absurd h List.not_mem_nil)⟩)⟩)⟩)⟩)⟩), by decide +kernel⟩
theorem lv_X9_143 : LkV RX9 143 yX9_isInForce cX9_isInForce 3 (some .boolean) 2 := ⟨(List.forall_mem_cons.mpr ⟨w_1168, (List.forall_mem_cons.mpr ⟨w_1170, (List.forall_mem_cons.mpr ⟨w_38, (List.forall_mem_cons.mpr ⟨w_87, (List.forall_mem_cons.mpr ⟨w_1171, (fun _ h => absurd h List.not_mem_nil)⟩)⟩)⟩)⟩)⟩), by decide +kernel⟩
theorem lv_X9_146 : LkV RX9 146 yX9_reach cX9_reach 8 none 4 := ⟨(List.forall_mem_cons.mpr ⟨w_1160, (List.forall_mem_cons.mpr ⟨w_1162, (List.forall_mem_cons.mpr ⟨w_36, (List.forall_mem_cons.mpr ⟨w_87, (List.forall_mem_cons.mpr ⟨w_1163, (fun _ h => absurd h List.not_mem_nil)⟩)⟩)⟩)⟩)⟩), by decide +kernel⟩
theorem lv_X9_150 : LkV RX9 150 yX9_wanted cX9_wanted 5 (some .int) 2 := ⟨(List.forall_mem_cons.mpr ⟨w_1164, (List.forall_mem_cons.mpr ⟨w_1166, (List.forall_mem_cons.mpr ⟨w_37, (List.forall_mem_cons.mpr ⟨w_87, (List.forall_mem_cons.mpr ⟨w_1167, (fun _ h => absurd h List.not_mem_nil)⟩)⟩)⟩)⟩)⟩), by decide +kernel⟩
theorem lv_X9_154 : LkV RX9 154 yX9_isSafe cX9_isSafe 9 (some .boolean) 4 := ⟨(List.forall_mem_cons.mpr ⟨w_1156, (List.forall_mem_cons.mpr ⟨w_1158, (List.forall_mem_cons.mpr ⟨w_35, (List.forall_mem_cons.mpr ⟨w_87, (List.forall_mem_cons.mpr ⟨w_1159, (fun _ h => absurd h List.not_mem_nil)⟩)⟩)⟩)⟩)⟩), by decide +kernel⟩
theorem lv_X9_158 : LkV RX9 158 yX9_isSafeNow cX9_isSafeNow 3 (some .boolean) 2 := ⟨(List.forall_mem_cons.mpr ⟨w_1152, (List.forall_mem_cons.mpr ⟨w_1154, (List.forall_mem_cons.mpr ⟨w_34, (List.forall_mem_cons.mpr ⟨w_87, (List.forall_mem_cons.mpr ⟨w_1155, (fun _ h => absurd h List.not_mem_nil)⟩)⟩)⟩)⟩)⟩), by decide +kernel⟩
theorem lv_X9_161 : LkV RX9 161 yX9_between cX9_between 4 (some .int) 3 := ⟨(List.forall_mem_cons.mpr ⟨w_1176, (List.forall_mem_cons.mpr ⟨w_1178, (List.forall_mem_cons.mpr ⟨w_39, (List.forall_mem_cons.mpr ⟨w_87, (List.forall_mem_cons.mpr ⟨w_1179, (fun _ h => absurd h List.not_mem_nil)⟩)⟩)⟩)⟩)⟩), by decide +kernel⟩
theorem lv_X9_165 : LkV RX9 165 yX9_liveNow cX9_liveNow 3 (some .int) 0 := ⟨(List.forall_mem_cons.mpr ⟨w_1188, (List.forall_mem_cons.mpr ⟨w_1190, (List.forall_mem_cons.mpr ⟨w_40, (List.forall_mem_cons.mpr ⟨w_87, (List.forall_mem_cons.mpr ⟨w_1191, (fun _ h => absurd h List.not_mem_nil)⟩)⟩)⟩)⟩)⟩), by decide +kernel⟩
theorem lv_X9_179 : LkV RX9 179 yX9_isLetter cX9_isLetter 2 (some .boolean) 1 := ⟨(List.forall_mem_cons.mpr ⟨w_1209, (List.forall_mem_cons.mpr ⟨w_1211, (List.forall_mem_cons.mpr ⟨w_43, (List.forall_mem_cons.mpr ⟨w_87, (List.forall_mem_cons.mpr ⟨w_1212, (fun _ h => absurd h List.not_mem_nil)⟩)⟩)⟩)⟩)⟩), by decide +kernel⟩
theorem lv_X9_182 : LkV RX9 182 yX9_isDigit cX9_isDigit 2 (some .boolean) 1 := ⟨(List.forall_mem_cons.mpr ⟨w_1213, (List.forall_mem_cons.mpr ⟨w_1215, (List.forall_mem_cons.mpr ⟨w_44, (List.forall_mem_cons.mpr ⟨w_87, (List.forall_mem_cons.mpr ⟨w_1216, (fun _ h => absurd h List.not_mem_nil)⟩)⟩)⟩)⟩)⟩), by decide +kernel⟩
theorem lv_X9_188 : LkV RX9 188 yX9_isWord cX9_isWord 6 (some .boolean) 2 := ⟨(List.forall_mem_cons.mpr ⟨w_1222, (List.forall_mem_cons.mpr ⟨w_1224, (List.forall_mem_cons.mpr ⟨w_46, (List.forall_mem_cons.mpr ⟨w_87, (List.forall_mem_cons.mpr ⟨w_1225, (fun _ h => absurd h List.not_mem_nil)⟩)⟩)⟩)⟩)⟩), by decide +kernel⟩
theorem lv_X9_192 : LkV RX9 192 yX9_bad cX9_bad 1 none 0 := ⟨(List.forall_mem_cons.mpr ⟨w_1231, (List.forall_mem_cons.mpr ⟨w_1233, (List.forall_mem_cons.mpr ⟨w_47, (List.forall_mem_cons.mpr ⟨w_87, (List.forall_mem_cons.mpr ⟨w_1234, (fun _ h => absurd h List.not_mem_nil)⟩)⟩)⟩)⟩)⟩), by decide +kernel⟩
theorem lv_X9_195 : LkV RX9 195 yX9_next cX9_next 3 none 0 := ⟨(List.forall_mem_cons.mpr ⟨w_1205, (List.forall_mem_cons.mpr ⟨w_1207, (List.forall_mem_cons.mpr ⟨w_42, (List.forall_mem_cons.mpr ⟨w_87, (List.forall_mem_cons.mpr ⟨w_1208, (fun _ h => absurd h List.not_mem_nil)⟩)⟩)⟩)⟩)⟩), by decide +kernel⟩
theorem lv_X9_228 : LkV RX9 228 yX9_kind cX9_kind 1 (some .int) 0 := ⟨(List.forall_mem_cons.mpr ⟨w_1217, (List.forall_mem_cons.mpr ⟨w_1219, (List.forall_mem_cons.mpr ⟨w_45, (List.forall_mem_cons.mpr ⟨w_87, (List.forall_mem_cons.mpr ⟨w_1220, (fun _ h => absurd h List.not_mem_nil)⟩)⟩)⟩)⟩)⟩), by decide +kernel⟩
theorem lv_X9_234 : LkV RX9 234 yX9_hazard cX9_hazard 2 (some .int) 0 := ⟨(List.forall_mem_cons.mpr ⟨w_1235, (List.forall_mem_cons.mpr ⟨w_1237, (List.forall_mem_cons.mpr ⟨w_48, (List.forall_mem_cons.mpr ⟨w_87, (List.forall_mem_cons.mpr ⟨w_1238, (fun _ h => absurd h List.not_mem_nil)⟩)⟩)⟩)⟩)⟩), by decide +kernel⟩
theorem lv_X9_237 : LkV RX9 237 yX9_sort cX9_sort 2 (some .int) 0 := ⟨(List.forall_mem_cons.mpr ⟨w_1242, (List.forall_mem_cons.mpr ⟨w_1244, (List.forall_mem_cons.mpr ⟨w_49, (List.forall_mem_cons.mpr ⟨w_87, (List.forall_mem_cons.mpr ⟨w_1245, (fun _ h => absurd h List.not_mem_nil)⟩)⟩)⟩)⟩)⟩), by decide +kernel⟩
theorem lv_X9_245 : LkV RX9 245 yX9_word cX9_word 4 none 2 := ⟨(List.forall_mem_cons.mpr ⟨w_1250, (List.forall_mem_cons.mpr ⟨w_1252, (List.forall_mem_cons.mpr ⟨w_50, (List.forall_mem_cons.mpr ⟨w_87, (List.forall_mem_cons.mpr ⟨w_1253, (fun _ h => absurd h List.not_mem_nil)⟩)⟩)⟩)⟩)⟩), by decide +kernel⟩
theorem lv_X9_249 : LkV RX9 249 yX9_number cX9_number 6 (some .int) 2 := ⟨(List.forall_mem_cons.mpr ⟨w_1254, (List.forall_mem_cons.mpr ⟨w_1256, (List.forall_mem_cons.mpr ⟨w_51, (List.forall_mem_cons.mpr ⟨w_87, (List.forall_mem_cons.mpr ⟨w_1257, (fun _ h => absurd h List.not_mem_nil)⟩)⟩)⟩)⟩)⟩), by decide +kernel⟩
theorem lv_X9_256 : LkV RX9 256 yX9_readRule cX9_readRule 1 none 0 := ⟨(List.forall_mem_cons.mpr ⟨w_1201, (List.forall_mem_cons.mpr ⟨w_1203, (List.forall_mem_cons.mpr ⟨w_41, (List.forall_mem_cons.mpr ⟨w_87, (List.forall_mem_cons.mpr ⟨w_1204, (fun _ h => absurd h List.not_mem_nil)⟩)⟩)⟩)⟩)⟩), by decide +kernel⟩
theorem lv_X9_259 : LkV RX9 259 yX9_isRule cX9_isRule 2 (some .boolean) 1 := ⟨(List.forall_mem_cons.mpr ⟨w_1264, (List.forall_mem_cons.mpr ⟨w_1266, (List.forall_mem_cons.mpr ⟨w_52, (List.forall_mem_cons.mpr ⟨w_87, (List.forall_mem_cons.mpr ⟨w_1267, (fun _ h => absurd h List.not_mem_nil)⟩)⟩)⟩)⟩)⟩), by decide +kernel⟩
theorem lv_X9_262 : LkV RX9 262 yX9_isPermit cX9_isPermit 2 (some .boolean) 1 := ⟨(List.forall_mem_cons.mpr ⟨w_1280, (List.forall_mem_cons.mpr ⟨w_1282, (List.forall_mem_cons.mpr ⟨w_53, (List.forall_mem_cons.mpr ⟨w_87, (List.forall_mem_cons.mpr ⟨w_1283, (fun _ h => absurd h List.not_mem_nil)⟩)⟩)⟩)⟩)⟩), by decide +kernel⟩
theorem lv_X9_268 : LkV RX9 268 yX9_rules cX9_rules 4 (some .boolean) 3 := ⟨(List.forall_mem_cons.mpr ⟨w_1311, (List.forall_mem_cons.mpr ⟨w_1313, (List.forall_mem_cons.mpr ⟨w_59, (List.forall_mem_cons.mpr ⟨w_87, (List.forall_mem_cons.mpr ⟨w_1314, (fun _ h => absurd h List.not_mem_nil)⟩)⟩)⟩)⟩)⟩), by decide +kernel⟩
theorem lv_X9_270 : LkV RX9 270 yX9_within cX9_within 6 (some .int) 2 := ⟨(List.forall_mem_cons.mpr ⟨w_1319, (List.forall_mem_cons.mpr ⟨w_1321, (List.forall_mem_cons.mpr ⟨w_61, (List.forall_mem_cons.mpr ⟨w_87, (List.forall_mem_cons.mpr ⟨w_1322, (fun _ h => absurd h List.not_mem_nil)⟩)⟩)⟩)⟩)⟩), by decide +kernel⟩
theorem lv_X9_273 : LkV RX9 273 yX9_insideOf cX9_insideOf 4 (some .int) 1 := ⟨(List.forall_mem_cons.mpr ⟨w_1327, (List.forall_mem_cons.mpr ⟨w_1329, (List.forall_mem_cons.mpr ⟨w_63, (List.forall_mem_cons.mpr ⟨w_87, (List.forall_mem_cons.mpr ⟨w_1330, (fun _ h => absurd h List.not_mem_nil)⟩)⟩)⟩)⟩)⟩), by decide +kernel⟩
theorem lv_X9_276 : LkV RX9 276 yX9_mayBegin cX9_mayBegin 2 (some .boolean) 1 := ⟨(List.forall_mem_cons.mpr ⟨w_1299, (List.forall_mem_cons.mpr ⟨w_1301, (List.forall_mem_cons.mpr ⟨w_56, (List.forall_mem_cons.mpr ⟨w_87, (List.forall_mem_cons.mpr ⟨w_1302, (fun _ h => absurd h List.not_mem_nil)⟩)⟩)⟩)⟩)⟩), by decide +kernel⟩
theorem lv_X9_279 : LkV RX9 279 yX9_lacksTest cX9_lacksTest 5 (some .boolean) 1 := ⟨(List.forall_mem_cons.mpr ⟨w_1307, (List.forall_mem_cons.mpr ⟨w_1309, (List.forall_mem_cons.mpr ⟨w_58, (List.forall_mem_cons.mpr ⟨w_87, (List.forall_mem_cons.mpr ⟨w_1310, (fun _ h => absurd h List.not_mem_nil)⟩)⟩)⟩)⟩)⟩), by decide +kernel⟩
theorem lv_X9_282 : LkV RX9 282 yX9_quarrelOf cX9_quarrelOf 3 (some .int) 1 := ⟨(List.forall_mem_cons.mpr ⟨w_1315, (List.forall_mem_cons.mpr ⟨w_1317, (List.forall_mem_cons.mpr ⟨w_60, (List.forall_mem_cons.mpr ⟨w_87, (List.forall_mem_cons.mpr ⟨w_1318, (fun _ h => absurd h List.not_mem_nil)⟩)⟩)⟩)⟩)⟩), by decide +kernel⟩
theorem lv_X9_285 : LkV RX9 285 yX9_isOutOfHours cX9_isOutOfHours 8 (some .boolean) 1 := ⟨(List.forall_mem_cons.mpr ⟨w_1323, (List.forall_mem_cons.mpr ⟨w_1325, (List.forall_mem_cons.mpr ⟨w_62, (List.forall_mem_cons.mpr ⟨w_87, (List.forall_mem_cons.mpr ⟨w_1326, (fun _ h => absurd h List.not_mem_nil)⟩)⟩)⟩)⟩)⟩), by decide +kernel⟩
theorem lv_X9_288 : LkV RX9 288 yX9_isOutOfState cX9_isOutOfState 3 (some .boolean) 2 := ⟨(List.forall_mem_cons.mpr ⟨w_1295, (List.forall_mem_cons.mpr ⟨w_1297, (List.forall_mem_cons.mpr ⟨w_55, (List.forall_mem_cons.mpr ⟨w_87, (List.forall_mem_cons.mpr ⟨w_1298, (fun _ h => absurd h List.not_mem_nil)⟩)⟩)⟩)⟩)⟩), by decide +kernel⟩
theorem lv_X9_291 : LkV RX9 291 yX9_startBar cX9_startBar 2 (some .int) 1 := ⟨(List.forall_mem_cons.mpr ⟨w_1303, (List.forall_mem_cons.mpr ⟨w_1305, (List.forall_mem_cons.mpr ⟨w_57, (List.forall_mem_cons.mpr ⟨w_87, (List.forall_mem_cons.mpr ⟨w_1306, (fun _ h => absurd h List.not_mem_nil)⟩)⟩)⟩)⟩)⟩), by decide +kernel⟩
theorem lv_X9_294 : LkV RX9 294 yX9_isWatched cX9_isWatched 4 (some .boolean) 1 := ⟨(List.forall_mem_cons.mpr ⟨w_1331, (List.forall_mem_cons.mpr ⟨w_1333, (List.forall_mem_cons.mpr ⟨w_64, (List.forall_mem_cons.mpr ⟨w_87, (List.forall_mem_cons.mpr ⟨w_1334, (fun _ h => absurd h List.not_mem_nil)⟩)⟩)⟩)⟩)⟩), by decide +kernel⟩
theorem lv_X9_297 : LkV RX9 297 yX9_areTooMany cX9_areTooMany 4 (some .boolean) 1 := ⟨(List.forall_mem_cons.mpr ⟨w_1335, (List.forall_mem_cons.mpr ⟨w_1337, (List.forall_mem_cons.mpr ⟨w_65, (List.forall_mem_cons.mpr ⟨w_87, (List.forall_mem_cons.mpr ⟨w_1338, (fun _ h => absurd h List.not_mem_nil)⟩)⟩)⟩)⟩)⟩), by decide +kernel⟩
theorem lv_X9_300 : LkV RX9 300 yX9_bar cX9_bar 3 (some .int) 2 := ⟨(List.forall_mem_cons.mpr ⟨w_1291, (List.forall_mem_cons.mpr ⟨w_1293, (List.forall_mem_cons.mpr ⟨w_54, (List.forall_mem_cons.mpr ⟨w_87, (List.forall_mem_cons.mpr ⟨w_1294, (fun _ h => absurd h List.not_mem_nil)⟩)⟩)⟩)⟩)⟩), by decide +kernel⟩
theorem lv_X9_306 : LkV RX9 306 yX9_hangUp cX9_hangUp 2 none 1 := ⟨(List.forall_mem_cons.mpr ⟨w_1354, (List.forall_mem_cons.mpr ⟨w_1356, (List.forall_mem_cons.mpr ⟨w_66, (List.forall_mem_cons.mpr ⟨w_87, (List.forall_mem_cons.mpr ⟨w_1357, (fun _ h => absurd h List.not_mem_nil)⟩)⟩)⟩)⟩)⟩), by decide +kernel⟩
theorem lv_X9_310 : LkV RX9 310 yX9_holdsLive cX9_holdsLive 4 (some .boolean) 1 := ⟨(List.forall_mem_cons.mpr ⟨w_1386, (List.forall_mem_cons.mpr ⟨w_1388, (List.forall_mem_cons.mpr ⟨w_67, (List.forall_mem_cons.mpr ⟨w_87, (List.forall_mem_cons.mpr ⟨w_1389, (fun _ h => absurd h List.not_mem_nil)⟩)⟩)⟩)⟩)⟩), by decide +kernel⟩
theorem lv_X9_313 : LkV RX9 313 yX9_hoursOf cX9_hoursOf 4 (some .int) 1 := ⟨(List.forall_mem_cons.mpr ⟨w_1402, (List.forall_mem_cons.mpr ⟨w_1404, (List.forall_mem_cons.mpr ⟨w_69, (List.forall_mem_cons.mpr ⟨w_87, (List.forall_mem_cons.mpr ⟨w_1405, (fun _ h => absurd h List.not_mem_nil)⟩)⟩)⟩)⟩)⟩), by decide +kernel⟩
theorem lv_X9_319 : LkV RX9 319 yX9_areFittings cX9_areFittings 4 (some .boolean) 1 := ⟨(List.forall_mem_cons.mpr ⟨w_1409, (List.forall_mem_cons.mpr ⟨w_1411, (List.forall_mem_cons.mpr ⟨w_70, (List.forall_mem_cons.mpr ⟨w_87, (List.forall_mem_cons.mpr ⟨w_1412, (fun _ h => absurd h List.not_mem_nil)⟩)⟩)⟩)⟩)⟩), by decide +kernel⟩
theorem lv_X9_322 : LkV RX9 322 yX9_leastOf cX9_leastOf 6 (some .int) 1 := ⟨(List.forall_mem_cons.mpr ⟨w_1398, (List.forall_mem_cons.mpr ⟨w_1400, (List.forall_mem_cons.mpr ⟨w_68, (List.forall_mem_cons.mpr ⟨w_87, (List.forall_mem_cons.mpr ⟨w_1401, (fun _ h => absurd h List.not_mem_nil)⟩)⟩)⟩)⟩)⟩), by decide +kernel⟩
theorem lv_X9_328 : LkV RX9 328 yX9_moves cX9_moves 5 (some .int) 2 := ⟨(List.forall_mem_cons.mpr ⟨w_1437, (List.forall_mem_cons.mpr ⟨w_1439, (List.forall_mem_cons.mpr ⟨w_73, (List.forall_mem_cons.mpr ⟨w_87, (List.forall_mem_cons.mpr ⟨w_1440, (fun _ h => absurd h List.not_mem_nil)⟩)⟩)⟩)⟩)⟩), by decide +kernel⟩
theorem lv_X9_331 : LkV RX9 331 yX9_asked cX9_asked 3 (some .int) 0 := ⟨(List.forall_mem_cons.mpr ⟨w_1429, (List.forall_mem_cons.mpr ⟨w_1431, (List.forall_mem_cons.mpr ⟨w_71, (List.forall_mem_cons.mpr ⟨w_87, (List.forall_mem_cons.mpr ⟨w_1432, (fun _ h => absurd h List.not_mem_nil)⟩)⟩)⟩)⟩)⟩), by decide +kernel⟩
theorem lv_X9_334 : LkV RX9 334 yX9_findRest cX9_findRest 7 none 1 := ⟨(List.forall_mem_cons.mpr ⟨w_1433, (List.forall_mem_cons.mpr ⟨w_1435, (List.forall_mem_cons.mpr ⟨w_72, (List.forall_mem_cons.mpr ⟨w_87, (List.forall_mem_cons.mpr ⟨w_1436, (fun _ h => absurd h List.not_mem_nil)⟩)⟩)⟩)⟩)⟩), by decide +kernel⟩
theorem lv_X9_350 : LkV RX9 350 yX9_permitsThat cX9_permitsThat 4 (some .int) 1 := ⟨(List.forall_mem_cons.mpr ⟨w_1465, (List.forall_mem_cons.mpr ⟨w_1467, (List.forall_mem_cons.mpr ⟨w_74, (List.forall_mem_cons.mpr ⟨w_87, (List.forall_mem_cons.mpr ⟨w_1468, (fun _ h => absurd h List.not_mem_nil)⟩)⟩)⟩)⟩)⟩), by decide +kernel⟩
theorem lv_X9_353 : LkV RX9 353 yX9_men cX9_men 5 (some .int) 1 := ⟨(List.forall_mem_cons.mpr ⟨w_1469, (List.forall_mem_cons.mpr ⟨w_1471, (List.forall_mem_cons.mpr ⟨w_75, (List.forall_mem_cons.mpr ⟨w_87, (List.forall_mem_cons.mpr ⟨w_1472, (fun _ h => absurd h List.not_mem_nil)⟩)⟩)⟩)⟩)⟩), by decide +kernel⟩
theorem lv_X9_357 : LkV RX9 357 yX9_allLocks cX9_allLocks 3 (some .int) 0 := ⟨(List.forall_mem_cons.mpr ⟨w_1473, (List.forall_mem_cons.mpr ⟨w_1475, (List.forall_mem_cons.mpr ⟨w_76, (List.forall_mem_cons.mpr ⟨w_87, (List.forall_mem_cons.mpr ⟨w_1476, (fun _ h => absurd h List.not_mem_nil)⟩)⟩)⟩)⟩)⟩), by decide +kernel⟩
theorem ls_J0_495 : LkS RJ0 495 yJ1_charAt_3b067 cJ1_charAt_3b067 2 (some .char) 2 := ⟨(List.forall_mem_cons.mpr ⟨w_575, (List.forall_mem_cons.mpr ⟨w_576, (List.forall_mem_cons.mpr ⟨w_89, (List.forall_mem_cons.mpr ⟨w_577, (fun _ h => absurd h List.not_mem_nil)⟩)⟩)⟩)⟩), by decide +kernel⟩
theorem ls_J0_1059 : LkS RJ0 1059 yJ3_checkIndex_8e157 cJ3_checkIndex_8e157 3 (some .int) 3 := ⟨(List.forall_mem_cons.mpr ⟨w_583, (List.forall_mem_cons.mpr ⟨w_584, (List.forall_mem_cons.mpr ⟨w_90, (List.forall_mem_cons.mpr ⟨w_585, (fun _ h => absurd h List.not_mem_nil)⟩)⟩)⟩)⟩), by decide +kernel⟩
theorem ls_J1_9 : LkS RJ1 9 yJ0_checkIndex_df160 cJ0_checkIndex_df160 2 none 2 := ⟨(List.forall_mem_cons.mpr ⟨w_578, (List.forall_mem_cons.mpr ⟨w_579, (List.forall_mem_cons.mpr ⟨w_88, (List.forall_mem_cons.mpr ⟨w_580, (fun _ h => absurd h List.not_mem_nil)⟩)⟩)⟩)⟩), by decide +kernel⟩
theorem ls_X2_62 : LkS RX2 62 yJ6_bitCount_0f7a4 cJ6_bitCount_0f7a4 1 (some .int) 1 := ⟨(List.forall_mem_cons.mpr ⟨w_858, (List.forall_mem_cons.mpr ⟨w_752, (List.forall_mem_cons.mpr ⟨w_92, (List.forall_mem_cons.mpr ⟨w_753, (fun _ h => absurd h List.not_mem_nil)⟩)⟩)⟩)⟩), by decide +kernel⟩
theorem ls_X2_77 : LkS RX2 77 yX2_leastSetFrom cX2_leastSetFrom 11 (some .int) 6 := ⟨(List.forall_mem_cons.mpr ⟨w_851, (List.forall_mem_cons.mpr ⟨w_852, (List.forall_mem_cons.mpr ⟨w_80, (List.forall_mem_cons.mpr ⟨w_853, (fun _ h => absurd h List.not_mem_nil)⟩)⟩)⟩)⟩), by decide +kernel⟩
theorem ls_X3_44 : LkS RX3 44 yJ6_bitCount_0f7a4 cJ6_bitCount_0f7a4 1 (some .int) 1 := ⟨(List.forall_mem_cons.mpr ⟨w_953, (List.forall_mem_cons.mpr ⟨w_752, (List.forall_mem_cons.mpr ⟨w_92, (List.forall_mem_cons.mpr ⟨w_753, (fun _ h => absurd h List.not_mem_nil)⟩)⟩)⟩)⟩), by decide +kernel⟩
theorem ls_X4_73 : LkS RX4 73 yJ6_bitCount_0f7a4 cJ6_bitCount_0f7a4 1 (some .int) 1 := ⟨(List.forall_mem_cons.mpr ⟨w_897, (List.forall_mem_cons.mpr ⟨w_752, (List.forall_mem_cons.mpr ⟨w_92, (List.forall_mem_cons.mpr ⟨w_753, (fun _ h => absurd h List.not_mem_nil)⟩)⟩)⟩)⟩), by decide +kernel⟩
theorem ls_X5_133 : LkS RX5 133 yX5_isWithin cX5_isWithin 3 (some .boolean) 3 := ⟨(List.forall_mem_cons.mpr ⟨w_727, (List.forall_mem_cons.mpr ⟨w_728, (List.forall_mem_cons.mpr ⟨w_79, (List.forall_mem_cons.mpr ⟨w_729, (fun _ h => absurd h List.not_mem_nil)⟩)⟩)⟩)⟩), by decide +kernel⟩
theorem ls_X8_61 : LkS RX8 61 yX8_isPlace cX8_isPlace 1 (some .boolean) 1 := ⟨(List.forall_mem_cons.mpr ⟨w_402, (List.forall_mem_cons.mpr ⟨w_403, (List.forall_mem_cons.mpr ⟨w_78, (List.forall_mem_cons.mpr ⟨w_404, (fun _ h => absurd h List.not_mem_nil)⟩)⟩)⟩)⟩), by decide +kernel⟩
theorem ls_X8_183 : LkS RX8 183 yX8_isMan cX8_isMan 1 (some .boolean) 1 := ⟨(List.forall_mem_cons.mpr ⟨w_672, (List.forall_mem_cons.mpr ⟨w_673, (List.forall_mem_cons.mpr ⟨w_78, (List.forall_mem_cons.mpr ⟨w_674, (fun _ h => absurd h List.not_mem_nil)⟩)⟩)⟩)⟩), by decide +kernel⟩
theorem ls_X8_200 : LkS RX8 200 yJ6_bitCount_0f7a4 cJ6_bitCount_0f7a4 1 (some .int) 1 := ⟨(List.forall_mem_cons.mpr ⟨w_751, (List.forall_mem_cons.mpr ⟨w_752, (List.forall_mem_cons.mpr ⟨w_92, (List.forall_mem_cons.mpr ⟨w_753, (fun _ h => absurd h List.not_mem_nil)⟩)⟩)⟩)⟩), by decide +kernel⟩
theorem ls_X9_105 : LkS RX9 105 yX9_in cX9_in 3 (some .boolean) 3 := ⟨(List.forall_mem_cons.mpr ⟨w_1110, (List.forall_mem_cons.mpr ⟨w_1111, (List.forall_mem_cons.mpr ⟨w_87, (List.forall_mem_cons.mpr ⟨w_1112, (fun _ h => absurd h List.not_mem_nil)⟩)⟩)⟩)⟩), by decide +kernel⟩
theorem ls_X9_116 : LkS RX9 116 yX9_isPlace cX9_isPlace 1 (some .boolean) 1 := ⟨(List.forall_mem_cons.mpr ⟨w_1107, (List.forall_mem_cons.mpr ⟨w_1108, (List.forall_mem_cons.mpr ⟨w_87, (List.forall_mem_cons.mpr ⟨w_1109, (fun _ h => absurd h List.not_mem_nil)⟩)⟩)⟩)⟩), by decide +kernel⟩
theorem ls_X9_125 : LkS RX9 125 yX9_has cX9_has 2 (some .boolean) 2 := ⟨(List.forall_mem_cons.mpr ⟨w_1133, (List.forall_mem_cons.mpr ⟨w_1134, (List.forall_mem_cons.mpr ⟨w_87, (List.forall_mem_cons.mpr ⟨w_1135, (fun _ h => absurd h List.not_mem_nil)⟩)⟩)⟩)⟩), by decide +kernel⟩
theorem ls_X9_265 : LkS RX9 265 yX9_isMan cX9_isMan 1 (some .boolean) 1 := ⟨(List.forall_mem_cons.mpr ⟨w_1284, (List.forall_mem_cons.mpr ⟨w_1285, (List.forall_mem_cons.mpr ⟨w_87, (List.forall_mem_cons.mpr ⟨w_1286, (fun _ h => absurd h List.not_mem_nil)⟩)⟩)⟩)⟩), by decide +kernel⟩
theorem ls_X9_303 : LkS RX9 303 yX9_ones cX9_ones 3 (some .int) 1 := ⟨(List.forall_mem_cons.mpr ⟨w_1339, (List.forall_mem_cons.mpr ⟨w_1340, (List.forall_mem_cons.mpr ⟨w_87, (List.forall_mem_cons.mpr ⟨w_1341, (fun _ h => absurd h List.not_mem_nil)⟩)⟩)⟩)⟩), by decide +kernel⟩
theorem ls_X9_316 : LkS RX9 316 yX9_isAhead cX9_isAhead 3 (some .boolean) 2 := ⟨(List.forall_mem_cons.mpr ⟨w_1406, (List.forall_mem_cons.mpr ⟨w_1407, (List.forall_mem_cons.mpr ⟨w_87, (List.forall_mem_cons.mpr ⟨w_1408, (fun _ h => absurd h List.not_mem_nil)⟩)⟩)⟩)⟩), by decide +kernel⟩
theorem wf_J0_9 : Cond.fieldLink RJ0 9 "java/lang/String" "value" "[B" ∈ lw_g := w_1478
theorem wf_J0_15 : Cond.fieldLink RJ0 15 "java/lang/String" "coder" "B" ∈ lw_g := w_1479
theorem wf_J0_38 : Cond.fieldLink RJ0 38 "java/lang/String" "COMPACT_STRINGS" "Z" ∈ lw_g := w_565
theorem wf_J0_1053 : Cond.fieldLink RJ0 1053 "jdk/internal/util/Preconditions" "SIOOBE_FORMATTER" "Ljava/util/function/BiFunction;" ∈ lw_g := w_581
theorem wf_X5_47 : Cond.fieldLink RX5 47 "PermitRoom$Plant" "GOES_FROM" "[I" ∈ lw_g := w_692
theorem kc_J6_265 : Cond.constant RJ6 265 (1431655765) ∈ lw_g := w_754
theorem kc_J6_266 : Cond.constant RJ6 266 (858993459) ∈ lw_g := w_755
theorem kc_J6_267 : Cond.constant RJ6 267 (252645135) ∈ lw_g := w_756
theorem kc_X7_40 : Cond.constantLong RX7 40 (255) ∈ lw_g := w_523
theorem kc_X9_171 : Cond.constantLong RX9 171 (255) ∈ lw_g := w_1196
theorem kc_X9_198 : Cond.constantLong RX9 198 (1668246628) ∈ lw_g := w_1246
theorem kc_X9_200 : Cond.constantLong RX9 200 (6844276) ∈ lw_g := w_1247
theorem kc_X9_202 : Cond.constantLong RX9 202 (130178100716908) ∈ lw_g := w_1248
theorem kc_X9_204 : Cond.constantLong RX9 204 (6775155) ∈ lw_g := w_1239
theorem kc_X9_206 : Cond.constantLong RX9 206 (495874040173) ∈ lw_g := w_1240
theorem kc_X9_208 : Cond.constantLong RX9 208 (482906432882) ∈ lw_g := w_1241
theorem kc_X9_210 : Cond.constantLong RX9 210 (1852138852) ∈ lw_g := w_1221
theorem kc_X9_212 : Cond.constantLong RX9 212 (6447474) ∈ lw_g := w_1226
theorem kc_X9_214 : Cond.constantLong RX9 214 (110429873532005) ∈ lw_g := w_1227
theorem kc_X9_216 : Cond.constantLong RX9 216 (7169390) ∈ lw_g := w_1228
theorem kc_X9_218 : Cond.constantLong RX9 218 (448546566771) ∈ lw_g := w_1229
theorem kc_X9_220 : Cond.constantLong RX9 220 (512736125800) ∈ lw_g := w_1230
theorem kc_X9_243 : Cond.constantLong RX9 243 (1952805748) ∈ lw_g := w_1249
theorem kc_X9_252 : Cond.constantLong RX9 252 (131294808271214) ∈ lw_g := w_1258
theorem kc_X9_254 : Cond.constantLong RX9 254 (29807) ∈ lw_g := w_1259

