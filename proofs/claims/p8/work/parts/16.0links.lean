theorem w_96 : Cond.instantiable RX8 9 ∈ lw_g := g_in (List.mem_of_getElem? (i := 96) (by decide +kernel)) rfl
theorem w_955 : Cond.instantiable RX9 47 ∈ lw_g := g_in (List.mem_of_getElem? (i := 955) (by decide +kernel)) rfl
theorem w_95 : Cond.classLink RL 7 RX8 ∈ lw_g := g_in (List.mem_of_getElem? (i := 95) (by decide +kernel)) rfl
theorem w_954 : Cond.classLink RL 10 RX9 ∈ lw_g := g_in (List.mem_of_getElem? (i := 954) (by decide +kernel)) rfl
theorem w_97 : Cond.methodLink RL 9 yX8_init ∈ lw_g := g_in (List.mem_of_getElem? (i := 97) (by decide +kernel)) rfl
theorem w_98 : Cond.instanceMethod yX8_init ∈ lw_g := g_in (List.mem_of_getElem? (i := 98) (by decide +kernel)) rfl
theorem w_99 : Cond.code yX8_init cX8_init 1 none ∈ lw_g := g_in (List.mem_of_getElem? (i := 99) (by decide +kernel)) rfl
theorem w_956 : Cond.methodLink RL 12 yX9_init ∈ lw_g := g_in (List.mem_of_getElem? (i := 956) (by decide +kernel)) rfl
theorem w_957 : Cond.instanceMethod yX9_init ∈ lw_g := g_in (List.mem_of_getElem? (i := 957) (by decide +kernel)) rfl
theorem w_958 : Cond.code yX9_init cX9_init 2 none ∈ lw_g := g_in (List.mem_of_getElem? (i := 958) (by decide +kernel)) rfl
theorem w_398 : Cond.methodLink RL 13 yX8_pipe ∈ lw_g := g_in (List.mem_of_getElem? (i := 398) (by decide +kernel)) rfl
theorem w_399 : Cond.instanceMethod yX8_pipe ∈ lw_g := g_in (List.mem_of_getElem? (i := 399) (by decide +kernel)) rfl
theorem w_400 : Cond.selects yX8_pipe.cls yX8_pipe yX8_pipe ∈ lw_g := g_in (List.mem_of_getElem? (i := 400) (by decide +kernel)) rfl
theorem w_401 : Cond.code yX8_pipe cX8_pipe 4 (some .int) ∈ lw_g := g_in (List.mem_of_getElem? (i := 401) (by decide +kernel)) rfl
theorem w_1103 : Cond.methodLink RL 17 yX9_pipe ∈ lw_g := g_in (List.mem_of_getElem? (i := 1103) (by decide +kernel)) rfl
theorem w_1104 : Cond.instanceMethod yX9_pipe ∈ lw_g := g_in (List.mem_of_getElem? (i := 1104) (by decide +kernel)) rfl
theorem w_1105 : Cond.selects yX9_pipe.cls yX9_pipe yX9_pipe ∈ lw_g := g_in (List.mem_of_getElem? (i := 1105) (by decide +kernel)) rfl
theorem w_1106 : Cond.code yX9_pipe cX9_pipe 4 (some .int) ∈ lw_g := g_in (List.mem_of_getElem? (i := 1106) (by decide +kernel)) rfl
theorem w_409 : Cond.methodLink RL 18 yX8_of ∈ lw_g := g_in (List.mem_of_getElem? (i := 409) (by decide +kernel)) rfl
theorem w_410 : Cond.instanceMethod yX8_of ∈ lw_g := g_in (List.mem_of_getElem? (i := 410) (by decide +kernel)) rfl
theorem w_411 : Cond.selects yX8_of.cls yX8_of yX8_of ∈ lw_g := g_in (List.mem_of_getElem? (i := 411) (by decide +kernel)) rfl
theorem w_412 : Cond.code yX8_of cX8_of 3 (some .int) ∈ lw_g := g_in (List.mem_of_getElem? (i := 412) (by decide +kernel)) rfl
theorem w_1113 : Cond.methodLink RL 22 yX9_of ∈ lw_g := g_in (List.mem_of_getElem? (i := 1113) (by decide +kernel)) rfl
theorem w_1114 : Cond.instanceMethod yX9_of ∈ lw_g := g_in (List.mem_of_getElem? (i := 1114) (by decide +kernel)) rfl
theorem w_1115 : Cond.selects yX9_of.cls yX9_of yX9_of ∈ lw_g := g_in (List.mem_of_getElem? (i := 1115) (by decide +kernel)) rfl
theorem w_1116 : Cond.code yX9_of cX9_of 3 (some .int) ∈ lw_g := g_in (List.mem_of_getElem? (i := 1116) (by decide +kernel)) rfl
theorem w_433 : Cond.methodLink RL 23 yX8_source ∈ lw_g := g_in (List.mem_of_getElem? (i := 433) (by decide +kernel)) rfl
theorem w_434 : Cond.instanceMethod yX8_source ∈ lw_g := g_in (List.mem_of_getElem? (i := 434) (by decide +kernel)) rfl
theorem w_435 : Cond.selects yX8_source.cls yX8_source yX8_source ∈ lw_g := g_in (List.mem_of_getElem? (i := 435) (by decide +kernel)) rfl
theorem w_436 : Cond.code yX8_source cX8_source 4 (some .int) ∈ lw_g := g_in (List.mem_of_getElem? (i := 436) (by decide +kernel)) rfl
theorem w_1136 : Cond.methodLink RL 27 yX9_source ∈ lw_g := g_in (List.mem_of_getElem? (i := 1136) (by decide +kernel)) rfl
theorem w_1137 : Cond.instanceMethod yX9_source ∈ lw_g := g_in (List.mem_of_getElem? (i := 1137) (by decide +kernel)) rfl
theorem w_1138 : Cond.selects yX9_source.cls yX9_source yX9_source ∈ lw_g := g_in (List.mem_of_getElem? (i := 1138) (by decide +kernel)) rfl
theorem w_1139 : Cond.code yX9_source cX9_source 6 (some .int) ∈ lw_g := g_in (List.mem_of_getElem? (i := 1139) (by decide +kernel)) rfl
theorem w_441 : Cond.methodLink RL 28 yX8_turn ∈ lw_g := g_in (List.mem_of_getElem? (i := 441) (by decide +kernel)) rfl
theorem w_442 : Cond.instanceMethod yX8_turn ∈ lw_g := g_in (List.mem_of_getElem? (i := 442) (by decide +kernel)) rfl
theorem w_443 : Cond.selects yX8_turn.cls yX8_turn yX8_turn ∈ lw_g := g_in (List.mem_of_getElem? (i := 443) (by decide +kernel)) rfl
theorem w_444 : Cond.code yX8_turn cX8_turn 3 (some .int) ∈ lw_g := g_in (List.mem_of_getElem? (i := 444) (by decide +kernel)) rfl
theorem w_1140 : Cond.methodLink RL 32 yX9_turn ∈ lw_g := g_in (List.mem_of_getElem? (i := 1140) (by decide +kernel)) rfl
theorem w_1141 : Cond.instanceMethod yX9_turn ∈ lw_g := g_in (List.mem_of_getElem? (i := 1141) (by decide +kernel)) rfl
theorem w_1142 : Cond.selects yX9_turn.cls yX9_turn yX9_turn ∈ lw_g := g_in (List.mem_of_getElem? (i := 1142) (by decide +kernel)) rfl
theorem w_1143 : Cond.code yX9_turn cX9_turn 4 (some .int) ∈ lw_g := g_in (List.mem_of_getElem? (i := 1143) (by decide +kernel)) rfl
theorem w_454 : Cond.methodLink RL 33 yX8_safe ∈ lw_g := g_in (List.mem_of_getElem? (i := 454) (by decide +kernel)) rfl
theorem w_455 : Cond.instanceMethod yX8_safe ∈ lw_g := g_in (List.mem_of_getElem? (i := 455) (by decide +kernel)) rfl
theorem w_456 : Cond.selects yX8_safe.cls yX8_safe yX8_safe ∈ lw_g := g_in (List.mem_of_getElem? (i := 456) (by decide +kernel)) rfl
theorem w_457 : Cond.code yX8_safe cX8_safe 2 (some .int) ∈ lw_g := g_in (List.mem_of_getElem? (i := 457) (by decide +kernel)) rfl
theorem w_1148 : Cond.methodLink RL 37 yX9_safe ∈ lw_g := g_in (List.mem_of_getElem? (i := 1148) (by decide +kernel)) rfl
theorem w_1149 : Cond.instanceMethod yX9_safe ∈ lw_g := g_in (List.mem_of_getElem? (i := 1149) (by decide +kernel)) rfl
theorem w_1150 : Cond.selects yX9_safe.cls yX9_safe yX9_safe ∈ lw_g := g_in (List.mem_of_getElem? (i := 1150) (by decide +kernel)) rfl
theorem w_1151 : Cond.code yX9_safe cX9_safe 2 (some .int) ∈ lw_g := g_in (List.mem_of_getElem? (i := 1151) (by decide +kernel)) rfl
theorem w_486 : Cond.methodLink RL 38 yX8_barriers ∈ lw_g := g_in (List.mem_of_getElem? (i := 486) (by decide +kernel)) rfl
theorem w_487 : Cond.instanceMethod yX8_barriers ∈ lw_g := g_in (List.mem_of_getElem? (i := 487) (by decide +kernel)) rfl
theorem w_488 : Cond.selects yX8_barriers.cls yX8_barriers yX8_barriers ∈ lw_g := g_in (List.mem_of_getElem? (i := 488) (by decide +kernel)) rfl
theorem w_489 : Cond.code yX8_barriers cX8_barriers 3 (some .int) ∈ lw_g := g_in (List.mem_of_getElem? (i := 489) (by decide +kernel)) rfl
theorem w_1172 : Cond.methodLink RL 41 yX9_barriers ∈ lw_g := g_in (List.mem_of_getElem? (i := 1172) (by decide +kernel)) rfl
theorem w_1173 : Cond.instanceMethod yX9_barriers ∈ lw_g := g_in (List.mem_of_getElem? (i := 1173) (by decide +kernel)) rfl
theorem w_1174 : Cond.selects yX9_barriers.cls yX9_barriers yX9_barriers ∈ lw_g := g_in (List.mem_of_getElem? (i := 1174) (by decide +kernel)) rfl
theorem w_1175 : Cond.code yX9_barriers cX9_barriers 3 (some .int) ∈ lw_g := g_in (List.mem_of_getElem? (i := 1175) (by decide +kernel)) rfl
theorem w_495 : Cond.methodLink RL 42 yX8_apart ∈ lw_g := g_in (List.mem_of_getElem? (i := 495) (by decide +kernel)) rfl
theorem w_496 : Cond.instanceMethod yX8_apart ∈ lw_g := g_in (List.mem_of_getElem? (i := 496) (by decide +kernel)) rfl
theorem w_497 : Cond.selects yX8_apart.cls yX8_apart yX8_apart ∈ lw_g := g_in (List.mem_of_getElem? (i := 497) (by decide +kernel)) rfl
theorem w_498 : Cond.code yX8_apart cX8_apart 3 (some .int) ∈ lw_g := g_in (List.mem_of_getElem? (i := 498) (by decide +kernel)) rfl
theorem w_1180 : Cond.methodLink RL 45 yX9_apart ∈ lw_g := g_in (List.mem_of_getElem? (i := 1180) (by decide +kernel)) rfl
theorem w_1181 : Cond.instanceMethod yX9_apart ∈ lw_g := g_in (List.mem_of_getElem? (i := 1181) (by decide +kernel)) rfl
theorem w_1182 : Cond.selects yX9_apart.cls yX9_apart yX9_apart ∈ lw_g := g_in (List.mem_of_getElem? (i := 1182) (by decide +kernel)) rfl
theorem w_1183 : Cond.code yX9_apart cX9_apart 3 (some .int) ∈ lw_g := g_in (List.mem_of_getElem? (i := 1183) (by decide +kernel)) rfl
theorem w_503 : Cond.methodLink RL 46 yX8_go ∈ lw_g := g_in (List.mem_of_getElem? (i := 503) (by decide +kernel)) rfl
theorem w_504 : Cond.instanceMethod yX8_go ∈ lw_g := g_in (List.mem_of_getElem? (i := 504) (by decide +kernel)) rfl
theorem w_505 : Cond.selects yX8_go.cls yX8_go yX8_go ∈ lw_g := g_in (List.mem_of_getElem? (i := 505) (by decide +kernel)) rfl
theorem w_506 : Cond.code yX8_go cX8_go 2 (some .int) ∈ lw_g := g_in (List.mem_of_getElem? (i := 506) (by decide +kernel)) rfl
theorem w_1184 : Cond.methodLink RL 49 yX9_go ∈ lw_g := g_in (List.mem_of_getElem? (i := 1184) (by decide +kernel)) rfl
theorem w_1185 : Cond.instanceMethod yX9_go ∈ lw_g := g_in (List.mem_of_getElem? (i := 1185) (by decide +kernel)) rfl
theorem w_1186 : Cond.selects yX9_go.cls yX9_go yX9_go ∈ lw_g := g_in (List.mem_of_getElem? (i := 1186) (by decide +kernel)) rfl
theorem w_1187 : Cond.code yX9_go cX9_go 3 (some .int) ∈ lw_g := g_in (List.mem_of_getElem? (i := 1187) (by decide +kernel)) rfl
theorem w_515 : Cond.methodLink RL 52 yX8_feed ∈ lw_g := g_in (List.mem_of_getElem? (i := 515) (by decide +kernel)) rfl
theorem w_516 : Cond.instanceMethod yX8_feed ∈ lw_g := g_in (List.mem_of_getElem? (i := 516) (by decide +kernel)) rfl
theorem w_517 : Cond.selects yX8_feed.cls yX8_feed yX8_feed ∈ lw_g := g_in (List.mem_of_getElem? (i := 517) (by decide +kernel)) rfl
theorem w_518 : Cond.code yX8_feed cX8_feed 4 (some .int) ∈ lw_g := g_in (List.mem_of_getElem? (i := 518) (by decide +kernel)) rfl
theorem w_1192 : Cond.methodLink RL 56 yX9_feed ∈ lw_g := g_in (List.mem_of_getElem? (i := 1192) (by decide +kernel)) rfl
theorem w_1193 : Cond.instanceMethod yX9_feed ∈ lw_g := g_in (List.mem_of_getElem? (i := 1193) (by decide +kernel)) rfl
theorem w_1194 : Cond.selects yX9_feed.cls yX9_feed yX9_feed ∈ lw_g := g_in (List.mem_of_getElem? (i := 1194) (by decide +kernel)) rfl
theorem w_1195 : Cond.code yX9_feed cX9_feed 5 (some .int) ∈ lw_g := g_in (List.mem_of_getElem? (i := 1195) (by decide +kernel)) rfl
theorem w_524 : Cond.methodLink RL 57 yX8_rule ∈ lw_g := g_in (List.mem_of_getElem? (i := 524) (by decide +kernel)) rfl
theorem w_525 : Cond.instanceMethod yX8_rule ∈ lw_g := g_in (List.mem_of_getElem? (i := 525) (by decide +kernel)) rfl
theorem w_526 : Cond.selects yX8_rule.cls yX8_rule yX8_rule ∈ lw_g := g_in (List.mem_of_getElem? (i := 526) (by decide +kernel)) rfl
theorem w_527 : Cond.code yX8_rule cX8_rule 2 (some .int) ∈ lw_g := g_in (List.mem_of_getElem? (i := 527) (by decide +kernel)) rfl
theorem w_1197 : Cond.methodLink RL 61 yX9_rule ∈ lw_g := g_in (List.mem_of_getElem? (i := 1197) (by decide +kernel)) rfl
theorem w_1198 : Cond.instanceMethod yX9_rule ∈ lw_g := g_in (List.mem_of_getElem? (i := 1198) (by decide +kernel)) rfl
theorem w_1199 : Cond.selects yX9_rule.cls yX9_rule yX9_rule ∈ lw_g := g_in (List.mem_of_getElem? (i := 1199) (by decide +kernel)) rfl
theorem w_1200 : Cond.code yX9_rule cX9_rule 1 (some .int) ∈ lw_g := g_in (List.mem_of_getElem? (i := 1200) (by decide +kernel)) rfl
theorem w_639 : Cond.methodLink RL 62 yX8_strike ∈ lw_g := g_in (List.mem_of_getElem? (i := 639) (by decide +kernel)) rfl
theorem w_640 : Cond.instanceMethod yX8_strike ∈ lw_g := g_in (List.mem_of_getElem? (i := 640) (by decide +kernel)) rfl
theorem w_641 : Cond.selects yX8_strike.cls yX8_strike yX8_strike ∈ lw_g := g_in (List.mem_of_getElem? (i := 641) (by decide +kernel)) rfl
theorem w_642 : Cond.code yX8_strike cX8_strike 2 (some .int) ∈ lw_g := g_in (List.mem_of_getElem? (i := 642) (by decide +kernel)) rfl
theorem w_1260 : Cond.methodLink RL 65 yX9_strike ∈ lw_g := g_in (List.mem_of_getElem? (i := 1260) (by decide +kernel)) rfl
theorem w_1261 : Cond.instanceMethod yX9_strike ∈ lw_g := g_in (List.mem_of_getElem? (i := 1261) (by decide +kernel)) rfl
theorem w_1262 : Cond.selects yX9_strike.cls yX9_strike yX9_strike ∈ lw_g := g_in (List.mem_of_getElem? (i := 1262) (by decide +kernel)) rfl
theorem w_1263 : Cond.code yX9_strike cX9_strike 2 (some .int) ∈ lw_g := g_in (List.mem_of_getElem? (i := 1263) (by decide +kernel)) rfl
theorem w_647 : Cond.methodLink RL 66 yX8_ruleOf ∈ lw_g := g_in (List.mem_of_getElem? (i := 647) (by decide +kernel)) rfl
theorem w_648 : Cond.instanceMethod yX8_ruleOf ∈ lw_g := g_in (List.mem_of_getElem? (i := 648) (by decide +kernel)) rfl
theorem w_649 : Cond.selects yX8_ruleOf.cls yX8_ruleOf yX8_ruleOf ∈ lw_g := g_in (List.mem_of_getElem? (i := 649) (by decide +kernel)) rfl
theorem w_650 : Cond.code yX8_ruleOf cX8_ruleOf 3 (some .int) ∈ lw_g := g_in (List.mem_of_getElem? (i := 650) (by decide +kernel)) rfl
theorem w_1268 : Cond.methodLink RL 69 yX9_ruleOf ∈ lw_g := g_in (List.mem_of_getElem? (i := 1268) (by decide +kernel)) rfl
theorem w_1269 : Cond.instanceMethod yX9_ruleOf ∈ lw_g := g_in (List.mem_of_getElem? (i := 1269) (by decide +kernel)) rfl
theorem w_1270 : Cond.selects yX9_ruleOf.cls yX9_ruleOf yX9_ruleOf ∈ lw_g := g_in (List.mem_of_getElem? (i := 1270) (by decide +kernel)) rfl
theorem w_1271 : Cond.code yX9_ruleOf cX9_ruleOf 3 (some .int) ∈ lw_g := g_in (List.mem_of_getElem? (i := 1271) (by decide +kernel)) rfl
theorem w_652 : Cond.methodLink RL 70 yX8_ask ∈ lw_g := g_in (List.mem_of_getElem? (i := 652) (by decide +kernel)) rfl
theorem w_653 : Cond.instanceMethod yX8_ask ∈ lw_g := g_in (List.mem_of_getElem? (i := 653) (by decide +kernel)) rfl
theorem w_654 : Cond.selects yX8_ask.cls yX8_ask yX8_ask ∈ lw_g := g_in (List.mem_of_getElem? (i := 654) (by decide +kernel)) rfl
theorem w_655 : Cond.code yX8_ask cX8_ask 4 (some .int) ∈ lw_g := g_in (List.mem_of_getElem? (i := 655) (by decide +kernel)) rfl
theorem w_1272 : Cond.methodLink RL 73 yX9_ask ∈ lw_g := g_in (List.mem_of_getElem? (i := 1272) (by decide +kernel)) rfl
theorem w_1273 : Cond.instanceMethod yX9_ask ∈ lw_g := g_in (List.mem_of_getElem? (i := 1273) (by decide +kernel)) rfl
theorem w_1274 : Cond.selects yX9_ask.cls yX9_ask yX9_ask ∈ lw_g := g_in (List.mem_of_getElem? (i := 1274) (by decide +kernel)) rfl
theorem w_1275 : Cond.code yX9_ask cX9_ask 5 (some .int) ∈ lw_g := g_in (List.mem_of_getElem? (i := 1275) (by decide +kernel)) rfl
theorem w_664 : Cond.methodLink RL 74 yX8_hold ∈ lw_g := g_in (List.mem_of_getElem? (i := 664) (by decide +kernel)) rfl
theorem w_665 : Cond.instanceMethod yX8_hold ∈ lw_g := g_in (List.mem_of_getElem? (i := 665) (by decide +kernel)) rfl
theorem w_666 : Cond.selects yX8_hold.cls yX8_hold yX8_hold ∈ lw_g := g_in (List.mem_of_getElem? (i := 666) (by decide +kernel)) rfl
theorem w_667 : Cond.code yX8_hold cX8_hold 5 (some .int) ∈ lw_g := g_in (List.mem_of_getElem? (i := 667) (by decide +kernel)) rfl
theorem w_1276 : Cond.methodLink RL 77 yX9_hold ∈ lw_g := g_in (List.mem_of_getElem? (i := 1276) (by decide +kernel)) rfl
theorem w_1277 : Cond.instanceMethod yX9_hold ∈ lw_g := g_in (List.mem_of_getElem? (i := 1277) (by decide +kernel)) rfl
theorem w_1278 : Cond.selects yX9_hold.cls yX9_hold yX9_hold ∈ lw_g := g_in (List.mem_of_getElem? (i := 1278) (by decide +kernel)) rfl
theorem w_1279 : Cond.code yX9_hold cX9_hold 4 (some .int) ∈ lw_g := g_in (List.mem_of_getElem? (i := 1279) (by decide +kernel)) rfl
theorem w_680 : Cond.methodLink RL 78 yX8_isolate ∈ lw_g := g_in (List.mem_of_getElem? (i := 680) (by decide +kernel)) rfl
theorem w_681 : Cond.instanceMethod yX8_isolate ∈ lw_g := g_in (List.mem_of_getElem? (i := 681) (by decide +kernel)) rfl
theorem w_682 : Cond.selects yX8_isolate.cls yX8_isolate yX8_isolate ∈ lw_g := g_in (List.mem_of_getElem? (i := 682) (by decide +kernel)) rfl
theorem w_683 : Cond.code yX8_isolate cX8_isolate 4 (some .int) ∈ lw_g := g_in (List.mem_of_getElem? (i := 683) (by decide +kernel)) rfl
theorem w_1287 : Cond.methodLink RL 81 yX9_isolate ∈ lw_g := g_in (List.mem_of_getElem? (i := 1287) (by decide +kernel)) rfl
theorem w_1288 : Cond.instanceMethod yX9_isolate ∈ lw_g := g_in (List.mem_of_getElem? (i := 1288) (by decide +kernel)) rfl
theorem w_1289 : Cond.selects yX9_isolate.cls yX9_isolate yX9_isolate ∈ lw_g := g_in (List.mem_of_getElem? (i := 1289) (by decide +kernel)) rfl
theorem w_1290 : Cond.code yX9_isolate cX9_isolate 3 (some .int) ∈ lw_g := g_in (List.mem_of_getElem? (i := 1290) (by decide +kernel)) rfl
theorem w_757 : Cond.methodLink RL 82 yX8_test ∈ lw_g := g_in (List.mem_of_getElem? (i := 757) (by decide +kernel)) rfl
theorem w_758 : Cond.instanceMethod yX8_test ∈ lw_g := g_in (List.mem_of_getElem? (i := 758) (by decide +kernel)) rfl
theorem w_759 : Cond.selects yX8_test.cls yX8_test yX8_test ∈ lw_g := g_in (List.mem_of_getElem? (i := 759) (by decide +kernel)) rfl
theorem w_760 : Cond.code yX8_test cX8_test 4 (some .int) ∈ lw_g := g_in (List.mem_of_getElem? (i := 760) (by decide +kernel)) rfl
theorem w_1342 : Cond.methodLink RL 85 yX9_test ∈ lw_g := g_in (List.mem_of_getElem? (i := 1342) (by decide +kernel)) rfl
theorem w_1343 : Cond.instanceMethod yX9_test ∈ lw_g := g_in (List.mem_of_getElem? (i := 1343) (by decide +kernel)) rfl
theorem w_1344 : Cond.selects yX9_test.cls yX9_test yX9_test ∈ lw_g := g_in (List.mem_of_getElem? (i := 1344) (by decide +kernel)) rfl
theorem w_1345 : Cond.code yX9_test cX9_test 3 (some .int) ∈ lw_g := g_in (List.mem_of_getElem? (i := 1345) (by decide +kernel)) rfl
theorem w_765 : Cond.methodLink RL 86 yX8_start ∈ lw_g := g_in (List.mem_of_getElem? (i := 765) (by decide +kernel)) rfl
theorem w_766 : Cond.instanceMethod yX8_start ∈ lw_g := g_in (List.mem_of_getElem? (i := 766) (by decide +kernel)) rfl
theorem w_767 : Cond.selects yX8_start.cls yX8_start yX8_start ∈ lw_g := g_in (List.mem_of_getElem? (i := 767) (by decide +kernel)) rfl
theorem w_768 : Cond.code yX8_start cX8_start 3 (some .int) ∈ lw_g := g_in (List.mem_of_getElem? (i := 768) (by decide +kernel)) rfl
theorem w_1346 : Cond.methodLink RL 89 yX9_start ∈ lw_g := g_in (List.mem_of_getElem? (i := 1346) (by decide +kernel)) rfl
theorem w_1347 : Cond.instanceMethod yX9_start ∈ lw_g := g_in (List.mem_of_getElem? (i := 1347) (by decide +kernel)) rfl
theorem w_1348 : Cond.selects yX9_start.cls yX9_start yX9_start ∈ lw_g := g_in (List.mem_of_getElem? (i := 1348) (by decide +kernel)) rfl
theorem w_1349 : Cond.code yX9_start cX9_start 3 (some .int) ∈ lw_g := g_in (List.mem_of_getElem? (i := 1349) (by decide +kernel)) rfl
theorem w_769 : Cond.methodLink RL 90 yX8_hang ∈ lw_g := g_in (List.mem_of_getElem? (i := 769) (by decide +kernel)) rfl
theorem w_770 : Cond.instanceMethod yX8_hang ∈ lw_g := g_in (List.mem_of_getElem? (i := 770) (by decide +kernel)) rfl
theorem w_771 : Cond.selects yX8_hang.cls yX8_hang yX8_hang ∈ lw_g := g_in (List.mem_of_getElem? (i := 771) (by decide +kernel)) rfl
theorem w_772 : Cond.code yX8_hang cX8_hang 3 (some .int) ∈ lw_g := g_in (List.mem_of_getElem? (i := 772) (by decide +kernel)) rfl
theorem w_1350 : Cond.methodLink RL 93 yX9_hang ∈ lw_g := g_in (List.mem_of_getElem? (i := 1350) (by decide +kernel)) rfl
theorem w_1351 : Cond.instanceMethod yX9_hang ∈ lw_g := g_in (List.mem_of_getElem? (i := 1351) (by decide +kernel)) rfl
theorem w_1352 : Cond.selects yX9_hang.cls yX9_hang yX9_hang ∈ lw_g := g_in (List.mem_of_getElem? (i := 1352) (by decide +kernel)) rfl
theorem w_1353 : Cond.code yX9_hang cX9_hang 3 (some .int) ∈ lw_g := g_in (List.mem_of_getElem? (i := 1353) (by decide +kernel)) rfl
theorem w_777 : Cond.methodLink RL 94 yX8_back ∈ lw_g := g_in (List.mem_of_getElem? (i := 777) (by decide +kernel)) rfl
theorem w_778 : Cond.instanceMethod yX8_back ∈ lw_g := g_in (List.mem_of_getElem? (i := 778) (by decide +kernel)) rfl
theorem w_779 : Cond.selects yX8_back.cls yX8_back yX8_back ∈ lw_g := g_in (List.mem_of_getElem? (i := 779) (by decide +kernel)) rfl
theorem w_780 : Cond.code yX8_back cX8_back 4 (some .int) ∈ lw_g := g_in (List.mem_of_getElem? (i := 780) (by decide +kernel)) rfl
theorem w_1358 : Cond.methodLink RL 97 yX9_back ∈ lw_g := g_in (List.mem_of_getElem? (i := 1358) (by decide +kernel)) rfl
theorem w_1359 : Cond.instanceMethod yX9_back ∈ lw_g := g_in (List.mem_of_getElem? (i := 1359) (by decide +kernel)) rfl
theorem w_1360 : Cond.selects yX9_back.cls yX9_back yX9_back ∈ lw_g := g_in (List.mem_of_getElem? (i := 1360) (by decide +kernel)) rfl
theorem w_1361 : Cond.code yX9_back cX9_back 4 (some .int) ∈ lw_g := g_in (List.mem_of_getElem? (i := 1361) (by decide +kernel)) rfl
theorem w_781 : Cond.methodLink RL 98 yX8_may ∈ lw_g := g_in (List.mem_of_getElem? (i := 781) (by decide +kernel)) rfl
theorem w_782 : Cond.instanceMethod yX8_may ∈ lw_g := g_in (List.mem_of_getElem? (i := 782) (by decide +kernel)) rfl
theorem w_783 : Cond.selects yX8_may.cls yX8_may yX8_may ∈ lw_g := g_in (List.mem_of_getElem? (i := 783) (by decide +kernel)) rfl
theorem w_784 : Cond.code yX8_may cX8_may 3 (some .int) ∈ lw_g := g_in (List.mem_of_getElem? (i := 784) (by decide +kernel)) rfl
theorem w_1362 : Cond.methodLink RL 101 yX9_may ∈ lw_g := g_in (List.mem_of_getElem? (i := 1362) (by decide +kernel)) rfl
theorem w_1363 : Cond.instanceMethod yX9_may ∈ lw_g := g_in (List.mem_of_getElem? (i := 1363) (by decide +kernel)) rfl
theorem w_1364 : Cond.selects yX9_may.cls yX9_may yX9_may ∈ lw_g := g_in (List.mem_of_getElem? (i := 1364) (by decide +kernel)) rfl
theorem w_1365 : Cond.code yX9_may cX9_may 3 (some .int) ∈ lw_g := g_in (List.mem_of_getElem? (i := 1365) (by decide +kernel)) rfl
theorem w_785 : Cond.methodLink RL 102 yX8_quarrels ∈ lw_g := g_in (List.mem_of_getElem? (i := 785) (by decide +kernel)) rfl
theorem w_786 : Cond.instanceMethod yX8_quarrels ∈ lw_g := g_in (List.mem_of_getElem? (i := 786) (by decide +kernel)) rfl
theorem w_787 : Cond.selects yX8_quarrels.cls yX8_quarrels yX8_quarrels ∈ lw_g := g_in (List.mem_of_getElem? (i := 787) (by decide +kernel)) rfl
theorem w_788 : Cond.code yX8_quarrels cX8_quarrels 2 (some .int) ∈ lw_g := g_in (List.mem_of_getElem? (i := 788) (by decide +kernel)) rfl
theorem w_1366 : Cond.methodLink RL 105 yX9_quarrels ∈ lw_g := g_in (List.mem_of_getElem? (i := 1366) (by decide +kernel)) rfl
theorem w_1367 : Cond.instanceMethod yX9_quarrels ∈ lw_g := g_in (List.mem_of_getElem? (i := 1367) (by decide +kernel)) rfl
theorem w_1368 : Cond.selects yX9_quarrels.cls yX9_quarrels yX9_quarrels ∈ lw_g := g_in (List.mem_of_getElem? (i := 1368) (by decide +kernel)) rfl
theorem w_1369 : Cond.code yX9_quarrels cX9_quarrels 2 (some .int) ∈ lw_g := g_in (List.mem_of_getElem? (i := 1369) (by decide +kernel)) rfl
theorem w_790 : Cond.methodLink RL 106 yX8_permitOf ∈ lw_g := g_in (List.mem_of_getElem? (i := 790) (by decide +kernel)) rfl
theorem w_791 : Cond.instanceMethod yX8_permitOf ∈ lw_g := g_in (List.mem_of_getElem? (i := 791) (by decide +kernel)) rfl
theorem w_792 : Cond.selects yX8_permitOf.cls yX8_permitOf yX8_permitOf ∈ lw_g := g_in (List.mem_of_getElem? (i := 792) (by decide +kernel)) rfl
theorem w_793 : Cond.code yX8_permitOf cX8_permitOf 3 (some .int) ∈ lw_g := g_in (List.mem_of_getElem? (i := 793) (by decide +kernel)) rfl
theorem w_1370 : Cond.methodLink RL 109 yX9_permitOf ∈ lw_g := g_in (List.mem_of_getElem? (i := 1370) (by decide +kernel)) rfl
theorem w_1371 : Cond.instanceMethod yX9_permitOf ∈ lw_g := g_in (List.mem_of_getElem? (i := 1371) (by decide +kernel)) rfl
theorem w_1372 : Cond.selects yX9_permitOf.cls yX9_permitOf yX9_permitOf ∈ lw_g := g_in (List.mem_of_getElem? (i := 1372) (by decide +kernel)) rfl
theorem w_1373 : Cond.code yX9_permitOf cX9_permitOf 3 (some .int) ∈ lw_g := g_in (List.mem_of_getElem? (i := 1373) (by decide +kernel)) rfl
theorem w_795 : Cond.methodLink RL 110 yX8_enter ∈ lw_g := g_in (List.mem_of_getElem? (i := 795) (by decide +kernel)) rfl
theorem w_796 : Cond.instanceMethod yX8_enter ∈ lw_g := g_in (List.mem_of_getElem? (i := 796) (by decide +kernel)) rfl
theorem w_797 : Cond.selects yX8_enter.cls yX8_enter yX8_enter ∈ lw_g := g_in (List.mem_of_getElem? (i := 797) (by decide +kernel)) rfl
theorem w_798 : Cond.code yX8_enter cX8_enter 4 (some .int) ∈ lw_g := g_in (List.mem_of_getElem? (i := 798) (by decide +kernel)) rfl
theorem w_1374 : Cond.methodLink RL 113 yX9_enter ∈ lw_g := g_in (List.mem_of_getElem? (i := 1374) (by decide +kernel)) rfl
theorem w_1375 : Cond.instanceMethod yX9_enter ∈ lw_g := g_in (List.mem_of_getElem? (i := 1375) (by decide +kernel)) rfl
theorem w_1376 : Cond.selects yX9_enter.cls yX9_enter yX9_enter ∈ lw_g := g_in (List.mem_of_getElem? (i := 1376) (by decide +kernel)) rfl
theorem w_1377 : Cond.code yX9_enter cX9_enter 4 (some .int) ∈ lw_g := g_in (List.mem_of_getElem? (i := 1377) (by decide +kernel)) rfl
theorem w_799 : Cond.methodLink RL 114 yX8_leave ∈ lw_g := g_in (List.mem_of_getElem? (i := 799) (by decide +kernel)) rfl
theorem w_800 : Cond.instanceMethod yX8_leave ∈ lw_g := g_in (List.mem_of_getElem? (i := 800) (by decide +kernel)) rfl
theorem w_801 : Cond.selects yX8_leave.cls yX8_leave yX8_leave ∈ lw_g := g_in (List.mem_of_getElem? (i := 801) (by decide +kernel)) rfl
theorem w_802 : Cond.code yX8_leave cX8_leave 3 (some .int) ∈ lw_g := g_in (List.mem_of_getElem? (i := 802) (by decide +kernel)) rfl
theorem w_1378 : Cond.methodLink RL 117 yX9_leave ∈ lw_g := g_in (List.mem_of_getElem? (i := 1378) (by decide +kernel)) rfl
theorem w_1379 : Cond.instanceMethod yX9_leave ∈ lw_g := g_in (List.mem_of_getElem? (i := 1379) (by decide +kernel)) rfl
theorem w_1380 : Cond.selects yX9_leave.cls yX9_leave yX9_leave ∈ lw_g := g_in (List.mem_of_getElem? (i := 1380) (by decide +kernel)) rfl
theorem w_1381 : Cond.code yX9_leave cX9_leave 3 (some .int) ∈ lw_g := g_in (List.mem_of_getElem? (i := 1381) (by decide +kernel)) rfl
theorem w_803 : Cond.methodLink RL 118 yX8_shift ∈ lw_g := g_in (List.mem_of_getElem? (i := 803) (by decide +kernel)) rfl
theorem w_804 : Cond.instanceMethod yX8_shift ∈ lw_g := g_in (List.mem_of_getElem? (i := 804) (by decide +kernel)) rfl
theorem w_805 : Cond.selects yX8_shift.cls yX8_shift yX8_shift ∈ lw_g := g_in (List.mem_of_getElem? (i := 805) (by decide +kernel)) rfl
theorem w_806 : Cond.code yX8_shift cX8_shift 4 (some .int) ∈ lw_g := g_in (List.mem_of_getElem? (i := 806) (by decide +kernel)) rfl
theorem w_1382 : Cond.methodLink RL 121 yX9_shift ∈ lw_g := g_in (List.mem_of_getElem? (i := 1382) (by decide +kernel)) rfl
theorem w_1383 : Cond.instanceMethod yX9_shift ∈ lw_g := g_in (List.mem_of_getElem? (i := 1383) (by decide +kernel)) rfl
theorem w_1384 : Cond.selects yX9_shift.cls yX9_shift yX9_shift ∈ lw_g := g_in (List.mem_of_getElem? (i := 1384) (by decide +kernel)) rfl
theorem w_1385 : Cond.code yX9_shift cX9_shift 3 (some .int) ∈ lw_g := g_in (List.mem_of_getElem? (i := 1385) (by decide +kernel)) rfl
theorem w_815 : Cond.methodLink RL 122 yX8_siren ∈ lw_g := g_in (List.mem_of_getElem? (i := 815) (by decide +kernel)) rfl
theorem w_816 : Cond.instanceMethod yX8_siren ∈ lw_g := g_in (List.mem_of_getElem? (i := 816) (by decide +kernel)) rfl
theorem w_817 : Cond.selects yX8_siren.cls yX8_siren yX8_siren ∈ lw_g := g_in (List.mem_of_getElem? (i := 817) (by decide +kernel)) rfl
theorem w_818 : Cond.code yX8_siren cX8_siren 2 (some .int) ∈ lw_g := g_in (List.mem_of_getElem? (i := 818) (by decide +kernel)) rfl
theorem w_1390 : Cond.methodLink RL 125 yX9_siren ∈ lw_g := g_in (List.mem_of_getElem? (i := 1390) (by decide +kernel)) rfl
theorem w_1391 : Cond.instanceMethod yX9_siren ∈ lw_g := g_in (List.mem_of_getElem? (i := 1391) (by decide +kernel)) rfl
theorem w_1392 : Cond.selects yX9_siren.cls yX9_siren yX9_siren ∈ lw_g := g_in (List.mem_of_getElem? (i := 1392) (by decide +kernel)) rfl
theorem w_1393 : Cond.code yX9_siren cX9_siren 3 (some .int) ∈ lw_g := g_in (List.mem_of_getElem? (i := 1393) (by decide +kernel)) rfl
theorem w_833 : Cond.methodLink RL 126 yX8_least ∈ lw_g := g_in (List.mem_of_getElem? (i := 833) (by decide +kernel)) rfl
theorem w_834 : Cond.instanceMethod yX8_least ∈ lw_g := g_in (List.mem_of_getElem? (i := 834) (by decide +kernel)) rfl
theorem w_835 : Cond.selects yX8_least.cls yX8_least yX8_least ∈ lw_g := g_in (List.mem_of_getElem? (i := 835) (by decide +kernel)) rfl
theorem w_836 : Cond.code yX8_least cX8_least 3 (some .int) ∈ lw_g := g_in (List.mem_of_getElem? (i := 836) (by decide +kernel)) rfl
theorem w_1394 : Cond.methodLink RL 129 yX9_least ∈ lw_g := g_in (List.mem_of_getElem? (i := 1394) (by decide +kernel)) rfl
theorem w_1395 : Cond.instanceMethod yX9_least ∈ lw_g := g_in (List.mem_of_getElem? (i := 1395) (by decide +kernel)) rfl
theorem w_1396 : Cond.selects yX9_least.cls yX9_least yX9_least ∈ lw_g := g_in (List.mem_of_getElem? (i := 1396) (by decide +kernel)) rfl
theorem w_1397 : Cond.code yX9_least cX9_least 3 (some .int) ∈ lw_g := g_in (List.mem_of_getElem? (i := 1397) (by decide +kernel)) rfl
theorem w_864 : Cond.methodLink RL 130 yX8_leastSet ∈ lw_g := g_in (List.mem_of_getElem? (i := 864) (by decide +kernel)) rfl
theorem w_1413 : Cond.methodLink RL 133 yX9_leastSet ∈ lw_g := g_in (List.mem_of_getElem? (i := 1413) (by decide +kernel)) rfl
theorem w_1414 : Cond.instanceMethod yX9_leastSet ∈ lw_g := g_in (List.mem_of_getElem? (i := 1414) (by decide +kernel)) rfl
theorem w_1415 : Cond.selects yX9_leastSet.cls yX9_leastSet yX9_leastSet ∈ lw_g := g_in (List.mem_of_getElem? (i := 1415) (by decide +kernel)) rfl
theorem w_1416 : Cond.code yX9_leastSet cX9_leastSet 3 (some .int) ∈ lw_g := g_in (List.mem_of_getElem? (i := 1416) (by decide +kernel)) rfl
theorem w_865 : Cond.methodLink RL 134 yX8_risk ∈ lw_g := g_in (List.mem_of_getElem? (i := 865) (by decide +kernel)) rfl
theorem w_866 : Cond.instanceMethod yX8_risk ∈ lw_g := g_in (List.mem_of_getElem? (i := 866) (by decide +kernel)) rfl
theorem w_867 : Cond.selects yX8_risk.cls yX8_risk yX8_risk ∈ lw_g := g_in (List.mem_of_getElem? (i := 867) (by decide +kernel)) rfl
theorem w_868 : Cond.code yX8_risk cX8_risk 7 (some .int) ∈ lw_g := g_in (List.mem_of_getElem? (i := 868) (by decide +kernel)) rfl
theorem w_1417 : Cond.methodLink RL 137 yX9_risk ∈ lw_g := g_in (List.mem_of_getElem? (i := 1417) (by decide +kernel)) rfl
theorem w_1418 : Cond.instanceMethod yX9_risk ∈ lw_g := g_in (List.mem_of_getElem? (i := 1418) (by decide +kernel)) rfl
theorem w_1419 : Cond.selects yX9_risk.cls yX9_risk yX9_risk ∈ lw_g := g_in (List.mem_of_getElem? (i := 1419) (by decide +kernel)) rfl
theorem w_1420 : Cond.code yX9_risk cX9_risk 5 (some .int) ∈ lw_g := g_in (List.mem_of_getElem? (i := 1420) (by decide +kernel)) rfl
theorem w_869 : Cond.methodLink RL 138 yX8_right ∈ lw_g := g_in (List.mem_of_getElem? (i := 869) (by decide +kernel)) rfl
theorem w_870 : Cond.instanceMethod yX8_right ∈ lw_g := g_in (List.mem_of_getElem? (i := 870) (by decide +kernel)) rfl
theorem w_871 : Cond.selects yX8_right.cls yX8_right yX8_right ∈ lw_g := g_in (List.mem_of_getElem? (i := 871) (by decide +kernel)) rfl
theorem w_872 : Cond.code yX8_right cX8_right 6 (some .int) ∈ lw_g := g_in (List.mem_of_getElem? (i := 872) (by decide +kernel)) rfl
theorem w_1421 : Cond.methodLink RL 141 yX9_right ∈ lw_g := g_in (List.mem_of_getElem? (i := 1421) (by decide +kernel)) rfl
theorem w_1422 : Cond.instanceMethod yX9_right ∈ lw_g := g_in (List.mem_of_getElem? (i := 1422) (by decide +kernel)) rfl
theorem w_1423 : Cond.selects yX9_right.cls yX9_right yX9_right ∈ lw_g := g_in (List.mem_of_getElem? (i := 1423) (by decide +kernel)) rfl
theorem w_1424 : Cond.code yX9_right cX9_right 6 (some .int) ∈ lw_g := g_in (List.mem_of_getElem? (i := 1424) (by decide +kernel)) rfl
theorem w_881 : Cond.methodLink RL 142 yX8_order ∈ lw_g := g_in (List.mem_of_getElem? (i := 881) (by decide +kernel)) rfl
theorem w_882 : Cond.instanceMethod yX8_order ∈ lw_g := g_in (List.mem_of_getElem? (i := 882) (by decide +kernel)) rfl
theorem w_883 : Cond.selects yX8_order.cls yX8_order yX8_order ∈ lw_g := g_in (List.mem_of_getElem? (i := 883) (by decide +kernel)) rfl
theorem w_884 : Cond.code yX8_order cX8_order 1 (some .int) ∈ lw_g := g_in (List.mem_of_getElem? (i := 884) (by decide +kernel)) rfl
theorem w_1425 : Cond.methodLink RL 145 yX9_order ∈ lw_g := g_in (List.mem_of_getElem? (i := 1425) (by decide +kernel)) rfl
theorem w_1426 : Cond.instanceMethod yX9_order ∈ lw_g := g_in (List.mem_of_getElem? (i := 1426) (by decide +kernel)) rfl
theorem w_1427 : Cond.selects yX9_order.cls yX9_order yX9_order ∈ lw_g := g_in (List.mem_of_getElem? (i := 1427) (by decide +kernel)) rfl
theorem w_1428 : Cond.code yX9_order cX9_order 10 (some .int) ∈ lw_g := g_in (List.mem_of_getElem? (i := 1428) (by decide +kernel)) rfl
theorem w_920 : Cond.methodLink RL 146 yX8_ordered ∈ lw_g := g_in (List.mem_of_getElem? (i := 920) (by decide +kernel)) rfl
theorem w_921 : Cond.instanceMethod yX8_ordered ∈ lw_g := g_in (List.mem_of_getElem? (i := 921) (by decide +kernel)) rfl
theorem w_922 : Cond.selects yX8_ordered.cls yX8_ordered yX8_ordered ∈ lw_g := g_in (List.mem_of_getElem? (i := 922) (by decide +kernel)) rfl
theorem w_923 : Cond.code yX8_ordered cX8_ordered 2 (some .int) ∈ lw_g := g_in (List.mem_of_getElem? (i := 923) (by decide +kernel)) rfl
theorem w_1441 : Cond.methodLink RL 149 yX9_ordered ∈ lw_g := g_in (List.mem_of_getElem? (i := 1441) (by decide +kernel)) rfl
theorem w_1442 : Cond.instanceMethod yX9_ordered ∈ lw_g := g_in (List.mem_of_getElem? (i := 1442) (by decide +kernel)) rfl
theorem w_1443 : Cond.selects yX9_ordered.cls yX9_ordered yX9_ordered ∈ lw_g := g_in (List.mem_of_getElem? (i := 1443) (by decide +kernel)) rfl
theorem w_1444 : Cond.code yX9_ordered cX9_ordered 2 (some .int) ∈ lw_g := g_in (List.mem_of_getElem? (i := 1444) (by decide +kernel)) rfl
theorem w_924 : Cond.methodLink RL 150 yX8_row ∈ lw_g := g_in (List.mem_of_getElem? (i := 924) (by decide +kernel)) rfl
theorem w_925 : Cond.instanceMethod yX8_row ∈ lw_g := g_in (List.mem_of_getElem? (i := 925) (by decide +kernel)) rfl
theorem w_926 : Cond.selects yX8_row.cls yX8_row yX8_row ∈ lw_g := g_in (List.mem_of_getElem? (i := 926) (by decide +kernel)) rfl
theorem w_927 : Cond.code yX8_row cX8_row 3 (some .int) ∈ lw_g := g_in (List.mem_of_getElem? (i := 927) (by decide +kernel)) rfl
theorem w_1445 : Cond.methodLink RL 153 yX9_row ∈ lw_g := g_in (List.mem_of_getElem? (i := 1445) (by decide +kernel)) rfl
theorem w_1446 : Cond.instanceMethod yX9_row ∈ lw_g := g_in (List.mem_of_getElem? (i := 1446) (by decide +kernel)) rfl
theorem w_1447 : Cond.selects yX9_row.cls yX9_row yX9_row ∈ lw_g := g_in (List.mem_of_getElem? (i := 1447) (by decide +kernel)) rfl
theorem w_1448 : Cond.code yX9_row cX9_row 3 (some .int) ∈ lw_g := g_in (List.mem_of_getElem? (i := 1448) (by decide +kernel)) rfl
theorem w_928 : Cond.methodLink RL 154 yX8_alter ∈ lw_g := g_in (List.mem_of_getElem? (i := 928) (by decide +kernel)) rfl
theorem w_929 : Cond.instanceMethod yX8_alter ∈ lw_g := g_in (List.mem_of_getElem? (i := 929) (by decide +kernel)) rfl
theorem w_930 : Cond.selects yX8_alter.cls yX8_alter yX8_alter ∈ lw_g := g_in (List.mem_of_getElem? (i := 930) (by decide +kernel)) rfl
theorem w_931 : Cond.code yX8_alter cX8_alter 5 (some .int) ∈ lw_g := g_in (List.mem_of_getElem? (i := 931) (by decide +kernel)) rfl
theorem w_1449 : Cond.methodLink RL 157 yX9_alter ∈ lw_g := g_in (List.mem_of_getElem? (i := 1449) (by decide +kernel)) rfl
theorem w_1450 : Cond.instanceMethod yX9_alter ∈ lw_g := g_in (List.mem_of_getElem? (i := 1450) (by decide +kernel)) rfl
theorem w_1451 : Cond.selects yX9_alter.cls yX9_alter yX9_alter ∈ lw_g := g_in (List.mem_of_getElem? (i := 1451) (by decide +kernel)) rfl
theorem w_1452 : Cond.code yX9_alter cX9_alter 5 (some .int) ∈ lw_g := g_in (List.mem_of_getElem? (i := 1452) (by decide +kernel)) rfl
theorem w_932 : Cond.methodLink RL 158 yX8_drop ∈ lw_g := g_in (List.mem_of_getElem? (i := 932) (by decide +kernel)) rfl
theorem w_933 : Cond.instanceMethod yX8_drop ∈ lw_g := g_in (List.mem_of_getElem? (i := 933) (by decide +kernel)) rfl
theorem w_934 : Cond.selects yX8_drop.cls yX8_drop yX8_drop ∈ lw_g := g_in (List.mem_of_getElem? (i := 934) (by decide +kernel)) rfl
theorem w_935 : Cond.code yX8_drop cX8_drop 1 (some .int) ∈ lw_g := g_in (List.mem_of_getElem? (i := 935) (by decide +kernel)) rfl
theorem w_1453 : Cond.methodLink RL 161 yX9_drop ∈ lw_g := g_in (List.mem_of_getElem? (i := 1453) (by decide +kernel)) rfl
theorem w_1454 : Cond.instanceMethod yX9_drop ∈ lw_g := g_in (List.mem_of_getElem? (i := 1454) (by decide +kernel)) rfl
theorem w_1455 : Cond.selects yX9_drop.cls yX9_drop yX9_drop ∈ lw_g := g_in (List.mem_of_getElem? (i := 1455) (by decide +kernel)) rfl
theorem w_1456 : Cond.code yX9_drop cX9_drop 1 (some .int) ∈ lw_g := g_in (List.mem_of_getElem? (i := 1456) (by decide +kernel)) rfl
theorem w_936 : Cond.methodLink RL 162 yX8_check ∈ lw_g := g_in (List.mem_of_getElem? (i := 936) (by decide +kernel)) rfl
theorem w_937 : Cond.instanceMethod yX8_check ∈ lw_g := g_in (List.mem_of_getElem? (i := 937) (by decide +kernel)) rfl
theorem w_938 : Cond.selects yX8_check.cls yX8_check yX8_check ∈ lw_g := g_in (List.mem_of_getElem? (i := 938) (by decide +kernel)) rfl
theorem w_939 : Cond.code yX8_check cX8_check 1 (some .int) ∈ lw_g := g_in (List.mem_of_getElem? (i := 939) (by decide +kernel)) rfl
theorem w_1457 : Cond.methodLink RL 165 yX9_check ∈ lw_g := g_in (List.mem_of_getElem? (i := 1457) (by decide +kernel)) rfl
theorem w_1458 : Cond.instanceMethod yX9_check ∈ lw_g := g_in (List.mem_of_getElem? (i := 1458) (by decide +kernel)) rfl
theorem w_1459 : Cond.selects yX9_check.cls yX9_check yX9_check ∈ lw_g := g_in (List.mem_of_getElem? (i := 1459) (by decide +kernel)) rfl
theorem w_1460 : Cond.code yX9_check cX9_check 3 (some .int) ∈ lw_g := g_in (List.mem_of_getElem? (i := 1460) (by decide +kernel)) rfl
theorem w_944 : Cond.methodLink RL 166 yX8_many ∈ lw_g := g_in (List.mem_of_getElem? (i := 944) (by decide +kernel)) rfl
theorem w_945 : Cond.instanceMethod yX8_many ∈ lw_g := g_in (List.mem_of_getElem? (i := 945) (by decide +kernel)) rfl
theorem w_946 : Cond.selects yX8_many.cls yX8_many yX8_many ∈ lw_g := g_in (List.mem_of_getElem? (i := 946) (by decide +kernel)) rfl
theorem w_947 : Cond.code yX8_many cX8_many 2 (some .int) ∈ lw_g := g_in (List.mem_of_getElem? (i := 947) (by decide +kernel)) rfl
theorem w_1461 : Cond.methodLink RL 169 yX9_many ∈ lw_g := g_in (List.mem_of_getElem? (i := 1461) (by decide +kernel)) rfl
theorem w_1462 : Cond.instanceMethod yX9_many ∈ lw_g := g_in (List.mem_of_getElem? (i := 1462) (by decide +kernel)) rfl
theorem w_1463 : Cond.selects yX9_many.cls yX9_many yX9_many ∈ lw_g := g_in (List.mem_of_getElem? (i := 1463) (by decide +kernel)) rfl
theorem w_1464 : Cond.code yX9_many cX9_many 2 (some .int) ∈ lw_g := g_in (List.mem_of_getElem? (i := 1464) (by decide +kernel)) rfl
theorem w_1477 : Cond.constantLong RL 50 (4294967295) ∈ lw_g := g_in (List.mem_of_getElem? (i := 1477) (by decide +kernel)) rfl
theorem lv_L_13 : LkV RL 13 yX8_pipe cX8_pipe 4 (some .int) 3 := ⟨(List.forall_mem_cons.mpr ⟨w_398, (List.forall_mem_cons.mpr ⟨w_399, (List.forall_mem_cons.mpr ⟨w_400, (List.forall_mem_cons.mpr ⟨w_78, (List.forall_mem_cons.mpr ⟨w_401, (fun _ h => absurd h List.not_mem_nil)⟩)⟩)⟩)⟩)⟩), by decide +kernel⟩
theorem lv_L_17 : LkV RL 17 yX9_pipe cX9_pipe 4 (some .int) 3 := ⟨(List.forall_mem_cons.mpr ⟨w_1103, (List.forall_mem_cons.mpr ⟨w_1104, (List.forall_mem_cons.mpr ⟨w_1105, (List.forall_mem_cons.mpr ⟨w_87, (List.forall_mem_cons.mpr ⟨w_1106, (fun _ h => absurd h List.not_mem_nil)⟩)⟩)⟩)⟩)⟩), by decide +kernel⟩
theorem lv_L_18 : LkV RL 18 yX8_of cX8_of 3 (some .int) 2 := ⟨(List.forall_mem_cons.mpr ⟨w_409, (List.forall_mem_cons.mpr ⟨w_410, (List.forall_mem_cons.mpr ⟨w_411, (List.forall_mem_cons.mpr ⟨w_78, (List.forall_mem_cons.mpr ⟨w_412, (fun _ h => absurd h List.not_mem_nil)⟩)⟩)⟩)⟩)⟩), by decide +kernel⟩
theorem lv_L_22 : LkV RL 22 yX9_of cX9_of 3 (some .int) 2 := ⟨(List.forall_mem_cons.mpr ⟨w_1113, (List.forall_mem_cons.mpr ⟨w_1114, (List.forall_mem_cons.mpr ⟨w_1115, (List.forall_mem_cons.mpr ⟨w_87, (List.forall_mem_cons.mpr ⟨w_1116, (fun _ h => absurd h List.not_mem_nil)⟩)⟩)⟩)⟩)⟩), by decide +kernel⟩
theorem lv_L_23 : LkV RL 23 yX8_source cX8_source 4 (some .int) 3 := ⟨(List.forall_mem_cons.mpr ⟨w_433, (List.forall_mem_cons.mpr ⟨w_434, (List.forall_mem_cons.mpr ⟨w_435, (List.forall_mem_cons.mpr ⟨w_78, (List.forall_mem_cons.mpr ⟨w_436, (fun _ h => absurd h List.not_mem_nil)⟩)⟩)⟩)⟩)⟩), by decide +kernel⟩
theorem lv_L_27 : LkV RL 27 yX9_source cX9_source 6 (some .int) 3 := ⟨(List.forall_mem_cons.mpr ⟨w_1136, (List.forall_mem_cons.mpr ⟨w_1137, (List.forall_mem_cons.mpr ⟨w_1138, (List.forall_mem_cons.mpr ⟨w_87, (List.forall_mem_cons.mpr ⟨w_1139, (fun _ h => absurd h List.not_mem_nil)⟩)⟩)⟩)⟩)⟩), by decide +kernel⟩
theorem lv_L_28 : LkV RL 28 yX8_turn cX8_turn 3 (some .int) 2 := ⟨(List.forall_mem_cons.mpr ⟨w_441, (List.forall_mem_cons.mpr ⟨w_442, (List.forall_mem_cons.mpr ⟨w_443, (List.forall_mem_cons.mpr ⟨w_78, (List.forall_mem_cons.mpr ⟨w_444, (fun _ h => absurd h List.not_mem_nil)⟩)⟩)⟩)⟩)⟩), by decide +kernel⟩
theorem lv_L_32 : LkV RL 32 yX9_turn cX9_turn 4 (some .int) 2 := ⟨(List.forall_mem_cons.mpr ⟨w_1140, (List.forall_mem_cons.mpr ⟨w_1141, (List.forall_mem_cons.mpr ⟨w_1142, (List.forall_mem_cons.mpr ⟨w_87, (List.forall_mem_cons.mpr ⟨w_1143, (fun _ h => absurd h List.not_mem_nil)⟩)⟩)⟩)⟩)⟩), by decide +kernel⟩
theorem lv_L_33 : LkV RL 33 yX8_safe cX8_safe 2 (some .int) 1 := ⟨(List.forall_mem_cons.mpr ⟨w_454, (List.forall_mem_cons.mpr ⟨w_455, (List.forall_mem_cons.mpr ⟨w_456, (List.forall_mem_cons.mpr ⟨w_78, (List.forall_mem_cons.mpr ⟨w_457, (fun _ h => absurd h List.not_mem_nil)⟩)⟩)⟩)⟩)⟩), by decide +kernel⟩
theorem lv_L_37 : LkV RL 37 yX9_safe cX9_safe 2 (some .int) 1 := ⟨(List.forall_mem_cons.mpr ⟨w_1148, (List.forall_mem_cons.mpr ⟨w_1149, (List.forall_mem_cons.mpr ⟨w_1150, (List.forall_mem_cons.mpr ⟨w_87, (List.forall_mem_cons.mpr ⟨w_1151, (fun _ h => absurd h List.not_mem_nil)⟩)⟩)⟩)⟩)⟩), by decide +kernel⟩
theorem lv_L_38 : LkV RL 38 yX8_barriers cX8_barriers 3 (some .int) 2 := ⟨(List.forall_mem_cons.mpr ⟨w_486, (List.forall_mem_cons.mpr ⟨w_487, (List.forall_mem_cons.mpr ⟨w_488, (List.forall_mem_cons.mpr ⟨w_78, (List.forall_mem_cons.mpr ⟨w_489, (fun _ h => absurd h List.not_mem_nil)⟩)⟩)⟩)⟩)⟩), by decide +kernel⟩
theorem lv_L_41 : LkV RL 41 yX9_barriers cX9_barriers 3 (some .int) 2 := ⟨(List.forall_mem_cons.mpr ⟨w_1172, (List.forall_mem_cons.mpr ⟨w_1173, (List.forall_mem_cons.mpr ⟨w_1174, (List.forall_mem_cons.mpr ⟨w_87, (List.forall_mem_cons.mpr ⟨w_1175, (fun _ h => absurd h List.not_mem_nil)⟩)⟩)⟩)⟩)⟩), by decide +kernel⟩
theorem lv_L_42 : LkV RL 42 yX8_apart cX8_apart 3 (some .int) 2 := ⟨(List.forall_mem_cons.mpr ⟨w_495, (List.forall_mem_cons.mpr ⟨w_496, (List.forall_mem_cons.mpr ⟨w_497, (List.forall_mem_cons.mpr ⟨w_78, (List.forall_mem_cons.mpr ⟨w_498, (fun _ h => absurd h List.not_mem_nil)⟩)⟩)⟩)⟩)⟩), by decide +kernel⟩
theorem lv_L_45 : LkV RL 45 yX9_apart cX9_apart 3 (some .int) 2 := ⟨(List.forall_mem_cons.mpr ⟨w_1180, (List.forall_mem_cons.mpr ⟨w_1181, (List.forall_mem_cons.mpr ⟨w_1182, (List.forall_mem_cons.mpr ⟨w_87, (List.forall_mem_cons.mpr ⟨w_1183, (fun _ h => absurd h List.not_mem_nil)⟩)⟩)⟩)⟩)⟩), by decide +kernel⟩
theorem lv_L_46 : LkV RL 46 yX8_go cX8_go 2 (some .int) 1 := ⟨(List.forall_mem_cons.mpr ⟨w_503, (List.forall_mem_cons.mpr ⟨w_504, (List.forall_mem_cons.mpr ⟨w_505, (List.forall_mem_cons.mpr ⟨w_78, (List.forall_mem_cons.mpr ⟨w_506, (fun _ h => absurd h List.not_mem_nil)⟩)⟩)⟩)⟩)⟩), by decide +kernel⟩
theorem lv_L_49 : LkV RL 49 yX9_go cX9_go 3 (some .int) 1 := ⟨(List.forall_mem_cons.mpr ⟨w_1184, (List.forall_mem_cons.mpr ⟨w_1185, (List.forall_mem_cons.mpr ⟨w_1186, (List.forall_mem_cons.mpr ⟨w_87, (List.forall_mem_cons.mpr ⟨w_1187, (fun _ h => absurd h List.not_mem_nil)⟩)⟩)⟩)⟩)⟩), by decide +kernel⟩
theorem lv_L_52 : LkV RL 52 yX8_feed cX8_feed 4 (some .int) 2 := ⟨(List.forall_mem_cons.mpr ⟨w_515, (List.forall_mem_cons.mpr ⟨w_516, (List.forall_mem_cons.mpr ⟨w_517, (List.forall_mem_cons.mpr ⟨w_78, (List.forall_mem_cons.mpr ⟨w_518, (fun _ h => absurd h List.not_mem_nil)⟩)⟩)⟩)⟩)⟩), by decide +kernel⟩
theorem lv_L_56 : LkV RL 56 yX9_feed cX9_feed 5 (some .int) 2 := ⟨(List.forall_mem_cons.mpr ⟨w_1192, (List.forall_mem_cons.mpr ⟨w_1193, (List.forall_mem_cons.mpr ⟨w_1194, (List.forall_mem_cons.mpr ⟨w_87, (List.forall_mem_cons.mpr ⟨w_1195, (fun _ h => absurd h List.not_mem_nil)⟩)⟩)⟩)⟩)⟩), by decide +kernel⟩
theorem lv_L_57 : LkV RL 57 yX8_rule cX8_rule 2 (some .int) 0 := ⟨(List.forall_mem_cons.mpr ⟨w_524, (List.forall_mem_cons.mpr ⟨w_525, (List.forall_mem_cons.mpr ⟨w_526, (List.forall_mem_cons.mpr ⟨w_78, (List.forall_mem_cons.mpr ⟨w_527, (fun _ h => absurd h List.not_mem_nil)⟩)⟩)⟩)⟩)⟩), by decide +kernel⟩
theorem lv_L_61 : LkV RL 61 yX9_rule cX9_rule 1 (some .int) 0 := ⟨(List.forall_mem_cons.mpr ⟨w_1197, (List.forall_mem_cons.mpr ⟨w_1198, (List.forall_mem_cons.mpr ⟨w_1199, (List.forall_mem_cons.mpr ⟨w_87, (List.forall_mem_cons.mpr ⟨w_1200, (fun _ h => absurd h List.not_mem_nil)⟩)⟩)⟩)⟩)⟩), by decide +kernel⟩
theorem lv_L_62 : LkV RL 62 yX8_strike cX8_strike 2 (some .int) 1 := ⟨(List.forall_mem_cons.mpr ⟨w_639, (List.forall_mem_cons.mpr ⟨w_640, (List.forall_mem_cons.mpr ⟨w_641, (List.forall_mem_cons.mpr ⟨w_78, (List.forall_mem_cons.mpr ⟨w_642, (fun _ h => absurd h List.not_mem_nil)⟩)⟩)⟩)⟩)⟩), by decide +kernel⟩
theorem lv_L_65 : LkV RL 65 yX9_strike cX9_strike 2 (some .int) 1 := ⟨(List.forall_mem_cons.mpr ⟨w_1260, (List.forall_mem_cons.mpr ⟨w_1261, (List.forall_mem_cons.mpr ⟨w_1262, (List.forall_mem_cons.mpr ⟨w_87, (List.forall_mem_cons.mpr ⟨w_1263, (fun _ h => absurd h List.not_mem_nil)⟩)⟩)⟩)⟩)⟩), by decide +kernel⟩
theorem lv_L_66 : LkV RL 66 yX8_ruleOf cX8_ruleOf 3 (some .int) 2 := ⟨(List.forall_mem_cons.mpr ⟨w_647, (List.forall_mem_cons.mpr ⟨w_648, (List.forall_mem_cons.mpr ⟨w_649, (List.forall_mem_cons.mpr ⟨w_78, (List.forall_mem_cons.mpr ⟨w_650, (fun _ h => absurd h List.not_mem_nil)⟩)⟩)⟩)⟩)⟩), by decide +kernel⟩
theorem lv_L_69 : LkV RL 69 yX9_ruleOf cX9_ruleOf 3 (some .int) 2 := ⟨(List.forall_mem_cons.mpr ⟨w_1268, (List.forall_mem_cons.mpr ⟨w_1269, (List.forall_mem_cons.mpr ⟨w_1270, (List.forall_mem_cons.mpr ⟨w_87, (List.forall_mem_cons.mpr ⟨w_1271, (fun _ h => absurd h List.not_mem_nil)⟩)⟩)⟩)⟩)⟩), by decide +kernel⟩
theorem lv_L_70 : LkV RL 70 yX8_ask cX8_ask 4 (some .int) 3 := ⟨(List.forall_mem_cons.mpr ⟨w_652, (List.forall_mem_cons.mpr ⟨w_653, (List.forall_mem_cons.mpr ⟨w_654, (List.forall_mem_cons.mpr ⟨w_78, (List.forall_mem_cons.mpr ⟨w_655, (fun _ h => absurd h List.not_mem_nil)⟩)⟩)⟩)⟩)⟩), by decide +kernel⟩
theorem lv_L_73 : LkV RL 73 yX9_ask cX9_ask 5 (some .int) 3 := ⟨(List.forall_mem_cons.mpr ⟨w_1272, (List.forall_mem_cons.mpr ⟨w_1273, (List.forall_mem_cons.mpr ⟨w_1274, (List.forall_mem_cons.mpr ⟨w_87, (List.forall_mem_cons.mpr ⟨w_1275, (fun _ h => absurd h List.not_mem_nil)⟩)⟩)⟩)⟩)⟩), by decide +kernel⟩
theorem lv_L_74 : LkV RL 74 yX8_hold cX8_hold 5 (some .int) 2 := ⟨(List.forall_mem_cons.mpr ⟨w_664, (List.forall_mem_cons.mpr ⟨w_665, (List.forall_mem_cons.mpr ⟨w_666, (List.forall_mem_cons.mpr ⟨w_78, (List.forall_mem_cons.mpr ⟨w_667, (fun _ h => absurd h List.not_mem_nil)⟩)⟩)⟩)⟩)⟩), by decide +kernel⟩
theorem lv_L_77 : LkV RL 77 yX9_hold cX9_hold 4 (some .int) 2 := ⟨(List.forall_mem_cons.mpr ⟨w_1276, (List.forall_mem_cons.mpr ⟨w_1277, (List.forall_mem_cons.mpr ⟨w_1278, (List.forall_mem_cons.mpr ⟨w_87, (List.forall_mem_cons.mpr ⟨w_1279, (fun _ h => absurd h List.not_mem_nil)⟩)⟩)⟩)⟩)⟩), by decide +kernel⟩
theorem lv_L_78 : LkV RL 78 yX8_isolate cX8_isolate 4 (some .int) 1 := ⟨(List.forall_mem_cons.mpr ⟨w_680, (List.forall_mem_cons.mpr ⟨w_681, (List.forall_mem_cons.mpr ⟨w_682, (List.forall_mem_cons.mpr ⟨w_78, (List.forall_mem_cons.mpr ⟨w_683, (fun _ h => absurd h List.not_mem_nil)⟩)⟩)⟩)⟩)⟩), by decide +kernel⟩
theorem lv_L_81 : LkV RL 81 yX9_isolate cX9_isolate 3 (some .int) 1 := ⟨(List.forall_mem_cons.mpr ⟨w_1287, (List.forall_mem_cons.mpr ⟨w_1288, (List.forall_mem_cons.mpr ⟨w_1289, (List.forall_mem_cons.mpr ⟨w_87, (List.forall_mem_cons.mpr ⟨w_1290, (fun _ h => absurd h List.not_mem_nil)⟩)⟩)⟩)⟩)⟩), by decide +kernel⟩
theorem lv_L_82 : LkV RL 82 yX8_test cX8_test 4 (some .int) 2 := ⟨(List.forall_mem_cons.mpr ⟨w_757, (List.forall_mem_cons.mpr ⟨w_758, (List.forall_mem_cons.mpr ⟨w_759, (List.forall_mem_cons.mpr ⟨w_78, (List.forall_mem_cons.mpr ⟨w_760, (fun _ h => absurd h List.not_mem_nil)⟩)⟩)⟩)⟩)⟩), by decide +kernel⟩
theorem lv_L_85 : LkV RL 85 yX9_test cX9_test 3 (some .int) 2 := ⟨(List.forall_mem_cons.mpr ⟨w_1342, (List.forall_mem_cons.mpr ⟨w_1343, (List.forall_mem_cons.mpr ⟨w_1344, (List.forall_mem_cons.mpr ⟨w_87, (List.forall_mem_cons.mpr ⟨w_1345, (fun _ h => absurd h List.not_mem_nil)⟩)⟩)⟩)⟩)⟩), by decide +kernel⟩
theorem lv_L_86 : LkV RL 86 yX8_start cX8_start 3 (some .int) 1 := ⟨(List.forall_mem_cons.mpr ⟨w_765, (List.forall_mem_cons.mpr ⟨w_766, (List.forall_mem_cons.mpr ⟨w_767, (List.forall_mem_cons.mpr ⟨w_78, (List.forall_mem_cons.mpr ⟨w_768, (fun _ h => absurd h List.not_mem_nil)⟩)⟩)⟩)⟩)⟩), by decide +kernel⟩
theorem lv_L_89 : LkV RL 89 yX9_start cX9_start 3 (some .int) 1 := ⟨(List.forall_mem_cons.mpr ⟨w_1346, (List.forall_mem_cons.mpr ⟨w_1347, (List.forall_mem_cons.mpr ⟨w_1348, (List.forall_mem_cons.mpr ⟨w_87, (List.forall_mem_cons.mpr ⟨w_1349, (fun _ h => absurd h List.not_mem_nil)⟩)⟩)⟩)⟩)⟩), by decide +kernel⟩
theorem lv_L_90 : LkV RL 90 yX8_hang cX8_hang 3 (some .int) 1 := ⟨(List.forall_mem_cons.mpr ⟨w_769, (List.forall_mem_cons.mpr ⟨w_770, (List.forall_mem_cons.mpr ⟨w_771, (List.forall_mem_cons.mpr ⟨w_78, (List.forall_mem_cons.mpr ⟨w_772, (fun _ h => absurd h List.not_mem_nil)⟩)⟩)⟩)⟩)⟩), by decide +kernel⟩
theorem lv_L_93 : LkV RL 93 yX9_hang cX9_hang 3 (some .int) 1 := ⟨(List.forall_mem_cons.mpr ⟨w_1350, (List.forall_mem_cons.mpr ⟨w_1351, (List.forall_mem_cons.mpr ⟨w_1352, (List.forall_mem_cons.mpr ⟨w_87, (List.forall_mem_cons.mpr ⟨w_1353, (fun _ h => absurd h List.not_mem_nil)⟩)⟩)⟩)⟩)⟩), by decide +kernel⟩
theorem lv_L_94 : LkV RL 94 yX8_back cX8_back 4 (some .int) 1 := ⟨(List.forall_mem_cons.mpr ⟨w_777, (List.forall_mem_cons.mpr ⟨w_778, (List.forall_mem_cons.mpr ⟨w_779, (List.forall_mem_cons.mpr ⟨w_78, (List.forall_mem_cons.mpr ⟨w_780, (fun _ h => absurd h List.not_mem_nil)⟩)⟩)⟩)⟩)⟩), by decide +kernel⟩
theorem lv_L_97 : LkV RL 97 yX9_back cX9_back 4 (some .int) 1 := ⟨(List.forall_mem_cons.mpr ⟨w_1358, (List.forall_mem_cons.mpr ⟨w_1359, (List.forall_mem_cons.mpr ⟨w_1360, (List.forall_mem_cons.mpr ⟨w_87, (List.forall_mem_cons.mpr ⟨w_1361, (fun _ h => absurd h List.not_mem_nil)⟩)⟩)⟩)⟩)⟩), by decide +kernel⟩
theorem lv_L_98 : LkV RL 98 yX8_may cX8_may 3 (some .int) 2 := ⟨(List.forall_mem_cons.mpr ⟨w_781, (List.forall_mem_cons.mpr ⟨w_782, (List.forall_mem_cons.mpr ⟨w_783, (List.forall_mem_cons.mpr ⟨w_78, (List.forall_mem_cons.mpr ⟨w_784, (fun _ h => absurd h List.not_mem_nil)⟩)⟩)⟩)⟩)⟩), by decide +kernel⟩
theorem lv_L_101 : LkV RL 101 yX9_may cX9_may 3 (some .int) 2 := ⟨(List.forall_mem_cons.mpr ⟨w_1362, (List.forall_mem_cons.mpr ⟨w_1363, (List.forall_mem_cons.mpr ⟨w_1364, (List.forall_mem_cons.mpr ⟨w_87, (List.forall_mem_cons.mpr ⟨w_1365, (fun _ h => absurd h List.not_mem_nil)⟩)⟩)⟩)⟩)⟩), by decide +kernel⟩
theorem lv_L_102 : LkV RL 102 yX8_quarrels cX8_quarrels 2 (some .int) 1 := ⟨(List.forall_mem_cons.mpr ⟨w_785, (List.forall_mem_cons.mpr ⟨w_786, (List.forall_mem_cons.mpr ⟨w_787, (List.forall_mem_cons.mpr ⟨w_78, (List.forall_mem_cons.mpr ⟨w_788, (fun _ h => absurd h List.not_mem_nil)⟩)⟩)⟩)⟩)⟩), by decide +kernel⟩
theorem lv_L_105 : LkV RL 105 yX9_quarrels cX9_quarrels 2 (some .int) 1 := ⟨(List.forall_mem_cons.mpr ⟨w_1366, (List.forall_mem_cons.mpr ⟨w_1367, (List.forall_mem_cons.mpr ⟨w_1368, (List.forall_mem_cons.mpr ⟨w_87, (List.forall_mem_cons.mpr ⟨w_1369, (fun _ h => absurd h List.not_mem_nil)⟩)⟩)⟩)⟩)⟩), by decide +kernel⟩
theorem lv_L_106 : LkV RL 106 yX8_permitOf cX8_permitOf 3 (some .int) 2 := ⟨(List.forall_mem_cons.mpr ⟨w_790, (List.forall_mem_cons.mpr ⟨w_791, (List.forall_mem_cons.mpr ⟨w_792, (List.forall_mem_cons.mpr ⟨w_78, (List.forall_mem_cons.mpr ⟨w_793, (fun _ h => absurd h List.not_mem_nil)⟩)⟩)⟩)⟩)⟩), by decide +kernel⟩
theorem lv_L_109 : LkV RL 109 yX9_permitOf cX9_permitOf 3 (some .int) 2 := ⟨(List.forall_mem_cons.mpr ⟨w_1370, (List.forall_mem_cons.mpr ⟨w_1371, (List.forall_mem_cons.mpr ⟨w_1372, (List.forall_mem_cons.mpr ⟨w_87, (List.forall_mem_cons.mpr ⟨w_1373, (fun _ h => absurd h List.not_mem_nil)⟩)⟩)⟩)⟩)⟩), by decide +kernel⟩
theorem lv_L_110 : LkV RL 110 yX8_enter cX8_enter 4 (some .int) 2 := ⟨(List.forall_mem_cons.mpr ⟨w_795, (List.forall_mem_cons.mpr ⟨w_796, (List.forall_mem_cons.mpr ⟨w_797, (List.forall_mem_cons.mpr ⟨w_78, (List.forall_mem_cons.mpr ⟨w_798, (fun _ h => absurd h List.not_mem_nil)⟩)⟩)⟩)⟩)⟩), by decide +kernel⟩
theorem lv_L_113 : LkV RL 113 yX9_enter cX9_enter 4 (some .int) 2 := ⟨(List.forall_mem_cons.mpr ⟨w_1374, (List.forall_mem_cons.mpr ⟨w_1375, (List.forall_mem_cons.mpr ⟨w_1376, (List.forall_mem_cons.mpr ⟨w_87, (List.forall_mem_cons.mpr ⟨w_1377, (fun _ h => absurd h List.not_mem_nil)⟩)⟩)⟩)⟩)⟩), by decide +kernel⟩
theorem lv_L_114 : LkV RL 114 yX8_leave cX8_leave 3 (some .int) 1 := ⟨(List.forall_mem_cons.mpr ⟨w_799, (List.forall_mem_cons.mpr ⟨w_800, (List.forall_mem_cons.mpr ⟨w_801, (List.forall_mem_cons.mpr ⟨w_78, (List.forall_mem_cons.mpr ⟨w_802, (fun _ h => absurd h List.not_mem_nil)⟩)⟩)⟩)⟩)⟩), by decide +kernel⟩
theorem lv_L_117 : LkV RL 117 yX9_leave cX9_leave 3 (some .int) 1 := ⟨(List.forall_mem_cons.mpr ⟨w_1378, (List.forall_mem_cons.mpr ⟨w_1379, (List.forall_mem_cons.mpr ⟨w_1380, (List.forall_mem_cons.mpr ⟨w_87, (List.forall_mem_cons.mpr ⟨w_1381, (fun _ h => absurd h List.not_mem_nil)⟩)⟩)⟩)⟩)⟩), by decide +kernel⟩
theorem lv_L_118 : LkV RL 118 yX8_shift cX8_shift 4 (some .int) 2 := ⟨(List.forall_mem_cons.mpr ⟨w_803, (List.forall_mem_cons.mpr ⟨w_804, (List.forall_mem_cons.mpr ⟨w_805, (List.forall_mem_cons.mpr ⟨w_78, (List.forall_mem_cons.mpr ⟨w_806, (fun _ h => absurd h List.not_mem_nil)⟩)⟩)⟩)⟩)⟩), by decide +kernel⟩
theorem lv_L_121 : LkV RL 121 yX9_shift cX9_shift 3 (some .int) 2 := ⟨(List.forall_mem_cons.mpr ⟨w_1382, (List.forall_mem_cons.mpr ⟨w_1383, (List.forall_mem_cons.mpr ⟨w_1384, (List.forall_mem_cons.mpr ⟨w_87, (List.forall_mem_cons.mpr ⟨w_1385, (fun _ h => absurd h List.not_mem_nil)⟩)⟩)⟩)⟩)⟩), by decide +kernel⟩
theorem lv_L_122 : LkV RL 122 yX8_siren cX8_siren 2 (some .int) 0 := ⟨(List.forall_mem_cons.mpr ⟨w_815, (List.forall_mem_cons.mpr ⟨w_816, (List.forall_mem_cons.mpr ⟨w_817, (List.forall_mem_cons.mpr ⟨w_78, (List.forall_mem_cons.mpr ⟨w_818, (fun _ h => absurd h List.not_mem_nil)⟩)⟩)⟩)⟩)⟩), by decide +kernel⟩
theorem lv_L_125 : LkV RL 125 yX9_siren cX9_siren 3 (some .int) 0 := ⟨(List.forall_mem_cons.mpr ⟨w_1390, (List.forall_mem_cons.mpr ⟨w_1391, (List.forall_mem_cons.mpr ⟨w_1392, (List.forall_mem_cons.mpr ⟨w_87, (List.forall_mem_cons.mpr ⟨w_1393, (fun _ h => absurd h List.not_mem_nil)⟩)⟩)⟩)⟩)⟩), by decide +kernel⟩
theorem lv_L_126 : LkV RL 126 yX8_least cX8_least 3 (some .int) 1 := ⟨(List.forall_mem_cons.mpr ⟨w_833, (List.forall_mem_cons.mpr ⟨w_834, (List.forall_mem_cons.mpr ⟨w_835, (List.forall_mem_cons.mpr ⟨w_78, (List.forall_mem_cons.mpr ⟨w_836, (fun _ h => absurd h List.not_mem_nil)⟩)⟩)⟩)⟩)⟩), by decide +kernel⟩
theorem lv_L_129 : LkV RL 129 yX9_least cX9_least 3 (some .int) 1 := ⟨(List.forall_mem_cons.mpr ⟨w_1394, (List.forall_mem_cons.mpr ⟨w_1395, (List.forall_mem_cons.mpr ⟨w_1396, (List.forall_mem_cons.mpr ⟨w_87, (List.forall_mem_cons.mpr ⟨w_1397, (fun _ h => absurd h List.not_mem_nil)⟩)⟩)⟩)⟩)⟩), by decide +kernel⟩
theorem lv_L_130 : LkV RL 130 yX8_leastSet cX8_leastSet 2 (some .int) 1 := ⟨(List.forall_mem_cons.mpr ⟨w_864, (List.forall_mem_cons.mpr ⟨w_838, (List.forall_mem_cons.mpr ⟨w_839, (List.forall_mem_cons.mpr ⟨w_78, (List.forall_mem_cons.mpr ⟨w_840, (fun _ h => absurd h List.not_mem_nil)⟩)⟩)⟩)⟩)⟩), by decide +kernel⟩
theorem lv_L_133 : LkV RL 133 yX9_leastSet cX9_leastSet 3 (some .int) 1 := ⟨(List.forall_mem_cons.mpr ⟨w_1413, (List.forall_mem_cons.mpr ⟨w_1414, (List.forall_mem_cons.mpr ⟨w_1415, (List.forall_mem_cons.mpr ⟨w_87, (List.forall_mem_cons.mpr ⟨w_1416, (fun _ h => absurd h List.not_mem_nil)⟩)⟩)⟩)⟩)⟩), by decide +kernel⟩
theorem lv_L_134 : LkV RL 134 yX8_risk cX8_risk 7 (some .int) 1 := ⟨(List.forall_mem_cons.mpr ⟨w_865, (List.forall_mem_cons.mpr ⟨w_866, (List.forall_mem_cons.mpr ⟨w_867, (List.forall_mem_cons.mpr ⟨w_78, (List.forall_mem_cons.mpr ⟨w_868, (fun _ h => absurd h List.not_mem_nil)⟩)⟩)⟩)⟩)⟩), by decide +kernel⟩
theorem lv_L_137 : LkV RL 137 yX9_risk cX9_risk 5 (some .int) 1 := ⟨(List.forall_mem_cons.mpr ⟨w_1417, (List.forall_mem_cons.mpr ⟨w_1418, (List.forall_mem_cons.mpr ⟨w_1419, (List.forall_mem_cons.mpr ⟨w_87, (List.forall_mem_cons.mpr ⟨w_1420, (fun _ h => absurd h List.not_mem_nil)⟩)⟩)⟩)⟩)⟩), by decide +kernel⟩
theorem lv_L_138 : LkV RL 138 yX8_right cX8_right 6 (some .int) 3 := ⟨(List.forall_mem_cons.mpr ⟨w_869, (List.forall_mem_cons.mpr ⟨w_870, (List.forall_mem_cons.mpr ⟨w_871, (List.forall_mem_cons.mpr ⟨w_78, (List.forall_mem_cons.mpr ⟨w_872, (fun _ h => absurd h List.not_mem_nil)⟩)⟩)⟩)⟩)⟩), by decide +kernel⟩
theorem lv_L_141 : LkV RL 141 yX9_right cX9_right 6 (some .int) 3 := ⟨(List.forall_mem_cons.mpr ⟨w_1421, (List.forall_mem_cons.mpr ⟨w_1422, (List.forall_mem_cons.mpr ⟨w_1423, (List.forall_mem_cons.mpr ⟨w_87, (List.forall_mem_cons.mpr ⟨w_1424, (fun _ h => absurd h List.not_mem_nil)⟩)⟩)⟩)⟩)⟩), by decide +kernel⟩
theorem lv_L_142 : LkV RL 142 yX8_order cX8_order 1 (some .int) 0 := ⟨(List.forall_mem_cons.mpr ⟨w_881, (List.forall_mem_cons.mpr ⟨w_882, (List.forall_mem_cons.mpr ⟨w_883, (List.forall_mem_cons.mpr ⟨w_78, (List.forall_mem_cons.mpr ⟨w_884, (fun _ h => absurd h List.not_mem_nil)⟩)⟩)⟩)⟩)⟩), by decide +kernel⟩
theorem lv_L_145 : LkV RL 145 yX9_order cX9_order 10 (some .int) 0 := ⟨(List.forall_mem_cons.mpr ⟨w_1425, (List.forall_mem_cons.mpr ⟨w_1426, (List.forall_mem_cons.mpr ⟨w_1427, (List.forall_mem_cons.mpr ⟨w_87, (List.forall_mem_cons.mpr ⟨w_1428, (fun _ h => absurd h List.not_mem_nil)⟩)⟩)⟩)⟩)⟩), by decide +kernel⟩
theorem lv_L_146 : LkV RL 146 yX8_ordered cX8_ordered 2 (some .int) 1 := ⟨(List.forall_mem_cons.mpr ⟨w_920, (List.forall_mem_cons.mpr ⟨w_921, (List.forall_mem_cons.mpr ⟨w_922, (List.forall_mem_cons.mpr ⟨w_78, (List.forall_mem_cons.mpr ⟨w_923, (fun _ h => absurd h List.not_mem_nil)⟩)⟩)⟩)⟩)⟩), by decide +kernel⟩
theorem lv_L_149 : LkV RL 149 yX9_ordered cX9_ordered 2 (some .int) 1 := ⟨(List.forall_mem_cons.mpr ⟨w_1441, (List.forall_mem_cons.mpr ⟨w_1442, (List.forall_mem_cons.mpr ⟨w_1443, (List.forall_mem_cons.mpr ⟨w_87, (List.forall_mem_cons.mpr ⟨w_1444, (fun _ h => absurd h List.not_mem_nil)⟩)⟩)⟩)⟩)⟩), by decide +kernel⟩
theorem lv_L_150 : LkV RL 150 yX8_row cX8_row 3 (some .int) 2 := ⟨(List.forall_mem_cons.mpr ⟨w_924, (List.forall_mem_cons.mpr ⟨w_925, (List.forall_mem_cons.mpr ⟨w_926, (List.forall_mem_cons.mpr ⟨w_78, (List.forall_mem_cons.mpr ⟨w_927, (fun _ h => absurd h List.not_mem_nil)⟩)⟩)⟩)⟩)⟩), by decide +kernel⟩
theorem lv_L_153 : LkV RL 153 yX9_row cX9_row 3 (some .int) 2 := ⟨(List.forall_mem_cons.mpr ⟨w_1445, (List.forall_mem_cons.mpr ⟨w_1446, (List.forall_mem_cons.mpr ⟨w_1447, (List.forall_mem_cons.mpr ⟨w_87, (List.forall_mem_cons.mpr ⟨w_1448, (fun _ h => absurd h List.not_mem_nil)⟩)⟩)⟩)⟩)⟩), by decide +kernel⟩
theorem lv_L_154 : LkV RL 154 yX8_alter cX8_alter 5 (some .int) 3 := ⟨(List.forall_mem_cons.mpr ⟨w_928, (List.forall_mem_cons.mpr ⟨w_929, (List.forall_mem_cons.mpr ⟨w_930, (List.forall_mem_cons.mpr ⟨w_78, (List.forall_mem_cons.mpr ⟨w_931, (fun _ h => absurd h List.not_mem_nil)⟩)⟩)⟩)⟩)⟩), by decide +kernel⟩
theorem lv_L_157 : LkV RL 157 yX9_alter cX9_alter 5 (some .int) 3 := ⟨(List.forall_mem_cons.mpr ⟨w_1449, (List.forall_mem_cons.mpr ⟨w_1450, (List.forall_mem_cons.mpr ⟨w_1451, (List.forall_mem_cons.mpr ⟨w_87, (List.forall_mem_cons.mpr ⟨w_1452, (fun _ h => absurd h List.not_mem_nil)⟩)⟩)⟩)⟩)⟩), by decide +kernel⟩
theorem lv_L_158 : LkV RL 158 yX8_drop cX8_drop 1 (some .int) 0 := ⟨(List.forall_mem_cons.mpr ⟨w_932, (List.forall_mem_cons.mpr ⟨w_933, (List.forall_mem_cons.mpr ⟨w_934, (List.forall_mem_cons.mpr ⟨w_78, (List.forall_mem_cons.mpr ⟨w_935, (fun _ h => absurd h List.not_mem_nil)⟩)⟩)⟩)⟩)⟩), by decide +kernel⟩
theorem lv_L_161 : LkV RL 161 yX9_drop cX9_drop 1 (some .int) 0 := ⟨(List.forall_mem_cons.mpr ⟨w_1453, (List.forall_mem_cons.mpr ⟨w_1454, (List.forall_mem_cons.mpr ⟨w_1455, (List.forall_mem_cons.mpr ⟨w_87, (List.forall_mem_cons.mpr ⟨w_1456, (fun _ h => absurd h List.not_mem_nil)⟩)⟩)⟩)⟩)⟩), by decide +kernel⟩
theorem lv_L_162 : LkV RL 162 yX8_check cX8_check 1 (some .int) 0 := ⟨(List.forall_mem_cons.mpr ⟨w_936, (List.forall_mem_cons.mpr ⟨w_937, (List.forall_mem_cons.mpr ⟨w_938, (List.forall_mem_cons.mpr ⟨w_78, (List.forall_mem_cons.mpr ⟨w_939, (fun _ h => absurd h List.not_mem_nil)⟩)⟩)⟩)⟩)⟩), by decide +kernel⟩
theorem lv_L_165 : LkV RL 165 yX9_check cX9_check 3 (some .int) 0 := ⟨(List.forall_mem_cons.mpr ⟨w_1457, (List.forall_mem_cons.mpr ⟨w_1458, (List.forall_mem_cons.mpr ⟨w_1459, (List.forall_mem_cons.mpr ⟨w_87, (List.forall_mem_cons.mpr ⟨w_1460, (fun _ h => absurd h List.not_mem_nil)⟩)⟩)⟩)⟩)⟩), by decide +kernel⟩
theorem lv_L_166 : LkV RL 166 yX8_many cX8_many 2 (some .int) 1 := ⟨(List.forall_mem_cons.mpr ⟨w_944, (List.forall_mem_cons.mpr ⟨w_945, (List.forall_mem_cons.mpr ⟨w_946, (List.forall_mem_cons.mpr ⟨w_78, (List.forall_mem_cons.mpr ⟨w_947, (fun _ h => absurd h List.not_mem_nil)⟩)⟩)⟩)⟩)⟩), by decide +kernel⟩
theorem lv_L_169 : LkV RL 169 yX9_many cX9_many 2 (some .int) 1 := ⟨(List.forall_mem_cons.mpr ⟨w_1461, (List.forall_mem_cons.mpr ⟨w_1462, (List.forall_mem_cons.mpr ⟨w_1463, (List.forall_mem_cons.mpr ⟨w_87, (List.forall_mem_cons.mpr ⟨w_1464, (fun _ h => absurd h List.not_mem_nil)⟩)⟩)⟩)⟩)⟩), by decide +kernel⟩
theorem kc_L_50 : Cond.constantLong RL 50 (4294967295) ∈ lw_g := w_1477
theorem kc_L_7c : LkC RL 7 8 [.null, .null, .null, .null, .null, .null, .null, .null, .int 0] := ⟨RX8, TX8, 9, tyX8, rfl, gX8, tyX8_ok, (List.forall_mem_cons.mpr ⟨w_95, (List.forall_mem_cons.mpr ⟨w_96, (List.forall_mem_cons.mpr ⟨w_78, (fun _ h => absurd h List.not_mem_nil)⟩)⟩)⟩), by decide +kernel, rfl⟩
theorem kc_L_10c : LkC RL 10 9 [.int 0, .int 0, .null, .null, .null, .null, .null, .null, .int 0, .null, .null, .null, .null, .null, .null, .null, .null, .int 0, .null, .null, .null, .null, .null, .null, .null, .null, .null, .null, .null, .int 0, .null, .int 0, .int 0, .int 0, .int 0, .int 0, .int 0, .int 0, .null, .int 0, .int 0, .null, .int 0, .null, .int 0, .null, .int 0] := ⟨RX9, TX9, 47, tyX9, rfl, gX9, tyX9_ok, (List.forall_mem_cons.mpr ⟨w_954, (List.forall_mem_cons.mpr ⟨w_955, (List.forall_mem_cons.mpr ⟨w_87, (fun _ h => absurd h List.not_mem_nil)⟩)⟩)⟩), by decide +kernel, rfl⟩
