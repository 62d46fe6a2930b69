theorem w_248 : Cond.fieldLink RX0 9 "PermitRoom$Crew" "onShift" "I" ∈ lw_g := g_in (List.mem_of_getElem? (i := 248) (by decide +kernel)) rfl
theorem w_250 : Cond.fieldLink RX0 15 "PermitRoom$Crew" "workOf" "[I" ∈ lw_g := g_in (List.mem_of_getElem? (i := 250) (by decide +kernel)) rfl
theorem w_319 : Cond.fieldLink RX1 9 "PermitRoom$History" "closedAt" "[I" ∈ lw_g := g_in (List.mem_of_getElem? (i := 319) (by decide +kernel)) rfl
theorem w_321 : Cond.fieldLink RX1 15 "PermitRoom$History" "liveAt" "[I" ∈ lw_g := g_in (List.mem_of_getElem? (i := 321) (by decide +kernel)) rfl
theorem w_115 : Cond.fieldLink RX2 9 "PermitRoom$Net" "oneEnd" "[I" ∈ lw_g := g_in (List.mem_of_getElem? (i := 115) (by decide +kernel)) rfl
theorem w_117 : Cond.fieldLink RX2 15 "PermitRoom$Net" "otherEnd" "[I" ∈ lw_g := g_in (List.mem_of_getElem? (i := 117) (by decide +kernel)) rfl
theorem w_119 : Cond.fieldLink RX2 18 "PermitRoom$Net" "bothEnds" "[I" ∈ lw_g := g_in (List.mem_of_getElem? (i := 119) (by decide +kernel)) rfl
theorem w_120 : Cond.fieldLink RX2 21 "PermitRoom$Net" "fitting" "[I" ∈ lw_g := g_in (List.mem_of_getElem? (i := 120) (by decide +kernel)) rfl
theorem w_122 : Cond.fieldLink RX2 24 "PermitRoom$Net" "knownFrom" "[I" ∈ lw_g := g_in (List.mem_of_getElem? (i := 122) (by decide +kernel)) rfl
theorem w_124 : Cond.fieldLink RX2 27 "PermitRoom$Net" "sources" "[I" ∈ lw_g := g_in (List.mem_of_getElem? (i := 124) (by decide +kernel)) rfl
theorem w_125 : Cond.fieldLink RX2 30 "PermitRoom$Net" "count" "I" ∈ lw_g := g_in (List.mem_of_getElem? (i := 125) (by decide +kernel)) rfl
theorem w_127 : Cond.fieldLink RX2 34 "PermitRoom$Net" "valves" "I" ∈ lw_g := g_in (List.mem_of_getElem? (i := 127) (by decide +kernel)) rfl
theorem w_128 : Cond.fieldLink RX2 37 "PermitRoom$Net" "blinds" "I" ∈ lw_g := g_in (List.mem_of_getElem? (i := 128) (by decide +kernel)) rfl
theorem w_129 : Cond.fieldLink RX2 40 "PermitRoom$Net" "byHand" "I" ∈ lw_g := g_in (List.mem_of_getElem? (i := 129) (by decide +kernel)) rfl
theorem w_196 : Cond.fieldLink RX3 9 "PermitRoom$Papers" "place" "[I" ∈ lw_g := g_in (List.mem_of_getElem? (i := 196) (by decide +kernel)) rfl
theorem w_199 : Cond.fieldLink RX3 15 "PermitRoom$Papers" "sort" "[I" ∈ lw_g := g_in (List.mem_of_getElem? (i := 199) (by decide +kernel)) rfl
theorem w_202 : Cond.fieldLink RX3 18 "PermitRoom$Papers" "set" "[I" ∈ lw_g := g_in (List.mem_of_getElem? (i := 202) (by decide +kernel)) rfl
theorem w_205 : Cond.fieldLink RX3 21 "PermitRoom$Papers" "state" "[I" ∈ lw_g := g_in (List.mem_of_getElem? (i := 205) (by decide +kernel)) rfl
theorem w_209 : Cond.fieldLink RX3 24 "PermitRoom$Papers" "holder" "[I" ∈ lw_g := g_in (List.mem_of_getElem? (i := 209) (by decide +kernel)) rfl
theorem w_212 : Cond.fieldLink RX3 27 "PermitRoom$Papers" "testValue" "[I" ∈ lw_g := g_in (List.mem_of_getElem? (i := 212) (by decide +kernel)) rfl
theorem w_214 : Cond.fieldLink RX3 30 "PermitRoom$Papers" "testHour" "[I" ∈ lw_g := g_in (List.mem_of_getElem? (i := 214) (by decide +kernel)) rfl
theorem w_216 : Cond.fieldLink RX3 33 "PermitRoom$Papers" "liveTill" "[I" ∈ lw_g := g_in (List.mem_of_getElem? (i := 216) (by decide +kernel)) rfl
theorem w_219 : Cond.fieldLink RX3 36 "PermitRoom$Papers" "count" "I" ∈ lw_g := g_in (List.mem_of_getElem? (i := 219) (by decide +kernel)) rfl
theorem w_334 : Cond.fieldLink RX4 9 "PermitRoom$Plan" "inOrder" "[I" ∈ lw_g := g_in (List.mem_of_getElem? (i := 334) (by decide +kernel)) rfl
theorem w_336 : Cond.fieldLink RX4 15 "PermitRoom$Plan" "proof" "[I" ∈ lw_g := g_in (List.mem_of_getElem? (i := 336) (by decide +kernel)) rfl
theorem w_337 : Cond.fieldLink RX4 18 "PermitRoom$Plan" "rows" "[I" ∈ lw_g := g_in (List.mem_of_getElem? (i := 337) (by decide +kernel)) rfl
theorem w_339 : Cond.fieldLink RX4 21 "PermitRoom$Plan" "size" "I" ∈ lw_g := g_in (List.mem_of_getElem? (i := 339) (by decide +kernel)) rfl
theorem w_341 : Cond.fieldLink RX4 25 "PermitRoom$Plan" "proofCount" "I" ∈ lw_g := g_in (List.mem_of_getElem? (i := 341) (by decide +kernel)) rfl
theorem w_342 : Cond.fieldLink RX4 28 "PermitRoom$Plan" "rowCount" "I" ∈ lw_g := g_in (List.mem_of_getElem? (i := 342) (by decide +kernel)) rfl
theorem w_346 : Cond.fieldLink RX4 35 "PermitRoom$Plan" "permitOfWork" "[I" ∈ lw_g := g_in (List.mem_of_getElem? (i := 346) (by decide +kernel)) rfl
theorem w_347 : Cond.fieldLink RX4 38 "PermitRoom$Plan" "needOfWork" "[I" ∈ lw_g := g_in (List.mem_of_getElem? (i := 347) (by decide +kernel)) rfl
theorem w_348 : Cond.fieldLink RX4 41 "PermitRoom$Plan" "movesLeft" "[I" ∈ lw_g := g_in (List.mem_of_getElem? (i := 348) (by decide +kernel)) rfl
theorem w_220 : Cond.fieldLink RX4 62 "PermitRoom$Papers" "count" "I" ∈ lw_g := g_in (List.mem_of_getElem? (i := 220) (by decide +kernel)) rfl
theorem w_207 : Cond.fieldLink RX4 67 "PermitRoom$Papers" "state" "[I" ∈ lw_g := g_in (List.mem_of_getElem? (i := 207) (by decide +kernel)) rfl
theorem w_203 : Cond.fieldLink RX4 70 "PermitRoom$Papers" "set" "[I" ∈ lw_g := g_in (List.mem_of_getElem? (i := 203) (by decide +kernel)) rfl
theorem w_257 : Cond.fieldLink RX5 12 "PermitRoom$Plant" "net" "LPermitRoom$Net;" ∈ lw_g := g_in (List.mem_of_getElem? (i := 257) (by decide +kernel)) rfl
theorem w_259 : Cond.fieldLink RX5 21 "PermitRoom$Plant" "book" "LPermitRoom$RuleBook;" ∈ lw_g := g_in (List.mem_of_getElem? (i := 259) (by decide +kernel)) rfl
theorem w_261 : Cond.fieldLink RX5 28 "PermitRoom$Plant" "papers" "LPermitRoom$Papers;" ∈ lw_g := g_in (List.mem_of_getElem? (i := 261) (by decide +kernel)) rfl
theorem w_263 : Cond.fieldLink RX5 35 "PermitRoom$Plant" "crew" "LPermitRoom$Crew;" ∈ lw_g := g_in (List.mem_of_getElem? (i := 263) (by decide +kernel)) rfl
theorem w_130 : Cond.fieldLink RX5 39 "PermitRoom$Net" "byHand" "I" ∈ lw_g := g_in (List.mem_of_getElem? (i := 130) (by decide +kernel)) rfl
theorem w_206 : Cond.fieldLink RX5 51 "PermitRoom$Papers" "state" "[I" ∈ lw_g := g_in (List.mem_of_getElem? (i := 206) (by decide +kernel)) rfl
theorem w_197 : Cond.fieldLink RX5 68 "PermitRoom$Papers" "place" "[I" ∈ lw_g := g_in (List.mem_of_getElem? (i := 197) (by decide +kernel)) rfl
theorem w_210 : Cond.fieldLink RX5 94 "PermitRoom$Papers" "holder" "[I" ∈ lw_g := g_in (List.mem_of_getElem? (i := 210) (by decide +kernel)) rfl
theorem w_173 : Cond.fieldLink RX5 107 "PermitRoom$RuleBook" "count" "I" ∈ lw_g := g_in (List.mem_of_getElem? (i := 173) (by decide +kernel)) rfl
theorem w_200 : Cond.fieldLink RX5 110 "PermitRoom$Papers" "sort" "[I" ∈ lw_g := g_in (List.mem_of_getElem? (i := 200) (by decide +kernel)) rfl
theorem w_164 : Cond.fieldLink RX5 116 "PermitRoom$RuleBook" "second" "[I" ∈ lw_g := g_in (List.mem_of_getElem? (i := 164) (by decide +kernel)) rfl
theorem w_221 : Cond.fieldLink RX5 123 "PermitRoom$Papers" "count" "I" ∈ lw_g := g_in (List.mem_of_getElem? (i := 221) (by decide +kernel)) rfl
theorem w_167 : Cond.fieldLink RX5 130 "PermitRoom$RuleBook" "last" "[I" ∈ lw_g := g_in (List.mem_of_getElem? (i := 167) (by decide +kernel)) rfl
theorem w_217 : Cond.fieldLink RX5 136 "PermitRoom$Papers" "liveTill" "[I" ∈ lw_g := g_in (List.mem_of_getElem? (i := 217) (by decide +kernel)) rfl
theorem w_159 : Cond.fieldLink RX6 9 "PermitRoom$RuleBook" "kind" "[I" ∈ lw_g := g_in (List.mem_of_getElem? (i := 159) (by decide +kernel)) rfl
theorem w_161 : Cond.fieldLink RX6 15 "PermitRoom$RuleBook" "subject" "[I" ∈ lw_g := g_in (List.mem_of_getElem? (i := 161) (by decide +kernel)) rfl
theorem w_163 : Cond.fieldLink RX6 18 "PermitRoom$RuleBook" "second" "[I" ∈ lw_g := g_in (List.mem_of_getElem? (i := 163) (by decide +kernel)) rfl
theorem w_166 : Cond.fieldLink RX6 21 "PermitRoom$RuleBook" "last" "[I" ∈ lw_g := g_in (List.mem_of_getElem? (i := 166) (by decide +kernel)) rfl
theorem w_169 : Cond.fieldLink RX6 24 "PermitRoom$RuleBook" "toldAt" "[I" ∈ lw_g := g_in (List.mem_of_getElem? (i := 169) (by decide +kernel)) rfl
theorem w_170 : Cond.fieldLink RX6 27 "PermitRoom$RuleBook" "struckAt" "[I" ∈ lw_g := g_in (List.mem_of_getElem? (i := 170) (by decide +kernel)) rfl
theorem w_172 : Cond.fieldLink RX6 30 "PermitRoom$RuleBook" "count" "I" ∈ lw_g := g_in (List.mem_of_getElem? (i := 172) (by decide +kernel)) rfl
theorem w_284 : Cond.fieldLink RX6 34 "PermitRoom$Tape" "kind" "I" ∈ lw_g := g_in (List.mem_of_getElem? (i := 284) (by decide +kernel)) rfl
theorem w_286 : Cond.fieldLink RX6 38 "PermitRoom$Tape" "subject" "I" ∈ lw_g := g_in (List.mem_of_getElem? (i := 286) (by decide +kernel)) rfl
theorem w_288 : Cond.fieldLink RX6 40 "PermitRoom$Tape" "second" "I" ∈ lw_g := g_in (List.mem_of_getElem? (i := 288) (by decide +kernel)) rfl
theorem w_290 : Cond.fieldLink RX6 42 "PermitRoom$Tape" "last" "I" ∈ lw_g := g_in (List.mem_of_getElem? (i := 290) (by decide +kernel)) rfl
theorem w_280 : Cond.fieldLink RX7 9 "PermitRoom$Tape" "bytes" "[I" ∈ lw_g := g_in (List.mem_of_getElem? (i := 280) (by decide +kernel)) rfl
theorem w_281 : Cond.fieldLink RX7 15 "PermitRoom$Tape" "length" "I" ∈ lw_g := g_in (List.mem_of_getElem? (i := 281) (by decide +kernel)) rfl
theorem w_283 : Cond.fieldLink RX7 19 "PermitRoom$Tape" "kind" "I" ∈ lw_g := g_in (List.mem_of_getElem? (i := 283) (by decide +kernel)) rfl
theorem w_291 : Cond.fieldLink RX7 31 "PermitRoom$Tape" "from" "I" ∈ lw_g := g_in (List.mem_of_getElem? (i := 291) (by decide +kernel)) rfl
theorem w_292 : Cond.fieldLink RX7 34 "PermitRoom$Tape" "end" "I" ∈ lw_g := g_in (List.mem_of_getElem? (i := 292) (by decide +kernel)) rfl
theorem w_293 : Cond.fieldLink RX7 37 "PermitRoom$Tape" "fault" "I" ∈ lw_g := g_in (List.mem_of_getElem? (i := 293) (by decide +kernel)) rfl
theorem w_370 : Cond.fieldLink RX8 10 "PermitRoom" "plant" "LPermitRoom$Plant;" ∈ lw_g := g_in (List.mem_of_getElem? (i := 370) (by decide +kernel)) rfl
theorem w_371 : Cond.fieldLink RX8 20 "PermitRoom" "net" "LPermitRoom$Net;" ∈ lw_g := g_in (List.mem_of_getElem? (i := 371) (by decide +kernel)) rfl
theorem w_372 : Cond.fieldLink RX8 25 "PermitRoom" "book" "LPermitRoom$RuleBook;" ∈ lw_g := g_in (List.mem_of_getElem? (i := 372) (by decide +kernel)) rfl
theorem w_373 : Cond.fieldLink RX8 30 "PermitRoom" "papers" "LPermitRoom$Papers;" ∈ lw_g := g_in (List.mem_of_getElem? (i := 373) (by decide +kernel)) rfl
theorem w_374 : Cond.fieldLink RX8 35 "PermitRoom" "crew" "LPermitRoom$Crew;" ∈ lw_g := g_in (List.mem_of_getElem? (i := 374) (by decide +kernel)) rfl
theorem w_375 : Cond.fieldLink RX8 39 "PermitRoom" "tape" "LPermitRoom$Tape;" ∈ lw_g := g_in (List.mem_of_getElem? (i := 375) (by decide +kernel)) rfl
theorem w_376 : Cond.fieldLink RX8 46 "PermitRoom" "history" "LPermitRoom$History;" ∈ lw_g := g_in (List.mem_of_getElem? (i := 376) (by decide +kernel)) rfl
theorem w_377 : Cond.fieldLink RX8 53 "PermitRoom" "plan" "LPermitRoom$Plan;" ∈ lw_g := g_in (List.mem_of_getElem? (i := 377) (by decide +kernel)) rfl
theorem w_378 : Cond.fieldLink RX8 57 "PermitRoom" "now" "I" ∈ lw_g := g_in (List.mem_of_getElem? (i := 378) (by decide +kernel)) rfl
theorem w_126 : Cond.fieldLink RX8 65 "PermitRoom$Net" "count" "I" ∈ lw_g := g_in (List.mem_of_getElem? (i := 126) (by decide +kernel)) rfl
theorem w_116 : Cond.fieldLink RX8 77 "PermitRoom$Net" "oneEnd" "[I" ∈ lw_g := g_in (List.mem_of_getElem? (i := 116) (by decide +kernel)) rfl
theorem w_118 : Cond.fieldLink RX8 81 "PermitRoom$Net" "otherEnd" "[I" ∈ lw_g := g_in (List.mem_of_getElem? (i := 118) (by decide +kernel)) rfl
theorem w_121 : Cond.fieldLink RX8 84 "PermitRoom$Net" "fitting" "[I" ∈ lw_g := g_in (List.mem_of_getElem? (i := 121) (by decide +kernel)) rfl
theorem w_123 : Cond.fieldLink RX8 87 "PermitRoom$Net" "knownFrom" "[I" ∈ lw_g := g_in (List.mem_of_getElem? (i := 123) (by decide +kernel)) rfl
theorem w_282 : Cond.fieldLink RX8 138 "PermitRoom$Tape" "length" "I" ∈ lw_g := g_in (List.mem_of_getElem? (i := 282) (by decide +kernel)) rfl
theorem w_174 : Cond.fieldLink RX8 151 "PermitRoom$RuleBook" "count" "I" ∈ lw_g := g_in (List.mem_of_getElem? (i := 174) (by decide +kernel)) rfl
theorem w_171 : Cond.fieldLink RX8 157 "PermitRoom$RuleBook" "struckAt" "[I" ∈ lw_g := g_in (List.mem_of_getElem? (i := 171) (by decide +kernel)) rfl
theorem w_160 : Cond.fieldLink RX8 160 "PermitRoom$RuleBook" "kind" "[I" ∈ lw_g := g_in (List.mem_of_getElem? (i := 160) (by decide +kernel)) rfl
theorem w_162 : Cond.fieldLink RX8 163 "PermitRoom$RuleBook" "subject" "[I" ∈ lw_g := g_in (List.mem_of_getElem? (i := 162) (by decide +kernel)) rfl
theorem w_165 : Cond.fieldLink RX8 166 "PermitRoom$RuleBook" "second" "[I" ∈ lw_g := g_in (List.mem_of_getElem? (i := 165) (by decide +kernel)) rfl
theorem w_168 : Cond.fieldLink RX8 169 "PermitRoom$RuleBook" "last" "[I" ∈ lw_g := g_in (List.mem_of_getElem? (i := 168) (by decide +kernel)) rfl
theorem w_222 : Cond.fieldLink RX8 179 "PermitRoom$Papers" "count" "I" ∈ lw_g := g_in (List.mem_of_getElem? (i := 222) (by decide +kernel)) rfl
theorem w_208 : Cond.fieldLink RX8 186 "PermitRoom$Papers" "state" "[I" ∈ lw_g := g_in (List.mem_of_getElem? (i := 208) (by decide +kernel)) rfl
theorem w_211 : Cond.fieldLink RX8 194 "PermitRoom$Papers" "holder" "[I" ∈ lw_g := g_in (List.mem_of_getElem? (i := 211) (by decide +kernel)) rfl
theorem w_198 : Cond.fieldLink RX8 219 "PermitRoom$Papers" "place" "[I" ∈ lw_g := g_in (List.mem_of_getElem? (i := 198) (by decide +kernel)) rfl
theorem w_201 : Cond.fieldLink RX8 222 "PermitRoom$Papers" "sort" "[I" ∈ lw_g := g_in (List.mem_of_getElem? (i := 201) (by decide +kernel)) rfl
theorem w_204 : Cond.fieldLink RX8 225 "PermitRoom$Papers" "set" "[I" ∈ lw_g := g_in (List.mem_of_getElem? (i := 204) (by decide +kernel)) rfl
theorem w_213 : Cond.fieldLink RX8 231 "PermitRoom$Papers" "testValue" "[I" ∈ lw_g := g_in (List.mem_of_getElem? (i := 213) (by decide +kernel)) rfl
theorem w_215 : Cond.fieldLink RX8 234 "PermitRoom$Papers" "testHour" "[I" ∈ lw_g := g_in (List.mem_of_getElem? (i := 215) (by decide +kernel)) rfl
theorem w_218 : Cond.fieldLink RX8 237 "PermitRoom$Papers" "liveTill" "[I" ∈ lw_g := g_in (List.mem_of_getElem? (i := 218) (by decide +kernel)) rfl
theorem w_251 : Cond.fieldLink RX8 240 "PermitRoom$Crew" "workOf" "[I" ∈ lw_g := g_in (List.mem_of_getElem? (i := 251) (by decide +kernel)) rfl
theorem w_322 : Cond.fieldLink RX8 269 "PermitRoom$History" "liveAt" "[I" ∈ lw_g := g_in (List.mem_of_getElem? (i := 322) (by decide +kernel)) rfl
theorem w_320 : Cond.fieldLink RX8 272 "PermitRoom$History" "closedAt" "[I" ∈ lw_g := g_in (List.mem_of_getElem? (i := 320) (by decide +kernel)) rfl
theorem w_340 : Cond.fieldLink RX8 282 "PermitRoom$Plan" "size" "I" ∈ lw_g := g_in (List.mem_of_getElem? (i := 340) (by decide +kernel)) rfl
theorem w_335 : Cond.fieldLink RX8 285 "PermitRoom$Plan" "inOrder" "[I" ∈ lw_g := g_in (List.mem_of_getElem? (i := 335) (by decide +kernel)) rfl
theorem w_343 : Cond.fieldLink RX8 288 "PermitRoom$Plan" "rowCount" "I" ∈ lw_g := g_in (List.mem_of_getElem? (i := 343) (by decide +kernel)) rfl
theorem w_338 : Cond.fieldLink RX8 291 "PermitRoom$Plan" "rows" "[I" ∈ lw_g := g_in (List.mem_of_getElem? (i := 338) (by decide +kernel)) rfl
theorem w_345 : Cond.fieldLink RX8 294 "PermitRoom$Plan" "isTold" "Z" ∈ lw_g := g_in (List.mem_of_getElem? (i := 345) (by decide +kernel)) rfl
theorem w_249 : Cond.fieldLink RX8 304 "PermitRoom$Crew" "onShift" "I" ∈ lw_g := g_in (List.mem_of_getElem? (i := 249) (by decide +kernel)) rfl
theorem w_962 : Cond.fieldLink RX9 7 "PermitRoomModel" "endA" "[I" ∈ lw_g := g_in (List.mem_of_getElem? (i := 962) (by decide +kernel)) rfl
theorem w_963 : Cond.fieldLink RX9 13 "PermitRoomModel" "endB" "[I" ∈ lw_g := g_in (List.mem_of_getElem? (i := 963) (by decide +kernel)) rfl
theorem w_964 : Cond.fieldLink RX9 16 "PermitRoomModel" "fitting" "[I" ∈ lw_g := g_in (List.mem_of_getElem? (i := 964) (by decide +kernel)) rfl
theorem w_965 : Cond.fieldLink RX9 19 "PermitRoomModel" "toldAt" "[I" ∈ lw_g := g_in (List.mem_of_getElem? (i := 965) (by decide +kernel)) rfl
theorem w_966 : Cond.fieldLink RX9 22 "PermitRoomModel" "byHand" "[Z" ∈ lw_g := g_in (List.mem_of_getElem? (i := 966) (by decide +kernel)) rfl
theorem w_967 : Cond.fieldLink RX9 26 "PermitRoomModel" "isSource" "[Z" ∈ lw_g := g_in (List.mem_of_getElem? (i := 967) (by decide +kernel)) rfl
theorem w_969 : Cond.fieldLink RX9 29 "PermitRoomModel" "ruleKind" "[I" ∈ lw_g := g_in (List.mem_of_getElem? (i := 969) (by decide +kernel)) rfl
theorem w_970 : Cond.fieldLink RX9 32 "PermitRoomModel" "ruleSort" "[I" ∈ lw_g := g_in (List.mem_of_getElem? (i := 970) (by decide +kernel)) rfl
theorem w_971 : Cond.fieldLink RX9 35 "PermitRoomModel" "ruleOne" "[I" ∈ lw_g := g_in (List.mem_of_getElem? (i := 971) (by decide +kernel)) rfl
theorem w_972 : Cond.fieldLink RX9 38 "PermitRoomModel" "ruleTwo" "[I" ∈ lw_g := g_in (List.mem_of_getElem? (i := 972) (by decide +kernel)) rfl
theorem w_973 : Cond.fieldLink RX9 41 "PermitRoomModel" "ruleFrom" "[I" ∈ lw_g := g_in (List.mem_of_getElem? (i := 973) (by decide +kernel)) rfl
theorem w_974 : Cond.fieldLink RX9 44 "PermitRoomModel" "ruleTo" "[I" ∈ lw_g := g_in (List.mem_of_getElem? (i := 974) (by decide +kernel)) rfl
theorem w_975 : Cond.fieldLink RX9 47 "PermitRoomModel" "isOff" "[Z" ∈ lw_g := g_in (List.mem_of_getElem? (i := 975) (by decide +kernel)) rfl
theorem w_976 : Cond.fieldLink RX9 50 "PermitRoomModel" "inside" "[I" ∈ lw_g := g_in (List.mem_of_getElem? (i := 976) (by decide +kernel)) rfl
theorem w_978 : Cond.fieldLink RX9 53 "PermitRoomModel" "placeOf" "[I" ∈ lw_g := g_in (List.mem_of_getElem? (i := 978) (by decide +kernel)) rfl
theorem w_979 : Cond.fieldLink RX9 56 "PermitRoomModel" "sortOf" "[I" ∈ lw_g := g_in (List.mem_of_getElem? (i := 979) (by decide +kernel)) rfl
theorem w_980 : Cond.fieldLink RX9 59 "PermitRoomModel" "setOf" "[I" ∈ lw_g := g_in (List.mem_of_getElem? (i := 980) (by decide +kernel)) rfl
theorem w_981 : Cond.fieldLink RX9 62 "PermitRoomModel" "stateOf" "[I" ∈ lw_g := g_in (List.mem_of_getElem? (i := 981) (by decide +kernel)) rfl
theorem w_982 : Cond.fieldLink RX9 65 "PermitRoomModel" "holderOf" "[I" ∈ lw_g := g_in (List.mem_of_getElem? (i := 982) (by decide +kernel)) rfl
theorem w_983 : Cond.fieldLink RX9 68 "PermitRoomModel" "testOf" "[I" ∈ lw_g := g_in (List.mem_of_getElem? (i := 983) (by decide +kernel)) rfl
theorem w_984 : Cond.fieldLink RX9 71 "PermitRoomModel" "testAt" "[I" ∈ lw_g := g_in (List.mem_of_getElem? (i := 984) (by decide +kernel)) rfl
theorem w_985 : Cond.fieldLink RX9 74 "PermitRoomModel" "ended" "[I" ∈ lw_g := g_in (List.mem_of_getElem? (i := 985) (by decide +kernel)) rfl
theorem w_986 : Cond.fieldLink RX9 77 "PermitRoomModel" "closedThen" "[I" ∈ lw_g := g_in (List.mem_of_getElem? (i := 986) (by decide +kernel)) rfl
theorem w_987 : Cond.fieldLink RX9 80 "PermitRoomModel" "liveThen" "[I" ∈ lw_g := g_in (List.mem_of_getElem? (i := 987) (by decide +kernel)) rfl
theorem w_988 : Cond.fieldLink RX9 83 "PermitRoomModel" "tape" "[I" ∈ lw_g := g_in (List.mem_of_getElem? (i := 988) (by decide +kernel)) rfl
theorem w_990 : Cond.fieldLink RX9 86 "PermitRoomModel" "far" "[I" ∈ lw_g := g_in (List.mem_of_getElem? (i := 990) (by decide +kernel)) rfl
theorem w_998 : Cond.fieldLink RX9 89 "PermitRoomModel" "rest" "[I" ∈ lw_g := g_in (List.mem_of_getElem? (i := 998) (by decide +kernel)) rfl
theorem w_1001 : Cond.fieldLink RX9 92 "PermitRoomModel" "ordered" "[I" ∈ lw_g := g_in (List.mem_of_getElem? (i := 1001) (by decide +kernel)) rfl
theorem w_1003 : Cond.fieldLink RX9 95 "PermitRoomModel" "proof" "[I" ∈ lw_g := g_in (List.mem_of_getElem? (i := 1003) (by decide +kernel)) rfl
theorem w_1005 : Cond.fieldLink RX9 98 "PermitRoomModel" "rows" "[I" ∈ lw_g := g_in (List.mem_of_getElem? (i := 1005) (by decide +kernel)) rfl
theorem w_961 : Cond.fieldLink RX9 101 "PermitRoomModel" "pipes" "I" ∈ lw_g := g_in (List.mem_of_getElem? (i := 961) (by decide +kernel)) rfl
theorem w_977 : Cond.fieldLink RX9 113 "PermitRoomModel" "permits" "I" ∈ lw_g := g_in (List.mem_of_getElem? (i := 977) (by decide +kernel)) rfl
theorem w_960 : Cond.fieldLink RX9 119 "PermitRoomModel" "now" "I" ∈ lw_g := g_in (List.mem_of_getElem? (i := 960) (by decide +kernel)) rfl
theorem w_968 : Cond.fieldLink RX9 140 "PermitRoomModel" "rules" "I" ∈ lw_g := g_in (List.mem_of_getElem? (i := 968) (by decide +kernel)) rfl
theorem w_989 : Cond.fieldLink RX9 168 "PermitRoomModel" "taped" "I" ∈ lw_g := g_in (List.mem_of_getElem? (i := 989) (by decide +kernel)) rfl
theorem w_992 : Cond.fieldLink RX9 173 "PermitRoomModel" "end" "I" ∈ lw_g := g_in (List.mem_of_getElem? (i := 992) (by decide +kernel)) rfl
theorem w_991 : Cond.fieldLink RX9 176 "PermitRoomModel" "from" "I" ∈ lw_g := g_in (List.mem_of_getElem? (i := 991) (by decide +kernel)) rfl
theorem w_993 : Cond.fieldLink RX9 185 "PermitRoomModel" "fault" "I" ∈ lw_g := g_in (List.mem_of_getElem? (i := 993) (by decide +kernel)) rfl
theorem w_996 : Cond.fieldLink RX9 222 "PermitRoomModel" "readOne" "I" ∈ lw_g := g_in (List.mem_of_getElem? (i := 996) (by decide +kernel)) rfl
theorem w_997 : Cond.fieldLink RX9 225 "PermitRoomModel" "readTwo" "I" ∈ lw_g := g_in (List.mem_of_getElem? (i := 997) (by decide +kernel)) rfl
theorem w_994 : Cond.fieldLink RX9 231 "PermitRoomModel" "readKind" "I" ∈ lw_g := g_in (List.mem_of_getElem? (i := 994) (by decide +kernel)) rfl
theorem w_995 : Cond.fieldLink RX9 240 "PermitRoomModel" "readSort" "I" ∈ lw_g := g_in (List.mem_of_getElem? (i := 995) (by decide +kernel)) rfl
theorem w_1006 : Cond.fieldLink RX9 325 "PermitRoomModel" "shut" "I" ∈ lw_g := g_in (List.mem_of_getElem? (i := 1006) (by decide +kernel)) rfl
theorem w_999 : Cond.fieldLink RX9 337 "PermitRoomModel" "orderMany" "I" ∈ lw_g := g_in (List.mem_of_getElem? (i := 999) (by decide +kernel)) rfl
theorem w_1002 : Cond.fieldLink RX9 340 "PermitRoomModel" "proved" "I" ∈ lw_g := g_in (List.mem_of_getElem? (i := 1002) (by decide +kernel)) rfl
theorem w_1000 : Cond.fieldLink RX9 343 "PermitRoomModel" "isTold" "Z" ∈ lw_g := g_in (List.mem_of_getElem? (i := 1000) (by decide +kernel)) rfl
theorem w_1004 : Cond.fieldLink RX9 347 "PermitRoomModel" "rowMany" "I" ∈ lw_g := g_in (List.mem_of_getElem? (i := 1004) (by decide +kernel)) rfl
theorem w_344 : Cond.fieldLink RX4 31 "PermitRoom$Plan" "isTold" "Z" ∈ lw_g := g_in (List.mem_of_getElem? (i := 344) (by decide +kernel)) rfl
theorem w_285 : Cond.fieldLink RX7 22 "PermitRoom$Tape" "subject" "I" ∈ lw_g := g_in (List.mem_of_getElem? (i := 285) (by decide +kernel)) rfl
theorem w_287 : Cond.fieldLink RX7 25 "PermitRoom$Tape" "second" "I" ∈ lw_g := g_in (List.mem_of_getElem? (i := 287) (by decide +kernel)) rfl
theorem w_289 : Cond.fieldLink RX7 28 "PermitRoom$Tape" "last" "I" ∈ lw_g := g_in (List.mem_of_getElem? (i := 289) (by decide +kernel)) rfl
theorem w_902 : Cond.methodLink RX4 83 Lib.Math.min.name ∈ lw_g := g_in (List.mem_of_getElem? (i := 902) (by decide +kernel)) rfl
theorem w_903 : Cond.static Lib.Math.min.name ∈ lw_g := g_in (List.mem_of_getElem? (i := 903) (by decide +kernel)) rfl
theorem w_93 : Cond.initialized "java/lang/Math" ∈ lw_g := g_in (List.mem_of_getElem? (i := 93) (by decide +kernel)) rfl
theorem w_904 : Cond.code Lib.Math.min.name Lib.Math.min.code 2 (some .int) ∈ lw_g := g_in (List.mem_of_getElem? (i := 904) (by decide +kernel)) rfl
theorem w_917 : Cond.methodLink RX4 56 arraycopyName ∈ lw_g := g_in (List.mem_of_getElem? (i := 917) (by decide +kernel)) rfl
theorem w_919 : Cond.native arraycopyName ∈ lw_g := g_in (List.mem_of_getElem? (i := 919) (by decide +kernel)) rfl
theorem w_918 : Cond.static arraycopyName ∈ lw_g := g_in (List.mem_of_getElem? (i := 918) (by decide +kernel)) rfl
theorem w_94 : Cond.initialized "java/lang/System" ∈ lw_g := g_in (List.mem_of_getElem? (i := 94) (by decide +kernel)) rfl
theorem w_561 : Cond.methodLink RJ0 335 yJ0_coder_7d493 ∈ lw_g := g_in (List.mem_of_getElem? (i := 561) (by decide +kernel)) rfl
theorem w_562 : Cond.instanceMethod yJ0_coder_7d493 ∈ lw_g := g_in (List.mem_of_getElem? (i := 562) (by decide +kernel)) rfl
theorem w_563 : Cond.selects yJ0_coder_7d493.cls yJ0_coder_7d493 yJ0_coder_7d493 ∈ lw_g := g_in (List.mem_of_getElem? (i := 563) (by decide +kernel)) rfl
theorem w_88 : Cond.initialized RJ0 ∈ lw_g := g_in (List.mem_of_getElem? (i := 88) (by decide +kernel)) rfl
theorem w_564 : Cond.code yJ0_coder_7d493 cJ0_coder_7d493 1 (some .byte) ∈ lw_g := g_in (List.mem_of_getElem? (i := 564) (by decide +kernel)) rfl
theorem w_571 : Cond.methodLink RJ0 492 yJ0_isLatin1_aae02 ∈ lw_g := g_in (List.mem_of_getElem? (i := 571) (by decide +kernel)) rfl
theorem w_572 : Cond.instanceMethod yJ0_isLatin1_aae02 ∈ lw_g := g_in (List.mem_of_getElem? (i := 572) (by decide +kernel)) rfl
theorem w_573 : Cond.selects yJ0_isLatin1_aae02.cls yJ0_isLatin1_aae02 yJ0_isLatin1_aae02 ∈ lw_g := g_in (List.mem_of_getElem? (i := 573) (by decide +kernel)) rfl
theorem w_574 : Cond.code yJ0_isLatin1_aae02 cJ0_isLatin1_aae02 1 (some .boolean) ∈ lw_g := g_in (List.mem_of_getElem? (i := 574) (by decide +kernel)) rfl
theorem w_827 : Cond.methodLink RX0 23 yX0_insideFor ∈ lw_g := g_in (List.mem_of_getElem? (i := 827) (by decide +kernel)) rfl
theorem w_732 : Cond.instanceMethod yX0_insideFor ∈ lw_g := g_in (List.mem_of_getElem? (i := 732) (by decide +kernel)) rfl
theorem w_733 : Cond.selects yX0_insideFor.cls yX0_insideFor yX0_insideFor ∈ lw_g := g_in (List.mem_of_getElem? (i := 733) (by decide +kernel)) rfl
theorem w_83 : Cond.initialized RX0 ∈ lw_g := g_in (List.mem_of_getElem? (i := 83) (by decide +kernel)) rfl
theorem w_734 : Cond.code yX0_insideFor cX0_insideFor 4 (some .int) ∈ lw_g := g_in (List.mem_of_getElem? (i := 734) (by decide +kernel)) rfl
theorem w_823 : Cond.methodLink RX0 27 yX0_allInside ∈ lw_g := g_in (List.mem_of_getElem? (i := 823) (by decide +kernel)) rfl
theorem w_824 : Cond.instanceMethod yX0_allInside ∈ lw_g := g_in (List.mem_of_getElem? (i := 824) (by decide +kernel)) rfl
theorem w_825 : Cond.selects yX0_allInside.cls yX0_allInside yX0_allInside ∈ lw_g := g_in (List.mem_of_getElem? (i := 825) (by decide +kernel)) rfl
theorem w_826 : Cond.code yX0_allInside cX0_allInside 1 (some .int) ∈ lw_g := g_in (List.mem_of_getElem? (i := 826) (by decide +kernel)) rfl
theorem w_449 : Cond.methodLink RX2 43 yX2_has ∈ lw_g := g_in (List.mem_of_getElem? (i := 449) (by decide +kernel)) rfl
theorem w_414 : Cond.instanceMethod yX2_has ∈ lw_g := g_in (List.mem_of_getElem? (i := 414) (by decide +kernel)) rfl
theorem w_415 : Cond.selects yX2_has.cls yX2_has yX2_has ∈ lw_g := g_in (List.mem_of_getElem? (i := 415) (by decide +kernel)) rfl
theorem w_80 : Cond.initialized RX2 ∈ lw_g := g_in (List.mem_of_getElem? (i := 80) (by decide +kernel)) rfl
theorem w_416 : Cond.code yX2_has cX2_has 2 (some .boolean) ∈ lw_g := g_in (List.mem_of_getElem? (i := 416) (by decide +kernel)) rfl
theorem w_474 : Cond.methodLink RX2 47 yX2_spread ∈ lw_g := g_in (List.mem_of_getElem? (i := 474) (by decide +kernel)) rfl
theorem w_475 : Cond.instanceMethod yX2_spread ∈ lw_g := g_in (List.mem_of_getElem? (i := 475) (by decide +kernel)) rfl
theorem w_476 : Cond.selects yX2_spread.cls yX2_spread yX2_spread ∈ lw_g := g_in (List.mem_of_getElem? (i := 476) (by decide +kernel)) rfl
theorem w_477 : Cond.code yX2_spread cX2_spread 7 (some .int) ∈ lw_g := g_in (List.mem_of_getElem? (i := 477) (by decide +kernel)) rfl
theorem w_478 : Cond.methodLink RX2 51 yX2_sourcesOf ∈ lw_g := g_in (List.mem_of_getElem? (i := 478) (by decide +kernel)) rfl
theorem w_479 : Cond.instanceMethod yX2_sourcesOf ∈ lw_g := g_in (List.mem_of_getElem? (i := 479) (by decide +kernel)) rfl
theorem w_480 : Cond.selects yX2_sourcesOf.cls yX2_sourcesOf yX2_sourcesOf ∈ lw_g := g_in (List.mem_of_getElem? (i := 480) (by decide +kernel)) rfl
theorem w_481 : Cond.code yX2_sourcesOf cX2_sourcesOf 4 (some .int) ∈ lw_g := g_in (List.mem_of_getElem? (i := 481) (by decide +kernel)) rfl
theorem w_482 : Cond.methodLink RX2 55 yX2_stepOver ∈ lw_g := g_in (List.mem_of_getElem? (i := 482) (by decide +kernel)) rfl
theorem w_483 : Cond.instanceMethod yX2_stepOver ∈ lw_g := g_in (List.mem_of_getElem? (i := 483) (by decide +kernel)) rfl
theorem w_484 : Cond.selects yX2_stepOver.cls yX2_stepOver yX2_stepOver ∈ lw_g := g_in (List.mem_of_getElem? (i := 484) (by decide +kernel)) rfl
theorem w_485 : Cond.code yX2_stepOver cX2_stepOver 5 (some .int) ∈ lw_g := g_in (List.mem_of_getElem? (i := 485) (by decide +kernel)) rfl
theorem w_494 : Cond.methodLink RX2 58 yX2_allPipes ∈ lw_g := g_in (List.mem_of_getElem? (i := 494) (by decide +kernel)) rfl
theorem w_459 : Cond.instanceMethod yX2_allPipes ∈ lw_g := g_in (List.mem_of_getElem? (i := 459) (by decide +kernel)) rfl
theorem w_460 : Cond.selects yX2_allPipes.cls yX2_allPipes yX2_allPipes ∈ lw_g := g_in (List.mem_of_getElem? (i := 460) (by decide +kernel)) rfl
theorem w_461 : Cond.code yX2_allPipes cX2_allPipes 1 (some .int) ∈ lw_g := g_in (List.mem_of_getElem? (i := 461) (by decide +kernel)) rfl
theorem w_845 : Cond.methodLink RX2 67 yX2_isSafe ∈ lw_g := g_in (List.mem_of_getElem? (i := 845) (by decide +kernel)) rfl
theorem w_471 : Cond.instanceMethod yX2_isSafe ∈ lw_g := g_in (List.mem_of_getElem? (i := 471) (by decide +kernel)) rfl
theorem w_472 : Cond.selects yX2_isSafe.cls yX2_isSafe yX2_isSafe ∈ lw_g := g_in (List.mem_of_getElem? (i := 472) (by decide +kernel)) rfl
theorem w_473 : Cond.code yX2_isSafe cX2_isSafe 8 (some .boolean) ∈ lw_g := g_in (List.mem_of_getElem? (i := 473) (by decide +kernel)) rfl
theorem w_846 : Cond.methodLink RX2 71 yX2_allFittings ∈ lw_g := g_in (List.mem_of_getElem? (i := 846) (by decide +kernel)) rfl
theorem w_657 : Cond.instanceMethod yX2_allFittings ∈ lw_g := g_in (List.mem_of_getElem? (i := 657) (by decide +kernel)) rfl
theorem w_658 : Cond.selects yX2_allFittings.cls yX2_allFittings yX2_allFittings ∈ lw_g := g_in (List.mem_of_getElem? (i := 658) (by decide +kernel)) rfl
theorem w_659 : Cond.code yX2_allFittings cX2_allFittings 1 (some .int) ∈ lw_g := g_in (List.mem_of_getElem? (i := 659) (by decide +kernel)) rfl
theorem w_847 : Cond.methodLink RX2 74 yX2_thinned ∈ lw_g := g_in (List.mem_of_getElem? (i := 847) (by decide +kernel)) rfl
theorem w_849 : Cond.instanceMethod yX2_thinned ∈ lw_g := g_in (List.mem_of_getElem? (i := 849) (by decide +kernel)) rfl
theorem w_20 : Cond.selects yX2_thinned.cls yX2_thinned yX2_thinned ∈ lw_g := g_in (List.mem_of_getElem? (i := 20) (by decide +kernel)) rfl
theorem w_850 : Cond.code yX2_thinned cX2_thinned 6 (some .int) ∈ lw_g := g_in (List.mem_of_getElem? (i := 850) (by decide +kernel)) rfl
theorem w_854 : Cond.methodLink RX2 81 yX2_hoursOf ∈ lw_g := g_in (List.mem_of_getElem? (i := 854) (by decide +kernel)) rfl
theorem w_855 : Cond.instanceMethod yX2_hoursOf ∈ lw_g := g_in (List.mem_of_getElem? (i := 855) (by decide +kernel)) rfl
theorem w_856 : Cond.selects yX2_hoursOf.cls yX2_hoursOf yX2_hoursOf ∈ lw_g := g_in (List.mem_of_getElem? (i := 856) (by decide +kernel)) rfl
theorem w_857 : Cond.code yX2_hoursOf cX2_hoursOf 2 (some .int) ∈ lw_g := g_in (List.mem_of_getElem? (i := 857) (by decide +kernel)) rfl
theorem w_859 : Cond.methodLink RX2 84 yX2_isBetter ∈ lw_g := g_in (List.mem_of_getElem? (i := 859) (by decide +kernel)) rfl
theorem w_861 : Cond.instanceMethod yX2_isBetter ∈ lw_g := g_in (List.mem_of_getElem? (i := 861) (by decide +kernel)) rfl
theorem w_21 : Cond.selects yX2_isBetter.cls yX2_isBetter yX2_isBetter ∈ lw_g := g_in (List.mem_of_getElem? (i := 21) (by decide +kernel)) rfl
theorem w_862 : Cond.code yX2_isBetter cX2_isBetter 5 (some .boolean) ∈ lw_g := g_in (List.mem_of_getElem? (i := 862) (by decide +kernel)) rfl
theorem w_425 : Cond.methodLink RX3 40 yX3_locksOf ∈ lw_g := g_in (List.mem_of_getElem? (i := 425) (by decide +kernel)) rfl
theorem w_427 : Cond.instanceMethod yX3_locksOf ∈ lw_g := g_in (List.mem_of_getElem? (i := 427) (by decide +kernel)) rfl
theorem w_0 : Cond.selects yX3_locksOf.cls yX3_locksOf yX3_locksOf ∈ lw_g := g_in (List.mem_of_getElem? (i := 0) (by decide +kernel)) rfl
theorem w_82 : Cond.initialized RX3 ∈ lw_g := g_in (List.mem_of_getElem? (i := 82) (by decide +kernel)) rfl
theorem w_428 : Cond.code yX3_locksOf cX3_locksOf 2 (some .int) ∈ lw_g := g_in (List.mem_of_getElem? (i := 428) (by decide +kernel)) rfl
theorem w_832 : Cond.methodLink RX3 49 yX3_endLive ∈ lw_g := g_in (List.mem_of_getElem? (i := 832) (by decide +kernel)) rfl
theorem w_774 : Cond.instanceMethod yX3_endLive ∈ lw_g := g_in (List.mem_of_getElem? (i := 774) (by decide +kernel)) rfl
theorem w_775 : Cond.selects yX3_endLive.cls yX3_endLive yX3_endLive ∈ lw_g := g_in (List.mem_of_getElem? (i := 775) (by decide +kernel)) rfl
theorem w_776 : Cond.code yX3_endLive cX3_endLive 3 none ∈ lw_g := g_in (List.mem_of_getElem? (i := 776) (by decide +kernel)) rfl
theorem w_889 : Cond.methodLink RX4 44 yX4_gatherWorks ∈ lw_g := g_in (List.mem_of_getElem? (i := 889) (by decide +kernel)) rfl
theorem w_891 : Cond.instanceMethod yX4_gatherWorks ∈ lw_g := g_in (List.mem_of_getElem? (i := 891) (by decide +kernel)) rfl
theorem w_23 : Cond.selects yX4_gatherWorks.cls yX4_gatherWorks yX4_gatherWorks ∈ lw_g := g_in (List.mem_of_getElem? (i := 23) (by decide +kernel)) rfl
theorem w_86 : Cond.initialized RX4 ∈ lw_g := g_in (List.mem_of_getElem? (i := 86) (by decide +kernel)) rfl
theorem w_892 : Cond.code yX4_gatherWorks cX4_gatherWorks 4 none ∈ lw_g := g_in (List.mem_of_getElem? (i := 892) (by decide +kernel)) rfl
theorem w_893 : Cond.methodLink RX4 48 yX4_fewestLeft ∈ lw_g := g_in (List.mem_of_getElem? (i := 893) (by decide +kernel)) rfl
theorem w_895 : Cond.instanceMethod yX4_fewestLeft ∈ lw_g := g_in (List.mem_of_getElem? (i := 895) (by decide +kernel)) rfl
theorem w_24 : Cond.selects yX4_fewestLeft.cls yX4_fewestLeft yX4_fewestLeft ∈ lw_g := g_in (List.mem_of_getElem? (i := 24) (by decide +kernel)) rfl
theorem w_896 : Cond.code yX4_fewestLeft cX4_fewestLeft 5 (some .int) ∈ lw_g := g_in (List.mem_of_getElem? (i := 896) (by decide +kernel)) rfl
theorem w_905 : Cond.methodLink RX4 52 yX4_layOrder ∈ lw_g := g_in (List.mem_of_getElem? (i := 905) (by decide +kernel)) rfl
theorem w_907 : Cond.instanceMethod yX4_layOrder ∈ lw_g := g_in (List.mem_of_getElem? (i := 907) (by decide +kernel)) rfl
theorem w_26 : Cond.selects yX4_layOrder.cls yX4_layOrder yX4_layOrder ∈ lw_g := g_in (List.mem_of_getElem? (i := 26) (by decide +kernel)) rfl
theorem w_908 : Cond.code yX4_layOrder cX4_layOrder 7 (some .int) ∈ lw_g := g_in (List.mem_of_getElem? (i := 908) (by decide +kernel)) rfl
theorem w_898 : Cond.methodLink RX4 79 yX4_movesThrough ∈ lw_g := g_in (List.mem_of_getElem? (i := 898) (by decide +kernel)) rfl
theorem w_900 : Cond.instanceMethod yX4_movesThrough ∈ lw_g := g_in (List.mem_of_getElem? (i := 900) (by decide +kernel)) rfl
theorem w_25 : Cond.selects yX4_movesThrough.cls yX4_movesThrough yX4_movesThrough ∈ lw_g := g_in (List.mem_of_getElem? (i := 25) (by decide +kernel)) rfl
theorem w_901 : Cond.code yX4_movesThrough cX4_movesThrough 5 (some .int) ∈ lw_g := g_in (List.mem_of_getElem? (i := 901) (by decide +kernel)) rfl
theorem w_909 : Cond.methodLink RX4 88 yX4_bestWork ∈ lw_g := g_in (List.mem_of_getElem? (i := 909) (by decide +kernel)) rfl
theorem w_911 : Cond.instanceMethod yX4_bestWork ∈ lw_g := g_in (List.mem_of_getElem? (i := 911) (by decide +kernel)) rfl
theorem w_27 : Cond.selects yX4_bestWork.cls yX4_bestWork yX4_bestWork ∈ lw_g := g_in (List.mem_of_getElem? (i := 27) (by decide +kernel)) rfl
theorem w_912 : Cond.code yX4_bestWork cX4_bestWork 9 (some .int) ∈ lw_g := g_in (List.mem_of_getElem? (i := 912) (by decide +kernel)) rfl
theorem w_913 : Cond.methodLink RX4 92 yX4_addRow ∈ lw_g := g_in (List.mem_of_getElem? (i := 913) (by decide +kernel)) rfl
theorem w_915 : Cond.instanceMethod yX4_addRow ∈ lw_g := g_in (List.mem_of_getElem? (i := 915) (by decide +kernel)) rfl
theorem w_28 : Cond.selects yX4_addRow.cls yX4_addRow yX4_addRow ∈ lw_g := g_in (List.mem_of_getElem? (i := 28) (by decide +kernel)) rfl
theorem w_916 : Cond.code yX4_addRow cX4_addRow 4 none ∈ lw_g := g_in (List.mem_of_getElem? (i := 916) (by decide +kernel)) rfl
theorem w_421 : Cond.methodLink RX5 43 yX3_lockedPipes ∈ lw_g := g_in (List.mem_of_getElem? (i := 421) (by decide +kernel)) rfl
theorem w_422 : Cond.instanceMethod yX3_lockedPipes ∈ lw_g := g_in (List.mem_of_getElem? (i := 422) (by decide +kernel)) rfl
theorem w_423 : Cond.selects yX3_lockedPipes.cls yX3_lockedPipes yX3_lockedPipes ∈ lw_g := g_in (List.mem_of_getElem? (i := 423) (by decide +kernel)) rfl
theorem w_424 : Cond.code yX3_lockedPipes cX3_lockedPipes 3 (some .int) ∈ lw_g := g_in (List.mem_of_getElem? (i := 424) (by decide +kernel)) rfl
theorem w_694 : Cond.methodLink RX5 54 yX5_barOfStart ∈ lw_g := g_in (List.mem_of_getElem? (i := 694) (by decide +kernel)) rfl
theorem w_696 : Cond.instanceMethod yX5_barOfStart ∈ lw_g := g_in (List.mem_of_getElem? (i := 696) (by decide +kernel)) rfl
theorem w_13 : Cond.selects yX5_barOfStart.cls yX5_barOfStart yX5_barOfStart ∈ lw_g := g_in (List.mem_of_getElem? (i := 13) (by decide +kernel)) rfl
theorem w_79 : Cond.initialized RX5 ∈ lw_g := g_in (List.mem_of_getElem? (i := 79) (by decide +kernel)) rfl
theorem w_697 : Cond.code yX5_barOfStart cX5_barOfStart 3 (some .int) ∈ lw_g := g_in (List.mem_of_getElem? (i := 697) (by decide +kernel)) rfl
theorem w_731 : Cond.methodLink RX5 58 yX0_insideFor ∈ lw_g := g_in (List.mem_of_getElem? (i := 731) (by decide +kernel)) rfl
theorem w_735 : Cond.methodLink RX5 62 yX5_barOfBack ∈ lw_g := g_in (List.mem_of_getElem? (i := 735) (by decide +kernel)) rfl
theorem w_737 : Cond.instanceMethod yX5_barOfBack ∈ lw_g := g_in (List.mem_of_getElem? (i := 737) (by decide +kernel)) rfl
theorem w_16 : Cond.selects yX5_barOfBack.cls yX5_barOfBack yX5_barOfBack ∈ lw_g := g_in (List.mem_of_getElem? (i := 16) (by decide +kernel)) rfl
theorem w_738 : Cond.code yX5_barOfBack cX5_barOfBack 3 (some .int) ∈ lw_g := g_in (List.mem_of_getElem? (i := 738) (by decide +kernel)) rfl
theorem w_743 : Cond.methodLink RX5 65 yX5_barOfEnter ∈ lw_g := g_in (List.mem_of_getElem? (i := 743) (by decide +kernel)) rfl
theorem w_745 : Cond.instanceMethod yX5_barOfEnter ∈ lw_g := g_in (List.mem_of_getElem? (i := 745) (by decide +kernel)) rfl
theorem w_18 : Cond.selects yX5_barOfEnter.cls yX5_barOfEnter yX5_barOfEnter ∈ lw_g := g_in (List.mem_of_getElem? (i := 18) (by decide +kernel)) rfl
theorem w_746 : Cond.code yX5_barOfEnter cX5_barOfEnter 3 (some .int) ∈ lw_g := g_in (List.mem_of_getElem? (i := 746) (by decide +kernel)) rfl
theorem w_698 : Cond.methodLink RX5 71 yX5_closedNow ∈ lw_g := g_in (List.mem_of_getElem? (i := 698) (by decide +kernel)) rfl
theorem w_418 : Cond.instanceMethod yX5_closedNow ∈ lw_g := g_in (List.mem_of_getElem? (i := 418) (by decide +kernel)) rfl
theorem w_419 : Cond.selects yX5_closedNow.cls yX5_closedNow yX5_closedNow ∈ lw_g := g_in (List.mem_of_getElem? (i := 419) (by decide +kernel)) rfl
theorem w_420 : Cond.code yX5_closedNow cX5_closedNow 1 (some .int) ∈ lw_g := g_in (List.mem_of_getElem? (i := 420) (by decide +kernel)) rfl
theorem w_699 : Cond.methodLink RX5 74 yX2_allPipes ∈ lw_g := g_in (List.mem_of_getElem? (i := 699) (by decide +kernel)) rfl
theorem w_700 : Cond.methodLink RX5 77 yX6_doubledAt ∈ lw_g := g_in (List.mem_of_getElem? (i := 700) (by decide +kernel)) rfl
theorem w_463 : Cond.instanceMethod yX6_doubledAt ∈ lw_g := g_in (List.mem_of_getElem? (i := 463) (by decide +kernel)) rfl
theorem w_464 : Cond.selects yX6_doubledAt.cls yX6_doubledAt yX6_doubledAt ∈ lw_g := g_in (List.mem_of_getElem? (i := 464) (by decide +kernel)) rfl
theorem w_81 : Cond.initialized RX6 ∈ lw_g := g_in (List.mem_of_getElem? (i := 81) (by decide +kernel)) rfl
theorem w_465 : Cond.code yX6_doubledAt cX6_doubledAt 4 (some .int) ∈ lw_g := g_in (List.mem_of_getElem? (i := 465) (by decide +kernel)) rfl
theorem w_701 : Cond.methodLink RX5 80 yX2_isSafe ∈ lw_g := g_in (List.mem_of_getElem? (i := 701) (by decide +kernel)) rfl
theorem w_702 : Cond.methodLink RX5 84 yX5_lacksTest ∈ lw_g := g_in (List.mem_of_getElem? (i := 702) (by decide +kernel)) rfl
theorem w_704 : Cond.instanceMethod yX5_lacksTest ∈ lw_g := g_in (List.mem_of_getElem? (i := 704) (by decide +kernel)) rfl
theorem w_14 : Cond.selects yX5_lacksTest.cls yX5_lacksTest yX5_lacksTest ∈ lw_g := g_in (List.mem_of_getElem? (i := 14) (by decide +kernel)) rfl
theorem w_705 : Cond.code yX5_lacksTest cX5_lacksTest 5 (some .boolean) ∈ lw_g := g_in (List.mem_of_getElem? (i := 705) (by decide +kernel)) rfl
theorem w_714 : Cond.methodLink RX5 88 yX5_quarrelOf ∈ lw_g := g_in (List.mem_of_getElem? (i := 714) (by decide +kernel)) rfl
theorem w_715 : Cond.instanceMethod yX5_quarrelOf ∈ lw_g := g_in (List.mem_of_getElem? (i := 715) (by decide +kernel)) rfl
theorem w_716 : Cond.selects yX5_quarrelOf.cls yX5_quarrelOf yX5_quarrelOf ∈ lw_g := g_in (List.mem_of_getElem? (i := 716) (by decide +kernel)) rfl
theorem w_717 : Cond.code yX5_quarrelOf cX5_quarrelOf 5 (some .int) ∈ lw_g := g_in (List.mem_of_getElem? (i := 717) (by decide +kernel)) rfl
theorem w_723 : Cond.methodLink RX5 91 yX5_isOffHours ∈ lw_g := g_in (List.mem_of_getElem? (i := 723) (by decide +kernel)) rfl
theorem w_725 : Cond.instanceMethod yX5_isOffHours ∈ lw_g := g_in (List.mem_of_getElem? (i := 725) (by decide +kernel)) rfl
theorem w_15 : Cond.selects yX5_isOffHours.cls yX5_isOffHours yX5_isOffHours ∈ lw_g := g_in (List.mem_of_getElem? (i := 15) (by decide +kernel)) rfl
theorem w_726 : Cond.code yX5_isOffHours cX5_isOffHours 5 (some .boolean) ∈ lw_g := g_in (List.mem_of_getElem? (i := 726) (by decide +kernel)) rfl
theorem w_730 : Cond.methodLink RX5 97 yX0_isOn ∈ lw_g := g_in (List.mem_of_getElem? (i := 730) (by decide +kernel)) rfl
theorem w_676 : Cond.instanceMethod yX0_isOn ∈ lw_g := g_in (List.mem_of_getElem? (i := 676) (by decide +kernel)) rfl
theorem w_677 : Cond.selects yX0_isOn.cls yX0_isOn yX0_isOn ∈ lw_g := g_in (List.mem_of_getElem? (i := 677) (by decide +kernel)) rfl
theorem w_678 : Cond.code yX0_isOn cX0_isOn 2 (some .boolean) ∈ lw_g := g_in (List.mem_of_getElem? (i := 678) (by decide +kernel)) rfl
theorem w_739 : Cond.methodLink RX5 101 yX5_isWatched ∈ lw_g := g_in (List.mem_of_getElem? (i := 739) (by decide +kernel)) rfl
theorem w_741 : Cond.instanceMethod yX5_isWatched ∈ lw_g := g_in (List.mem_of_getElem? (i := 741) (by decide +kernel)) rfl
theorem w_17 : Cond.selects yX5_isWatched.cls yX5_isWatched yX5_isWatched ∈ lw_g := g_in (List.mem_of_getElem? (i := 17) (by decide +kernel)) rfl
theorem w_742 : Cond.code yX5_isWatched cX5_isWatched 5 (some .boolean) ∈ lw_g := g_in (List.mem_of_getElem? (i := 742) (by decide +kernel)) rfl
theorem w_747 : Cond.methodLink RX5 104 yX5_isCrowded ∈ lw_g := g_in (List.mem_of_getElem? (i := 747) (by decide +kernel)) rfl
theorem w_749 : Cond.instanceMethod yX5_isCrowded ∈ lw_g := g_in (List.mem_of_getElem? (i := 749) (by decide +kernel)) rfl
theorem w_19 : Cond.selects yX5_isCrowded.cls yX5_isCrowded yX5_isCrowded ∈ lw_g := g_in (List.mem_of_getElem? (i := 19) (by decide +kernel)) rfl
theorem w_750 : Cond.code yX5_isCrowded cX5_isCrowded 5 (some .boolean) ∈ lw_g := g_in (List.mem_of_getElem? (i := 750) (by decide +kernel)) rfl
theorem w_706 : Cond.methodLink RX5 113 yX6_speaksOf ∈ lw_g := g_in (List.mem_of_getElem? (i := 706) (by decide +kernel)) rfl
theorem w_707 : Cond.instanceMethod yX6_speaksOf ∈ lw_g := g_in (List.mem_of_getElem? (i := 707) (by decide +kernel)) rfl
theorem w_708 : Cond.selects yX6_speaksOf.cls yX6_speaksOf yX6_speaksOf ∈ lw_g := g_in (List.mem_of_getElem? (i := 708) (by decide +kernel)) rfl
theorem w_709 : Cond.code yX6_speaksOf cX6_speaksOf 5 (some .boolean) ∈ lw_g := g_in (List.mem_of_getElem? (i := 709) (by decide +kernel)) rfl
theorem w_710 : Cond.methodLink RX5 119 yX3_hasGoodTest ∈ lw_g := g_in (List.mem_of_getElem? (i := 710) (by decide +kernel)) rfl
theorem w_711 : Cond.instanceMethod yX3_hasGoodTest ∈ lw_g := g_in (List.mem_of_getElem? (i := 711) (by decide +kernel)) rfl
theorem w_712 : Cond.selects yX3_hasGoodTest.cls yX3_hasGoodTest yX3_hasGoodTest ∈ lw_g := g_in (List.mem_of_getElem? (i := 712) (by decide +kernel)) rfl
theorem w_713 : Cond.code yX3_hasGoodTest cX3_hasGoodTest 4 (some .boolean) ∈ lw_g := g_in (List.mem_of_getElem? (i := 713) (by decide +kernel)) rfl
theorem w_718 : Cond.methodLink RX5 124 yX2_pipesApart ∈ lw_g := g_in (List.mem_of_getElem? (i := 718) (by decide +kernel)) rfl
theorem w_500 : Cond.instanceMethod yX2_pipesApart ∈ lw_g := g_in (List.mem_of_getElem? (i := 500) (by decide +kernel)) rfl
theorem w_501 : Cond.selects yX2_pipesApart.cls yX2_pipesApart yX2_pipesApart ∈ lw_g := g_in (List.mem_of_getElem? (i := 501) (by decide +kernel)) rfl
theorem w_502 : Cond.code yX2_pipesApart cX2_pipesApart 5 (some .int) ∈ lw_g := g_in (List.mem_of_getElem? (i := 502) (by decide +kernel)) rfl
theorem w_719 : Cond.methodLink RX5 127 yX6_barsBoth ∈ lw_g := g_in (List.mem_of_getElem? (i := 719) (by decide +kernel)) rfl
theorem w_720 : Cond.instanceMethod yX6_barsBoth ∈ lw_g := g_in (List.mem_of_getElem? (i := 720) (by decide +kernel)) rfl
theorem w_721 : Cond.selects yX6_barsBoth.cls yX6_barsBoth yX6_barsBoth ∈ lw_g := g_in (List.mem_of_getElem? (i := 721) (by decide +kernel)) rfl
theorem w_722 : Cond.code yX6_barsBoth cX6_barsBoth 7 (some .boolean) ∈ lw_g := g_in (List.mem_of_getElem? (i := 722) (by decide +kernel)) rfl
theorem w_466 : Cond.methodLink RX6 44 yX6_inForce ∈ lw_g := g_in (List.mem_of_getElem? (i := 466) (by decide +kernel)) rfl
theorem w_467 : Cond.instanceMethod yX6_inForce ∈ lw_g := g_in (List.mem_of_getElem? (i := 467) (by decide +kernel)) rfl
theorem w_468 : Cond.selects yX6_inForce.cls yX6_inForce yX6_inForce ∈ lw_g := g_in (List.mem_of_getElem? (i := 468) (by decide +kernel)) rfl
theorem w_469 : Cond.code yX6_inForce cX6_inForce 3 (some .boolean) ∈ lw_g := g_in (List.mem_of_getElem? (i := 469) (by decide +kernel)) rfl
theorem w_533 : Cond.methodLink RX7 44 yX7_readOneOf ∈ lw_g := g_in (List.mem_of_getElem? (i := 533) (by decide +kernel)) rfl
theorem w_535 : Cond.instanceMethod yX7_readOneOf ∈ lw_g := g_in (List.mem_of_getElem? (i := 535) (by decide +kernel)) rfl
theorem w_1 : Cond.selects yX7_readOneOf.cls yX7_readOneOf yX7_readOneOf ∈ lw_g := g_in (List.mem_of_getElem? (i := 1) (by decide +kernel)) rfl
theorem w_84 : Cond.initialized RX7 ∈ lw_g := g_in (List.mem_of_getElem? (i := 84) (by decide +kernel)) rfl
theorem w_536 : Cond.code yX7_readOneOf cX7_readOneOf 3 (some .int) ∈ lw_g := g_in (List.mem_of_getElem? (i := 536) (by decide +kernel)) rfl
theorem w_611 : Cond.methodLink RX7 52 yX7_readRest ∈ lw_g := g_in (List.mem_of_getElem? (i := 611) (by decide +kernel)) rfl
theorem w_613 : Cond.instanceMethod yX7_readRest ∈ lw_g := g_in (List.mem_of_getElem? (i := 613) (by decide +kernel)) rfl
theorem w_8 : Cond.selects yX7_readRest.cls yX7_readRest yX7_readRest ∈ lw_g := g_in (List.mem_of_getElem? (i := 8) (by decide +kernel)) rfl
theorem w_614 : Cond.code yX7_readRest cX7_readRest 1 none ∈ lw_g := g_in (List.mem_of_getElem? (i := 614) (by decide +kernel)) rfl
theorem w_626 : Cond.methodLink RX7 55 yX7_readEnd ∈ lw_g := g_in (List.mem_of_getElem? (i := 626) (by decide +kernel)) rfl
theorem w_628 : Cond.instanceMethod yX7_readEnd ∈ lw_g := g_in (List.mem_of_getElem? (i := 628) (by decide +kernel)) rfl
theorem w_11 : Cond.selects yX7_readEnd.cls yX7_readEnd yX7_readEnd ∈ lw_g := g_in (List.mem_of_getElem? (i := 11) (by decide +kernel)) rfl
theorem w_629 : Cond.code yX7_readEnd cX7_readEnd 1 none ∈ lw_g := g_in (List.mem_of_getElem? (i := 629) (by decide +kernel)) rfl
theorem w_616 : Cond.methodLink RX7 60 yX7_readNumber ∈ lw_g := g_in (List.mem_of_getElem? (i := 616) (by decide +kernel)) rfl
theorem w_618 : Cond.instanceMethod yX7_readNumber ∈ lw_g := g_in (List.mem_of_getElem? (i := 618) (by decide +kernel)) rfl
theorem w_9 : Cond.selects yX7_readNumber.cls yX7_readNumber yX7_readNumber ∈ lw_g := g_in (List.mem_of_getElem? (i := 9) (by decide +kernel)) rfl
theorem w_619 : Cond.code yX7_readNumber cX7_readNumber 4 (some .int) ∈ lw_g := g_in (List.mem_of_getElem? (i := 619) (by decide +kernel)) rfl
theorem w_537 : Cond.methodLink RX7 68 yX7_findPiece ∈ lw_g := g_in (List.mem_of_getElem? (i := 537) (by decide +kernel)) rfl
theorem w_539 : Cond.instanceMethod yX7_findPiece ∈ lw_g := g_in (List.mem_of_getElem? (i := 539) (by decide +kernel)) rfl
theorem w_2 : Cond.selects yX7_findPiece.cls yX7_findPiece yX7_findPiece ∈ lw_g := g_in (List.mem_of_getElem? (i := 2) (by decide +kernel)) rfl
theorem w_540 : Cond.code yX7_findPiece cX7_findPiece 2 none ∈ lw_g := g_in (List.mem_of_getElem? (i := 540) (by decide +kernel)) rfl
theorem w_605 : Cond.methodLink RX7 71 yX7_blame ∈ lw_g := g_in (List.mem_of_getElem? (i := 605) (by decide +kernel)) rfl
theorem w_607 : Cond.instanceMethod yX7_blame ∈ lw_g := g_in (List.mem_of_getElem? (i := 607) (by decide +kernel)) rfl
theorem w_7 : Cond.selects yX7_blame.cls yX7_blame yX7_blame ∈ lw_g := g_in (List.mem_of_getElem? (i := 7) (by decide +kernel)) rfl
theorem w_608 : Cond.code yX7_blame cX7_blame 1 none ∈ lw_g := g_in (List.mem_of_getElem? (i := 608) (by decide +kernel)) rfl
theorem w_549 : Cond.methodLink RX7 74 yX7_isParted ∈ lw_g := g_in (List.mem_of_getElem? (i := 549) (by decide +kernel)) rfl
theorem w_551 : Cond.instanceMethod yX7_isParted ∈ lw_g := g_in (List.mem_of_getElem? (i := 551) (by decide +kernel)) rfl
theorem w_5 : Cond.selects yX7_isParted.cls yX7_isParted yX7_isParted ∈ lw_g := g_in (List.mem_of_getElem? (i := 5) (by decide +kernel)) rfl
theorem w_552 : Cond.code yX7_isParted cX7_isParted 1 (some .boolean) ∈ lw_g := g_in (List.mem_of_getElem? (i := 552) (by decide +kernel)) rfl
theorem w_553 : Cond.methodLink RX7 78 yX7_placeAmong ∈ lw_g := g_in (List.mem_of_getElem? (i := 553) (by decide +kernel)) rfl
theorem w_555 : Cond.instanceMethod yX7_placeAmong ∈ lw_g := g_in (List.mem_of_getElem? (i := 555) (by decide +kernel)) rfl
theorem w_6 : Cond.selects yX7_placeAmong.cls yX7_placeAmong yX7_placeAmong ∈ lw_g := g_in (List.mem_of_getElem? (i := 6) (by decide +kernel)) rfl
theorem w_556 : Cond.code yX7_placeAmong cX7_placeAmong 6 (some .int) ∈ lw_g := g_in (List.mem_of_getElem? (i := 556) (by decide +kernel)) rfl
theorem w_620 : Cond.methodLink RX7 81 yX7_numberOfPiece ∈ lw_g := g_in (List.mem_of_getElem? (i := 620) (by decide +kernel)) rfl
theorem w_622 : Cond.instanceMethod yX7_numberOfPiece ∈ lw_g := g_in (List.mem_of_getElem? (i := 622) (by decide +kernel)) rfl
theorem w_10 : Cond.selects yX7_numberOfPiece.cls yX7_numberOfPiece yX7_numberOfPiece ∈ lw_g := g_in (List.mem_of_getElem? (i := 10) (by decide +kernel)) rfl
theorem w_623 : Cond.code yX7_numberOfPiece cX7_numberOfPiece 3 (some .int) ∈ lw_g := g_in (List.mem_of_getElem? (i := 623) (by decide +kernel)) rfl
theorem w_541 : Cond.methodLink RX7 85 yX7_isLetter ∈ lw_g := g_in (List.mem_of_getElem? (i := 541) (by decide +kernel)) rfl
theorem w_543 : Cond.instanceMethod yX7_isLetter ∈ lw_g := g_in (List.mem_of_getElem? (i := 543) (by decide +kernel)) rfl
theorem w_3 : Cond.selects yX7_isLetter.cls yX7_isLetter yX7_isLetter ∈ lw_g := g_in (List.mem_of_getElem? (i := 3) (by decide +kernel)) rfl
theorem w_544 : Cond.code yX7_isLetter cX7_isLetter 2 (some .boolean) ∈ lw_g := g_in (List.mem_of_getElem? (i := 544) (by decide +kernel)) rfl
theorem w_545 : Cond.methodLink RX7 89 yX7_isDigit ∈ lw_g := g_in (List.mem_of_getElem? (i := 545) (by decide +kernel)) rfl
theorem w_547 : Cond.instanceMethod yX7_isDigit ∈ lw_g := g_in (List.mem_of_getElem? (i := 547) (by decide +kernel)) rfl
theorem w_4 : Cond.selects yX7_isDigit.cls yX7_isDigit yX7_isDigit ∈ lw_g := g_in (List.mem_of_getElem? (i := 4) (by decide +kernel)) rfl
theorem w_548 : Cond.code yX7_isDigit cX7_isDigit 2 (some .boolean) ∈ lw_g := g_in (List.mem_of_getElem? (i := 548) (by decide +kernel)) rfl
theorem w_557 : Cond.methodLink RX7 92 yJ0_length_8abf5 ∈ lw_g := g_in (List.mem_of_getElem? (i := 557) (by decide +kernel)) rfl
theorem w_558 : Cond.instanceMethod yJ0_length_8abf5 ∈ lw_g := g_in (List.mem_of_getElem? (i := 558) (by decide +kernel)) rfl
theorem w_559 : Cond.selects yJ0_length_8abf5.cls yJ0_length_8abf5 yJ0_length_8abf5 ∈ lw_g := g_in (List.mem_of_getElem? (i := 559) (by decide +kernel)) rfl
theorem w_560 : Cond.code yJ0_length_8abf5 cJ0_length_8abf5 1 (some .int) ∈ lw_g := g_in (List.mem_of_getElem? (i := 560) (by decide +kernel)) rfl
theorem w_567 : Cond.methodLink RX7 96 yJ0_charAt_5068e ∈ lw_g := g_in (List.mem_of_getElem? (i := 567) (by decide +kernel)) rfl
theorem w_568 : Cond.instanceMethod yJ0_charAt_5068e ∈ lw_g := g_in (List.mem_of_getElem? (i := 568) (by decide +kernel)) rfl
theorem w_569 : Cond.selects yJ0_charAt_5068e.cls yJ0_charAt_5068e yJ0_charAt_5068e ∈ lw_g := g_in (List.mem_of_getElem? (i := 569) (by decide +kernel)) rfl
theorem w_570 : Cond.code yJ0_charAt_5068e cJ0_charAt_5068e 2 (some .char) ∈ lw_g := g_in (List.mem_of_getElem? (i := 570) (by decide +kernel)) rfl
theorem w_405 : Cond.methodLink RX8 70 yX2_lay ∈ lw_g := g_in (List.mem_of_getElem? (i := 405) (by decide +kernel)) rfl
theorem w_406 : Cond.instanceMethod yX2_lay ∈ lw_g := g_in (List.mem_of_getElem? (i := 406) (by decide +kernel)) rfl
theorem w_407 : Cond.selects yX2_lay.cls yX2_lay yX2_lay ∈ lw_g := g_in (List.mem_of_getElem? (i := 407) (by decide +kernel)) rfl
theorem w_408 : Cond.code yX2_lay cX2_lay 6 (some .int) ∈ lw_g := g_in (List.mem_of_getElem? (i := 408) (by decide +kernel)) rfl
theorem w_413 : Cond.methodLink RX8 74 yX2_has ∈ lw_g := g_in (List.mem_of_getElem? (i := 413) (by decide +kernel)) rfl
theorem w_417 : Cond.methodLink RX8 90 yX5_closedNow ∈ lw_g := g_in (List.mem_of_getElem? (i := 417) (by decide +kernel)) rfl
theorem w_429 : Cond.methodLink RX8 94 yX3_locksOn ∈ lw_g := g_in (List.mem_of_getElem? (i := 429) (by decide +kernel)) rfl
theorem w_430 : Cond.instanceMethod yX3_locksOn ∈ lw_g := g_in (List.mem_of_getElem? (i := 430) (by decide +kernel)) rfl
theorem w_431 : Cond.selects yX3_locksOn.cls yX3_locksOn yX3_locksOn ∈ lw_g := g_in (List.mem_of_getElem? (i := 431) (by decide +kernel)) rfl
theorem w_432 : Cond.code yX3_locksOn cX3_locksOn 4 (some .int) ∈ lw_g := g_in (List.mem_of_getElem? (i := 432) (by decide +kernel)) rfl
theorem w_437 : Cond.methodLink RX8 100 yX2_tellSource ∈ lw_g := g_in (List.mem_of_getElem? (i := 437) (by decide +kernel)) rfl
theorem w_438 : Cond.instanceMethod yX2_tellSource ∈ lw_g := g_in (List.mem_of_getElem? (i := 438) (by decide +kernel)) rfl
theorem w_439 : Cond.selects yX2_tellSource.cls yX2_tellSource yX2_tellSource ∈ lw_g := g_in (List.mem_of_getElem? (i := 439) (by decide +kernel)) rfl
theorem w_440 : Cond.code yX2_tellSource cX2_tellSource 5 (some .boolean) ∈ lw_g := g_in (List.mem_of_getElem? (i := 440) (by decide +kernel)) rfl
theorem w_445 : Cond.methodLink RX8 104 yX2_hasFitting ∈ lw_g := g_in (List.mem_of_getElem? (i := 445) (by decide +kernel)) rfl
theorem w_446 : Cond.instanceMethod yX2_hasFitting ∈ lw_g := g_in (List.mem_of_getElem? (i := 446) (by decide +kernel)) rfl
theorem w_447 : Cond.selects yX2_hasFitting.cls yX2_hasFitting yX2_hasFitting ∈ lw_g := g_in (List.mem_of_getElem? (i := 447) (by decide +kernel)) rfl
theorem w_448 : Cond.code yX2_hasFitting cX2_hasFitting 2 (some .boolean) ∈ lw_g := g_in (List.mem_of_getElem? (i := 448) (by decide +kernel)) rfl
theorem w_450 : Cond.methodLink RX8 107 yX2_turnByHand ∈ lw_g := g_in (List.mem_of_getElem? (i := 450) (by decide +kernel)) rfl
theorem w_451 : Cond.instanceMethod yX2_turnByHand ∈ lw_g := g_in (List.mem_of_getElem? (i := 451) (by decide +kernel)) rfl
theorem w_452 : Cond.selects yX2_turnByHand.cls yX2_turnByHand yX2_turnByHand ∈ lw_g := g_in (List.mem_of_getElem? (i := 452) (by decide +kernel)) rfl
theorem w_453 : Cond.code yX2_turnByHand cX2_turnByHand 4 (some .boolean) ∈ lw_g := g_in (List.mem_of_getElem? (i := 453) (by decide +kernel)) rfl
theorem w_458 : Cond.methodLink RX8 111 yX2_allPipes ∈ lw_g := g_in (List.mem_of_getElem? (i := 458) (by decide +kernel)) rfl
theorem w_462 : Cond.methodLink RX8 114 yX6_doubledAt ∈ lw_g := g_in (List.mem_of_getElem? (i := 462) (by decide +kernel)) rfl
theorem w_470 : Cond.methodLink RX8 119 yX2_isSafe ∈ lw_g := g_in (List.mem_of_getElem? (i := 470) (by decide +kernel)) rfl
theorem w_490 : Cond.methodLink RX8 123 yX2_fewestBarriers ∈ lw_g := g_in (List.mem_of_getElem? (i := 490) (by decide +kernel)) rfl
theorem w_491 : Cond.instanceMethod yX2_fewestBarriers ∈ lw_g := g_in (List.mem_of_getElem? (i := 491) (by decide +kernel)) rfl
theorem w_492 : Cond.selects yX2_fewestBarriers.cls yX2_fewestBarriers yX2_fewestBarriers ∈ lw_g := g_in (List.mem_of_getElem? (i := 492) (by decide +kernel)) rfl
theorem w_493 : Cond.code yX2_fewestBarriers cX2_fewestBarriers 9 (some .int) ∈ lw_g := g_in (List.mem_of_getElem? (i := 493) (by decide +kernel)) rfl
theorem w_499 : Cond.methodLink RX8 127 yX2_pipesApart ∈ lw_g := g_in (List.mem_of_getElem? (i := 499) (by decide +kernel)) rfl
theorem w_507 : Cond.methodLink RX8 131 yX3_inState ∈ lw_g := g_in (List.mem_of_getElem? (i := 507) (by decide +kernel)) rfl
theorem w_508 : Cond.instanceMethod yX3_inState ∈ lw_g := g_in (List.mem_of_getElem? (i := 508) (by decide +kernel)) rfl
theorem w_509 : Cond.selects yX3_inState.cls yX3_inState yX3_inState ∈ lw_g := g_in (List.mem_of_getElem? (i := 509) (by decide +kernel)) rfl
theorem w_510 : Cond.code yX3_inState cX3_inState 4 (some .int) ∈ lw_g := g_in (List.mem_of_getElem? (i := 510) (by decide +kernel)) rfl
theorem w_511 : Cond.methodLink RX8 134 yX1_keep ∈ lw_g := g_in (List.mem_of_getElem? (i := 511) (by decide +kernel)) rfl
theorem w_512 : Cond.instanceMethod yX1_keep ∈ lw_g := g_in (List.mem_of_getElem? (i := 512) (by decide +kernel)) rfl
theorem w_513 : Cond.selects yX1_keep.cls yX1_keep yX1_keep ∈ lw_g := g_in (List.mem_of_getElem? (i := 513) (by decide +kernel)) rfl
theorem w_85 : Cond.initialized RX1 ∈ lw_g := g_in (List.mem_of_getElem? (i := 85) (by decide +kernel)) rfl
theorem w_514 : Cond.code yX1_keep cX1_keep 6 none ∈ lw_g := g_in (List.mem_of_getElem? (i := 514) (by decide +kernel)) rfl
theorem w_519 : Cond.methodLink RX8 141 yX7_takeBytes ∈ lw_g := g_in (List.mem_of_getElem? (i := 519) (by decide +kernel)) rfl
theorem w_520 : Cond.instanceMethod yX7_takeBytes ∈ lw_g := g_in (List.mem_of_getElem? (i := 520) (by decide +kernel)) rfl
theorem w_521 : Cond.selects yX7_takeBytes.cls yX7_takeBytes yX7_takeBytes ∈ lw_g := g_in (List.mem_of_getElem? (i := 521) (by decide +kernel)) rfl
theorem w_522 : Cond.code yX7_takeBytes cX7_takeBytes 5 none ∈ lw_g := g_in (List.mem_of_getElem? (i := 522) (by decide +kernel)) rfl
theorem w_528 : Cond.methodLink RX8 145 yX7_readRule ∈ lw_g := g_in (List.mem_of_getElem? (i := 528) (by decide +kernel)) rfl
theorem w_529 : Cond.instanceMethod yX7_readRule ∈ lw_g := g_in (List.mem_of_getElem? (i := 529) (by decide +kernel)) rfl
theorem w_530 : Cond.selects yX7_readRule.cls yX7_readRule yX7_readRule ∈ lw_g := g_in (List.mem_of_getElem? (i := 530) (by decide +kernel)) rfl
theorem w_531 : Cond.code yX7_readRule cX7_readRule 1 (some .int) ∈ lw_g := g_in (List.mem_of_getElem? (i := 531) (by decide +kernel)) rfl
theorem w_630 : Cond.methodLink RX8 148 yX7_wipe ∈ lw_g := g_in (List.mem_of_getElem? (i := 630) (by decide +kernel)) rfl
theorem w_631 : Cond.instanceMethod yX7_wipe ∈ lw_g := g_in (List.mem_of_getElem? (i := 631) (by decide +kernel)) rfl
theorem w_632 : Cond.selects yX7_wipe.cls yX7_wipe yX7_wipe ∈ lw_g := g_in (List.mem_of_getElem? (i := 632) (by decide +kernel)) rfl
theorem w_633 : Cond.code yX7_wipe cX7_wipe 1 none ∈ lw_g := g_in (List.mem_of_getElem? (i := 633) (by decide +kernel)) rfl
theorem w_634 : Cond.methodLink RX8 152 yX6_write ∈ lw_g := g_in (List.mem_of_getElem? (i := 634) (by decide +kernel)) rfl
theorem w_635 : Cond.instanceMethod yX6_write ∈ lw_g := g_in (List.mem_of_getElem? (i := 635) (by decide +kernel)) rfl
theorem w_636 : Cond.selects yX6_write.cls yX6_write yX6_write ∈ lw_g := g_in (List.mem_of_getElem? (i := 636) (by decide +kernel)) rfl
theorem w_637 : Cond.code yX6_write cX6_write 4 (some .int) ∈ lw_g := g_in (List.mem_of_getElem? (i := 637) (by decide +kernel)) rfl
theorem w_643 : Cond.methodLink RX8 156 yX6_has ∈ lw_g := g_in (List.mem_of_getElem? (i := 643) (by decide +kernel)) rfl
theorem w_644 : Cond.instanceMethod yX6_has ∈ lw_g := g_in (List.mem_of_getElem? (i := 644) (by decide +kernel)) rfl
theorem w_645 : Cond.selects yX6_has.cls yX6_has yX6_has ∈ lw_g := g_in (List.mem_of_getElem? (i := 645) (by decide +kernel)) rfl
theorem w_646 : Cond.code yX6_has cX6_has 2 (some .boolean) ∈ lw_g := g_in (List.mem_of_getElem? (i := 646) (by decide +kernel)) rfl
theorem w_651 : Cond.methodLink RX8 172 yX6_inForce ∈ lw_g := g_in (List.mem_of_getElem? (i := 651) (by decide +kernel)) rfl
theorem w_656 : Cond.methodLink RX8 176 yX2_allFittings ∈ lw_g := g_in (List.mem_of_getElem? (i := 656) (by decide +kernel)) rfl
theorem w_660 : Cond.methodLink RX8 180 yX3_write ∈ lw_g := g_in (List.mem_of_getElem? (i := 660) (by decide +kernel)) rfl
theorem w_661 : Cond.instanceMethod yX3_write ∈ lw_g := g_in (List.mem_of_getElem? (i := 661) (by decide +kernel)) rfl
theorem w_662 : Cond.selects yX3_write.cls yX3_write yX3_write ∈ lw_g := g_in (List.mem_of_getElem? (i := 662) (by decide +kernel)) rfl
theorem w_663 : Cond.code yX3_write cX3_write 5 (some .int) ∈ lw_g := g_in (List.mem_of_getElem? (i := 663) (by decide +kernel)) rfl
theorem w_668 : Cond.methodLink RX8 182 yX3_has ∈ lw_g := g_in (List.mem_of_getElem? (i := 668) (by decide +kernel)) rfl
theorem w_669 : Cond.instanceMethod yX3_has ∈ lw_g := g_in (List.mem_of_getElem? (i := 669) (by decide +kernel)) rfl
theorem w_670 : Cond.selects yX3_has.cls yX3_has yX3_has ∈ lw_g := g_in (List.mem_of_getElem? (i := 670) (by decide +kernel)) rfl
theorem w_671 : Cond.code yX3_has cX3_has 2 (some .boolean) ∈ lw_g := g_in (List.mem_of_getElem? (i := 671) (by decide +kernel)) rfl
theorem w_675 : Cond.methodLink RX8 189 yX0_isOn ∈ lw_g := g_in (List.mem_of_getElem? (i := 675) (by decide +kernel)) rfl
theorem w_684 : Cond.methodLink RX8 197 yX8_refusalOf ∈ lw_g := g_in (List.mem_of_getElem? (i := 684) (by decide +kernel)) rfl
theorem w_686 : Cond.instanceMethod yX8_refusalOf ∈ lw_g := g_in (List.mem_of_getElem? (i := 686) (by decide +kernel)) rfl
theorem w_12 : Cond.selects yX8_refusalOf.cls yX8_refusalOf yX8_refusalOf ∈ lw_g := g_in (List.mem_of_getElem? (i := 12) (by decide +kernel)) rfl
theorem w_78 : Cond.initialized RX8 ∈ lw_g := g_in (List.mem_of_getElem? (i := 78) (by decide +kernel)) rfl
theorem w_687 : Cond.code yX8_refusalOf cX8_refusalOf 4 (some .int) ∈ lw_g := g_in (List.mem_of_getElem? (i := 687) (by decide +kernel)) rfl
theorem w_761 : Cond.methodLink RX8 205 yX3_noteTest ∈ lw_g := g_in (List.mem_of_getElem? (i := 761) (by decide +kernel)) rfl
theorem w_762 : Cond.instanceMethod yX3_noteTest ∈ lw_g := g_in (List.mem_of_getElem? (i := 762) (by decide +kernel)) rfl
theorem w_763 : Cond.selects yX3_noteTest.cls yX3_noteTest yX3_noteTest ∈ lw_g := g_in (List.mem_of_getElem? (i := 763) (by decide +kernel)) rfl
theorem w_764 : Cond.code yX3_noteTest cX3_noteTest 4 none ∈ lw_g := g_in (List.mem_of_getElem? (i := 764) (by decide +kernel)) rfl
theorem w_773 : Cond.methodLink RX8 209 yX3_endLive ∈ lw_g := g_in (List.mem_of_getElem? (i := 773) (by decide +kernel)) rfl
theorem w_688 : Cond.methodLink RX8 213 yX5_firstBar ∈ lw_g := g_in (List.mem_of_getElem? (i := 688) (by decide +kernel)) rfl
theorem w_689 : Cond.instanceMethod yX5_firstBar ∈ lw_g := g_in (List.mem_of_getElem? (i := 689) (by decide +kernel)) rfl
theorem w_690 : Cond.selects yX5_firstBar.cls yX5_firstBar yX5_firstBar ∈ lw_g := g_in (List.mem_of_getElem? (i := 690) (by decide +kernel)) rfl
theorem w_691 : Cond.code yX5_firstBar cX5_firstBar 4 (some .int) ∈ lw_g := g_in (List.mem_of_getElem? (i := 691) (by decide +kernel)) rfl
theorem w_789 : Cond.methodLink RX8 216 yX5_quarrelOf ∈ lw_g := g_in (List.mem_of_getElem? (i := 789) (by decide +kernel)) rfl
theorem w_794 : Cond.methodLink RX8 228 yX0_insideFor ∈ lw_g := g_in (List.mem_of_getElem? (i := 794) (by decide +kernel)) rfl
theorem w_807 : Cond.methodLink RX8 243 yX3_holdsLive ∈ lw_g := g_in (List.mem_of_getElem? (i := 807) (by decide +kernel)) rfl
theorem w_808 : Cond.instanceMethod yX3_holdsLive ∈ lw_g := g_in (List.mem_of_getElem? (i := 808) (by decide +kernel)) rfl
theorem w_809 : Cond.selects yX3_holdsLive.cls yX3_holdsLive yX3_holdsLive ∈ lw_g := g_in (List.mem_of_getElem? (i := 809) (by decide +kernel)) rfl
theorem w_810 : Cond.code yX3_holdsLive cX3_holdsLive 3 (some .boolean) ∈ lw_g := g_in (List.mem_of_getElem? (i := 810) (by decide +kernel)) rfl
theorem w_811 : Cond.methodLink RX8 246 yX0_tellShift ∈ lw_g := g_in (List.mem_of_getElem? (i := 811) (by decide +kernel)) rfl
theorem w_812 : Cond.instanceMethod yX0_tellShift ∈ lw_g := g_in (List.mem_of_getElem? (i := 812) (by decide +kernel)) rfl
theorem w_813 : Cond.selects yX0_tellShift.cls yX0_tellShift yX0_tellShift ∈ lw_g := g_in (List.mem_of_getElem? (i := 813) (by decide +kernel)) rfl
theorem w_814 : Cond.code yX0_tellShift cX0_tellShift 3 none ∈ lw_g := g_in (List.mem_of_getElem? (i := 814) (by decide +kernel)) rfl
theorem w_819 : Cond.methodLink RX8 250 yX0_comeOut ∈ lw_g := g_in (List.mem_of_getElem? (i := 819) (by decide +kernel)) rfl
theorem w_820 : Cond.instanceMethod yX0_comeOut ∈ lw_g := g_in (List.mem_of_getElem? (i := 820) (by decide +kernel)) rfl
theorem w_821 : Cond.selects yX0_comeOut.cls yX0_comeOut yX0_comeOut ∈ lw_g := g_in (List.mem_of_getElem? (i := 821) (by decide +kernel)) rfl
theorem w_822 : Cond.code yX0_comeOut cX0_comeOut 3 (some .int) ∈ lw_g := g_in (List.mem_of_getElem? (i := 822) (by decide +kernel)) rfl
theorem w_828 : Cond.methodLink RX8 253 yX3_endAllLive ∈ lw_g := g_in (List.mem_of_getElem? (i := 828) (by decide +kernel)) rfl
theorem w_829 : Cond.instanceMethod yX3_endAllLive ∈ lw_g := g_in (List.mem_of_getElem? (i := 829) (by decide +kernel)) rfl
theorem w_830 : Cond.selects yX3_endAllLive.cls yX3_endAllLive yX3_endAllLive ∈ lw_g := g_in (List.mem_of_getElem? (i := 830) (by decide +kernel)) rfl
theorem w_831 : Cond.code yX3_endAllLive cX3_endAllLive 3 none ∈ lw_g := g_in (List.mem_of_getElem? (i := 831) (by decide +kernel)) rfl
theorem w_837 : Cond.methodLink RX8 257 yX8_leastSet ∈ lw_g := g_in (List.mem_of_getElem? (i := 837) (by decide +kernel)) rfl
theorem w_838 : Cond.instanceMethod yX8_leastSet ∈ lw_g := g_in (List.mem_of_getElem? (i := 838) (by decide +kernel)) rfl
theorem w_839 : Cond.selects yX8_leastSet.cls yX8_leastSet yX8_leastSet ∈ lw_g := g_in (List.mem_of_getElem? (i := 839) (by decide +kernel)) rfl
theorem w_840 : Cond.code yX8_leastSet cX8_leastSet 2 (some .int) ∈ lw_g := g_in (List.mem_of_getElem? (i := 840) (by decide +kernel)) rfl
theorem w_863 : Cond.methodLink RX8 260 yX2_hoursOf ∈ lw_g := g_in (List.mem_of_getElem? (i := 863) (by decide +kernel)) rfl
theorem w_841 : Cond.methodLink RX8 263 yX2_leastSetFor ∈ lw_g := g_in (List.mem_of_getElem? (i := 841) (by decide +kernel)) rfl
theorem w_842 : Cond.instanceMethod yX2_leastSetFor ∈ lw_g := g_in (List.mem_of_getElem? (i := 842) (by decide +kernel)) rfl
theorem w_843 : Cond.selects yX2_leastSetFor.cls yX2_leastSetFor yX2_leastSetFor ∈ lw_g := g_in (List.mem_of_getElem? (i := 843) (by decide +kernel)) rfl
theorem w_844 : Cond.code yX2_leastSetFor cX2_leastSetFor 3 (some .int) ∈ lw_g := g_in (List.mem_of_getElem? (i := 844) (by decide +kernel)) rfl
theorem w_873 : Cond.methodLink RX8 266 yX8_isPast ∈ lw_g := g_in (List.mem_of_getElem? (i := 873) (by decide +kernel)) rfl
theorem w_875 : Cond.instanceMethod yX8_isPast ∈ lw_g := g_in (List.mem_of_getElem? (i := 875) (by decide +kernel)) rfl
theorem w_22 : Cond.selects yX8_isPast.cls yX8_isPast yX8_isPast ∈ lw_g := g_in (List.mem_of_getElem? (i := 22) (by decide +kernel)) rfl
theorem w_876 : Cond.code yX8_isPast cX8_isPast 2 (some .boolean) ∈ lw_g := g_in (List.mem_of_getElem? (i := 876) (by decide +kernel)) rfl
theorem w_877 : Cond.methodLink RX8 275 yX2_knownAt ∈ lw_g := g_in (List.mem_of_getElem? (i := 877) (by decide +kernel)) rfl
theorem w_878 : Cond.instanceMethod yX2_knownAt ∈ lw_g := g_in (List.mem_of_getElem? (i := 878) (by decide +kernel)) rfl
theorem w_879 : Cond.selects yX2_knownAt.cls yX2_knownAt yX2_knownAt ∈ lw_g := g_in (List.mem_of_getElem? (i := 879) (by decide +kernel)) rfl
theorem w_880 : Cond.code yX2_knownAt cX2_knownAt 4 (some .int) ∈ lw_g := g_in (List.mem_of_getElem? (i := 880) (by decide +kernel)) rfl
theorem w_885 : Cond.methodLink RX8 278 yX4_tell ∈ lw_g := g_in (List.mem_of_getElem? (i := 885) (by decide +kernel)) rfl
theorem w_886 : Cond.instanceMethod yX4_tell ∈ lw_g := g_in (List.mem_of_getElem? (i := 886) (by decide +kernel)) rfl
theorem w_887 : Cond.selects yX4_tell.cls yX4_tell yX4_tell ∈ lw_g := g_in (List.mem_of_getElem? (i := 887) (by decide +kernel)) rfl
theorem w_888 : Cond.code yX4_tell cX4_tell 5 (some .int) ∈ lw_g := g_in (List.mem_of_getElem? (i := 888) (by decide +kernel)) rfl
theorem w_940 : Cond.methodLink RX8 298 yX4_firstWrongRow ∈ lw_g := g_in (List.mem_of_getElem? (i := 940) (by decide +kernel)) rfl
theorem w_941 : Cond.instanceMethod yX4_firstWrongRow ∈ lw_g := g_in (List.mem_of_getElem? (i := 941) (by decide +kernel)) rfl
theorem w_942 : Cond.selects yX4_firstWrongRow.cls yX4_firstWrongRow yX4_firstWrongRow ∈ lw_g := g_in (List.mem_of_getElem? (i := 942) (by decide +kernel)) rfl
theorem w_943 : Cond.code yX4_firstWrongRow cX4_firstWrongRow 2 (some .int) ∈ lw_g := g_in (List.mem_of_getElem? (i := 943) (by decide +kernel)) rfl
theorem w_948 : Cond.methodLink RX8 301 yX0_allInside ∈ lw_g := g_in (List.mem_of_getElem? (i := 948) (by decide +kernel)) rfl
theorem w_949 : Cond.methodLink RX8 307 yX3_allLocks ∈ lw_g := g_in (List.mem_of_getElem? (i := 949) (by decide +kernel)) rfl
theorem w_950 : Cond.instanceMethod yX3_allLocks ∈ lw_g := g_in (List.mem_of_getElem? (i := 950) (by decide +kernel)) rfl
theorem w_951 : Cond.selects yX3_allLocks.cls yX3_allLocks yX3_allLocks ∈ lw_g := g_in (List.mem_of_getElem? (i := 951) (by decide +kernel)) rfl
theorem w_952 : Cond.code yX3_allLocks cX3_allLocks 3 (some .int) ∈ lw_g := g_in (List.mem_of_getElem? (i := 952) (by decide +kernel)) rfl
theorem w_1117 : Cond.methodLink RX9 109 yX9_isPipe ∈ lw_g := g_in (List.mem_of_getElem? (i := 1117) (by decide +kernel)) rfl
theorem w_1119 : Cond.instanceMethod yX9_isPipe ∈ lw_g := g_in (List.mem_of_getElem? (i := 1119) (by decide +kernel)) rfl
theorem w_29 : Cond.selects yX9_isPipe.cls yX9_isPipe yX9_isPipe ∈ lw_g := g_in (List.mem_of_getElem? (i := 29) (by decide +kernel)) rfl
theorem w_87 : Cond.initialized RX9 ∈ lw_g := g_in (List.mem_of_getElem? (i := 87) (by decide +kernel)) rfl
theorem w_1120 : Cond.code yX9_isPipe cX9_isPipe 2 (some .boolean) ∈ lw_g := g_in (List.mem_of_getElem? (i := 1120) (by decide +kernel)) rfl
theorem w_1129 : Cond.methodLink RX9 122 yX9_hasLocks ∈ lw_g := g_in (List.mem_of_getElem? (i := 1129) (by decide +kernel)) rfl
theorem w_1131 : Cond.instanceMethod yX9_hasLocks ∈ lw_g := g_in (List.mem_of_getElem? (i := 1131) (by decide +kernel)) rfl
theorem w_32 : Cond.selects yX9_hasLocks.cls yX9_hasLocks yX9_hasLocks ∈ lw_g := g_in (List.mem_of_getElem? (i := 32) (by decide +kernel)) rfl
theorem w_1132 : Cond.code yX9_hasLocks cX9_hasLocks 2 (some .boolean) ∈ lw_g := g_in (List.mem_of_getElem? (i := 1132) (by decide +kernel)) rfl
theorem w_1125 : Cond.methodLink RX9 129 yX9_locks ∈ lw_g := g_in (List.mem_of_getElem? (i := 1125) (by decide +kernel)) rfl
theorem w_1127 : Cond.instanceMethod yX9_locks ∈ lw_g := g_in (List.mem_of_getElem? (i := 1127) (by decide +kernel)) rfl
theorem w_31 : Cond.selects yX9_locks.cls yX9_locks yX9_locks ∈ lw_g := g_in (List.mem_of_getElem? (i := 31) (by decide +kernel)) rfl
theorem w_1128 : Cond.code yX9_locks cX9_locks 4 (some .int) ∈ lw_g := g_in (List.mem_of_getElem? (i := 1128) (by decide +kernel)) rfl
theorem w_1121 : Cond.methodLink RX9 133 yX9_closedNow ∈ lw_g := g_in (List.mem_of_getElem? (i := 1121) (by decide +kernel)) rfl
theorem w_1123 : Cond.instanceMethod yX9_closedNow ∈ lw_g := g_in (List.mem_of_getElem? (i := 1123) (by decide +kernel)) rfl
theorem w_30 : Cond.selects yX9_closedNow.cls yX9_closedNow yX9_closedNow ∈ lw_g := g_in (List.mem_of_getElem? (i := 30) (by decide +kernel)) rfl
theorem w_1124 : Cond.code yX9_closedNow cX9_closedNow 3 (some .int) ∈ lw_g := g_in (List.mem_of_getElem? (i := 1124) (by decide +kernel)) rfl
theorem w_1144 : Cond.methodLink RX9 137 yX9_isFitting ∈ lw_g := g_in (List.mem_of_getElem? (i := 1144) (by decide +kernel)) rfl
theorem w_1146 : Cond.instanceMethod yX9_isFitting ∈ lw_g := g_in (List.mem_of_getElem? (i := 1146) (by decide +kernel)) rfl
theorem w_33 : Cond.selects yX9_isFitting.cls yX9_isFitting yX9_isFitting ∈ lw_g := g_in (List.mem_of_getElem? (i := 33) (by decide +kernel)) rfl
theorem w_1147 : Cond.code yX9_isFitting cX9_isFitting 2 (some .boolean) ∈ lw_g := g_in (List.mem_of_getElem? (i := 1147) (by decide +kernel)) rfl
theorem w_1168 : Cond.methodLink RX9 143 yX9_isInForce ∈ lw_g := g_in (List.mem_of_getElem? (i := 1168) (by decide +kernel)) rfl
theorem w_1170 : Cond.instanceMethod yX9_isInForce ∈ lw_g := g_in (List.mem_of_getElem? (i := 1170) (by decide +kernel)) rfl
theorem w_38 : Cond.selects yX9_isInForce.cls yX9_isInForce yX9_isInForce ∈ lw_g := g_in (List.mem_of_getElem? (i := 38) (by decide +kernel)) rfl
theorem w_1171 : Cond.code yX9_isInForce cX9_isInForce 3 (some .boolean) ∈ lw_g := g_in (List.mem_of_getElem? (i := 1171) (by decide +kernel)) rfl
theorem w_1160 : Cond.methodLink RX9 146 yX9_reach ∈ lw_g := g_in (List.mem_of_getElem? (i := 1160) (by decide +kernel)) rfl
theorem w_1162 : Cond.instanceMethod yX9_reach ∈ lw_g := g_in (List.mem_of_getElem? (i := 1162) (by decide +kernel)) rfl
theorem w_36 : Cond.selects yX9_reach.cls yX9_reach yX9_reach ∈ lw_g := g_in (List.mem_of_getElem? (i := 36) (by decide +kernel)) rfl
theorem w_1163 : Cond.code yX9_reach cX9_reach 8 none ∈ lw_g := g_in (List.mem_of_getElem? (i := 1163) (by decide +kernel)) rfl
theorem w_1164 : Cond.methodLink RX9 150 yX9_wanted ∈ lw_g := g_in (List.mem_of_getElem? (i := 1164) (by decide +kernel)) rfl
theorem w_1166 : Cond.instanceMethod yX9_wanted ∈ lw_g := g_in (List.mem_of_getElem? (i := 1166) (by decide +kernel)) rfl
theorem w_37 : Cond.selects yX9_wanted.cls yX9_wanted yX9_wanted ∈ lw_g := g_in (List.mem_of_getElem? (i := 37) (by decide +kernel)) rfl
theorem w_1167 : Cond.code yX9_wanted cX9_wanted 5 (some .int) ∈ lw_g := g_in (List.mem_of_getElem? (i := 1167) (by decide +kernel)) rfl
theorem w_1156 : Cond.methodLink RX9 154 yX9_isSafe ∈ lw_g := g_in (List.mem_of_getElem? (i := 1156) (by decide +kernel)) rfl
theorem w_1158 : Cond.instanceMethod yX9_isSafe ∈ lw_g := g_in (List.mem_of_getElem? (i := 1158) (by decide +kernel)) rfl
theorem w_35 : Cond.selects yX9_isSafe.cls yX9_isSafe yX9_isSafe ∈ lw_g := g_in (List.mem_of_getElem? (i := 35) (by decide +kernel)) rfl
theorem w_1159 : Cond.code yX9_isSafe cX9_isSafe 9 (some .boolean) ∈ lw_g := g_in (List.mem_of_getElem? (i := 1159) (by decide +kernel)) rfl
theorem w_1152 : Cond.methodLink RX9 158 yX9_isSafeNow ∈ lw_g := g_in (List.mem_of_getElem? (i := 1152) (by decide +kernel)) rfl
theorem w_1154 : Cond.instanceMethod yX9_isSafeNow ∈ lw_g := g_in (List.mem_of_getElem? (i := 1154) (by decide +kernel)) rfl
theorem w_34 : Cond.selects yX9_isSafeNow.cls yX9_isSafeNow yX9_isSafeNow ∈ lw_g := g_in (List.mem_of_getElem? (i := 34) (by decide +kernel)) rfl
theorem w_1155 : Cond.code yX9_isSafeNow cX9_isSafeNow 3 (some .boolean) ∈ lw_g := g_in (List.mem_of_getElem? (i := 1155) (by decide +kernel)) rfl
theorem w_1176 : Cond.methodLink RX9 161 yX9_between ∈ lw_g := g_in (List.mem_of_getElem? (i := 1176) (by decide +kernel)) rfl
theorem w_1178 : Cond.instanceMethod yX9_between ∈ lw_g := g_in (List.mem_of_getElem? (i := 1178) (by decide +kernel)) rfl
theorem w_39 : Cond.selects yX9_between.cls yX9_between yX9_between ∈ lw_g := g_in (List.mem_of_getElem? (i := 39) (by decide +kernel)) rfl
theorem w_1179 : Cond.code yX9_between cX9_between 4 (some .int) ∈ lw_g := g_in (List.mem_of_getElem? (i := 1179) (by decide +kernel)) rfl
theorem w_1188 : Cond.methodLink RX9 165 yX9_liveNow ∈ lw_g := g_in (List.mem_of_getElem? (i := 1188) (by decide +kernel)) rfl
theorem w_1190 : Cond.instanceMethod yX9_liveNow ∈ lw_g := g_in (List.mem_of_getElem? (i := 1190) (by decide +kernel)) rfl
theorem w_40 : Cond.selects yX9_liveNow.cls yX9_liveNow yX9_liveNow ∈ lw_g := g_in (List.mem_of_getElem? (i := 40) (by decide +kernel)) rfl
theorem w_1191 : Cond.code yX9_liveNow cX9_liveNow 3 (some .int) ∈ lw_g := g_in (List.mem_of_getElem? (i := 1191) (by decide +kernel)) rfl
theorem w_1209 : Cond.methodLink RX9 179 yX9_isLetter ∈ lw_g := g_in (List.mem_of_getElem? (i := 1209) (by decide +kernel)) rfl
theorem w_1211 : Cond.instanceMethod yX9_isLetter ∈ lw_g := g_in (List.mem_of_getElem? (i := 1211) (by decide +kernel)) rfl
theorem w_43 : Cond.selects yX9_isLetter.cls yX9_isLetter yX9_isLetter ∈ lw_g := g_in (List.mem_of_getElem? (i := 43) (by decide +kernel)) rfl
theorem w_1212 : Cond.code yX9_isLetter cX9_isLetter 2 (some .boolean) ∈ lw_g := g_in (List.mem_of_getElem? (i := 1212) (by decide +kernel)) rfl
theorem w_1213 : Cond.methodLink RX9 182 yX9_isDigit ∈ lw_g := g_in (List.mem_of_getElem? (i := 1213) (by decide +kernel)) rfl
theorem w_1215 : Cond.instanceMethod yX9_isDigit ∈ lw_g := g_in (List.mem_of_getElem? (i := 1215) (by decide +kernel)) rfl
theorem w_44 : Cond.selects yX9_isDigit.cls yX9_isDigit yX9_isDigit ∈ lw_g := g_in (List.mem_of_getElem? (i := 44) (by decide +kernel)) rfl
theorem w_1216 : Cond.code yX9_isDigit cX9_isDigit 2 (some .boolean) ∈ lw_g := g_in (List.mem_of_getElem? (i := 1216) (by decide +kernel)) rfl
theorem w_1222 : Cond.methodLink RX9 188 yX9_isWord ∈ lw_g := g_in (List.mem_of_getElem? (i := 1222) (by decide +kernel)) rfl
theorem w_1224 : Cond.instanceMethod yX9_isWord ∈ lw_g := g_in (List.mem_of_getElem? (i := 1224) (by decide +kernel)) rfl
theorem w_46 : Cond.selects yX9_isWord.cls yX9_isWord yX9_isWord ∈ lw_g := g_in (List.mem_of_getElem? (i := 46) (by decide +kernel)) rfl
theorem w_1225 : Cond.code yX9_isWord cX9_isWord 6 (some .boolean) ∈ lw_g := g_in (List.mem_of_getElem? (i := 1225) (by decide +kernel)) rfl
theorem w_1231 : Cond.methodLink RX9 192 yX9_bad ∈ lw_g := g_in (List.mem_of_getElem? (i := 1231) (by decide +kernel)) rfl
theorem w_1233 : Cond.instanceMethod yX9_bad ∈ lw_g := g_in (List.mem_of_getElem? (i := 1233) (by decide +kernel)) rfl
theorem w_47 : Cond.selects yX9_bad.cls yX9_bad yX9_bad ∈ lw_g := g_in (List.mem_of_getElem? (i := 47) (by decide +kernel)) rfl
theorem w_1234 : Cond.code yX9_bad cX9_bad 1 none ∈ lw_g := g_in (List.mem_of_getElem? (i := 1234) (by decide +kernel)) rfl
theorem w_1205 : Cond.methodLink RX9 195 yX9_next ∈ lw_g := g_in (List.mem_of_getElem? (i := 1205) (by decide +kernel)) rfl
theorem w_1207 : Cond.instanceMethod yX9_next ∈ lw_g := g_in (List.mem_of_getElem? (i := 1207) (by decide +kernel)) rfl
theorem w_42 : Cond.selects yX9_next.cls yX9_next yX9_next ∈ lw_g := g_in (List.mem_of_getElem? (i := 42) (by decide +kernel)) rfl
theorem w_1208 : Cond.code yX9_next cX9_next 3 none ∈ lw_g := g_in (List.mem_of_getElem? (i := 1208) (by decide +kernel)) rfl
theorem w_1217 : Cond.methodLink RX9 228 yX9_kind ∈ lw_g := g_in (List.mem_of_getElem? (i := 1217) (by decide +kernel)) rfl
theorem w_1219 : Cond.instanceMethod yX9_kind ∈ lw_g := g_in (List.mem_of_getElem? (i := 1219) (by decide +kernel)) rfl
