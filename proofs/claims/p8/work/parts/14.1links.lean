theorem w_318 : Cond.methodLink RX1 3 objectInit ∈ lw_g := g_in (List.mem_of_getElem? (i := 318) (by decide +kernel)) rfl
theorem w_101 : Cond.instanceMethod objectInit ∈ lw_g := g_in (List.mem_of_getElem? (i := 101) (by decide +kernel)) rfl
theorem w_102 : Cond.code objectInit ⟨#[0xb1]⟩ 1 none ∈ lw_g := g_in (List.mem_of_getElem? (i := 102) (by decide +kernel)) rfl
theorem w_152 : Cond.arrayClass .int ∈ lw_g := g_in (List.mem_of_getElem? (i := 152) (by decide +kernel)) rfl
theorem w_114 : Cond.methodLink RX2 3 objectInit ∈ lw_g := g_in (List.mem_of_getElem? (i := 114) (by decide +kernel)) rfl
theorem w_195 : Cond.methodLink RX3 3 objectInit ∈ lw_g := g_in (List.mem_of_getElem? (i := 195) (by decide +kernel)) rfl
theorem w_247 : Cond.methodLink RX0 3 objectInit ∈ lw_g := g_in (List.mem_of_getElem? (i := 247) (by decide +kernel)) rfl
theorem w_158 : Cond.methodLink RX6 3 objectInit ∈ lw_g := g_in (List.mem_of_getElem? (i := 158) (by decide +kernel)) rfl
theorem w_279 : Cond.methodLink RX7 3 objectInit ∈ lw_g := g_in (List.mem_of_getElem? (i := 279) (by decide +kernel)) rfl
theorem w_333 : Cond.methodLink RX4 3 objectInit ∈ lw_g := g_in (List.mem_of_getElem? (i := 333) (by decide +kernel)) rfl
theorem w_108 : Cond.methodLink RX5 3 objectInit ∈ lw_g := g_in (List.mem_of_getElem? (i := 108) (by decide +kernel)) rfl
theorem w_109 : Cond.classLink RX5 9 RX2 ∈ lw_g := g_in (List.mem_of_getElem? (i := 109) (by decide +kernel)) rfl
theorem w_110 : Cond.instantiable RX2 10 ∈ lw_g := g_in (List.mem_of_getElem? (i := 110) (by decide +kernel)) rfl
theorem w_112 : Cond.instanceMethod yX2_init ∈ lw_g := g_in (List.mem_of_getElem? (i := 112) (by decide +kernel)) rfl
theorem w_113 : Cond.code yX2_init cX2_init 1 none ∈ lw_g := g_in (List.mem_of_getElem? (i := 113) (by decide +kernel)) rfl
theorem w_153 : Cond.classLink RX5 18 RX6 ∈ lw_g := g_in (List.mem_of_getElem? (i := 153) (by decide +kernel)) rfl
theorem w_154 : Cond.instantiable RX6 7 ∈ lw_g := g_in (List.mem_of_getElem? (i := 154) (by decide +kernel)) rfl
theorem w_156 : Cond.instanceMethod yX6_init ∈ lw_g := g_in (List.mem_of_getElem? (i := 156) (by decide +kernel)) rfl
theorem w_157 : Cond.code yX6_init cX6_init 1 none ∈ lw_g := g_in (List.mem_of_getElem? (i := 157) (by decide +kernel)) rfl
theorem w_190 : Cond.classLink RX5 25 RX3 ∈ lw_g := g_in (List.mem_of_getElem? (i := 190) (by decide +kernel)) rfl
theorem w_191 : Cond.instantiable RX3 9 ∈ lw_g := g_in (List.mem_of_getElem? (i := 191) (by decide +kernel)) rfl
theorem w_193 : Cond.instanceMethod yX3_init ∈ lw_g := g_in (List.mem_of_getElem? (i := 193) (by decide +kernel)) rfl
theorem w_194 : Cond.code yX3_init cX3_init 1 none ∈ lw_g := g_in (List.mem_of_getElem? (i := 194) (by decide +kernel)) rfl
theorem w_242 : Cond.classLink RX5 32 RX0 ∈ lw_g := g_in (List.mem_of_getElem? (i := 242) (by decide +kernel)) rfl
theorem w_243 : Cond.instantiable RX0 2 ∈ lw_g := g_in (List.mem_of_getElem? (i := 243) (by decide +kernel)) rfl
theorem w_245 : Cond.instanceMethod yX0_init ∈ lw_g := g_in (List.mem_of_getElem? (i := 245) (by decide +kernel)) rfl
theorem w_246 : Cond.code yX0_init cX0_init 2 none ∈ lw_g := g_in (List.mem_of_getElem? (i := 246) (by decide +kernel)) rfl
theorem w_244 : Cond.methodLink RX5 34 yX0_init ∈ lw_g := g_in (List.mem_of_getElem? (i := 244) (by decide +kernel)) rfl
theorem w_100 : Cond.methodLink RX8 1 objectInit ∈ lw_g := g_in (List.mem_of_getElem? (i := 100) (by decide +kernel)) rfl
theorem w_103 : Cond.classLink RX8 7 RX5 ∈ lw_g := g_in (List.mem_of_getElem? (i := 103) (by decide +kernel)) rfl
theorem w_104 : Cond.instantiable RX5 4 ∈ lw_g := g_in (List.mem_of_getElem? (i := 104) (by decide +kernel)) rfl
theorem w_106 : Cond.instanceMethod yX5_init ∈ lw_g := g_in (List.mem_of_getElem? (i := 106) (by decide +kernel)) rfl
theorem w_107 : Cond.code yX5_init cX5_init 1 none ∈ lw_g := g_in (List.mem_of_getElem? (i := 107) (by decide +kernel)) rfl
theorem w_274 : Cond.classLink RX8 36 RX7 ∈ lw_g := g_in (List.mem_of_getElem? (i := 274) (by decide +kernel)) rfl
theorem w_275 : Cond.instantiable RX7 9 ∈ lw_g := g_in (List.mem_of_getElem? (i := 275) (by decide +kernel)) rfl
theorem w_277 : Cond.instanceMethod yX7_init ∈ lw_g := g_in (List.mem_of_getElem? (i := 277) (by decide +kernel)) rfl
theorem w_278 : Cond.code yX7_init cX7_init 1 none ∈ lw_g := g_in (List.mem_of_getElem? (i := 278) (by decide +kernel)) rfl
theorem w_313 : Cond.classLink RX8 43 RX1 ∈ lw_g := g_in (List.mem_of_getElem? (i := 313) (by decide +kernel)) rfl
theorem w_314 : Cond.instantiable RX1 2 ∈ lw_g := g_in (List.mem_of_getElem? (i := 314) (by decide +kernel)) rfl
theorem w_316 : Cond.instanceMethod yX1_init ∈ lw_g := g_in (List.mem_of_getElem? (i := 316) (by decide +kernel)) rfl
theorem w_317 : Cond.code yX1_init cX1_init 1 none ∈ lw_g := g_in (List.mem_of_getElem? (i := 317) (by decide +kernel)) rfl
theorem w_328 : Cond.classLink RX8 50 RX4 ∈ lw_g := g_in (List.mem_of_getElem? (i := 328) (by decide +kernel)) rfl
theorem w_329 : Cond.instantiable RX4 10 ∈ lw_g := g_in (List.mem_of_getElem? (i := 329) (by decide +kernel)) rfl
theorem w_331 : Cond.instanceMethod yX4_init ∈ lw_g := g_in (List.mem_of_getElem? (i := 331) (by decide +kernel)) rfl
theorem w_332 : Cond.code yX4_init cX4_init 1 none ∈ lw_g := g_in (List.mem_of_getElem? (i := 332) (by decide +kernel)) rfl
theorem w_959 : Cond.methodLink RX9 1 objectInit ∈ lw_g := g_in (List.mem_of_getElem? (i := 959) (by decide +kernel)) rfl
theorem w_1102 : Cond.arrayClass .boolean ∈ lw_g := g_in (List.mem_of_getElem? (i := 1102) (by decide +kernel)) rfl
theorem w_258 : Cond.fieldLink RX8 16 "PermitRoom$Plant" "net" "LPermitRoom$Net;" ∈ lw_g := g_in (List.mem_of_getElem? (i := 258) (by decide +kernel)) rfl
theorem w_260 : Cond.fieldLink RX8 21 "PermitRoom$Plant" "book" "LPermitRoom$RuleBook;" ∈ lw_g := g_in (List.mem_of_getElem? (i := 260) (by decide +kernel)) rfl
theorem w_262 : Cond.fieldLink RX8 26 "PermitRoom$Plant" "papers" "LPermitRoom$Papers;" ∈ lw_g := g_in (List.mem_of_getElem? (i := 262) (by decide +kernel)) rfl
theorem w_264 : Cond.fieldLink RX8 31 "PermitRoom$Plant" "crew" "LPermitRoom$Crew;" ∈ lw_g := g_in (List.mem_of_getElem? (i := 264) (by decide +kernel)) rfl
theorem f_X8_16 : LkF RX8 16 5 0 := ⟨RX5, TX5, 4, rfl, by decide, gX5, w_258⟩
theorem f_X8_21 : LkF RX8 21 5 1 := ⟨RX5, TX5, 4, rfl, by decide, gX5, w_260⟩
theorem f_X8_26 : LkF RX8 26 5 2 := ⟨RX5, TX5, 4, rfl, by decide, gX5, w_262⟩
theorem f_X8_31 : LkF RX8 31 5 3 := ⟨RX5, TX5, 4, rfl, by decide, gX5, w_264⟩
theorem kn_X1_9 : LkN RX1 9 1 0 true (.array .int) := ⟨RX1, TX1, 2, tyX1, rfl, by decide, gX1, w_319, rfl, tyX1_ok, nmX1, by decide +kernel, rfl⟩
theorem kn_X1_15 : LkN RX1 15 1 1 true (.array .int) := ⟨RX1, TX1, 2, tyX1, rfl, by decide, gX1, w_321, rfl, tyX1_ok, nmX1, by decide +kernel, rfl⟩
theorem kn_X2_9 : LkN RX2 9 2 0 true (.array .int) := ⟨RX2, TX2, 10, tyX2, rfl, by decide, gX2, w_115, rfl, tyX2_ok, nmX2, by decide +kernel, rfl⟩
theorem kn_X2_15 : LkN RX2 15 2 1 true (.array .int) := ⟨RX2, TX2, 10, tyX2, rfl, by decide, gX2, w_117, rfl, tyX2_ok, nmX2, by decide +kernel, rfl⟩
theorem kn_X2_18 : LkN RX2 18 2 2 true (.array .int) := ⟨RX2, TX2, 10, tyX2, rfl, by decide, gX2, w_119, rfl, tyX2_ok, nmX2, by decide +kernel, rfl⟩
theorem kn_X2_21 : LkN RX2 21 2 3 true (.array .int) := ⟨RX2, TX2, 10, tyX2, rfl, by decide, gX2, w_120, rfl, tyX2_ok, nmX2, by decide +kernel, rfl⟩
theorem kn_X2_24 : LkN RX2 24 2 4 true (.array .int) := ⟨RX2, TX2, 10, tyX2, rfl, by decide, gX2, w_122, rfl, tyX2_ok, nmX2, by decide +kernel, rfl⟩
theorem kn_X2_27 : LkN RX2 27 2 5 true (.array .int) := ⟨RX2, TX2, 10, tyX2, rfl, by decide, gX2, w_124, rfl, tyX2_ok, nmX2, by decide +kernel, rfl⟩
theorem kn_X2_30 : LkN RX2 30 2 6 false .int := ⟨RX2, TX2, 10, tyX2, rfl, by decide, gX2, w_125, rfl, tyX2_ok, nmX2, by decide +kernel, rfl⟩
theorem kn_X2_34 : LkN RX2 34 2 7 false .int := ⟨RX2, TX2, 10, tyX2, rfl, by decide, gX2, w_127, rfl, tyX2_ok, nmX2, by decide +kernel, rfl⟩
theorem kn_X2_37 : LkN RX2 37 2 8 false .int := ⟨RX2, TX2, 10, tyX2, rfl, by decide, gX2, w_128, rfl, tyX2_ok, nmX2, by decide +kernel, rfl⟩
theorem kn_X2_40 : LkN RX2 40 2 9 false .int := ⟨RX2, TX2, 10, tyX2, rfl, by decide, gX2, w_129, rfl, tyX2_ok, nmX2, by decide +kernel, rfl⟩
theorem kn_X3_9 : LkN RX3 9 3 0 true (.array .int) := ⟨RX3, TX3, 9, tyX3, rfl, by decide, gX3, w_196, rfl, tyX3_ok, nmX3, by decide +kernel, rfl⟩
theorem kn_X3_15 : LkN RX3 15 3 1 true (.array .int) := ⟨RX3, TX3, 9, tyX3, rfl, by decide, gX3, w_199, rfl, tyX3_ok, nmX3, by decide +kernel, rfl⟩
theorem kn_X3_18 : LkN RX3 18 3 2 true (.array .int) := ⟨RX3, TX3, 9, tyX3, rfl, by decide, gX3, w_202, rfl, tyX3_ok, nmX3, by decide +kernel, rfl⟩
theorem kn_X3_21 : LkN RX3 21 3 3 true (.array .int) := ⟨RX3, TX3, 9, tyX3, rfl, by decide, gX3, w_205, rfl, tyX3_ok, nmX3, by decide +kernel, rfl⟩
theorem kn_X3_24 : LkN RX3 24 3 4 true (.array .int) := ⟨RX3, TX3, 9, tyX3, rfl, by decide, gX3, w_209, rfl, tyX3_ok, nmX3, by decide +kernel, rfl⟩
theorem kn_X3_27 : LkN RX3 27 3 5 true (.array .int) := ⟨RX3, TX3, 9, tyX3, rfl, by decide, gX3, w_212, rfl, tyX3_ok, nmX3, by decide +kernel, rfl⟩
theorem kn_X3_30 : LkN RX3 30 3 6 true (.array .int) := ⟨RX3, TX3, 9, tyX3, rfl, by decide, gX3, w_214, rfl, tyX3_ok, nmX3, by decide +kernel, rfl⟩
theorem kn_X3_33 : LkN RX3 33 3 7 true (.array .int) := ⟨RX3, TX3, 9, tyX3, rfl, by decide, gX3, w_216, rfl, tyX3_ok, nmX3, by decide +kernel, rfl⟩
theorem kn_X3_36 : LkN RX3 36 3 8 false .int := ⟨RX3, TX3, 9, tyX3, rfl, by decide, gX3, w_219, rfl, tyX3_ok, nmX3, by decide +kernel, rfl⟩
theorem kn_X0_9 : LkN RX0 9 0 0 false .int := ⟨RX0, TX0, 2, tyX0, rfl, by decide, gX0, w_248, rfl, tyX0_ok, nmX0, by decide +kernel, rfl⟩
theorem kn_X0_15 : LkN RX0 15 0 1 true (.array .int) := ⟨RX0, TX0, 2, tyX0, rfl, by decide, gX0, w_250, rfl, tyX0_ok, nmX0, by decide +kernel, rfl⟩
theorem kn_X6_9 : LkN RX6 9 6 0 true (.array .int) := ⟨RX6, TX6, 7, tyX6, rfl, by decide, gX6, w_159, rfl, tyX6_ok, nmX6, by decide +kernel, rfl⟩
theorem kn_X6_15 : LkN RX6 15 6 1 true (.array .int) := ⟨RX6, TX6, 7, tyX6, rfl, by decide, gX6, w_161, rfl, tyX6_ok, nmX6, by decide +kernel, rfl⟩
theorem kn_X6_18 : LkN RX6 18 6 2 true (.array .int) := ⟨RX6, TX6, 7, tyX6, rfl, by decide, gX6, w_163, rfl, tyX6_ok, nmX6, by decide +kernel, rfl⟩
theorem kn_X6_21 : LkN RX6 21 6 3 true (.array .int) := ⟨RX6, TX6, 7, tyX6, rfl, by decide, gX6, w_166, rfl, tyX6_ok, nmX6, by decide +kernel, rfl⟩
theorem kn_X6_24 : LkN RX6 24 6 4 true (.array .int) := ⟨RX6, TX6, 7, tyX6, rfl, by decide, gX6, w_169, rfl, tyX6_ok, nmX6, by decide +kernel, rfl⟩
theorem kn_X6_27 : LkN RX6 27 6 5 true (.array .int) := ⟨RX6, TX6, 7, tyX6, rfl, by decide, gX6, w_170, rfl, tyX6_ok, nmX6, by decide +kernel, rfl⟩
theorem kn_X6_30 : LkN RX6 30 6 6 false .int := ⟨RX6, TX6, 7, tyX6, rfl, by decide, gX6, w_172, rfl, tyX6_ok, nmX6, by decide +kernel, rfl⟩
theorem kn_X7_9 : LkN RX7 9 7 0 true (.array .int) := ⟨RX7, TX7, 9, tyX7, rfl, by decide, gX7, w_280, rfl, tyX7_ok, nmX7, by decide +kernel, rfl⟩
theorem kn_X7_15 : LkN RX7 15 7 1 false .int := ⟨RX7, TX7, 9, tyX7, rfl, by decide, gX7, w_281, rfl, tyX7_ok, nmX7, by decide +kernel, rfl⟩
theorem kn_X7_19 : LkN RX7 19 7 2 false .int := ⟨RX7, TX7, 9, tyX7, rfl, by decide, gX7, w_283, rfl, tyX7_ok, nmX7, by decide +kernel, rfl⟩
theorem kn_X7_22 : LkN RX7 22 7 3 false .int := ⟨RX7, TX7, 9, tyX7, rfl, by decide, gX7, w_285, rfl, tyX7_ok, nmX7, by decide +kernel, rfl⟩
theorem kn_X7_25 : LkN RX7 25 7 4 false .int := ⟨RX7, TX7, 9, tyX7, rfl, by decide, gX7, w_287, rfl, tyX7_ok, nmX7, by decide +kernel, rfl⟩
theorem kn_X7_28 : LkN RX7 28 7 5 false .int := ⟨RX7, TX7, 9, tyX7, rfl, by decide, gX7, w_289, rfl, tyX7_ok, nmX7, by decide +kernel, rfl⟩
theorem kn_X7_31 : LkN RX7 31 7 6 false .int := ⟨RX7, TX7, 9, tyX7, rfl, by decide, gX7, w_291, rfl, tyX7_ok, nmX7, by decide +kernel, rfl⟩
theorem kn_X7_34 : LkN RX7 34 7 7 false .int := ⟨RX7, TX7, 9, tyX7, rfl, by decide, gX7, w_292, rfl, tyX7_ok, nmX7, by decide +kernel, rfl⟩
theorem kn_X7_37 : LkN RX7 37 7 8 false .int := ⟨RX7, TX7, 9, tyX7, rfl, by decide, gX7, w_293, rfl, tyX7_ok, nmX7, by decide +kernel, rfl⟩
theorem kn_X4_9 : LkN RX4 9 4 0 true (.array .int) := ⟨RX4, TX4, 10, tyX4, rfl, by decide, gX4, w_334, rfl, tyX4_ok, nmX4, by decide +kernel, rfl⟩
theorem kn_X4_15 : LkN RX4 15 4 1 true (.array .int) := ⟨RX4, TX4, 10, tyX4, rfl, by decide, gX4, w_336, rfl, tyX4_ok, nmX4, by decide +kernel, rfl⟩
theorem kn_X4_18 : LkN RX4 18 4 2 true (.array .int) := ⟨RX4, TX4, 10, tyX4, rfl, by decide, gX4, w_337, rfl, tyX4_ok, nmX4, by decide +kernel, rfl⟩
theorem kn_X4_21 : LkN RX4 21 4 3 false .int := ⟨RX4, TX4, 10, tyX4, rfl, by decide, gX4, w_339, rfl, tyX4_ok, nmX4, by decide +kernel, rfl⟩
theorem kn_X4_25 : LkN RX4 25 4 4 false .int := ⟨RX4, TX4, 10, tyX4, rfl, by decide, gX4, w_341, rfl, tyX4_ok, nmX4, by decide +kernel, rfl⟩
theorem kn_X4_28 : LkN RX4 28 4 5 false .int := ⟨RX4, TX4, 10, tyX4, rfl, by decide, gX4, w_342, rfl, tyX4_ok, nmX4, by decide +kernel, rfl⟩
theorem kn_X4_31 : LkN RX4 31 4 6 false .boolean := ⟨RX4, TX4, 10, tyX4, rfl, by decide, gX4, w_344, rfl, tyX4_ok, nmX4, by decide +kernel, rfl⟩
theorem kn_X4_35 : LkN RX4 35 4 7 true (.array .int) := ⟨RX4, TX4, 10, tyX4, rfl, by decide, gX4, w_346, rfl, tyX4_ok, nmX4, by decide +kernel, rfl⟩
theorem kn_X4_38 : LkN RX4 38 4 8 true (.array .int) := ⟨RX4, TX4, 10, tyX4, rfl, by decide, gX4, w_347, rfl, tyX4_ok, nmX4, by decide +kernel, rfl⟩
theorem kn_X4_41 : LkN RX4 41 4 9 true (.array .int) := ⟨RX4, TX4, 10, tyX4, rfl, by decide, gX4, w_348, rfl, tyX4_ok, nmX4, by decide +kernel, rfl⟩
theorem kc_X5_9c : LkC RX5 9 2 [.null, .null, .null, .null, .null, .null, .int 0, .int 0, .int 0, .int 0] := ⟨RX2, TX2, 10, tyX2, rfl, gX2, tyX2_ok, (List.forall_mem_cons.mpr ⟨w_109, (List.forall_mem_cons.mpr ⟨w_110, (List.forall_mem_cons.mpr ⟨w_80, (fun _ h => absurd h List.not_mem_nil)⟩)⟩)⟩), by decide +kernel, rfl⟩
theorem kn_X5_12 : LkN RX5 12 5 0 true (.object "PermitRoom$Net") := ⟨RX5, TX5, 4, tyX5, rfl, by decide, gX5, w_257, rfl, tyX5_ok, nmX5, by decide +kernel, rfl⟩
theorem kc_X5_18c : LkC RX5 18 6 [.null, .null, .null, .null, .null, .null, .int 0] := ⟨RX6, TX6, 7, tyX6, rfl, gX6, tyX6_ok, (List.forall_mem_cons.mpr ⟨w_153, (List.forall_mem_cons.mpr ⟨w_154, (List.forall_mem_cons.mpr ⟨w_81, (fun _ h => absurd h List.not_mem_nil)⟩)⟩)⟩), by decide +kernel, rfl⟩
theorem kn_X5_21 : LkN RX5 21 5 1 true (.object "PermitRoom$RuleBook") := ⟨RX5, TX5, 4, tyX5, rfl, by decide, gX5, w_259, rfl, tyX5_ok, nmX5, by decide +kernel, rfl⟩
theorem kc_X5_25c : LkC RX5 25 3 [.null, .null, .null, .null, .null, .null, .null, .null, .int 0] := ⟨RX3, TX3, 9, tyX3, rfl, gX3, tyX3_ok, (List.forall_mem_cons.mpr ⟨w_190, (List.forall_mem_cons.mpr ⟨w_191, (List.forall_mem_cons.mpr ⟨w_82, (fun _ h => absurd h List.not_mem_nil)⟩)⟩)⟩), by decide +kernel, rfl⟩
theorem kn_X5_28 : LkN RX5 28 5 2 true (.object "PermitRoom$Papers") := ⟨RX5, TX5, 4, tyX5, rfl, by decide, gX5, w_261, rfl, tyX5_ok, nmX5, by decide +kernel, rfl⟩
theorem kc_X5_32c : LkC RX5 32 0 [.int 0, .null] := ⟨RX0, TX0, 2, tyX0, rfl, gX0, tyX0_ok, (List.forall_mem_cons.mpr ⟨w_242, (List.forall_mem_cons.mpr ⟨w_243, (List.forall_mem_cons.mpr ⟨w_83, (fun _ h => absurd h List.not_mem_nil)⟩)⟩)⟩), by decide +kernel, rfl⟩
theorem kn_X5_35 : LkN RX5 35 5 3 true (.object "PermitRoom$Crew") := ⟨RX5, TX5, 4, tyX5, rfl, by decide, gX5, w_263, rfl, tyX5_ok, nmX5, by decide +kernel, rfl⟩
theorem kc_X8_7c : LkC RX8 7 5 [.null, .null, .null, .null] := ⟨RX5, TX5, 4, tyX5, rfl, gX5, tyX5_ok, (List.forall_mem_cons.mpr ⟨w_103, (List.forall_mem_cons.mpr ⟨w_104, (List.forall_mem_cons.mpr ⟨w_79, (fun _ h => absurd h List.not_mem_nil)⟩)⟩)⟩), by decide +kernel, rfl⟩
theorem kn_X8_10 : LkN RX8 10 8 0 true (.object "PermitRoom$Plant") := ⟨RX8, TX8, 9, tyX8, rfl, by decide, gX8, w_370, rfl, tyX8_ok, nmX8, by decide +kernel, rfl⟩
theorem kn_X8_20 : LkN RX8 20 8 1 true (.object "PermitRoom$Net") := ⟨RX8, TX8, 9, tyX8, rfl, by decide, gX8, w_371, rfl, tyX8_ok, nmX8, by decide +kernel, rfl⟩
theorem kn_X8_25 : LkN RX8 25 8 2 true (.object "PermitRoom$RuleBook") := ⟨RX8, TX8, 9, tyX8, rfl, by decide, gX8, w_372, rfl, tyX8_ok, nmX8, by decide +kernel, rfl⟩
theorem kn_X8_30 : LkN RX8 30 8 3 true (.object "PermitRoom$Papers") := ⟨RX8, TX8, 9, tyX8, rfl, by decide, gX8, w_373, rfl, tyX8_ok, nmX8, by decide +kernel, rfl⟩
theorem kn_X8_35 : LkN RX8 35 8 4 true (.object "PermitRoom$Crew") := ⟨RX8, TX8, 9, tyX8, rfl, by decide, gX8, w_374, rfl, tyX8_ok, nmX8, by decide +kernel, rfl⟩
theorem kc_X8_36c : LkC RX8 36 7 [.null, .int 0, .int 0, .int 0, .int 0, .int 0, .int 0, .int 0, .int 0] := ⟨RX7, TX7, 9, tyX7, rfl, gX7, tyX7_ok, (List.forall_mem_cons.mpr ⟨w_274, (List.forall_mem_cons.mpr ⟨w_275, (List.forall_mem_cons.mpr ⟨w_84, (fun _ h => absurd h List.not_mem_nil)⟩)⟩)⟩), by decide +kernel, rfl⟩
theorem kn_X8_39 : LkN RX8 39 8 5 true (.object "PermitRoom$Tape") := ⟨RX8, TX8, 9, tyX8, rfl, by decide, gX8, w_375, rfl, tyX8_ok, nmX8, by decide +kernel, rfl⟩
theorem kc_X8_43c : LkC RX8 43 1 [.null, .null] := ⟨RX1, TX1, 2, tyX1, rfl, gX1, tyX1_ok, (List.forall_mem_cons.mpr ⟨w_313, (List.forall_mem_cons.mpr ⟨w_314, (List.forall_mem_cons.mpr ⟨w_85, (fun _ h => absurd h List.not_mem_nil)⟩)⟩)⟩), by decide +kernel, rfl⟩
theorem kn_X8_46 : LkN RX8 46 8 6 true (.object "PermitRoom$History") := ⟨RX8, TX8, 9, tyX8, rfl, by decide, gX8, w_376, rfl, tyX8_ok, nmX8, by decide +kernel, rfl⟩
theorem kc_X8_50c : LkC RX8 50 4 [.null, .null, .null, .int 0, .int 0, .int 0, .int 0, .null, .null, .null] := ⟨RX4, TX4, 10, tyX4, rfl, gX4, tyX4_ok, (List.forall_mem_cons.mpr ⟨w_328, (List.forall_mem_cons.mpr ⟨w_329, (List.forall_mem_cons.mpr ⟨w_86, (fun _ h => absurd h List.not_mem_nil)⟩)⟩)⟩), by decide +kernel, rfl⟩
theorem kn_X8_53 : LkN RX8 53 8 7 true (.object "PermitRoom$Plan") := ⟨RX8, TX8, 9, tyX8, rfl, by decide, gX8, w_377, rfl, tyX8_ok, nmX8, by decide +kernel, rfl⟩
theorem kn_X8_57 : LkN RX8 57 8 8 false .int := ⟨RX8, TX8, 9, tyX8, rfl, by decide, gX8, w_378, rfl, tyX8_ok, nmX8, by decide +kernel, rfl⟩
theorem kn_X9_7 : LkN RX9 7 9 2 true (.array .int) := ⟨RX9, TX9, 47, tyX9, rfl, by decide, gX9, w_962, rfl, tyX9_ok, nmX9, by decide +kernel, rfl⟩
theorem kn_X9_13 : LkN RX9 13 9 3 true (.array .int) := ⟨RX9, TX9, 47, tyX9, rfl, by decide, gX9, w_963, rfl, tyX9_ok, nmX9, by decide +kernel, rfl⟩
theorem kn_X9_16 : LkN RX9 16 9 4 true (.array .int) := ⟨RX9, TX9, 47, tyX9, rfl, by decide, gX9, w_964, rfl, tyX9_ok, nmX9, by decide +kernel, rfl⟩
theorem kn_X9_19 : LkN RX9 19 9 5 true (.array .int) := ⟨RX9, TX9, 47, tyX9, rfl, by decide, gX9, w_965, rfl, tyX9_ok, nmX9, by decide +kernel, rfl⟩
theorem kn_X9_22 : LkN RX9 22 9 6 true (.array .boolean) := ⟨RX9, TX9, 47, tyX9, rfl, by decide, gX9, w_966, rfl, tyX9_ok, nmX9, by decide +kernel, rfl⟩
theorem kn_X9_26 : LkN RX9 26 9 7 true (.array .boolean) := ⟨RX9, TX9, 47, tyX9, rfl, by decide, gX9, w_967, rfl, tyX9_ok, nmX9, by decide +kernel, rfl⟩
theorem kn_X9_29 : LkN RX9 29 9 9 true (.array .int) := ⟨RX9, TX9, 47, tyX9, rfl, by decide, gX9, w_969, rfl, tyX9_ok, nmX9, by decide +kernel, rfl⟩
theorem kn_X9_32 : LkN RX9 32 9 10 true (.array .int) := ⟨RX9, TX9, 47, tyX9, rfl, by decide, gX9, w_970, rfl, tyX9_ok, nmX9, by decide +kernel, rfl⟩
theorem kn_X9_35 : LkN RX9 35 9 11 true (.array .int) := ⟨RX9, TX9, 47, tyX9, rfl, by decide, gX9, w_971, rfl, tyX9_ok, nmX9, by decide +kernel, rfl⟩
theorem kn_X9_38 : LkN RX9 38 9 12 true (.array .int) := ⟨RX9, TX9, 47, tyX9, rfl, by decide, gX9, w_972, rfl, tyX9_ok, nmX9, by decide +kernel, rfl⟩
theorem kn_X9_41 : LkN RX9 41 9 13 true (.array .int) := ⟨RX9, TX9, 47, tyX9, rfl, by decide, gX9, w_973, rfl, tyX9_ok, nmX9, by decide +kernel, rfl⟩
theorem kn_X9_44 : LkN RX9 44 9 14 true (.array .int) := ⟨RX9, TX9, 47, tyX9, rfl, by decide, gX9, w_974, rfl, tyX9_ok, nmX9, by decide +kernel, rfl⟩
theorem kn_X9_47 : LkN RX9 47 9 15 true (.array .boolean) := ⟨RX9, TX9, 47, tyX9, rfl, by decide, gX9, w_975, rfl, tyX9_ok, nmX9, by decide +kernel, rfl⟩
theorem kn_X9_50 : LkN RX9 50 9 16 true (.array .int) := ⟨RX9, TX9, 47, tyX9, rfl, by decide, gX9, w_976, rfl, tyX9_ok, nmX9, by decide +kernel, rfl⟩
theorem kn_X9_53 : LkN RX9 53 9 18 true (.array .int) := ⟨RX9, TX9, 47, tyX9, rfl, by decide, gX9, w_978, rfl, tyX9_ok, nmX9, by decide +kernel, rfl⟩
theorem kn_X9_56 : LkN RX9 56 9 19 true (.array .int) := ⟨RX9, TX9, 47, tyX9, rfl, by decide, gX9, w_979, rfl, tyX9_ok, nmX9, by decide +kernel, rfl⟩
theorem kn_X9_59 : LkN RX9 59 9 20 true (.array .int) := ⟨RX9, TX9, 47, tyX9, rfl, by decide, gX9, w_980, rfl, tyX9_ok, nmX9, by decide +kernel, rfl⟩
theorem kn_X9_62 : LkN RX9 62 9 21 true (.array .int) := ⟨RX9, TX9, 47, tyX9, rfl, by decide, gX9, w_981, rfl, tyX9_ok, nmX9, by decide +kernel, rfl⟩
theorem kn_X9_65 : LkN RX9 65 9 22 true (.array .int) := ⟨RX9, TX9, 47, tyX9, rfl, by decide, gX9, w_982, rfl, tyX9_ok, nmX9, by decide +kernel, rfl⟩
theorem kn_X9_68 : LkN RX9 68 9 23 true (.array .int) := ⟨RX9, TX9, 47, tyX9, rfl, by decide, gX9, w_983, rfl, tyX9_ok, nmX9, by decide +kernel, rfl⟩
theorem kn_X9_71 : LkN RX9 71 9 24 true (.array .int) := ⟨RX9, TX9, 47, tyX9, rfl, by decide, gX9, w_984, rfl, tyX9_ok, nmX9, by decide +kernel, rfl⟩
theorem kn_X9_74 : LkN RX9 74 9 25 true (.array .int) := ⟨RX9, TX9, 47, tyX9, rfl, by decide, gX9, w_985, rfl, tyX9_ok, nmX9, by decide +kernel, rfl⟩
theorem kn_X9_77 : LkN RX9 77 9 26 true (.array .int) := ⟨RX9, TX9, 47, tyX9, rfl, by decide, gX9, w_986, rfl, tyX9_ok, nmX9, by decide +kernel, rfl⟩
theorem kn_X9_80 : LkN RX9 80 9 27 true (.array .int) := ⟨RX9, TX9, 47, tyX9, rfl, by decide, gX9, w_987, rfl, tyX9_ok, nmX9, by decide +kernel, rfl⟩
theorem kn_X9_83 : LkN RX9 83 9 28 true (.array .int) := ⟨RX9, TX9, 47, tyX9, rfl, by decide, gX9, w_988, rfl, tyX9_ok, nmX9, by decide +kernel, rfl⟩
theorem kn_X9_86 : LkN RX9 86 9 30 true (.array .int) := ⟨RX9, TX9, 47, tyX9, rfl, by decide, gX9, w_990, rfl, tyX9_ok, nmX9, by decide +kernel, rfl⟩
theorem kn_X9_89 : LkN RX9 89 9 38 true (.array .int) := ⟨RX9, TX9, 47, tyX9, rfl, by decide, gX9, w_998, rfl, tyX9_ok, nmX9, by decide +kernel, rfl⟩
theorem kn_X9_92 : LkN RX9 92 9 41 true (.array .int) := ⟨RX9, TX9, 47, tyX9, rfl, by decide, gX9, w_1001, rfl, tyX9_ok, nmX9, by decide +kernel, rfl⟩
theorem kn_X9_95 : LkN RX9 95 9 43 true (.array .int) := ⟨RX9, TX9, 47, tyX9, rfl, by decide, gX9, w_1003, rfl, tyX9_ok, nmX9, by decide +kernel, rfl⟩
theorem kn_X9_98 : LkN RX9 98 9 45 true (.array .int) := ⟨RX9, TX9, 47, tyX9, rfl, by decide, gX9, w_1005, rfl, tyX9_ok, nmX9, by decide +kernel, rfl⟩
