set_option maxHeartbeats 4000000 in
set_option maxRecDepth 100000 in
theorem case_0 {E : Ev} {ad : Nat → Nat} {G : Gm} {b Lx nn : Nat} {xs : Nat → Int32} (C : Cx E ad G RL cL_law 4 20) (hX : va_X b Lx xs (gS G) (gS G).heap ∧ b < (gS G).heap.size ∧ ¬ Aw ad b) (i a1 a2 a3 : Int32) (hi : i.toInt = nn) (hn : nn + 4 ≤ Lx) (hL : Lx ≤ 2048) (h1 : xs (nn + 1) = a1) (h2 : xs (nn + 2) = a2) (h3 : xs (nn + 3) = a3) (σ : Sg) (hJ : Rel3 σ) (K : ∀ τ : Sg, Rel3 τ → At E ad G 4 1305 [(3, .int (i)), (2, .ref (ad 39)), (1, .ref (ad 0)), (0, .ref (b))] [] τ) : At E ad G 4 196 [(3, .int (i)), (2, .ref (ad 39)), (1, .ref (ad 0)), (0, .ref (b))] [] σ := by
  have k_0 : (0 : Int32).toInt = 0 := by decide
  have k_1 : (1 : Int32).toInt = 1 := by decide
  have k_2 : (2 : Int32).toInt = 2 := by decide
  have k_3 : (3 : Int32).toInt = 3 := by decide
  have hJ3 := hJ
  replace hJ := hJ.1
  have hI := hJ.1
  have hM := hJ.2.1
  have hE := hJ.2.2.1
  unfold EQn at hE
  have hIu := hI
  unfold IC at hIu
  obtain ⟨n0, n1, n8, n17, n29, n39, n44, -⟩ := id hM
  refine r_aload_n C 2 dL_law_196 rfl rfl ?_
  refine r_aload_n C 3 dL_law_197 rfl rfl ?_
  refine r_iload_n C 0 dL_law_198 rfl rfl ?_
  refine r_iconst C (1) dL_law_199 (by decide) ?_
  refine r_iadd C dL_law_200 ?_
  refine r_nm (P := fun z => z.toInt = i.toInt + 1) ((ta_add (by rw [k_1]; omega)).trans (by rw [k_1])) (fun z_1 hz_2 => ?_)
  refine r_sld C hX (by omega) a1 (by rw [← h1, show z_1.toInt.toNat = nn + 1 from by omega]) dL_law_201 ?_
  refine r_aload_n C 3 dL_law_202 rfl rfl ?_
  refine r_iload_n C 0 dL_law_203 rfl rfl ?_
  refine r_iconst C (2) dL_law_204 (by decide) ?_
  refine r_iadd C dL_law_205 ?_
  refine r_nm (P := fun z => z.toInt = i.toInt + 2) ((ta_add (by rw [k_2]; omega)).trans (by rw [k_2])) (fun z_3 hz_4 => ?_)
  refine r_sld C hX (by omega) a2 (by rw [← h2, show z_3.toInt.toNat = nn + 2 from by omega]) dL_law_206 ?_
  refine r_aload_n C 3 dL_law_207 rfl rfl ?_
  refine r_iload_n C 0 dL_law_208 rfl rfl ?_
  refine r_iconst C (3) dL_law_209 (by decide) ?_
  refine r_iadd C dL_law_210 ?_
  refine r_nm (P := fun z => z.toInt = i.toInt + 3) ((ta_add (by rw [k_3]; omega)).trans (by rw [k_3])) (fun z_5 hz_6 => ?_)
  refine r_sld C hX (by omega) a3 (by rw [← h3, show z_5.toInt.toNat = nn + 3 from by omega]) dL_law_211 ?_
  refine r_callV C (k := 0) [.int (a1), .int (a2), .int (a3)] [] (c_X8_pipe E ad σ  (a1) (a2) (a3) hI) lv_L_13 (by decide) rfl rfl (by decide) (by decide) rfl rfl (Nat.le_of_ble_eq_true rfl) dL_law_212 (fun r_7 τ_8 h_9 => ?_)
  have hK1 : ∀ k, 39 ≤ k → τ_8 k = σ k := by
    rcases h_9 with h | h | h
    · exact fun k _ => by rw [h.2.2]
    · exact fun k _ => by rw [h.2.2.2]
    · exact keepO h.2.2.2.1 (by decide)
  have hM1 := IMc hK1 hM
  refine r_pop C dL_law_215 rfl ?_
  refine r_aload_n C 1 dL_law_216 rfl rfl ?_
  refine r_aload_n C 3 dL_law_217 rfl rfl ?_
  refine r_iload_n C 0 dL_law_218 rfl rfl ?_
  refine r_iconst C (1) dL_law_219 (by decide) ?_
  refine r_iadd C dL_law_220 ?_
  refine r_nm (P := fun z => z.toInt = i.toInt + 1) ((ta_add (by rw [k_1]; omega)).trans (by rw [k_1])) (fun z_10 hz_11 => ?_)
  refine r_sld C hX (by omega) a1 (by rw [← h1, show z_10.toInt.toNat = nn + 1 from by omega]) dL_law_221 ?_
  refine r_aload_n C 3 dL_law_222 rfl rfl ?_
  refine r_iload_n C 0 dL_law_223 rfl rfl ?_
  refine r_iconst C (2) dL_law_224 (by decide) ?_
  refine r_iadd C dL_law_225 ?_
  refine r_nm (P := fun z => z.toInt = i.toInt + 2) ((ta_add (by rw [k_2]; omega)).trans (by rw [k_2])) (fun z_12 hz_13 => ?_)
  refine r_sld C hX (by omega) a2 (by rw [← h2, show z_12.toInt.toNat = nn + 2 from by omega]) dL_law_226 ?_
  refine r_aload_n C 3 dL_law_227 rfl rfl ?_
  refine r_iload_n C 0 dL_law_228 rfl rfl ?_
  refine r_iconst C (3) dL_law_229 (by decide) ?_
  refine r_iadd C dL_law_230 ?_
  refine r_nm (P := fun z => z.toInt = i.toInt + 3) ((ta_add (by rw [k_3]; omega)).trans (by rw [k_3])) (fun z_14 hz_15 => ?_)
  refine r_sld C hX (by omega) a3 (by rw [← h3, show z_14.toInt.toNat = nn + 3 from by omega]) dL_law_231 ?_
  refine r_callV C (k := 39) [.int (a1), .int (a2), .int (a3)] [] (c_X9_pipe E ad τ_8  (a1) (a2) (a3) hM1) lv_L_17 (by decide) rfl rfl (by decide) (by decide) rfl rfl (Nat.le_of_ble_eq_true rfl) dL_law_232 (fun r_16 τ_17 h_18 => ?_)
  have hJ2 : Rel τ_17 ∧ (r_7 : Int32).toInt = (r_16 : Int32).toInt := by
    have e1 : (τ_8 39 1).toInt = (σ 39 1).toInt := by rw [hK1 39 (by omega)]
    rcases h_9 with h | h | h <;> rcases h_18 with g | g | g <;> try omega
    · exact ⟨by rw [g.2.2, h.2.2]; exact hJ, by omega⟩
    · exact ⟨by rw [g.2.2.2, h.2.2.2]; exact hJ, by omega⟩
    · obtain ⟨v, h12, hr, o1, x1, _, _, _, _, _, x2⟩ := h
      obtain ⟨_, _, gr, o2, y1, y2, y3, y4, y5, _⟩ := g
      exact ⟨Rel_pipe hJ v h12 o1 x1 x2 o2 y1 y2 y3 y4 y5, by omega⟩
  have hJ1 := hJ2.1
  have eqr := hJ2.2
  have hJ1 : Rel3 τ_17 := by
    have e39 : τ_8 39 = σ 39 := hK1 39 (by omega)
    have e40 : τ_8 40 = σ 40 := hK1 40 (by omega)
    have e41 : τ_8 41 = σ 41 := hK1 41 (by omega)
    have e43 : τ_8 43 = σ 43 := hK1 43 (by omega)
    rw [e39, e40, e41, e43] at h_18
    rcases h_9 with h | h | h <;> rcases h_18 with g | g | g <;> try omega
    · rw [g.2.2, h.2.2]; exact hJ3
    · rw [g.2.2.2, h.2.2.2]; exact hJ3
    · obtain ⟨v, h12, hr, o1, x1, _, _, _, x5, _, x2⟩ := h
      obtain ⟨_, _, gr, o2, y1, y2, y3, y4, y5, y6⟩ := g
      refine ⟨hJ1, ?_, ?_⟩
      · rw [o2 5 (by decide), x5, y3, y4, y1, show (σ 2 6).toInt.toNat = (σ 39 1).toInt.toNat from by omega]; exact ENDS_up hJ3.2.1 (by omega)
      · rw [y6, y1, y2 0 (by decide)]; exact TOLD_up hJ3.2.2 (by omega) (Int.le_refl _)
  refine r_pop C dL_law_235 rfl ?_
  refine r_goto C 1305 dL_law_236 (by decide) ?_
  exact K τ_17 hJ1
set_option maxHeartbeats 4000000 in
set_option maxRecDepth 100000 in
theorem case_1 {E : Ev} {ad : Nat → Nat} {G : Gm} {b Lx nn : Nat} {xs : Nat → Int32} (C : Cx E ad G RL cL_law 4 20) (hX : va_X b Lx xs (gS G) (gS G).heap ∧ b < (gS G).heap.size ∧ ¬ Aw ad b) (i a1 a2 a3 : Int32) (hi : i.toInt = nn) (hn : nn + 4 ≤ Lx) (hL : Lx ≤ 2048) (h1 : xs (nn + 1) = a1) (h2 : xs (nn + 2) = a2) (h3 : xs (nn + 3) = a3) (σ : Sg) (hJ : Rel3 σ) (K : ∀ τ : Sg, Rel3 τ → At E ad G 4 1305 [(3, .int (i)), (2, .ref (ad 39)), (1, .ref (ad 0)), (0, .ref (b))] [] τ) : At E ad G 4 239 [(3, .int (i)), (2, .ref (ad 39)), (1, .ref (ad 0)), (0, .ref (b))] [] σ := by
  have k_0 : (0 : Int32).toInt = 0 := by decide
  have k_1 : (1 : Int32).toInt = 1 := by decide
  have k_2 : (2 : Int32).toInt = 2 := by decide
  have k_3 : (3 : Int32).toInt = 3 := by decide
  have hJ3 := hJ
  replace hJ := hJ.1
  have hI := hJ.1
  have hM := hJ.2.1
  have hE := hJ.2.2.1
  unfold EQn at hE
  have hIu := hI
  unfold IC at hIu
  obtain ⟨n0, n1, n8, n17, n29, n39, n44, -⟩ := id hM
  refine r_aload_n C 2 dL_law_239 rfl rfl ?_
  refine r_aload_n C 3 dL_law_240 rfl rfl ?_
  refine r_iload_n C 0 dL_law_241 rfl rfl ?_
  refine r_iconst C (1) dL_law_242 (by decide) ?_
  refine r_iadd C dL_law_243 ?_
  refine r_nm (P := fun z => z.toInt = i.toInt + 1) ((ta_add (by rw [k_1]; omega)).trans (by rw [k_1])) (fun z_1 hz_2 => ?_)
  refine r_sld C hX (by omega) a1 (by rw [← h1, show z_1.toInt.toNat = nn + 1 from by omega]) dL_law_244 ?_
  refine r_aload_n C 3 dL_law_245 rfl rfl ?_
  refine r_iload_n C 0 dL_law_246 rfl rfl ?_
  refine r_iconst C (2) dL_law_247 (by decide) ?_
  refine r_iadd C dL_law_248 ?_
  refine r_nm (P := fun z => z.toInt = i.toInt + 2) ((ta_add (by rw [k_2]; omega)).trans (by rw [k_2])) (fun z_3 hz_4 => ?_)
  refine r_sld C hX (by omega) a2 (by rw [← h2, show z_3.toInt.toNat = nn + 2 from by omega]) dL_law_249 ?_
  refine r_callV C (k := 0) [.int (a1), .int (a2)] [] (c_X8_of E ad σ  (a1) (a2) hI) lv_L_18 (by decide) rfl rfl (by decide) (by decide) rfl rfl (Nat.le_of_ble_eq_true rfl) dL_law_250 (fun r_5 τ_6 h_7 => ?_)
  obtain ⟨eh_7, h_7⟩ := h_7
  obtain rfl := eh_7.symm
  have hM1 := hM
  refine r_pop C dL_law_253 rfl ?_
  refine r_aload_n C 1 dL_law_254 rfl rfl ?_
  refine r_aload_n C 3 dL_law_255 rfl rfl ?_
  refine r_iload_n C 0 dL_law_256 rfl rfl ?_
  refine r_iconst C (1) dL_law_257 (by decide) ?_
  refine r_iadd C dL_law_258 ?_
  refine r_nm (P := fun z => z.toInt = i.toInt + 1) ((ta_add (by rw [k_1]; omega)).trans (by rw [k_1])) (fun z_8 hz_9 => ?_)
  refine r_sld C hX (by omega) a1 (by rw [← h1, show z_8.toInt.toNat = nn + 1 from by omega]) dL_law_259 ?_
  refine r_aload_n C 3 dL_law_260 rfl rfl ?_
  refine r_iload_n C 0 dL_law_261 rfl rfl ?_
  refine r_iconst C (2) dL_law_262 (by decide) ?_
  refine r_iadd C dL_law_263 ?_
  refine r_nm (P := fun z => z.toInt = i.toInt + 2) ((ta_add (by rw [k_2]; omega)).trans (by rw [k_2])) (fun z_10 hz_11 => ?_)
  refine r_sld C hX (by omega) a2 (by rw [← h2, show z_10.toInt.toNat = nn + 2 from by omega]) dL_law_264 ?_
  refine r_callV C (k := 39) [.int (a1), .int (a2)] [] (c_X9_of E ad σ  (a1) (a2) hM1) lv_L_22 (by decide) rfl rfl (by decide) (by decide) rfl rfl (Nat.le_of_ble_eq_true rfl) dL_law_265 (fun r_12 τ_13 h_14 => ?_)
  obtain ⟨eh_14, h_14⟩ := h_14
  obtain rfl := eh_14.symm
  have hJ1 := hJ
  have hJ1 : Rel3 σ := hJ3
  refine r_pop C dL_law_268 rfl ?_
  refine r_goto C 1305 dL_law_269 (by decide) ?_
  exact K σ hJ1
set_option maxHeartbeats 4000000 in
set_option maxRecDepth 100000 in
theorem case_2 {E : Ev} {ad : Nat → Nat} {G : Gm} {b Lx nn : Nat} {xs : Nat → Int32} (C : Cx E ad G RL cL_law 4 20) (hX : va_X b Lx xs (gS G) (gS G).heap ∧ b < (gS G).heap.size ∧ ¬ Aw ad b) (i a1 a2 a3 : Int32) (hi : i.toInt = nn) (hn : nn + 4 ≤ Lx) (hL : Lx ≤ 2048) (h1 : xs (nn + 1) = a1) (h2 : xs (nn + 2) = a2) (h3 : xs (nn + 3) = a3) (σ : Sg) (hJ : Rel3 σ) (K : ∀ τ : Sg, Rel3 τ → At E ad G 4 1305 [(3, .int (i)), (2, .ref (ad 39)), (1, .ref (ad 0)), (0, .ref (b))] [] τ) : At E ad G 4 272 [(3, .int (i)), (2, .ref (ad 39)), (1, .ref (ad 0)), (0, .ref (b))] [] σ := by
  have k_0 : (0 : Int32).toInt = 0 := by decide
  have k_1 : (1 : Int32).toInt = 1 := by decide
  have k_2 : (2 : Int32).toInt = 2 := by decide
  have k_3 : (3 : Int32).toInt = 3 := by decide
  have hJ3 := hJ
  replace hJ := hJ.1
  have hI := hJ.1
  have hM := hJ.2.1
  have hE := hJ.2.2.1
  unfold EQn at hE
  have hIu := hI
  unfold IC at hIu
  obtain ⟨n0, n1, n8, n17, n29, n39, n44, -⟩ := id hM
  refine r_aload_n C 2 dL_law_272 rfl rfl ?_
  refine r_aload_n C 3 dL_law_273 rfl rfl ?_
  refine r_iload_n C 0 dL_law_274 rfl rfl ?_
  refine r_iconst C (1) dL_law_275 (by decide) ?_
  refine r_iadd C dL_law_276 ?_
  refine r_nm (P := fun z => z.toInt = i.toInt + 1) ((ta_add (by rw [k_1]; omega)).trans (by rw [k_1])) (fun z_1 hz_2 => ?_)
  refine r_sld C hX (by omega) a1 (by rw [← h1, show z_1.toInt.toNat = nn + 1 from by omega]) dL_law_277 ?_
  refine r_aload_n C 3 dL_law_278 rfl rfl ?_
  refine r_iload_n C 0 dL_law_279 rfl rfl ?_
  refine r_iconst C (2) dL_law_280 (by decide) ?_
  refine r_iadd C dL_law_281 ?_
  refine r_nm (P := fun z => z.toInt = i.toInt + 2) ((ta_add (by rw [k_2]; omega)).trans (by rw [k_2])) (fun z_3 hz_4 => ?_)
  refine r_sld C hX (by omega) a2 (by rw [← h2, show z_3.toInt.toNat = nn + 2 from by omega]) dL_law_282 ?_
  refine r_aload_n C 3 dL_law_283 rfl rfl ?_
  refine r_iload_n C 0 dL_law_284 rfl rfl ?_
  refine r_iconst C (3) dL_law_285 (by decide) ?_
  refine r_iadd C dL_law_286 ?_
  refine r_nm (P := fun z => z.toInt = i.toInt + 3) ((ta_add (by rw [k_3]; omega)).trans (by rw [k_3])) (fun z_5 hz_6 => ?_)
  refine r_sld C hX (by omega) a3 (by rw [← h3, show z_5.toInt.toNat = nn + 3 from by omega]) dL_law_287 ?_
  refine r_if_eq C 295 dL_law_288 (by decide) (fun c_7 => ?_) (fun c_7 => ?_)
  · -- to 295
    refine r_iconst C (0) dL_law_295 (by decide) ?_
    refine r_callV C (k := 0) [.int (a1), .int (a2), .int (0)] [] (c_X8_source E ad σ  (a1) (a2) (0) hI) lv_L_23 (by decide) rfl rfl (by decide) (by decide) rfl rfl (Nat.le_of_ble_eq_true rfl) dL_law_296 (fun r_8 τ_9 h_10 => ?_)
    have hK1 : ∀ k, 39 ≤ k → τ_9 k = σ k := by
      rcases h_10 with h | h
      · exact fun k _ => by rw [h.2.2]
      · exact fun k hk => by rw [h.2.1]; exact sUp_ne (by omega)
    have hM1 := IMc hK1 hM
    refine r_pop C dL_law_299 rfl ?_
    refine r_aload_n C 1 dL_law_300 rfl rfl ?_
    refine r_aload_n C 3 dL_law_301 rfl rfl ?_
    refine r_iload_n C 0 dL_law_302 rfl rfl ?_
    refine r_iconst C (1) dL_law_303 (by decide) ?_
    refine r_iadd C dL_law_304 ?_
    refine r_nm (P := fun z => z.toInt = i.toInt + 1) ((ta_add (by rw [k_1]; omega)).trans (by rw [k_1])) (fun z_11 hz_12 => ?_)
    refine r_sld C hX (by omega) a1 (by rw [← h1, show z_11.toInt.toNat = nn + 1 from by omega]) dL_law_305 ?_
    refine r_aload_n C 3 dL_law_306 rfl rfl ?_
    refine r_iload_n C 0 dL_law_307 rfl rfl ?_
    refine r_iconst C (2) dL_law_308 (by decide) ?_
    refine r_iadd C dL_law_309 ?_
    refine r_nm (P := fun z => z.toInt = i.toInt + 2) ((ta_add (by rw [k_2]; omega)).trans (by rw [k_2])) (fun z_13 hz_14 => ?_)
    refine r_sld C hX (by omega) a2 (by rw [← h2, show z_13.toInt.toNat = nn + 2 from by omega]) dL_law_310 ?_
    refine r_aload_n C 3 dL_law_311 rfl rfl ?_
    refine r_iload_n C 0 dL_law_312 rfl rfl ?_
    refine r_iconst C (3) dL_law_313 (by decide) ?_
    refine r_iadd C dL_law_314 ?_
    refine r_nm (P := fun z => z.toInt = i.toInt + 3) ((ta_add (by rw [k_3]; omega)).trans (by rw [k_3])) (fun z_15 hz_16 => ?_)
    refine r_sld C hX (by omega) a3 (by rw [← h3, show z_15.toInt.toNat = nn + 3 from by omega]) dL_law_315 ?_
    refine r_if_eq C 323 dL_law_316 (by decide) (fun c_17 => ?_) (fun c_17 => absurd c_17 (by omega))
    refine r_iconst C (0) dL_law_323 (by decide) ?_
    refine r_callV C (k := 39) [.int (a1), .int (a2), .int (0)] [] (c_X9_source E ad τ_9  (a1) (a2) (0) hM1 (by decide)) lv_L_27 (by decide) rfl rfl (by decide) (by decide) rfl rfl (Nat.le_of_ble_eq_true rfl) dL_law_324 (fun r_18 τ_19 h_20 => ?_)
    have hJ2 : Rel τ_19 ∧ (r_8 : Int32).toInt = (r_18 : Int32).toInt := by
      rcases h_10 with h | ⟨v, h, h3⟩
      · rcases h_20 with g | g
        · exact ⟨by rw [g.2.2, h.2.2]; exact hJ, h.2.1.trans g.2.1.symm⟩
        · exact absurd g.1 h.1
      · rcases h_20 with g | ⟨_, g, g3⟩
        · exact absurd v g.1
        · have t := Rel_source (u := 0) hJ v (by decide)
          rw [hK1 45 (by omega)] at g3
          have t2 := t.2
          refine ⟨by rw [g, h]; exact t.1, ?_⟩
          rcases h3 with ⟨a, b⟩ | ⟨a, b⟩ <;> rcases g3 with ⟨c, d⟩ | ⟨c, d⟩
          · omega
          · exact absurd (t2.mp b) d
          · exact absurd (t2.mpr d) b
          · omega
    have hJ1 := hJ2.1
    have eqr := hJ2.2
    have kc : τ_9 5 = σ 5 := by
      rcases h_10 with h | h
      · rw [h.2.2]
      · rw [h.2.1]; exact sUp_ne (by decide)
    have km : τ_19 5 = τ_9 5 ∧ τ_19 40 = τ_9 40 ∧ τ_19 41 = τ_9 41 ∧ τ_19 43 = τ_9 43 ∧ (τ_19 39 1).toInt = (τ_9 39 1).toInt ∧ (τ_9 39 0).toInt ≤ (τ_19 39 0).toInt := by
      rcases h_20 with g | g
      · rw [g.2.2]; exact ⟨rfl, rfl, rfl, rfl, rfl, Int.le_refl _⟩
      · rw [g.2.1]; exact ⟨sUp_ne (by decide), sUp_ne (by decide), sUp_ne (by decide), sUp_ne (by decide), by rw [sUp_ne (by decide)], by rw [sUp_ne (by decide)]; exact Int.le_refl _⟩
    have hJ1 : Rel3 τ_19 := Rel3_off hJ3 hJ1 (km.1.trans kc) (km.2.1.trans (hK1 40 (by omega))) (km.2.2.1.trans (hK1 41 (by omega))) (km.2.2.2.1.trans (hK1 43 (by omega))) (by rw [km.2.2.2.2.1, hK1 39 (by omega)]) (by have t := km.2.2.2.2.2; rw [hK1 39 (by omega)] at t; exact t)
    refine r_pop C dL_law_327 rfl ?_
    refine r_goto C 1305 dL_law_328 (by decide) ?_
    exact K τ_19 hJ1
  · -- to 291
    refine r_iconst C (1) dL_law_291 (by decide) ?_
    refine r_goto C 296 dL_law_292 (by decide) ?_
    refine r_callV C (k := 0) [.int (a1), .int (a2), .int (1)] [] (c_X8_source E ad σ  (a1) (a2) (1) hI) lv_L_23 (by decide) rfl rfl (by decide) (by decide) rfl rfl (Nat.le_of_ble_eq_true rfl) dL_law_296 (fun r_21 τ_22 h_23 => ?_)
    have hK1 : ∀ k, 39 ≤ k → τ_22 k = σ k := by
      rcases h_23 with h | h
      · exact fun k _ => by rw [h.2.2]
      · exact fun k hk => by rw [h.2.1]; exact sUp_ne (by omega)
    have hM1 := IMc hK1 hM
    refine r_pop C dL_law_299 rfl ?_
    refine r_aload_n C 1 dL_law_300 rfl rfl ?_
    refine r_aload_n C 3 dL_law_301 rfl rfl ?_
    refine r_iload_n C 0 dL_law_302 rfl rfl ?_
    refine r_iconst C (1) dL_law_303 (by decide) ?_
    refine r_iadd C dL_law_304 ?_
    refine r_nm (P := fun z => z.toInt = i.toInt + 1) ((ta_add (by rw [k_1]; omega)).trans (by rw [k_1])) (fun z_24 hz_25 => ?_)
    refine r_sld C hX (by omega) a1 (by rw [← h1, show z_24.toInt.toNat = nn + 1 from by omega]) dL_law_305 ?_
    refine r_aload_n C 3 dL_law_306 rfl rfl ?_
    refine r_iload_n C 0 dL_law_307 rfl rfl ?_
    refine r_iconst C (2) dL_law_308 (by decide) ?_
    refine r_iadd C dL_law_309 ?_
    refine r_nm (P := fun z => z.toInt = i.toInt + 2) ((ta_add (by rw [k_2]; omega)).trans (by rw [k_2])) (fun z_26 hz_27 => ?_)
    refine r_sld C hX (by omega) a2 (by rw [← h2, show z_26.toInt.toNat = nn + 2 from by omega]) dL_law_310 ?_
    refine r_aload_n C 3 dL_law_311 rfl rfl ?_
    refine r_iload_n C 0 dL_law_312 rfl rfl ?_
    refine r_iconst C (3) dL_law_313 (by decide) ?_
    refine r_iadd C dL_law_314 ?_
    refine r_nm (P := fun z => z.toInt = i.toInt + 3) ((ta_add (by rw [k_3]; omega)).trans (by rw [k_3])) (fun z_28 hz_29 => ?_)
    refine r_sld C hX (by omega) a3 (by rw [← h3, show z_28.toInt.toNat = nn + 3 from by omega]) dL_law_315 ?_
    refine r_if_eq C 323 dL_law_316 (by decide) (fun c_30 => absurd c_30 (by omega)) (fun c_30 => ?_)
    refine r_iconst C (1) dL_law_319 (by decide) ?_
    refine r_goto C 324 dL_law_320 (by decide) ?_
    refine r_callV C (k := 39) [.int (a1), .int (a2), .int (1)] [] (c_X9_source E ad τ_22  (a1) (a2) (1) hM1 (by decide)) lv_L_27 (by decide) rfl rfl (by decide) (by decide) rfl rfl (Nat.le_of_ble_eq_true rfl) dL_law_324 (fun r_31 τ_32 h_33 => ?_)
    have hJ2 : Rel τ_32 ∧ (r_21 : Int32).toInt = (r_31 : Int32).toInt := by
      rcases h_23 with h | ⟨v, h, h3⟩
      · rcases h_33 with g | g
        · exact ⟨by rw [g.2.2, h.2.2]; exact hJ, h.2.1.trans g.2.1.symm⟩
        · exact absurd g.1 h.1
      · rcases h_33 with g | ⟨_, g, g3⟩
        · exact absurd v g.1
        · have t := Rel_source (u := 1) hJ v (by decide)
          rw [hK1 45 (by omega)] at g3
          have t2 := t.2
          refine ⟨by rw [g, h]; exact t.1, ?_⟩
          rcases h3 with ⟨a, b⟩ | ⟨a, b⟩ <;> rcases g3 with ⟨c, d⟩ | ⟨c, d⟩
          · omega
          · exact absurd (t2.mp b) d
          · exact absurd (t2.mpr d) b
          · omega
    have hJ1 := hJ2.1
    have eqr := hJ2.2
    have kc : τ_22 5 = σ 5 := by
      rcases h_23 with h | h
      · rw [h.2.2]
      · rw [h.2.1]; exact sUp_ne (by decide)
    have km : τ_32 5 = τ_22 5 ∧ τ_32 40 = τ_22 40 ∧ τ_32 41 = τ_22 41 ∧ τ_32 43 = τ_22 43 ∧ (τ_32 39 1).toInt = (τ_22 39 1).toInt ∧ (τ_22 39 0).toInt ≤ (τ_32 39 0).toInt := by
      rcases h_33 with g | g
      · rw [g.2.2]; exact ⟨rfl, rfl, rfl, rfl, rfl, Int.le_refl _⟩
      · rw [g.2.1]; exact ⟨sUp_ne (by decide), sUp_ne (by decide), sUp_ne (by decide), sUp_ne (by decide), by rw [sUp_ne (by decide)], by rw [sUp_ne (by decide)]; exact Int.le_refl _⟩
    have hJ1 : Rel3 τ_32 := Rel3_off hJ3 hJ1 (km.1.trans kc) (km.2.1.trans (hK1 40 (by omega))) (km.2.2.1.trans (hK1 41 (by omega))) (km.2.2.2.1.trans (hK1 43 (by omega))) (by rw [km.2.2.2.2.1, hK1 39 (by omega)]) (by have t := km.2.2.2.2.2; rw [hK1 39 (by omega)] at t; exact t)
    refine r_pop C dL_law_327 rfl ?_
    refine r_goto C 1305 dL_law_328 (by decide) ?_
    exact K τ_32 hJ1
set_option maxHeartbeats 4000000 in
set_option maxRecDepth 100000 in
theorem case_3 {E : Ev} {ad : Nat → Nat} {G : Gm} {b Lx nn : Nat} {xs : Nat → Int32} (C : Cx E ad G RL cL_law 4 20) (hX : va_X b Lx xs (gS G) (gS G).heap ∧ b < (gS G).heap.size ∧ ¬ Aw ad b) (i a1 a2 a3 : Int32) (hi : i.toInt = nn) (hn : nn + 4 ≤ Lx) (hL : Lx ≤ 2048) (h1 : xs (nn + 1) = a1) (h2 : xs (nn + 2) = a2) (h3 : xs (nn + 3) = a3) (σ : Sg) (hJ : Rel3 σ) (K : ∀ τ : Sg, Rel3 τ → At E ad G 4 1305 [(3, .int (i)), (2, .ref (ad 39)), (1, .ref (ad 0)), (0, .ref (b))] [] τ) : At E ad G 4 331 [(3, .int (i)), (2, .ref (ad 39)), (1, .ref (ad 0)), (0, .ref (b))] [] σ := by
  have k_0 : (0 : Int32).toInt = 0 := by decide
  have k_1 : (1 : Int32).toInt = 1 := by decide
  have k_2 : (2 : Int32).toInt = 2 := by decide
  have k_3 : (3 : Int32).toInt = 3 := by decide
  have hJ3 := hJ
  replace hJ := hJ.1
  have hI := hJ.1
  have hM := hJ.2.1
  have hE := hJ.2.2.1
  unfold EQn at hE
  have hIu := hI
  unfold IC at hIu
  obtain ⟨n0, n1, n8, n17, n29, n39, n44, -⟩ := id hM
  refine r_aload_n C 2 dL_law_331 rfl rfl ?_
  refine r_aload_n C 3 dL_law_332 rfl rfl ?_
  refine r_iload_n C 0 dL_law_333 rfl rfl ?_
  refine r_iconst C (1) dL_law_334 (by decide) ?_
  refine r_iadd C dL_law_335 ?_
  refine r_nm (P := fun z => z.toInt = i.toInt + 1) ((ta_add (by rw [k_1]; omega)).trans (by rw [k_1])) (fun z_1 hz_2 => ?_)
  refine r_sld C hX (by omega) a1 (by rw [← h1, show z_1.toInt.toNat = nn + 1 from by omega]) dL_law_336 ?_
  refine r_aload_n C 3 dL_law_337 rfl rfl ?_
  refine r_iload_n C 0 dL_law_338 rfl rfl ?_
  refine r_iconst C (2) dL_law_339 (by decide) ?_
  refine r_iadd C dL_law_340 ?_
  refine r_nm (P := fun z => z.toInt = i.toInt + 2) ((ta_add (by rw [k_2]; omega)).trans (by rw [k_2])) (fun z_3 hz_4 => ?_)
  refine r_sld C hX (by omega) a2 (by rw [← h2, show z_3.toInt.toNat = nn + 2 from by omega]) dL_law_341 ?_
  refine r_if_eq C 349 dL_law_342 (by decide) (fun c_5 => ?_) (fun c_5 => ?_)
  · -- to 349
    refine r_iconst C (0) dL_law_349 (by decide) ?_
    refine r_callV C (k := 0) [.int (a1), .int (0)] [] (c_X8_turn E ad σ  (a1) (0) hI) lv_L_28 (by decide) rfl rfl (by decide) (by decide) rfl rfl (Nat.le_of_ble_eq_true rfl) dL_law_350 (fun r_6 τ_7 h_8 => ?_)
    have hK1 : ∀ k, 39 ≤ k → τ_7 k = σ k := by
      exact keepO h_8.1 (by decide)
    have hM1 := IMc hK1 hM
    refine r_pop C dL_law_353 rfl ?_
    refine r_aload_n C 1 dL_law_354 rfl rfl ?_
    refine r_aload_n C 3 dL_law_355 rfl rfl ?_
    refine r_iload_n C 0 dL_law_356 rfl rfl ?_
    refine r_iconst C (1) dL_law_357 (by decide) ?_
    refine r_iadd C dL_law_358 ?_
    refine r_nm (P := fun z => z.toInt = i.toInt + 1) ((ta_add (by rw [k_1]; omega)).trans (by rw [k_1])) (fun z_9 hz_10 => ?_)
    refine r_sld C hX (by omega) a1 (by rw [← h1, show z_9.toInt.toNat = nn + 1 from by omega]) dL_law_359 ?_
    refine r_aload_n C 3 dL_law_360 rfl rfl ?_
    refine r_iload_n C 0 dL_law_361 rfl rfl ?_
    refine r_iconst C (2) dL_law_362 (by decide) ?_
    refine r_iadd C dL_law_363 ?_
    refine r_nm (P := fun z => z.toInt = i.toInt + 2) ((ta_add (by rw [k_2]; omega)).trans (by rw [k_2])) (fun z_11 hz_12 => ?_)
    refine r_sld C hX (by omega) a2 (by rw [← h2, show z_11.toInt.toNat = nn + 2 from by omega]) dL_law_364 ?_
    refine r_if_eq C 372 dL_law_365 (by decide) (fun c_13 => ?_) (fun c_13 => absurd c_13 (by omega))
    refine r_iconst C (0) dL_law_372 (by decide) ?_
    refine r_callV C (k := 39) [.int (a1), .int (0)] [] (c_X9_turn E ad τ_7  (a1) (0) hM1 (by decide)) lv_L_32 (by decide) rfl rfl (by decide) (by decide) rfl rfl (Nat.le_of_ble_eq_true rfl) dL_law_373 (fun r_14 τ_15 h_16 => ?_)
    have hJ1 : Rel τ_15 := Rel_turn hJ h_8.1 h_8.2.1 h_16.1
    have hJ1 : Rel3 τ_15 := Rel3_off hJ3 hJ1 ((h_16.1 5 (by decide)).trans (h_8.1 5 (by decide))) ((h_16.1 40 (by decide)).trans (h_8.1 40 (by decide))) ((h_16.1 41 (by decide)).trans (h_8.1 41 (by decide))) ((h_16.1 43 (by decide)).trans (h_8.1 43 (by decide))) (by rw [h_16.1 39 (by decide), h_8.1 39 (by decide)]) (by rw [h_16.1 39 (by decide), h_8.1 39 (by decide)]; exact Int.le_refl _)
    refine r_pop C dL_law_376 rfl ?_
    refine r_goto C 1305 dL_law_377 (by decide) ?_
    exact K τ_15 hJ1
  · -- to 345
    refine r_iconst C (1) dL_law_345 (by decide) ?_
    refine r_goto C 350 dL_law_346 (by decide) ?_
    refine r_callV C (k := 0) [.int (a1), .int (1)] [] (c_X8_turn E ad σ  (a1) (1) hI) lv_L_28 (by decide) rfl rfl (by decide) (by decide) rfl rfl (Nat.le_of_ble_eq_true rfl) dL_law_350 (fun r_17 τ_18 h_19 => ?_)
    have hK1 : ∀ k, 39 ≤ k → τ_18 k = σ k := by
      exact keepO h_19.1 (by decide)
    have hM1 := IMc hK1 hM
    refine r_pop C dL_law_353 rfl ?_
    refine r_aload_n C 1 dL_law_354 rfl rfl ?_
    refine r_aload_n C 3 dL_law_355 rfl rfl ?_
    refine r_iload_n C 0 dL_law_356 rfl rfl ?_
    refine r_iconst C (1) dL_law_357 (by decide) ?_
    refine r_iadd C dL_law_358 ?_
    refine r_nm (P := fun z => z.toInt = i.toInt + 1) ((ta_add (by rw [k_1]; omega)).trans (by rw [k_1])) (fun z_20 hz_21 => ?_)
    refine r_sld C hX (by omega) a1 (by rw [← h1, show z_20.toInt.toNat = nn + 1 from by omega]) dL_law_359 ?_
    refine r_aload_n C 3 dL_law_360 rfl rfl ?_
    refine r_iload_n C 0 dL_law_361 rfl rfl ?_
    refine r_iconst C (2) dL_law_362 (by decide) ?_
    refine r_iadd C dL_law_363 ?_
    refine r_nm (P := fun z => z.toInt = i.toInt + 2) ((ta_add (by rw [k_2]; omega)).trans (by rw [k_2])) (fun z_22 hz_23 => ?_)
    refine r_sld C hX (by omega) a2 (by rw [← h2, show z_22.toInt.toNat = nn + 2 from by omega]) dL_law_364 ?_
    refine r_if_eq C 372 dL_law_365 (by decide) (fun c_24 => absurd c_24 (by omega)) (fun c_24 => ?_)
    refine r_iconst C (1) dL_law_368 (by decide) ?_
    refine r_goto C 373 dL_law_369 (by decide) ?_
    refine r_callV C (k := 39) [.int (a1), .int (1)] [] (c_X9_turn E ad τ_18  (a1) (1) hM1 (by decide)) lv_L_32 (by decide) rfl rfl (by decide) (by decide) rfl rfl (Nat.le_of_ble_eq_true rfl) dL_law_373 (fun r_25 τ_26 h_27 => ?_)
    have hJ1 : Rel τ_26 := Rel_turn hJ h_19.1 h_19.2.1 h_27.1
    have hJ1 : Rel3 τ_26 := Rel3_off hJ3 hJ1 ((h_27.1 5 (by decide)).trans (h_19.1 5 (by decide))) ((h_27.1 40 (by decide)).trans (h_19.1 40 (by decide))) ((h_27.1 41 (by decide)).trans (h_19.1 41 (by decide))) ((h_27.1 43 (by decide)).trans (h_19.1 43 (by decide))) (by rw [h_27.1 39 (by decide), h_19.1 39 (by decide)]) (by rw [h_27.1 39 (by decide), h_19.1 39 (by decide)]; exact Int.le_refl _)
    refine r_pop C dL_law_376 rfl ?_
    refine r_goto C 1305 dL_law_377 (by decide) ?_
    exact K τ_26 hJ1
set_option maxHeartbeats 4000000 in
set_option maxRecDepth 100000 in
theorem case_4 {E : Ev} {ad : Nat → Nat} {G : Gm} {b Lx nn : Nat} {xs : Nat → Int32} (C : Cx E ad G RL cL_law 4 20) (hX : va_X b Lx xs (gS G) (gS G).heap ∧ b < (gS G).heap.size ∧ ¬ Aw ad b) (i a1 a2 a3 : Int32) (hi : i.toInt = nn) (hn : nn + 4 ≤ Lx) (hL : Lx ≤ 2048) (h1 : xs (nn + 1) = a1) (h2 : xs (nn + 2) = a2) (h3 : xs (nn + 3) = a3) (σ : Sg) (hJ : Rel3 σ) (K : ∀ τ : Sg, Rel3 τ → At E ad G 4 1305 [(3, .int (i)), (2, .ref (ad 39)), (1, .ref (ad 0)), (0, .ref (b))] [] τ) : At E ad G 4 380 [(3, .int (i)), (2, .ref (ad 39)), (1, .ref (ad 0)), (0, .ref (b))] [] σ := by
  have k_0 : (0 : Int32).toInt = 0 := by decide
  have k_1 : (1 : Int32).toInt = 1 := by decide
  have k_2 : (2 : Int32).toInt = 2 := by decide
  have k_3 : (3 : Int32).toInt = 3 := by decide
  have hJ3 := hJ
  replace hJ := hJ.1
  have hI := hJ.1
  have hM := hJ.2.1
  have hE := hJ.2.2.1
  unfold EQn at hE
  have hIu := hI
  unfold IC at hIu
  obtain ⟨n0, n1, n8, n17, n29, n39, n44, -⟩ := id hM
  refine r_aload_n C 2 dL_law_380 rfl rfl ?_
  refine r_aload_n C 3 dL_law_381 rfl rfl ?_
  refine r_iload_n C 0 dL_law_382 rfl rfl ?_
  refine r_iconst C (1) dL_law_383 (by decide) ?_
  refine r_iadd C dL_law_384 ?_
  refine r_nm (P := fun z => z.toInt = i.toInt + 1) ((ta_add (by rw [k_1]; omega)).trans (by rw [k_1])) (fun z_1 hz_2 => ?_)
  refine r_sld C hX (by omega) a1 (by rw [← h1, show z_1.toInt.toNat = nn + 1 from by omega]) dL_law_385 ?_
  refine r_callV C (k := 0) [.int (a1)] [] (c_X8_safe E ad σ  (a1) hI) lv_L_33 (by decide) rfl rfl (by decide) (by decide) rfl rfl (Nat.le_of_ble_eq_true rfl) dL_law_386 (fun r_3 τ_4 h_5 => ?_)
  obtain ⟨eh_5, h_5⟩ := h_5
  obtain rfl := eh_5.symm
  have hM1 := hM
  refine r_pop C dL_law_389 rfl ?_
  refine r_aload_n C 1 dL_law_390 rfl rfl ?_
  refine r_aload_n C 3 dL_law_391 rfl rfl ?_
  refine r_iload_n C 0 dL_law_392 rfl rfl ?_
  refine r_iconst C (1) dL_law_393 (by decide) ?_
  refine r_iadd C dL_law_394 ?_
  refine r_nm (P := fun z => z.toInt = i.toInt + 1) ((ta_add (by rw [k_1]; omega)).trans (by rw [k_1])) (fun z_6 hz_7 => ?_)
  refine r_sld C hX (by omega) a1 (by rw [← h1, show z_6.toInt.toNat = nn + 1 from by omega]) dL_law_395 ?_
  refine r_callV C (k := 39) [.int (a1)] [] (c_X9_safe E ad σ  (a1) hM1) lv_L_37 (by decide) rfl rfl (by decide) (by decide) rfl rfl (Nat.le_of_ble_eq_true rfl) dL_law_396 (fun r_8 τ_9 h_10 => ?_)
  have hJ1 : Rel τ_9 := Rel_off hJ h_10.1 (by decide)
  have hJ1 : Rel3 τ_9 := Rel3_off hJ3 hJ1 (h_10.1 5 (by decide)) (h_10.1 40 (by decide)) (h_10.1 41 (by decide)) (h_10.1 43 (by decide)) (by rw [h_10.1 39 (by decide)]) (by rw [h_10.1 39 (by decide)]; exact Int.le_refl _)
  refine r_pop C dL_law_399 rfl ?_
  refine r_goto C 1305 dL_law_400 (by decide) ?_
  exact K τ_9 hJ1
set_option maxHeartbeats 4000000 in
set_option maxRecDepth 100000 in
theorem case_5 {E : Ev} {ad : Nat → Nat} {G : Gm} {b Lx nn : Nat} {xs : Nat → Int32} (C : Cx E ad G RL cL_law 4 20) (hX : va_X b Lx xs (gS G) (gS G).heap ∧ b < (gS G).heap.size ∧ ¬ Aw ad b) (i a1 a2 a3 : Int32) (hi : i.toInt = nn) (hn : nn + 4 ≤ Lx) (hL : Lx ≤ 2048) (h1 : xs (nn + 1) = a1) (h2 : xs (nn + 2) = a2) (h3 : xs (nn + 3) = a3) (σ : Sg) (hJ : Rel3 σ) (K : ∀ τ : Sg, Rel3 τ → At E ad G 4 1305 [(3, .int (i)), (2, .ref (ad 39)), (1, .ref (ad 0)), (0, .ref (b))] [] τ) : At E ad G 4 403 [(3, .int (i)), (2, .ref (ad 39)), (1, .ref (ad 0)), (0, .ref (b))] [] σ := by
  have k_0 : (0 : Int32).toInt = 0 := by decide
  have k_1 : (1 : Int32).toInt = 1 := by decide
  have k_2 : (2 : Int32).toInt = 2 := by decide
  have k_3 : (3 : Int32).toInt = 3 := by decide
  have hJ3 := hJ
  replace hJ := hJ.1
  have hI := hJ.1
  have hM := hJ.2.1
  have hE := hJ.2.2.1
  unfold EQn at hE
  have hIu := hI
  unfold IC at hIu
  obtain ⟨n0, n1, n8, n17, n29, n39, n44, -⟩ := id hM
  refine r_aload_n C 2 dL_law_403 rfl rfl ?_
  refine r_aload_n C 3 dL_law_404 rfl rfl ?_
  refine r_iload_n C 0 dL_law_405 rfl rfl ?_
  refine r_iconst C (1) dL_law_406 (by decide) ?_
  refine r_iadd C dL_law_407 ?_
  refine r_nm (P := fun z => z.toInt = i.toInt + 1) ((ta_add (by rw [k_1]; omega)).trans (by rw [k_1])) (fun z_1 hz_2 => ?_)
  refine r_sld C hX (by omega) a1 (by rw [← h1, show z_1.toInt.toNat = nn + 1 from by omega]) dL_law_408 ?_
  refine r_aload_n C 3 dL_law_409 rfl rfl ?_
  refine r_iload_n C 0 dL_law_410 rfl rfl ?_
  refine r_iconst C (2) dL_law_411 (by decide) ?_
  refine r_iadd C dL_law_412 ?_
  refine r_nm (P := fun z => z.toInt = i.toInt + 2) ((ta_add (by rw [k_2]; omega)).trans (by rw [k_2])) (fun z_3 hz_4 => ?_)
  refine r_sld C hX (by omega) a2 (by rw [← h2, show z_3.toInt.toNat = nn + 2 from by omega]) dL_law_413 ?_
  refine r_callV C (k := 0) [.int (a1), .int (a2)] [] (c_X8_barriers E ad σ  (a1) (a2) hI) lv_L_38 (by decide) rfl rfl (by decide) (by decide) rfl rfl (Nat.le_of_ble_eq_true rfl) dL_law_414 (fun r_5 τ_6 h_7 => ?_)
  obtain ⟨eh_7, h_7⟩ := h_7
  obtain rfl := eh_7.symm
  have hM1 := hM
  refine r_pop C dL_law_417 rfl ?_
  refine r_aload_n C 1 dL_law_418 rfl rfl ?_
  refine r_aload_n C 3 dL_law_419 rfl rfl ?_
  refine r_iload_n C 0 dL_law_420 rfl rfl ?_
  refine r_iconst C (1) dL_law_421 (by decide) ?_
  refine r_iadd C dL_law_422 ?_
  refine r_nm (P := fun z => z.toInt = i.toInt + 1) ((ta_add (by rw [k_1]; omega)).trans (by rw [k_1])) (fun z_8 hz_9 => ?_)
  refine r_sld C hX (by omega) a1 (by rw [← h1, show z_8.toInt.toNat = nn + 1 from by omega]) dL_law_423 ?_
  refine r_aload_n C 3 dL_law_424 rfl rfl ?_
  refine r_iload_n C 0 dL_law_425 rfl rfl ?_
  refine r_iconst C (2) dL_law_426 (by decide) ?_
  refine r_iadd C dL_law_427 ?_
  refine r_nm (P := fun z => z.toInt = i.toInt + 2) ((ta_add (by rw [k_2]; omega)).trans (by rw [k_2])) (fun z_10 hz_11 => ?_)
  refine r_sld C hX (by omega) a2 (by rw [← h2, show z_10.toInt.toNat = nn + 2 from by omega]) dL_law_428 ?_
  refine r_callV C (k := 39) [.int (a1), .int (a2)] [] (c_X9_barriers E ad σ  (a1) (a2) hM1) lv_L_41 (by decide) rfl rfl (by decide) (by decide) rfl rfl (Nat.le_of_ble_eq_true rfl) dL_law_429 (fun r_12 τ_13 h_14 => ?_)
  have hJ1 : Rel τ_13 := Rel_off hJ h_14.1 (by decide)
  have hJ1 : Rel3 τ_13 := Rel3_off hJ3 hJ1 (h_14.1 5 (by decide)) (h_14.1 40 (by decide)) (h_14.1 41 (by decide)) (h_14.1 43 (by decide)) (by rw [h_14.1 39 (by decide)]) (by rw [h_14.1 39 (by decide)]; exact Int.le_refl _)
  refine r_pop C dL_law_432 rfl ?_
  refine r_goto C 1305 dL_law_433 (by decide) ?_
  exact K τ_13 hJ1
set_option maxHeartbeats 4000000 in
set_option maxRecDepth 100000 in
theorem case_6 {E : Ev} {ad : Nat → Nat} {G : Gm} {b Lx nn : Nat} {xs : Nat → Int32} (C : Cx E ad G RL cL_law 4 20) (hX : va_X b Lx xs (gS G) (gS G).heap ∧ b < (gS G).heap.size ∧ ¬ Aw ad b) (i a1 a2 a3 : Int32) (hi : i.toInt = nn) (hn : nn + 4 ≤ Lx) (hL : Lx ≤ 2048) (h1 : xs (nn + 1) = a1) (h2 : xs (nn + 2) = a2) (h3 : xs (nn + 3) = a3) (σ : Sg) (hJ : Rel3 σ) (K : ∀ τ : Sg, Rel3 τ → At E ad G 4 1305 [(3, .int (i)), (2, .ref (ad 39)), (1, .ref (ad 0)), (0, .ref (b))] [] τ) : At E ad G 4 436 [(3, .int (i)), (2, .ref (ad 39)), (1, .ref (ad 0)), (0, .ref (b))] [] σ := by
  have k_0 : (0 : Int32).toInt = 0 := by decide
  have k_1 : (1 : Int32).toInt = 1 := by decide
  have k_2 : (2 : Int32).toInt = 2 := by decide
  have k_3 : (3 : Int32).toInt = 3 := by decide
  have hJ3 := hJ
  replace hJ := hJ.1
  have hI := hJ.1
  have hM := hJ.2.1
  have hE := hJ.2.2.1
  unfold EQn at hE
  have hIu := hI
  unfold IC at hIu
  obtain ⟨n0, n1, n8, n17, n29, n39, n44, -⟩ := id hM
  refine r_aload_n C 2 dL_law_436 rfl rfl ?_
  refine r_aload_n C 3 dL_law_437 rfl rfl ?_
  refine r_iload_n C 0 dL_law_438 rfl rfl ?_
  refine r_iconst C (1) dL_law_439 (by decide) ?_
  refine r_iadd C dL_law_440 ?_
  refine r_nm (P := fun z => z.toInt = i.toInt + 1) ((ta_add (by rw [k_1]; omega)).trans (by rw [k_1])) (fun z_1 hz_2 => ?_)
  refine r_sld C hX (by omega) a1 (by rw [← h1, show z_1.toInt.toNat = nn + 1 from by omega]) dL_law_441 ?_
  refine r_aload_n C 3 dL_law_442 rfl rfl ?_
  refine r_iload_n C 0 dL_law_443 rfl rfl ?_
  refine r_iconst C (2) dL_law_444 (by decide) ?_
  refine r_iadd C dL_law_445 ?_
  refine r_nm (P := fun z => z.toInt = i.toInt + 2) ((ta_add (by rw [k_2]; omega)).trans (by rw [k_2])) (fun z_3 hz_4 => ?_)
  refine r_sld C hX (by omega) a2 (by rw [← h2, show z_3.toInt.toNat = nn + 2 from by omega]) dL_law_446 ?_
  refine r_callV C (k := 0) [.int (a1), .int (a2)] [] (c_X8_apart E ad σ  (a1) (a2) hI) lv_L_42 (by decide) rfl rfl (by decide) (by decide) rfl rfl (Nat.le_of_ble_eq_true rfl) dL_law_447 (fun r_5 τ_6 h_7 => ?_)
  obtain ⟨eh_7, h_7⟩ := h_7
  obtain rfl := eh_7.symm
  have hM1 := hM
  refine r_aload_n C 1 dL_law_450 rfl rfl ?_
  refine r_aload_n C 3 dL_law_451 rfl rfl ?_
  refine r_iload_n C 0 dL_law_452 rfl rfl ?_
  refine r_iconst C (1) dL_law_453 (by decide) ?_
  refine r_iadd C dL_law_454 ?_
  refine r_nm (P := fun z => z.toInt = i.toInt + 1) ((ta_add (by rw [k_1]; omega)).trans (by rw [k_1])) (fun z_8 hz_9 => ?_)
  refine r_sld C hX (by omega) a1 (by rw [← h1, show z_8.toInt.toNat = nn + 1 from by omega]) dL_law_455 ?_
  refine r_aload_n C 3 dL_law_456 rfl rfl ?_
  refine r_iload_n C 0 dL_law_457 rfl rfl ?_
  refine r_iconst C (2) dL_law_458 (by decide) ?_
  refine r_iadd C dL_law_459 ?_
  refine r_nm (P := fun z => z.toInt = i.toInt + 2) ((ta_add (by rw [k_2]; omega)).trans (by rw [k_2])) (fun z_10 hz_11 => ?_)
  refine r_sld C hX (by omega) a2 (by rw [← h2, show z_10.toInt.toNat = nn + 2 from by omega]) dL_law_460 ?_
  refine r_callV C (k := 39) [.int (a1), .int (a2)] [.int (r_5)] (c_X9_apart E ad σ  (a1) (a2) hM1) lv_L_45 (by decide) rfl rfl (by decide) (by decide) rfl rfl (Nat.le_of_ble_eq_true rfl) dL_law_461 (fun r_12 τ_13 h_14 => ?_)
  obtain ⟨-, -, -, -, -, -, -, cA, cB, -⟩ := id hM
  have hJ1 : Rel τ_13 := Rel_off hJ h_14.1 (by decide)
  have eqr : (r_5 : Int32).toInt = (r_12 : Int32).toInt := by
    by_cases v : 0 ≤ a1.toInt ∧ a1.toInt < 10 ∧ 0 ≤ a2.toInt ∧ a2.toInt < 10
    · obtain ⟨g, g1, g2, g3⟩ := h_14.2.2.2 hJ3.2.2 v
      have t := h_7.2.2 (σ 40) (σ 41) g v ⟨fun k hk => ⟨hJ3.2.1 k (by omega), cA k (by omega), cB k (by omega)⟩, by rw [hE.2.1]; exact g1, g2, by omega⟩
      rw [t, g3]
    · exact (h_7.1 v).trans (h_14.2.1 v).symm
  have hJ1 : Rel3 τ_13 := Rel3_off hJ3 hJ1 (h_14.1 5 (by decide)) (h_14.1 40 (by decide)) (h_14.1 41 (by decide)) (h_14.1 43 (by decide)) (by rw [h_14.1 39 (by decide)]) (by rw [h_14.1 39 (by decide)]; exact Int.le_refl _)
  refine r_icmp_eq C 1305 dL_law_464 (by decide) (fun _ => ?_) (fun hq => absurd eqr hq)
  exact K τ_13 hJ1
set_option maxHeartbeats 4000000 in
set_option maxRecDepth 100000 in
theorem case_7 {E : Ev} {ad : Nat → Nat} {G : Gm} {b Lx nn : Nat} {xs : Nat → Int32} (C : Cx E ad G RL cL_law 4 20) (hX : va_X b Lx xs (gS G) (gS G).heap ∧ b < (gS G).heap.size ∧ ¬ Aw ad b) (i a1 a2 a3 : Int32) (hi : i.toInt = nn) (hn : nn + 4 ≤ Lx) (hL : Lx ≤ 2048) (h1 : xs (nn + 1) = a1) (h2 : xs (nn + 2) = a2) (h3 : xs (nn + 3) = a3) (σ : Sg) (hJ : Rel3 σ) (K : ∀ τ : Sg, Rel3 τ → At E ad G 4 1305 [(3, .int (i)), (2, .ref (ad 39)), (1, .ref (ad 0)), (0, .ref (b))] [] τ) : At E ad G 4 469 [(3, .int (i)), (2, .ref (ad 39)), (1, .ref (ad 0)), (0, .ref (b))] [] σ := by
  have k_0 : (0 : Int32).toInt = 0 := by decide
  have k_1 : (1 : Int32).toInt = 1 := by decide
  have k_2 : (2 : Int32).toInt = 2 := by decide
  have k_3 : (3 : Int32).toInt = 3 := by decide
  have hJ3 := hJ
  replace hJ := hJ.1
  have hI := hJ.1
  have hM := hJ.2.1
  have hE := hJ.2.2.1
  unfold EQn at hE
  have hIu := hI
  unfold IC at hIu
  obtain ⟨n0, n1, n8, n17, n29, n39, n44, -⟩ := id hM
  refine r_aload_n C 2 dL_law_469 rfl rfl ?_
  refine r_aload_n C 3 dL_law_470 rfl rfl ?_
  refine r_iload_n C 0 dL_law_471 rfl rfl ?_
  refine r_iconst C (1) dL_law_472 (by decide) ?_
  refine r_iadd C dL_law_473 ?_
  refine r_nm (P := fun z => z.toInt = i.toInt + 1) ((ta_add (by rw [k_1]; omega)).trans (by rw [k_1])) (fun z_1 hz_2 => ?_)
  refine r_sld C hX (by omega) a1 (by rw [← h1, show z_1.toInt.toNat = nn + 1 from by omega]) dL_law_474 ?_
  refine r_callV C (k := 0) [.int (a1)] [] (c_X8_go E ad σ  (a1) hI) lv_L_46 (by decide) rfl rfl (by decide) (by decide) rfl rfl (Nat.le_of_ble_eq_true rfl) dL_law_475 (fun r_3 τ_4 h_5 => ?_)
  have hK1 : ∀ k, 39 ≤ k → τ_4 k = σ k := by
    rcases h_5 with h | h
    · exact fun k _ => by rw [h.2.2]
    · exact keepO h.2.2.1 (by decide)
  have hM1 := IMc hK1 hM
  refine r_pop C dL_law_478 rfl ?_
  refine r_aload_n C 1 dL_law_479 rfl rfl ?_
  refine r_aload_n C 3 dL_law_480 rfl rfl ?_
  refine r_iload_n C 0 dL_law_481 rfl rfl ?_
  refine r_iconst C (1) dL_law_482 (by decide) ?_
  refine r_iadd C dL_law_483 ?_
  refine r_nm (P := fun z => z.toInt = i.toInt + 1) ((ta_add (by rw [k_1]; omega)).trans (by rw [k_1])) (fun z_6 hz_7 => ?_)
  refine r_sld C hX (by omega) a1 (by rw [← h1, show z_6.toInt.toNat = nn + 1 from by omega]) dL_law_484 ?_
  refine r_callV C (k := 39) [.int (a1)] [] (c_X9_go E ad τ_4  (a1) hM1) lv_L_49 (by decide) rfl rfl (by decide) (by decide) rfl rfl (Nat.le_of_ble_eq_true rfl) dL_law_485 (fun r_8 τ_9 h_10 => ?_)
  have hJ2 : Rel τ_9 ∧ (r_3 : Int32).toInt = (r_8 : Int32).toInt := by
    have e1 : (τ_4 39 0).toInt = (σ 39 0).toInt := by rw [hK1 39 (by omega)]
    rcases h_5 with h | h <;> rcases h_10 with g | g <;> try omega
    · exact ⟨by rw [g.2.2, h.2.2]; exact hJ, by omega⟩
    · refine ⟨?_, by omega⟩
      have oa : Off [0, 30, 31, 39, 62, 63] σ τ_9 := ((h.2.2.1).to (by decide)).tr ((g.2.2.1).to (by decide)) (fun _ q => q)
      have q39 : τ_4 39 = σ 39 := h.2.2.1 39 (by decide)
      have m8 : (τ_9 39 8).toInt = (σ 39 8).toInt := by rw [g.2.2.2.2 8 (by decide), q39]
      have m29 : (τ_9 39 29).toInt = (σ 39 29).toInt := by rw [g.2.2.2.2 29 (by decide), q39]
      have m39 : (τ_9 39 39).toInt = (σ 39 39).toInt := by rw [g.2.2.2.2 39 (by decide), q39]
      have m44 : (τ_9 39 44).toInt = (σ 39 44).toInt := by rw [g.2.2.2.2 44 (by decide), q39]
      have w0_8 : (τ_9 0 8).toInt = (τ_4 0 8).toInt := by rw [g.2.2.1 0 (by decide)]
      have w9_6 : (τ_9 9 6).toInt = (σ 9 6).toInt := by rw [oa 9 (by decide)]
      have w27_1 : (τ_9 27 1).toInt = (σ 27 1).toInt := by rw [oa 27 (by decide)]
      have w32_3 : (τ_9 32 3).toInt = (σ 32 3).toInt := by rw [oa 32 (by decide)]
      have w32_5 : (τ_9 32 5).toInt = (σ 32 5).toInt := by rw [oa 32 (by decide)]
      have v0 : (τ_4 39 0).toInt = (σ 39 0).toInt := by rw [q39]
      have x1 := h.2.2.2
      have y1 := g.2.2.2.1
      exact Rel_nums hJ oa (by decide) (by rw [g.2.2.2.2 1 (by decide), q39]) (by rw [g.2.2.2.2 17 (by decide), q39]) (by omega) (by omega) (by omega) (by omega) (by omega) (by omega) (by omega) (by omega) (by omega) (by omega)
  have hJ1 := hJ2.1
  have eqr := hJ2.2
  have kc : τ_4 5 = σ 5 := by
    rcases h_5 with h | h
    · rw [h.2.2]
    · exact h.2.2.1 5 (by decide)
  have km : τ_9 5 = τ_4 5 ∧ τ_9 40 = τ_4 40 ∧ τ_9 41 = τ_4 41 ∧ τ_9 43 = τ_4 43 ∧ (τ_9 39 1).toInt = (τ_4 39 1).toInt ∧ (τ_4 39 0).toInt ≤ (τ_9 39 0).toInt := by
    rcases h_10 with g | g
    · rw [g.2.2]; exact ⟨rfl, rfl, rfl, rfl, rfl, Int.le_refl _⟩
    · exact ⟨g.2.2.1 5 (by decide), g.2.2.1 40 (by decide), g.2.2.1 41 (by decide), g.2.2.1 43 (by decide), by rw [g.2.2.2.2 1 (by decide)], by have t := g.2.2.2.1; have t2 := g.1; omega⟩
  have hJ1 : Rel3 τ_9 := Rel3_off hJ3 hJ1 (km.1.trans kc) (km.2.1.trans (hK1 40 (by omega))) (km.2.2.1.trans (hK1 41 (by omega))) (km.2.2.2.1.trans (hK1 43 (by omega))) (by rw [km.2.2.2.2.1, hK1 39 (by omega)]) (by have t := km.2.2.2.2.2; rw [hK1 39 (by omega)] at t; exact t)
  refine r_pop C dL_law_488 rfl ?_
  refine r_goto C 1305 dL_law_489 (by decide) ?_
  exact K τ_9 hJ1
set_option maxHeartbeats 4000000 in
set_option maxRecDepth 100000 in
theorem case_8 {E : Ev} {ad : Nat → Nat} {G : Gm} {b Lx nn : Nat} {xs : Nat → Int32} (C : Cx E ad G RL cL_law 4 20) (hX : va_X b Lx xs (gS G) (gS G).heap ∧ b < (gS G).heap.size ∧ ¬ Aw ad b) (i a1 a2 a3 : Int32) (hi : i.toInt = nn) (hn : nn + 4 ≤ Lx) (hL : Lx ≤ 2048) (h1 : xs (nn + 1) = a1) (h2 : xs (nn + 2) = a2) (h3 : xs (nn + 3) = a3) (σ : Sg) (hJ : Rel3 σ) (K : ∀ τ : Sg, Rel3 τ → At E ad G 4 1305 [(3, .int (i)), (2, .ref (ad 39)), (1, .ref (ad 0)), (0, .ref (b))] [] τ) : At E ad G 4 492 [(3, .int (i)), (2, .ref (ad 39)), (1, .ref (ad 0)), (0, .ref (b))] [] σ := by
  have k_0 : (0 : Int32).toInt = 0 := by decide
  have k_1 : (1 : Int32).toInt = 1 := by decide
  have k_2 : (2 : Int32).toInt = 2 := by decide
  have k_3 : (3 : Int32).toInt = 3 := by decide
  have hJ3 := hJ
  replace hJ := hJ.1
  have hI := hJ.1
  have hM := hJ.2.1
  have hE := hJ.2.2.1
  unfold EQn at hE
  have hIu := hI
  unfold IC at hIu
  obtain ⟨n0, n1, n8, n17, n29, n39, n44, -⟩ := id hM
  refine r_aload_n C 2 dL_law_492 rfl rfl ?_
  refine r_aload_n C 3 dL_law_493 rfl rfl ?_
  refine r_iload_n C 0 dL_law_494 rfl rfl ?_
  refine r_iconst C (1) dL_law_495 (by decide) ?_
  refine r_iadd C dL_law_496 ?_
  refine r_nm (P := fun z => z.toInt = i.toInt + 1) ((ta_add (by rw [k_1]; omega)).trans (by rw [k_1])) (fun z_1 hz_2 => ?_)
  refine r_sld C hX (by omega) a1 (by rw [← h1, show z_1.toInt.toNat = nn + 1 from by omega]) dL_law_497 ?_
  refine r_i2l C dL_law_498 ?_
  refine r_bipush C (32) dL_law_499 (by decide) ?_
  refine r_lshl C dL_law_501 ?_
  refine r_aload_n C 3 dL_law_502 rfl rfl ?_
  refine r_iload_n C 0 dL_law_503 rfl rfl ?_
  refine r_iconst C (2) dL_law_504 (by decide) ?_
  refine r_iadd C dL_law_505 ?_
  refine r_nm (P := fun z => z.toInt = i.toInt + 2) ((ta_add (by rw [k_2]; omega)).trans (by rw [k_2])) (fun z_3 hz_4 => ?_)
  refine r_sld C hX (by omega) a2 (by rw [← h2, show z_3.toInt.toNat = nn + 2 from by omega]) dL_law_506 ?_
  refine r_i2l C dL_law_507 ?_
  refine r_ldc2 C (4294967295) kc_L_50 dL_law_508 ?_
  refine r_land C dL_law_511 ?_
  refine r_lor C dL_law_512 ?_
  refine r_aload_n C 3 dL_law_513 rfl rfl ?_
  refine r_iload_n C 0 dL_law_514 rfl rfl ?_
  refine r_iconst C (3) dL_law_515 (by decide) ?_
  refine r_iadd C dL_law_516 ?_
  refine r_nm (P := fun z => z.toInt = i.toInt + 3) ((ta_add (by rw [k_3]; omega)).trans (by rw [k_3])) (fun z_5 hz_6 => ?_)
  refine r_sld C hX (by omega) a3 (by rw [← h3, show z_5.toInt.toNat = nn + 3 from by omega]) dL_law_517 ?_
  refine r_callV C (k := 0) [.long ((((a1 : Int32).toInt64 : Int64) <<< ((32 : Int32).toInt64 &&& 63) : Int64) ||| (((a2 : Int32).toInt64 : Int64) &&& (4294967295))), .int (a3)] [] (c_X8_feed E ad σ  ((((a1 : Int32).toInt64 : Int64) <<< ((32 : Int32).toInt64 &&& 63) : Int64) ||| (((a2 : Int32).toInt64 : Int64) &&& (4294967295))) (a3) hI) lv_L_52 (by decide) rfl rfl (by decide) (by decide) rfl rfl (Nat.le_of_ble_eq_true rfl) dL_law_518 (fun r_7 τ_8 h_9 => ?_)
  have hK1 : ∀ k, 39 ≤ k → τ_8 k = σ k := by
    rcases h_9 with h | h | h
    · exact fun k _ => by rw [h.2.2]
    · exact fun k _ => by rw [h.2.2.2]
    · exact keepO h.2.2.2.1 (by decide)
  have hM1 := IMc hK1 hM
  refine r_pop C dL_law_521 rfl ?_
  refine r_aload_n C 1 dL_law_522 rfl rfl ?_
  refine r_aload_n C 3 dL_law_523 rfl rfl ?_
  refine r_iload_n C 0 dL_law_524 rfl rfl ?_
  refine r_iconst C (1) dL_law_525 (by decide) ?_
  refine r_iadd C dL_law_526 ?_
  refine r_nm (P := fun z => z.toInt = i.toInt + 1) ((ta_add (by rw [k_1]; omega)).trans (by rw [k_1])) (fun z_10 hz_11 => ?_)
  refine r_sld C hX (by omega) a1 (by rw [← h1, show z_10.toInt.toNat = nn + 1 from by omega]) dL_law_527 ?_
  refine r_i2l C dL_law_528 ?_
  refine r_bipush C (32) dL_law_529 (by decide) ?_
  refine r_lshl C dL_law_531 ?_
  refine r_aload_n C 3 dL_law_532 rfl rfl ?_
  refine r_iload_n C 0 dL_law_533 rfl rfl ?_
  refine r_iconst C (2) dL_law_534 (by decide) ?_
  refine r_iadd C dL_law_535 ?_
  refine r_nm (P := fun z => z.toInt = i.toInt + 2) ((ta_add (by rw [k_2]; omega)).trans (by rw [k_2])) (fun z_12 hz_13 => ?_)
  refine r_sld C hX (by omega) a2 (by rw [← h2, show z_12.toInt.toNat = nn + 2 from by omega]) dL_law_536 ?_
  refine r_i2l C dL_law_537 ?_
  refine r_ldc2 C (4294967295) kc_L_50 dL_law_538 ?_
  refine r_land C dL_law_541 ?_
  refine r_lor C dL_law_542 ?_
  refine r_aload_n C 3 dL_law_543 rfl rfl ?_
  refine r_iload_n C 0 dL_law_544 rfl rfl ?_
  refine r_iconst C (3) dL_law_545 (by decide) ?_
  refine r_iadd C dL_law_546 ?_
  refine r_nm (P := fun z => z.toInt = i.toInt + 3) ((ta_add (by rw [k_3]; omega)).trans (by rw [k_3])) (fun z_14 hz_15 => ?_)
  refine r_sld C hX (by omega) a3 (by rw [← h3, show z_14.toInt.toNat = nn + 3 from by omega]) dL_law_547 ?_
  refine r_callV C (k := 39) [.long ((((a1 : Int32).toInt64 : Int64) <<< ((32 : Int32).toInt64 &&& 63) : Int64) ||| (((a2 : Int32).toInt64 : Int64) &&& (4294967295))), .int (a3)] [] (c_X9_feed E ad τ_8  ((((a1 : Int32).toInt64 : Int64) <<< ((32 : Int32).toInt64 &&& 63) : Int64) ||| (((a2 : Int32).toInt64 : Int64) &&& (4294967295))) (a3) hM1) lv_L_56 (by decide) rfl rfl (by decide) (by decide) rfl rfl (Nat.le_of_ble_eq_true rfl) dL_law_548 (fun r_16 τ_17 h_18 => ?_)
  have hJ2 : Rel τ_17 ∧ (r_7 : Int32).toInt = (r_16 : Int32).toInt := by
    have e1 : (τ_8 39 29).toInt = (σ 39 29).toInt := by rw [hK1 39 (by omega)]
    rcases h_9 with h | h | h <;> rcases h_18 with g | g | g <;> try omega
    · exact ⟨by rw [g.2.2, h.2.2]; exact hJ, by omega⟩
    · exact ⟨by rw [g.2.2.2, h.2.2.2]; exact hJ, by omega⟩
    · refine ⟨?_, by omega⟩
      have oa : Off [27, 28, 39, 64] σ τ_17 := ((h.2.2.2.1).to (by decide)).tr ((g.2.2.2.1).to (by decide)) (fun _ q => q)
      have q39 : τ_8 39 = σ 39 := h.2.2.2.1 39 (by decide)
      have m0 : (τ_17 39 0).toInt = (σ 39 0).toInt := by rw [g.2.2.2.2.2 0 (by decide), q39]
      have m8 : (τ_17 39 8).toInt = (σ 39 8).toInt := by rw [g.2.2.2.2.2 8 (by decide), q39]
      have m39 : (τ_17 39 39).toInt = (σ 39 39).toInt := by rw [g.2.2.2.2.2 39 (by decide), q39]
      have m44 : (τ_17 39 44).toInt = (σ 39 44).toInt := by rw [g.2.2.2.2.2 44 (by decide), q39]
      have w0_8 : (τ_17 0 8).toInt = (σ 0 8).toInt := by rw [oa 0 (by decide)]
      have w9_6 : (τ_17 9 6).toInt = (σ 9 6).toInt := by rw [oa 9 (by decide)]
      have w27_1 : (τ_17 27 1).toInt = (τ_8 27 1).toInt := by rw [g.2.2.2.1 27 (by decide)]
      have w32_3 : (τ_17 32 3).toInt = (σ 32 3).toInt := by rw [oa 32 (by decide)]
      have w32_5 : (τ_17 32 5).toInt = (σ 32 5).toInt := by rw [oa 32 (by decide)]
      have v29 : (τ_8 39 29).toInt = (σ 39 29).toInt := by rw [q39]
      have x1 := h.2.2.2.2
      have y1 := g.2.2.2.2.1
      exact Rel_nums hJ oa (by decide) (by rw [g.2.2.2.2.2 1 (by decide), q39]) (by rw [g.2.2.2.2.2 17 (by decide), q39]) (by omega) (by omega) (by omega) (by omega) (by omega) (by omega) (by omega) (by omega) (by omega) (by omega)
  have hJ1 := hJ2.1
  have eqr := hJ2.2
  have kc : τ_8 5 = σ 5 := by
    rcases h_9 with h | h | h
    · rw [h.2.2]
    · rw [h.2.2.2]
    · exact h.2.2.2.1 5 (by decide)
  have km : τ_17 5 = τ_8 5 ∧ τ_17 40 = τ_8 40 ∧ τ_17 41 = τ_8 41 ∧ τ_17 43 = τ_8 43 ∧ (τ_17 39 1).toInt = (τ_8 39 1).toInt ∧ (τ_8 39 0).toInt ≤ (τ_17 39 0).toInt := by
    rcases h_18 with g | g | g
    · rw [g.2.2]; exact ⟨rfl, rfl, rfl, rfl, rfl, Int.le_refl _⟩
    · rw [g.2.2.2]; exact ⟨rfl, rfl, rfl, rfl, rfl, Int.le_refl _⟩
    · exact ⟨g.2.2.2.1 5 (by decide), g.2.2.2.1 40 (by decide), g.2.2.2.1 41 (by decide), g.2.2.2.1 43 (by decide), by rw [g.2.2.2.2.2 1 (by decide)], by rw [g.2.2.2.2.2 0 (by decide)]; exact Int.le_refl _⟩
  have hJ1 : Rel3 τ_17 := Rel3_off hJ3 hJ1 (km.1.trans kc) (km.2.1.trans (hK1 40 (by omega))) (km.2.2.1.trans (hK1 41 (by omega))) (km.2.2.2.1.trans (hK1 43 (by omega))) (by rw [km.2.2.2.2.1, hK1 39 (by omega)]) (by have t := km.2.2.2.2.2; rw [hK1 39 (by omega)] at t; exact t)
  refine r_pop C dL_law_551 rfl ?_
  refine r_goto C 1305 dL_law_552 (by decide) ?_
  exact K τ_17 hJ1
set_option maxHeartbeats 4000000 in
set_option maxRecDepth 100000 in
theorem case_9 {E : Ev} {ad : Nat → Nat} {G : Gm} {b Lx nn : Nat} {xs : Nat → Int32} (C : Cx E ad G RL cL_law 4 20) (hX : va_X b Lx xs (gS G) (gS G).heap ∧ b < (gS G).heap.size ∧ ¬ Aw ad b) (i a1 a2 a3 : Int32) (hi : i.toInt = nn) (hn : nn + 4 ≤ Lx) (hL : Lx ≤ 2048) (h1 : xs (nn + 1) = a1) (h2 : xs (nn + 2) = a2) (h3 : xs (nn + 3) = a3) (σ : Sg) (hJ : Rel3 σ) (K : ∀ τ : Sg, Rel3 τ → At E ad G 4 1305 [(3, .int (i)), (2, .ref (ad 39)), (1, .ref (ad 0)), (0, .ref (b))] [] τ) : At E ad G 4 555 [(3, .int (i)), (2, .ref (ad 39)), (1, .ref (ad 0)), (0, .ref (b))] [] σ := by
  have k_0 : (0 : Int32).toInt = 0 := by decide
  have k_1 : (1 : Int32).toInt = 1 := by decide
  have k_2 : (2 : Int32).toInt = 2 := by decide
  have k_3 : (3 : Int32).toInt = 3 := by decide
  have hJ3 := hJ
  replace hJ := hJ.1
  have hI := hJ.1
  have hM := hJ.2.1
  have hE := hJ.2.2.1
  unfold EQn at hE
  have hIu := hI
  unfold IC at hIu
  obtain ⟨n0, n1, n8, n17, n29, n39, n44, -⟩ := id hM
  refine r_aload_n C 2 dL_law_555 rfl rfl ?_
  refine r_callV C (k := 0) [] [] (c_X8_rule E ad σ   hI) lv_L_57 (by decide) rfl rfl (by decide) (by decide) rfl rfl (Nat.le_of_ble_eq_true rfl) dL_law_556 (fun r_1 τ_2 h_3 => ?_)
  have hK1 : ∀ k, 39 ≤ k → τ_2 k = σ k := by
    exact keepO h_3.1 (by decide)
  have hM1 := IMc hK1 hM
  refine r_pop C dL_law_559 rfl ?_
  refine r_aload_n C 1 dL_law_560 rfl rfl ?_
  refine r_callV C (k := 39) [] [] (c_X9_rule E ad τ_2   hM1) lv_L_61 (by decide) rfl rfl (by decide) (by decide) rfl rfl (Nat.le_of_ble_eq_true rfl) dL_law_561 (fun r_4 τ_5 h_6 => ?_)
  have hJ1 : Rel τ_5 := by
    have oa : Off [9, 10, 11, 12, 13, 14, 15, 27, 39, 46, 47, 48, 49, 50, 51] σ τ_5 := ((h_3.1).to (by decide)).tr ((h_6.1).to (by decide)) (fun _ q => q)
    have q39 : τ_2 39 = σ 39 := h_3.1 39 (by decide)
    have m0 : (τ_5 39 0).toInt = (σ 39 0).toInt := by rw [h_6.2.1 0 (by omega), q39]
    have m39 : (τ_5 39 39).toInt = (σ 39 39).toInt := by rw [h_6.2.1 39 (by omega), q39]
    have m44 : (τ_5 39 44).toInt = (σ 39 44).toInt := by rw [h_6.2.1 44 (by omega), q39]
    have w0_8 : (τ_5 0 8).toInt = (σ 0 8).toInt := by rw [oa 0 (by decide)]
    have w9_6 : (τ_5 9 6).toInt = (τ_2 9 6).toInt := by rw [h_6.1 9 (by decide)]
    have w27_1 : (τ_5 27 1).toInt = (τ_2 27 1).toInt := by rw [h_6.1 27 (by decide)]
    have w32_3 : (τ_5 32 3).toInt = (σ 32 3).toInt := by rw [oa 32 (by decide)]
    have w32_5 : (τ_5 32 5).toInt = (σ 32 5).toInt := by rw [oa 32 (by decide)]
    have v8 : (τ_2 39 8).toInt = (σ 39 8).toInt := by rw [q39]
    have v29 : (τ_2 39 29).toInt = (σ 39 29).toInt := by rw [q39]
    have x1 := h_3.2.1
    have x2 := h_3.2.2.1
    have y1 := h_6.2.2.1
    have y2 := h_6.2.2.2.1
    exact Rel_nums hJ oa (by decide) (by rw [h_6.2.1 1 (by omega), q39]) (by rw [h_6.2.1 17 (by omega), q39]) (by omega) (by omega) (by omega) (by omega) (by omega) (by omega) (by omega) (by omega) (by omega) (by omega)
  have hJ1 : Rel3 τ_5 := Rel3_off hJ3 hJ1 ((h_6.1 5 (by decide)).trans (h_3.1 5 (by decide))) ((h_6.1 40 (by decide)).trans (h_3.1 40 (by decide))) ((h_6.1 41 (by decide)).trans (h_3.1 41 (by decide))) ((h_6.1 43 (by decide)).trans (h_3.1 43 (by decide))) (by rw [h_6.2.1 1 (by omega), h_3.1 39 (by decide)]) (by rw [h_6.2.1 0 (by omega), h_3.1 39 (by decide)]; exact Int.le_refl _)
  refine r_pop C dL_law_564 rfl ?_
  refine r_goto C 1305 dL_law_565 (by decide) ?_
  exact K τ_5 hJ1
