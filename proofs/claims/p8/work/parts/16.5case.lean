set_option maxHeartbeats 4000000 in
set_option maxRecDepth 100000 in
theorem case_30 {E : Ev} {ad : Nat → Nat} {G : Gm} {b Lx nn : Nat} {xs : Nat → Int32} (C : Cx E ad G RL cL_law 4 20) (hX : va_X b Lx xs (gS G) (gS G).heap ∧ b < (gS G).heap.size ∧ ¬ Aw ad b) (i a1 a2 a3 : Int32) (hi : i.toInt = nn) (hn : nn + 4 ≤ Lx) (hL : Lx ≤ 2048) (h1 : xs (nn + 1) = a1) (h2 : xs (nn + 2) = a2) (h3 : xs (nn + 3) = a3) (σ : Sg) (hJ : Rel3 σ) (K : ∀ τ : Sg, Rel3 τ → At E ad G 4 1305 [(3, .int (i)), (2, .ref (ad 39)), (1, .ref (ad 0)), (0, .ref (b))] [] τ) : At E ad G 4 1144 [(3, .int (i)), (2, .ref (ad 39)), (1, .ref (ad 0)), (0, .ref (b))] [] σ := by
  have k_0 : (0 : Int32).toInt = 0 := by decide
  have k_1 : (1 : Int32).toInt = 1 := by decide
  have k_2 : (2 : Int32).toInt = 2 := by decide
  have k_3 : (3 : Int32).toInt = 3 := by decide
  have hJ3 := hJ
  replace hJ := hJ.1
  have hI := hJ.1
  have hM := hJ.2.1
  have hE := hJ.2.2.1
  unfold EQn at hE
  have hIu := hI
  unfold IC at hIu
  obtain ⟨n0, n1, n8, n17, n29, n39, n44, -⟩ := id hM
  refine r_aload_n C 2 dL_law_1144 rfl rfl ?_
  refine r_callV C (k := 0) [] [] (c_X8_order E ad σ   hI) lv_L_142 (by decide) rfl rfl (by decide) (by decide) rfl rfl (Nat.le_of_ble_eq_true rfl) dL_law_1145 (fun r_1 τ_2 h_3 => ?_)
  have hK1 : ∀ k, 39 ≤ k → τ_2 k = σ k := by
    exact keepO h_3.1 (by decide)
  have hM1 := IMc hK1 hM
  refine r_pop C dL_law_1148 rfl ?_
  refine r_aload_n C 1 dL_law_1149 rfl rfl ?_
  refine r_callV C (k := 39) [] [] (c_X9_order E ad τ_2   hM1) lv_L_145 (by decide) rfl rfl (by decide) (by decide) rfl rfl (Nat.le_of_ble_eq_true rfl) dL_law_1150 (fun r_4 τ_5 h_6 => ?_)
  have hJ1 : Rel τ_5 := by
    have oa : Off [32, 33, 34, 35, 36, 37, 38, 39, 66, 67, 68, 69] σ τ_5 := ((h_3.1).to (by decide)).tr ((h_6.1).to (by decide)) (fun _ q => q)
    have q39 : τ_2 39 = σ 39 := h_3.1 39 (by decide)
    have m0 : (τ_5 39 0).toInt = (σ 39 0).toInt := by rw [h_6.2.1 0 (by decide), q39]
    have m8 : (τ_5 39 8).toInt = (σ 39 8).toInt := by rw [h_6.2.1 8 (by decide), q39]
    have m29 : (τ_5 39 29).toInt = (σ 39 29).toInt := by rw [h_6.2.1 29 (by decide), q39]
    have w0_8 : (τ_5 0 8).toInt = (σ 0 8).toInt := by rw [oa 0 (by decide)]
    have w9_6 : (τ_5 9 6).toInt = (σ 9 6).toInt := by rw [oa 9 (by decide)]
    have w27_1 : (τ_5 27 1).toInt = (σ 27 1).toInt := by rw [oa 27 (by decide)]
    have w32_3 : (τ_5 32 3).toInt = (τ_2 32 3).toInt := by rw [h_6.1 32 (by decide)]
    have w32_5 : (τ_5 32 5).toInt = (τ_2 32 5).toInt := by rw [h_6.1 32 (by decide)]
    have v39 : (τ_2 39 39).toInt = (σ 39 39).toInt := by rw [q39]
    have v44 : (τ_2 39 44).toInt = (σ 39 44).toInt := by rw [q39]
    have x1 := h_3.2.1
    have x2 := h_3.2.2.1
    have y1 := h_6.2.2.1
    obtain ⟨x, _, y2⟩ := h_6.2.2.2.1
    have y3 := tri_7 (cn_le x 7)
    exact Rel_nums hJ oa (by decide) (by rw [h_6.2.1 1 (by decide), q39]) (by rw [h_6.2.1 17 (by decide), q39]) (by omega) (by omega) (by omega) (by omega) (by omega) (by omega) (by omega) (by omega) (by omega) (by omega)
  have hJ1 : Rel3 τ_5 := Rel3_off hJ3 hJ1 ((h_6.1 5 (by decide)).trans (h_3.1 5 (by decide))) ((h_6.1 40 (by decide)).trans (h_3.1 40 (by decide))) ((h_6.1 41 (by decide)).trans (h_3.1 41 (by decide))) ((h_6.1 43 (by decide)).trans (h_3.1 43 (by decide))) (by rw [h_6.2.1 1 (by decide), h_3.1 39 (by decide)]) (by rw [h_6.2.1 0 (by decide), h_3.1 39 (by decide)]; exact Int.le_refl _)
  refine r_pop C dL_law_1153 rfl ?_
  refine r_goto C 1305 dL_law_1154 (by decide) ?_
  exact K τ_5 hJ1
set_option maxHeartbeats 4000000 in
set_option maxRecDepth 100000 in
theorem case_31 {E : Ev} {ad : Nat → Nat} {G : Gm} {b Lx nn : Nat} {xs : Nat → Int32} (C : Cx E ad G RL cL_law 4 20) (hX : va_X b Lx xs (gS G) (gS G).heap ∧ b < (gS G).heap.size ∧ ¬ Aw ad b) (i a1 a2 a3 : Int32) (hi : i.toInt = nn) (hn : nn + 4 ≤ Lx) (hL : Lx ≤ 2048) (h1 : xs (nn + 1) = a1) (h2 : xs (nn + 2) = a2) (h3 : xs (nn + 3) = a3) (σ : Sg) (hJ : Rel3 σ) (K : ∀ τ : Sg, Rel3 τ → At E ad G 4 1305 [(3, .int (i)), (2, .ref (ad 39)), (1, .ref (ad 0)), (0, .ref (b))] [] τ) : At E ad G 4 1157 [(3, .int (i)), (2, .ref (ad 39)), (1, .ref (ad 0)), (0, .ref (b))] [] σ := by
  have k_0 : (0 : Int32).toInt = 0 := by decide
  have k_1 : (1 : Int32).toInt = 1 := by decide
  have k_2 : (2 : Int32).toInt = 2 := by decide
  have k_3 : (3 : Int32).toInt = 3 := by decide
  have hJ3 := hJ
  replace hJ := hJ.1
  have hI := hJ.1
  have hM := hJ.2.1
  have hE := hJ.2.2.1
  unfold EQn at hE
  have hIu := hI
  unfold IC at hIu
  obtain ⟨n0, n1, n8, n17, n29, n39, n44, -⟩ := id hM
  refine r_aload_n C 2 dL_law_1157 rfl rfl ?_
  refine r_aload_n C 3 dL_law_1158 rfl rfl ?_
  refine r_iload_n C 0 dL_law_1159 rfl rfl ?_
  refine r_iconst C (1) dL_law_1160 (by decide) ?_
  refine r_iadd C dL_law_1161 ?_
  refine r_nm (P := fun z => z.toInt = i.toInt + 1) ((ta_add (by rw [k_1]; omega)).trans (by rw [k_1])) (fun z_1 hz_2 => ?_)
  refine r_sld C hX (by omega) a1 (by rw [← h1, show z_1.toInt.toNat = nn + 1 from by omega]) dL_law_1162 ?_
  refine r_callV C (k := 0) [.int (a1)] [] (c_X8_ordered E ad σ  (a1) hI) lv_L_146 (by decide) rfl rfl (by decide) (by decide) rfl rfl (Nat.le_of_ble_eq_true rfl) dL_law_1163 (fun r_3 τ_4 h_5 => ?_)
  obtain ⟨eh_5, h_5⟩ := h_5
  obtain rfl := eh_5.symm
  have hM1 := hM
  refine r_pop C dL_law_1166 rfl ?_
  refine r_aload_n C 1 dL_law_1167 rfl rfl ?_
  refine r_aload_n C 3 dL_law_1168 rfl rfl ?_
  refine r_iload_n C 0 dL_law_1169 rfl rfl ?_
  refine r_iconst C (1) dL_law_1170 (by decide) ?_
  refine r_iadd C dL_law_1171 ?_
  refine r_nm (P := fun z => z.toInt = i.toInt + 1) ((ta_add (by rw [k_1]; omega)).trans (by rw [k_1])) (fun z_6 hz_7 => ?_)
  refine r_sld C hX (by omega) a1 (by rw [← h1, show z_6.toInt.toNat = nn + 1 from by omega]) dL_law_1172 ?_
  refine r_callV C (k := 39) [.int (a1)] [] (c_X9_ordered E ad σ  (a1) hM1) lv_L_149 (by decide) rfl rfl (by decide) (by decide) rfl rfl (Nat.le_of_ble_eq_true rfl) dL_law_1173 (fun r_8 τ_9 h_10 => ?_)
  obtain ⟨eh_10, h_10⟩ := h_10
  obtain rfl := eh_10.symm
  have hJ1 := hJ
  have hJ1 : Rel3 σ := hJ3
  refine r_pop C dL_law_1176 rfl ?_
  refine r_goto C 1305 dL_law_1177 (by decide) ?_
  exact K σ hJ1
set_option maxHeartbeats 4000000 in
set_option maxRecDepth 100000 in
theorem case_32 {E : Ev} {ad : Nat → Nat} {G : Gm} {b Lx nn : Nat} {xs : Nat → Int32} (C : Cx E ad G RL cL_law 4 20) (hX : va_X b Lx xs (gS G) (gS G).heap ∧ b < (gS G).heap.size ∧ ¬ Aw ad b) (i a1 a2 a3 : Int32) (hi : i.toInt = nn) (hn : nn + 4 ≤ Lx) (hL : Lx ≤ 2048) (h1 : xs (nn + 1) = a1) (h2 : xs (nn + 2) = a2) (h3 : xs (nn + 3) = a3) (σ : Sg) (hJ : Rel3 σ) (K : ∀ τ : Sg, Rel3 τ → At E ad G 4 1305 [(3, .int (i)), (2, .ref (ad 39)), (1, .ref (ad 0)), (0, .ref (b))] [] τ) : At E ad G 4 1180 [(3, .int (i)), (2, .ref (ad 39)), (1, .ref (ad 0)), (0, .ref (b))] [] σ := by
  have k_0 : (0 : Int32).toInt = 0 := by decide
  have k_1 : (1 : Int32).toInt = 1 := by decide
  have k_2 : (2 : Int32).toInt = 2 := by decide
  have k_3 : (3 : Int32).toInt = 3 := by decide
  have hJ3 := hJ
  replace hJ := hJ.1
  have hI := hJ.1
  have hM := hJ.2.1
  have hE := hJ.2.2.1
  unfold EQn at hE
  have hIu := hI
  unfold IC at hIu
  obtain ⟨n0, n1, n8, n17, n29, n39, n44, -⟩ := id hM
  refine r_aload_n C 2 dL_law_1180 rfl rfl ?_
  refine r_aload_n C 3 dL_law_1181 rfl rfl ?_
  refine r_iload_n C 0 dL_law_1182 rfl rfl ?_
  refine r_iconst C (1) dL_law_1183 (by decide) ?_
  refine r_iadd C dL_law_1184 ?_
  refine r_nm (P := fun z => z.toInt = i.toInt + 1) ((ta_add (by rw [k_1]; omega)).trans (by rw [k_1])) (fun z_1 hz_2 => ?_)
  refine r_sld C hX (by omega) a1 (by rw [← h1, show z_1.toInt.toNat = nn + 1 from by omega]) dL_law_1185 ?_
  refine r_aload_n C 3 dL_law_1186 rfl rfl ?_
  refine r_iload_n C 0 dL_law_1187 rfl rfl ?_
  refine r_iconst C (2) dL_law_1188 (by decide) ?_
  refine r_iadd C dL_law_1189 ?_
  refine r_nm (P := fun z => z.toInt = i.toInt + 2) ((ta_add (by rw [k_2]; omega)).trans (by rw [k_2])) (fun z_3 hz_4 => ?_)
  refine r_sld C hX (by omega) a2 (by rw [← h2, show z_3.toInt.toNat = nn + 2 from by omega]) dL_law_1190 ?_
  refine r_callV C (k := 0) [.int (a1), .int (a2)] [] (c_X8_row E ad σ  (a1) (a2) hI) lv_L_150 (by decide) rfl rfl (by decide) (by decide) rfl rfl (Nat.le_of_ble_eq_true rfl) dL_law_1191 (fun r_5 τ_6 h_7 => ?_)
  obtain ⟨eh_7, h_7⟩ := h_7
  obtain rfl := eh_7.symm
  have hM1 := hM
  refine r_pop C dL_law_1194 rfl ?_
  refine r_aload_n C 1 dL_law_1195 rfl rfl ?_
  refine r_aload_n C 3 dL_law_1196 rfl rfl ?_
  refine r_iload_n C 0 dL_law_1197 rfl rfl ?_
  refine r_iconst C (1) dL_law_1198 (by decide) ?_
  refine r_iadd C dL_law_1199 ?_
  refine r_nm (P := fun z => z.toInt = i.toInt + 1) ((ta_add (by rw [k_1]; omega)).trans (by rw [k_1])) (fun z_8 hz_9 => ?_)
  refine r_sld C hX (by omega) a1 (by rw [← h1, show z_8.toInt.toNat = nn + 1 from by omega]) dL_law_1200 ?_
  refine r_aload_n C 3 dL_law_1201 rfl rfl ?_
  refine r_iload_n C 0 dL_law_1202 rfl rfl ?_
  refine r_iconst C (2) dL_law_1203 (by decide) ?_
  refine r_iadd C dL_law_1204 ?_
  refine r_nm (P := fun z => z.toInt = i.toInt + 2) ((ta_add (by rw [k_2]; omega)).trans (by rw [k_2])) (fun z_10 hz_11 => ?_)
  refine r_sld C hX (by omega) a2 (by rw [← h2, show z_10.toInt.toNat = nn + 2 from by omega]) dL_law_1205 ?_
  refine r_callV C (k := 39) [.int (a1), .int (a2)] [] (c_X9_row E ad σ  (a1) (a2) hM1) lv_L_153 (by decide) rfl rfl (by decide) (by decide) rfl rfl (Nat.le_of_ble_eq_true rfl) dL_law_1206 (fun r_12 τ_13 h_14 => ?_)
  obtain ⟨eh_14, h_14⟩ := h_14
  obtain rfl := eh_14.symm
  have hJ1 := hJ
  have hJ1 : Rel3 σ := hJ3
  refine r_pop C dL_law_1209 rfl ?_
  refine r_goto C 1305 dL_law_1210 (by decide) ?_
  exact K σ hJ1
set_option maxHeartbeats 4000000 in
set_option maxRecDepth 100000 in
theorem case_33 {E : Ev} {ad : Nat → Nat} {G : Gm} {b Lx nn : Nat} {xs : Nat → Int32} (C : Cx E ad G RL cL_law 4 20) (hX : va_X b Lx xs (gS G) (gS G).heap ∧ b < (gS G).heap.size ∧ ¬ Aw ad b) (i a1 a2 a3 : Int32) (hi : i.toInt = nn) (hn : nn + 4 ≤ Lx) (hL : Lx ≤ 2048) (h1 : xs (nn + 1) = a1) (h2 : xs (nn + 2) = a2) (h3 : xs (nn + 3) = a3) (σ : Sg) (hJ : Rel3 σ) (K : ∀ τ : Sg, Rel3 τ → At E ad G 4 1305 [(3, .int (i)), (2, .ref (ad 39)), (1, .ref (ad 0)), (0, .ref (b))] [] τ) : At E ad G 4 1213 [(3, .int (i)), (2, .ref (ad 39)), (1, .ref (ad 0)), (0, .ref (b))] [] σ := by
  have k_0 : (0 : Int32).toInt = 0 := by decide
  have k_1 : (1 : Int32).toInt = 1 := by decide
  have k_2 : (2 : Int32).toInt = 2 := by decide
  have k_3 : (3 : Int32).toInt = 3 := by decide
  have hJ3 := hJ
  replace hJ := hJ.1
  have hI := hJ.1
  have hM := hJ.2.1
  have hE := hJ.2.2.1
  unfold EQn at hE
  have hIu := hI
  unfold IC at hIu
  obtain ⟨n0, n1, n8, n17, n29, n39, n44, -⟩ := id hM
  refine r_aload_n C 2 dL_law_1213 rfl rfl ?_
  refine r_aload_n C 3 dL_law_1214 rfl rfl ?_
  refine r_iload_n C 0 dL_law_1215 rfl rfl ?_
  refine r_iconst C (1) dL_law_1216 (by decide) ?_
  refine r_iadd C dL_law_1217 ?_
  refine r_nm (P := fun z => z.toInt = i.toInt + 1) ((ta_add (by rw [k_1]; omega)).trans (by rw [k_1])) (fun z_1 hz_2 => ?_)
  refine r_sld C hX (by omega) a1 (by rw [← h1, show z_1.toInt.toNat = nn + 1 from by omega]) dL_law_1218 ?_
  refine r_aload_n C 3 dL_law_1219 rfl rfl ?_
  refine r_iload_n C 0 dL_law_1220 rfl rfl ?_
  refine r_iconst C (2) dL_law_1221 (by decide) ?_
  refine r_iadd C dL_law_1222 ?_
  refine r_nm (P := fun z => z.toInt = i.toInt + 2) ((ta_add (by rw [k_2]; omega)).trans (by rw [k_2])) (fun z_3 hz_4 => ?_)
  refine r_sld C hX (by omega) a2 (by rw [← h2, show z_3.toInt.toNat = nn + 2 from by omega]) dL_law_1223 ?_
  refine r_aload_n C 3 dL_law_1224 rfl rfl ?_
  refine r_iload_n C 0 dL_law_1225 rfl rfl ?_
  refine r_iconst C (3) dL_law_1226 (by decide) ?_
  refine r_iadd C dL_law_1227 ?_
  refine r_nm (P := fun z => z.toInt = i.toInt + 3) ((ta_add (by rw [k_3]; omega)).trans (by rw [k_3])) (fun z_5 hz_6 => ?_)
  refine r_sld C hX (by omega) a3 (by rw [← h3, show z_5.toInt.toNat = nn + 3 from by omega]) dL_law_1228 ?_
  refine r_callV C (k := 0) [.int (a1), .int (a2), .int (a3)] [] (c_X8_alter E ad σ  (a1) (a2) (a3) hI) lv_L_154 (by decide) rfl rfl (by decide) (by decide) rfl rfl (Nat.le_of_ble_eq_true rfl) dL_law_1229 (fun r_7 τ_8 h_9 => ?_)
  have hK1 : ∀ k, 39 ≤ k → τ_8 k = σ k := by
    exact keepO h_9.1 (by decide)
  have hM1 := IMc hK1 hM
  refine r_pop C dL_law_1232 rfl ?_
  refine r_aload_n C 1 dL_law_1233 rfl rfl ?_
  refine r_aload_n C 3 dL_law_1234 rfl rfl ?_
  refine r_iload_n C 0 dL_law_1235 rfl rfl ?_
  refine r_iconst C (1) dL_law_1236 (by decide) ?_
  refine r_iadd C dL_law_1237 ?_
  refine r_nm (P := fun z => z.toInt = i.toInt + 1) ((ta_add (by rw [k_1]; omega)).trans (by rw [k_1])) (fun z_10 hz_11 => ?_)
  refine r_sld C hX (by omega) a1 (by rw [← h1, show z_10.toInt.toNat = nn + 1 from by omega]) dL_law_1238 ?_
  refine r_aload_n C 3 dL_law_1239 rfl rfl ?_
  refine r_iload_n C 0 dL_law_1240 rfl rfl ?_
  refine r_iconst C (2) dL_law_1241 (by decide) ?_
  refine r_iadd C dL_law_1242 ?_
  refine r_nm (P := fun z => z.toInt = i.toInt + 2) ((ta_add (by rw [k_2]; omega)).trans (by rw [k_2])) (fun z_12 hz_13 => ?_)
  refine r_sld C hX (by omega) a2 (by rw [← h2, show z_12.toInt.toNat = nn + 2 from by omega]) dL_law_1243 ?_
  refine r_aload_n C 3 dL_law_1244 rfl rfl ?_
  refine r_iload_n C 0 dL_law_1245 rfl rfl ?_
  refine r_iconst C (3) dL_law_1246 (by decide) ?_
  refine r_iadd C dL_law_1247 ?_
  refine r_nm (P := fun z => z.toInt = i.toInt + 3) ((ta_add (by rw [k_3]; omega)).trans (by rw [k_3])) (fun z_14 hz_15 => ?_)
  refine r_sld C hX (by omega) a3 (by rw [← h3, show z_14.toInt.toNat = nn + 3 from by omega]) dL_law_1248 ?_
  refine r_callV C (k := 39) [.int (a1), .int (a2), .int (a3)] [] (c_X9_alter E ad τ_8  (a1) (a2) (a3) hM1) lv_L_157 (by decide) rfl rfl (by decide) (by decide) rfl rfl (Nat.le_of_ble_eq_true rfl) dL_law_1249 (fun r_16 τ_17 h_18 => ?_)
  have hJ1 : Rel τ_17 := Rel_two hJ h_9.1 h_18.1 (by decide)
  have hJ1 : Rel3 τ_17 := Rel3_off hJ3 hJ1 ((h_18.1 5 (by decide)).trans (h_9.1 5 (by decide))) ((h_18.1 40 (by decide)).trans (h_9.1 40 (by decide))) ((h_18.1 41 (by decide)).trans (h_9.1 41 (by decide))) ((h_18.1 43 (by decide)).trans (h_9.1 43 (by decide))) (by rw [h_18.1 39 (by decide), h_9.1 39 (by decide)]) (by rw [h_18.1 39 (by decide), h_9.1 39 (by decide)]; exact Int.le_refl _)
  refine r_pop C dL_law_1252 rfl ?_
  refine r_goto C 1305 dL_law_1253 (by decide) ?_
  exact K τ_17 hJ1
set_option maxHeartbeats 4000000 in
set_option maxRecDepth 100000 in
theorem case_34 {E : Ev} {ad : Nat → Nat} {G : Gm} {b Lx nn : Nat} {xs : Nat → Int32} (C : Cx E ad G RL cL_law 4 20) (hX : va_X b Lx xs (gS G) (gS G).heap ∧ b < (gS G).heap.size ∧ ¬ Aw ad b) (i a1 a2 a3 : Int32) (hi : i.toInt = nn) (hn : nn + 4 ≤ Lx) (hL : Lx ≤ 2048) (h1 : xs (nn + 1) = a1) (h2 : xs (nn + 2) = a2) (h3 : xs (nn + 3) = a3) (σ : Sg) (hJ : Rel3 σ) (K : ∀ τ : Sg, Rel3 τ → At E ad G 4 1305 [(3, .int (i)), (2, .ref (ad 39)), (1, .ref (ad 0)), (0, .ref (b))] [] τ) : At E ad G 4 1256 [(3, .int (i)), (2, .ref (ad 39)), (1, .ref (ad 0)), (0, .ref (b))] [] σ := by
  have k_0 : (0 : Int32).toInt = 0 := by decide
  have k_1 : (1 : Int32).toInt = 1 := by decide
  have k_2 : (2 : Int32).toInt = 2 := by decide
  have k_3 : (3 : Int32).toInt = 3 := by decide
  have hJ3 := hJ
  replace hJ := hJ.1
  have hI := hJ.1
  have hM := hJ.2.1
  have hE := hJ.2.2.1
  unfold EQn at hE
  have hIu := hI
  unfold IC at hIu
  obtain ⟨n0, n1, n8, n17, n29, n39, n44, -⟩ := id hM
  refine r_aload_n C 2 dL_law_1256 rfl rfl ?_
  refine r_callV C (k := 0) [] [] (c_X8_drop E ad σ   hI) lv_L_158 (by decide) rfl rfl (by decide) (by decide) rfl rfl (Nat.le_of_ble_eq_true rfl) dL_law_1257 (fun r_1 τ_2 h_3 => ?_)
  have hK1 : ∀ k, 39 ≤ k → τ_2 k = σ k := by
    exact keepO h_3.1 (by decide)
  have hM1 := IMc hK1 hM
  refine r_pop C dL_law_1260 rfl ?_
  refine r_aload_n C 1 dL_law_1261 rfl rfl ?_
  refine r_callV C (k := 39) [] [] (c_X9_drop E ad τ_2   hM1) lv_L_161 (by decide) rfl rfl (by decide) (by decide) rfl rfl (Nat.le_of_ble_eq_true rfl) dL_law_1262 (fun r_4 τ_5 h_6 => ?_)
  have hJ1 : Rel τ_5 := by
    have oa : Off [32, 39] σ τ_5 := ((h_3.1).to (by decide)).tr ((h_6.1).to (by decide)) (fun _ q => q)
    have q39 : τ_2 39 = σ 39 := h_3.1 39 (by decide)
    have m0 : (τ_5 39 0).toInt = (σ 39 0).toInt := by rw [h_6.2.1 0 (by decide), q39]
    have m8 : (τ_5 39 8).toInt = (σ 39 8).toInt := by rw [h_6.2.1 8 (by decide), q39]
    have m29 : (τ_5 39 29).toInt = (σ 39 29).toInt := by rw [h_6.2.1 29 (by decide), q39]
    have m39 : (τ_5 39 39).toInt = (σ 39 39).toInt := by rw [h_6.2.1 39 (by decide), q39]
    have w0_8 : (τ_5 0 8).toInt = (σ 0 8).toInt := by rw [oa 0 (by decide)]
    have w9_6 : (τ_5 9 6).toInt = (σ 9 6).toInt := by rw [oa 9 (by decide)]
    have w27_1 : (τ_5 27 1).toInt = (σ 27 1).toInt := by rw [oa 27 (by decide)]
    have w32_3 : (τ_5 32 3).toInt = (τ_2 32 3).toInt := by rw [h_6.1 32 (by decide)]
    have w32_5 : (τ_5 32 5).toInt = (τ_2 32 5).toInt := by rw [h_6.1 32 (by decide)]
    have v44 : (τ_2 39 44).toInt = (σ 39 44).toInt := by rw [q39]
    have w3 : (τ_2 32 3).toInt = (σ 32 3).toInt := by rw [h_3.2.1 3 (by decide)]
    have x1 := h_3.2.2
    have y1 := h_6.2.2
    have x2 : (τ_2 32 5).toInt = (σ 32 5).toInt ∨ (τ_2 32 5).toInt = (σ 32 5).toInt - 1 := by
      by_cases z : (σ 32 5).toInt = 0
      · exact Or.inl (by rw [(x1.1 z).2])
      · exact Or.inr (x1.2 z).2
    have y2 : (τ_5 39 44).toInt = (σ 39 44).toInt ∨ (τ_5 39 44).toInt = (σ 39 44).toInt - 1 := by
      by_cases z : (τ_2 39 44).toInt = 0
      · exact Or.inl (by rw [(y1.1 z).2]; exact v44)
      · exact Or.inr (by rw [(y1.2 z).2]; omega)
    have x3 : 0 ≤ (τ_2 32 5).toInt := by
      by_cases z : (σ 32 5).toInt = 0
      · rw [(x1.1 z).2]; omega
      · have t := (x1.2 z).2; omega
    have y3 : 0 ≤ (τ_5 39 44).toInt := by
      by_cases z : (τ_2 39 44).toInt = 0
      · rw [(y1.1 z).2]; omega
      · have t := (y1.2 z).2; omega
    exact Rel_nums hJ oa (by decide) (by rw [h_6.2.1 1 (by decide), q39]) (by rw [h_6.2.1 17 (by decide), q39]) (by omega) (by omega) (by omega) (by omega) (by omega) (by omega) (by omega) (by omega) (by omega) (by omega)
  have hJ1 : Rel3 τ_5 := Rel3_off hJ3 hJ1 ((h_6.1 5 (by decide)).trans (h_3.1 5 (by decide))) ((h_6.1 40 (by decide)).trans (h_3.1 40 (by decide))) ((h_6.1 41 (by decide)).trans (h_3.1 41 (by decide))) ((h_6.1 43 (by decide)).trans (h_3.1 43 (by decide))) (by rw [h_6.2.1 1 (by decide), h_3.1 39 (by decide)]) (by rw [h_6.2.1 0 (by decide), h_3.1 39 (by decide)]; exact Int.le_refl _)
  refine r_pop C dL_law_1265 rfl ?_
  refine r_goto C 1305 dL_law_1266 (by decide) ?_
  exact K τ_5 hJ1
set_option maxHeartbeats 4000000 in
set_option maxRecDepth 100000 in
theorem case_35 {E : Ev} {ad : Nat → Nat} {G : Gm} {b Lx nn : Nat} {xs : Nat → Int32} (C : Cx E ad G RL cL_law 4 20) (hX : va_X b Lx xs (gS G) (gS G).heap ∧ b < (gS G).heap.size ∧ ¬ Aw ad b) (i a1 a2 a3 : Int32) (hi : i.toInt = nn) (hn : nn + 4 ≤ Lx) (hL : Lx ≤ 2048) (h1 : xs (nn + 1) = a1) (h2 : xs (nn + 2) = a2) (h3 : xs (nn + 3) = a3) (σ : Sg) (hJ : Rel3 σ) (K : ∀ τ : Sg, Rel3 τ → At E ad G 4 1305 [(3, .int (i)), (2, .ref (ad 39)), (1, .ref (ad 0)), (0, .ref (b))] [] τ) : At E ad G 4 1269 [(3, .int (i)), (2, .ref (ad 39)), (1, .ref (ad 0)), (0, .ref (b))] [] σ := by
  have k_0 : (0 : Int32).toInt = 0 := by decide
  have k_1 : (1 : Int32).toInt = 1 := by decide
  have k_2 : (2 : Int32).toInt = 2 := by decide
  have k_3 : (3 : Int32).toInt = 3 := by decide
  have hJ3 := hJ
  replace hJ := hJ.1
  have hI := hJ.1
  have hM := hJ.2.1
  have hE := hJ.2.2.1
  unfold EQn at hE
  have hIu := hI
  unfold IC at hIu
  obtain ⟨n0, n1, n8, n17, n29, n39, n44, -⟩ := id hM
  refine r_aload_n C 2 dL_law_1269 rfl rfl ?_
  refine r_callV C (k := 0) [] [] (c_X8_check E ad σ   hI) lv_L_162 (by decide) rfl rfl (by decide) (by decide) rfl rfl (Nat.le_of_ble_eq_true rfl) dL_law_1270 (fun r_1 τ_2 h_3 => ?_)
  obtain ⟨eh_3, h_3⟩ := h_3
  obtain rfl := eh_3.symm
  have hM1 := hM
  refine r_pop C dL_law_1273 rfl ?_
  refine r_aload_n C 1 dL_law_1274 rfl rfl ?_
  refine r_callV C (k := 39) [] [] (c_X9_check E ad σ   hM1) lv_L_165 (by decide) rfl rfl (by decide) (by decide) rfl rfl (Nat.le_of_ble_eq_true rfl) dL_law_1275 (fun r_4 τ_5 h_6 => ?_)
  obtain ⟨eh_6, h_6⟩ := h_6
  obtain rfl := eh_6.symm
  have hJ1 := hJ
  have hJ1 : Rel3 σ := hJ3
  refine r_pop C dL_law_1278 rfl ?_
  refine r_goto C 1305 dL_law_1279 (by decide) ?_
  exact K σ hJ1
set_option maxHeartbeats 4000000 in
set_option maxRecDepth 100000 in
theorem case_36 {E : Ev} {ad : Nat → Nat} {G : Gm} {b Lx nn : Nat} {xs : Nat → Int32} (C : Cx E ad G RL cL_law 4 20) (hX : va_X b Lx xs (gS G) (gS G).heap ∧ b < (gS G).heap.size ∧ ¬ Aw ad b) (i a1 a2 a3 : Int32) (hi : i.toInt = nn) (hn : nn + 4 ≤ Lx) (hL : Lx ≤ 2048) (h1 : xs (nn + 1) = a1) (h2 : xs (nn + 2) = a2) (h3 : xs (nn + 3) = a3) (σ : Sg) (hJ : Rel3 σ) (K : ∀ τ : Sg, Rel3 τ → At E ad G 4 1305 [(3, .int (i)), (2, .ref (ad 39)), (1, .ref (ad 0)), (0, .ref (b))] [] τ) : At E ad G 4 1282 [(3, .int (i)), (2, .ref (ad 39)), (1, .ref (ad 0)), (0, .ref (b))] [] σ := by
  have k_0 : (0 : Int32).toInt = 0 := by decide
  have k_1 : (1 : Int32).toInt = 1 := by decide
  have k_2 : (2 : Int32).toInt = 2 := by decide
  have k_3 : (3 : Int32).toInt = 3 := by decide
  have hJ3 := hJ
  replace hJ := hJ.1
  have hI := hJ.1
  have hM := hJ.2.1
  have hE := hJ.2.2.1
  unfold EQn at hE
  have hIu := hI
  unfold IC at hIu
  obtain ⟨n0, n1, n8, n17, n29, n39, n44, -⟩ := id hM
  refine r_aload_n C 2 dL_law_1282 rfl rfl ?_
  refine r_aload_n C 3 dL_law_1283 rfl rfl ?_
  refine r_iload_n C 0 dL_law_1284 rfl rfl ?_
  refine r_iconst C (1) dL_law_1285 (by decide) ?_
  refine r_iadd C dL_law_1286 ?_
  refine r_nm (P := fun z => z.toInt = i.toInt + 1) ((ta_add (by rw [k_1]; omega)).trans (by rw [k_1])) (fun z_1 hz_2 => ?_)
  refine r_sld C hX (by omega) a1 (by rw [← h1, show z_1.toInt.toNat = nn + 1 from by omega]) dL_law_1287 ?_
  refine r_callV C (k := 0) [.int (a1)] [] (c_X8_many E ad σ  (a1) hI) lv_L_166 (by decide) rfl rfl (by decide) (by decide) rfl rfl (Nat.le_of_ble_eq_true rfl) dL_law_1288 (fun r_3 τ_4 h_5 => ?_)
  obtain ⟨eh_5, h_5⟩ := h_5
  obtain rfl := eh_5.symm
  have hM1 := hM
  refine r_pop C dL_law_1291 rfl ?_
  refine r_aload_n C 1 dL_law_1292 rfl rfl ?_
  refine r_aload_n C 3 dL_law_1293 rfl rfl ?_
  refine r_iload_n C 0 dL_law_1294 rfl rfl ?_
  refine r_iconst C (1) dL_law_1295 (by decide) ?_
  refine r_iadd C dL_law_1296 ?_
  refine r_nm (P := fun z => z.toInt = i.toInt + 1) ((ta_add (by rw [k_1]; omega)).trans (by rw [k_1])) (fun z_6 hz_7 => ?_)
  refine r_sld C hX (by omega) a1 (by rw [← h1, show z_6.toInt.toNat = nn + 1 from by omega]) dL_law_1297 ?_
  refine r_callV C (k := 39) [.int (a1)] [] (c_X9_many E ad σ  (a1) hM1) lv_L_169 (by decide) rfl rfl (by decide) (by decide) rfl rfl (Nat.le_of_ble_eq_true rfl) dL_law_1298 (fun r_8 τ_9 h_10 => ?_)
  obtain ⟨eh_10, h_10⟩ := h_10
  obtain rfl := eh_10.symm
  have hJ1 := hJ
  have hJ1 : Rel3 σ := hJ3
  refine r_pop C dL_law_1301 rfl ?_
  refine r_goto C 1305 dL_law_1302 (by decide) ?_
  exact K σ hJ1
