set_option maxHeartbeats 4000000 in
set_option maxRecDepth 100000 in
theorem case_30 {E : Ev} {ad : Nat → Nat} {G : Gm} {b Lx nn : Nat} {xs : Nat → Int32} (C : Cx E ad G RL cL_law 4 20) (hX : va_X b Lx xs (gS G) (gS G).heap ∧ b < (gS G).heap.size ∧ ¬ Aw ad b) (i a1 a2 a3 : Int32) (hi : i.toInt = nn) (hn : nn + 4 ≤ Lx) (hL : Lx ≤ 4) (h1 : xs (nn + 1) = a1) (h2 : xs (nn + 2) = a2) (h3 : xs (nn + 3) = a3) (σ : Sg) (hJ : FR σ) (K : ∀ τ : Sg, (fun _ : Sg => True) τ → At E ad G 4 1305 [(3, .int (i)), (2, .ref (ad 39)), (1, .ref (ad 0)), (0, .ref (b))] [] τ) : At E ad G 4 1144 [(3, .int (i)), (2, .ref (ad 39)), (1, .ref (ad 0)), (0, .ref (b))] [] σ := by
  have k_0 : (0 : Int32).toInt = 0 := by decide
  have k_1 : (1 : Int32).toInt = 1 := by decide
  have k_2 : (2 : Int32).toInt = 2 := by decide
  have k_3 : (3 : Int32).toInt = 3 := by decide
  obtain ⟨hI, hM, ⟨c1, c2, c3, c4, c5, c6, c7, c8, c9, c10, c11, c12, c13, c14⟩, hFM⟩ := hJ
  refine r_aload_n C 2 dL_law_1144 rfl rfl ?_
  refine r_callV C (k := 0) [] [] (c_X8_order E ad σ   hI) lv_L_142 (by decide) rfl rfl (by decide) (by decide) rfl rfl (Nat.le_of_ble_eq_true rfl) dL_law_1145 (fun r_1 τ_2 h_3 => ?_)
  have hK1 : ∀ k, 39 ≤ k → τ_2 k = σ k := by
    exact keepO h_3.1 (by decide)
  have hM1 := IMc hK1 hM
  have hF1 := FMc hK1 hFM
  obtain ⟨m1, m2, m3, m4, m5, m6, m7, m8, m9, m10, m11⟩ := hF1
  refine r_aload_n C 1 dL_law_1148 rfl rfl ?_
  refine r_callV C (k := 39) [] [.int (r_1)] (c_order0 E ad τ_2   hM1 m4) lv_L_145 (by decide) rfl rfl (by decide) (by decide) rfl rfl (Nat.le_of_ble_eq_true rfl) dL_law_1149 (fun r_4 τ_5 h_6 => ?_)
  have hJ1 : True := trivial
  have eqr : (r_1 : Int32).toInt = (r_4 : Int32).toInt := (h_3.2.2.2 c8).trans h_6.symm
  refine r_icmp_eq C 1305 dL_law_1152 (by decide) (fun _ => ?_) (fun hq => absurd eqr hq)
  exact K τ_5 hJ1
set_option maxHeartbeats 4000000 in
set_option maxRecDepth 100000 in
theorem case_31 {E : Ev} {ad : Nat → Nat} {G : Gm} {b Lx nn : Nat} {xs : Nat → Int32} (C : Cx E ad G RL cL_law 4 20) (hX : va_X b Lx xs (gS G) (gS G).heap ∧ b < (gS G).heap.size ∧ ¬ Aw ad b) (i a1 a2 a3 : Int32) (hi : i.toInt = nn) (hn : nn + 4 ≤ Lx) (hL : Lx ≤ 4) (h1 : xs (nn + 1) = a1) (h2 : xs (nn + 2) = a2) (h3 : xs (nn + 3) = a3) (σ : Sg) (hJ : FR σ) (K : ∀ τ : Sg, (fun _ : Sg => True) τ → At E ad G 4 1305 [(3, .int (i)), (2, .ref (ad 39)), (1, .ref (ad 0)), (0, .ref (b))] [] τ) : At E ad G 4 1157 [(3, .int (i)), (2, .ref (ad 39)), (1, .ref (ad 0)), (0, .ref (b))] [] σ := by
  have k_0 : (0 : Int32).toInt = 0 := by decide
  have k_1 : (1 : Int32).toInt = 1 := by decide
  have k_2 : (2 : Int32).toInt = 2 := by decide
  have k_3 : (3 : Int32).toInt = 3 := by decide
  obtain ⟨hI, hM, ⟨c1, c2, c3, c4, c5, c6, c7, c8, c9, c10, c11, c12, c13, c14⟩, hFM⟩ := hJ
  refine r_aload_n C 2 dL_law_1157 rfl rfl ?_
  refine r_aload_n C 3 dL_law_1158 rfl rfl ?_
  refine r_iload_n C 0 dL_law_1159 rfl rfl ?_
  refine r_iconst C (1) dL_law_1160 (by decide) ?_
  refine r_iadd C dL_law_1161 ?_
  refine r_nm (P := fun z => z.toInt = i.toInt + 1) ((ta_add (by rw [k_1]; omega)).trans (by rw [k_1])) (fun z_1 hz_2 => ?_)
  refine r_sld C hX (by omega) a1 (by rw [← h1, show z_1.toInt.toNat = nn + 1 from by omega]) dL_law_1162 ?_
  refine r_callV C (k := 0) [.int (a1)] [] (c_X8_ordered E ad σ  (a1) hI) lv_L_146 (by decide) rfl rfl (by decide) (by decide) rfl rfl (Nat.le_of_ble_eq_true rfl) dL_law_1163 (fun r_3 τ_4 h_5 => ?_)
  obtain ⟨eh_5, h_5⟩ := h_5
  obtain rfl := eh_5.symm
  have hM1 := hM
  have hF1 := hFM
  obtain ⟨m1, m2, m3, m4, m5, m6, m7, m8, m9, m10, m11⟩ := hF1
  refine r_aload_n C 1 dL_law_1166 rfl rfl ?_
  refine r_aload_n C 3 dL_law_1167 rfl rfl ?_
  refine r_iload_n C 0 dL_law_1168 rfl rfl ?_
  refine r_iconst C (1) dL_law_1169 (by decide) ?_
  refine r_iadd C dL_law_1170 ?_
  refine r_nm (P := fun z => z.toInt = i.toInt + 1) ((ta_add (by rw [k_1]; omega)).trans (by rw [k_1])) (fun z_6 hz_7 => ?_)
  refine r_sld C hX (by omega) a1 (by rw [← h1, show z_6.toInt.toNat = nn + 1 from by omega]) dL_law_1171 ?_
  refine r_callV C (k := 39) [.int (a1)] [.int (r_3)] (c_X9_ordered E ad σ  (a1) hM1) lv_L_149 (by decide) rfl rfl (by decide) (by decide) rfl rfl (Nat.le_of_ble_eq_true rfl) dL_law_1172 (fun r_8 τ_9 h_10 => ?_)
  obtain ⟨eh_10, h_10⟩ := h_10
  obtain rfl := eh_10.symm
  have hJ1 : True := trivial
  have eqr : (r_3 : Int32).toInt = (r_8 : Int32).toInt := (h_5 c12).trans (h_10 m6).symm
  refine r_icmp_eq C 1305 dL_law_1175 (by decide) (fun _ => ?_) (fun hq => absurd eqr hq)
  exact K σ hJ1
set_option maxHeartbeats 4000000 in
set_option maxRecDepth 100000 in
theorem case_32 {E : Ev} {ad : Nat → Nat} {G : Gm} {b Lx nn : Nat} {xs : Nat → Int32} (C : Cx E ad G RL cL_law 4 20) (hX : va_X b Lx xs (gS G) (gS G).heap ∧ b < (gS G).heap.size ∧ ¬ Aw ad b) (i a1 a2 a3 : Int32) (hi : i.toInt = nn) (hn : nn + 4 ≤ Lx) (hL : Lx ≤ 4) (h1 : xs (nn + 1) = a1) (h2 : xs (nn + 2) = a2) (h3 : xs (nn + 3) = a3) (σ : Sg) (hJ : FR σ) (K : ∀ τ : Sg, (fun _ : Sg => True) τ → At E ad G 4 1305 [(3, .int (i)), (2, .ref (ad 39)), (1, .ref (ad 0)), (0, .ref (b))] [] τ) : At E ad G 4 1180 [(3, .int (i)), (2, .ref (ad 39)), (1, .ref (ad 0)), (0, .ref (b))] [] σ := by
  have k_0 : (0 : Int32).toInt = 0 := by decide
  have k_1 : (1 : Int32).toInt = 1 := by decide
  have k_2 : (2 : Int32).toInt = 2 := by decide
  have k_3 : (3 : Int32).toInt = 3 := by decide
  obtain ⟨hI, hM, ⟨c1, c2, c3, c4, c5, c6, c7, c8, c9, c10, c11, c12, c13, c14⟩, hFM⟩ := hJ
  refine r_aload_n C 2 dL_law_1180 rfl rfl ?_
  refine r_aload_n C 3 dL_law_1181 rfl rfl ?_
  refine r_iload_n C 0 dL_law_1182 rfl rfl ?_
  refine r_iconst C (1) dL_law_1183 (by decide) ?_
  refine r_iadd C dL_law_1184 ?_
  refine r_nm (P := fun z => z.toInt = i.toInt + 1) ((ta_add (by rw [k_1]; omega)).trans (by rw [k_1])) (fun z_1 hz_2 => ?_)
  refine r_sld C hX (by omega) a1 (by rw [← h1, show z_1.toInt.toNat = nn + 1 from by omega]) dL_law_1185 ?_
  refine r_aload_n C 3 dL_law_1186 rfl rfl ?_
  refine r_iload_n C 0 dL_law_1187 rfl rfl ?_
  refine r_iconst C (2) dL_law_1188 (by decide) ?_
  refine r_iadd C dL_law_1189 ?_
  refine r_nm (P := fun z => z.toInt = i.toInt + 2) ((ta_add (by rw [k_2]; omega)).trans (by rw [k_2])) (fun z_3 hz_4 => ?_)
  refine r_sld C hX (by omega) a2 (by rw [← h2, show z_3.toInt.toNat = nn + 2 from by omega]) dL_law_1190 ?_
  refine r_callV C (k := 0) [.int (a1), .int (a2)] [] (c_X8_row E ad σ  (a1) (a2) hI) lv_L_150 (by decide) rfl rfl (by decide) (by decide) rfl rfl (Nat.le_of_ble_eq_true rfl) dL_law_1191 (fun r_5 τ_6 h_7 => ?_)
  obtain ⟨eh_7, h_7⟩ := h_7
  obtain rfl := eh_7.symm
  have hM1 := hM
  have hF1 := hFM
  obtain ⟨m1, m2, m3, m4, m5, m6, m7, m8, m9, m10, m11⟩ := hF1
  refine r_aload_n C 1 dL_law_1194 rfl rfl ?_
  refine r_aload_n C 3 dL_law_1195 rfl rfl ?_
  refine r_iload_n C 0 dL_law_1196 rfl rfl ?_
  refine r_iconst C (1) dL_law_1197 (by decide) ?_
  refine r_iadd C dL_law_1198 ?_
  refine r_nm (P := fun z => z.toInt = i.toInt + 1) ((ta_add (by rw [k_1]; omega)).trans (by rw [k_1])) (fun z_8 hz_9 => ?_)
  refine r_sld C hX (by omega) a1 (by rw [← h1, show z_8.toInt.toNat = nn + 1 from by omega]) dL_law_1199 ?_
  refine r_aload_n C 3 dL_law_1200 rfl rfl ?_
  refine r_iload_n C 0 dL_law_1201 rfl rfl ?_
  refine r_iconst C (2) dL_law_1202 (by decide) ?_
  refine r_iadd C dL_law_1203 ?_
  refine r_nm (P := fun z => z.toInt = i.toInt + 2) ((ta_add (by rw [k_2]; omega)).trans (by rw [k_2])) (fun z_10 hz_11 => ?_)
  refine r_sld C hX (by omega) a2 (by rw [← h2, show z_10.toInt.toNat = nn + 2 from by omega]) dL_law_1204 ?_
  refine r_callV C (k := 39) [.int (a1), .int (a2)] [.int (r_5)] (c_X9_row E ad σ  (a1) (a2) hM1) lv_L_153 (by decide) rfl rfl (by decide) (by decide) rfl rfl (Nat.le_of_ble_eq_true rfl) dL_law_1205 (fun r_12 τ_13 h_14 => ?_)
  obtain ⟨eh_14, h_14⟩ := h_14
  obtain rfl := eh_14.symm
  have hJ1 : True := trivial
  have eqr : (r_5 : Int32).toInt = (r_12 : Int32).toInt := by
    by_cases v : 0 ≤ a2.toInt ∧ a2.toInt < 3
    · exact ((h_7.2 c13) v).trans ((h_14.2 m8) v).symm
    · exact ((h_7.1) v).trans ((h_14.1) v).symm
  refine r_icmp_eq C 1305 dL_law_1208 (by decide) (fun _ => ?_) (fun hq => absurd eqr hq)
  exact K σ hJ1
set_option maxHeartbeats 4000000 in
set_option maxRecDepth 100000 in
theorem case_33 {E : Ev} {ad : Nat → Nat} {G : Gm} {b Lx nn : Nat} {xs : Nat → Int32} (C : Cx E ad G RL cL_law 4 20) (hX : va_X b Lx xs (gS G) (gS G).heap ∧ b < (gS G).heap.size ∧ ¬ Aw ad b) (i a1 a2 a3 : Int32) (hi : i.toInt = nn) (hn : nn + 4 ≤ Lx) (hL : Lx ≤ 4) (h1 : xs (nn + 1) = a1) (h2 : xs (nn + 2) = a2) (h3 : xs (nn + 3) = a3) (σ : Sg) (hJ : FR σ) (K : ∀ τ : Sg, (fun _ : Sg => True) τ → At E ad G 4 1305 [(3, .int (i)), (2, .ref (ad 39)), (1, .ref (ad 0)), (0, .ref (b))] [] τ) : At E ad G 4 1213 [(3, .int (i)), (2, .ref (ad 39)), (1, .ref (ad 0)), (0, .ref (b))] [] σ := by
  have k_0 : (0 : Int32).toInt = 0 := by decide
  have k_1 : (1 : Int32).toInt = 1 := by decide
  have k_2 : (2 : Int32).toInt = 2 := by decide
  have k_3 : (3 : Int32).toInt = 3 := by decide
  obtain ⟨hI, hM, ⟨c1, c2, c3, c4, c5, c6, c7, c8, c9, c10, c11, c12, c13, c14⟩, hFM⟩ := hJ
  refine r_aload_n C 2 dL_law_1213 rfl rfl ?_
  refine r_aload_n C 3 dL_law_1214 rfl rfl ?_
  refine r_iload_n C 0 dL_law_1215 rfl rfl ?_
  refine r_iconst C (1) dL_law_1216 (by decide) ?_
  refine r_iadd C dL_law_1217 ?_
  refine r_nm (P := fun z => z.toInt = i.toInt + 1) ((ta_add (by rw [k_1]; omega)).trans (by rw [k_1])) (fun z_1 hz_2 => ?_)
  refine r_sld C hX (by omega) a1 (by rw [← h1, show z_1.toInt.toNat = nn + 1 from by omega]) dL_law_1218 ?_
  refine r_aload_n C 3 dL_law_1219 rfl rfl ?_
  refine r_iload_n C 0 dL_law_1220 rfl rfl ?_
  refine r_iconst C (2) dL_law_1221 (by decide) ?_
  refine r_iadd C dL_law_1222 ?_
  refine r_nm (P := fun z => z.toInt = i.toInt + 2) ((ta_add (by rw [k_2]; omega)).trans (by rw [k_2])) (fun z_3 hz_4 => ?_)
  refine r_sld C hX (by omega) a2 (by rw [← h2, show z_3.toInt.toNat = nn + 2 from by omega]) dL_law_1223 ?_
  refine r_aload_n C 3 dL_law_1224 rfl rfl ?_
  refine r_iload_n C 0 dL_law_1225 rfl rfl ?_
  refine r_iconst C (3) dL_law_1226 (by decide) ?_
  refine r_iadd C dL_law_1227 ?_
  refine r_nm (P := fun z => z.toInt = i.toInt + 3) ((ta_add (by rw [k_3]; omega)).trans (by rw [k_3])) (fun z_5 hz_6 => ?_)
  refine r_sld C hX (by omega) a3 (by rw [← h3, show z_5.toInt.toNat = nn + 3 from by omega]) dL_law_1228 ?_
  refine r_callV C (k := 0) [.int (a1), .int (a2), .int (a3)] [] (c_X8_alter E ad σ  (a1) (a2) (a3) hI) lv_L_154 (by decide) rfl rfl (by decide) (by decide) rfl rfl (Nat.le_of_ble_eq_true rfl) dL_law_1229 (fun r_7 τ_8 h_9 => ?_)
  have hK1 : ∀ k, 39 ≤ k → τ_8 k = σ k := by
    exact keepO h_9.1 (by decide)
  have hM1 := IMc hK1 hM
  have hF1 := FMc hK1 hFM
  obtain ⟨m1, m2, m3, m4, m5, m6, m7, m8, m9, m10, m11⟩ := hF1
  refine r_aload_n C 1 dL_law_1232 rfl rfl ?_
  refine r_aload_n C 3 dL_law_1233 rfl rfl ?_
  refine r_iload_n C 0 dL_law_1234 rfl rfl ?_
  refine r_iconst C (1) dL_law_1235 (by decide) ?_
  refine r_iadd C dL_law_1236 ?_
  refine r_nm (P := fun z => z.toInt = i.toInt + 1) ((ta_add (by rw [k_1]; omega)).trans (by rw [k_1])) (fun z_10 hz_11 => ?_)
  refine r_sld C hX (by omega) a1 (by rw [← h1, show z_10.toInt.toNat = nn + 1 from by omega]) dL_law_1237 ?_
  refine r_aload_n C 3 dL_law_1238 rfl rfl ?_
  refine r_iload_n C 0 dL_law_1239 rfl rfl ?_
  refine r_iconst C (2) dL_law_1240 (by decide) ?_
  refine r_iadd C dL_law_1241 ?_
  refine r_nm (P := fun z => z.toInt = i.toInt + 2) ((ta_add (by rw [k_2]; omega)).trans (by rw [k_2])) (fun z_12 hz_13 => ?_)
  refine r_sld C hX (by omega) a2 (by rw [← h2, show z_12.toInt.toNat = nn + 2 from by omega]) dL_law_1242 ?_
  refine r_aload_n C 3 dL_law_1243 rfl rfl ?_
  refine r_iload_n C 0 dL_law_1244 rfl rfl ?_
  refine r_iconst C (3) dL_law_1245 (by decide) ?_
  refine r_iadd C dL_law_1246 ?_
  refine r_nm (P := fun z => z.toInt = i.toInt + 3) ((ta_add (by rw [k_3]; omega)).trans (by rw [k_3])) (fun z_14 hz_15 => ?_)
  refine r_sld C hX (by omega) a3 (by rw [← h3, show z_14.toInt.toNat = nn + 3 from by omega]) dL_law_1247 ?_
  refine r_callV C (k := 39) [.int (a1), .int (a2), .int (a3)] [.int (r_7)] (c_X9_alter E ad τ_8  (a1) (a2) (a3) hM1) lv_L_157 (by decide) rfl rfl (by decide) (by decide) rfl rfl (Nat.le_of_ble_eq_true rfl) dL_law_1248 (fun r_16 τ_17 h_18 => ?_)
  have hJ1 : True := trivial
  have eqr : (r_7 : Int32).toInt = (r_16 : Int32).toInt := by
    by_cases v : 0 ≤ a2.toInt ∧ a2.toInt < 3
    · exact ((h_9.2.2 c13) v).trans ((h_18.2.2 m8) v).symm
    · exact ((h_9.2.1) v).trans ((h_18.2.1) v).symm
  refine r_icmp_eq C 1305 dL_law_1251 (by decide) (fun _ => ?_) (fun hq => absurd eqr hq)
  exact K τ_17 hJ1
set_option maxHeartbeats 4000000 in
set_option maxRecDepth 100000 in
theorem case_34 {E : Ev} {ad : Nat → Nat} {G : Gm} {b Lx nn : Nat} {xs : Nat → Int32} (C : Cx E ad G RL cL_law 4 20) (hX : va_X b Lx xs (gS G) (gS G).heap ∧ b < (gS G).heap.size ∧ ¬ Aw ad b) (i a1 a2 a3 : Int32) (hi : i.toInt = nn) (hn : nn + 4 ≤ Lx) (hL : Lx ≤ 4) (h1 : xs (nn + 1) = a1) (h2 : xs (nn + 2) = a2) (h3 : xs (nn + 3) = a3) (σ : Sg) (hJ : FR σ) (K : ∀ τ : Sg, (fun _ : Sg => True) τ → At E ad G 4 1305 [(3, .int (i)), (2, .ref (ad 39)), (1, .ref (ad 0)), (0, .ref (b))] [] τ) : At E ad G 4 1256 [(3, .int (i)), (2, .ref (ad 39)), (1, .ref (ad 0)), (0, .ref (b))] [] σ := by
  have k_0 : (0 : Int32).toInt = 0 := by decide
  have k_1 : (1 : Int32).toInt = 1 := by decide
  have k_2 : (2 : Int32).toInt = 2 := by decide
  have k_3 : (3 : Int32).toInt = 3 := by decide
  obtain ⟨hI, hM, ⟨c1, c2, c3, c4, c5, c6, c7, c8, c9, c10, c11, c12, c13, c14⟩, hFM⟩ := hJ
  refine r_aload_n C 2 dL_law_1256 rfl rfl ?_
  refine r_callV C (k := 0) [] [] (c_X8_drop E ad σ   hI) lv_L_158 (by decide) rfl rfl (by decide) (by decide) rfl rfl (Nat.le_of_ble_eq_true rfl) dL_law_1257 (fun r_1 τ_2 h_3 => ?_)
  have hK1 : ∀ k, 39 ≤ k → τ_2 k = σ k := by
    exact keepO h_3.1 (by decide)
  have hM1 := IMc hK1 hM
  have hF1 := FMc hK1 hFM
  obtain ⟨m1, m2, m3, m4, m5, m6, m7, m8, m9, m10, m11⟩ := hF1
  refine r_aload_n C 1 dL_law_1260 rfl rfl ?_
  refine r_callV C (k := 39) [] [.int (r_1)] (c_X9_drop E ad τ_2   hM1) lv_L_161 (by decide) rfl rfl (by decide) (by decide) rfl rfl (Nat.le_of_ble_eq_true rfl) dL_law_1261 (fun r_4 τ_5 h_6 => ?_)
  have hJ1 : True := trivial
  have eqr : (r_1 : Int32).toInt = (r_4 : Int32).toInt := (h_3.2.2.1 c13).1.trans (h_6.2.2.1 m8).1.symm
  refine r_icmp_eq C 1305 dL_law_1264 (by decide) (fun _ => ?_) (fun hq => absurd eqr hq)
  exact K τ_5 hJ1
set_option maxHeartbeats 4000000 in
set_option maxRecDepth 100000 in
theorem case_35 {E : Ev} {ad : Nat → Nat} {G : Gm} {b Lx nn : Nat} {xs : Nat → Int32} (C : Cx E ad G RL cL_law 4 20) (hX : va_X b Lx xs (gS G) (gS G).heap ∧ b < (gS G).heap.size ∧ ¬ Aw ad b) (i a1 a2 a3 : Int32) (hi : i.toInt = nn) (hn : nn + 4 ≤ Lx) (hL : Lx ≤ 4) (h1 : xs (nn + 1) = a1) (h2 : xs (nn + 2) = a2) (h3 : xs (nn + 3) = a3) (σ : Sg) (hJ : FR σ) (K : ∀ τ : Sg, (fun _ : Sg => True) τ → At E ad G 4 1305 [(3, .int (i)), (2, .ref (ad 39)), (1, .ref (ad 0)), (0, .ref (b))] [] τ) : At E ad G 4 1269 [(3, .int (i)), (2, .ref (ad 39)), (1, .ref (ad 0)), (0, .ref (b))] [] σ := by
  have k_0 : (0 : Int32).toInt = 0 := by decide
  have k_1 : (1 : Int32).toInt = 1 := by decide
  have k_2 : (2 : Int32).toInt = 2 := by decide
  have k_3 : (3 : Int32).toInt = 3 := by decide
  obtain ⟨hI, hM, ⟨c1, c2, c3, c4, c5, c6, c7, c8, c9, c10, c11, c12, c13, c14⟩, hFM⟩ := hJ
  refine r_aload_n C 2 dL_law_1269 rfl rfl ?_
  refine r_callV C (k := 0) [] [] (c_X8_check E ad σ   hI) lv_L_162 (by decide) rfl rfl (by decide) (by decide) rfl rfl (Nat.le_of_ble_eq_true rfl) dL_law_1270 (fun r_1 τ_2 h_3 => ?_)
  obtain ⟨eh_3, h_3⟩ := h_3
  obtain rfl := eh_3.symm
  have hM1 := hM
  have hF1 := hFM
  obtain ⟨m1, m2, m3, m4, m5, m6, m7, m8, m9, m10, m11⟩ := hF1
  refine r_aload_n C 1 dL_law_1273 rfl rfl ?_
  refine r_callV C (k := 39) [] [.int (r_1)] (c_X9_check E ad σ   hM1) lv_L_165 (by decide) rfl rfl (by decide) (by decide) rfl rfl (Nat.le_of_ble_eq_true rfl) dL_law_1274 (fun r_4 τ_5 h_6 => ?_)
  obtain ⟨eh_6, h_6⟩ := h_6
  obtain rfl := eh_6.symm
  have hJ1 : True := trivial
  have eqr : (r_1 : Int32).toInt = (r_4 : Int32).toInt := (h_3 c14).trans (h_6 m7).symm
  refine r_icmp_eq C 1305 dL_law_1277 (by decide) (fun _ => ?_) (fun hq => absurd eqr hq)
  exact K σ hJ1
set_option maxHeartbeats 4000000 in
set_option maxRecDepth 100000 in
theorem case_36 {E : Ev} {ad : Nat → Nat} {G : Gm} {b Lx nn : Nat} {xs : Nat → Int32} (C : Cx E ad G RL cL_law 4 20) (hX : va_X b Lx xs (gS G) (gS G).heap ∧ b < (gS G).heap.size ∧ ¬ Aw ad b) (i a1 a2 a3 : Int32) (hi : i.toInt = nn) (hn : nn + 4 ≤ Lx) (hL : Lx ≤ 4) (h1 : xs (nn + 1) = a1) (h2 : xs (nn + 2) = a2) (h3 : xs (nn + 3) = a3) (σ : Sg) (hJ : FR σ) (K : ∀ τ : Sg, (fun _ : Sg => True) τ → At E ad G 4 1305 [(3, .int (i)), (2, .ref (ad 39)), (1, .ref (ad 0)), (0, .ref (b))] [] τ) : At E ad G 4 1282 [(3, .int (i)), (2, .ref (ad 39)), (1, .ref (ad 0)), (0, .ref (b))] [] σ := by
  have k_0 : (0 : Int32).toInt = 0 := by decide
  have k_1 : (1 : Int32).toInt = 1 := by decide
  have k_2 : (2 : Int32).toInt = 2 := by decide
  have k_3 : (3 : Int32).toInt = 3 := by decide
  obtain ⟨hI, hM, ⟨c1, c2, c3, c4, c5, c6, c7, c8, c9, c10, c11, c12, c13, c14⟩, hFM⟩ := hJ
  refine r_aload_n C 2 dL_law_1282 rfl rfl ?_
  refine r_aload_n C 3 dL_law_1283 rfl rfl ?_
  refine r_iload_n C 0 dL_law_1284 rfl rfl ?_
  refine r_iconst C (1) dL_law_1285 (by decide) ?_
  refine r_iadd C dL_law_1286 ?_
  refine r_nm (P := fun z => z.toInt = i.toInt + 1) ((ta_add (by rw [k_1]; omega)).trans (by rw [k_1])) (fun z_1 hz_2 => ?_)
  refine r_sld C hX (by omega) a1 (by rw [← h1, show z_1.toInt.toNat = nn + 1 from by omega]) dL_law_1287 ?_
  refine r_callV C (k := 0) [.int (a1)] [] (c_X8_many E ad σ  (a1) hI) lv_L_166 (by decide) rfl rfl (by decide) (by decide) rfl rfl (Nat.le_of_ble_eq_true rfl) dL_law_1288 (fun r_3 τ_4 h_5 => ?_)
  obtain ⟨eh_5, h_5⟩ := h_5
  obtain rfl := eh_5.symm
  have hM1 := hM
  have hF1 := hFM
  obtain ⟨m1, m2, m3, m4, m5, m6, m7, m8, m9, m10, m11⟩ := hF1
  refine r_aload_n C 1 dL_law_1291 rfl rfl ?_
  refine r_aload_n C 3 dL_law_1292 rfl rfl ?_
  refine r_iload_n C 0 dL_law_1293 rfl rfl ?_
  refine r_iconst C (1) dL_law_1294 (by decide) ?_
  refine r_iadd C dL_law_1295 ?_
  refine r_nm (P := fun z => z.toInt = i.toInt + 1) ((ta_add (by rw [k_1]; omega)).trans (by rw [k_1])) (fun z_6 hz_7 => ?_)
  refine r_sld C hX (by omega) a1 (by rw [← h1, show z_6.toInt.toNat = nn + 1 from by omega]) dL_law_1296 ?_
  refine r_callV C (k := 39) [.int (a1)] [.int (r_3)] (c_X9_many E ad σ  (a1) hM1) lv_L_169 (by decide) rfl rfl (by decide) (by decide) rfl rfl (Nat.le_of_ble_eq_true rfl) dL_law_1297 (fun r_8 τ_9 h_10 => ?_)
  obtain ⟨eh_10, h_10⟩ := h_10
  obtain rfl := eh_10.symm
  have hJ1 : True := trivial
  have eqr : (r_3 : Int32).toInt = (r_8 : Int32).toInt := by
    have x := h_5.2 c1 c2 c5 c7 c8 c10 c9 c11 c13
    have y := h_10.2 m1 m2 m3 m4 m11 m10 m5 m8
    by_cases v : 0 ≤ a1.toInt ∧ a1.toInt ≤ 10
    · by_cases w : a1.toInt = 7
      · exact (x.1 w).trans (y.1 w).symm
      · exact (x.2 v w).trans (y.2 v w).symm
    · exact (h_5.1 v).trans (h_10.1 v).symm
  refine r_icmp_eq C 1305 dL_law_1300 (by decide) (fun _ => ?_) (fun hq => absurd eqr hq)
  exact K σ hJ1
