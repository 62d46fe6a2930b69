set_option maxHeartbeats 4000000 in
set_option maxRecDepth 100000 in
theorem case_20 {E : Ev} {ad : Nat → Nat} {G : Gm} {b Lx nn : Nat} {xs : Nat → Int32} (C : Cx E ad G RL cL_law 4 20) (hX : va_X b Lx xs (gS G) (gS G).heap ∧ b < (gS G).heap.size ∧ ¬ Aw ad b) (i a1 a2 a3 : Int32) (hi : i.toInt = nn) (hn : nn + 4 ≤ Lx) (hL : Lx ≤ 2048) (h1 : xs (nn + 1) = a1) (h2 : xs (nn + 2) = a2) (h3 : xs (nn + 3) = a3) (σ : Sg) (hJ : Rel3 σ) (K : ∀ τ : Sg, Rel3 τ → At E ad G 4 1305 [(3, .int (i)), (2, .ref (ad 39)), (1, .ref (ad 0)), (0, .ref (b))] [] τ) : At E ad G 4 858 [(3, .int (i)), (2, .ref (ad 39)), (1, .ref (ad 0)), (0, .ref (b))] [] σ := by
  have k_0 : (0 : Int32).toInt = 0 := by decide
  have k_1 : (1 : Int32).toInt = 1 := by decide
  have k_2 : (2 : Int32).toInt = 2 := by decide
  have k_3 : (3 : Int32).toInt = 3 := by decide
  have hJ3 := hJ
  replace hJ := hJ.1
  have hI := hJ.1
  have hM := hJ.2.1
  have hE := hJ.2.2.1
  unfold EQn at hE
  have hIu := hI
  unfold IC at hIu
  obtain ⟨n0, n1, n8, n17, n29, n39, n44, -⟩ := id hM
  refine r_aload_n C 2 dL_law_858 rfl rfl ?_
  refine r_aload_n C 3 dL_law_859 rfl rfl ?_
  refine r_iload_n C 0 dL_law_860 rfl rfl ?_
  refine r_iconst C (1) dL_law_861 (by decide) ?_
  refine r_iadd C dL_law_862 ?_
  refine r_nm (P := fun z => z.toInt = i.toInt + 1) ((ta_add (by rw [k_1]; omega)).trans (by rw [k_1])) (fun z_1 hz_2 => ?_)
  refine r_sld C hX (by omega) a1 (by rw [← h1, show z_1.toInt.toNat = nn + 1 from by omega]) dL_law_863 ?_
  refine r_callV C (k := 0) [.int (a1)] [] (c_X8_quarrels E ad σ  (a1) hI) lv_L_102 (by decide) rfl rfl (by decide) (by decide) rfl rfl (Nat.le_of_ble_eq_true rfl) dL_law_864 (fun r_3 τ_4 h_5 => ?_)
  obtain ⟨eh_5, h_5⟩ := h_5
  obtain rfl := eh_5.symm
  have hM1 := hM
  refine r_pop C dL_law_867 rfl ?_
  refine r_aload_n C 1 dL_law_868 rfl rfl ?_
  refine r_aload_n C 3 dL_law_869 rfl rfl ?_
  refine r_iload_n C 0 dL_law_870 rfl rfl ?_
  refine r_iconst C (1) dL_law_871 (by decide) ?_
  refine r_iadd C dL_law_872 ?_
  refine r_nm (P := fun z => z.toInt = i.toInt + 1) ((ta_add (by rw [k_1]; omega)).trans (by rw [k_1])) (fun z_6 hz_7 => ?_)
  refine r_sld C hX (by omega) a1 (by rw [← h1, show z_6.toInt.toNat = nn + 1 from by omega]) dL_law_873 ?_
  refine r_callV C (k := 39) [.int (a1)] [] (c_X9_quarrels E ad σ  (a1) hM1) lv_L_105 (by decide) rfl rfl (by decide) (by decide) rfl rfl (Nat.le_of_ble_eq_true rfl) dL_law_874 (fun r_8 τ_9 h_10 => ?_)
  have hJ1 : Rel τ_9 := Rel_off hJ h_10.1 (by decide)
  have hJ1 : Rel3 τ_9 := Rel3_off hJ3 hJ1 (h_10.1 5 (by decide)) (h_10.1 40 (by decide)) (h_10.1 41 (by decide)) (h_10.1 43 (by decide)) (by rw [h_10.1 39 (by decide)]) (by rw [h_10.1 39 (by decide)]; exact Int.le_refl _)
  refine r_pop C dL_law_877 rfl ?_
  refine r_goto C 1305 dL_law_878 (by decide) ?_
  exact K τ_9 hJ1
set_option maxHeartbeats 4000000 in
set_option maxRecDepth 100000 in
theorem case_21 {E : Ev} {ad : Nat → Nat} {G : Gm} {b Lx nn : Nat} {xs : Nat → Int32} (C : Cx E ad G RL cL_law 4 20) (hX : va_X b Lx xs (gS G) (gS G).heap ∧ b < (gS G).heap.size ∧ ¬ Aw ad b) (i a1 a2 a3 : Int32) (hi : i.toInt = nn) (hn : nn + 4 ≤ Lx) (hL : Lx ≤ 2048) (h1 : xs (nn + 1) = a1) (h2 : xs (nn + 2) = a2) (h3 : xs (nn + 3) = a3) (σ : Sg) (hJ : Rel3 σ) (K : ∀ τ : Sg, Rel3 τ → At E ad G 4 1305 [(3, .int (i)), (2, .ref (ad 39)), (1, .ref (ad 0)), (0, .ref (b))] [] τ) : At E ad G 4 881 [(3, .int (i)), (2, .ref (ad 39)), (1, .ref (ad 0)), (0, .ref (b))] [] σ := by
  have k_0 : (0 : Int32).toInt = 0 := by decide
  have k_1 : (1 : Int32).toInt = 1 := by decide
  have k_2 : (2 : Int32).toInt = 2 := by decide
  have k_3 : (3 : Int32).toInt = 3 := by decide
  have hJ3 := hJ
  replace hJ := hJ.1
  have hI := hJ.1
  have hM := hJ.2.1
  have hE := hJ.2.2.1
  unfold EQn at hE
  have hIu := hI
  unfold IC at hIu
  obtain ⟨n0, n1, n8, n17, n29, n39, n44, -⟩ := id hM
  refine r_aload_n C 2 dL_law_881 rfl rfl ?_
  refine r_aload_n C 3 dL_law_882 rfl rfl ?_
  refine r_iload_n C 0 dL_law_883 rfl rfl ?_
  refine r_iconst C (1) dL_law_884 (by decide) ?_
  refine r_iadd C dL_law_885 ?_
  refine r_nm (P := fun z => z.toInt = i.toInt + 1) ((ta_add (by rw [k_1]; omega)).trans (by rw [k_1])) (fun z_1 hz_2 => ?_)
  refine r_sld C hX (by omega) a1 (by rw [← h1, show z_1.toInt.toNat = nn + 1 from by omega]) dL_law_886 ?_
  refine r_aload_n C 3 dL_law_887 rfl rfl ?_
  refine r_iload_n C 0 dL_law_888 rfl rfl ?_
  refine r_iconst C (2) dL_law_889 (by decide) ?_
  refine r_iadd C dL_law_890 ?_
  refine r_nm (P := fun z => z.toInt = i.toInt + 2) ((ta_add (by rw [k_2]; omega)).trans (by rw [k_2])) (fun z_3 hz_4 => ?_)
  refine r_sld C hX (by omega) a2 (by rw [← h2, show z_3.toInt.toNat = nn + 2 from by omega]) dL_law_891 ?_
  refine r_callV C (k := 0) [.int (a1), .int (a2)] [] (c_X8_permitOf E ad σ  (a1) (a2) hI) lv_L_106 (by decide) rfl rfl (by decide) (by decide) rfl rfl (Nat.le_of_ble_eq_true rfl) dL_law_892 (fun r_5 τ_6 h_7 => ?_)
  obtain ⟨eh_7, h_7⟩ := h_7
  obtain rfl := eh_7.symm
  have hM1 := hM
  refine r_pop C dL_law_895 rfl ?_
  refine r_aload_n C 1 dL_law_896 rfl rfl ?_
  refine r_aload_n C 3 dL_law_897 rfl rfl ?_
  refine r_iload_n C 0 dL_law_898 rfl rfl ?_
  refine r_iconst C (1) dL_law_899 (by decide) ?_
  refine r_iadd C dL_law_900 ?_
  refine r_nm (P := fun z => z.toInt = i.toInt + 1) ((ta_add (by rw [k_1]; omega)).trans (by rw [k_1])) (fun z_8 hz_9 => ?_)
  refine r_sld C hX (by omega) a1 (by rw [← h1, show z_8.toInt.toNat = nn + 1 from by omega]) dL_law_901 ?_
  refine r_aload_n C 3 dL_law_902 rfl rfl ?_
  refine r_iload_n C 0 dL_law_903 rfl rfl ?_
  refine r_iconst C (2) dL_law_904 (by decide) ?_
  refine r_iadd C dL_law_905 ?_
  refine r_nm (P := fun z => z.toInt = i.toInt + 2) ((ta_add (by rw [k_2]; omega)).trans (by rw [k_2])) (fun z_10 hz_11 => ?_)
  refine r_sld C hX (by omega) a2 (by rw [← h2, show z_10.toInt.toNat = nn + 2 from by omega]) dL_law_906 ?_
  refine r_callV C (k := 39) [.int (a1), .int (a2)] [] (c_X9_permitOf E ad σ  (a1) (a2) hM1) lv_L_109 (by decide) rfl rfl (by decide) (by decide) rfl rfl (Nat.le_of_ble_eq_true rfl) dL_law_907 (fun r_12 τ_13 h_14 => ?_)
  obtain ⟨eh_14, h_14⟩ := h_14
  obtain rfl := eh_14.symm
  have hJ1 := hJ
  have hJ1 : Rel3 σ := hJ3
  refine r_pop C dL_law_910 rfl ?_
  refine r_goto C 1305 dL_law_911 (by decide) ?_
  exact K σ hJ1
set_option maxHeartbeats 4000000 in
set_option maxRecDepth 100000 in
theorem case_22 {E : Ev} {ad : Nat → Nat} {G : Gm} {b Lx nn : Nat} {xs : Nat → Int32} (C : Cx E ad G RL cL_law 4 20) (hX : va_X b Lx xs (gS G) (gS G).heap ∧ b < (gS G).heap.size ∧ ¬ Aw ad b) (i a1 a2 a3 : Int32) (hi : i.toInt = nn) (hn : nn + 4 ≤ Lx) (hL : Lx ≤ 2048) (h1 : xs (nn + 1) = a1) (h2 : xs (nn + 2) = a2) (h3 : xs (nn + 3) = a3) (σ : Sg) (hJ : Rel3 σ) (K : ∀ τ : Sg, Rel3 τ → At E ad G 4 1305 [(3, .int (i)), (2, .ref (ad 39)), (1, .ref (ad 0)), (0, .ref (b))] [] τ) : At E ad G 4 914 [(3, .int (i)), (2, .ref (ad 39)), (1, .ref (ad 0)), (0, .ref (b))] [] σ := by
  have k_0 : (0 : Int32).toInt = 0 := by decide
  have k_1 : (1 : Int32).toInt = 1 := by decide
  have k_2 : (2 : Int32).toInt = 2 := by decide
  have k_3 : (3 : Int32).toInt = 3 := by decide
  have hJ3 := hJ
  replace hJ := hJ.1
  have hI := hJ.1
  have hM := hJ.2.1
  have hE := hJ.2.2.1
  unfold EQn at hE
  have hIu := hI
  unfold IC at hIu
  obtain ⟨n0, n1, n8, n17, n29, n39, n44, -⟩ := id hM
  refine r_aload_n C 2 dL_law_914 rfl rfl ?_
  refine r_aload_n C 3 dL_law_915 rfl rfl ?_
  refine r_iload_n C 0 dL_law_916 rfl rfl ?_
  refine r_iconst C (1) dL_law_917 (by decide) ?_
  refine r_iadd C dL_law_918 ?_
  refine r_nm (P := fun z => z.toInt = i.toInt + 1) ((ta_add (by rw [k_1]; omega)).trans (by rw [k_1])) (fun z_1 hz_2 => ?_)
  refine r_sld C hX (by omega) a1 (by rw [← h1, show z_1.toInt.toNat = nn + 1 from by omega]) dL_law_919 ?_
  refine r_aload_n C 3 dL_law_920 rfl rfl ?_
  refine r_iload_n C 0 dL_law_921 rfl rfl ?_
  refine r_iconst C (2) dL_law_922 (by decide) ?_
  refine r_iadd C dL_law_923 ?_
  refine r_nm (P := fun z => z.toInt = i.toInt + 2) ((ta_add (by rw [k_2]; omega)).trans (by rw [k_2])) (fun z_3 hz_4 => ?_)
  refine r_sld C hX (by omega) a2 (by rw [← h2, show z_3.toInt.toNat = nn + 2 from by omega]) dL_law_924 ?_
  refine r_callV C (k := 0) [.int (a1), .int (a2)] [] (c_X8_enter E ad σ  (a1) (a2) hI) lv_L_110 (by decide) rfl rfl (by decide) (by decide) rfl rfl (Nat.le_of_ble_eq_true rfl) dL_law_925 (fun r_5 τ_6 h_7 => ?_)
  have hK1 : ∀ k, 39 ≤ k → τ_6 k = σ k := by
    exact keepO h_7.1 (by decide)
  have hM1 := IMc hK1 hM
  refine r_pop C dL_law_928 rfl ?_
  refine r_aload_n C 1 dL_law_929 rfl rfl ?_
  refine r_aload_n C 3 dL_law_930 rfl rfl ?_
  refine r_iload_n C 0 dL_law_931 rfl rfl ?_
  refine r_iconst C (1) dL_law_932 (by decide) ?_
  refine r_iadd C dL_law_933 ?_
  refine r_nm (P := fun z => z.toInt = i.toInt + 1) ((ta_add (by rw [k_1]; omega)).trans (by rw [k_1])) (fun z_8 hz_9 => ?_)
  refine r_sld C hX (by omega) a1 (by rw [← h1, show z_8.toInt.toNat = nn + 1 from by omega]) dL_law_934 ?_
  refine r_aload_n C 3 dL_law_935 rfl rfl ?_
  refine r_iload_n C 0 dL_law_936 rfl rfl ?_
  refine r_iconst C (2) dL_law_937 (by decide) ?_
  refine r_iadd C dL_law_938 ?_
  refine r_nm (P := fun z => z.toInt = i.toInt + 2) ((ta_add (by rw [k_2]; omega)).trans (by rw [k_2])) (fun z_10 hz_11 => ?_)
  refine r_sld C hX (by omega) a2 (by rw [← h2, show z_10.toInt.toNat = nn + 2 from by omega]) dL_law_939 ?_
  refine r_callV C (k := 39) [.int (a1), .int (a2)] [] (c_X9_enter E ad τ_6  (a1) (a2) hM1) lv_L_113 (by decide) rfl rfl (by decide) (by decide) rfl rfl (Nat.le_of_ble_eq_true rfl) dL_law_940 (fun r_12 τ_13 h_14 => ?_)
  have hJ1 : Rel τ_13 := Rel_two hJ h_7.1 h_14.1 (by decide)
  have hJ1 : Rel3 τ_13 := Rel3_off hJ3 hJ1 ((h_14.1 5 (by decide)).trans (h_7.1 5 (by decide))) ((h_14.1 40 (by decide)).trans (h_7.1 40 (by decide))) ((h_14.1 41 (by decide)).trans (h_7.1 41 (by decide))) ((h_14.1 43 (by decide)).trans (h_7.1 43 (by decide))) (by rw [h_14.1 39 (by decide), h_7.1 39 (by decide)]) (by rw [h_14.1 39 (by decide), h_7.1 39 (by decide)]; exact Int.le_refl _)
  refine r_pop C dL_law_943 rfl ?_
  refine r_goto C 1305 dL_law_944 (by decide) ?_
  exact K τ_13 hJ1
set_option maxHeartbeats 4000000 in
set_option maxRecDepth 100000 in
theorem case_23 {E : Ev} {ad : Nat → Nat} {G : Gm} {b Lx nn : Nat} {xs : Nat → Int32} (C : Cx E ad G RL cL_law 4 20) (hX : va_X b Lx xs (gS G) (gS G).heap ∧ b < (gS G).heap.size ∧ ¬ Aw ad b) (i a1 a2 a3 : Int32) (hi : i.toInt = nn) (hn : nn + 4 ≤ Lx) (hL : Lx ≤ 2048) (h1 : xs (nn + 1) = a1) (h2 : xs (nn + 2) = a2) (h3 : xs (nn + 3) = a3) (σ : Sg) (hJ : Rel3 σ) (K : ∀ τ : Sg, Rel3 τ → At E ad G 4 1305 [(3, .int (i)), (2, .ref (ad 39)), (1, .ref (ad 0)), (0, .ref (b))] [] τ) : At E ad G 4 947 [(3, .int (i)), (2, .ref (ad 39)), (1, .ref (ad 0)), (0, .ref (b))] [] σ := by
  have k_0 : (0 : Int32).toInt = 0 := by decide
  have k_1 : (1 : Int32).toInt = 1 := by decide
  have k_2 : (2 : Int32).toInt = 2 := by decide
  have k_3 : (3 : Int32).toInt = 3 := by decide
  have hJ3 := hJ
  replace hJ := hJ.1
  have hI := hJ.1
  have hM := hJ.2.1
  have hE := hJ.2.2.1
  unfold EQn at hE
  have hIu := hI
  unfold IC at hIu
  obtain ⟨n0, n1, n8, n17, n29, n39, n44, -⟩ := id hM
  refine r_aload_n C 2 dL_law_947 rfl rfl ?_
  refine r_aload_n C 3 dL_law_948 rfl rfl ?_
  refine r_iload_n C 0 dL_law_949 rfl rfl ?_
  refine r_iconst C (1) dL_law_950 (by decide) ?_
  refine r_iadd C dL_law_951 ?_
  refine r_nm (P := fun z => z.toInt = i.toInt + 1) ((ta_add (by rw [k_1]; omega)).trans (by rw [k_1])) (fun z_1 hz_2 => ?_)
  refine r_sld C hX (by omega) a1 (by rw [← h1, show z_1.toInt.toNat = nn + 1 from by omega]) dL_law_952 ?_
  refine r_callV C (k := 0) [.int (a1)] [] (c_X8_leave E ad σ  (a1) hI) lv_L_114 (by decide) rfl rfl (by decide) (by decide) rfl rfl (Nat.le_of_ble_eq_true rfl) dL_law_953 (fun r_3 τ_4 h_5 => ?_)
  have hK1 : ∀ k, 39 ≤ k → τ_4 k = σ k := by
    exact keepO h_5.1 (by decide)
  have hM1 := IMc hK1 hM
  refine r_pop C dL_law_956 rfl ?_
  refine r_aload_n C 1 dL_law_957 rfl rfl ?_
  refine r_aload_n C 3 dL_law_958 rfl rfl ?_
  refine r_iload_n C 0 dL_law_959 rfl rfl ?_
  refine r_iconst C (1) dL_law_960 (by decide) ?_
  refine r_iadd C dL_law_961 ?_
  refine r_nm (P := fun z => z.toInt = i.toInt + 1) ((ta_add (by rw [k_1]; omega)).trans (by rw [k_1])) (fun z_6 hz_7 => ?_)
  refine r_sld C hX (by omega) a1 (by rw [← h1, show z_6.toInt.toNat = nn + 1 from by omega]) dL_law_962 ?_
  refine r_callV C (k := 39) [.int (a1)] [] (c_X9_leave E ad τ_4  (a1) hM1) lv_L_117 (by decide) rfl rfl (by decide) (by decide) rfl rfl (Nat.le_of_ble_eq_true rfl) dL_law_963 (fun r_8 τ_9 h_10 => ?_)
  have hJ1 : Rel τ_9 := Rel_two hJ h_5.1 h_10.1 (by decide)
  have hJ1 : Rel3 τ_9 := Rel3_off hJ3 hJ1 ((h_10.1 5 (by decide)).trans (h_5.1 5 (by decide))) ((h_10.1 40 (by decide)).trans (h_5.1 40 (by decide))) ((h_10.1 41 (by decide)).trans (h_5.1 41 (by decide))) ((h_10.1 43 (by decide)).trans (h_5.1 43 (by decide))) (by rw [h_10.1 39 (by decide), h_5.1 39 (by decide)]) (by rw [h_10.1 39 (by decide), h_5.1 39 (by decide)]; exact Int.le_refl _)
  refine r_pop C dL_law_966 rfl ?_
  refine r_goto C 1305 dL_law_967 (by decide) ?_
  exact K τ_9 hJ1
set_option maxHeartbeats 4000000 in
set_option maxRecDepth 100000 in
theorem case_24 {E : Ev} {ad : Nat → Nat} {G : Gm} {b Lx nn : Nat} {xs : Nat → Int32} (C : Cx E ad G RL cL_law 4 20) (hX : va_X b Lx xs (gS G) (gS G).heap ∧ b < (gS G).heap.size ∧ ¬ Aw ad b) (i a1 a2 a3 : Int32) (hi : i.toInt = nn) (hn : nn + 4 ≤ Lx) (hL : Lx ≤ 2048) (h1 : xs (nn + 1) = a1) (h2 : xs (nn + 2) = a2) (h3 : xs (nn + 3) = a3) (σ : Sg) (hJ : Rel3 σ) (K : ∀ τ : Sg, Rel3 τ → At E ad G 4 1305 [(3, .int (i)), (2, .ref (ad 39)), (1, .ref (ad 0)), (0, .ref (b))] [] τ) : At E ad G 4 970 [(3, .int (i)), (2, .ref (ad 39)), (1, .ref (ad 0)), (0, .ref (b))] [] σ := by
  have k_0 : (0 : Int32).toInt = 0 := by decide
  have k_1 : (1 : Int32).toInt = 1 := by decide
  have k_2 : (2 : Int32).toInt = 2 := by decide
  have k_3 : (3 : Int32).toInt = 3 := by decide
  have hJ3 := hJ
  replace hJ := hJ.1
  have hI := hJ.1
  have hM := hJ.2.1
  have hE := hJ.2.2.1
  unfold EQn at hE
  have hIu := hI
  unfold IC at hIu
  obtain ⟨n0, n1, n8, n17, n29, n39, n44, -⟩ := id hM
  refine r_aload_n C 2 dL_law_970 rfl rfl ?_
  refine r_aload_n C 3 dL_law_971 rfl rfl ?_
  refine r_iload_n C 0 dL_law_972 rfl rfl ?_
  refine r_iconst C (1) dL_law_973 (by decide) ?_
  refine r_iadd C dL_law_974 ?_
  refine r_nm (P := fun z => z.toInt = i.toInt + 1) ((ta_add (by rw [k_1]; omega)).trans (by rw [k_1])) (fun z_1 hz_2 => ?_)
  refine r_sld C hX (by omega) a1 (by rw [← h1, show z_1.toInt.toNat = nn + 1 from by omega]) dL_law_975 ?_
  refine r_aload_n C 3 dL_law_976 rfl rfl ?_
  refine r_iload_n C 0 dL_law_977 rfl rfl ?_
  refine r_iconst C (2) dL_law_978 (by decide) ?_
  refine r_iadd C dL_law_979 ?_
  refine r_nm (P := fun z => z.toInt = i.toInt + 2) ((ta_add (by rw [k_2]; omega)).trans (by rw [k_2])) (fun z_3 hz_4 => ?_)
  refine r_sld C hX (by omega) a2 (by rw [← h2, show z_3.toInt.toNat = nn + 2 from by omega]) dL_law_980 ?_
  refine r_if_eq C 988 dL_law_981 (by decide) (fun c_5 => ?_) (fun c_5 => ?_)
  · -- to 988
    refine r_iconst C (0) dL_law_988 (by decide) ?_
    refine r_callV C (k := 0) [.int (a1), .int (0)] [] (c_X8_shift E ad σ  (a1) (0) hI (by decide)) lv_L_118 (by decide) rfl rfl (by decide) (by decide) rfl rfl (Nat.le_of_ble_eq_true rfl) dL_law_989 (fun r_6 τ_7 h_8 => ?_)
    have hK1 : ∀ k, 39 ≤ k → τ_7 k = σ k := by
      exact keepO h_8.1 (by decide)
    have hM1 := IMc hK1 hM
    refine r_pop C dL_law_992 rfl ?_
    refine r_aload_n C 1 dL_law_993 rfl rfl ?_
    refine r_aload_n C 3 dL_law_994 rfl rfl ?_
    refine r_iload_n C 0 dL_law_995 rfl rfl ?_
    refine r_iconst C (1) dL_law_996 (by decide) ?_
    refine r_iadd C dL_law_997 ?_
    refine r_nm (P := fun z => z.toInt = i.toInt + 1) ((ta_add (by rw [k_1]; omega)).trans (by rw [k_1])) (fun z_9 hz_10 => ?_)
    refine r_sld C hX (by omega) a1 (by rw [← h1, show z_9.toInt.toNat = nn + 1 from by omega]) dL_law_998 ?_
    refine r_aload_n C 3 dL_law_999 rfl rfl ?_
    refine r_iload_n C 0 dL_law_1000 rfl rfl ?_
    refine r_iconst C (2) dL_law_1001 (by decide) ?_
    refine r_iadd C dL_law_1002 ?_
    refine r_nm (P := fun z => z.toInt = i.toInt + 2) ((ta_add (by rw [k_2]; omega)).trans (by rw [k_2])) (fun z_11 hz_12 => ?_)
    refine r_sld C hX (by omega) a2 (by rw [← h2, show z_11.toInt.toNat = nn + 2 from by omega]) dL_law_1003 ?_
    refine r_if_eq C 1011 dL_law_1004 (by decide) (fun c_13 => ?_) (fun c_13 => absurd c_13 (by omega))
    refine r_iconst C (0) dL_law_1011 (by decide) ?_
    refine r_callV C (k := 39) [.int (a1), .int (0)] [] (c_X9_shift E ad τ_7  (a1) (0) hM1 (by decide)) lv_L_121 (by decide) rfl rfl (by decide) (by decide) rfl rfl (Nat.le_of_ble_eq_true rfl) dL_law_1012 (fun r_14 τ_15 h_16 => ?_)
    have hJ1 : Rel τ_15 := Rel_two hJ h_8.1 h_16.1 (by decide)
    have hJ1 : Rel3 τ_15 := Rel3_off hJ3 hJ1 ((h_16.1 5 (by decide)).trans (h_8.1 5 (by decide))) ((h_16.1 40 (by decide)).trans (h_8.1 40 (by decide))) ((h_16.1 41 (by decide)).trans (h_8.1 41 (by decide))) ((h_16.1 43 (by decide)).trans (h_8.1 43 (by decide))) (by rw [h_16.1 39 (by decide), h_8.1 39 (by decide)]) (by rw [h_16.1 39 (by decide), h_8.1 39 (by decide)]; exact Int.le_refl _)
    refine r_pop C dL_law_1015 rfl ?_
    refine r_goto C 1305 dL_law_1016 (by decide) ?_
    exact K τ_15 hJ1
  · -- to 984
    refine r_iconst C (1) dL_law_984 (by decide) ?_
    refine r_goto C 989 dL_law_985 (by decide) ?_
    refine r_callV C (k := 0) [.int (a1), .int (1)] [] (c_X8_shift E ad σ  (a1) (1) hI (by decide)) lv_L_118 (by decide) rfl rfl (by decide) (by decide) rfl rfl (Nat.le_of_ble_eq_true rfl) dL_law_989 (fun r_17 τ_18 h_19 => ?_)
    have hK1 : ∀ k, 39 ≤ k → τ_18 k = σ k := by
      exact keepO h_19.1 (by decide)
    have hM1 := IMc hK1 hM
    refine r_pop C dL_law_992 rfl ?_
    refine r_aload_n C 1 dL_law_993 rfl rfl ?_
    refine r_aload_n C 3 dL_law_994 rfl rfl ?_
    refine r_iload_n C 0 dL_law_995 rfl rfl ?_
    refine r_iconst C (1) dL_law_996 (by decide) ?_
    refine r_iadd C dL_law_997 ?_
    refine r_nm (P := fun z => z.toInt = i.toInt + 1) ((ta_add (by rw [k_1]; omega)).trans (by rw [k_1])) (fun z_20 hz_21 => ?_)
    refine r_sld C hX (by omega) a1 (by rw [← h1, show z_20.toInt.toNat = nn + 1 from by omega]) dL_law_998 ?_
    refine r_aload_n C 3 dL_law_999 rfl rfl ?_
    refine r_iload_n C 0 dL_law_1000 rfl rfl ?_
    refine r_iconst C (2) dL_law_1001 (by decide) ?_
    refine r_iadd C dL_law_1002 ?_
    refine r_nm (P := fun z => z.toInt = i.toInt + 2) ((ta_add (by rw [k_2]; omega)).trans (by rw [k_2])) (fun z_22 hz_23 => ?_)
    refine r_sld C hX (by omega) a2 (by rw [← h2, show z_22.toInt.toNat = nn + 2 from by omega]) dL_law_1003 ?_
    refine r_if_eq C 1011 dL_law_1004 (by decide) (fun c_24 => absurd c_24 (by omega)) (fun c_24 => ?_)
    refine r_iconst C (1) dL_law_1007 (by decide) ?_
    refine r_goto C 1012 dL_law_1008 (by decide) ?_
    refine r_callV C (k := 39) [.int (a1), .int (1)] [] (c_X9_shift E ad τ_18  (a1) (1) hM1 (by decide)) lv_L_121 (by decide) rfl rfl (by decide) (by decide) rfl rfl (Nat.le_of_ble_eq_true rfl) dL_law_1012 (fun r_25 τ_26 h_27 => ?_)
    have hJ1 : Rel τ_26 := Rel_two hJ h_19.1 h_27.1 (by decide)
    have hJ1 : Rel3 τ_26 := Rel3_off hJ3 hJ1 ((h_27.1 5 (by decide)).trans (h_19.1 5 (by decide))) ((h_27.1 40 (by decide)).trans (h_19.1 40 (by decide))) ((h_27.1 41 (by decide)).trans (h_19.1 41 (by decide))) ((h_27.1 43 (by decide)).trans (h_19.1 43 (by decide))) (by rw [h_27.1 39 (by decide), h_19.1 39 (by decide)]) (by rw [h_27.1 39 (by decide), h_19.1 39 (by decide)]; exact Int.le_refl _)
    refine r_pop C dL_law_1015 rfl ?_
    refine r_goto C 1305 dL_law_1016 (by decide) ?_
    exact K τ_26 hJ1
set_option maxHeartbeats 4000000 in
set_option maxRecDepth 100000 in
theorem case_25 {E : Ev} {ad : Nat → Nat} {G : Gm} {b Lx nn : Nat} {xs : Nat → Int32} (C : Cx E ad G RL cL_law 4 20) (hX : va_X b Lx xs (gS G) (gS G).heap ∧ b < (gS G).heap.size ∧ ¬ Aw ad b) (i a1 a2 a3 : Int32) (hi : i.toInt = nn) (hn : nn + 4 ≤ Lx) (hL : Lx ≤ 2048) (h1 : xs (nn + 1) = a1) (h2 : xs (nn + 2) = a2) (h3 : xs (nn + 3) = a3) (σ : Sg) (hJ : Rel3 σ) (K : ∀ τ : Sg, Rel3 τ → At E ad G 4 1305 [(3, .int (i)), (2, .ref (ad 39)), (1, .ref (ad 0)), (0, .ref (b))] [] τ) : At E ad G 4 1019 [(3, .int (i)), (2, .ref (ad 39)), (1, .ref (ad 0)), (0, .ref (b))] [] σ := by
  have k_0 : (0 : Int32).toInt = 0 := by decide
  have k_1 : (1 : Int32).toInt = 1 := by decide
  have k_2 : (2 : Int32).toInt = 2 := by decide
  have k_3 : (3 : Int32).toInt = 3 := by decide
  have hJ3 := hJ
  replace hJ := hJ.1
  have hI := hJ.1
  have hM := hJ.2.1
  have hE := hJ.2.2.1
  unfold EQn at hE
  have hIu := hI
  unfold IC at hIu
  obtain ⟨n0, n1, n8, n17, n29, n39, n44, -⟩ := id hM
  refine r_aload_n C 2 dL_law_1019 rfl rfl ?_
  refine r_callV C (k := 0) [] [] (c_X8_siren E ad σ   hI) lv_L_122 (by decide) rfl rfl (by decide) (by decide) rfl rfl (Nat.le_of_ble_eq_true rfl) dL_law_1020 (fun r_1 τ_2 h_3 => ?_)
  have hK1 : ∀ k, 39 ≤ k → τ_2 k = σ k := by
    exact keepO h_3.1 (by decide)
  have hM1 := IMc hK1 hM
  refine r_pop C dL_law_1023 rfl ?_
  refine r_aload_n C 1 dL_law_1024 rfl rfl ?_
  refine r_callV C (k := 39) [] [] (c_X9_siren E ad τ_2   hM1) lv_L_125 (by decide) rfl rfl (by decide) (by decide) rfl rfl (Nat.le_of_ble_eq_true rfl) dL_law_1025 (fun r_4 τ_5 h_6 => ?_)
  have hJ1 : Rel τ_5 := Rel_two hJ h_3.1 h_6.1 (by decide)
  have hJ1 : Rel3 τ_5 := Rel3_off hJ3 hJ1 ((h_6.1 5 (by decide)).trans (h_3.1 5 (by decide))) ((h_6.1 40 (by decide)).trans (h_3.1 40 (by decide))) ((h_6.1 41 (by decide)).trans (h_3.1 41 (by decide))) ((h_6.1 43 (by decide)).trans (h_3.1 43 (by decide))) (by rw [h_6.1 39 (by decide), h_3.1 39 (by decide)]) (by rw [h_6.1 39 (by decide), h_3.1 39 (by decide)]; exact Int.le_refl _)
  refine r_pop C dL_law_1028 rfl ?_
  refine r_goto C 1305 dL_law_1029 (by decide) ?_
  exact K τ_5 hJ1
set_option maxHeartbeats 4000000 in
set_option maxRecDepth 100000 in
theorem case_26 {E : Ev} {ad : Nat → Nat} {G : Gm} {b Lx nn : Nat} {xs : Nat → Int32} (C : Cx E ad G RL cL_law 4 20) (hX : va_X b Lx xs (gS G) (gS G).heap ∧ b < (gS G).heap.size ∧ ¬ Aw ad b) (i a1 a2 a3 : Int32) (hi : i.toInt = nn) (hn : nn + 4 ≤ Lx) (hL : Lx ≤ 2048) (h1 : xs (nn + 1) = a1) (h2 : xs (nn + 2) = a2) (h3 : xs (nn + 3) = a3) (σ : Sg) (hJ : Rel3 σ) (K : ∀ τ : Sg, Rel3 τ → At E ad G 4 1305 [(3, .int (i)), (2, .ref (ad 39)), (1, .ref (ad 0)), (0, .ref (b))] [] τ) : At E ad G 4 1032 [(3, .int (i)), (2, .ref (ad 39)), (1, .ref (ad 0)), (0, .ref (b))] [] σ := by
  have k_0 : (0 : Int32).toInt = 0 := by decide
  have k_1 : (1 : Int32).toInt = 1 := by decide
  have k_2 : (2 : Int32).toInt = 2 := by decide
  have k_3 : (3 : Int32).toInt = 3 := by decide
  have hJ3 := hJ
  replace hJ := hJ.1
  have hI := hJ.1
  have hM := hJ.2.1
  have hE := hJ.2.2.1
  unfold EQn at hE
  have hIu := hI
  unfold IC at hIu
  obtain ⟨n0, n1, n8, n17, n29, n39, n44, -⟩ := id hM
  refine r_aload_n C 2 dL_law_1032 rfl rfl ?_
  refine r_aload_n C 3 dL_law_1033 rfl rfl ?_
  refine r_iload_n C 0 dL_law_1034 rfl rfl ?_
  refine r_iconst C (1) dL_law_1035 (by decide) ?_
  refine r_iadd C dL_law_1036 ?_
  refine r_nm (P := fun z => z.toInt = i.toInt + 1) ((ta_add (by rw [k_1]; omega)).trans (by rw [k_1])) (fun z_1 hz_2 => ?_)
  refine r_sld C hX (by omega) a1 (by rw [← h1, show z_1.toInt.toNat = nn + 1 from by omega]) dL_law_1037 ?_
  refine r_callV C (k := 0) [.int (a1)] [] (c_X8_least E ad σ  (a1) hI) lv_L_126 (by decide) rfl rfl (by decide) (by decide) rfl rfl (Nat.le_of_ble_eq_true rfl) dL_law_1038 (fun r_3 τ_4 h_5 => ?_)
  obtain ⟨eh_5, h_5⟩ := h_5
  obtain rfl := eh_5.symm
  have hM1 := hM
  refine r_pop C dL_law_1041 rfl ?_
  refine r_aload_n C 1 dL_law_1042 rfl rfl ?_
  refine r_aload_n C 3 dL_law_1043 rfl rfl ?_
  refine r_iload_n C 0 dL_law_1044 rfl rfl ?_
  refine r_iconst C (1) dL_law_1045 (by decide) ?_
  refine r_iadd C dL_law_1046 ?_
  refine r_nm (P := fun z => z.toInt = i.toInt + 1) ((ta_add (by rw [k_1]; omega)).trans (by rw [k_1])) (fun z_6 hz_7 => ?_)
  refine r_sld C hX (by omega) a1 (by rw [← h1, show z_6.toInt.toNat = nn + 1 from by omega]) dL_law_1047 ?_
  refine r_callV C (k := 39) [.int (a1)] [] (c_X9_least E ad σ  (a1) hM1) lv_L_129 (by decide) rfl rfl (by decide) (by decide) rfl rfl (Nat.le_of_ble_eq_true rfl) dL_law_1048 (fun r_8 τ_9 h_10 => ?_)
  have hJ1 : Rel τ_9 := Rel_off hJ h_10.1 (by decide)
  have hJ1 : Rel3 τ_9 := Rel3_off hJ3 hJ1 (h_10.1 5 (by decide)) (h_10.1 40 (by decide)) (h_10.1 41 (by decide)) (h_10.1 43 (by decide)) (by rw [h_10.1 39 (by decide)]) (by rw [h_10.1 39 (by decide)]; exact Int.le_refl _)
  refine r_pop C dL_law_1051 rfl ?_
  refine r_goto C 1305 dL_law_1052 (by decide) ?_
  exact K τ_9 hJ1
set_option maxHeartbeats 4000000 in
set_option maxRecDepth 100000 in
theorem case_27 {E : Ev} {ad : Nat → Nat} {G : Gm} {b Lx nn : Nat} {xs : Nat → Int32} (C : Cx E ad G RL cL_law 4 20) (hX : va_X b Lx xs (gS G) (gS G).heap ∧ b < (gS G).heap.size ∧ ¬ Aw ad b) (i a1 a2 a3 : Int32) (hi : i.toInt = nn) (hn : nn + 4 ≤ Lx) (hL : Lx ≤ 2048) (h1 : xs (nn + 1) = a1) (h2 : xs (nn + 2) = a2) (h3 : xs (nn + 3) = a3) (σ : Sg) (hJ : Rel3 σ) (K : ∀ τ : Sg, Rel3 τ → At E ad G 4 1305 [(3, .int (i)), (2, .ref (ad 39)), (1, .ref (ad 0)), (0, .ref (b))] [] τ) : At E ad G 4 1055 [(3, .int (i)), (2, .ref (ad 39)), (1, .ref (ad 0)), (0, .ref (b))] [] σ := by
  have k_0 : (0 : Int32).toInt = 0 := by decide
  have k_1 : (1 : Int32).toInt = 1 := by decide
  have k_2 : (2 : Int32).toInt = 2 := by decide
  have k_3 : (3 : Int32).toInt = 3 := by decide
  have hJ3 := hJ
  replace hJ := hJ.1
  have hI := hJ.1
  have hM := hJ.2.1
  have hE := hJ.2.2.1
  unfold EQn at hE
  have hIu := hI
  unfold IC at hIu
  obtain ⟨n0, n1, n8, n17, n29, n39, n44, -⟩ := id hM
  refine r_aload_n C 2 dL_law_1055 rfl rfl ?_
  refine r_aload_n C 3 dL_law_1056 rfl rfl ?_
  refine r_iload_n C 0 dL_law_1057 rfl rfl ?_
  refine r_iconst C (1) dL_law_1058 (by decide) ?_
  refine r_iadd C dL_law_1059 ?_
  refine r_nm (P := fun z => z.toInt = i.toInt + 1) ((ta_add (by rw [k_1]; omega)).trans (by rw [k_1])) (fun z_1 hz_2 => ?_)
  refine r_sld C hX (by omega) a1 (by rw [← h1, show z_1.toInt.toNat = nn + 1 from by omega]) dL_law_1060 ?_
  refine r_callV C (k := 0) [.int (a1)] [] (c_X8_leastSet E ad σ  (a1) hI) lv_L_130 (by decide) rfl rfl (by decide) (by decide) rfl rfl (Nat.le_of_ble_eq_true rfl) dL_law_1061 (fun r_3 τ_4 h_5 => ?_)
  obtain ⟨eh_5, h_5⟩ := h_5
  obtain rfl := eh_5.symm
  have hM1 := hM
  refine r_pop C dL_law_1064 rfl ?_
  refine r_aload_n C 1 dL_law_1065 rfl rfl ?_
  refine r_aload_n C 3 dL_law_1066 rfl rfl ?_
  refine r_iload_n C 0 dL_law_1067 rfl rfl ?_
  refine r_iconst C (1) dL_law_1068 (by decide) ?_
  refine r_iadd C dL_law_1069 ?_
  refine r_nm (P := fun z => z.toInt = i.toInt + 1) ((ta_add (by rw [k_1]; omega)).trans (by rw [k_1])) (fun z_6 hz_7 => ?_)
  refine r_sld C hX (by omega) a1 (by rw [← h1, show z_6.toInt.toNat = nn + 1 from by omega]) dL_law_1070 ?_
  refine r_callV C (k := 39) [.int (a1)] [] (c_X9_leastSet E ad σ  (a1) hM1) lv_L_133 (by decide) rfl rfl (by decide) (by decide) rfl rfl (Nat.le_of_ble_eq_true rfl) dL_law_1071 (fun r_8 τ_9 h_10 => ?_)
  have hJ1 : Rel τ_9 := Rel_off hJ h_10.1 (by decide)
  have hJ1 : Rel3 τ_9 := Rel3_off hJ3 hJ1 (h_10.1 5 (by decide)) (h_10.1 40 (by decide)) (h_10.1 41 (by decide)) (h_10.1 43 (by decide)) (by rw [h_10.1 39 (by decide)]) (by rw [h_10.1 39 (by decide)]; exact Int.le_refl _)
  refine r_pop C dL_law_1074 rfl ?_
  refine r_goto C 1305 dL_law_1075 (by decide) ?_
  exact K τ_9 hJ1
set_option maxHeartbeats 4000000 in
set_option maxRecDepth 100000 in
theorem case_28 {E : Ev} {ad : Nat → Nat} {G : Gm} {b Lx nn : Nat} {xs : Nat → Int32} (C : Cx E ad G RL cL_law 4 20) (hX : va_X b Lx xs (gS G) (gS G).heap ∧ b < (gS G).heap.size ∧ ¬ Aw ad b) (i a1 a2 a3 : Int32) (hi : i.toInt = nn) (hn : nn + 4 ≤ Lx) (hL : Lx ≤ 2048) (h1 : xs (nn + 1) = a1) (h2 : xs (nn + 2) = a2) (h3 : xs (nn + 3) = a3) (σ : Sg) (hJ : Rel3 σ) (K : ∀ τ : Sg, Rel3 τ → At E ad G 4 1305 [(3, .int (i)), (2, .ref (ad 39)), (1, .ref (ad 0)), (0, .ref (b))] [] τ) : At E ad G 4 1078 [(3, .int (i)), (2, .ref (ad 39)), (1, .ref (ad 0)), (0, .ref (b))] [] σ := by
  have k_0 : (0 : Int32).toInt = 0 := by decide
  have k_1 : (1 : Int32).toInt = 1 := by decide
  have k_2 : (2 : Int32).toInt = 2 := by decide
  have k_3 : (3 : Int32).toInt = 3 := by decide
  have hJ3 := hJ
  replace hJ := hJ.1
  have hI := hJ.1
  have hM := hJ.2.1
  have hE := hJ.2.2.1
  unfold EQn at hE
  have hIu := hI
  unfold IC at hIu
  obtain ⟨n0, n1, n8, n17, n29, n39, n44, -⟩ := id hM
  refine r_aload_n C 2 dL_law_1078 rfl rfl ?_
  refine r_aload_n C 3 dL_law_1079 rfl rfl ?_
  refine r_iload_n C 0 dL_law_1080 rfl rfl ?_
  refine r_iconst C (1) dL_law_1081 (by decide) ?_
  refine r_iadd C dL_law_1082 ?_
  refine r_nm (P := fun z => z.toInt = i.toInt + 1) ((ta_add (by rw [k_1]; omega)).trans (by rw [k_1])) (fun z_1 hz_2 => ?_)
  refine r_sld C hX (by omega) a1 (by rw [← h1, show z_1.toInt.toNat = nn + 1 from by omega]) dL_law_1083 ?_
  refine r_callV C (k := 0) [.int (a1)] [] (c_X8_risk E ad σ  (a1) hI) lv_L_134 (by decide) rfl rfl (by decide) (by decide) rfl rfl (Nat.le_of_ble_eq_true rfl) dL_law_1084 (fun r_3 τ_4 h_5 => ?_)
  obtain ⟨eh_5, h_5⟩ := h_5
  obtain rfl := eh_5.symm
  have hM1 := hM
  refine r_pop C dL_law_1087 rfl ?_
  refine r_aload_n C 1 dL_law_1088 rfl rfl ?_
  refine r_aload_n C 3 dL_law_1089 rfl rfl ?_
  refine r_iload_n C 0 dL_law_1090 rfl rfl ?_
  refine r_iconst C (1) dL_law_1091 (by decide) ?_
  refine r_iadd C dL_law_1092 ?_
  refine r_nm (P := fun z => z.toInt = i.toInt + 1) ((ta_add (by rw [k_1]; omega)).trans (by rw [k_1])) (fun z_6 hz_7 => ?_)
  refine r_sld C hX (by omega) a1 (by rw [← h1, show z_6.toInt.toNat = nn + 1 from by omega]) dL_law_1093 ?_
  refine r_callV C (k := 39) [.int (a1)] [] (c_X9_risk E ad σ  (a1) hM1) lv_L_137 (by decide) rfl rfl (by decide) (by decide) rfl rfl (Nat.le_of_ble_eq_true rfl) dL_law_1094 (fun r_8 τ_9 h_10 => ?_)
  have hJ1 : Rel τ_9 := Rel_off hJ h_10.1 (by decide)
  have hJ1 : Rel3 τ_9 := Rel3_off hJ3 hJ1 (h_10.1 5 (by decide)) (h_10.1 40 (by decide)) (h_10.1 41 (by decide)) (h_10.1 43 (by decide)) (by rw [h_10.1 39 (by decide)]) (by rw [h_10.1 39 (by decide)]; exact Int.le_refl _)
  refine r_pop C dL_law_1097 rfl ?_
  refine r_goto C 1305 dL_law_1098 (by decide) ?_
  exact K τ_9 hJ1
set_option maxHeartbeats 4000000 in
set_option maxRecDepth 100000 in
theorem case_29 {E : Ev} {ad : Nat → Nat} {G : Gm} {b Lx nn : Nat} {xs : Nat → Int32} (C : Cx E ad G RL cL_law 4 20) (hX : va_X b Lx xs (gS G) (gS G).heap ∧ b < (gS G).heap.size ∧ ¬ Aw ad b) (i a1 a2 a3 : Int32) (hi : i.toInt = nn) (hn : nn + 4 ≤ Lx) (hL : Lx ≤ 2048) (h1 : xs (nn + 1) = a1) (h2 : xs (nn + 2) = a2) (h3 : xs (nn + 3) = a3) (σ : Sg) (hJ : Rel3 σ) (K : ∀ τ : Sg, Rel3 τ → At E ad G 4 1305 [(3, .int (i)), (2, .ref (ad 39)), (1, .ref (ad 0)), (0, .ref (b))] [] τ) : At E ad G 4 1101 [(3, .int (i)), (2, .ref (ad 39)), (1, .ref (ad 0)), (0, .ref (b))] [] σ := by
  have k_0 : (0 : Int32).toInt = 0 := by decide
  have k_1 : (1 : Int32).toInt = 1 := by decide
  have k_2 : (2 : Int32).toInt = 2 := by decide
  have k_3 : (3 : Int32).toInt = 3 := by decide
  have hJ3 := hJ
  replace hJ := hJ.1
  have hI := hJ.1
  have hM := hJ.2.1
  have hE := hJ.2.2.1
  unfold EQn at hE
  have hIu := hI
  unfold IC at hIu
  obtain ⟨n0, n1, n8, n17, n29, n39, n44, -⟩ := id hM
  refine r_aload_n C 2 dL_law_1101 rfl rfl ?_
  refine r_aload_n C 3 dL_law_1102 rfl rfl ?_
  refine r_iload_n C 0 dL_law_1103 rfl rfl ?_
  refine r_iconst C (1) dL_law_1104 (by decide) ?_
  refine r_iadd C dL_law_1105 ?_
  refine r_nm (P := fun z => z.toInt = i.toInt + 1) ((ta_add (by rw [k_1]; omega)).trans (by rw [k_1])) (fun z_1 hz_2 => ?_)
  refine r_sld C hX (by omega) a1 (by rw [← h1, show z_1.toInt.toNat = nn + 1 from by omega]) dL_law_1106 ?_
  refine r_aload_n C 3 dL_law_1107 rfl rfl ?_
  refine r_iload_n C 0 dL_law_1108 rfl rfl ?_
  refine r_iconst C (2) dL_law_1109 (by decide) ?_
  refine r_iadd C dL_law_1110 ?_
  refine r_nm (P := fun z => z.toInt = i.toInt + 2) ((ta_add (by rw [k_2]; omega)).trans (by rw [k_2])) (fun z_3 hz_4 => ?_)
  refine r_sld C hX (by omega) a2 (by rw [← h2, show z_3.toInt.toNat = nn + 2 from by omega]) dL_law_1111 ?_
  refine r_aload_n C 3 dL_law_1112 rfl rfl ?_
  refine r_iload_n C 0 dL_law_1113 rfl rfl ?_
  refine r_iconst C (3) dL_law_1114 (by decide) ?_
  refine r_iadd C dL_law_1115 ?_
  refine r_nm (P := fun z => z.toInt = i.toInt + 3) ((ta_add (by rw [k_3]; omega)).trans (by rw [k_3])) (fun z_5 hz_6 => ?_)
  refine r_sld C hX (by omega) a3 (by rw [← h3, show z_5.toInt.toNat = nn + 3 from by omega]) dL_law_1116 ?_
  refine r_callV C (k := 0) [.int (a1), .int (a2), .int (a3)] [] (c_X8_right E ad σ  (a1) (a2) (a3) hI) lv_L_138 (by decide) rfl rfl (by decide) (by decide) rfl rfl (Nat.le_of_ble_eq_true rfl) dL_law_1117 (fun r_7 τ_8 h_9 => ?_)
  obtain ⟨eh_9, h_9⟩ := h_9
  obtain rfl := eh_9.symm
  have hM1 := hM
  refine r_pop C dL_law_1120 rfl ?_
  refine r_aload_n C 1 dL_law_1121 rfl rfl ?_
  refine r_aload_n C 3 dL_law_1122 rfl rfl ?_
  refine r_iload_n C 0 dL_law_1123 rfl rfl ?_
  refine r_iconst C (1) dL_law_1124 (by decide) ?_
  refine r_iadd C dL_law_1125 ?_
  refine r_nm (P := fun z => z.toInt = i.toInt + 1) ((ta_add (by rw [k_1]; omega)).trans (by rw [k_1])) (fun z_10 hz_11 => ?_)
  refine r_sld C hX (by omega) a1 (by rw [← h1, show z_10.toInt.toNat = nn + 1 from by omega]) dL_law_1126 ?_
  refine r_aload_n C 3 dL_law_1127 rfl rfl ?_
  refine r_iload_n C 0 dL_law_1128 rfl rfl ?_
  refine r_iconst C (2) dL_law_1129 (by decide) ?_
  refine r_iadd C dL_law_1130 ?_
  refine r_nm (P := fun z => z.toInt = i.toInt + 2) ((ta_add (by rw [k_2]; omega)).trans (by rw [k_2])) (fun z_12 hz_13 => ?_)
  refine r_sld C hX (by omega) a2 (by rw [← h2, show z_12.toInt.toNat = nn + 2 from by omega]) dL_law_1131 ?_
  refine r_aload_n C 3 dL_law_1132 rfl rfl ?_
  refine r_iload_n C 0 dL_law_1133 rfl rfl ?_
  refine r_iconst C (3) dL_law_1134 (by decide) ?_
  refine r_iadd C dL_law_1135 ?_
  refine r_nm (P := fun z => z.toInt = i.toInt + 3) ((ta_add (by rw [k_3]; omega)).trans (by rw [k_3])) (fun z_14 hz_15 => ?_)
  refine r_sld C hX (by omega) a3 (by rw [← h3, show z_14.toInt.toNat = nn + 3 from by omega]) dL_law_1136 ?_
  refine r_callV C (k := 39) [.int (a1), .int (a2), .int (a3)] [] (c_X9_right E ad σ  (a1) (a2) (a3) hM1) lv_L_141 (by decide) rfl rfl (by decide) (by decide) rfl rfl (Nat.le_of_ble_eq_true rfl) dL_law_1137 (fun r_16 τ_17 h_18 => ?_)
  have hJ1 : Rel τ_17 := Rel_off hJ h_18.1 (by decide)
  have hJ1 : Rel3 τ_17 := Rel3_off hJ3 hJ1 (h_18.1 5 (by decide)) (h_18.1 40 (by decide)) (h_18.1 41 (by decide)) (h_18.1 43 (by decide)) (by rw [h_18.1 39 (by decide)]) (by rw [h_18.1 39 (by decide)]; exact Int.le_refl _)
  refine r_pop C dL_law_1140 rfl ?_
  refine r_goto C 1305 dL_law_1141 (by decide) ?_
  exact K τ_17 hJ1
