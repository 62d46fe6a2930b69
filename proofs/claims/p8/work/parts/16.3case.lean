set_option maxHeartbeats 4000000 in
set_option maxRecDepth 100000 in
theorem case_10 {E : Ev} {ad : Nat → Nat} {G : Gm} {b Lx nn : Nat} {xs : Nat → Int32} (C : Cx E ad G RL cL_law 4 20) (hX : va_X b Lx xs (gS G) (gS G).heap ∧ b < (gS G).heap.size ∧ ¬ Aw ad b) (i a1 a2 a3 : Int32) (hi : i.toInt = nn) (hn : nn + 4 ≤ Lx) (hL : Lx ≤ 2048) (h1 : xs (nn + 1) = a1) (h2 : xs (nn + 2) = a2) (h3 : xs (nn + 3) = a3) (σ : Sg) (hJ : Rel3 σ) (K : ∀ τ : Sg, Rel3 τ → At E ad G 4 1305 [(3, .int (i)), (2, .ref (ad 39)), (1, .ref (ad 0)), (0, .ref (b))] [] τ) : At E ad G 4 568 [(3, .int (i)), (2, .ref (ad 39)), (1, .ref (ad 0)), (0, .ref (b))] [] σ := by
  have k_0 : (0 : Int32).toInt = 0 := by decide
  have k_1 : (1 : Int32).toInt = 1 := by decide
  have k_2 : (2 : Int32).toInt = 2 := by decide
  have k_3 : (3 : Int32).toInt = 3 := by decide
  have hJ3 := hJ
  replace hJ := hJ.1
  have hI := hJ.1
  have hM := hJ.2.1
  have hE := hJ.2.2.1
  unfold EQn at hE
  have hIu := hI
  unfold IC at hIu
  obtain ⟨n0, n1, n8, n17, n29, n39, n44, -⟩ := id hM
  refine r_aload_n C 2 dL_law_568 rfl rfl ?_
  refine r_aload_n C 3 dL_law_569 rfl rfl ?_
  refine r_iload_n C 0 dL_law_570 rfl rfl ?_
  refine r_iconst C (1) dL_law_571 (by decide) ?_
  refine r_iadd C dL_law_572 ?_
  refine r_nm (P := fun z => z.toInt = i.toInt + 1) ((ta_add (by rw [k_1]; omega)).trans (by rw [k_1])) (fun z_1 hz_2 => ?_)
  refine r_sld C hX (by omega) a1 (by rw [← h1, show z_1.toInt.toNat = nn + 1 from by omega]) dL_law_573 ?_
  refine r_callV C (k := 0) [.int (a1)] [] (c_X8_strike E ad σ  (a1) hI) lv_L_62 (by decide) rfl rfl (by decide) (by decide) rfl rfl (Nat.le_of_ble_eq_true rfl) dL_law_574 (fun r_3 τ_4 h_5 => ?_)
  have hK1 : ∀ k, 39 ≤ k → τ_4 k = σ k := by
    exact keepO h_5.1 (by decide)
  have hM1 := IMc hK1 hM
  refine r_pop C dL_law_577 rfl ?_
  refine r_aload_n C 1 dL_law_578 rfl rfl ?_
  refine r_aload_n C 3 dL_law_579 rfl rfl ?_
  refine r_iload_n C 0 dL_law_580 rfl rfl ?_
  refine r_iconst C (1) dL_law_581 (by decide) ?_
  refine r_iadd C dL_law_582 ?_
  refine r_nm (P := fun z => z.toInt = i.toInt + 1) ((ta_add (by rw [k_1]; omega)).trans (by rw [k_1])) (fun z_6 hz_7 => ?_)
  refine r_sld C hX (by omega) a1 (by rw [← h1, show z_6.toInt.toNat = nn + 1 from by omega]) dL_law_583 ?_
  refine r_callV C (k := 39) [.int (a1)] [] (c_X9_strike E ad τ_4  (a1) hM1) lv_L_65 (by decide) rfl rfl (by decide) (by decide) rfl rfl (Nat.le_of_ble_eq_true rfl) dL_law_584 (fun r_8 τ_9 h_10 => ?_)
  have hJ1 : Rel τ_9 := Rel_two hJ h_5.1 h_10.1 (by decide)
  have hJ1 : Rel3 τ_9 := Rel3_off hJ3 hJ1 ((h_10.1 5 (by decide)).trans (h_5.1 5 (by decide))) ((h_10.1 40 (by decide)).trans (h_5.1 40 (by decide))) ((h_10.1 41 (by decide)).trans (h_5.1 41 (by decide))) ((h_10.1 43 (by decide)).trans (h_5.1 43 (by decide))) (by rw [h_10.1 39 (by decide), h_5.1 39 (by decide)]) (by rw [h_10.1 39 (by decide), h_5.1 39 (by decide)]; exact Int.le_refl _)
  refine r_pop C dL_law_587 rfl ?_
  refine r_goto C 1305 dL_law_588 (by decide) ?_
  exact K τ_9 hJ1
set_option maxHeartbeats 4000000 in
set_option maxRecDepth 100000 in
theorem case_11 {E : Ev} {ad : Nat → Nat} {G : Gm} {b Lx nn : Nat} {xs : Nat → Int32} (C : Cx E ad G RL cL_law 4 20) (hX : va_X b Lx xs (gS G) (gS G).heap ∧ b < (gS G).heap.size ∧ ¬ Aw ad b) (i a1 a2 a3 : Int32) (hi : i.toInt = nn) (hn : nn + 4 ≤ Lx) (hL : Lx ≤ 2048) (h1 : xs (nn + 1) = a1) (h2 : xs (nn + 2) = a2) (h3 : xs (nn + 3) = a3) (σ : Sg) (hJ : Rel3 σ) (K : ∀ τ : Sg, Rel3 τ → At E ad G 4 1305 [(3, .int (i)), (2, .ref (ad 39)), (1, .ref (ad 0)), (0, .ref (b))] [] τ) : At E ad G 4 591 [(3, .int (i)), (2, .ref (ad 39)), (1, .ref (ad 0)), (0, .ref (b))] [] σ := by
  have k_0 : (0 : Int32).toInt = 0 := by decide
  have k_1 : (1 : Int32).toInt = 1 := by decide
  have k_2 : (2 : Int32).toInt = 2 := by decide
  have k_3 : (3 : Int32).toInt = 3 := by decide
  have hJ3 := hJ
  replace hJ := hJ.1
  have hI := hJ.1
  have hM := hJ.2.1
  have hE := hJ.2.2.1
  unfold EQn at hE
  have hIu := hI
  unfold IC at hIu
  obtain ⟨n0, n1, n8, n17, n29, n39, n44, -⟩ := id hM
  refine r_aload_n C 2 dL_law_591 rfl rfl ?_
  refine r_aload_n C 3 dL_law_592 rfl rfl ?_
  refine r_iload_n C 0 dL_law_593 rfl rfl ?_
  refine r_iconst C (1) dL_law_594 (by decide) ?_
  refine r_iadd C dL_law_595 ?_
  refine r_nm (P := fun z => z.toInt = i.toInt + 1) ((ta_add (by rw [k_1]; omega)).trans (by rw [k_1])) (fun z_1 hz_2 => ?_)
  refine r_sld C hX (by omega) a1 (by rw [← h1, show z_1.toInt.toNat = nn + 1 from by omega]) dL_law_596 ?_
  refine r_aload_n C 3 dL_law_597 rfl rfl ?_
  refine r_iload_n C 0 dL_law_598 rfl rfl ?_
  refine r_iconst C (2) dL_law_599 (by decide) ?_
  refine r_iadd C dL_law_600 ?_
  refine r_nm (P := fun z => z.toInt = i.toInt + 2) ((ta_add (by rw [k_2]; omega)).trans (by rw [k_2])) (fun z_3 hz_4 => ?_)
  refine r_sld C hX (by omega) a2 (by rw [← h2, show z_3.toInt.toNat = nn + 2 from by omega]) dL_law_601 ?_
  refine r_callV C (k := 0) [.int (a1), .int (a2)] [] (c_X8_ruleOf E ad σ  (a1) (a2) hI) lv_L_66 (by decide) rfl rfl (by decide) (by decide) rfl rfl (Nat.le_of_ble_eq_true rfl) dL_law_602 (fun r_5 τ_6 h_7 => ?_)
  obtain ⟨eh_7, h_7⟩ := h_7
  obtain rfl := eh_7.symm
  have hM1 := hM
  refine r_pop C dL_law_605 rfl ?_
  refine r_aload_n C 1 dL_law_606 rfl rfl ?_
  refine r_aload_n C 3 dL_law_607 rfl rfl ?_
  refine r_iload_n C 0 dL_law_608 rfl rfl ?_
  refine r_iconst C (1) dL_law_609 (by decide) ?_
  refine r_iadd C dL_law_610 ?_
  refine r_nm (P := fun z => z.toInt = i.toInt + 1) ((ta_add (by rw [k_1]; omega)).trans (by rw [k_1])) (fun z_8 hz_9 => ?_)
  refine r_sld C hX (by omega) a1 (by rw [← h1, show z_8.toInt.toNat = nn + 1 from by omega]) dL_law_611 ?_
  refine r_aload_n C 3 dL_law_612 rfl rfl ?_
  refine r_iload_n C 0 dL_law_613 rfl rfl ?_
  refine r_iconst C (2) dL_law_614 (by decide) ?_
  refine r_iadd C dL_law_615 ?_
  refine r_nm (P := fun z => z.toInt = i.toInt + 2) ((ta_add (by rw [k_2]; omega)).trans (by rw [k_2])) (fun z_10 hz_11 => ?_)
  refine r_sld C hX (by omega) a2 (by rw [← h2, show z_10.toInt.toNat = nn + 2 from by omega]) dL_law_616 ?_
  refine r_callV C (k := 39) [.int (a1), .int (a2)] [] (c_X9_ruleOf E ad σ  (a1) (a2) hM1) lv_L_69 (by decide) rfl rfl (by decide) (by decide) rfl rfl (Nat.le_of_ble_eq_true rfl) dL_law_617 (fun r_12 τ_13 h_14 => ?_)
  obtain ⟨eh_14, h_14⟩ := h_14
  obtain rfl := eh_14.symm
  have hJ1 := hJ
  have hJ1 : Rel3 σ := hJ3
  refine r_pop C dL_law_620 rfl ?_
  refine r_goto C 1305 dL_law_621 (by decide) ?_
  exact K σ hJ1
set_option maxHeartbeats 4000000 in
set_option maxRecDepth 100000 in
theorem case_12 {E : Ev} {ad : Nat → Nat} {G : Gm} {b Lx nn : Nat} {xs : Nat → Int32} (C : Cx E ad G RL cL_law 4 20) (hX : va_X b Lx xs (gS G) (gS G).heap ∧ b < (gS G).heap.size ∧ ¬ Aw ad b) (i a1 a2 a3 : Int32) (hi : i.toInt = nn) (hn : nn + 4 ≤ Lx) (hL : Lx ≤ 2048) (h1 : xs (nn + 1) = a1) (h2 : xs (nn + 2) = a2) (h3 : xs (nn + 3) = a3) (σ : Sg) (hJ : Rel3 σ) (K : ∀ τ : Sg, Rel3 τ → At E ad G 4 1305 [(3, .int (i)), (2, .ref (ad 39)), (1, .ref (ad 0)), (0, .ref (b))] [] τ) : At E ad G 4 624 [(3, .int (i)), (2, .ref (ad 39)), (1, .ref (ad 0)), (0, .ref (b))] [] σ := by
  have k_0 : (0 : Int32).toInt = 0 := by decide
  have k_1 : (1 : Int32).toInt = 1 := by decide
  have k_2 : (2 : Int32).toInt = 2 := by decide
  have k_3 : (3 : Int32).toInt = 3 := by decide
  have hJ3 := hJ
  replace hJ := hJ.1
  have hI := hJ.1
  have hM := hJ.2.1
  have hE := hJ.2.2.1
  unfold EQn at hE
  have hIu := hI
  unfold IC at hIu
  obtain ⟨n0, n1, n8, n17, n29, n39, n44, -⟩ := id hM
  refine r_aload_n C 2 dL_law_624 rfl rfl ?_
  refine r_aload_n C 3 dL_law_625 rfl rfl ?_
  refine r_iload_n C 0 dL_law_626 rfl rfl ?_
  refine r_iconst C (1) dL_law_627 (by decide) ?_
  refine r_iadd C dL_law_628 ?_
  refine r_nm (P := fun z => z.toInt = i.toInt + 1) ((ta_add (by rw [k_1]; omega)).trans (by rw [k_1])) (fun z_1 hz_2 => ?_)
  refine r_sld C hX (by omega) a1 (by rw [← h1, show z_1.toInt.toNat = nn + 1 from by omega]) dL_law_629 ?_
  refine r_aload_n C 3 dL_law_630 rfl rfl ?_
  refine r_iload_n C 0 dL_law_631 rfl rfl ?_
  refine r_iconst C (2) dL_law_632 (by decide) ?_
  refine r_iadd C dL_law_633 ?_
  refine r_nm (P := fun z => z.toInt = i.toInt + 2) ((ta_add (by rw [k_2]; omega)).trans (by rw [k_2])) (fun z_3 hz_4 => ?_)
  refine r_sld C hX (by omega) a2 (by rw [← h2, show z_3.toInt.toNat = nn + 2 from by omega]) dL_law_634 ?_
  refine r_aload_n C 3 dL_law_635 rfl rfl ?_
  refine r_iload_n C 0 dL_law_636 rfl rfl ?_
  refine r_iconst C (3) dL_law_637 (by decide) ?_
  refine r_iadd C dL_law_638 ?_
  refine r_nm (P := fun z => z.toInt = i.toInt + 3) ((ta_add (by rw [k_3]; omega)).trans (by rw [k_3])) (fun z_5 hz_6 => ?_)
  refine r_sld C hX (by omega) a3 (by rw [← h3, show z_5.toInt.toNat = nn + 3 from by omega]) dL_law_639 ?_
  refine r_callV C (k := 0) [.int (a1), .int (a2), .int (a3)] [] (c_X8_ask E ad σ  (a1) (a2) (a3) hI) lv_L_70 (by decide) rfl rfl (by decide) (by decide) rfl rfl (Nat.le_of_ble_eq_true rfl) dL_law_640 (fun r_7 τ_8 h_9 => ?_)
  have hK1 : ∀ k, 39 ≤ k → τ_8 k = σ k := by
    rcases h_9 with h | h | h
    · exact fun k _ => by rw [h.2.2]
    · exact fun k _ => by rw [h.2.2.2]
    · exact keepO h.2.2.2.1 (by decide)
  have hM1 := IMc hK1 hM
  refine r_pop C dL_law_643 rfl ?_
  refine r_aload_n C 1 dL_law_644 rfl rfl ?_
  refine r_aload_n C 3 dL_law_645 rfl rfl ?_
  refine r_iload_n C 0 dL_law_646 rfl rfl ?_
  refine r_iconst C (1) dL_law_647 (by decide) ?_
  refine r_iadd C dL_law_648 ?_
  refine r_nm (P := fun z => z.toInt = i.toInt + 1) ((ta_add (by rw [k_1]; omega)).trans (by rw [k_1])) (fun z_10 hz_11 => ?_)
  refine r_sld C hX (by omega) a1 (by rw [← h1, show z_10.toInt.toNat = nn + 1 from by omega]) dL_law_649 ?_
  refine r_aload_n C 3 dL_law_650 rfl rfl ?_
  refine r_iload_n C 0 dL_law_651 rfl rfl ?_
  refine r_iconst C (2) dL_law_652 (by decide) ?_
  refine r_iadd C dL_law_653 ?_
  refine r_nm (P := fun z => z.toInt = i.toInt + 2) ((ta_add (by rw [k_2]; omega)).trans (by rw [k_2])) (fun z_12 hz_13 => ?_)
  refine r_sld C hX (by omega) a2 (by rw [← h2, show z_12.toInt.toNat = nn + 2 from by omega]) dL_law_654 ?_
  refine r_aload_n C 3 dL_law_655 rfl rfl ?_
  refine r_iload_n C 0 dL_law_656 rfl rfl ?_
  refine r_iconst C (3) dL_law_657 (by decide) ?_
  refine r_iadd C dL_law_658 ?_
  refine r_nm (P := fun z => z.toInt = i.toInt + 3) ((ta_add (by rw [k_3]; omega)).trans (by rw [k_3])) (fun z_14 hz_15 => ?_)
  refine r_sld C hX (by omega) a3 (by rw [← h3, show z_14.toInt.toNat = nn + 3 from by omega]) dL_law_659 ?_
  refine r_callV C (k := 39) [.int (a1), .int (a2), .int (a3)] [] (c_X9_ask E ad τ_8  (a1) (a2) (a3) hM1) lv_L_73 (by decide) rfl rfl (by decide) (by decide) rfl rfl (Nat.le_of_ble_eq_true rfl) dL_law_660 (fun r_16 τ_17 h_18 => ?_)
  have hJ2 : Rel τ_17 ∧ (r_7 : Int32).toInt = (r_16 : Int32).toInt := by
    have e1 : τ_8 39 = σ 39 := hK1 39 (by omega)
    have e2 : τ_8 42 = σ 42 := hK1 42 (by omega)
    have t := ask_eq (u := a3) (n := σ 39 1) n1 rfl hJ.2.2.2.2
    rw [e1, e2] at h_18
    rcases h_9 with h | h | h <;> rcases h_18 with g | g | g
    · exact ⟨by rw [g.2.2, h.2.2]; exact hJ, by omega⟩
    · exact absurd ⟨g.1.1, g.1.2.1, g.1.2.2.1, g.1.2.2.2.1, t.mpr g.1.2.2.2.2⟩ h.1
    · exact absurd ⟨g.1.1, g.1.2.1, g.1.2.2.1, g.1.2.2.2.1, t.mpr g.1.2.2.2.2⟩ h.1
    · exact absurd ⟨h.1.1, h.1.2.1, h.1.2.2.1, h.1.2.2.2.1, t.mp h.1.2.2.2.2⟩ g.1
    · exact ⟨by rw [g.2.2.2, h.2.2.2]; exact hJ, by omega⟩
    · omega
    · exact absurd ⟨h.1.1, h.1.2.1, h.1.2.2.1, h.1.2.2.2.1, t.mp h.1.2.2.2.2⟩ g.1
    · omega
    · obtain ⟨v, h7, hr, o1, x1, _⟩ := h
      obtain ⟨_, _, gr, o2, y1, y2, _, _, y3, y4⟩ := g
      have e17 : (τ_8 39 17).toInt.toNat = (σ 39 17).toInt.toNat := by rw [e1]
      exact ⟨Rel_ask hJ ⟨v.1, v.2.1⟩ h7 o1 x1 o2 (by rw [e1]; exact y1) (fun j hj => by rw [e1]; exact y2 j hj) (by rw [e17]; exact y3) (by rw [e17]; exact y4), by omega⟩
  have hJ1 := hJ2.1
  have eqr := hJ2.2
  have kc : τ_8 5 = σ 5 := by
    rcases h_9 with h | h | h
    · rw [h.2.2]
    · rw [h.2.2.2]
    · exact h.2.2.2.1 5 (by decide)
  have km : τ_17 5 = τ_8 5 ∧ τ_17 40 = τ_8 40 ∧ τ_17 41 = τ_8 41 ∧ τ_17 43 = τ_8 43 ∧ (τ_17 39 1).toInt = (τ_8 39 1).toInt ∧ (τ_8 39 0).toInt ≤ (τ_17 39 0).toInt := by
    rcases h_18 with g | g | g
    · rw [g.2.2]; exact ⟨rfl, rfl, rfl, rfl, rfl, Int.le_refl _⟩
    · rw [g.2.2.2]; exact ⟨rfl, rfl, rfl, rfl, rfl, Int.le_refl _⟩
    · exact ⟨g.2.2.2.1 5 (by decide), g.2.2.2.1 40 (by decide), g.2.2.2.1 41 (by decide), g.2.2.2.1 43 (by decide), by rw [g.2.2.2.2.2.1 1 (by decide)], by rw [g.2.2.2.2.2.1 0 (by decide)]; exact Int.le_refl _⟩
  have hJ1 : Rel3 τ_17 := Rel3_off hJ3 hJ1 (km.1.trans kc) (km.2.1.trans (hK1 40 (by omega))) (km.2.2.1.trans (hK1 41 (by omega))) (km.2.2.2.1.trans (hK1 43 (by omega))) (by rw [km.2.2.2.2.1, hK1 39 (by omega)]) (by have t := km.2.2.2.2.2; rw [hK1 39 (by omega)] at t; exact t)
  refine r_pop C dL_law_663 rfl ?_
  refine r_goto C 1305 dL_law_664 (by decide) ?_
  exact K τ_17 hJ1
set_option maxHeartbeats 4000000 in
set_option maxRecDepth 100000 in
theorem case_13 {E : Ev} {ad : Nat → Nat} {G : Gm} {b Lx nn : Nat} {xs : Nat → Int32} (C : Cx E ad G RL cL_law 4 20) (hX : va_X b Lx xs (gS G) (gS G).heap ∧ b < (gS G).heap.size ∧ ¬ Aw ad b) (i a1 a2 a3 : Int32) (hi : i.toInt = nn) (hn : nn + 4 ≤ Lx) (hL : Lx ≤ 2048) (h1 : xs (nn + 1) = a1) (h2 : xs (nn + 2) = a2) (h3 : xs (nn + 3) = a3) (σ : Sg) (hJ : Rel3 σ) (K : ∀ τ : Sg, Rel3 τ → At E ad G 4 1305 [(3, .int (i)), (2, .ref (ad 39)), (1, .ref (ad 0)), (0, .ref (b))] [] τ) : At E ad G 4 667 [(3, .int (i)), (2, .ref (ad 39)), (1, .ref (ad 0)), (0, .ref (b))] [] σ := by
  have k_0 : (0 : Int32).toInt = 0 := by decide
  have k_1 : (1 : Int32).toInt = 1 := by decide
  have k_2 : (2 : Int32).toInt = 2 := by decide
  have k_3 : (3 : Int32).toInt = 3 := by decide
  have hJ3 := hJ
  replace hJ := hJ.1
  have hI := hJ.1
  have hM := hJ.2.1
  have hE := hJ.2.2.1
  unfold EQn at hE
  have hIu := hI
  unfold IC at hIu
  obtain ⟨n0, n1, n8, n17, n29, n39, n44, -⟩ := id hM
  refine r_aload_n C 2 dL_law_667 rfl rfl ?_
  refine r_aload_n C 3 dL_law_668 rfl rfl ?_
  refine r_iload_n C 0 dL_law_669 rfl rfl ?_
  refine r_iconst C (1) dL_law_670 (by decide) ?_
  refine r_iadd C dL_law_671 ?_
  refine r_nm (P := fun z => z.toInt = i.toInt + 1) ((ta_add (by rw [k_1]; omega)).trans (by rw [k_1])) (fun z_1 hz_2 => ?_)
  refine r_sld C hX (by omega) a1 (by rw [← h1, show z_1.toInt.toNat = nn + 1 from by omega]) dL_law_672 ?_
  refine r_aload_n C 3 dL_law_673 rfl rfl ?_
  refine r_iload_n C 0 dL_law_674 rfl rfl ?_
  refine r_iconst C (2) dL_law_675 (by decide) ?_
  refine r_iadd C dL_law_676 ?_
  refine r_nm (P := fun z => z.toInt = i.toInt + 2) ((ta_add (by rw [k_2]; omega)).trans (by rw [k_2])) (fun z_3 hz_4 => ?_)
  refine r_sld C hX (by omega) a2 (by rw [← h2, show z_3.toInt.toNat = nn + 2 from by omega]) dL_law_677 ?_
  refine r_callV C (k := 0) [.int (a1), .int (a2)] [] (c_X8_hold E ad σ  (a1) (a2) hI) lv_L_74 (by decide) rfl rfl (by decide) (by decide) rfl rfl (Nat.le_of_ble_eq_true rfl) dL_law_678 (fun r_5 τ_6 h_7 => ?_)
  have hK1 : ∀ k, 39 ≤ k → τ_6 k = σ k := by
    exact keepO h_7.1 (by decide)
  have hM1 := IMc hK1 hM
  refine r_pop C dL_law_681 rfl ?_
  refine r_aload_n C 1 dL_law_682 rfl rfl ?_
  refine r_aload_n C 3 dL_law_683 rfl rfl ?_
  refine r_iload_n C 0 dL_law_684 rfl rfl ?_
  refine r_iconst C (1) dL_law_685 (by decide) ?_
  refine r_iadd C dL_law_686 ?_
  refine r_nm (P := fun z => z.toInt = i.toInt + 1) ((ta_add (by rw [k_1]; omega)).trans (by rw [k_1])) (fun z_8 hz_9 => ?_)
  refine r_sld C hX (by omega) a1 (by rw [← h1, show z_8.toInt.toNat = nn + 1 from by omega]) dL_law_687 ?_
  refine r_aload_n C 3 dL_law_688 rfl rfl ?_
  refine r_iload_n C 0 dL_law_689 rfl rfl ?_
  refine r_iconst C (2) dL_law_690 (by decide) ?_
  refine r_iadd C dL_law_691 ?_
  refine r_nm (P := fun z => z.toInt = i.toInt + 2) ((ta_add (by rw [k_2]; omega)).trans (by rw [k_2])) (fun z_10 hz_11 => ?_)
  refine r_sld C hX (by omega) a2 (by rw [← h2, show z_10.toInt.toNat = nn + 2 from by omega]) dL_law_692 ?_
  refine r_callV C (k := 39) [.int (a1), .int (a2)] [] (c_X9_hold E ad τ_6  (a1) (a2) hM1) lv_L_77 (by decide) rfl rfl (by decide) (by decide) rfl rfl (Nat.le_of_ble_eq_true rfl) dL_law_693 (fun r_12 τ_13 h_14 => ?_)
  have hJ1 : Rel τ_13 := by
    have t := Rel_off hJ h_7.1 (by decide)
    rcases h_14.1 with e | ⟨j, e, hv⟩
    · rw [e]; exact t
    · rw [e]; exact Rel_58 t hv
  have hJ1 : Rel3 τ_13 := by
    rcases h_14.1 with e | ⟨j, e, _⟩
    · exact Rel3_off hJ3 hJ1 (by rw [e, h_7.1 5 (by decide)]) (by rw [e, h_7.1 40 (by decide)]) (by rw [e, h_7.1 41 (by decide)]) (by rw [e, h_7.1 43 (by decide)]) (by rw [e, h_7.1 39 (by decide)]) (by rw [e, h_7.1 39 (by decide)]; exact Int.le_refl _)
    · exact Rel3_off hJ3 hJ1 (by rw [e, sUp_ne (by decide), h_7.1 5 (by decide)]) (by rw [e, sUp_ne (by decide), h_7.1 40 (by decide)]) (by rw [e, sUp_ne (by decide), h_7.1 41 (by decide)]) (by rw [e, sUp_ne (by decide), h_7.1 43 (by decide)]) (by rw [e, sUp_ne (by decide), h_7.1 39 (by decide)]) (by rw [e, sUp_ne (by decide), h_7.1 39 (by decide)]; exact Int.le_refl _)
  refine r_pop C dL_law_696 rfl ?_
  refine r_goto C 1305 dL_law_697 (by decide) ?_
  exact K τ_13 hJ1
set_option maxHeartbeats 4000000 in
set_option maxRecDepth 100000 in
theorem case_14 {E : Ev} {ad : Nat → Nat} {G : Gm} {b Lx nn : Nat} {xs : Nat → Int32} (C : Cx E ad G RL cL_law 4 20) (hX : va_X b Lx xs (gS G) (gS G).heap ∧ b < (gS G).heap.size ∧ ¬ Aw ad b) (i a1 a2 a3 : Int32) (hi : i.toInt = nn) (hn : nn + 4 ≤ Lx) (hL : Lx ≤ 2048) (h1 : xs (nn + 1) = a1) (h2 : xs (nn + 2) = a2) (h3 : xs (nn + 3) = a3) (σ : Sg) (hJ : Rel3 σ) (K : ∀ τ : Sg, Rel3 τ → At E ad G 4 1305 [(3, .int (i)), (2, .ref (ad 39)), (1, .ref (ad 0)), (0, .ref (b))] [] τ) : At E ad G 4 700 [(3, .int (i)), (2, .ref (ad 39)), (1, .ref (ad 0)), (0, .ref (b))] [] σ := by
  have k_0 : (0 : Int32).toInt = 0 := by decide
  have k_1 : (1 : Int32).toInt = 1 := by decide
  have k_2 : (2 : Int32).toInt = 2 := by decide
  have k_3 : (3 : Int32).toInt = 3 := by decide
  have hJ3 := hJ
  replace hJ := hJ.1
  have hI := hJ.1
  have hM := hJ.2.1
  have hE := hJ.2.2.1
  unfold EQn at hE
  have hIu := hI
  unfold IC at hIu
  obtain ⟨n0, n1, n8, n17, n29, n39, n44, -⟩ := id hM
  refine r_aload_n C 2 dL_law_700 rfl rfl ?_
  refine r_aload_n C 3 dL_law_701 rfl rfl ?_
  refine r_iload_n C 0 dL_law_702 rfl rfl ?_
  refine r_iconst C (1) dL_law_703 (by decide) ?_
  refine r_iadd C dL_law_704 ?_
  refine r_nm (P := fun z => z.toInt = i.toInt + 1) ((ta_add (by rw [k_1]; omega)).trans (by rw [k_1])) (fun z_1 hz_2 => ?_)
  refine r_sld C hX (by omega) a1 (by rw [← h1, show z_1.toInt.toNat = nn + 1 from by omega]) dL_law_705 ?_
  refine r_callV C (k := 0) [.int (a1)] [] (c_X8_isolate E ad σ  (a1) hI) lv_L_78 (by decide) rfl rfl (by decide) (by decide) rfl rfl (Nat.le_of_ble_eq_true rfl) dL_law_706 (fun r_3 τ_4 h_5 => ?_)
  have hK1 : ∀ k, 39 ≤ k → τ_4 k = σ k := by
    exact keepO h_5.1 (by decide)
  have hM1 := IMc hK1 hM
  refine r_pop C dL_law_709 rfl ?_
  refine r_aload_n C 1 dL_law_710 rfl rfl ?_
  refine r_aload_n C 3 dL_law_711 rfl rfl ?_
  refine r_iload_n C 0 dL_law_712 rfl rfl ?_
  refine r_iconst C (1) dL_law_713 (by decide) ?_
  refine r_iadd C dL_law_714 ?_
  refine r_nm (P := fun z => z.toInt = i.toInt + 1) ((ta_add (by rw [k_1]; omega)).trans (by rw [k_1])) (fun z_6 hz_7 => ?_)
  refine r_sld C hX (by omega) a1 (by rw [← h1, show z_6.toInt.toNat = nn + 1 from by omega]) dL_law_715 ?_
  refine r_callV C (k := 39) [.int (a1)] [] (c_X9_isolate E ad τ_4  (a1) hM1) lv_L_81 (by decide) rfl rfl (by decide) (by decide) rfl rfl (Nat.le_of_ble_eq_true rfl) dL_law_716 (fun r_8 τ_9 h_10 => ?_)
  have hJ1 : Rel τ_9 := Rel_two hJ h_5.1 h_10.1 (by decide)
  have hJ1 : Rel3 τ_9 := Rel3_off hJ3 hJ1 ((h_10.1 5 (by decide)).trans (h_5.1 5 (by decide))) ((h_10.1 40 (by decide)).trans (h_5.1 40 (by decide))) ((h_10.1 41 (by decide)).trans (h_5.1 41 (by decide))) ((h_10.1 43 (by decide)).trans (h_5.1 43 (by decide))) (by rw [h_10.1 39 (by decide), h_5.1 39 (by decide)]) (by rw [h_10.1 39 (by decide), h_5.1 39 (by decide)]; exact Int.le_refl _)
  refine r_pop C dL_law_719 rfl ?_
  refine r_goto C 1305 dL_law_720 (by decide) ?_
  exact K τ_9 hJ1
set_option maxHeartbeats 4000000 in
set_option maxRecDepth 100000 in
theorem case_15 {E : Ev} {ad : Nat → Nat} {G : Gm} {b Lx nn : Nat} {xs : Nat → Int32} (C : Cx E ad G RL cL_law 4 20) (hX : va_X b Lx xs (gS G) (gS G).heap ∧ b < (gS G).heap.size ∧ ¬ Aw ad b) (i a1 a2 a3 : Int32) (hi : i.toInt = nn) (hn : nn + 4 ≤ Lx) (hL : Lx ≤ 2048) (h1 : xs (nn + 1) = a1) (h2 : xs (nn + 2) = a2) (h3 : xs (nn + 3) = a3) (σ : Sg) (hJ : Rel3 σ) (K : ∀ τ : Sg, Rel3 τ → At E ad G 4 1305 [(3, .int (i)), (2, .ref (ad 39)), (1, .ref (ad 0)), (0, .ref (b))] [] τ) : At E ad G 4 723 [(3, .int (i)), (2, .ref (ad 39)), (1, .ref (ad 0)), (0, .ref (b))] [] σ := by
  have k_0 : (0 : Int32).toInt = 0 := by decide
  have k_1 : (1 : Int32).toInt = 1 := by decide
  have k_2 : (2 : Int32).toInt = 2 := by decide
  have k_3 : (3 : Int32).toInt = 3 := by decide
  have hJ3 := hJ
  replace hJ := hJ.1
  have hI := hJ.1
  have hM := hJ.2.1
  have hE := hJ.2.2.1
  unfold EQn at hE
  have hIu := hI
  unfold IC at hIu
  obtain ⟨n0, n1, n8, n17, n29, n39, n44, -⟩ := id hM
  refine r_aload_n C 2 dL_law_723 rfl rfl ?_
  refine r_aload_n C 3 dL_law_724 rfl rfl ?_
  refine r_iload_n C 0 dL_law_725 rfl rfl ?_
  refine r_iconst C (1) dL_law_726 (by decide) ?_
  refine r_iadd C dL_law_727 ?_
  refine r_nm (P := fun z => z.toInt = i.toInt + 1) ((ta_add (by rw [k_1]; omega)).trans (by rw [k_1])) (fun z_1 hz_2 => ?_)
  refine r_sld C hX (by omega) a1 (by rw [← h1, show z_1.toInt.toNat = nn + 1 from by omega]) dL_law_728 ?_
  refine r_aload_n C 3 dL_law_729 rfl rfl ?_
  refine r_iload_n C 0 dL_law_730 rfl rfl ?_
  refine r_iconst C (2) dL_law_731 (by decide) ?_
  refine r_iadd C dL_law_732 ?_
  refine r_nm (P := fun z => z.toInt = i.toInt + 2) ((ta_add (by rw [k_2]; omega)).trans (by rw [k_2])) (fun z_3 hz_4 => ?_)
  refine r_sld C hX (by omega) a2 (by rw [← h2, show z_3.toInt.toNat = nn + 2 from by omega]) dL_law_733 ?_
  refine r_callV C (k := 0) [.int (a1), .int (a2)] [] (c_X8_test E ad σ  (a1) (a2) hI) lv_L_82 (by decide) rfl rfl (by decide) (by decide) rfl rfl (Nat.le_of_ble_eq_true rfl) dL_law_734 (fun r_5 τ_6 h_7 => ?_)
  have hK1 : ∀ k, 39 ≤ k → τ_6 k = σ k := by
    exact keepO h_7.1 (by decide)
  have hM1 := IMc hK1 hM
  refine r_pop C dL_law_737 rfl ?_
  refine r_aload_n C 1 dL_law_738 rfl rfl ?_
  refine r_aload_n C 3 dL_law_739 rfl rfl ?_
  refine r_iload_n C 0 dL_law_740 rfl rfl ?_
  refine r_iconst C (1) dL_law_741 (by decide) ?_
  refine r_iadd C dL_law_742 ?_
  refine r_nm (P := fun z => z.toInt = i.toInt + 1) ((ta_add (by rw [k_1]; omega)).trans (by rw [k_1])) (fun z_8 hz_9 => ?_)
  refine r_sld C hX (by omega) a1 (by rw [← h1, show z_8.toInt.toNat = nn + 1 from by omega]) dL_law_743 ?_
  refine r_aload_n C 3 dL_law_744 rfl rfl ?_
  refine r_iload_n C 0 dL_law_745 rfl rfl ?_
  refine r_iconst C (2) dL_law_746 (by decide) ?_
  refine r_iadd C dL_law_747 ?_
  refine r_nm (P := fun z => z.toInt = i.toInt + 2) ((ta_add (by rw [k_2]; omega)).trans (by rw [k_2])) (fun z_10 hz_11 => ?_)
  refine r_sld C hX (by omega) a2 (by rw [← h2, show z_10.toInt.toNat = nn + 2 from by omega]) dL_law_748 ?_
  refine r_callV C (k := 39) [.int (a1), .int (a2)] [] (c_X9_test E ad τ_6  (a1) (a2) hM1) lv_L_85 (by decide) rfl rfl (by decide) (by decide) rfl rfl (Nat.le_of_ble_eq_true rfl) dL_law_749 (fun r_12 τ_13 h_14 => ?_)
  have hJ1 : Rel τ_13 := Rel_two hJ h_7.1 h_14.1 (by decide)
  have hJ1 : Rel3 τ_13 := Rel3_off hJ3 hJ1 ((h_14.1 5 (by decide)).trans (h_7.1 5 (by decide))) ((h_14.1 40 (by decide)).trans (h_7.1 40 (by decide))) ((h_14.1 41 (by decide)).trans (h_7.1 41 (by decide))) ((h_14.1 43 (by decide)).trans (h_7.1 43 (by decide))) (by rw [h_14.1 39 (by decide), h_7.1 39 (by decide)]) (by rw [h_14.1 39 (by decide), h_7.1 39 (by decide)]; exact Int.le_refl _)
  refine r_pop C dL_law_752 rfl ?_
  refine r_goto C 1305 dL_law_753 (by decide) ?_
  exact K τ_13 hJ1
set_option maxHeartbeats 4000000 in
set_option maxRecDepth 100000 in
theorem case_16 {E : Ev} {ad : Nat → Nat} {G : Gm} {b Lx nn : Nat} {xs : Nat → Int32} (C : Cx E ad G RL cL_law 4 20) (hX : va_X b Lx xs (gS G) (gS G).heap ∧ b < (gS G).heap.size ∧ ¬ Aw ad b) (i a1 a2 a3 : Int32) (hi : i.toInt = nn) (hn : nn + 4 ≤ Lx) (hL : Lx ≤ 2048) (h1 : xs (nn + 1) = a1) (h2 : xs (nn + 2) = a2) (h3 : xs (nn + 3) = a3) (σ : Sg) (hJ : Rel3 σ) (K : ∀ τ : Sg, Rel3 τ → At E ad G 4 1305 [(3, .int (i)), (2, .ref (ad 39)), (1, .ref (ad 0)), (0, .ref (b))] [] τ) : At E ad G 4 756 [(3, .int (i)), (2, .ref (ad 39)), (1, .ref (ad 0)), (0, .ref (b))] [] σ := by
  have k_0 : (0 : Int32).toInt = 0 := by decide
  have k_1 : (1 : Int32).toInt = 1 := by decide
  have k_2 : (2 : Int32).toInt = 2 := by decide
  have k_3 : (3 : Int32).toInt = 3 := by decide
  have hJ3 := hJ
  replace hJ := hJ.1
  have hI := hJ.1
  have hM := hJ.2.1
  have hE := hJ.2.2.1
  unfold EQn at hE
  have hIu := hI
  unfold IC at hIu
  obtain ⟨n0, n1, n8, n17, n29, n39, n44, -⟩ := id hM
  refine r_aload_n C 2 dL_law_756 rfl rfl ?_
  refine r_aload_n C 3 dL_law_757 rfl rfl ?_
  refine r_iload_n C 0 dL_law_758 rfl rfl ?_
  refine r_iconst C (1) dL_law_759 (by decide) ?_
  refine r_iadd C dL_law_760 ?_
  refine r_nm (P := fun z => z.toInt = i.toInt + 1) ((ta_add (by rw [k_1]; omega)).trans (by rw [k_1])) (fun z_1 hz_2 => ?_)
  refine r_sld C hX (by omega) a1 (by rw [← h1, show z_1.toInt.toNat = nn + 1 from by omega]) dL_law_761 ?_
  refine r_callV C (k := 0) [.int (a1)] [] (c_X8_start E ad σ  (a1) hI) lv_L_86 (by decide) rfl rfl (by decide) (by decide) rfl rfl (Nat.le_of_ble_eq_true rfl) dL_law_762 (fun r_3 τ_4 h_5 => ?_)
  have hK1 : ∀ k, 39 ≤ k → τ_4 k = σ k := by
    exact keepO h_5.1 (by decide)
  have hM1 := IMc hK1 hM
  refine r_pop C dL_law_765 rfl ?_
  refine r_aload_n C 1 dL_law_766 rfl rfl ?_
  refine r_aload_n C 3 dL_law_767 rfl rfl ?_
  refine r_iload_n C 0 dL_law_768 rfl rfl ?_
  refine r_iconst C (1) dL_law_769 (by decide) ?_
  refine r_iadd C dL_law_770 ?_
  refine r_nm (P := fun z => z.toInt = i.toInt + 1) ((ta_add (by rw [k_1]; omega)).trans (by rw [k_1])) (fun z_6 hz_7 => ?_)
  refine r_sld C hX (by omega) a1 (by rw [← h1, show z_6.toInt.toNat = nn + 1 from by omega]) dL_law_771 ?_
  refine r_callV C (k := 39) [.int (a1)] [] (c_X9_start E ad τ_4  (a1) hM1) lv_L_89 (by decide) rfl rfl (by decide) (by decide) rfl rfl (Nat.le_of_ble_eq_true rfl) dL_law_772 (fun r_8 τ_9 h_10 => ?_)
  have hJ1 : Rel τ_9 := Rel_two hJ h_5.1 h_10.1 (by decide)
  have hJ1 : Rel3 τ_9 := Rel3_off hJ3 hJ1 ((h_10.1 5 (by decide)).trans (h_5.1 5 (by decide))) ((h_10.1 40 (by decide)).trans (h_5.1 40 (by decide))) ((h_10.1 41 (by decide)).trans (h_5.1 41 (by decide))) ((h_10.1 43 (by decide)).trans (h_5.1 43 (by decide))) (by rw [h_10.1 39 (by decide), h_5.1 39 (by decide)]) (by rw [h_10.1 39 (by decide), h_5.1 39 (by decide)]; exact Int.le_refl _)
  refine r_pop C dL_law_775 rfl ?_
  refine r_goto C 1305 dL_law_776 (by decide) ?_
  exact K τ_9 hJ1
set_option maxHeartbeats 4000000 in
set_option maxRecDepth 100000 in
theorem case_17 {E : Ev} {ad : Nat → Nat} {G : Gm} {b Lx nn : Nat} {xs : Nat → Int32} (C : Cx E ad G RL cL_law 4 20) (hX : va_X b Lx xs (gS G) (gS G).heap ∧ b < (gS G).heap.size ∧ ¬ Aw ad b) (i a1 a2 a3 : Int32) (hi : i.toInt = nn) (hn : nn + 4 ≤ Lx) (hL : Lx ≤ 2048) (h1 : xs (nn + 1) = a1) (h2 : xs (nn + 2) = a2) (h3 : xs (nn + 3) = a3) (σ : Sg) (hJ : Rel3 σ) (K : ∀ τ : Sg, Rel3 τ → At E ad G 4 1305 [(3, .int (i)), (2, .ref (ad 39)), (1, .ref (ad 0)), (0, .ref (b))] [] τ) : At E ad G 4 779 [(3, .int (i)), (2, .ref (ad 39)), (1, .ref (ad 0)), (0, .ref (b))] [] σ := by
  have k_0 : (0 : Int32).toInt = 0 := by decide
  have k_1 : (1 : Int32).toInt = 1 := by decide
  have k_2 : (2 : Int32).toInt = 2 := by decide
  have k_3 : (3 : Int32).toInt = 3 := by decide
  have hJ3 := hJ
  replace hJ := hJ.1
  have hI := hJ.1
  have hM := hJ.2.1
  have hE := hJ.2.2.1
  unfold EQn at hE
  have hIu := hI
  unfold IC at hIu
  obtain ⟨n0, n1, n8, n17, n29, n39, n44, -⟩ := id hM
  refine r_aload_n C 2 dL_law_779 rfl rfl ?_
  refine r_aload_n C 3 dL_law_780 rfl rfl ?_
  refine r_iload_n C 0 dL_law_781 rfl rfl ?_
  refine r_iconst C (1) dL_law_782 (by decide) ?_
  refine r_iadd C dL_law_783 ?_
  refine r_nm (P := fun z => z.toInt = i.toInt + 1) ((ta_add (by rw [k_1]; omega)).trans (by rw [k_1])) (fun z_1 hz_2 => ?_)
  refine r_sld C hX (by omega) a1 (by rw [← h1, show z_1.toInt.toNat = nn + 1 from by omega]) dL_law_784 ?_
  refine r_callV C (k := 0) [.int (a1)] [] (c_X8_hang E ad σ  (a1) hI) lv_L_90 (by decide) rfl rfl (by decide) (by decide) rfl rfl (Nat.le_of_ble_eq_true rfl) dL_law_785 (fun r_3 τ_4 h_5 => ?_)
  have hK1 : ∀ k, 39 ≤ k → τ_4 k = σ k := by
    exact keepO h_5.1 (by decide)
  have hM1 := IMc hK1 hM
  refine r_pop C dL_law_788 rfl ?_
  refine r_aload_n C 1 dL_law_789 rfl rfl ?_
  refine r_aload_n C 3 dL_law_790 rfl rfl ?_
  refine r_iload_n C 0 dL_law_791 rfl rfl ?_
  refine r_iconst C (1) dL_law_792 (by decide) ?_
  refine r_iadd C dL_law_793 ?_
  refine r_nm (P := fun z => z.toInt = i.toInt + 1) ((ta_add (by rw [k_1]; omega)).trans (by rw [k_1])) (fun z_6 hz_7 => ?_)
  refine r_sld C hX (by omega) a1 (by rw [← h1, show z_6.toInt.toNat = nn + 1 from by omega]) dL_law_794 ?_
  refine r_callV C (k := 39) [.int (a1)] [] (c_X9_hang E ad τ_4  (a1) hM1) lv_L_93 (by decide) rfl rfl (by decide) (by decide) rfl rfl (Nat.le_of_ble_eq_true rfl) dL_law_795 (fun r_8 τ_9 h_10 => ?_)
  have hJ1 : Rel τ_9 := Rel_two hJ h_5.1 h_10.1 (by decide)
  have hJ1 : Rel3 τ_9 := Rel3_off hJ3 hJ1 ((h_10.1 5 (by decide)).trans (h_5.1 5 (by decide))) ((h_10.1 40 (by decide)).trans (h_5.1 40 (by decide))) ((h_10.1 41 (by decide)).trans (h_5.1 41 (by decide))) ((h_10.1 43 (by decide)).trans (h_5.1 43 (by decide))) (by rw [h_10.1 39 (by decide), h_5.1 39 (by decide)]) (by rw [h_10.1 39 (by decide), h_5.1 39 (by decide)]; exact Int.le_refl _)
  refine r_pop C dL_law_798 rfl ?_
  refine r_goto C 1305 dL_law_799 (by decide) ?_
  exact K τ_9 hJ1
set_option maxHeartbeats 4000000 in
set_option maxRecDepth 100000 in
theorem case_18 {E : Ev} {ad : Nat → Nat} {G : Gm} {b Lx nn : Nat} {xs : Nat → Int32} (C : Cx E ad G RL cL_law 4 20) (hX : va_X b Lx xs (gS G) (gS G).heap ∧ b < (gS G).heap.size ∧ ¬ Aw ad b) (i a1 a2 a3 : Int32) (hi : i.toInt = nn) (hn : nn + 4 ≤ Lx) (hL : Lx ≤ 2048) (h1 : xs (nn + 1) = a1) (h2 : xs (nn + 2) = a2) (h3 : xs (nn + 3) = a3) (σ : Sg) (hJ : Rel3 σ) (K : ∀ τ : Sg, Rel3 τ → At E ad G 4 1305 [(3, .int (i)), (2, .ref (ad 39)), (1, .ref (ad 0)), (0, .ref (b))] [] τ) : At E ad G 4 802 [(3, .int (i)), (2, .ref (ad 39)), (1, .ref (ad 0)), (0, .ref (b))] [] σ := by
  have k_0 : (0 : Int32).toInt = 0 := by decide
  have k_1 : (1 : Int32).toInt = 1 := by decide
  have k_2 : (2 : Int32).toInt = 2 := by decide
  have k_3 : (3 : Int32).toInt = 3 := by decide
  have hJ3 := hJ
  replace hJ := hJ.1
  have hI := hJ.1
  have hM := hJ.2.1
  have hE := hJ.2.2.1
  unfold EQn at hE
  have hIu := hI
  unfold IC at hIu
  obtain ⟨n0, n1, n8, n17, n29, n39, n44, -⟩ := id hM
  refine r_aload_n C 2 dL_law_802 rfl rfl ?_
  refine r_aload_n C 3 dL_law_803 rfl rfl ?_
  refine r_iload_n C 0 dL_law_804 rfl rfl ?_
  refine r_iconst C (1) dL_law_805 (by decide) ?_
  refine r_iadd C dL_law_806 ?_
  refine r_nm (P := fun z => z.toInt = i.toInt + 1) ((ta_add (by rw [k_1]; omega)).trans (by rw [k_1])) (fun z_1 hz_2 => ?_)
  refine r_sld C hX (by omega) a1 (by rw [← h1, show z_1.toInt.toNat = nn + 1 from by omega]) dL_law_807 ?_
  refine r_callV C (k := 0) [.int (a1)] [] (c_X8_back E ad σ  (a1) hI) lv_L_94 (by decide) rfl rfl (by decide) (by decide) rfl rfl (Nat.le_of_ble_eq_true rfl) dL_law_808 (fun r_3 τ_4 h_5 => ?_)
  have hK1 : ∀ k, 39 ≤ k → τ_4 k = σ k := by
    exact keepO h_5.1 (by decide)
  have hM1 := IMc hK1 hM
  refine r_pop C dL_law_811 rfl ?_
  refine r_aload_n C 1 dL_law_812 rfl rfl ?_
  refine r_aload_n C 3 dL_law_813 rfl rfl ?_
  refine r_iload_n C 0 dL_law_814 rfl rfl ?_
  refine r_iconst C (1) dL_law_815 (by decide) ?_
  refine r_iadd C dL_law_816 ?_
  refine r_nm (P := fun z => z.toInt = i.toInt + 1) ((ta_add (by rw [k_1]; omega)).trans (by rw [k_1])) (fun z_6 hz_7 => ?_)
  refine r_sld C hX (by omega) a1 (by rw [← h1, show z_6.toInt.toNat = nn + 1 from by omega]) dL_law_817 ?_
  refine r_callV C (k := 39) [.int (a1)] [] (c_X9_back E ad τ_4  (a1) hM1) lv_L_97 (by decide) rfl rfl (by decide) (by decide) rfl rfl (Nat.le_of_ble_eq_true rfl) dL_law_818 (fun r_8 τ_9 h_10 => ?_)
  have hJ1 : Rel τ_9 := Rel_two hJ h_5.1 h_10.1 (by decide)
  have hJ1 : Rel3 τ_9 := Rel3_off hJ3 hJ1 ((h_10.1 5 (by decide)).trans (h_5.1 5 (by decide))) ((h_10.1 40 (by decide)).trans (h_5.1 40 (by decide))) ((h_10.1 41 (by decide)).trans (h_5.1 41 (by decide))) ((h_10.1 43 (by decide)).trans (h_5.1 43 (by decide))) (by rw [h_10.1 39 (by decide), h_5.1 39 (by decide)]) (by rw [h_10.1 39 (by decide), h_5.1 39 (by decide)]; exact Int.le_refl _)
  refine r_pop C dL_law_821 rfl ?_
  refine r_goto C 1305 dL_law_822 (by decide) ?_
  exact K τ_9 hJ1
set_option maxHeartbeats 4000000 in
set_option maxRecDepth 100000 in
theorem case_19 {E : Ev} {ad : Nat → Nat} {G : Gm} {b Lx nn : Nat} {xs : Nat → Int32} (C : Cx E ad G RL cL_law 4 20) (hX : va_X b Lx xs (gS G) (gS G).heap ∧ b < (gS G).heap.size ∧ ¬ Aw ad b) (i a1 a2 a3 : Int32) (hi : i.toInt = nn) (hn : nn + 4 ≤ Lx) (hL : Lx ≤ 2048) (h1 : xs (nn + 1) = a1) (h2 : xs (nn + 2) = a2) (h3 : xs (nn + 3) = a3) (σ : Sg) (hJ : Rel3 σ) (K : ∀ τ : Sg, Rel3 τ → At E ad G 4 1305 [(3, .int (i)), (2, .ref (ad 39)), (1, .ref (ad 0)), (0, .ref (b))] [] τ) : At E ad G 4 825 [(3, .int (i)), (2, .ref (ad 39)), (1, .ref (ad 0)), (0, .ref (b))] [] σ := by
  have k_0 : (0 : Int32).toInt = 0 := by decide
  have k_1 : (1 : Int32).toInt = 1 := by decide
  have k_2 : (2 : Int32).toInt = 2 := by decide
  have k_3 : (3 : Int32).toInt = 3 := by decide
  have hJ3 := hJ
  replace hJ := hJ.1
  have hI := hJ.1
  have hM := hJ.2.1
  have hE := hJ.2.2.1
  unfold EQn at hE
  have hIu := hI
  unfold IC at hIu
  obtain ⟨n0, n1, n8, n17, n29, n39, n44, -⟩ := id hM
  refine r_aload_n C 2 dL_law_825 rfl rfl ?_
  refine r_aload_n C 3 dL_law_826 rfl rfl ?_
  refine r_iload_n C 0 dL_law_827 rfl rfl ?_
  refine r_iconst C (1) dL_law_828 (by decide) ?_
  refine r_iadd C dL_law_829 ?_
  refine r_nm (P := fun z => z.toInt = i.toInt + 1) ((ta_add (by rw [k_1]; omega)).trans (by rw [k_1])) (fun z_1 hz_2 => ?_)
  refine r_sld C hX (by omega) a1 (by rw [← h1, show z_1.toInt.toNat = nn + 1 from by omega]) dL_law_830 ?_
  refine r_aload_n C 3 dL_law_831 rfl rfl ?_
  refine r_iload_n C 0 dL_law_832 rfl rfl ?_
  refine r_iconst C (2) dL_law_833 (by decide) ?_
  refine r_iadd C dL_law_834 ?_
  refine r_nm (P := fun z => z.toInt = i.toInt + 2) ((ta_add (by rw [k_2]; omega)).trans (by rw [k_2])) (fun z_3 hz_4 => ?_)
  refine r_sld C hX (by omega) a2 (by rw [← h2, show z_3.toInt.toNat = nn + 2 from by omega]) dL_law_835 ?_
  refine r_callV C (k := 0) [.int (a1), .int (a2)] [] (c_X8_may E ad σ  (a1) (a2) hI) lv_L_98 (by decide) rfl rfl (by decide) (by decide) rfl rfl (Nat.le_of_ble_eq_true rfl) dL_law_836 (fun r_5 τ_6 h_7 => ?_)
  obtain ⟨eh_7, h_7⟩ := h_7
  obtain rfl := eh_7.symm
  have hM1 := hM
  refine r_pop C dL_law_839 rfl ?_
  refine r_aload_n C 1 dL_law_840 rfl rfl ?_
  refine r_aload_n C 3 dL_law_841 rfl rfl ?_
  refine r_iload_n C 0 dL_law_842 rfl rfl ?_
  refine r_iconst C (1) dL_law_843 (by decide) ?_
  refine r_iadd C dL_law_844 ?_
  refine r_nm (P := fun z => z.toInt = i.toInt + 1) ((ta_add (by rw [k_1]; omega)).trans (by rw [k_1])) (fun z_8 hz_9 => ?_)
  refine r_sld C hX (by omega) a1 (by rw [← h1, show z_8.toInt.toNat = nn + 1 from by omega]) dL_law_845 ?_
  refine r_aload_n C 3 dL_law_846 rfl rfl ?_
  refine r_iload_n C 0 dL_law_847 rfl rfl ?_
  refine r_iconst C (2) dL_law_848 (by decide) ?_
  refine r_iadd C dL_law_849 ?_
  refine r_nm (P := fun z => z.toInt = i.toInt + 2) ((ta_add (by rw [k_2]; omega)).trans (by rw [k_2])) (fun z_10 hz_11 => ?_)
  refine r_sld C hX (by omega) a2 (by rw [← h2, show z_10.toInt.toNat = nn + 2 from by omega]) dL_law_850 ?_
  refine r_callV C (k := 39) [.int (a1), .int (a2)] [] (c_X9_may E ad σ  (a1) (a2) hM1) lv_L_101 (by decide) rfl rfl (by decide) (by decide) rfl rfl (Nat.le_of_ble_eq_true rfl) dL_law_851 (fun r_12 τ_13 h_14 => ?_)
  have hJ1 : Rel τ_13 := Rel_off hJ h_14.1 (by decide)
  have hJ1 : Rel3 τ_13 := Rel3_off hJ3 hJ1 (h_14.1 5 (by decide)) (h_14.1 40 (by decide)) (h_14.1 41 (by decide)) (h_14.1 43 (by decide)) (by rw [h_14.1 39 (by decide)]) (by rw [h_14.1 39 (by decide)]; exact Int.le_refl _)
  refine r_pop C dL_law_854 rfl ?_
  refine r_goto C 1305 dL_law_855 (by decide) ?_
  exact K τ_13 hJ1
