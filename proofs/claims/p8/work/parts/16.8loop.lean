set_option maxHeartbeats 4000000 in
set_option maxRecDepth 100000 in
theorem law_loop {E : Ev} {ad : Nat → Nat} {G : Gm} {b Lx : Nat} {xs : Nat → Int32} (hL : Lx ≤ 2048) (C : Cx E ad G RL cL_law 4 20) (hX : va_X b Lx xs (gS G) (gS G).heap ∧ b < (gS G).heap.size ∧ ¬ Aw ad b) (T : LwG ad G b) : ∀ (n nn : Nat) (i : Int32) (σ : Sg), i.toInt = nn → nn ≤ Lx + 3 → Rel3 σ → Lx + 4 ≤ nn + n → At E ad G 4 18 [(3, .int i), (2, .ref (ad 39)), (1, .ref (ad 0)), (0, .ref b)] [] σ := by
  intro n
  induction n with
  | zero => intro nn i σ hi hn hJ hm; exact absurd hm (by omega)
  | succ n ih =>
    intro nn i σ hi hn hJ0 hm
    have k_4 : (4 : Int32).toInt = 4 := by decide
    have kL : (nI Lx).toInt = (Lx : Int) := nI_toInt (by omega)
    refine r_iload_n C 0 dL_law_18 rfl rfl ?_
    refine r_aload_n C 3 dL_law_19 rfl rfl ?_
    refine r_slen C hX dL_law_20 ?_
    refine r_iconst C (4) dL_law_21 (by decide) ?_
    refine r_isub C dL_law_22 ?_
    refine r_nm (P := fun z => z.toInt = (Lx : Int) - 4) ((ta_sub (by rw [k_4, kL]; omega)).trans (by rw [k_4, kL])) (fun z hz => ?_)
    refine r_icmp_gt C 1311 dL_law_23 (by decide) (fun c => ?_) (fun c => ?_)
    · refine r_iconst C (1) dL_law_1311 (by decide) ?_
      exact r_lret C T dL_law_1312
    · have hn4 : nn + 4 ≤ Lx := by omega
      have hJ : Rel3 σ := hJ0
      have K : ∀ τ : Sg, Rel3 τ → At E ad G 4 1305 [(3, .int i), (2, .ref (ad 39)), (1, .ref (ad 0)), (0, .ref b)] [] τ := by
        intro τ hτ
        refine r_iinc C 0 (fun z => [(3, .int z), (2, .ref (ad 39)), (1, .ref (ad 0)), (0, .ref b)]) dL_law_1305 rfl (by decide) (by decide) (by omega) (fun _ => rfl) (fun y hy => ?_)
        refine r_goto C 18 dL_law_1308 (by decide) ?_
        exact ih (nn + 4) y τ (by omega) (by omega) hτ (by omega)
      refine r_aload_n C 3 dL_law_26 rfl rfl ?_
      refine r_iload_n C 0 dL_law_27 rfl rfl ?_
      refine r_sld C hX (by omega) (xs nn) (by rw [show i.toInt.toNat = nn from by omega]) dL_law_28 ?_
      refine r_bipush C (63) dL_law_29 (by decide) ?_
      refine r_iand C dL_law_31 ?_
      refine r_nm (P := fun _ => True) trivial (fun w _ => ?_)
      rcases sw36 w.toInt with hw | ⟨k, hk, hw⟩
      · exact r_tblOut C 1305 dL_law_32 hw (by decide) (K σ hJ)
      · rcases (show k = 0 ∨ k = 1 ∨ k = 2 ∨ k = 3 ∨ k = 4 ∨ k = 5 ∨ k = 6 ∨ k = 7 ∨ k = 8 ∨ k = 9 ∨ k = 10 ∨ k = 11 ∨ k = 12 ∨ k = 13 ∨ k = 14 ∨ k = 15 ∨ k = 16 ∨ k = 17 ∨ k = 18 ∨ k = 19 ∨ k = 20 ∨ k = 21 ∨ k = 22 ∨ k = 23 ∨ k = 24 ∨ k = 25 ∨ k = 26 ∨ k = 27 ∨ k = 28 ∨ k = 29 ∨ k = 30 ∨ k = 31 ∨ k = 32 ∨ k = 33 ∨ k = 34 ∨ k = 35 ∨ k = 36 by omega) with rfl | rfl | rfl | rfl | rfl | rfl | rfl | rfl | rfl | rfl | rfl | rfl | rfl | rfl | rfl | rfl | rfl | rfl | rfl | rfl | rfl | rfl | rfl | rfl | rfl | rfl | rfl | rfl | rfl | rfl | rfl | rfl | rfl | rfl | rfl | rfl | rfl
        · exact r_tblIn C (0) 196 dL_law_32 hw (by decide) (by decide) rfl (by decide) (case_0 C hX i _ _ _ hi hn4 hL rfl rfl rfl σ hJ K)
        · exact r_tblIn C (1) 239 dL_law_32 hw (by decide) (by decide) rfl (by decide) (case_1 C hX i _ _ _ hi hn4 hL rfl rfl rfl σ hJ K)
        · exact r_tblIn C (2) 272 dL_law_32 hw (by decide) (by decide) rfl (by decide) (case_2 C hX i _ _ _ hi hn4 hL rfl rfl rfl σ hJ K)
        · exact r_tblIn C (3) 331 dL_law_32 hw (by decide) (by decide) rfl (by decide) (case_3 C hX i _ _ _ hi hn4 hL rfl rfl rfl σ hJ K)
        · exact r_tblIn C (4) 380 dL_law_32 hw (by decide) (by decide) rfl (by decide) (case_4 C hX i _ _ _ hi hn4 hL rfl rfl rfl σ hJ K)
        · exact r_tblIn C (5) 403 dL_law_32 hw (by decide) (by decide) rfl (by decide) (case_5 C hX i _ _ _ hi hn4 hL rfl rfl rfl σ hJ K)
        · exact r_tblIn C (6) 436 dL_law_32 hw (by decide) (by decide) rfl (by decide) (case_6 C hX i _ _ _ hi hn4 hL rfl rfl rfl σ hJ K)
        · exact r_tblIn C (7) 469 dL_law_32 hw (by decide) (by decide) rfl (by decide) (case_7 C hX i _ _ _ hi hn4 hL rfl rfl rfl σ hJ K)
        · exact r_tblIn C (8) 492 dL_law_32 hw (by decide) (by decide) rfl (by decide) (case_8 C hX i _ _ _ hi hn4 hL rfl rfl rfl σ hJ K)
        · exact r_tblIn C (9) 555 dL_law_32 hw (by decide) (by decide) rfl (by decide) (case_9 C hX i _ _ _ hi hn4 hL rfl rfl rfl σ hJ K)
        · exact r_tblIn C (10) 568 dL_law_32 hw (by decide) (by decide) rfl (by decide) (case_10 C hX i _ _ _ hi hn4 hL rfl rfl rfl σ hJ K)
        · exact r_tblIn C (11) 591 dL_law_32 hw (by decide) (by decide) rfl (by decide) (case_11 C hX i _ _ _ hi hn4 hL rfl rfl rfl σ hJ K)
        · exact r_tblIn C (12) 624 dL_law_32 hw (by decide) (by decide) rfl (by decide) (case_12 C hX i _ _ _ hi hn4 hL rfl rfl rfl σ hJ K)
        · exact r_tblIn C (13) 667 dL_law_32 hw (by decide) (by decide) rfl (by decide) (case_13 C hX i _ _ _ hi hn4 hL rfl rfl rfl σ hJ K)
        · exact r_tblIn C (14) 700 dL_law_32 hw (by decide) (by decide) rfl (by decide) (case_14 C hX i _ _ _ hi hn4 hL rfl rfl rfl σ hJ K)
        · exact r_tblIn C (15) 723 dL_law_32 hw (by decide) (by decide) rfl (by decide) (case_15 C hX i _ _ _ hi hn4 hL rfl rfl rfl σ hJ K)
        · exact r_tblIn C (16) 756 dL_law_32 hw (by decide) (by decide) rfl (by decide) (case_16 C hX i _ _ _ hi hn4 hL rfl rfl rfl σ hJ K)
        · exact r_tblIn C (17) 779 dL_law_32 hw (by decide) (by decide) rfl (by decide) (case_17 C hX i _ _ _ hi hn4 hL rfl rfl rfl σ hJ K)
        · exact r_tblIn C (18) 802 dL_law_32 hw (by decide) (by decide) rfl (by decide) (case_18 C hX i _ _ _ hi hn4 hL rfl rfl rfl σ hJ K)
        · exact r_tblIn C (19) 825 dL_law_32 hw (by decide) (by decide) rfl (by decide) (case_19 C hX i _ _ _ hi hn4 hL rfl rfl rfl σ hJ K)
        · exact r_tblIn C (20) 858 dL_law_32 hw (by decide) (by decide) rfl (by decide) (case_20 C hX i _ _ _ hi hn4 hL rfl rfl rfl σ hJ K)
        · exact r_tblIn C (21) 881 dL_law_32 hw (by decide) (by decide) rfl (by decide) (case_21 C hX i _ _ _ hi hn4 hL rfl rfl rfl σ hJ K)
        · exact r_tblIn C (22) 914 dL_law_32 hw (by decide) (by decide) rfl (by decide) (case_22 C hX i _ _ _ hi hn4 hL rfl rfl rfl σ hJ K)
        · exact r_tblIn C (23) 947 dL_law_32 hw (by decide) (by decide) rfl (by decide) (case_23 C hX i _ _ _ hi hn4 hL rfl rfl rfl σ hJ K)
        · exact r_tblIn C (24) 970 dL_law_32 hw (by decide) (by decide) rfl (by decide) (case_24 C hX i _ _ _ hi hn4 hL rfl rfl rfl σ hJ K)
        · exact r_tblIn C (25) 1019 dL_law_32 hw (by decide) (by decide) rfl (by decide) (case_25 C hX i _ _ _ hi hn4 hL rfl rfl rfl σ hJ K)
        · exact r_tblIn C (26) 1032 dL_law_32 hw (by decide) (by decide) rfl (by decide) (case_26 C hX i _ _ _ hi hn4 hL rfl rfl rfl σ hJ K)
        · exact r_tblIn C (27) 1055 dL_law_32 hw (by decide) (by decide) rfl (by decide) (case_27 C hX i _ _ _ hi hn4 hL rfl rfl rfl σ hJ K)
        · exact r_tblIn C (28) 1078 dL_law_32 hw (by decide) (by decide) rfl (by decide) (case_28 C hX i _ _ _ hi hn4 hL rfl rfl rfl σ hJ K)
        · exact r_tblIn C (29) 1101 dL_law_32 hw (by decide) (by decide) rfl (by decide) (case_29 C hX i _ _ _ hi hn4 hL rfl rfl rfl σ hJ K)
        · exact r_tblIn C (30) 1144 dL_law_32 hw (by decide) (by decide) rfl (by decide) (case_30 C hX i _ _ _ hi hn4 hL rfl rfl rfl σ hJ K)
        · exact r_tblIn C (31) 1157 dL_law_32 hw (by decide) (by decide) rfl (by decide) (case_31 C hX i _ _ _ hi hn4 hL rfl rfl rfl σ hJ K)
        · exact r_tblIn C (32) 1180 dL_law_32 hw (by decide) (by decide) rfl (by decide) (case_32 C hX i _ _ _ hi hn4 hL rfl rfl rfl σ hJ K)
        · exact r_tblIn C (33) 1213 dL_law_32 hw (by decide) (by decide) rfl (by decide) (case_33 C hX i _ _ _ hi hn4 hL rfl rfl rfl σ hJ K)
        · exact r_tblIn C (34) 1256 dL_law_32 hw (by decide) (by decide) rfl (by decide) (case_34 C hX i _ _ _ hi hn4 hL rfl rfl rfl σ hJ K)
        · exact r_tblIn C (35) 1269 dL_law_32 hw (by decide) (by decide) rfl (by decide) (case_35 C hX i _ _ _ hi hn4 hL rfl rfl rfl σ hJ K)
        · exact r_tblIn C (36) 1282 dL_law_32 hw (by decide) (by decide) rfl (by decide) (case_36 C hX i _ _ _ hi hn4 hL rfl rfl rfl σ hJ K)
