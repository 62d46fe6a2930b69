theorem IC_off {S : List Nat} {σ τ : Sg} (h : Off S σ τ) (hS : ∀ k ∈ [0, 2, 9, 16, 27, 32], k ∉ S) (hI : IC σ) : IC τ := by
  unfold IC at *
  rw [h 0 (hS 0 (by decide)), h 2 (hS 2 (by decide)), h 9 (hS 9 (by decide)), h 16 (hS 16 (by decide)), h 27 (hS 27 (by decide)), h 32 (hS 32 (by decide))]
  exact hI
set_option maxHeartbeats 4000000 in
set_option maxRecDepth 100000 in
theorem c_X8_pipe (E : Ev) (ad : Nat → Nat) (σ : Sg) (p : Int32) (q : Int32) (u : Int32) (hI : IC σ) : Ct E ad yX8_pipe cX8_pipe 4 (some .int) 1 [.ref (ad 0), .int p, .int q, .int u] σ (fun r τ => (¬ (0 ≤ p.toInt ∧ p.toInt < 10 ∧ 0 ≤ q.toInt ∧ q.toInt < 10 ∧ p.toInt ≠ q.toInt ∧ 0 ≤ u.toInt ∧ u.toInt ≤ 2) ∧ r.toInt = -1 ∧ τ = σ) ∨ ((0 ≤ p.toInt ∧ p.toInt < 10 ∧ 0 ≤ q.toInt ∧ q.toInt < 10 ∧ p.toInt ≠ q.toInt ∧ 0 ≤ u.toInt ∧ u.toInt ≤ 2) ∧ 12 ≤ (σ 2 6).toInt ∧ r.toInt = -2 ∧ τ = σ) ∨ ((0 ≤ p.toInt ∧ p.toInt < 10 ∧ 0 ≤ q.toInt ∧ q.toInt < 10 ∧ p.toInt ≠ q.toInt ∧ 0 ≤ u.toInt ∧ u.toInt ≤ 2) ∧ (σ 2 6).toInt < 12 ∧ r.toInt = (σ 2 6).toInt ∧ Off [2, 3, 4, 5, 6, 7] σ τ ∧ (τ 2 6).toInt = (σ 2 6).toInt + 1 ∧ τ 2 9 = σ 2 9 ∧ τ 3 = upd (σ 3) (σ 2 6).toInt.toNat p ∧ τ 4 = upd (σ 4) (σ 2 6).toInt.toNat q ∧ τ 5 = upd (σ 5) (σ 2 6).toInt.toNat (((1 : Int32) <<< (p &&& 31)) ||| ((1 : Int32) <<< (q &&& 31))) ∧ τ 6 = upd (σ 6) (σ 2 6).toInt.toNat u ∧ τ 2 7 ||| τ 2 8 = (if u.toInt = 2 then σ 2 7 ||| σ 2 8 else (σ 2 7 ||| σ 2 8) ||| ((1 : Int32) <<< (σ 2 6 &&& 31))))) := by
  have k_m2 : (-2 : Int32).toInt = -2 := by decide
  have k_m1 : (-1 : Int32).toInt = -1 := by decide
  have k_2 : (2 : Int32).toInt = 2 := by decide
  have k_12 : (12 : Int32).toInt = 12 := by decide
  have hJ := hI
  unfold IC at hJ
  refine ct_of RX8 rfl (by decide +kernel) [(0, .ref (ad 0)), (1, .int (p)), (2, .int (q)), (3, .int (u))] rfl (Nat.le_of_ble_eq_true rfl) (fun G C T => ?_)
  have L_28 : (¬ (0 ≤ p.toInt ∧ p.toInt < 10 ∧ 0 ≤ q.toInt ∧ q.toInt < 10 ∧ p.toInt ≠ q.toInt ∧ 0 ≤ u.toInt ∧ u.toInt ≤ 2)) → At E ad G 4 28 [(0, .ref (ad 0)), (1, .int (p)), (2, .int (q)), (3, .int (u))] [] σ := by
    intro hnv
    refine r_iconst C (-1) dX8_pipe_28 (by decide) ?_
    exact r_iret C T dX8_pipe_29 (Or.inl ⟨hnv, k_m1, rfl⟩)
  refine r_iload_n C 1 dX8_pipe_0 rfl rfl ?_
  refine r_callS C [.int (p)] [] (c_X8_isPlace E ad σ  (p) ) ls_X8_61 (by decide) (by decide) rfl rfl (Nat.le_of_ble_eq_true rfl) dX8_pipe_1 (fun r_1 τ_2 h_3 => ?_)
  obtain ⟨eh_3, h_3⟩ := h_3
  obtain rfl := eh_3.symm
  refine r_if_eq C 28 dX8_pipe_4 (by decide) (fun c_4 => ?_) (fun c_4 => ?_)
  · -- to 28
    exact At.sub [0, 1, 2, 3] rfl (L_28  (by omega))
  · -- to 7
    refine r_iload_n C 2 dX8_pipe_7 rfl rfl ?_
    refine r_callS C [.int (q)] [] (c_X8_isPlace E ad σ  (q) ) ls_X8_61 (by decide) (by decide) rfl rfl (Nat.le_of_ble_eq_true rfl) dX8_pipe_8 (fun r_5 τ_6 h_7 => ?_)
    obtain ⟨eh_7, h_7⟩ := h_7
    obtain rfl := eh_7.symm
    refine r_if_eq C 28 dX8_pipe_11 (by decide) (fun c_8 => ?_) (fun c_8 => ?_)
    · -- to 28
      exact At.sub [0, 1, 2, 3] rfl (L_28  (by omega))
    · -- to 14
      refine r_iload_n C 1 dX8_pipe_14 rfl rfl ?_
      refine r_iload_n C 2 dX8_pipe_15 rfl rfl ?_
      refine r_icmp_eq C 28 dX8_pipe_16 (by decide) (fun c_9 => ?_) (fun c_9 => ?_)
      · -- to 28
        exact At.sub [0, 1, 2, 3] rfl (L_28  (by omega))
      · -- to 19
        refine r_iload_n C 3 dX8_pipe_19 rfl rfl ?_
        refine r_if_lt C 28 dX8_pipe_20 (by decide) (fun c_10 => ?_) (fun c_10 => ?_)
        · -- to 28
          exact At.sub [0, 1, 2, 3] rfl (L_28  (by omega))
        · -- to 23
          refine r_iload_n C 3 dX8_pipe_23 rfl rfl ?_
          refine r_iconst C (2) dX8_pipe_24 (by decide) ?_
          refine r_icmp_le C 30 dX8_pipe_25 (by decide) (fun c_11 => ?_) (fun c_11 => ?_)
          · -- to 30
            refine r_aload_n C 0 dX8_pipe_30 rfl rfl ?_
            refine r_get C (k := 0) (v := .ref (ad 2)) f_X8_20 (by decide) rfl rfl dX8_pipe_31 ?_
            refine r_get C (k := 2) (v := .int (σ 2 6)) f_X8_65 (by decide) rfl rfl dX8_pipe_34 ?_
            refine r_bipush C (12) dX8_pipe_37 (by decide) ?_
            refine r_icmp_lt C 45 dX8_pipe_39 (by decide) (fun c_12 => ?_) (fun c_12 => ?_)
            · -- to 45
              refine r_aload_n C 0 dX8_pipe_45 rfl rfl ?_
              refine r_get C (k := 0) (v := .ref (ad 2)) f_X8_20 (by decide) rfl rfl dX8_pipe_46 ?_
              refine r_iload_n C 1 dX8_pipe_49 rfl rfl ?_
              refine r_iload_n C 2 dX8_pipe_50 rfl rfl ?_
              refine r_iload_n C 3 dX8_pipe_51 rfl rfl ?_
              refine r_aload_n C 0 dX8_pipe_52 rfl rfl ?_
              refine r_get C (k := 0) (v := .int (σ 0 8)) f_X8_57 (by decide) rfl rfl dX8_pipe_53 ?_
              refine r_callV C (k := 2) [.int (p), .int (q), .int (u), .int (σ 0 8)] [] (c_X2_lay E ad σ  (p) (q) (u) (σ 0 8) (by omega) (by omega)) lv_X8_70 (by decide) rfl rfl (by decide) (by decide) rfl rfl (Nat.le_of_ble_eq_true rfl) dX8_pipe_56 (fun r_13 τ_14 h_15 => ?_)
              exact r_iret C T dX8_pipe_59 (Or.inr (Or.inr ⟨by omega, by omega, h_15.1, h_15.2⟩))
            · -- to 42
              refine r_bipush C (-2) dX8_pipe_42 (by decide) ?_
              exact r_iret C T dX8_pipe_44 (Or.inr (Or.inl ⟨by omega, by omega, k_m2, rfl⟩))
          · -- to 28
            exact At.sub [0, 1, 2, 3] rfl (L_28  (by omega))
set_option maxHeartbeats 4000000 in
set_option maxRecDepth 100000 in
theorem c_X8_of (E : Ev) (ad : Nat → Nat) (σ : Sg) (p : Int32) (q : Int32) (hI : IC σ) : Ct E ad yX8_of cX8_of 3 (some .int) 3 [.ref (ad 0), .int p, .int q] σ (fun r τ => τ = σ ∧ ((σ 2 6).toInt = 0 → r.toInt = -1)) := by
  have k_m1 : (-1 : Int32).toInt = -1 := by decide
  have k_1 : (1 : Int32).toInt = 1 := by decide
  have hJ := hI
  unfold IC at hJ
  refine ct_of RX8 rfl (by decide +kernel) [(0, .ref (ad 0)), (1, .int (p)), (2, .int (q))] rfl (Nat.le_of_ble_eq_true rfl) (fun G C T => ?_)
  refine r_aload_n C 0 dX8_of_0 rfl rfl ?_
  refine r_get C (k := 0) (v := .ref (ad 2)) f_X8_20 (by decide) rfl rfl dX8_of_1 ?_
  refine r_iload_n C 1 dX8_of_4 rfl rfl ?_
  refine r_callV C (k := 2) [.int (p)] [] (c_X2_has E ad σ  (p) ) lv_X8_74 (by decide) rfl rfl (by decide) (by decide) rfl rfl (Nat.le_of_ble_eq_true rfl) dX8_of_5 (fun r_1 τ_2 h_3 => ?_)
  obtain ⟨eh_3, h_3⟩ := h_3
  obtain rfl := eh_3.symm
  refine r_if_ne C 13 dX8_of_8 (by decide) (fun c_4 => ?_) (fun c_4 => ?_)
  · -- to 13
    refine r_iload_n C 2 dX8_of_13 rfl rfl ?_
    rcases (show ((q : Int32).toInt < 0 ∨ 5 < (q : Int32).toInt) ∨ (q : Int32).toInt = 0 ∨ (q : Int32).toInt = 1 ∨ (q : Int32).toInt = 2 ∨ (q : Int32).toInt = 3 ∨ (q : Int32).toInt = 4 ∨ (q : Int32).toInt = 5 by omega) with sw_5 | sw_5 | sw_5 | sw_5 | sw_5 | sw_5 | sw_5
    · -- case None
      refine r_tblOut C 113 dX8_of_14 sw_5 (by decide) ?_
      refine r_iconst C (-1) dX8_of_113 (by decide) ?_
      exact r_iret C T dX8_of_114 (⟨rfl, fun h => by first | exact k_m1 | exact absurd h (by omega)⟩)
    · -- case 0
      refine r_tblIn C (0) 52 dX8_of_14 sw_5 (by decide) (by decide) rfl (by decide) ?_
      refine r_aload_n C 0 dX8_of_52 rfl rfl ?_
      refine r_get C (k := 0) (v := .ref (ad 2)) f_X8_20 (by decide) rfl rfl dX8_of_53 ?_
      refine r_get C (k := 2) (v := .ref (ad 3)) f_X8_77 (by decide) rfl rfl dX8_of_56 ?_
      refine r_iload_n C 1 dX8_of_59 rfl rfl ?_
      refine r_iald C (k := 3) (by decide) rfl (by omega) (σ 3 ((p : Int32).toInt.toNat)) rfl dX8_of_60 ?_
      exact r_iret C T dX8_of_61 (⟨rfl, fun h => by first | exact k_m1 | exact absurd h (by omega)⟩)
    · -- case 1
      refine r_tblIn C (1) 62 dX8_of_14 sw_5 (by decide) (by decide) rfl (by decide) ?_
      refine r_aload_n C 0 dX8_of_62 rfl rfl ?_
      refine r_get C (k := 0) (v := .ref (ad 2)) f_X8_20 (by decide) rfl rfl dX8_of_63 ?_
      refine r_get C (k := 2) (v := .ref (ad 4)) f_X8_81 (by decide) rfl rfl dX8_of_66 ?_
      refine r_iload_n C 1 dX8_of_69 rfl rfl ?_
      refine r_iald C (k := 4) (by decide) rfl (by omega) (σ 4 ((p : Int32).toInt.toNat)) rfl dX8_of_70 ?_
      exact r_iret C T dX8_of_71 (⟨rfl, fun h => by first | exact k_m1 | exact absurd h (by omega)⟩)
    · -- case 2
      refine r_tblIn C (2) 72 dX8_of_14 sw_5 (by decide) (by decide) rfl (by decide) ?_
      refine r_aload_n C 0 dX8_of_72 rfl rfl ?_
      refine r_get C (k := 0) (v := .ref (ad 2)) f_X8_20 (by decide) rfl rfl dX8_of_73 ?_
      refine r_get C (k := 2) (v := .ref (ad 6)) f_X8_84 (by decide) rfl rfl dX8_of_76 ?_
      refine r_iload_n C 1 dX8_of_79 rfl rfl ?_
      refine r_iald C (k := 6) (by decide) rfl (by omega) (σ 6 ((p : Int32).toInt.toNat)) rfl dX8_of_80 ?_
      exact r_iret C T dX8_of_81 (⟨rfl, fun h => by first | exact k_m1 | exact absurd h (by omega)⟩)
    · -- case 3
      refine r_tblIn C (3) 82 dX8_of_14 sw_5 (by decide) (by decide) rfl (by decide) ?_
      refine r_aload_n C 0 dX8_of_82 rfl rfl ?_
      refine r_get C (k := 0) (v := .ref (ad 2)) f_X8_20 (by decide) rfl rfl dX8_of_83 ?_
      refine r_get C (k := 2) (v := .ref (ad 7)) f_X8_87 (by decide) rfl rfl dX8_of_86 ?_
      refine r_iload_n C 1 dX8_of_89 rfl rfl ?_
      refine r_iald C (k := 7) (by decide) rfl (by omega) (σ 7 ((p : Int32).toInt.toNat)) rfl dX8_of_90 ?_
      exact r_iret C T dX8_of_91 (⟨rfl, fun h => by first | exact k_m1 | exact absurd h (by omega)⟩)
    · -- case 4
      refine r_tblIn C (4) 92 dX8_of_14 sw_5 (by decide) (by decide) rfl (by decide) ?_
      refine r_aload_n C 0 dX8_of_92 rfl rfl ?_
      refine r_get C (k := 0) (v := .ref (ad 1)) f_X8_10 (by decide) rfl rfl dX8_of_93 ?_
      refine r_callV C (k := 1) [] [] (c_X5_closedNow E ad σ   hI) lv_X8_90 (by decide) rfl rfl (by decide) (by decide) rfl rfl (Nat.le_of_ble_eq_true rfl) dX8_of_96 (fun r_10 τ_11 h_12 => ?_)
      obtain ⟨eh_12, h_12⟩ := h_12
      obtain rfl := eh_12.symm
      refine r_iload_n C 1 dX8_of_99 rfl rfl ?_
      refine r_ishr C dX8_of_100 ?_
      refine r_nm (P := fun z => z = (r_10 : Int32) >>> ((p : Int32) &&& 31)) rfl (fun z_13 hz_14 => ?_)
      refine r_iconst C (1) dX8_of_101 (by decide) ?_
      refine r_iand C dX8_of_102 ?_
      refine r_nm (P := fun z => z = (z_13 : Int32) &&& (1)) rfl (fun z_15 hz_16 => ?_)
      exact r_iret C T dX8_of_103 (⟨rfl, fun h => by first | exact k_m1 | exact absurd h (by omega)⟩)
    · -- case 5
      refine r_tblIn C (5) 104 dX8_of_14 sw_5 (by decide) (by decide) rfl (by decide) ?_
      refine r_aload_n C 0 dX8_of_104 rfl rfl ?_
      refine r_get C (k := 0) (v := .ref (ad 16)) f_X8_30 (by decide) rfl rfl dX8_of_105 ?_
      refine r_iload_n C 1 dX8_of_108 rfl rfl ?_
      refine r_callV C (k := 16) [.int (p)] [] (c_X3_locksOn E ad σ  (p) hI) lv_X8_94 (by decide) rfl rfl (by decide) (by decide) rfl rfl (Nat.le_of_ble_eq_true rfl) dX8_of_109 (fun r_17 τ_18 h_19 => ?_)
      obtain ⟨eh_19, h_19⟩ := h_19
      obtain rfl := eh_19.symm
      exact r_iret C T dX8_of_112 (⟨rfl, fun h => by first | exact k_m1 | exact absurd h (by omega)⟩)
  · -- to 11
    refine r_iconst C (-1) dX8_of_11 (by decide) ?_
    exact r_iret C T dX8_of_12 (⟨rfl, fun h => by first | exact k_m1 | exact absurd h (by omega)⟩)
set_option maxHeartbeats 4000000 in
set_option maxRecDepth 100000 in
theorem c_X8_source (E : Ev) (ad : Nat → Nat) (σ : Sg) (p : Int32) (q : Int32) (u : Int32) (hI : IC σ) : Ct E ad yX8_source cX8_source 4 (some .int) 1 [.ref (ad 0), .int p, .int q, .int u] σ (fun r τ => (¬ (0 ≤ p.toInt ∧ p.toInt < 10 ∧ 0 ≤ q.toInt ∧ q.toInt < 3) ∧ r.toInt = -1 ∧ τ = σ) ∨ ((0 ≤ p.toInt ∧ p.toInt < 10 ∧ 0 ≤ q.toInt ∧ q.toInt < 3) ∧ τ = sUp σ 8 q.toInt.toNat (if u.toInt ≠ 0 then (σ 8 q.toInt.toNat) ||| ((1 : Int32) <<< (p &&& 31)) else (σ 8 q.toInt.toNat) &&& (((1 : Int32) <<< (p &&& 31)) ^^^ (-1))) ∧ ((r.toInt = 0 ∧ (if u.toInt ≠ 0 then (σ 8 q.toInt.toNat) ||| ((1 : Int32) <<< (p &&& 31)) else (σ 8 q.toInt.toNat) &&& (((1 : Int32) <<< (p &&& 31)) ^^^ (-1))).toInt = (σ 8 q.toInt.toNat).toInt) ∨ (r.toInt = 1 ∧ (if u.toInt ≠ 0 then (σ 8 q.toInt.toNat) ||| ((1 : Int32) <<< (p &&& 31)) else (σ 8 q.toInt.toNat) &&& (((1 : Int32) <<< (p &&& 31)) ^^^ (-1))).toInt ≠ (σ 8 q.toInt.toNat).toInt)))) := by
  have k_m1 : (-1 : Int32).toInt = -1 := by decide
  have k_0 : (0 : Int32).toInt = 0 := by decide
  have k_1 : (1 : Int32).toInt = 1 := by decide
  have k_3 : (3 : Int32).toInt = 3 := by decide
  have hJ := hI
  unfold IC at hJ
  refine ct_of RX8 rfl (by decide +kernel) [(0, .ref (ad 0)), (1, .int (p)), (2, .int (q)), (3, .int (u))] rfl (Nat.le_of_ble_eq_true rfl) (fun G C T => ?_)
  refine r_iload_n C 1 dX8_source_0 rfl rfl ?_
  refine r_callS C [.int (p)] [] (c_X8_isPlace E ad σ  (p) ) ls_X8_61 (by decide) (by decide) rfl rfl (Nat.le_of_ble_eq_true rfl) dX8_source_1 (fun r_1 τ_2 h_3 => ?_)
  obtain ⟨eh_3, h_3⟩ := h_3
  obtain rfl := eh_3.symm
  refine r_if_eq C 16 dX8_source_4 (by decide) (fun c_4 => ?_) (fun c_4 => ?_)
  · -- to 16
    refine r_iconst C (-1) dX8_source_16 (by decide) ?_
    exact r_iret C T dX8_source_17 (Or.inl ⟨by omega, k_m1, rfl⟩)
  · -- to 7
    refine r_iload_n C 2 dX8_source_7 rfl rfl ?_
    refine r_if_lt C 16 dX8_source_8 (by decide) (fun c_5 => ?_) (fun c_5 => ?_)
    · -- to 16
      refine r_iconst C (-1) dX8_source_16 (by decide) ?_
      exact r_iret C T dX8_source_17 (Or.inl ⟨by omega, k_m1, rfl⟩)
    · -- to 11
      refine r_iload_n C 2 dX8_source_11 rfl rfl ?_
      refine r_iconst C (3) dX8_source_12 (by decide) ?_
      refine r_icmp_lt C 18 dX8_source_13 (by decide) (fun c_6 => ?_) (fun c_6 => ?_)
      · -- to 18
        refine r_aload_n C 0 dX8_source_18 rfl rfl ?_
        refine r_get C (k := 0) (v := .ref (ad 2)) f_X8_20 (by decide) rfl rfl dX8_source_19 ?_
        refine r_iload_n C 1 dX8_source_22 rfl rfl ?_
        refine r_iload_n C 2 dX8_source_23 rfl rfl ?_
        refine r_iload_n C 3 dX8_source_24 rfl rfl ?_
        refine r_callV C (k := 2) [.int (p), .int (q), .int (u)] [] (c_X2_tellSource E ad σ  (p) (q) (u) (by omega)) lv_X8_100 (by decide) rfl rfl (by decide) (by decide) rfl rfl (Nat.le_of_ble_eq_true rfl) dX8_source_25 (fun r_7 τ_8 h_9 => ?_)
        refine r_if_eq C 35 dX8_source_28 (by decide) (fun c_10 => ?_) (fun c_10 => ?_)
        · -- to 35
          refine r_iconst C (0) dX8_source_35 (by decide) ?_
          exact r_iret C T dX8_source_36 (Or.inr ⟨by omega, h_9.1, by have t := h_9.2; omega⟩)
        · -- to 31
          refine r_iconst C (1) dX8_source_31 (by decide) ?_
          refine r_goto C 36 dX8_source_32 (by decide) ?_
          exact r_iret C T dX8_source_36 (Or.inr ⟨by omega, h_9.1, by have t := h_9.2; omega⟩)
      · -- to 16
        refine r_iconst C (-1) dX8_source_16 (by decide) ?_
        exact r_iret C T dX8_source_17 (Or.inl ⟨by omega, k_m1, rfl⟩)
set_option maxHeartbeats 4000000 in
set_option maxRecDepth 100000 in
theorem c_X8_turn (E : Ev) (ad : Nat → Nat) (σ : Sg) (p : Int32) (q : Int32) (hI : IC σ) : Ct E ad yX8_turn cX8_turn 3 (some .int) 2 [.ref (ad 0), .int p, .int q] σ (fun r τ => Off [2] σ τ ∧ (∀ j, j ≠ 9 → τ 2 j = σ 2 j) ∧ ((σ 2 6).toInt = 0 → r.toInt = -1)) := by
  have k_m5 : (-5 : Int32).toInt = -5 := by decide
  have k_m1 : (-1 : Int32).toInt = -1 := by decide
  have k_0 : (0 : Int32).toInt = 0 := by decide
  have k_1 : (1 : Int32).toInt = 1 := by decide
  have hJ := hI
  unfold IC at hJ
  refine ct_of RX8 rfl (by decide +kernel) [(0, .ref (ad 0)), (1, .int (p)), (2, .int (q))] rfl (Nat.le_of_ble_eq_true rfl) (fun G C T => ?_)
  refine r_aload_n C 0 dX8_turn_0 rfl rfl ?_
  refine r_get C (k := 0) (v := .ref (ad 2)) f_X8_20 (by decide) rfl rfl dX8_turn_1 ?_
  refine r_iload_n C 1 dX8_turn_4 rfl rfl ?_
  refine r_callV C (k := 2) [.int (p)] [] (c_X2_hasFitting E ad σ  (p) hI) lv_X8_104 (by decide) rfl rfl (by decide) (by decide) rfl rfl (Nat.le_of_ble_eq_true rfl) dX8_turn_5 (fun r_1 τ_2 h_3 => ?_)
  obtain ⟨eh_3, h_3⟩ := h_3
  obtain rfl := eh_3.symm
  refine r_if_ne C 13 dX8_turn_8 (by decide) (fun c_4 => ?_) (fun c_4 => ?_)
  · -- to 13
    refine r_iload_n C 2 dX8_turn_13 rfl rfl ?_
    refine r_if_ne C 31 dX8_turn_14 (by decide) (fun c_5 => ?_) (fun c_5 => ?_)
    · -- to 31
      refine r_aload_n C 0 dX8_turn_31 rfl rfl ?_
      refine r_get C (k := 0) (v := .ref (ad 2)) f_X8_20 (by decide) rfl rfl dX8_turn_32 ?_
      refine r_iload_n C 1 dX8_turn_35 rfl rfl ?_
      refine r_iload_n C 2 dX8_turn_36 rfl rfl ?_
      refine r_callV C (k := 2) [.int (p), .int (q)] [] (c_X2_turnByHand E ad σ  (p) (q) ) lv_X8_107 (by decide) rfl rfl (by decide) (by decide) rfl rfl (Nat.le_of_ble_eq_true rfl) dX8_turn_37 (fun r_6 τ_7 h_8 => ?_)
      refine r_if_eq C 47 dX8_turn_40 (by decide) (fun c_9 => ?_) (fun c_9 => ?_)
      · -- to 47
        refine r_iconst C (0) dX8_turn_47 (by decide) ?_
        exact r_iret C T dX8_turn_48 (⟨by obtain ⟨v, e⟩ := h_8.1; rw [e]; exact Off.rf.up (by decide), by obtain ⟨v, e⟩ := h_8.1; rw [e]; intro j hj; rw [sUp_eq]; exact if_neg hj, fun h => absurd h (by omega)⟩)
      · -- to 43
        refine r_iconst C (1) dX8_turn_43 (by decide) ?_
        refine r_goto C 48 dX8_turn_44 (by decide) ?_
        exact r_iret C T dX8_turn_48 (⟨by obtain ⟨v, e⟩ := h_8.1; rw [e]; exact Off.rf.up (by decide), by obtain ⟨v, e⟩ := h_8.1; rw [e]; intro j hj; rw [sUp_eq]; exact if_neg hj, fun h => absurd h (by omega)⟩)
    · -- to 17
      refine r_aload_n C 0 dX8_turn_17 rfl rfl ?_
      refine r_get C (k := 0) (v := .ref (ad 16)) f_X8_30 (by decide) rfl rfl dX8_turn_18 ?_
      refine r_iload_n C 1 dX8_turn_21 rfl rfl ?_
      refine r_callV C (k := 16) [.int (p)] [] (c_X3_locksOn E ad σ  (p) hI) lv_X8_94 (by decide) rfl rfl (by decide) (by decide) rfl rfl (Nat.le_of_ble_eq_true rfl) dX8_turn_22 (fun r_10 τ_11 h_12 => ?_)
      obtain ⟨eh_12, h_12⟩ := h_12
      obtain rfl := eh_12.symm
      refine r_if_le C 31 dX8_turn_25 (by decide) (fun c_13 => ?_) (fun c_13 => ?_)
      · -- to 31
        refine r_aload_n C 0 dX8_turn_31 rfl rfl ?_
        refine r_get C (k := 0) (v := .ref (ad 2)) f_X8_20 (by decide) rfl rfl dX8_turn_32 ?_
        refine r_iload_n C 1 dX8_turn_35 rfl rfl ?_
        refine r_iload_n C 2 dX8_turn_36 rfl rfl ?_
        refine r_callV C (k := 2) [.int (p), .int (q)] [] (c_X2_turnByHand E ad σ  (p) (q) ) lv_X8_107 (by decide) rfl rfl (by decide) (by decide) rfl rfl (Nat.le_of_ble_eq_true rfl) dX8_turn_37 (fun r_14 τ_15 h_16 => ?_)
        refine r_if_eq C 47 dX8_turn_40 (by decide) (fun c_17 => ?_) (fun c_17 => ?_)
        · -- to 47
          refine r_iconst C (0) dX8_turn_47 (by decide) ?_
          exact r_iret C T dX8_turn_48 (⟨by obtain ⟨v, e⟩ := h_16.1; rw [e]; exact Off.rf.up (by decide), by obtain ⟨v, e⟩ := h_16.1; rw [e]; intro j hj; rw [sUp_eq]; exact if_neg hj, fun h => absurd h (by omega)⟩)
        · -- to 43
          refine r_iconst C (1) dX8_turn_43 (by decide) ?_
          refine r_goto C 48 dX8_turn_44 (by decide) ?_
          exact r_iret C T dX8_turn_48 (⟨by obtain ⟨v, e⟩ := h_16.1; rw [e]; exact Off.rf.up (by decide), by obtain ⟨v, e⟩ := h_16.1; rw [e]; intro j hj; rw [sUp_eq]; exact if_neg hj, fun h => absurd h (by omega)⟩)
      · -- to 28
        refine r_bipush C (-5) dX8_turn_28 (by decide) ?_
        exact r_iret C T dX8_turn_30 (⟨Off.rf, fun _ _ => rfl, fun h => absurd h (by omega)⟩)
  · -- to 11
    refine r_iconst C (-1) dX8_turn_11 (by decide) ?_
    exact r_iret C T dX8_turn_12 (⟨Off.rf, fun _ _ => rfl, fun _ => k_m1⟩)
set_option maxHeartbeats 4000000 in
set_option maxRecDepth 100000 in
theorem c_X8_safe (E : Ev) (ad : Nat → Nat) (σ : Sg) (p : Int32) (hI : IC σ) : Ct E ad yX8_safe cX8_safe 2 (some .int) 3 [.ref (ad 0), .int p] σ (fun r τ => τ = σ ∧ (¬ (0 ≤ p.toInt ∧ p.toInt < 10) → r.toInt = -1) ∧ ((∀ j, σ 8 j = 0) → 0 ≤ p.toInt ∧ p.toInt < 10 → r.toInt = 1)) := by
  have k_m1 : (-1 : Int32).toInt = -1 := by decide
  have k_0 : (0 : Int32).toInt = 0 := by decide
  have k_1 : (1 : Int32).toInt = 1 := by decide
  have hJ := hI
  unfold IC at hJ
  refine ct_of RX8 rfl (by decide +kernel) [(0, .ref (ad 0)), (1, .int (p))] rfl (Nat.le_of_ble_eq_true rfl) (fun G C T => ?_)
  refine r_iload_n C 1 dX8_safe_0 rfl rfl ?_
  refine r_callS C [.int (p)] [] (c_X8_isPlace E ad σ  (p) ) ls_X8_61 (by decide) (by decide) rfl rfl (Nat.le_of_ble_eq_true rfl) dX8_safe_1 (fun r_1 τ_2 h_3 => ?_)
  obtain ⟨eh_3, h_3⟩ := h_3
  obtain rfl := eh_3.symm
  refine r_if_ne C 9 dX8_safe_4 (by decide) (fun c_4 => ?_) (fun c_4 => ?_)
  · -- to 9
    refine r_aload_n C 0 dX8_safe_9 rfl rfl ?_
    refine r_get C (k := 0) (v := .ref (ad 2)) f_X8_20 (by decide) rfl rfl dX8_safe_10 ?_
    refine r_iload_n C 1 dX8_safe_13 rfl rfl ?_
    refine r_aload_n C 0 dX8_safe_14 rfl rfl ?_
    refine r_get C (k := 0) (v := .ref (ad 1)) f_X8_10 (by decide) rfl rfl dX8_safe_15 ?_
    refine r_callV C (k := 1) [] [.int (p), .ref (ad 2)] (c_X5_closedNow E ad σ   hI) lv_X8_90 (by decide) rfl rfl (by decide) (by decide) rfl rfl (Nat.le_of_ble_eq_true rfl) dX8_safe_18 (fun r_5 τ_6 h_7 => ?_)
    obtain ⟨eh_7, h_7⟩ := h_7
    obtain rfl := eh_7.symm
    refine r_aload_n C 0 dX8_safe_21 rfl rfl ?_
    refine r_get C (k := 0) (v := .ref (ad 2)) f_X8_20 (by decide) rfl rfl dX8_safe_22 ?_
    refine r_callV C (k := 2) [] [.int (r_5), .int (p), .ref (ad 2)] (c_X2_allPipes E ad σ   ) lv_X8_111 (by decide) rfl rfl (by decide) (by decide) rfl rfl (Nat.le_of_ble_eq_true rfl) dX8_safe_25 (fun r_8 τ_9 h_10 => ?_)
    obtain ⟨eh_10, h_10⟩ := h_10
    obtain rfl := eh_10.symm
    refine r_aload_n C 0 dX8_safe_28 rfl rfl ?_
    refine r_get C (k := 0) (v := .ref (ad 9)) f_X8_25 (by decide) rfl rfl dX8_safe_29 ?_
    refine r_aload_n C 0 dX8_safe_32 rfl rfl ?_
    refine r_get C (k := 0) (v := .int (σ 0 8)) f_X8_57 (by decide) rfl rfl dX8_safe_33 ?_
    refine r_callV C (k := 9) [.int (σ 0 8)] [.int (r_8), .int (r_5), .int (p), .ref (ad 2)] (c_X6_doubledAt E ad σ  (σ 0 8) hI) lv_X8_114 (by decide) rfl rfl (by decide) (by decide) rfl rfl (Nat.le_of_ble_eq_true rfl) dX8_safe_36 (fun r_11 τ_12 h_13 => ?_)
    obtain ⟨eh_13, h_13⟩ := h_13
    obtain rfl := eh_13.symm
    refine r_callV C (k := 2) [.int (p), .int (r_5), .int (r_8), .int (r_11)] [] (c_X2_isSafe E ad σ  (p) (r_5) (r_8) (r_11) hI) lv_X8_119 (by decide) rfl rfl (by decide) (by decide) rfl rfl (Nat.le_of_ble_eq_true rfl) dX8_safe_39 (fun r_14 τ_15 h_16 => ?_)
    obtain ⟨eh_16, h_16⟩ := h_16
    obtain rfl := eh_16.symm
    refine r_if_eq C 49 dX8_safe_42 (by decide) (fun c_17 => ?_) (fun c_17 => ?_)
    · -- to 49
      refine r_iconst C (0) dX8_safe_49 (by decide) ?_
      exact r_iret C T dX8_safe_50 (⟨rfl, fun h => absurd h (by omega), fun h _ => by have t := h_16.2 h; omega⟩)
    · -- to 45
      refine r_iconst C (1) dX8_safe_45 (by decide) ?_
      refine r_goto C 50 dX8_safe_46 (by decide) ?_
      exact r_iret C T dX8_safe_50 (⟨rfl, fun h => absurd h (by omega), fun h _ => by have t := h_16.2 h; omega⟩)
  · -- to 7
    refine r_iconst C (-1) dX8_safe_7 (by decide) ?_
    exact r_iret C T dX8_safe_8 (⟨rfl, fun _ => k_m1, fun _ h => absurd h (by omega)⟩)
set_option maxHeartbeats 4000000 in
set_option maxRecDepth 100000 in
theorem c_X8_barriers (E : Ev) (ad : Nat → Nat) (σ : Sg) (p : Int32) (q : Int32) (hI : IC σ) : Ct E ad yX8_barriers cX8_barriers 3 (some .int) 3 [.ref (ad 0), .int p, .int q] σ (fun r τ => τ = σ ∧ (¬ (0 ≤ p.toInt ∧ p.toInt < 10 ∧ 0 ≤ q.toInt ∧ q.toInt < 10) → r.toInt = -1) ∧ ((σ 2 6).toInt = 0 → (0 ≤ p.toInt ∧ p.toInt < 10 ∧ 0 ≤ q.toInt ∧ q.toInt < 10) → ((p.toInt = q.toInt → r.toInt = 0) ∧ (p.toInt ≠ q.toInt → r.toInt = -3)))) := by
  have k_m1 : (-1 : Int32).toInt = -1 := by decide
  have hJ := hI
  unfold IC at hJ
  refine ct_of RX8 rfl (by decide +kernel) [(0, .ref (ad 0)), (1, .int (p)), (2, .int (q))] rfl (Nat.le_of_ble_eq_true rfl) (fun G C T => ?_)
  refine r_iload_n C 1 dX8_barriers_0 rfl rfl ?_
  refine r_callS C [.int (p)] [] (c_X8_isPlace E ad σ  (p) ) ls_X8_61 (by decide) (by decide) rfl rfl (Nat.le_of_ble_eq_true rfl) dX8_barriers_1 (fun r_1 τ_2 h_3 => ?_)
  obtain ⟨eh_3, h_3⟩ := h_3
  obtain rfl := eh_3.symm
  refine r_if_eq C 14 dX8_barriers_4 (by decide) (fun c_4 => ?_) (fun c_4 => ?_)
  · -- to 14
    refine r_iconst C (-1) dX8_barriers_14 (by decide) ?_
    exact r_iret C T dX8_barriers_15 (⟨rfl, fun _ => k_m1, fun _ h => absurd h (by omega)⟩)
  · -- to 7
    refine r_iload_n C 2 dX8_barriers_7 rfl rfl ?_
    refine r_callS C [.int (q)] [] (c_X8_isPlace E ad σ  (q) ) ls_X8_61 (by decide) (by decide) rfl rfl (Nat.le_of_ble_eq_true rfl) dX8_barriers_8 (fun r_5 τ_6 h_7 => ?_)
    obtain ⟨eh_7, h_7⟩ := h_7
    obtain rfl := eh_7.symm
    refine r_if_ne C 16 dX8_barriers_11 (by decide) (fun c_8 => ?_) (fun c_8 => ?_)
    · -- to 16
      refine r_aload_n C 0 dX8_barriers_16 rfl rfl ?_
      refine r_get C (k := 0) (v := .ref (ad 2)) f_X8_20 (by decide) rfl rfl dX8_barriers_17 ?_
      refine r_iload_n C 1 dX8_barriers_20 rfl rfl ?_
      refine r_iload_n C 2 dX8_barriers_21 rfl rfl ?_
      refine r_aload_n C 0 dX8_barriers_22 rfl rfl ?_
      refine r_get C (k := 0) (v := .ref (ad 1)) f_X8_10 (by decide) rfl rfl dX8_barriers_23 ?_
      refine r_callV C (k := 1) [] [.int (q), .int (p), .ref (ad 2)] (c_X5_closedNow E ad σ   hI) lv_X8_90 (by decide) rfl rfl (by decide) (by decide) rfl rfl (Nat.le_of_ble_eq_true rfl) dX8_barriers_26 (fun r_9 τ_10 h_11 => ?_)
      obtain ⟨eh_11, h_11⟩ := h_11
      obtain rfl := eh_11.symm
      refine r_callV C (k := 2) [.int (p), .int (q), .int (r_9)] [] (c_X2_fewestBarriers E ad σ  (p) (q) (r_9) hI) lv_X8_123 (by decide) rfl rfl (by decide) (by decide) rfl rfl (Nat.le_of_ble_eq_true rfl) dX8_barriers_29 (fun r_12 τ_13 h_14 => ?_)
      obtain ⟨eh_14, h_14⟩ := h_14
      obtain rfl := eh_14.symm
      exact r_iret C T dX8_barriers_32 (⟨rfl, fun h => absurd h (by omega), h_14⟩)
    · -- to 14
      refine r_iconst C (-1) dX8_barriers_14 (by decide) ?_
      exact r_iret C T dX8_barriers_15 (⟨rfl, fun _ => k_m1, fun _ h => absurd h (by omega)⟩)
set_option maxHeartbeats 4000000 in
set_option maxRecDepth 100000 in
theorem c_X8_apart (E : Ev) (ad : Nat → Nat) (σ : Sg) (p : Int32) (q : Int32) (hI : IC σ) : Ct E ad yX8_apart cX8_apart 3 (some .int) 2 [.ref (ad 0), .int p, .int q] σ (fun r τ => τ = σ ∧ (¬ (0 ≤ p.toInt ∧ p.toInt < 10 ∧ 0 ≤ q.toInt ∧ q.toInt < 10) → r.toInt = -1) ∧ ((σ 2 6).toInt = 0 → (0 ≤ p.toInt ∧ p.toInt < 10 ∧ 0 ≤ q.toInt ∧ q.toInt < 10) → ((p.toInt = q.toInt → r.toInt = 0) ∧ (p.toInt ≠ q.toInt → r.toInt = -3))) ∧ (∀ A B g : Nat → Int32, (0 ≤ p.toInt ∧ p.toInt < 10 ∧ 0 ≤ q.toInt ∧ q.toInt < 10) → GS (σ 2 6).toInt (σ 5) A B g p.toInt → r.toInt = if (g q.toInt.toNat).toInt = 1000 then -3 else (g q.toInt.toNat).toInt)) := by
  have k_m1 : (-1 : Int32).toInt = -1 := by decide
  have hJ := hI
  unfold IC at hJ
  refine ct_of RX8 rfl (by decide +kernel) [(0, .ref (ad 0)), (1, .int (p)), (2, .int (q))] rfl (Nat.le_of_ble_eq_true rfl) (fun G C T => ?_)
  refine r_iload_n C 1 dX8_apart_0 rfl rfl ?_
  refine r_callS C [.int (p)] [] (c_X8_isPlace E ad σ  (p) ) ls_X8_61 (by decide) (by decide) rfl rfl (Nat.le_of_ble_eq_true rfl) dX8_apart_1 (fun r_1 τ_2 h_3 => ?_)
  obtain ⟨eh_3, h_3⟩ := h_3
  obtain rfl := eh_3.symm
  refine r_if_eq C 14 dX8_apart_4 (by decide) (fun c_4 => ?_) (fun c_4 => ?_)
  · -- to 14
    refine r_iconst C (-1) dX8_apart_14 (by decide) ?_
    exact r_iret C T dX8_apart_15 (⟨rfl, fun _ => k_m1, fun _ h => absurd h (by omega), fun _ _ _ h => absurd h (by omega)⟩)
  · -- to 7
    refine r_iload_n C 2 dX8_apart_7 rfl rfl ?_
    refine r_callS C [.int (q)] [] (c_X8_isPlace E ad σ  (q) ) ls_X8_61 (by decide) (by decide) rfl rfl (Nat.le_of_ble_eq_true rfl) dX8_apart_8 (fun r_5 τ_6 h_7 => ?_)
    obtain ⟨eh_7, h_7⟩ := h_7
    obtain rfl := eh_7.symm
    refine r_if_ne C 16 dX8_apart_11 (by decide) (fun c_8 => ?_) (fun c_8 => ?_)
    · -- to 16
      refine r_aload_n C 0 dX8_apart_16 rfl rfl ?_
      refine r_get C (k := 0) (v := .ref (ad 2)) f_X8_20 (by decide) rfl rfl dX8_apart_17 ?_
      refine r_iload_n C 1 dX8_apart_20 rfl rfl ?_
      refine r_iload_n C 2 dX8_apart_21 rfl rfl ?_
      refine r_callV C (k := 2) [.int (p), .int (q)] [] (c_X2_pipesApart E ad σ  (p) (q) hI) lv_X8_127 (by decide) rfl rfl (by decide) (by decide) rfl rfl (Nat.le_of_ble_eq_true rfl) dX8_apart_22 (fun r_9 τ_10 h_11 => ?_)
      obtain ⟨eh_11, h_11⟩ := h_11
      obtain rfl := eh_11.symm
      exact r_iret C T dX8_apart_25 (⟨rfl, fun h => absurd h (by omega), h_11⟩)
    · -- to 14
      refine r_iconst C (-1) dX8_apart_14 (by decide) ?_
      exact r_iret C T dX8_apart_15 (⟨rfl, fun _ => k_m1, fun _ h => absurd h (by omega), fun _ _ _ h => absurd h (by omega)⟩)
set_option maxHeartbeats 4000000 in
set_option maxRecDepth 100000 in
theorem c_X8_go (E : Ev) (ad : Nat → Nat) (σ : Sg) (p : Int32) (hI : IC σ) : Ct E ad yX8_go cX8_go 2 (some .int) 3 [.ref (ad 0), .int p] σ (fun r τ => (¬ (1 ≤ p.toInt ∧ p.toInt ≤ 48 ∧ (σ 0 8).toInt + p.toInt ≤ 300) ∧ r.toInt = -1 ∧ τ = σ) ∨ ((1 ≤ p.toInt ∧ p.toInt ≤ 48 ∧ (σ 0 8).toInt + p.toInt ≤ 300) ∧ r.toInt = (σ 0 8).toInt + p.toInt ∧ Off [0, 30, 31] σ τ ∧ (τ 0 8).toInt = (σ 0 8).toInt + p.toInt)) := by
  have k_m1 : (-1 : Int32).toInt = -1 := by decide
  have k_1 : (1 : Int32).toInt = 1 := by decide
  have k_3 : (3 : Int32).toInt = 3 := by decide
  have k_48 : (48 : Int32).toInt = 48 := by decide
  have k_300 : (300 : Int32).toInt = 300 := by decide
  have hJ := hI
  unfold IC at hJ
  refine ct_of RX8 rfl (by decide +kernel) [(0, .ref (ad 0)), (1, .int (p))] rfl (Nat.le_of_ble_eq_true rfl) (fun G C T => ?_)
  refine r_iload_n C 1 dX8_go_0 rfl rfl ?_
  refine r_iconst C (1) dX8_go_1 (by decide) ?_
  refine r_icmp_lt C 23 dX8_go_2 (by decide) (fun c_1 => ?_) (fun c_1 => ?_)
  · -- to 23
    refine r_iconst C (-1) dX8_go_23 (by decide) ?_
    exact r_iret C T dX8_go_24 (Or.inl ⟨by omega, k_m1, rfl⟩)
  · -- to 5
    refine r_iload_n C 1 dX8_go_5 rfl rfl ?_
    refine r_bipush C (48) dX8_go_6 (by decide) ?_
    refine r_icmp_gt C 23 dX8_go_8 (by decide) (fun c_2 => ?_) (fun c_2 => ?_)
    · -- to 23
      refine r_iconst C (-1) dX8_go_23 (by decide) ?_
      exact r_iret C T dX8_go_24 (Or.inl ⟨by omega, k_m1, rfl⟩)
    · -- to 11
      refine r_aload_n C 0 dX8_go_11 rfl rfl ?_
      refine r_get C (k := 0) (v := .int (σ 0 8)) f_X8_57 (by decide) rfl rfl dX8_go_12 ?_
      refine r_iload_n C 1 dX8_go_15 rfl rfl ?_
      refine r_iadd C dX8_go_16 ?_
      refine r_nm (P := fun z => z.toInt = (σ 0 8 : Int32).toInt + (p : Int32).toInt ∧ z = (σ 0 8) + (p)) ⟨ta_add (by omega), rfl⟩ (fun z_3 hz_4 => ?_)
      refine r_sipush C (300) dX8_go_17 (by decide) ?_
      refine r_icmp_le C 25 dX8_go_20 (by decide) (fun c_5 => ?_) (fun c_5 => ?_)
      · -- to 25
        refine r_aload_n C 0 dX8_go_25 rfl rfl ?_
        refine r_get C (k := 0) (v := .ref (ad 29)) f_X8_46 (by decide) rfl rfl dX8_go_26 ?_
        refine r_aload_n C 0 dX8_go_29 rfl rfl ?_
        refine r_get C (k := 0) (v := .int (σ 0 8)) f_X8_57 (by decide) rfl rfl dX8_go_30 ?_
        refine r_aload_n C 0 dX8_go_33 rfl rfl ?_
        refine r_get C (k := 0) (v := .int (σ 0 8)) f_X8_57 (by decide) rfl rfl dX8_go_34 ?_
        refine r_iload_n C 1 dX8_go_37 rfl rfl ?_
        refine r_iadd C dX8_go_38 ?_
        refine r_nm (P := fun z => z.toInt = (σ 0 8 : Int32).toInt + (p : Int32).toInt ∧ z = (σ 0 8) + (p)) ⟨ta_add (by omega), rfl⟩ (fun z_6 hz_7 => ?_)
        refine r_aload_n C 0 dX8_go_39 rfl rfl ?_
        refine r_get C (k := 0) (v := .ref (ad 1)) f_X8_10 (by decide) rfl rfl dX8_go_40 ?_
        refine r_callV C (k := 1) [] [.int (z_6), .int (σ 0 8), .ref (ad 29)] (c_X5_closedNow E ad σ   hI) lv_X8_90 (by decide) rfl rfl (by decide) (by decide) rfl rfl (Nat.le_of_ble_eq_true rfl) dX8_go_43 (fun r_8 τ_9 h_10 => ?_)
        obtain ⟨eh_10, h_10⟩ := h_10
        obtain rfl := eh_10.symm
        refine r_aload_n C 0 dX8_go_46 rfl rfl ?_
        refine r_get C (k := 0) (v := .ref (ad 16)) f_X8_30 (by decide) rfl rfl dX8_go_47 ?_
        refine r_iconst C (3) dX8_go_50 (by decide) ?_
        refine r_callV C (k := 16) [.int (3)] [.int (r_8), .int (z_6), .int (σ 0 8), .ref (ad 29)] (c_X3_inState E ad σ  (3) hI) lv_X8_131 (by decide) rfl rfl (by decide) (by decide) rfl rfl (Nat.le_of_ble_eq_true rfl) dX8_go_51 (fun r_11 τ_12 h_13 => ?_)
        obtain ⟨eh_13, h_13⟩ := h_13
        obtain rfl := eh_13.symm
        refine r_callVv C (k := 29) [.int (σ 0 8), .int (z_6), .int (r_8), .int (r_11)] [] (c_X1_keep E ad σ  (σ 0 8) (z_6) (r_8) (r_11) (by omega)) lv_X8_134 (by decide) rfl rfl (by decide) (by decide) rfl rfl (Nat.le_of_ble_eq_true rfl) dX8_go_54 (fun τ_15 h_16 => ?_)
        have e0 : (τ_15 0 8).toInt = (σ 0 8).toInt := by rw [h_16 0 (by decide)]
        refine r_aload_n C 0 dX8_go_57 rfl rfl ?_
        refine r_dup C dX8_go_58 rfl ?_
        refine r_get C (k := 0) (v := .int (τ_15 0 8)) f_X8_57 (by decide) rfl rfl dX8_go_59 ?_
        refine r_iload_n C 1 dX8_go_62 rfl rfl ?_
        refine r_iadd C dX8_go_63 ?_
        refine r_nm (P := fun z => z.toInt = (τ_15 0 8 : Int32).toInt + (p : Int32).toInt ∧ z = (τ_15 0 8) + (p)) ⟨ta_add (by omega), rfl⟩ (fun z_17 hz_18 => ?_)
        refine r_put C (k := 0) pf_X8_57 (by decide) (fun _ => rfl) (fun _ => Nat.le_of_ble_eq_true rfl) (fun _ _ => rfl) dX8_go_64 ?_
        refine r_aload_n C 0 dX8_go_67 rfl rfl ?_
        refine r_get C (k := 0) (v := .int (z_17)) f_X8_57 (by decide) rfl rfl dX8_go_68 ?_
        exact r_iret C T dX8_go_71 (Or.inr ⟨by omega, by omega, (h_16.to (by decide)).up (by decide), (show (z_17 : Int32).toInt = _ by omega)⟩)
      · -- to 23
        refine r_iconst C (-1) dX8_go_23 (by decide) ?_
        exact r_iret C T dX8_go_24 (Or.inl ⟨by omega, k_m1, rfl⟩)
set_option maxHeartbeats 4000000 in
set_option maxRecDepth 100000 in
theorem c_X8_feed (E : Ev) (ad : Nat → Nat) (σ : Sg) (b : Int64) (n : Int32) (hI : IC σ) : Ct E ad yX8_feed cX8_feed 4 (some .int) 1 [.ref (ad 0), .long b, .int n] σ (fun r τ => (¬ (1 ≤ n.toInt ∧ n.toInt ≤ 8) ∧ r.toInt = -1 ∧ τ = σ) ∨ ((1 ≤ n.toInt ∧ n.toInt ≤ 8) ∧ 60 < (σ 27 1).toInt + n.toInt ∧ r.toInt = -2 ∧ τ = σ) ∨ ((1 ≤ n.toInt ∧ n.toInt ≤ 8) ∧ (σ 27 1).toInt + n.toInt ≤ 60 ∧ r.toInt = (σ 27 1).toInt + n.toInt ∧ Off [27, 28] σ τ ∧ (τ 27 1).toInt = (σ 27 1).toInt + n.toInt)) := by
  have k_m2 : (-2 : Int32).toInt = -2 := by decide
  have k_m1 : (-1 : Int32).toInt = -1 := by decide
  have k_1 : (1 : Int32).toInt = 1 := by decide
  have k_8 : (8 : Int32).toInt = 8 := by decide
  have k_60 : (60 : Int32).toInt = 60 := by decide
  have hJ := hI
  unfold IC at hJ
  refine ct_of RX8 rfl (by decide +kernel) [(0, .ref (ad 0)), (1, .long (b)), (3, .int (n))] rfl (Nat.le_of_ble_eq_true rfl) (fun G C T => ?_)
  refine r_iload_n C 2 dX8_feed_0 rfl rfl ?_
  refine r_iconst C (1) dX8_feed_1 (by decide) ?_
  refine r_icmp_lt C 11 dX8_feed_2 (by decide) (fun c_1 => ?_) (fun c_1 => ?_)
  · -- to 11
    refine r_iconst C (-1) dX8_feed_11 (by decide) ?_
    exact r_iret C T dX8_feed_12 (Or.inl ⟨by omega, k_m1, rfl⟩)
  · -- to 5
    refine r_iload_n C 2 dX8_feed_5 rfl rfl ?_
    refine r_bipush C (8) dX8_feed_6 (by decide) ?_
    refine r_icmp_le C 13 dX8_feed_8 (by decide) (fun c_2 => ?_) (fun c_2 => ?_)
    · -- to 13
      refine r_aload_n C 0 dX8_feed_13 rfl rfl ?_
      refine r_get C (k := 0) (v := .ref (ad 27)) f_X8_39 (by decide) rfl rfl dX8_feed_14 ?_
      refine r_get C (k := 27) (v := .int (σ 27 1)) f_X8_138 (by decide) rfl rfl dX8_feed_17 ?_
      refine r_iload_n C 2 dX8_feed_20 rfl rfl ?_
      refine r_iadd C dX8_feed_21 ?_
      refine r_nm (P := fun z => z.toInt = (σ 27 1 : Int32).toInt + (n : Int32).toInt ∧ z = (σ 27 1) + (n)) ⟨ta_add (by omega), rfl⟩ (fun z_3 hz_4 => ?_)
      refine r_bipush C (60) dX8_feed_22 (by decide) ?_
      refine r_icmp_le C 30 dX8_feed_24 (by decide) (fun c_5 => ?_) (fun c_5 => ?_)
      · -- to 30
        refine r_aload_n C 0 dX8_feed_30 rfl rfl ?_
        refine r_get C (k := 0) (v := .ref (ad 27)) f_X8_39 (by decide) rfl rfl dX8_feed_31 ?_
        refine r_lload_n C 1 dX8_feed_34 rfl rfl ?_
        refine r_iload_n C 2 dX8_feed_35 rfl rfl ?_
        refine r_callVv C (k := 27) [.long (b), .int (n)] [] (c_X7_takeBytes E ad σ  (b) (n) (by omega)) lv_X8_141 (by decide) rfl rfl (by decide) (by decide) rfl rfl (Nat.le_of_ble_eq_true rfl) dX8_feed_36 (fun τ_7 h_8 => ?_)
        refine r_aload_n C 0 dX8_feed_39 rfl rfl ?_
        refine r_get C (k := 0) (v := .ref (ad 27)) f_X8_39 (by decide) rfl rfl dX8_feed_40 ?_
        refine r_get C (k := 27) (v := .int (τ_7 27 1)) f_X8_138 (by decide) rfl rfl dX8_feed_43 ?_
        exact r_iret C T dX8_feed_46 (Or.inr (Or.inr ⟨by omega, by omega, h_8.2, h_8⟩))
      · -- to 27
        refine r_bipush C (-2) dX8_feed_27 (by decide) ?_
        exact r_iret C T dX8_feed_29 (Or.inr (Or.inl ⟨by omega, by omega, k_m2, rfl⟩))
    · -- to 11
      refine r_iconst C (-1) dX8_feed_11 (by decide) ?_
      exact r_iret C T dX8_feed_12 (Or.inl ⟨by omega, k_m1, rfl⟩)
set_option maxHeartbeats 4000000 in
set_option maxRecDepth 100000 in
theorem c_X8_rule (E : Ev) (ad : Nat → Nat) (σ : Sg)  (hI : IC σ) : Ct E ad yX8_rule cX8_rule 2 (some .int) 8 [.ref (ad 0)] σ (fun r τ => Off [9, 10, 11, 12, 13, 14, 15, 27] σ τ ∧ (τ 27 1).toInt = 0 ∧ (0 ≤ (τ 9 6).toInt ∧ (τ 9 6).toInt ≤ 12) ∧ ((σ 27 1).toInt = 0 → r.toInt = -100)) := by
  have k_m100 : (-100 : Int32).toInt = -100 := by decide
  have k_m3 : (-3 : Int32).toInt = -3 := by decide
  have k_m2 : (-2 : Int32).toInt = -2 := by decide
  have k_12 : (12 : Int32).toInt = 12 := by decide
  have hJ := hI
  unfold IC at hJ
  refine ct_of RX8 rfl (by decide +kernel) [(0, .ref (ad 0))] rfl (Nat.le_of_ble_eq_true rfl) (fun G C T => ?_)
  refine r_aload_n C 0 dX8_rule_0 rfl rfl ?_
  refine r_get C (k := 0) (v := .ref (ad 27)) f_X8_39 (by decide) rfl rfl dX8_rule_1 ?_
  refine r_callV C (k := 27) [] [] (c_X7_readRule E ad σ   (by omega)) lv_X8_145 (by decide) rfl rfl (by decide) (by decide) rfl rfl (Nat.le_of_ble_eq_true rfl) dX8_rule_4 (fun r_1 τ_2 h_3 => ?_)
  have e9 : (τ_2 9 6).toInt = (σ 9 6).toInt := by rw [h_3.1 9 (by decide)]
  refine r_istore_n C [(1, .int (r_1)), (0, .ref (ad 0))] dX8_rule_7 rfl (by decide) rfl ?_
  refine r_aload_n C 1 dX8_rule_8 rfl rfl ?_
  refine r_get C (k := 0) (v := .ref (ad 27)) f_X8_39 (by decide) rfl rfl dX8_rule_9 ?_
  refine r_callVv C (k := 27) [] [] (c_X7_wipe E ad τ_2   ) lv_X8_148 (by decide) rfl rfl (by decide) (by decide) rfl rfl (Nat.le_of_ble_eq_true rfl) dX8_rule_12 (fun τ_5 h_6 => ?_)
  have e9b : (τ_5 9 6).toInt = (τ_2 9 6).toInt := by rw [h_6]; rfl
  have o12 : Off [9, 10, 11, 12, 13, 14, 15, 27] σ τ_5 := by rw [h_6]; exact (h_3.1.to (by decide)).up (by decide)
  have z12 : (τ_5 27 1).toInt = 0 := by rw [h_6]; rfl
  refine r_iload_n C 0 dX8_rule_15 rfl rfl ?_
  refine r_bipush C (-3) dX8_rule_16 (by decide) ?_
  refine r_icmp_eq C 26 dX8_rule_18 (by decide) (fun c_7 => ?_) (fun c_7 => ?_)
  · -- to 26
    refine r_aload_n C 1 dX8_rule_26 rfl rfl ?_
    refine r_get C (k := 0) (v := .ref (ad 9)) f_X8_25 (by decide) rfl rfl dX8_rule_27 ?_
    refine r_get C (k := 9) (v := .int (τ_5 9 6)) f_X8_151 (by decide) rfl rfl dX8_rule_30 ?_
    refine r_bipush C (12) dX8_rule_33 (by decide) ?_
    refine r_icmp_lt C 41 dX8_rule_35 (by decide) (fun c_8 => ?_) (fun c_8 => ?_)
    · -- to 41
      refine r_aload_n C 1 dX8_rule_41 rfl rfl ?_
      refine r_get C (k := 0) (v := .ref (ad 9)) f_X8_25 (by decide) rfl rfl dX8_rule_42 ?_
      refine r_aload_n C 1 dX8_rule_45 rfl rfl ?_
      refine r_get C (k := 0) (v := .ref (ad 27)) f_X8_39 (by decide) rfl rfl dX8_rule_46 ?_
      refine r_aload_n C 1 dX8_rule_49 rfl rfl ?_
      refine r_get C (k := 0) (v := .int (τ_5 0 8)) f_X8_57 (by decide) rfl rfl dX8_rule_50 ?_
      refine r_callV C (k := 9) [.ref (ad 27), .int (τ_5 0 8)] [] (c_X6_write E ad τ_5  (τ_5 0 8) (by omega)) lv_X8_152 (by decide) rfl rfl (by decide) (by decide) rfl rfl (Nat.le_of_ble_eq_true rfl) dX8_rule_53 (fun r_9 τ_10 h_11 => ?_)
      exact r_iret C T dX8_rule_56 (⟨o12.tr (h_11.1.to (by decide)) (fun _ h => h), by rw [h_11.1 27 (by decide)]; exact z12, by have t := h_11.2; omega, fun h => absurd (h_3.2.2 h) (by omega)⟩)
    · -- to 38
      refine r_bipush C (-2) dX8_rule_38 (by decide) ?_
      exact r_iret C T dX8_rule_40 (⟨o12, z12, by omega, fun h => absurd (h_3.2.2 h) (by omega)⟩)
  · -- to 21
    refine r_bipush C (-100) dX8_rule_21 (by decide) ?_
    refine r_iload_n C 0 dX8_rule_23 rfl rfl ?_
    refine r_isub C dX8_rule_24 ?_
    refine r_nm (P := fun z => z = ((-100)) - (r_1)) rfl (fun z_12 hz_13 => ?_)
    exact r_iret C T dX8_rule_25 (⟨o12, z12, by omega, fun h => by rw [hz_13, ta_inj ((h_3.2.2 h).trans Int32.toInt_zero.symm)]; decide⟩)
set_option maxHeartbeats 4000000 in
set_option maxRecDepth 100000 in
theorem c_X8_strike (E : Ev) (ad : Nat → Nat) (σ : Sg) (p : Int32) (hI : IC σ) : Ct E ad yX8_strike cX8_strike 2 (some .int) 1 [.ref (ad 0), .int p] σ (fun r τ => Off [15] σ τ ∧ ((σ 9 6).toInt = 0 → r.toInt = -1)) := by
  have k_m4 : (-4 : Int32).toInt = -4 := by decide
  have k_m3 : (-3 : Int32).toInt = -3 := by decide
  have k_m1 : (-1 : Int32).toInt = -1 := by decide
  have k_1 : (1 : Int32).toInt = 1 := by decide
  have hJ := hI
  unfold IC at hJ
  refine ct_of RX8 rfl (by decide +kernel) [(0, .ref (ad 0)), (1, .int (p))] rfl (Nat.le_of_ble_eq_true rfl) (fun G C T => ?_)
  refine r_aload_n C 0 dX8_strike_0 rfl rfl ?_
  refine r_get C (k := 0) (v := .ref (ad 9)) f_X8_25 (by decide) rfl rfl dX8_strike_1 ?_
  refine r_iload_n C 1 dX8_strike_4 rfl rfl ?_
  refine r_callV C (k := 9) [.int (p)] [] (c_X6_has E ad σ  (p) ) lv_X8_156 (by decide) rfl rfl (by decide) (by decide) rfl rfl (Nat.le_of_ble_eq_true rfl) dX8_strike_5 (fun r_1 τ_2 h_3 => ?_)
  obtain ⟨eh_3, h_3⟩ := h_3
  obtain rfl := eh_3.symm
  refine r_if_ne C 13 dX8_strike_8 (by decide) (fun c_4 => ?_) (fun c_4 => ?_)
  · -- to 13
    refine r_aload_n C 0 dX8_strike_13 rfl rfl ?_
    refine r_get C (k := 0) (v := .ref (ad 9)) f_X8_25 (by decide) rfl rfl dX8_strike_14 ?_
    refine r_get C (k := 9) (v := .ref (ad 15)) f_X8_157 (by decide) rfl rfl dX8_strike_17 ?_
    refine r_iload_n C 1 dX8_strike_20 rfl rfl ?_
    refine r_iald C (k := 15) (by decide) rfl (by omega) (σ 15 ((p : Int32).toInt.toNat)) rfl dX8_strike_21 ?_
    refine r_bipush C (-3) dX8_strike_22 (by decide) ?_
    refine r_icmp_eq C 30 dX8_strike_24 (by decide) (fun c_6 => ?_) (fun c_6 => ?_)
    · -- to 30
      refine r_aload_n C 0 dX8_strike_30 rfl rfl ?_
      refine r_get C (k := 0) (v := .ref (ad 9)) f_X8_25 (by decide) rfl rfl dX8_strike_31 ?_
      refine r_get C (k := 9) (v := .ref (ad 15)) f_X8_157 (by decide) rfl rfl dX8_strike_34 ?_
      refine r_iload_n C 1 dX8_strike_37 rfl rfl ?_
      refine r_aload_n C 0 dX8_strike_38 rfl rfl ?_
      refine r_get C (k := 0) (v := .int (σ 0 8)) f_X8_57 (by decide) rfl rfl dX8_strike_39 ?_
      refine r_iast C (k := 15) (by decide) (fun _ => rfl) (by omega) dX8_strike_42 ?_
      refine r_iconst C (1) dX8_strike_43 (by decide) ?_
      exact r_iret C T dX8_strike_44 (⟨Off.rf.up (by decide), fun h => absurd h (by omega)⟩)
    · -- to 27
      refine r_bipush C (-4) dX8_strike_27 (by decide) ?_
      exact r_iret C T dX8_strike_29 (⟨Off.rf, fun h => absurd h (by omega)⟩)
  · -- to 11
    refine r_iconst C (-1) dX8_strike_11 (by decide) ?_
    exact r_iret C T dX8_strike_12 (⟨Off.rf, fun _ => k_m1⟩)
set_option maxHeartbeats 4000000 in
set_option maxRecDepth 100000 in
theorem c_X8_ruleOf (E : Ev) (ad : Nat → Nat) (σ : Sg) (p : Int32) (q : Int32) (hI : IC σ) : Ct E ad yX8_ruleOf cX8_ruleOf 3 (some .int) 1 [.ref (ad 0), .int p, .int q] σ (fun r τ => τ = σ ∧ ((σ 9 6).toInt = 0 → r.toInt = -1)) := by
  have k_m1 : (-1 : Int32).toInt = -1 := by decide
  have k_0 : (0 : Int32).toInt = 0 := by decide
  have k_1 : (1 : Int32).toInt = 1 := by decide
  have hJ := hI
  unfold IC at hJ
  refine ct_of RX8 rfl (by decide +kernel) [(0, .ref (ad 0)), (1, .int (p)), (2, .int (q))] rfl (Nat.le_of_ble_eq_true rfl) (fun G C T => ?_)
  refine r_aload_n C 0 dX8_ruleOf_0 rfl rfl ?_
  refine r_get C (k := 0) (v := .ref (ad 9)) f_X8_25 (by decide) rfl rfl dX8_ruleOf_1 ?_
  refine r_iload_n C 1 dX8_ruleOf_4 rfl rfl ?_
  refine r_callV C (k := 9) [.int (p)] [] (c_X6_has E ad σ  (p) ) lv_X8_156 (by decide) rfl rfl (by decide) (by decide) rfl rfl (Nat.le_of_ble_eq_true rfl) dX8_ruleOf_5 (fun r_1 τ_2 h_3 => ?_)
  obtain ⟨eh_3, h_3⟩ := h_3
  obtain rfl := eh_3.symm
  refine r_if_ne C 13 dX8_ruleOf_8 (by decide) (fun c_4 => ?_) (fun c_4 => ?_)
  · -- to 13
    refine r_iload_n C 2 dX8_ruleOf_13 rfl rfl ?_
    rcases (show ((q : Int32).toInt < 0 ∨ 4 < (q : Int32).toInt) ∨ (q : Int32).toInt = 0 ∨ (q : Int32).toInt = 1 ∨ (q : Int32).toInt = 2 ∨ (q : Int32).toInt = 3 ∨ (q : Int32).toInt = 4 by omega) with sw_5 | sw_5 | sw_5 | sw_5 | sw_5 | sw_5
    · -- case None
      refine r_tblOut C 109 dX8_ruleOf_14 sw_5 (by decide) ?_
      refine r_iconst C (-1) dX8_ruleOf_109 (by decide) ?_
      exact r_iret C T dX8_ruleOf_110 (⟨rfl, fun h => by first | exact k_m1 | exact absurd h (by omega)⟩)
    · -- case 0
      refine r_tblIn C (0) 48 dX8_ruleOf_14 sw_5 (by decide) (by decide) rfl (by decide) ?_
      refine r_aload_n C 0 dX8_ruleOf_48 rfl rfl ?_
      refine r_get C (k := 0) (v := .ref (ad 9)) f_X8_25 (by decide) rfl rfl dX8_ruleOf_49 ?_
      refine r_get C (k := 9) (v := .ref (ad 10)) f_X8_160 (by decide) rfl rfl dX8_ruleOf_52 ?_
      refine r_iload_n C 1 dX8_ruleOf_55 rfl rfl ?_
      refine r_iald C (k := 10) (by decide) rfl (by omega) (σ 10 ((p : Int32).toInt.toNat)) rfl dX8_ruleOf_56 ?_
      exact r_iret C T dX8_ruleOf_57 (⟨rfl, fun h => by first | exact k_m1 | exact absurd h (by omega)⟩)
    · -- case 1
      refine r_tblIn C (1) 58 dX8_ruleOf_14 sw_5 (by decide) (by decide) rfl (by decide) ?_
      refine r_aload_n C 0 dX8_ruleOf_58 rfl rfl ?_
      refine r_get C (k := 0) (v := .ref (ad 9)) f_X8_25 (by decide) rfl rfl dX8_ruleOf_59 ?_
      refine r_get C (k := 9) (v := .ref (ad 11)) f_X8_163 (by decide) rfl rfl dX8_ruleOf_62 ?_
      refine r_iload_n C 1 dX8_ruleOf_65 rfl rfl ?_
      refine r_iald C (k := 11) (by decide) rfl (by omega) (σ 11 ((p : Int32).toInt.toNat)) rfl dX8_ruleOf_66 ?_
      exact r_iret C T dX8_ruleOf_67 (⟨rfl, fun h => by first | exact k_m1 | exact absurd h (by omega)⟩)
    · -- case 2
      refine r_tblIn C (2) 68 dX8_ruleOf_14 sw_5 (by decide) (by decide) rfl (by decide) ?_
      refine r_aload_n C 0 dX8_ruleOf_68 rfl rfl ?_
      refine r_get C (k := 0) (v := .ref (ad 9)) f_X8_25 (by decide) rfl rfl dX8_ruleOf_69 ?_
      refine r_get C (k := 9) (v := .ref (ad 12)) f_X8_166 (by decide) rfl rfl dX8_ruleOf_72 ?_
      refine r_iload_n C 1 dX8_ruleOf_75 rfl rfl ?_
      refine r_iald C (k := 12) (by decide) rfl (by omega) (σ 12 ((p : Int32).toInt.toNat)) rfl dX8_ruleOf_76 ?_
      exact r_iret C T dX8_ruleOf_77 (⟨rfl, fun h => by first | exact k_m1 | exact absurd h (by omega)⟩)
    · -- case 3
      refine r_tblIn C (3) 78 dX8_ruleOf_14 sw_5 (by decide) (by decide) rfl (by decide) ?_
      refine r_aload_n C 0 dX8_ruleOf_78 rfl rfl ?_
      refine r_get C (k := 0) (v := .ref (ad 9)) f_X8_25 (by decide) rfl rfl dX8_ruleOf_79 ?_
      refine r_get C (k := 9) (v := .ref (ad 13)) f_X8_169 (by decide) rfl rfl dX8_ruleOf_82 ?_
      refine r_iload_n C 1 dX8_ruleOf_85 rfl rfl ?_
      refine r_iald C (k := 13) (by decide) rfl (by omega) (σ 13 ((p : Int32).toInt.toNat)) rfl dX8_ruleOf_86 ?_
      exact r_iret C T dX8_ruleOf_87 (⟨rfl, fun h => by first | exact k_m1 | exact absurd h (by omega)⟩)
    · -- case 4
      refine r_tblIn C (4) 88 dX8_ruleOf_14 sw_5 (by decide) (by decide) rfl (by decide) ?_
      refine r_aload_n C 0 dX8_ruleOf_88 rfl rfl ?_
      refine r_get C (k := 0) (v := .ref (ad 9)) f_X8_25 (by decide) rfl rfl dX8_ruleOf_89 ?_
      refine r_iload_n C 1 dX8_ruleOf_92 rfl rfl ?_
      refine r_aload_n C 0 dX8_ruleOf_93 rfl rfl ?_
      refine r_get C (k := 0) (v := .int (σ 0 8)) f_X8_57 (by decide) rfl rfl dX8_ruleOf_94 ?_
      refine r_callV C (k := 9) [.int (p), .int (σ 0 8)] [] (c_X6_inForce E ad σ  (p) (σ 0 8) (by omega)) lv_X8_172 (by decide) rfl rfl (by decide) (by decide) rfl rfl (Nat.le_of_ble_eq_true rfl) dX8_ruleOf_97 (fun r_10 τ_11 h_12 => ?_)
      obtain ⟨eh_12, h_12⟩ := h_12
      obtain rfl := eh_12.symm
      refine r_if_eq C 107 dX8_ruleOf_100 (by decide) (fun c_13 => ?_) (fun c_13 => ?_)
      · -- to 107
        refine r_iconst C (0) dX8_ruleOf_107 (by decide) ?_
        exact r_iret C T dX8_ruleOf_108 (⟨rfl, fun h => by first | exact k_m1 | exact absurd h (by omega)⟩)
      · -- to 103
        refine r_iconst C (1) dX8_ruleOf_103 (by decide) ?_
        refine r_goto C 108 dX8_ruleOf_104 (by decide) ?_
        exact r_iret C T dX8_ruleOf_108 (⟨rfl, fun h => by first | exact k_m1 | exact absurd h (by omega)⟩)
  · -- to 11
    refine r_iconst C (-1) dX8_ruleOf_11 (by decide) ?_
    exact r_iret C T dX8_ruleOf_12 (⟨rfl, fun h => by first | exact k_m1 | exact absurd h (by omega)⟩)
set_option maxHeartbeats 4000000 in
set_option maxRecDepth 100000 in
theorem c_X8_ask (E : Ev) (ad : Nat → Nat) (σ : Sg) (p : Int32) (q : Int32) (u : Int32) (hI : IC σ) : Ct E ad yX8_ask cX8_ask 4 (some .int) 1 [.ref (ad 0), .int p, .int q, .int u] σ (fun r τ => (¬ (0 ≤ p.toInt ∧ p.toInt < 10 ∧ 0 ≤ q.toInt ∧ q.toInt < 3 ∧ (u &&& ((σ 2 7 ||| σ 2 8) ^^^ (-1))).toInt = 0) ∧ r.toInt = -1 ∧ τ = σ) ∨ ((0 ≤ p.toInt ∧ p.toInt < 10 ∧ 0 ≤ q.toInt ∧ q.toInt < 3 ∧ (u &&& ((σ 2 7 ||| σ 2 8) ^^^ (-1))).toInt = 0) ∧ 7 ≤ (σ 16 8).toInt ∧ r.toInt = -2 ∧ τ = σ) ∨ ((0 ≤ p.toInt ∧ p.toInt < 10 ∧ 0 ≤ q.toInt ∧ q.toInt < 3 ∧ (u &&& ((σ 2 7 ||| σ 2 8) ^^^ (-1))).toInt = 0) ∧ (σ 16 8).toInt < 7 ∧ r.toInt = (σ 16 8).toInt ∧ Off [16, 17, 18, 19, 20, 21, 22, 23, 24] σ τ ∧ (τ 16 8).toInt = (σ 16 8).toInt + 1 ∧ τ 20 = upd (σ 20) (σ 16 8).toInt.toNat 0 ∧ τ 19 = upd (σ 19) (σ 16 8).toInt.toNat u)) := by
  have k_m2 : (-2 : Int32).toInt = -2 := by decide
  have k_m1 : (-1 : Int32).toInt = -1 := by decide
  have k_3 : (3 : Int32).toInt = 3 := by decide
  have k_7 : (7 : Int32).toInt = 7 := by decide
  have hJ := hI
  unfold IC at hJ
  refine ct_of RX8 rfl (by decide +kernel) [(0, .ref (ad 0)), (1, .int (p)), (2, .int (q)), (3, .int (u))] rfl (Nat.le_of_ble_eq_true rfl) (fun G C T => ?_)
  have L_30 : (¬ (0 ≤ p.toInt ∧ p.toInt < 10 ∧ 0 ≤ q.toInt ∧ q.toInt < 3 ∧ (u &&& ((σ 2 7 ||| σ 2 8) ^^^ (-1))).toInt = 0)) → At E ad G 4 30 [(0, .ref (ad 0)), (1, .int (p)), (2, .int (q)), (3, .int (u))] [] σ := by
    intro hnv
    refine r_iconst C (-1) dX8_ask_30 (by decide) ?_
    exact r_iret C T dX8_ask_31 (Or.inl ⟨hnv, k_m1, rfl⟩)
  refine r_iload_n C 1 dX8_ask_0 rfl rfl ?_
  refine r_callS C [.int (p)] [] (c_X8_isPlace E ad σ  (p) ) ls_X8_61 (by decide) (by decide) rfl rfl (Nat.le_of_ble_eq_true rfl) dX8_ask_1 (fun r_1 τ_2 h_3 => ?_)
  obtain ⟨eh_3, h_3⟩ := h_3
  obtain rfl := eh_3.symm
  refine r_if_eq C 30 dX8_ask_4 (by decide) (fun c_4 => ?_) (fun c_4 => ?_)
  · -- to 30
    exact At.sub [0, 1, 2, 3] rfl (L_30  (by omega))
  · -- to 7
    refine r_iload_n C 2 dX8_ask_7 rfl rfl ?_
    refine r_if_lt C 30 dX8_ask_8 (by decide) (fun c_5 => ?_) (fun c_5 => ?_)
    · -- to 30
      exact At.sub [0, 1, 2, 3] rfl (L_30  (by omega))
    · -- to 11
      refine r_iload_n C 2 dX8_ask_11 rfl rfl ?_
      refine r_iconst C (3) dX8_ask_12 (by decide) ?_
      refine r_icmp_ge C 30 dX8_ask_13 (by decide) (fun c_6 => ?_) (fun c_6 => ?_)
      · -- to 30
        exact At.sub [0, 1, 2, 3] rfl (L_30  (by omega))
      · -- to 16
        refine r_iload_n C 3 dX8_ask_16 rfl rfl ?_
        refine r_aload_n C 0 dX8_ask_17 rfl rfl ?_
        refine r_get C (k := 0) (v := .ref (ad 2)) f_X8_20 (by decide) rfl rfl dX8_ask_18 ?_
        refine r_callV C (k := 2) [] [.int (u)] (c_X2_allFittings E ad σ   ) lv_X8_176 (by decide) rfl rfl (by decide) (by decide) rfl rfl (Nat.le_of_ble_eq_true rfl) dX8_ask_21 (fun r_7 τ_8 h_9 => ?_)
        obtain ⟨eh_9, h_9⟩ := h_9
        obtain rfl := eh_9.symm
        refine r_iconst C (-1) dX8_ask_24 (by decide) ?_
        refine r_ixor C dX8_ask_25 ?_
        refine r_nm (P := fun z => z = (r_7 : Int32) ^^^ ((-1))) rfl (fun z_10 hz_11 => ?_)
        refine r_iand C dX8_ask_26 ?_
        refine r_nm (P := fun z => z = (u : Int32) &&& (z_10)) rfl (fun z_12 hz_13 => ?_)
        refine r_if_eq C 32 dX8_ask_27 (by decide) (fun c_14 => ?_) (fun c_14 => ?_)
        · -- to 32
          have hv := c_14
          rw [hz_13, hz_11, h_9] at hv
          refine r_aload_n C 0 dX8_ask_32 rfl rfl ?_
          refine r_get C (k := 0) (v := .ref (ad 16)) f_X8_30 (by decide) rfl rfl dX8_ask_33 ?_
          refine r_get C (k := 16) (v := .int (σ 16 8)) f_X8_179 (by decide) rfl rfl dX8_ask_36 ?_
          refine r_bipush C (7) dX8_ask_39 (by decide) ?_
          refine r_icmp_lt C 47 dX8_ask_41 (by decide) (fun c_15 => ?_) (fun c_15 => ?_)
          · -- to 47
            refine r_aload_n C 0 dX8_ask_47 rfl rfl ?_
            refine r_get C (k := 0) (v := .ref (ad 16)) f_X8_30 (by decide) rfl rfl dX8_ask_48 ?_
            refine r_iload_n C 1 dX8_ask_51 rfl rfl ?_
            refine r_iload_n C 2 dX8_ask_52 rfl rfl ?_
            refine r_iload_n C 3 dX8_ask_53 rfl rfl ?_
            refine r_callV C (k := 16) [.int (p), .int (q), .int (u)] [] (c_X3_write E ad σ  (p) (q) (u) (by omega)) lv_X8_180 (by decide) rfl rfl (by decide) (by decide) rfl rfl (Nat.le_of_ble_eq_true rfl) dX8_ask_54 (fun r_16 τ_17 h_18 => ?_)
            exact r_iret C T dX8_ask_57 (Or.inr (Or.inr ⟨by omega, by omega, h_18.1, h_18.2⟩))
          · -- to 44
            refine r_bipush C (-2) dX8_ask_44 (by decide) ?_
            exact r_iret C T dX8_ask_46 (Or.inr (Or.inl ⟨by omega, by omega, k_m2, rfl⟩))
        · -- to 30
          exact At.sub [0, 1, 2, 3] rfl (L_30  (by rw [hz_13, hz_11, h_9] at c_14; omega))
set_option maxHeartbeats 4000000 in
set_option maxRecDepth 100000 in
theorem c_X8_hold (E : Ev) (ad : Nat → Nat) (σ : Sg) (p : Int32) (q : Int32) (hI : IC σ) : Ct E ad yX8_hold cX8_hold 5 (some .int) 2 [.ref (ad 0), .int p, .int q] σ (fun r τ => Off [21] σ τ ∧ ((σ 16 8).toInt = 0 → r.toInt = -9)) := by
  have k_m9 : (-9 : Int32).toInt = -9 := by decide
  have k_m4 : (-4 : Int32).toInt = -4 := by decide
  have k_m1 : (-1 : Int32).toInt = -1 := by decide
  have k_3 : (3 : Int32).toInt = 3 := by decide
  have k_5 : (5 : Int32).toInt = 5 := by decide
  have hJ := hI
  unfold IC at hJ
  refine ct_of RX8 rfl (by decide +kernel) [(0, .ref (ad 0)), (1, .int (p)), (2, .int (q))] rfl (Nat.le_of_ble_eq_true rfl) (fun G C T => ?_)
  refine r_aload_n C 0 dX8_hold_0 rfl rfl ?_
  refine r_get C (k := 0) (v := .ref (ad 16)) f_X8_30 (by decide) rfl rfl dX8_hold_1 ?_
  refine r_iload_n C 1 dX8_hold_4 rfl rfl ?_
  refine r_callV C (k := 16) [.int (p)] [] (c_X3_has E ad σ  (p) ) lv_X8_182 (by decide) rfl rfl (by decide) (by decide) rfl rfl (Nat.le_of_ble_eq_true rfl) dX8_hold_5 (fun r_1 τ_2 h_3 => ?_)
  obtain ⟨eh_3, h_3⟩ := h_3
  obtain rfl := eh_3.symm
  refine r_if_eq C 23 dX8_hold_8 (by decide) (fun c_4 => ?_) (fun c_4 => ?_)
  · -- to 23
    refine r_bipush C (-9) dX8_hold_23 (by decide) ?_
    exact r_iret C T dX8_hold_25 (⟨Off.rf, fun _ => k_m9⟩)
  · -- to 11
    refine r_iload_n C 2 dX8_hold_11 rfl rfl ?_
    refine r_iconst C (-1) dX8_hold_12 (by decide) ?_
    refine r_icmp_eq C 26 dX8_hold_13 (by decide) (fun c_5 => ?_) (fun c_5 => ?_)
    · -- to 26
      refine r_aload_n C 0 dX8_hold_26 rfl rfl ?_
      refine r_get C (k := 0) (v := .ref (ad 16)) f_X8_30 (by decide) rfl rfl dX8_hold_27 ?_
      refine r_get C (k := 16) (v := .ref (ad 20)) f_X8_186 (by decide) rfl rfl dX8_hold_30 ?_
      refine r_iload_n C 1 dX8_hold_33 rfl rfl ?_
      refine r_iald C (k := 20) (by decide) rfl (by omega) (σ 20 ((p : Int32).toInt.toNat)) rfl dX8_hold_34 ?_
      refine r_istore_n C [(3, .int (σ 20 ((p : Int32).toInt.toNat))), (0, .ref (ad 0)), (1, .int (p)), (2, .int (q))] dX8_hold_35 rfl (by decide) rfl ?_
      refine r_iload_n C 0 dX8_hold_36 rfl rfl ?_
      refine r_iconst C (5) dX8_hold_37 (by decide) ?_
      refine r_icmp_eq C 57 dX8_hold_38 (by decide) (fun c_7 => ?_) (fun c_7 => ?_)
      · -- to 57
        refine r_bipush C (-4) dX8_hold_57 (by decide) ?_
        exact r_iret C T dX8_hold_59 (⟨Off.rf, fun h => absurd h (by omega)⟩)
      · -- to 41
        refine r_iload_n C 0 dX8_hold_41 rfl rfl ?_
        refine r_iconst C (3) dX8_hold_42 (by decide) ?_
        refine r_icmp_ne C 60 dX8_hold_43 (by decide) (fun c_8 => ?_) (fun c_8 => ?_)
        · -- to 60
          refine r_aload_n C 1 dX8_hold_60 rfl rfl ?_
          refine r_get C (k := 0) (v := .ref (ad 16)) f_X8_30 (by decide) rfl rfl dX8_hold_61 ?_
          refine r_get C (k := 16) (v := .ref (ad 21)) f_X8_194 (by decide) rfl rfl dX8_hold_64 ?_
          refine r_iload_n C 2 dX8_hold_67 rfl rfl ?_
          refine r_iald C (k := 21) (by decide) rfl (by omega) (σ 21 ((p : Int32).toInt.toNat)) rfl dX8_hold_68 ?_
          refine r_istore C [(4, .int (σ 21 ((p : Int32).toInt.toNat))), (3, .int (σ 20 ((p : Int32).toInt.toNat))), (0, .ref (ad 0)), (1, .int (p)), (2, .int (q))] dX8_hold_69 (by decide) rfl ?_
          refine r_aload_n C 2 dX8_hold_71 rfl rfl ?_
          refine r_get C (k := 0) (v := .ref (ad 16)) f_X8_30 (by decide) rfl rfl dX8_hold_72 ?_
          refine r_get C (k := 16) (v := .ref (ad 21)) f_X8_194 (by decide) rfl rfl dX8_hold_75 ?_
          refine r_iload_n C 3 dX8_hold_78 rfl rfl ?_
          refine r_iload_n C 4 dX8_hold_79 rfl rfl ?_
          refine r_iast C (k := 21) (by decide) (fun _ => rfl) (by omega) dX8_hold_80 ?_
          refine r_iload C 0 dX8_hold_81 rfl ?_
          exact r_iret C T dX8_hold_83 (⟨Off.rf.up (by decide), fun h => absurd h (by omega)⟩)
        · -- to 46
          refine r_aload_n C 1 dX8_hold_46 rfl rfl ?_
          refine r_get C (k := 0) (v := .ref (ad 25)) f_X8_35 (by decide) rfl rfl dX8_hold_47 ?_
          refine r_iload_n C 3 dX8_hold_50 rfl rfl ?_
          refine r_callV C (k := 25) [.int (q)] [] (c_X0_isOn E ad σ  (q) ) lv_X8_189 (by decide) rfl rfl (by decide) (by decide) rfl rfl (Nat.le_of_ble_eq_true rfl) dX8_hold_51 (fun r_10 τ_11 h_12 => ?_)
          obtain ⟨eh_12, h_12⟩ := h_12
          obtain rfl := eh_12.symm
          refine r_if_ne C 60 dX8_hold_54 (by decide) (fun c_13 => ?_) (fun c_13 => ?_)
          · -- to 60
            refine r_aload_n C 1 dX8_hold_60 rfl rfl ?_
            refine r_get C (k := 0) (v := .ref (ad 16)) f_X8_30 (by decide) rfl rfl dX8_hold_61 ?_
            refine r_get C (k := 16) (v := .ref (ad 21)) f_X8_194 (by decide) rfl rfl dX8_hold_64 ?_
            refine r_iload_n C 2 dX8_hold_67 rfl rfl ?_
            refine r_iald C (k := 21) (by decide) rfl (by omega) (σ 21 ((p : Int32).toInt.toNat)) rfl dX8_hold_68 ?_
            refine r_istore C [(4, .int (σ 21 ((p : Int32).toInt.toNat))), (3, .int (σ 20 ((p : Int32).toInt.toNat))), (0, .ref (ad 0)), (1, .int (p)), (2, .int (q))] dX8_hold_69 (by decide) rfl ?_
            refine r_aload_n C 2 dX8_hold_71 rfl rfl ?_
            refine r_get C (k := 0) (v := .ref (ad 16)) f_X8_30 (by decide) rfl rfl dX8_hold_72 ?_
            refine r_get C (k := 16) (v := .ref (ad 21)) f_X8_194 (by decide) rfl rfl dX8_hold_75 ?_
            refine r_iload_n C 3 dX8_hold_78 rfl rfl ?_
            refine r_iload_n C 4 dX8_hold_79 rfl rfl ?_
            refine r_iast C (k := 21) (by decide) (fun _ => rfl) (by omega) dX8_hold_80 ?_
            refine r_iload C 0 dX8_hold_81 rfl ?_
            exact r_iret C T dX8_hold_83 (⟨Off.rf.up (by decide), fun h => absurd h (by omega)⟩)
          · -- to 57
            refine r_bipush C (-4) dX8_hold_57 (by decide) ?_
            exact r_iret C T dX8_hold_59 (⟨Off.rf, fun h => absurd h (by omega)⟩)
    · -- to 16
      refine r_iload_n C 2 dX8_hold_16 rfl rfl ?_
      refine r_callS C [.int (q)] [] (c_X8_isMan E ad σ  (q) ) ls_X8_183 (by decide) (by decide) rfl rfl (Nat.le_of_ble_eq_true rfl) dX8_hold_17 (fun r_15 τ_16 h_17 => ?_)
      obtain ⟨eh_17, h_17⟩ := h_17
      obtain rfl := eh_17.symm
      refine r_if_ne C 26 dX8_hold_20 (by decide) (fun c_18 => ?_) (fun c_18 => ?_)
      · -- to 26
        refine r_aload_n C 0 dX8_hold_26 rfl rfl ?_
        refine r_get C (k := 0) (v := .ref (ad 16)) f_X8_30 (by decide) rfl rfl dX8_hold_27 ?_
        refine r_get C (k := 16) (v := .ref (ad 20)) f_X8_186 (by decide) rfl rfl dX8_hold_30 ?_
        refine r_iload_n C 1 dX8_hold_33 rfl rfl ?_
        refine r_iald C (k := 20) (by decide) rfl (by omega) (σ 20 ((p : Int32).toInt.toNat)) rfl dX8_hold_34 ?_
        refine r_istore_n C [(3, .int (σ 20 ((p : Int32).toInt.toNat))), (0, .ref (ad 0)), (1, .int (p)), (2, .int (q))] dX8_hold_35 rfl (by decide) rfl ?_
        refine r_iload_n C 0 dX8_hold_36 rfl rfl ?_
        refine r_iconst C (5) dX8_hold_37 (by decide) ?_
        refine r_icmp_eq C 57 dX8_hold_38 (by decide) (fun c_20 => ?_) (fun c_20 => ?_)
        · -- to 57
          refine r_bipush C (-4) dX8_hold_57 (by decide) ?_
          exact r_iret C T dX8_hold_59 (⟨Off.rf, fun h => absurd h (by omega)⟩)
        · -- to 41
          refine r_iload_n C 0 dX8_hold_41 rfl rfl ?_
          refine r_iconst C (3) dX8_hold_42 (by decide) ?_
          refine r_icmp_ne C 60 dX8_hold_43 (by decide) (fun c_21 => ?_) (fun c_21 => ?_)
          · -- to 60
            refine r_aload_n C 1 dX8_hold_60 rfl rfl ?_
            refine r_get C (k := 0) (v := .ref (ad 16)) f_X8_30 (by decide) rfl rfl dX8_hold_61 ?_
            refine r_get C (k := 16) (v := .ref (ad 21)) f_X8_194 (by decide) rfl rfl dX8_hold_64 ?_
            refine r_iload_n C 2 dX8_hold_67 rfl rfl ?_
            refine r_iald C (k := 21) (by decide) rfl (by omega) (σ 21 ((p : Int32).toInt.toNat)) rfl dX8_hold_68 ?_
            refine r_istore C [(4, .int (σ 21 ((p : Int32).toInt.toNat))), (3, .int (σ 20 ((p : Int32).toInt.toNat))), (0, .ref (ad 0)), (1, .int (p)), (2, .int (q))] dX8_hold_69 (by decide) rfl ?_
            refine r_aload_n C 2 dX8_hold_71 rfl rfl ?_
            refine r_get C (k := 0) (v := .ref (ad 16)) f_X8_30 (by decide) rfl rfl dX8_hold_72 ?_
            refine r_get C (k := 16) (v := .ref (ad 21)) f_X8_194 (by decide) rfl rfl dX8_hold_75 ?_
            refine r_iload_n C 3 dX8_hold_78 rfl rfl ?_
            refine r_iload_n C 4 dX8_hold_79 rfl rfl ?_
            refine r_iast C (k := 21) (by decide) (fun _ => rfl) (by omega) dX8_hold_80 ?_
            refine r_iload C 0 dX8_hold_81 rfl ?_
            exact r_iret C T dX8_hold_83 (⟨Off.rf.up (by decide), fun h => absurd h (by omega)⟩)
          · -- to 46
            refine r_aload_n C 1 dX8_hold_46 rfl rfl ?_
            refine r_get C (k := 0) (v := .ref (ad 25)) f_X8_35 (by decide) rfl rfl dX8_hold_47 ?_
            refine r_iload_n C 3 dX8_hold_50 rfl rfl ?_
            refine r_callV C (k := 25) [.int (q)] [] (c_X0_isOn E ad σ  (q) ) lv_X8_189 (by decide) rfl rfl (by decide) (by decide) rfl rfl (Nat.le_of_ble_eq_true rfl) dX8_hold_51 (fun r_23 τ_24 h_25 => ?_)
            obtain ⟨eh_25, h_25⟩ := h_25
            obtain rfl := eh_25.symm
            refine r_if_ne C 60 dX8_hold_54 (by decide) (fun c_26 => ?_) (fun c_26 => ?_)
            · -- to 60
              refine r_aload_n C 1 dX8_hold_60 rfl rfl ?_
              refine r_get C (k := 0) (v := .ref (ad 16)) f_X8_30 (by decide) rfl rfl dX8_hold_61 ?_
              refine r_get C (k := 16) (v := .ref (ad 21)) f_X8_194 (by decide) rfl rfl dX8_hold_64 ?_
              refine r_iload_n C 2 dX8_hold_67 rfl rfl ?_
              refine r_iald C (k := 21) (by decide) rfl (by omega) (σ 21 ((p : Int32).toInt.toNat)) rfl dX8_hold_68 ?_
              refine r_istore C [(4, .int (σ 21 ((p : Int32).toInt.toNat))), (3, .int (σ 20 ((p : Int32).toInt.toNat))), (0, .ref (ad 0)), (1, .int (p)), (2, .int (q))] dX8_hold_69 (by decide) rfl ?_
              refine r_aload_n C 2 dX8_hold_71 rfl rfl ?_
              refine r_get C (k := 0) (v := .ref (ad 16)) f_X8_30 (by decide) rfl rfl dX8_hold_72 ?_
              refine r_get C (k := 16) (v := .ref (ad 21)) f_X8_194 (by decide) rfl rfl dX8_hold_75 ?_
              refine r_iload_n C 3 dX8_hold_78 rfl rfl ?_
              refine r_iload_n C 4 dX8_hold_79 rfl rfl ?_
              refine r_iast C (k := 21) (by decide) (fun _ => rfl) (by omega) dX8_hold_80 ?_
              refine r_iload C 0 dX8_hold_81 rfl ?_
              exact r_iret C T dX8_hold_83 (⟨Off.rf.up (by decide), fun h => absurd h (by omega)⟩)
            · -- to 57
              refine r_bipush C (-4) dX8_hold_57 (by decide) ?_
              exact r_iret C T dX8_hold_59 (⟨Off.rf, fun h => absurd h (by omega)⟩)
      · -- to 23
        refine r_bipush C (-9) dX8_hold_23 (by decide) ?_
        exact r_iret C T dX8_hold_25 (⟨Off.rf, fun _ => k_m9⟩)
set_option maxHeartbeats 4000000 in
set_option maxRecDepth 100000 in
theorem c_X8_refusalOf (E : Ev) (ad : Nat → Nat) (σ : Sg) (p : Int32) (q : Int32) (hI : IC σ) (hq : 0 ≤ q.toInt ∧ q.toInt < 6) : Ct E ad yX8_refusalOf cX8_refusalOf 4 (some .int) 5 [.ref (ad 0), .int p, .int q] σ (fun r τ => τ = σ ∧ (0 ≤ r.toInt → 0 ≤ p.toInt ∧ p.toInt < (σ 16 8).toInt ∧ ((gof q.toInt.toNat >>> (σ 20 p.toInt.toNat &&& 31)) &&& 1).toInt ≠ 0) ∧ ((σ 16 8).toInt = 0 → r.toInt = -1)) := by
  have k_m10 : (-10 : Int32).toInt = -10 := by decide
  have k_m1 : (-1 : Int32).toInt = -1 := by decide
  have k_0 : (0 : Int32).toInt = 0 := by decide
  have hJ := hI
  unfold IC at hJ
  refine ct_of RX8 rfl (by decide +kernel) [(0, .ref (ad 0)), (1, .int (p)), (2, .int (q))] rfl (Nat.le_of_ble_eq_true rfl) (fun G C T => ?_)
  refine r_aload_n C 0 dX8_refusalOf_0 rfl rfl ?_
  refine r_get C (k := 0) (v := .ref (ad 16)) f_X8_30 (by decide) rfl rfl dX8_refusalOf_1 ?_
  refine r_iload_n C 1 dX8_refusalOf_4 rfl rfl ?_
  refine r_callV C (k := 16) [.int (p)] [] (c_X3_has E ad σ  (p) ) lv_X8_182 (by decide) rfl rfl (by decide) (by decide) rfl rfl (Nat.le_of_ble_eq_true rfl) dX8_refusalOf_5 (fun r_1 τ_2 h_3 => ?_)
  obtain ⟨eh_3, h_3⟩ := h_3
  obtain rfl := eh_3.symm
  refine r_if_ne C 13 dX8_refusalOf_8 (by decide) (fun c_4 => ?_) (fun c_4 => ?_)
  · -- to 13
    refine r_aload_n C 0 dX8_refusalOf_13 rfl rfl ?_
    refine r_get C (k := 0) (v := .ref (ad 1)) f_X8_10 (by decide) rfl rfl dX8_refusalOf_14 ?_
    refine r_iload_n C 1 dX8_refusalOf_17 rfl rfl ?_
    refine r_iload_n C 2 dX8_refusalOf_18 rfl rfl ?_
    refine r_aload_n C 0 dX8_refusalOf_19 rfl rfl ?_
    refine r_get C (k := 0) (v := .int (σ 0 8)) f_X8_57 (by decide) rfl rfl dX8_refusalOf_20 ?_
    refine r_callV C (k := 1) [.int (p), .int (q), .int (σ 0 8)] [] (c_X5_firstBar E ad σ  (p) (q) (σ 0 8) hI (by omega) (by omega)) lv_X8_213 (by decide) rfl rfl (by decide) (by decide) rfl rfl (Nat.le_of_ble_eq_true rfl) dX8_refusalOf_23 (fun r_5 τ_6 h_7 => ?_)
    obtain ⟨eh_7, h_7⟩ := h_7
    obtain rfl := eh_7.symm
    refine r_istore_n C [(3, .int (r_5)), (0, .ref (ad 0)), (1, .int (p)), (2, .int (q))] dX8_refusalOf_26 rfl (by decide) rfl ?_
    refine r_iload_n C 0 dX8_refusalOf_27 rfl rfl ?_
    refine r_if_ne C 35 dX8_refusalOf_28 (by decide) (fun c_8 => ?_) (fun c_8 => ?_)
    · -- to 35
      refine r_bipush C (-10) dX8_refusalOf_35 (by decide) ?_
      refine r_iload_n C 0 dX8_refusalOf_37 rfl rfl ?_
      refine r_isub C dX8_refusalOf_38 ?_
      refine r_nm (P := fun z => z.toInt = ((-10) : Int32).toInt - (r_5 : Int32).toInt ∧ z = ((-10)) - (r_5)) ⟨ta_sub (by omega), rfl⟩ (fun z_9 hz_10 => ?_)
      exact r_iret C T dX8_refusalOf_39 (⟨rfl, fun h => ⟨by omega, by omega, h_7.2.2 (by omega)⟩, fun h => absurd h (by omega)⟩)
    · -- to 31
      refine r_iconst C (0) dX8_refusalOf_31 (by decide) ?_
      refine r_goto C 39 dX8_refusalOf_32 (by decide) ?_
      exact r_iret C T dX8_refusalOf_39 (⟨rfl, fun h => ⟨by omega, by omega, h_7.2.2 (by omega)⟩, fun h => absurd h (by omega)⟩)
  · -- to 11
    refine r_iconst C (-1) dX8_refusalOf_11 (by decide) ?_
    exact r_iret C T dX8_refusalOf_12 (⟨rfl, fun h => absurd h (by omega), fun _ => k_m1⟩)
set_option maxHeartbeats 4000000 in
set_option maxRecDepth 100000 in
theorem c_X8_isPast (E : Ev) (ad : Nat → Nat) (σ : Sg) (p : Int32) (hI : IC σ) : Ct E ad yX8_isPast cX8_isPast 2 (some .boolean) 0 [.ref (ad 0), .int p] σ (fun r τ => τ = σ ∧ ((r.toInt = 1 ∧ 0 ≤ p.toInt ∧ p.toInt ≤ (σ 0 8).toInt) ∨ (r.toInt = 0 ∧ ¬ (0 ≤ p.toInt ∧ p.toInt ≤ (σ 0 8).toInt)))) := by
  have k_0 : (0 : Int32).toInt = 0 := by decide
  have k_1 : (1 : Int32).toInt = 1 := by decide
  have hJ := hI
  unfold IC at hJ
  refine ct_of RX8 rfl (by decide +kernel) [(0, .ref (ad 0)), (1, .int (p))] rfl (Nat.le_of_ble_eq_true rfl) (fun G C T => ?_)
  refine r_iload_n C 1 dX8_isPast_0 rfl rfl ?_
  refine r_if_lt C 16 dX8_isPast_1 (by decide) (fun c_1 => ?_) (fun c_1 => ?_)
  · -- to 16
    refine r_iconst C (0) dX8_isPast_16 (by decide) ?_
    exact r_zret C T dX8_isPast_17 (by omega) (⟨rfl, by omega⟩)
  · -- to 4
    refine r_iload_n C 1 dX8_isPast_4 rfl rfl ?_
    refine r_aload_n C 0 dX8_isPast_5 rfl rfl ?_
    refine r_get C (k := 0) (v := .int (σ 0 8)) f_X8_57 (by decide) rfl rfl dX8_isPast_6 ?_
    refine r_icmp_gt C 16 dX8_isPast_9 (by decide) (fun c_2 => ?_) (fun c_2 => ?_)
    · -- to 16
      refine r_iconst C (0) dX8_isPast_16 (by decide) ?_
      exact r_zret C T dX8_isPast_17 (by omega) (⟨rfl, by omega⟩)
    · -- to 12
      refine r_iconst C (1) dX8_isPast_12 (by decide) ?_
      refine r_goto C 17 dX8_isPast_13 (by decide) ?_
      exact r_zret C T dX8_isPast_17 (by omega) (⟨rfl, by omega⟩)
set_option maxHeartbeats 4000000 in
set_option maxRecDepth 100000 in
theorem c_X8_isolate (E : Ev) (ad : Nat → Nat) (σ : Sg) (p : Int32) (hI : IC σ) : Ct E ad yX8_isolate cX8_isolate 4 (some .int) 6 [.ref (ad 0), .int p] σ (fun r τ => Off [20] σ τ ∧ ((σ 16 8).toInt = 0 → r.toInt = -1)) := by
  have k_m1 : (-1 : Int32).toInt = -1 := by decide
  have k_0 : (0 : Int32).toInt = 0 := by decide
  have k_1 : (1 : Int32).toInt = 1 := by decide
  have hJ := hI
  unfold IC at hJ
  refine ct_of RX8 rfl (by decide +kernel) [(0, .ref (ad 0)), (1, .int (p))] rfl (Nat.le_of_ble_eq_true rfl) (fun G C T => ?_)
  refine r_aload_n C 0 dX8_isolate_0 rfl rfl ?_
  refine r_iload_n C 1 dX8_isolate_1 rfl rfl ?_
  refine r_iconst C (0) dX8_isolate_2 (by decide) ?_
  refine r_callV C (k := 0) [.int (p), .int (0)] [] (c_X8_refusalOf E ad σ  (p) (0) hI (by omega)) lv_X8_197 (by decide) rfl rfl (by decide) (by decide) rfl rfl (Nat.le_of_ble_eq_true rfl) dX8_isolate_3 (fun r_1 τ_2 h_3 => ?_)
  obtain ⟨eh_3, h_3⟩ := h_3
  obtain rfl := eh_3.symm
  refine r_istore_n C [(2, .int (r_1)), (0, .ref (ad 0)), (1, .int (p))] dX8_isolate_6 rfl (by decide) rfl ?_
  refine r_iload_n C 0 dX8_isolate_7 rfl rfl ?_
  refine r_if_ge C 13 dX8_isolate_8 (by decide) (fun c_4 => ?_) (fun c_4 => ?_)
  · -- to 13
    have hp := h_3.1 c_4
    refine r_aload_n C 1 dX8_isolate_13 rfl rfl ?_
    refine r_get C (k := 0) (v := .ref (ad 1)) f_X8_10 (by decide) rfl rfl dX8_isolate_14 ?_
    refine r_callV C (k := 1) [] [] (c_X5_closedNow E ad σ   hI) lv_X8_90 (by decide) rfl rfl (by decide) (by decide) rfl rfl (Nat.le_of_ble_eq_true rfl) dX8_isolate_17 (fun r_5 τ_6 h_7 => ?_)
    obtain ⟨eh_7, h_7⟩ := h_7
    obtain rfl := eh_7.symm
    refine r_istore_n C [(3, .int (r_5)), (2, .int (r_1)), (0, .ref (ad 0)), (1, .int (p))] dX8_isolate_20 rfl (by decide) rfl ?_
    refine r_aload_n C 2 dX8_isolate_21 rfl rfl ?_
    refine r_get C (k := 0) (v := .ref (ad 16)) f_X8_30 (by decide) rfl rfl dX8_isolate_22 ?_
    refine r_get C (k := 16) (v := .ref (ad 20)) f_X8_186 (by decide) rfl rfl dX8_isolate_25 ?_
    refine r_iload_n C 3 dX8_isolate_28 rfl rfl ?_
    refine r_iconst C (1) dX8_isolate_29 (by decide) ?_
    refine r_iast C (k := 20) (by decide) (fun _ => rfl) (by omega) dX8_isolate_30 ?_
    refine r_aload_n C 2 dX8_isolate_31 rfl rfl ?_
    refine r_get C (k := 0) (v := .ref (ad 1)) f_X8_10 (by decide) rfl rfl dX8_isolate_32 ?_
    refine r_callV C (k := 1) [] [] (c_X5_closedNow E ad (sUp σ 20 ((p : Int32).toInt.toNat) (1))   hI) lv_X8_90 (by decide) rfl rfl (by decide) (by decide) rfl rfl (Nat.le_of_ble_eq_true rfl) dX8_isolate_35 (fun r_8 τ_9 h_10 => ?_)
    obtain ⟨eh_10, h_10⟩ := h_10
    obtain rfl := eh_10.symm
    refine r_iload_n C 0 dX8_isolate_38 rfl rfl ?_
    refine r_iconst C (-1) dX8_isolate_39 (by decide) ?_
    refine r_ixor C dX8_isolate_40 ?_
    refine r_nm (P := fun z => z = (r_5 : Int32) ^^^ ((-1))) rfl (fun z_11 hz_12 => ?_)
    refine r_iand C dX8_isolate_41 ?_
    refine r_nm (P := fun z => z = (r_8 : Int32) &&& (z_11)) rfl (fun z_13 hz_14 => ?_)
    refine r_callS C [.int (z_13)] [] (c_J6_bitCount_0f7a4 E ad (sUp σ 20 ((p : Int32).toInt.toNat) (1))  (z_13) ) ls_X8_200 (by decide) (by decide) rfl rfl (Nat.le_of_ble_eq_true rfl) dX8_isolate_42 (fun r_15 τ_16 h_17 => ?_)
    obtain ⟨eh_17, h_17⟩ := h_17
    obtain rfl := eh_17.symm
    exact r_iret C T dX8_isolate_45 (⟨Off.rf.up (by decide), fun h => absurd (h_3.2 h) (by omega)⟩)
  · -- to 11
    refine r_iload_n C 0 dX8_isolate_11 rfl rfl ?_
    exact r_iret C T dX8_isolate_12 (⟨Off.rf, h_3.2⟩)
set_option maxHeartbeats 4000000 in
set_option maxRecDepth 100000 in
theorem c_X8_test (E : Ev) (ad : Nat → Nat) (σ : Sg) (p : Int32) (q : Int32) (hI : IC σ) : Ct E ad yX8_test cX8_test 4 (some .int) 6 [.ref (ad 0), .int p, .int q] σ (fun r τ => Off [20, 22, 23] σ τ ∧ ((σ 16 8).toInt = 0 → r.toInt = -1)) := by
  have k_m1 : (-1 : Int32).toInt = -1 := by decide
  have k_0 : (0 : Int32).toInt = 0 := by decide
  have k_1 : (1 : Int32).toInt = 1 := by decide
  have k_10 : (10 : Int32).toInt = 10 := by decide
  have k_100 : (100 : Int32).toInt = 100 := by decide
  have hJ := hI
  unfold IC at hJ
  refine ct_of RX8 rfl (by decide +kernel) [(0, .ref (ad 0)), (1, .int (p)), (2, .int (q))] rfl (Nat.le_of_ble_eq_true rfl) (fun G C T => ?_)
  refine r_iload_n C 2 dX8_test_0 rfl rfl ?_
  refine r_if_lt C 10 dX8_test_1 (by decide) (fun c_1 => ?_) (fun c_1 => ?_)
  · -- to 10
    refine r_iconst C (-1) dX8_test_10 (by decide) ?_
    exact r_iret C T dX8_test_11 (⟨Off.rf, fun _ => k_m1⟩)
  · -- to 4
    refine r_iload_n C 2 dX8_test_4 rfl rfl ?_
    refine r_bipush C (100) dX8_test_5 (by decide) ?_
    refine r_icmp_le C 12 dX8_test_7 (by decide) (fun c_2 => ?_) (fun c_2 => ?_)
    · -- to 12
      refine r_aload_n C 0 dX8_test_12 rfl rfl ?_
      refine r_iload_n C 1 dX8_test_13 rfl rfl ?_
      refine r_iconst C (1) dX8_test_14 (by decide) ?_
      refine r_callV C (k := 0) [.int (p), .int (1)] [] (c_X8_refusalOf E ad σ  (p) (1) hI (by omega)) lv_X8_197 (by decide) rfl rfl (by decide) (by decide) rfl rfl (Nat.le_of_ble_eq_true rfl) dX8_test_15 (fun r_3 τ_4 h_5 => ?_)
      obtain ⟨eh_5, h_5⟩ := h_5
      obtain rfl := eh_5.symm
      refine r_istore_n C [(3, .int (r_3)), (0, .ref (ad 0)), (1, .int (p)), (2, .int (q))] dX8_test_18 rfl (by decide) rfl ?_
      refine r_iload_n C 0 dX8_test_19 rfl rfl ?_
      refine r_if_ge C 25 dX8_test_20 (by decide) (fun c_6 => ?_) (fun c_6 => ?_)
      · -- to 25
        have hp := h_5.1 c_6
        refine r_aload_n C 1 dX8_test_25 rfl rfl ?_
        refine r_get C (k := 0) (v := .ref (ad 16)) f_X8_30 (by decide) rfl rfl dX8_test_26 ?_
        refine r_iload_n C 2 dX8_test_29 rfl rfl ?_
        refine r_iload_n C 3 dX8_test_30 rfl rfl ?_
        refine r_aload_n C 1 dX8_test_31 rfl rfl ?_
        refine r_get C (k := 0) (v := .int (σ 0 8)) f_X8_57 (by decide) rfl rfl dX8_test_32 ?_
        refine r_callVv C (k := 16) [.int (p), .int (q), .int (σ 0 8)] [] (c_X3_noteTest E ad σ  (p) (q) (σ 0 8) (by omega)) lv_X8_205 (by decide) rfl rfl (by decide) (by decide) rfl rfl (Nat.le_of_ble_eq_true rfl) dX8_test_35 (fun τ_8 h_9 => ?_)
        refine r_iload_n C 3 dX8_test_38 rfl rfl ?_
        refine r_bipush C (10) dX8_test_39 (by decide) ?_
        refine r_icmp_gt C 48 dX8_test_41 (by decide) (fun c_10 => ?_) (fun c_10 => ?_)
        · -- to 48
          refine r_iconst C (0) dX8_test_48 (by decide) ?_
          exact r_iret C T dX8_test_49 (⟨h_9.1, fun h => absurd (h_5.2 h) (by omega)⟩)
        · -- to 44
          refine r_iconst C (1) dX8_test_44 (by decide) ?_
          refine r_goto C 49 dX8_test_45 (by decide) ?_
          exact r_iret C T dX8_test_49 (⟨h_9.1, fun h => absurd (h_5.2 h) (by omega)⟩)
      · -- to 23
        refine r_iload_n C 0 dX8_test_23 rfl rfl ?_
        exact r_iret C T dX8_test_24 (⟨Off.rf, h_5.2⟩)
    · -- to 10
      refine r_iconst C (-1) dX8_test_10 (by decide) ?_
      exact r_iret C T dX8_test_11 (⟨Off.rf, fun _ => k_m1⟩)
set_option maxHeartbeats 4000000 in
set_option maxRecDepth 100000 in
theorem c_X8_start (E : Ev) (ad : Nat → Nat) (σ : Sg) (p : Int32) (hI : IC σ) : Ct E ad yX8_start cX8_start 3 (some .int) 6 [.ref (ad 0), .int p] σ (fun r τ => Off [20] σ τ ∧ ((σ 16 8).toInt = 0 → r.toInt = -1)) := by
  have k_1 : (1 : Int32).toInt = 1 := by decide
  have k_2 : (2 : Int32).toInt = 2 := by decide
  have k_3 : (3 : Int32).toInt = 3 := by decide
  have hJ := hI
  unfold IC at hJ
  refine ct_of RX8 rfl (by decide +kernel) [(0, .ref (ad 0)), (1, .int (p))] rfl (Nat.le_of_ble_eq_true rfl) (fun G C T => ?_)
  refine r_aload_n C 0 dX8_start_0 rfl rfl ?_
  refine r_iload_n C 1 dX8_start_1 rfl rfl ?_
  refine r_iconst C (2) dX8_start_2 (by decide) ?_
  refine r_callV C (k := 0) [.int (p), .int (2)] [] (c_X8_refusalOf E ad σ  (p) (2) hI (by omega)) lv_X8_197 (by decide) rfl rfl (by decide) (by decide) rfl rfl (Nat.le_of_ble_eq_true rfl) dX8_start_3 (fun r_1 τ_2 h_3 => ?_)
  obtain ⟨eh_3, h_3⟩ := h_3
  obtain rfl := eh_3.symm
  refine r_istore_n C [(2, .int (r_1)), (0, .ref (ad 0)), (1, .int (p))] dX8_start_6 rfl (by decide) rfl ?_
  refine r_iload_n C 0 dX8_start_7 rfl rfl ?_
  refine r_if_ge C 13 dX8_start_8 (by decide) (fun c_4 => ?_) (fun c_4 => ?_)
  · -- to 13
    have hp := h_3.1 c_4
    refine r_aload_n C 1 dX8_start_13 rfl rfl ?_
    refine r_get C (k := 0) (v := .ref (ad 16)) f_X8_30 (by decide) rfl rfl dX8_start_14 ?_
    refine r_get C (k := 16) (v := .ref (ad 20)) f_X8_186 (by decide) rfl rfl dX8_start_17 ?_
    refine r_iload_n C 2 dX8_start_20 rfl rfl ?_
    refine r_iconst C (3) dX8_start_21 (by decide) ?_
    refine r_iast C (k := 20) (by decide) (fun _ => rfl) (by omega) dX8_start_22 ?_
    refine r_iconst C (1) dX8_start_23 (by decide) ?_
    exact r_iret C T dX8_start_24 (⟨Off.rf.up (by decide), fun h => absurd (h_3.2 h) (by omega)⟩)
  · -- to 11
    refine r_iload_n C 0 dX8_start_11 rfl rfl ?_
    exact r_iret C T dX8_start_12 (⟨Off.rf, h_3.2⟩)
set_option maxHeartbeats 4000000 in
set_option maxRecDepth 100000 in
theorem c_X8_hang (E : Ev) (ad : Nat → Nat) (σ : Sg) (p : Int32) (hI : IC σ) : Ct E ad yX8_hang cX8_hang 3 (some .int) 6 [.ref (ad 0), .int p] σ (fun r τ => Off [20, 24] σ τ ∧ ((σ 16 8).toInt = 0 → r.toInt = -1)) := by
  have k_1 : (1 : Int32).toInt = 1 := by decide
  have k_3 : (3 : Int32).toInt = 3 := by decide
  have hJ := hI
  unfold IC at hJ
  refine ct_of RX8 rfl (by decide +kernel) [(0, .ref (ad 0)), (1, .int (p))] rfl (Nat.le_of_ble_eq_true rfl) (fun G C T => ?_)
  refine r_aload_n C 0 dX8_hang_0 rfl rfl ?_
  refine r_iload_n C 1 dX8_hang_1 rfl rfl ?_
  refine r_iconst C (3) dX8_hang_2 (by decide) ?_
  refine r_callV C (k := 0) [.int (p), .int (3)] [] (c_X8_refusalOf E ad σ  (p) (3) hI (by omega)) lv_X8_197 (by decide) rfl rfl (by decide) (by decide) rfl rfl (Nat.le_of_ble_eq_true rfl) dX8_hang_3 (fun r_1 τ_2 h_3 => ?_)
  obtain ⟨eh_3, h_3⟩ := h_3
  obtain rfl := eh_3.symm
  refine r_istore_n C [(2, .int (r_1)), (0, .ref (ad 0)), (1, .int (p))] dX8_hang_6 rfl (by decide) rfl ?_
  refine r_iload_n C 0 dX8_hang_7 rfl rfl ?_
  refine r_if_ge C 13 dX8_hang_8 (by decide) (fun c_4 => ?_) (fun c_4 => ?_)
  · -- to 13
    have hp := h_3.1 c_4
    refine r_aload_n C 1 dX8_hang_13 rfl rfl ?_
    refine r_get C (k := 0) (v := .ref (ad 16)) f_X8_30 (by decide) rfl rfl dX8_hang_14 ?_
    refine r_iload_n C 2 dX8_hang_17 rfl rfl ?_
    refine r_aload_n C 1 dX8_hang_18 rfl rfl ?_
    refine r_get C (k := 0) (v := .int (σ 0 8)) f_X8_57 (by decide) rfl rfl dX8_hang_19 ?_
    refine r_callVv C (k := 16) [.int (p), .int (σ 0 8)] [] (c_X3_endLive E ad σ  (p) (σ 0 8) (by omega)) lv_X8_209 (by decide) rfl rfl (by decide) (by decide) rfl rfl (Nat.le_of_ble_eq_true rfl) dX8_hang_22 (fun τ_6 h_7 => ?_)
    refine r_iconst C (1) dX8_hang_25 (by decide) ?_
    exact r_iret C T dX8_hang_26 (⟨by rw [h_7]; exact (Off.rf.up (by decide)).up (by decide), fun h => absurd (h_3.2 h) (by omega)⟩)
  · -- to 11
    refine r_iload_n C 0 dX8_hang_11 rfl rfl ?_
    exact r_iret C T dX8_hang_12 (⟨Off.rf, h_3.2⟩)
set_option maxHeartbeats 4000000 in
set_option maxRecDepth 100000 in
theorem c_X8_back (E : Ev) (ad : Nat → Nat) (σ : Sg) (p : Int32) (hI : IC σ) : Ct E ad yX8_back cX8_back 4 (some .int) 6 [.ref (ad 0), .int p] σ (fun r τ => Off [20] σ τ ∧ ((σ 16 8).toInt = 0 → r.toInt = -1)) := by
  have k_m1 : (-1 : Int32).toInt = -1 := by decide
  have k_4 : (4 : Int32).toInt = 4 := by decide
  have k_5 : (5 : Int32).toInt = 5 := by decide
  have hJ := hI
  unfold IC at hJ
  refine ct_of RX8 rfl (by decide +kernel) [(0, .ref (ad 0)), (1, .int (p))] rfl (Nat.le_of_ble_eq_true rfl) (fun G C T => ?_)
  refine r_aload_n C 0 dX8_back_0 rfl rfl ?_
  refine r_iload_n C 1 dX8_back_1 rfl rfl ?_
  refine r_iconst C (4) dX8_back_2 (by decide) ?_
  refine r_callV C (k := 0) [.int (p), .int (4)] [] (c_X8_refusalOf E ad σ  (p) (4) hI (by omega)) lv_X8_197 (by decide) rfl rfl (by decide) (by decide) rfl rfl (Nat.le_of_ble_eq_true rfl) dX8_back_3 (fun r_1 τ_2 h_3 => ?_)
  obtain ⟨eh_3, h_3⟩ := h_3
  obtain rfl := eh_3.symm
  refine r_istore_n C [(2, .int (r_1)), (0, .ref (ad 0)), (1, .int (p))] dX8_back_6 rfl (by decide) rfl ?_
  refine r_iload_n C 0 dX8_back_7 rfl rfl ?_
  refine r_if_ge C 13 dX8_back_8 (by decide) (fun c_4 => ?_) (fun c_4 => ?_)
  · -- to 13
    have hp := h_3.1 c_4
    refine r_aload_n C 1 dX8_back_13 rfl rfl ?_
    refine r_get C (k := 0) (v := .ref (ad 1)) f_X8_10 (by decide) rfl rfl dX8_back_14 ?_
    refine r_callV C (k := 1) [] [] (c_X5_closedNow E ad σ   hI) lv_X8_90 (by decide) rfl rfl (by decide) (by decide) rfl rfl (Nat.le_of_ble_eq_true rfl) dX8_back_17 (fun r_5 τ_6 h_7 => ?_)
    obtain ⟨eh_7, h_7⟩ := h_7
    obtain rfl := eh_7.symm
    refine r_istore_n C [(3, .int (r_5)), (2, .int (r_1)), (0, .ref (ad 0)), (1, .int (p))] dX8_back_20 rfl (by decide) rfl ?_
    refine r_aload_n C 2 dX8_back_21 rfl rfl ?_
    refine r_get C (k := 0) (v := .ref (ad 16)) f_X8_30 (by decide) rfl rfl dX8_back_22 ?_
    refine r_get C (k := 16) (v := .ref (ad 20)) f_X8_186 (by decide) rfl rfl dX8_back_25 ?_
    refine r_iload_n C 3 dX8_back_28 rfl rfl ?_
    refine r_iconst C (5) dX8_back_29 (by decide) ?_
    refine r_iast C (k := 20) (by decide) (fun _ => rfl) (by omega) dX8_back_30 ?_
    refine r_iload_n C 0 dX8_back_31 rfl rfl ?_
    refine r_aload_n C 2 dX8_back_32 rfl rfl ?_
    refine r_get C (k := 0) (v := .ref (ad 1)) f_X8_10 (by decide) rfl rfl dX8_back_33 ?_
    refine r_callV C (k := 1) [] [.int (r_5)] (c_X5_closedNow E ad (sUp σ 20 ((p : Int32).toInt.toNat) (5))   hI) lv_X8_90 (by decide) rfl rfl (by decide) (by decide) rfl rfl (Nat.le_of_ble_eq_true rfl) dX8_back_36 (fun r_8 τ_9 h_10 => ?_)
    obtain ⟨eh_10, h_10⟩ := h_10
    obtain rfl := eh_10.symm
    refine r_iconst C (-1) dX8_back_39 (by decide) ?_
    refine r_ixor C dX8_back_40 ?_
    refine r_nm (P := fun z => z = (r_8 : Int32) ^^^ ((-1))) rfl (fun z_11 hz_12 => ?_)
    refine r_iand C dX8_back_41 ?_
    refine r_nm (P := fun z => z = (r_5 : Int32) &&& (z_11)) rfl (fun z_13 hz_14 => ?_)
    refine r_callS C [.int (z_13)] [] (c_J6_bitCount_0f7a4 E ad (sUp σ 20 ((p : Int32).toInt.toNat) (5))  (z_13) ) ls_X8_200 (by decide) (by decide) rfl rfl (Nat.le_of_ble_eq_true rfl) dX8_back_42 (fun r_15 τ_16 h_17 => ?_)
    obtain ⟨eh_17, h_17⟩ := h_17
    obtain rfl := eh_17.symm
    exact r_iret C T dX8_back_45 (⟨Off.rf.up (by decide), fun h => absurd (h_3.2 h) (by omega)⟩)
  · -- to 11
    refine r_iload_n C 0 dX8_back_11 rfl rfl ?_
    exact r_iret C T dX8_back_12 (⟨Off.rf, h_3.2⟩)
set_option maxHeartbeats 4000000 in
set_option maxRecDepth 100000 in
theorem c_X8_may (E : Ev) (ad : Nat → Nat) (σ : Sg) (p : Int32) (q : Int32) (hI : IC σ) : Ct E ad yX8_may cX8_may 3 (some .int) 5 [.ref (ad 0), .int p, .int q] σ (fun r τ => τ = σ ∧ ((σ 16 8).toInt = 0 → r.toInt = -1)) := by
  have k_m1 : (-1 : Int32).toInt = -1 := by decide
  have k_5 : (5 : Int32).toInt = 5 := by decide
  have hJ := hI
  unfold IC at hJ
  refine ct_of RX8 rfl (by decide +kernel) [(0, .ref (ad 0)), (1, .int (p)), (2, .int (q))] rfl (Nat.le_of_ble_eq_true rfl) (fun G C T => ?_)
  refine r_aload_n C 0 dX8_may_0 rfl rfl ?_
  refine r_get C (k := 0) (v := .ref (ad 16)) f_X8_30 (by decide) rfl rfl dX8_may_1 ?_
  refine r_iload_n C 1 dX8_may_4 rfl rfl ?_
  refine r_callV C (k := 16) [.int (p)] [] (c_X3_has E ad σ  (p) ) lv_X8_182 (by decide) rfl rfl (by decide) (by decide) rfl rfl (Nat.le_of_ble_eq_true rfl) dX8_may_5 (fun r_1 τ_2 h_3 => ?_)
  obtain ⟨eh_3, h_3⟩ := h_3
  obtain rfl := eh_3.symm
  refine r_if_eq C 20 dX8_may_8 (by decide) (fun c_4 => ?_) (fun c_4 => ?_)
  · -- to 20
    refine r_iconst C (-1) dX8_may_20 (by decide) ?_
    exact r_iret C T dX8_may_21 (⟨rfl, fun h => by first | exact k_m1 | exact absurd h (by omega)⟩)
  · -- to 11
    refine r_iload_n C 2 dX8_may_11 rfl rfl ?_
    refine r_if_lt C 20 dX8_may_12 (by decide) (fun c_5 => ?_) (fun c_5 => ?_)
    · -- to 20
      refine r_iconst C (-1) dX8_may_20 (by decide) ?_
      exact r_iret C T dX8_may_21 (⟨rfl, fun h => by first | exact k_m1 | exact absurd h (by omega)⟩)
    · -- to 15
      refine r_iload_n C 2 dX8_may_15 rfl rfl ?_
      refine r_iconst C (5) dX8_may_16 (by decide) ?_
      refine r_icmp_le C 22 dX8_may_17 (by decide) (fun c_6 => ?_) (fun c_6 => ?_)
      · -- to 22
        refine r_aload_n C 0 dX8_may_22 rfl rfl ?_
        refine r_get C (k := 0) (v := .ref (ad 1)) f_X8_10 (by decide) rfl rfl dX8_may_23 ?_
        refine r_iload_n C 1 dX8_may_26 rfl rfl ?_
        refine r_iload_n C 2 dX8_may_27 rfl rfl ?_
        refine r_aload_n C 0 dX8_may_28 rfl rfl ?_
        refine r_get C (k := 0) (v := .int (σ 0 8)) f_X8_57 (by decide) rfl rfl dX8_may_29 ?_
        refine r_callV C (k := 1) [.int (p), .int (q), .int (σ 0 8)] [] (c_X5_firstBar E ad σ  (p) (q) (σ 0 8) hI (by omega) (by omega)) lv_X8_213 (by decide) rfl rfl (by decide) (by decide) rfl rfl (Nat.le_of_ble_eq_true rfl) dX8_may_32 (fun r_7 τ_8 h_9 => ?_)
        obtain ⟨eh_9, h_9⟩ := h_9
        obtain rfl := eh_9.symm
        exact r_iret C T dX8_may_35 (⟨rfl, fun h => by first | exact k_m1 | exact absurd h (by omega)⟩)
      · -- to 20
        refine r_iconst C (-1) dX8_may_20 (by decide) ?_
        exact r_iret C T dX8_may_21 (⟨rfl, fun h => by first | exact k_m1 | exact absurd h (by omega)⟩)
set_option maxHeartbeats 4000000 in
set_option maxRecDepth 100000 in
theorem c_X8_quarrels (E : Ev) (ad : Nat → Nat) (σ : Sg) (p : Int32) (hI : IC σ) : Ct E ad yX8_quarrels cX8_quarrels 2 (some .int) 3 [.ref (ad 0), .int p] σ (fun r τ => τ = σ ∧ ((σ 16 8).toInt = 0 → r.toInt = -1)) := by
  have k_m1 : (-1 : Int32).toInt = -1 := by decide
  have hJ := hI
  unfold IC at hJ
  refine ct_of RX8 rfl (by decide +kernel) [(0, .ref (ad 0)), (1, .int (p))] rfl (Nat.le_of_ble_eq_true rfl) (fun G C T => ?_)
  refine r_aload_n C 0 dX8_quarrels_0 rfl rfl ?_
  refine r_get C (k := 0) (v := .ref (ad 16)) f_X8_30 (by decide) rfl rfl dX8_quarrels_1 ?_
  refine r_iload_n C 1 dX8_quarrels_4 rfl rfl ?_
  refine r_callV C (k := 16) [.int (p)] [] (c_X3_has E ad σ  (p) ) lv_X8_182 (by decide) rfl rfl (by decide) (by decide) rfl rfl (Nat.le_of_ble_eq_true rfl) dX8_quarrels_5 (fun r_1 τ_2 h_3 => ?_)
  obtain ⟨eh_3, h_3⟩ := h_3
  obtain rfl := eh_3.symm
  refine r_if_ne C 13 dX8_quarrels_8 (by decide) (fun c_4 => ?_) (fun c_4 => ?_)
  · -- to 13
    refine r_aload_n C 0 dX8_quarrels_13 rfl rfl ?_
    refine r_get C (k := 0) (v := .ref (ad 1)) f_X8_10 (by decide) rfl rfl dX8_quarrels_14 ?_
    refine r_iload_n C 1 dX8_quarrels_17 rfl rfl ?_
    refine r_aload_n C 0 dX8_quarrels_18 rfl rfl ?_
    refine r_get C (k := 0) (v := .int (σ 0 8)) f_X8_57 (by decide) rfl rfl dX8_quarrels_19 ?_
    refine r_callV C (k := 1) [.int (p), .int (σ 0 8)] [] (c_X5_quarrelOf E ad σ  (p) (σ 0 8) hI (by omega)) lv_X8_216 (by decide) rfl rfl (by decide) (by decide) rfl rfl (Nat.le_of_ble_eq_true rfl) dX8_quarrels_22 (fun r_5 τ_6 h_7 => ?_)
    obtain ⟨eh_7, h_7⟩ := h_7
    obtain rfl := eh_7.symm
    exact r_iret C T dX8_quarrels_25 (⟨rfl, fun h => by first | exact k_m1 | exact absurd h (by omega)⟩)
  · -- to 11
    refine r_iconst C (-1) dX8_quarrels_11 (by decide) ?_
    exact r_iret C T dX8_quarrels_12 (⟨rfl, fun h => by first | exact k_m1 | exact absurd h (by omega)⟩)
set_option maxHeartbeats 4000000 in
set_option maxRecDepth 100000 in
theorem c_X8_permitOf (E : Ev) (ad : Nat → Nat) (σ : Sg) (p : Int32) (q : Int32) (hI : IC σ) : Ct E ad yX8_permitOf cX8_permitOf 3 (some .int) 1 [.ref (ad 0), .int p, .int q] σ (fun r τ => τ = σ ∧ ((σ 16 8).toInt = 0 → r.toInt = -1)) := by
  have k_m3 : (-3 : Int32).toInt = -3 := by decide
  have k_m1 : (-1 : Int32).toInt = -1 := by decide
  have k_3 : (3 : Int32).toInt = 3 := by decide
  have hJ := hI
  unfold IC at hJ
  refine ct_of RX8 rfl (by decide +kernel) [(0, .ref (ad 0)), (1, .int (p)), (2, .int (q))] rfl (Nat.le_of_ble_eq_true rfl) (fun G C T => ?_)
  refine r_aload_n C 0 dX8_permitOf_0 rfl rfl ?_
  refine r_get C (k := 0) (v := .ref (ad 16)) f_X8_30 (by decide) rfl rfl dX8_permitOf_1 ?_
  refine r_iload_n C 1 dX8_permitOf_4 rfl rfl ?_
  refine r_callV C (k := 16) [.int (p)] [] (c_X3_has E ad σ  (p) ) lv_X8_182 (by decide) rfl rfl (by decide) (by decide) rfl rfl (Nat.le_of_ble_eq_true rfl) dX8_permitOf_5 (fun r_1 τ_2 h_3 => ?_)
  obtain ⟨eh_3, h_3⟩ := h_3
  obtain rfl := eh_3.symm
  refine r_if_ne C 13 dX8_permitOf_8 (by decide) (fun c_4 => ?_) (fun c_4 => ?_)
  · -- to 13
    refine r_iload_n C 2 dX8_permitOf_13 rfl rfl ?_
    rcases (show ((q : Int32).toInt < 0 ∨ 8 < (q : Int32).toInt) ∨ (q : Int32).toInt = 0 ∨ (q : Int32).toInt = 1 ∨ (q : Int32).toInt = 2 ∨ (q : Int32).toInt = 3 ∨ (q : Int32).toInt = 4 ∨ (q : Int32).toInt = 5 ∨ (q : Int32).toInt = 6 ∨ (q : Int32).toInt = 7 ∨ (q : Int32).toInt = 8 by omega) with sw_5 | sw_5 | sw_5 | sw_5 | sw_5 | sw_5 | sw_5 | sw_5 | sw_5 | sw_5
    · -- case None
      refine r_tblOut C 191 dX8_permitOf_14 sw_5 (by decide) ?_
      refine r_iconst C (-1) dX8_permitOf_191 (by decide) ?_
      exact r_iret C T dX8_permitOf_192 (⟨rfl, fun h => by first | exact k_m1 | exact absurd h (by omega)⟩)
    · -- case 0
      refine r_tblIn C (0) 64 dX8_permitOf_14 sw_5 (by decide) (by decide) rfl (by decide) ?_
      refine r_aload_n C 0 dX8_permitOf_64 rfl rfl ?_
      refine r_get C (k := 0) (v := .ref (ad 16)) f_X8_30 (by decide) rfl rfl dX8_permitOf_65 ?_
      refine r_get C (k := 16) (v := .ref (ad 17)) f_X8_219 (by decide) rfl rfl dX8_permitOf_68 ?_
      refine r_iload_n C 1 dX8_permitOf_71 rfl rfl ?_
      refine r_iald C (k := 17) (by decide) rfl (by omega) (σ 17 ((p : Int32).toInt.toNat)) rfl dX8_permitOf_72 ?_
      exact r_iret C T dX8_permitOf_73 (⟨rfl, fun h => by first | exact k_m1 | exact absurd h (by omega)⟩)
    · -- case 1
      refine r_tblIn C (1) 74 dX8_permitOf_14 sw_5 (by decide) (by decide) rfl (by decide) ?_
      refine r_aload_n C 0 dX8_permitOf_74 rfl rfl ?_
      refine r_get C (k := 0) (v := .ref (ad 16)) f_X8_30 (by decide) rfl rfl dX8_permitOf_75 ?_
      refine r_get C (k := 16) (v := .ref (ad 18)) f_X8_222 (by decide) rfl rfl dX8_permitOf_78 ?_
      refine r_iload_n C 1 dX8_permitOf_81 rfl rfl ?_
      refine r_iald C (k := 18) (by decide) rfl (by omega) (σ 18 ((p : Int32).toInt.toNat)) rfl dX8_permitOf_82 ?_
      exact r_iret C T dX8_permitOf_83 (⟨rfl, fun h => by first | exact k_m1 | exact absurd h (by omega)⟩)
    · -- case 2
      refine r_tblIn C (2) 84 dX8_permitOf_14 sw_5 (by decide) (by decide) rfl (by decide) ?_
      refine r_aload_n C 0 dX8_permitOf_84 rfl rfl ?_
      refine r_get C (k := 0) (v := .ref (ad 16)) f_X8_30 (by decide) rfl rfl dX8_permitOf_85 ?_
      refine r_get C (k := 16) (v := .ref (ad 19)) f_X8_225 (by decide) rfl rfl dX8_permitOf_88 ?_
      refine r_iload_n C 1 dX8_permitOf_91 rfl rfl ?_
      refine r_iald C (k := 19) (by decide) rfl (by omega) (σ 19 ((p : Int32).toInt.toNat)) rfl dX8_permitOf_92 ?_
      exact r_iret C T dX8_permitOf_93 (⟨rfl, fun h => by first | exact k_m1 | exact absurd h (by omega)⟩)
    · -- case 3
      refine r_tblIn C (3) 94 dX8_permitOf_14 sw_5 (by decide) (by decide) rfl (by decide) ?_
      refine r_aload_n C 0 dX8_permitOf_94 rfl rfl ?_
      refine r_get C (k := 0) (v := .ref (ad 16)) f_X8_30 (by decide) rfl rfl dX8_permitOf_95 ?_
      refine r_get C (k := 16) (v := .ref (ad 20)) f_X8_186 (by decide) rfl rfl dX8_permitOf_98 ?_
      refine r_iload_n C 1 dX8_permitOf_101 rfl rfl ?_
      refine r_iald C (k := 20) (by decide) rfl (by omega) (σ 20 ((p : Int32).toInt.toNat)) rfl dX8_permitOf_102 ?_
      exact r_iret C T dX8_permitOf_103 (⟨rfl, fun h => by first | exact k_m1 | exact absurd h (by omega)⟩)
    · -- case 4
      refine r_tblIn C (4) 104 dX8_permitOf_14 sw_5 (by decide) (by decide) rfl (by decide) ?_
      refine r_aload_n C 0 dX8_permitOf_104 rfl rfl ?_
      refine r_get C (k := 0) (v := .ref (ad 16)) f_X8_30 (by decide) rfl rfl dX8_permitOf_105 ?_
      refine r_get C (k := 16) (v := .ref (ad 21)) f_X8_194 (by decide) rfl rfl dX8_permitOf_108 ?_
      refine r_iload_n C 1 dX8_permitOf_111 rfl rfl ?_
      refine r_iald C (k := 21) (by decide) rfl (by omega) (σ 21 ((p : Int32).toInt.toNat)) rfl dX8_permitOf_112 ?_
      refine r_iconst C (-1) dX8_permitOf_113 (by decide) ?_
      refine r_icmp_ne C 122 dX8_permitOf_114 (by decide) (fun c_11 => ?_) (fun c_11 => ?_)
      · -- to 122
        refine r_aload_n C 0 dX8_permitOf_122 rfl rfl ?_
        refine r_get C (k := 0) (v := .ref (ad 16)) f_X8_30 (by decide) rfl rfl dX8_permitOf_123 ?_
        refine r_get C (k := 16) (v := .ref (ad 21)) f_X8_194 (by decide) rfl rfl dX8_permitOf_126 ?_
        refine r_iload_n C 1 dX8_permitOf_129 rfl rfl ?_
        refine r_iald C (k := 21) (by decide) rfl (by omega) (σ 21 ((p : Int32).toInt.toNat)) rfl dX8_permitOf_130 ?_
        exact r_iret C T dX8_permitOf_131 (⟨rfl, fun h => by first | exact k_m1 | exact absurd h (by omega)⟩)
      · -- to 117
        refine r_bipush C (-3) dX8_permitOf_117 (by decide) ?_
        refine r_goto C 131 dX8_permitOf_119 (by decide) ?_
        exact r_iret C T dX8_permitOf_131 (⟨rfl, fun h => by first | exact k_m1 | exact absurd h (by omega)⟩)
    · -- case 5
      refine r_tblIn C (5) 132 dX8_permitOf_14 sw_5 (by decide) (by decide) rfl (by decide) ?_
      refine r_aload_n C 0 dX8_permitOf_132 rfl rfl ?_
      refine r_get C (k := 0) (v := .ref (ad 25)) f_X8_35 (by decide) rfl rfl dX8_permitOf_133 ?_
      refine r_iload_n C 1 dX8_permitOf_136 rfl rfl ?_
      refine r_callV C (k := 25) [.int (p)] [] (c_X0_insideFor E ad σ  (p) ) lv_X8_228 (by decide) rfl rfl (by decide) (by decide) rfl rfl (Nat.le_of_ble_eq_true rfl) dX8_permitOf_137 (fun r_13 τ_14 h_15 => ?_)
      obtain ⟨eh_15, h_15⟩ := h_15
      obtain rfl := eh_15.symm
      exact r_iret C T dX8_permitOf_140 (⟨rfl, fun h => by first | exact k_m1 | exact absurd h (by omega)⟩)
    · -- case 6
      refine r_tblIn C (6) 141 dX8_permitOf_14 sw_5 (by decide) (by decide) rfl (by decide) ?_
      refine r_aload_n C 0 dX8_permitOf_141 rfl rfl ?_
      refine r_get C (k := 0) (v := .ref (ad 16)) f_X8_30 (by decide) rfl rfl dX8_permitOf_142 ?_
      refine r_get C (k := 16) (v := .ref (ad 22)) f_X8_231 (by decide) rfl rfl dX8_permitOf_145 ?_
      refine r_iload_n C 1 dX8_permitOf_148 rfl rfl ?_
      refine r_iald C (k := 22) (by decide) rfl (by omega) (σ 22 ((p : Int32).toInt.toNat)) rfl dX8_permitOf_149 ?_
      exact r_iret C T dX8_permitOf_150 (⟨rfl, fun h => by first | exact k_m1 | exact absurd h (by omega)⟩)
    · -- case 7
      refine r_tblIn C (7) 151 dX8_permitOf_14 sw_5 (by decide) (by decide) rfl (by decide) ?_
      refine r_aload_n C 0 dX8_permitOf_151 rfl rfl ?_
      refine r_get C (k := 0) (v := .ref (ad 16)) f_X8_30 (by decide) rfl rfl dX8_permitOf_152 ?_
      refine r_get C (k := 16) (v := .ref (ad 23)) f_X8_234 (by decide) rfl rfl dX8_permitOf_155 ?_
      refine r_iload_n C 1 dX8_permitOf_158 rfl rfl ?_
      refine r_iald C (k := 23) (by decide) rfl (by omega) (σ 23 ((p : Int32).toInt.toNat)) rfl dX8_permitOf_159 ?_
      exact r_iret C T dX8_permitOf_160 (⟨rfl, fun h => by first | exact k_m1 | exact absurd h (by omega)⟩)
    · -- case 8
      refine r_tblIn C (8) 161 dX8_permitOf_14 sw_5 (by decide) (by decide) rfl (by decide) ?_
      refine r_aload_n C 0 dX8_permitOf_161 rfl rfl ?_
      refine r_get C (k := 0) (v := .ref (ad 16)) f_X8_30 (by decide) rfl rfl dX8_permitOf_162 ?_
      refine r_get C (k := 16) (v := .ref (ad 20)) f_X8_186 (by decide) rfl rfl dX8_permitOf_165 ?_
      refine r_iload_n C 1 dX8_permitOf_168 rfl rfl ?_
      refine r_iald C (k := 20) (by decide) rfl (by omega) (σ 20 ((p : Int32).toInt.toNat)) rfl dX8_permitOf_169 ?_
      refine r_iconst C (3) dX8_permitOf_170 (by decide) ?_
      refine r_icmp_ne C 181 dX8_permitOf_171 (by decide) (fun c_19 => ?_) (fun c_19 => ?_)
      · -- to 181
        refine r_aload_n C 0 dX8_permitOf_181 rfl rfl ?_
        refine r_get C (k := 0) (v := .ref (ad 16)) f_X8_30 (by decide) rfl rfl dX8_permitOf_182 ?_
        refine r_get C (k := 16) (v := .ref (ad 24)) f_X8_237 (by decide) rfl rfl dX8_permitOf_185 ?_
        refine r_iload_n C 1 dX8_permitOf_188 rfl rfl ?_
        refine r_iald C (k := 24) (by decide) rfl (by omega) (σ 24 ((p : Int32).toInt.toNat)) rfl dX8_permitOf_189 ?_
        exact r_iret C T dX8_permitOf_190 (⟨rfl, fun h => by first | exact k_m1 | exact absurd h (by omega)⟩)
      · -- to 174
        refine r_aload_n C 0 dX8_permitOf_174 rfl rfl ?_
        refine r_get C (k := 0) (v := .int (σ 0 8)) f_X8_57 (by decide) rfl rfl dX8_permitOf_175 ?_
        refine r_goto C 190 dX8_permitOf_178 (by decide) ?_
        exact r_iret C T dX8_permitOf_190 (⟨rfl, fun h => by first | exact k_m1 | exact absurd h (by omega)⟩)
  · -- to 11
    refine r_iconst C (-1) dX8_permitOf_11 (by decide) ?_
    exact r_iret C T dX8_permitOf_12 (⟨rfl, fun h => by first | exact k_m1 | exact absurd h (by omega)⟩)
set_option maxHeartbeats 4000000 in
set_option maxRecDepth 100000 in
theorem c_X8_enter (E : Ev) (ad : Nat → Nat) (σ : Sg) (p : Int32) (q : Int32) (hI : IC σ) : Ct E ad yX8_enter cX8_enter 4 (some .int) 6 [.ref (ad 0), .int p, .int q] σ (fun r τ => Off [26] σ τ ∧ ((σ 16 8).toInt = 0 → r.toInt = -1)) := by
  have k_m4 : (-4 : Int32).toInt = -4 := by decide
  have k_m1 : (-1 : Int32).toInt = -1 := by decide
  have k_5 : (5 : Int32).toInt = 5 := by decide
  have hJ := hI
  unfold IC at hJ
  refine ct_of RX8 rfl (by decide +kernel) [(0, .ref (ad 0)), (1, .int (p)), (2, .int (q))] rfl (Nat.le_of_ble_eq_true rfl) (fun G C T => ?_)
  refine r_iload_n C 1 dX8_enter_0 rfl rfl ?_
  refine r_callS C [.int (p)] [] (c_X8_isMan E ad σ  (p) ) ls_X8_183 (by decide) (by decide) rfl rfl (Nat.le_of_ble_eq_true rfl) dX8_enter_1 (fun r_1 τ_2 h_3 => ?_)
  obtain ⟨eh_3, h_3⟩ := h_3
  obtain rfl := eh_3.symm
  refine r_if_eq C 18 dX8_enter_4 (by decide) (fun c_4 => ?_) (fun c_4 => ?_)
  · -- to 18
    refine r_iconst C (-1) dX8_enter_18 (by decide) ?_
    exact r_iret C T dX8_enter_19 (⟨Off.rf, fun _ => k_m1⟩)
  · -- to 7
    refine r_aload_n C 0 dX8_enter_7 rfl rfl ?_
    refine r_get C (k := 0) (v := .ref (ad 16)) f_X8_30 (by decide) rfl rfl dX8_enter_8 ?_
    refine r_iload_n C 2 dX8_enter_11 rfl rfl ?_
    refine r_callV C (k := 16) [.int (q)] [] (c_X3_has E ad σ  (q) ) lv_X8_182 (by decide) rfl rfl (by decide) (by decide) rfl rfl (Nat.le_of_ble_eq_true rfl) dX8_enter_12 (fun r_5 τ_6 h_7 => ?_)
    obtain ⟨eh_7, h_7⟩ := h_7
    obtain rfl := eh_7.symm
    refine r_if_ne C 20 dX8_enter_15 (by decide) (fun c_8 => ?_) (fun c_8 => ?_)
    · -- to 20
      refine r_aload_n C 0 dX8_enter_20 rfl rfl ?_
      refine r_get C (k := 0) (v := .ref (ad 25)) f_X8_35 (by decide) rfl rfl dX8_enter_21 ?_
      refine r_iload_n C 1 dX8_enter_24 rfl rfl ?_
      refine r_callV C (k := 25) [.int (p)] [] (c_X0_isOn E ad σ  (p) ) lv_X8_189 (by decide) rfl rfl (by decide) (by decide) rfl rfl (Nat.le_of_ble_eq_true rfl) dX8_enter_25 (fun r_9 τ_10 h_11 => ?_)
      obtain ⟨eh_11, h_11⟩ := h_11
      obtain rfl := eh_11.symm
      refine r_if_eq C 44 dX8_enter_28 (by decide) (fun c_12 => ?_) (fun c_12 => ?_)
      · -- to 44
        refine r_bipush C (-4) dX8_enter_44 (by decide) ?_
        exact r_iret C T dX8_enter_46 (⟨Off.rf, fun h => absurd h (by omega)⟩)
      · -- to 31
        refine r_aload_n C 0 dX8_enter_31 rfl rfl ?_
        refine r_get C (k := 0) (v := .ref (ad 25)) f_X8_35 (by decide) rfl rfl dX8_enter_32 ?_
        refine r_get C (k := 25) (v := .ref (ad 26)) f_X8_240 (by decide) rfl rfl dX8_enter_35 ?_
        refine r_iload_n C 1 dX8_enter_38 rfl rfl ?_
        refine r_iald C (k := 26) (by decide) rfl (by omega) (σ 26 ((p : Int32).toInt.toNat)) rfl dX8_enter_39 ?_
        refine r_iconst C (-1) dX8_enter_40 (by decide) ?_
        refine r_icmp_eq C 47 dX8_enter_41 (by decide) (fun c_14 => ?_) (fun c_14 => ?_)
        · -- to 47
          refine r_aload_n C 0 dX8_enter_47 rfl rfl ?_
          refine r_iload_n C 2 dX8_enter_48 rfl rfl ?_
          refine r_iconst C (5) dX8_enter_49 (by decide) ?_
          refine r_callV C (k := 0) [.int (q), .int (5)] [] (c_X8_refusalOf E ad σ  (q) (5) hI (by omega)) lv_X8_197 (by decide) rfl rfl (by decide) (by decide) rfl rfl (Nat.le_of_ble_eq_true rfl) dX8_enter_50 (fun r_15 τ_16 h_17 => ?_)
          obtain ⟨eh_17, h_17⟩ := h_17
          obtain rfl := eh_17.symm
          refine r_istore_n C [(3, .int (r_15)), (0, .ref (ad 0)), (1, .int (p)), (2, .int (q))] dX8_enter_53 rfl (by decide) rfl ?_
          refine r_iload_n C 0 dX8_enter_54 rfl rfl ?_
          refine r_if_ge C 60 dX8_enter_55 (by decide) (fun c_18 => ?_) (fun c_18 => ?_)
          · -- to 60
            have hp := h_17.1 c_18
            refine r_aload_n C 1 dX8_enter_60 rfl rfl ?_
            refine r_get C (k := 0) (v := .ref (ad 25)) f_X8_35 (by decide) rfl rfl dX8_enter_61 ?_
            refine r_get C (k := 25) (v := .ref (ad 26)) f_X8_240 (by decide) rfl rfl dX8_enter_64 ?_
            refine r_iload_n C 2 dX8_enter_67 rfl rfl ?_
            refine r_iload_n C 3 dX8_enter_68 rfl rfl ?_
            refine r_iast C (k := 26) (by decide) (fun _ => rfl) (by omega) dX8_enter_69 ?_
            refine r_aload_n C 1 dX8_enter_70 rfl rfl ?_
            refine r_get C (k := 0) (v := .ref (ad 25)) f_X8_35 (by decide) rfl rfl dX8_enter_71 ?_
            refine r_iload_n C 3 dX8_enter_74 rfl rfl ?_
            refine r_callV C (k := 25) [.int (q)] [] (c_X0_insideFor E ad (sUp σ 26 ((p : Int32).toInt.toNat) (q))  (q) ) lv_X8_228 (by decide) rfl rfl (by decide) (by decide) rfl rfl (Nat.le_of_ble_eq_true rfl) dX8_enter_75 (fun r_19 τ_20 h_21 => ?_)
            obtain ⟨eh_21, h_21⟩ := h_21
            obtain rfl := eh_21.symm
            exact r_iret C T dX8_enter_78 (⟨Off.rf.up (by decide), fun h => absurd (h_17.2 h) (by omega)⟩)
          · -- to 58
            refine r_iload_n C 0 dX8_enter_58 rfl rfl ?_
            exact r_iret C T dX8_enter_59 (⟨Off.rf, h_17.2⟩)
        · -- to 44
          refine r_bipush C (-4) dX8_enter_44 (by decide) ?_
          exact r_iret C T dX8_enter_46 (⟨Off.rf, fun h => absurd h (by omega)⟩)
    · -- to 18
      refine r_iconst C (-1) dX8_enter_18 (by decide) ?_
      exact r_iret C T dX8_enter_19 (⟨Off.rf, fun _ => k_m1⟩)
set_option maxHeartbeats 4000000 in
set_option maxRecDepth 100000 in
theorem c_X8_leave (E : Ev) (ad : Nat → Nat) (σ : Sg) (p : Int32) (hI : IC σ) : Ct E ad yX8_leave cX8_leave 3 (some .int) 1 [.ref (ad 0), .int p] σ (fun r τ => Off [26] σ τ ∧ (¬ (0 ≤ p.toInt ∧ p.toInt < 8) → r.toInt = -1) ∧ ((∀ j, j < 8 → (σ 26 j).toInt = -1) → 0 ≤ p.toInt ∧ p.toInt < 8 → r.toInt = -4)) := by
  have k_m4 : (-4 : Int32).toInt = -4 := by decide
  have k_m1 : (-1 : Int32).toInt = -1 := by decide
  have hJ := hI
  unfold IC at hJ
  refine ct_of RX8 rfl (by decide +kernel) [(0, .ref (ad 0)), (1, .int (p))] rfl (Nat.le_of_ble_eq_true rfl) (fun G C T => ?_)
  refine r_iload_n C 1 dX8_leave_0 rfl rfl ?_
  refine r_callS C [.int (p)] [] (c_X8_isMan E ad σ  (p) ) ls_X8_183 (by decide) (by decide) rfl rfl (Nat.le_of_ble_eq_true rfl) dX8_leave_1 (fun r_1 τ_2 h_3 => ?_)
  obtain ⟨eh_3, h_3⟩ := h_3
  obtain rfl := eh_3.symm
  refine r_if_ne C 9 dX8_leave_4 (by decide) (fun c_4 => ?_) (fun c_4 => ?_)
  · -- to 9
    refine r_aload_n C 0 dX8_leave_9 rfl rfl ?_
    refine r_get C (k := 0) (v := .ref (ad 25)) f_X8_35 (by decide) rfl rfl dX8_leave_10 ?_
    refine r_get C (k := 25) (v := .ref (ad 26)) f_X8_240 (by decide) rfl rfl dX8_leave_13 ?_
    refine r_iload_n C 1 dX8_leave_16 rfl rfl ?_
    refine r_iald C (k := 26) (by decide) rfl (by omega) (σ 26 ((p : Int32).toInt.toNat)) rfl dX8_leave_17 ?_
    refine r_istore_n C [(2, .int (σ 26 ((p : Int32).toInt.toNat))), (0, .ref (ad 0)), (1, .int (p))] dX8_leave_18 rfl (by decide) rfl ?_
    refine r_iload_n C 0 dX8_leave_19 rfl rfl ?_
    refine r_iconst C (-1) dX8_leave_20 (by decide) ?_
    refine r_icmp_ne C 27 dX8_leave_21 (by decide) (fun c_6 => ?_) (fun c_6 => ?_)
    · -- to 27
      refine r_aload_n C 1 dX8_leave_27 rfl rfl ?_
      refine r_get C (k := 0) (v := .ref (ad 25)) f_X8_35 (by decide) rfl rfl dX8_leave_28 ?_
      refine r_get C (k := 25) (v := .ref (ad 26)) f_X8_240 (by decide) rfl rfl dX8_leave_31 ?_
      refine r_iload_n C 2 dX8_leave_34 rfl rfl ?_
      refine r_iconst C (-1) dX8_leave_35 (by decide) ?_
      refine r_iast C (k := 26) (by decide) (fun _ => rfl) (by omega) dX8_leave_36 ?_
      refine r_iload_n C 0 dX8_leave_37 rfl rfl ?_
      exact r_iret C T dX8_leave_38 (⟨Off.rf.up (by decide), fun h => absurd h (by omega), fun h h2 => absurd (h (p : Int32).toInt.toNat (by omega)) (by omega)⟩)
    · -- to 24
      refine r_bipush C (-4) dX8_leave_24 (by decide) ?_
      exact r_iret C T dX8_leave_26 (⟨Off.rf, fun h => absurd h (by omega), fun _ _ => k_m4⟩)
  · -- to 7
    refine r_iconst C (-1) dX8_leave_7 (by decide) ?_
    exact r_iret C T dX8_leave_8 (⟨Off.rf, fun _ => k_m1, fun _ h => absurd h (by omega)⟩)
set_option maxHeartbeats 4000000 in
set_option maxRecDepth 100000 in
theorem c_X8_shift (E : Ev) (ad : Nat → Nat) (σ : Sg) (p : Int32) (q : Int32) (hI : IC σ) (hq : q.toInt = 0 ∨ q.toInt = 1) : Ct E ad yX8_shift cX8_shift 4 (some .int) 2 [.ref (ad 0), .int p, .int q] σ (fun r τ => Off [25] σ τ ∧ (¬ (0 ≤ p.toInt ∧ p.toInt < 8) → r.toInt = -1) ∧ (σ 25 0 = 255 → (∀ j, j < 8 → (σ 26 j).toInt = -1) → (σ 16 8).toInt = 0 → 0 ≤ p.toInt ∧ p.toInt < 8 → (q.toInt = 0 → r.toInt = 1) ∧ (q.toInt = 1 → r.toInt = -4))) := by
  have k_m4 : (-4 : Int32).toInt = -4 := by decide
  have k_m1 : (-1 : Int32).toInt = -1 := by decide
  have k_0 : (0 : Int32).toInt = 0 := by decide
  have k_1 : (1 : Int32).toInt = 1 := by decide
  have hJ := hI
  unfold IC at hJ
  refine ct_of RX8 rfl (by decide +kernel) [(0, .ref (ad 0)), (1, .int (p)), (2, .int (q))] rfl (Nat.le_of_ble_eq_true rfl) (fun G C T => ?_)
  refine r_iload_n C 1 dX8_shift_0 rfl rfl ?_
  refine r_callS C [.int (p)] [] (c_X8_isMan E ad σ  (p) ) ls_X8_183 (by decide) (by decide) rfl rfl (Nat.le_of_ble_eq_true rfl) dX8_shift_1 (fun r_1 τ_2 h_3 => ?_)
  obtain ⟨eh_3, h_3⟩ := h_3
  obtain rfl := eh_3.symm
  refine r_if_ne C 9 dX8_shift_4 (by decide) (fun c_4 => ?_) (fun c_4 => ?_)
  · -- to 9
    have L_38 : ∀ (a : Int32), ((∀ j, j < 8 → (σ 26 j).toInt = -1) → (σ 16 8).toInt = 0 → a.toInt = 0) → At E ad G 4 38 [(0, .ref (ad 0)), (1, .int (p)), (2, .int (q))] [.int (a)] σ := by
      intro a ha
      refine r_istore_n C [(3, .int (a)), (0, .ref (ad 0)), (1, .int (p)), (2, .int (q))] dX8_shift_38 rfl (by decide) rfl ?_
      refine r_aload_n C 1 dX8_shift_39 rfl rfl ?_
      refine r_get C (k := 0) (v := .ref (ad 25)) f_X8_35 (by decide) rfl rfl dX8_shift_40 ?_
      refine r_iload_n C 2 dX8_shift_43 rfl rfl ?_
      refine r_callV C (k := 25) [.int (p)] [] (c_X0_isOn E ad σ  (p) ) lv_X8_189 (by decide) rfl rfl (by decide) (by decide) rfl rfl (Nat.le_of_ble_eq_true rfl) dX8_shift_44 (fun r_5 τ_6 h_7 => ?_)
      obtain ⟨eh_7, h_7⟩ := h_7
      obtain rfl := eh_7.symm
      refine r_iload_n C 3 dX8_shift_47 rfl rfl ?_
      refine r_icmp_eq C 59 dX8_shift_48 (by decide) (fun c_8 => ?_) (fun c_8 => ?_)
      · -- to 59
        refine r_bipush C (-4) dX8_shift_59 (by decide) ?_
        exact r_iret C T dX8_shift_61 (⟨Off.rf, fun h => absurd h (by omega), fun h1 h2 h3 h4 => by have t := ha h2 h3; have t2 := h_7.2 h1 (by omega); omega⟩)
      · -- to 51
        refine r_iload_n C 3 dX8_shift_51 rfl rfl ?_
        refine r_if_ne C 62 dX8_shift_52 (by decide) (fun c_9 => ?_) (fun c_9 => ?_)
        · -- to 62
          refine r_aload_n C 1 dX8_shift_62 rfl rfl ?_
          refine r_get C (k := 0) (v := .ref (ad 25)) f_X8_35 (by decide) rfl rfl dX8_shift_63 ?_
          refine r_iload_n C 2 dX8_shift_66 rfl rfl ?_
          refine r_iload_n C 3 dX8_shift_67 rfl rfl ?_
          refine r_callVv C (k := 25) [.int (p), .int (q)] [] (c_X0_tellShift E ad σ  (p) (q) ) lv_X8_246 (by decide) rfl rfl (by decide) (by decide) rfl rfl (Nat.le_of_ble_eq_true rfl) dX8_shift_68 (fun τ_11 h_12 => ?_)
          refine r_iconst C (1) dX8_shift_71 (by decide) ?_
          exact r_iret C T dX8_shift_72 (⟨by obtain ⟨v, e⟩ := h_12; rw [e]; exact Off.rf.up (by decide), fun h => absurd h (by omega), fun h1 h2 h3 h4 => by have t := ha h2 h3; have t2 := h_7.2 h1 (by omega); omega⟩)
        · -- to 55
          refine r_iload_n C 0 dX8_shift_55 rfl rfl ?_
          refine r_if_eq C 62 dX8_shift_56 (by decide) (fun c_13 => ?_) (fun c_13 => ?_)
          · -- to 62
            refine r_aload_n C 1 dX8_shift_62 rfl rfl ?_
            refine r_get C (k := 0) (v := .ref (ad 25)) f_X8_35 (by decide) rfl rfl dX8_shift_63 ?_
            refine r_iload_n C 2 dX8_shift_66 rfl rfl ?_
            refine r_iload_n C 3 dX8_shift_67 rfl rfl ?_
            refine r_callVv C (k := 25) [.int (p), .int (q)] [] (c_X0_tellShift E ad σ  (p) (q) ) lv_X8_246 (by decide) rfl rfl (by decide) (by decide) rfl rfl (Nat.le_of_ble_eq_true rfl) dX8_shift_68 (fun τ_15 h_16 => ?_)
            refine r_iconst C (1) dX8_shift_71 (by decide) ?_
            exact r_iret C T dX8_shift_72 (⟨by obtain ⟨v, e⟩ := h_16; rw [e]; exact Off.rf.up (by decide), fun h => absurd h (by omega), fun h1 h2 h3 h4 => by have t := ha h2 h3; have t2 := h_7.2 h1 (by omega); omega⟩)
          · -- to 59
            refine r_bipush C (-4) dX8_shift_59 (by decide) ?_
            exact r_iret C T dX8_shift_61 (⟨Off.rf, fun h => absurd h (by omega), fun h1 h2 h3 h4 => by have t := ha h2 h3; have t2 := h_7.2 h1 (by omega); omega⟩)
    refine r_aload_n C 0 dX8_shift_9 rfl rfl ?_
    refine r_get C (k := 0) (v := .ref (ad 25)) f_X8_35 (by decide) rfl rfl dX8_shift_10 ?_
    refine r_get C (k := 25) (v := .ref (ad 26)) f_X8_240 (by decide) rfl rfl dX8_shift_13 ?_
    refine r_iload_n C 1 dX8_shift_16 rfl rfl ?_
    refine r_iald C (k := 26) (by decide) rfl (by omega) (σ 26 ((p : Int32).toInt.toNat)) rfl dX8_shift_17 ?_
    refine r_iconst C (-1) dX8_shift_18 (by decide) ?_
    refine r_icmp_ne C 33 dX8_shift_19 (by decide) (fun c_18 => ?_) (fun c_18 => ?_)
    · -- to 33
      refine r_iconst C (1) dX8_shift_33 (by decide) ?_
      refine r_goto C 38 dX8_shift_34 (by decide) ?_
      exact At.sub [0, 1, 2] rfl (L_38 (1 : Int32) (fun h1 h2 => absurd (h1 (p : Int32).toInt.toNat (by omega)) (by omega)))
    · -- to 22
      refine r_aload_n C 0 dX8_shift_22 rfl rfl ?_
      refine r_get C (k := 0) (v := .ref (ad 16)) f_X8_30 (by decide) rfl rfl dX8_shift_23 ?_
      refine r_iload_n C 1 dX8_shift_26 rfl rfl ?_
      refine r_callV C (k := 16) [.int (p)] [] (c_X3_holdsLive E ad σ  (p) hI) lv_X8_243 (by decide) rfl rfl (by decide) (by decide) rfl rfl (Nat.le_of_ble_eq_true rfl) dX8_shift_27 (fun r_19 τ_20 h_21 => ?_)
      obtain ⟨eh_21, h_21⟩ := h_21
      obtain rfl := eh_21.symm
      refine r_if_eq C 37 dX8_shift_30 (by decide) (fun c_22 => ?_) (fun c_22 => ?_)
      · -- to 37
        refine r_iconst C (0) dX8_shift_37 (by decide) ?_
        exact At.sub [0, 1, 2] rfl (L_38 (0 : Int32) (fun _ _ => k_0))
      · -- to 33
        refine r_iconst C (1) dX8_shift_33 (by decide) ?_
        refine r_goto C 38 dX8_shift_34 (by decide) ?_
        exact At.sub [0, 1, 2] rfl (L_38 (1 : Int32) (fun h1 h2 => absurd (h_21.2 h2) (by omega)))
  · -- to 7
    refine r_iconst C (-1) dX8_shift_7 (by decide) ?_
    exact r_iret C T dX8_shift_8 (⟨Off.rf, fun _ => k_m1, fun _ _ _ h => absurd h (by omega)⟩)
set_option maxHeartbeats 4000000 in
set_option maxRecDepth 100000 in
theorem c_X8_siren (E : Ev) (ad : Nat → Nat) (σ : Sg)  (hI : IC σ) : Ct E ad yX8_siren cX8_siren 2 (some .int) 3 [.ref (ad 0)] σ (fun r τ => Off [20, 24, 26] σ τ ∧ ((∀ j, j < 8 → (σ 26 j).toInt = -1) → r.toInt = 0)) := by
  have hJ := hI
  unfold IC at hJ
  refine ct_of RX8 rfl (by decide +kernel) [(0, .ref (ad 0))] rfl (Nat.le_of_ble_eq_true rfl) (fun G C T => ?_)
  refine r_aload_n C 0 dX8_siren_0 rfl rfl ?_
  refine r_get C (k := 0) (v := .ref (ad 25)) f_X8_35 (by decide) rfl rfl dX8_siren_1 ?_
  refine r_callV C (k := 25) [] [] (c_X0_comeOut E ad σ   ) lv_X8_250 (by decide) rfl rfl (by decide) (by decide) rfl rfl (Nat.le_of_ble_eq_true rfl) dX8_siren_4 (fun r_1 τ_2 h_3 => ?_)
  refine r_istore_n C [(1, .int (r_1)), (0, .ref (ad 0))] dX8_siren_7 rfl (by decide) rfl ?_
  refine r_aload_n C 1 dX8_siren_8 rfl rfl ?_
  refine r_get C (k := 0) (v := .ref (ad 16)) f_X8_30 (by decide) rfl rfl dX8_siren_9 ?_
  refine r_aload_n C 1 dX8_siren_12 rfl rfl ?_
  refine r_get C (k := 0) (v := .int (τ_2 0 8)) f_X8_57 (by decide) rfl rfl dX8_siren_13 ?_
  refine r_callVv C (k := 16) [.int (τ_2 0 8)] [] (c_X3_endAllLive E ad τ_2  (τ_2 0 8) (IC_off h_3.1 (by decide) hI)) lv_X8_253 (by decide) rfl rfl (by decide) (by decide) rfl rfl (Nat.le_of_ble_eq_true rfl) dX8_siren_16 (fun τ_5 h_6 => ?_)
  refine r_iload_n C 0 dX8_siren_19 rfl rfl ?_
  exact r_iret C T dX8_siren_20 (⟨(h_3.1.to (by decide)).tr (h_6.1.to (by decide)) (fun _ h => h), h_3.2⟩)
set_option maxHeartbeats 4000000 in
set_option maxRecDepth 100000 in
theorem c_X8_leastSet (E : Ev) (ad : Nat → Nat) (σ : Sg) (p : Int32) (hI : IC σ) : Ct E ad yX8_leastSet cX8_leastSet 2 (some .int) 18 [.ref (ad 0), .int p] σ (fun r τ => τ = σ ∧ (¬ (0 ≤ p.toInt ∧ p.toInt < 10) → r.toInt = -1) ∧ ((∀ j, σ 8 j = 0) → 0 ≤ p.toInt ∧ p.toInt < 10 → r.toInt = 0)) := by
  have k_m1 : (-1 : Int32).toInt = -1 := by decide
  have hJ := hI
  unfold IC at hJ
  refine ct_of RX8 rfl (by decide +kernel) [(0, .ref (ad 0)), (1, .int (p))] rfl (Nat.le_of_ble_eq_true rfl) (fun G C T => ?_)
  refine r_iload_n C 1 dX8_leastSet_0 rfl rfl ?_
  refine r_callS C [.int (p)] [] (c_X8_isPlace E ad σ  (p) ) ls_X8_61 (by decide) (by decide) rfl rfl (Nat.le_of_ble_eq_true rfl) dX8_leastSet_1 (fun r_1 τ_2 h_3 => ?_)
  obtain ⟨eh_3, h_3⟩ := h_3
  obtain rfl := eh_3.symm
  refine r_if_ne C 9 dX8_leastSet_4 (by decide) (fun c_4 => ?_) (fun c_4 => ?_)
  · -- to 9
    refine r_aload_n C 0 dX8_leastSet_9 rfl rfl ?_
    refine r_get C (k := 0) (v := .ref (ad 2)) f_X8_20 (by decide) rfl rfl dX8_leastSet_10 ?_
    refine r_iload_n C 1 dX8_leastSet_13 rfl rfl ?_
    refine r_aload_n C 0 dX8_leastSet_14 rfl rfl ?_
    refine r_get C (k := 0) (v := .ref (ad 9)) f_X8_25 (by decide) rfl rfl dX8_leastSet_15 ?_
    refine r_aload_n C 0 dX8_leastSet_18 rfl rfl ?_
    refine r_get C (k := 0) (v := .int (σ 0 8)) f_X8_57 (by decide) rfl rfl dX8_leastSet_19 ?_
    refine r_callV C (k := 9) [.int (σ 0 8)] [.int (p), .ref (ad 2)] (c_X6_doubledAt E ad σ  (σ 0 8) hI) lv_X8_114 (by decide) rfl rfl (by decide) (by decide) rfl rfl (Nat.le_of_ble_eq_true rfl) dX8_leastSet_22 (fun r_5 τ_6 h_7 => ?_)
    obtain ⟨eh_7, h_7⟩ := h_7
    obtain rfl := eh_7.symm
    refine r_callV C (k := 2) [.int (p), .int (r_5)] [] (c_X2_leastSetFor E ad σ  (p) (r_5) hI) lv_X8_263 (by decide) rfl rfl (by decide) (by decide) rfl rfl (Nat.le_of_ble_eq_true rfl) dX8_leastSet_25 (fun r_8 τ_9 h_10 => ?_)
    obtain ⟨eh_10, h_10⟩ := h_10
    obtain rfl := eh_10.symm
    exact r_iret C T dX8_leastSet_28 (⟨rfl, fun h => absurd h (by omega), fun h _ => h_10 h⟩)
  · -- to 7
    refine r_iconst C (-1) dX8_leastSet_7 (by decide) ?_
    exact r_iret C T dX8_leastSet_8 (⟨rfl, fun _ => k_m1, fun _ h => absurd h (by omega)⟩)
set_option maxHeartbeats 4000000 in
set_option maxRecDepth 100000 in
theorem c_X8_least (E : Ev) (ad : Nat → Nat) (σ : Sg) (p : Int32) (hI : IC σ) : Ct E ad yX8_least cX8_least 3 (some .int) 19 [.ref (ad 0), .int p] σ (fun r τ => τ = σ ∧ (¬ (0 ≤ p.toInt ∧ p.toInt < 10) → r.toInt = -1) ∧ ((∀ j, σ 8 j = 0) → σ 2 7 = 0 → σ 2 8 = 0 → 0 ≤ p.toInt ∧ p.toInt < 10 → r.toInt = 0)) := by
  have hJ := hI
  unfold IC at hJ
  refine ct_of RX8 rfl (by decide +kernel) [(0, .ref (ad 0)), (1, .int (p))] rfl (Nat.le_of_ble_eq_true rfl) (fun G C T => ?_)
  refine r_aload_n C 0 dX8_least_0 rfl rfl ?_
  refine r_iload_n C 1 dX8_least_1 rfl rfl ?_
  refine r_callV C (k := 0) [.int (p)] [] (c_X8_leastSet E ad σ  (p) hI) lv_X8_257 (by decide) rfl rfl (by decide) (by decide) rfl rfl (Nat.le_of_ble_eq_true rfl) dX8_least_2 (fun r_1 τ_2 h_3 => ?_)
  obtain ⟨eh_3, h_3⟩ := h_3
  obtain rfl := eh_3.symm
  refine r_istore_n C [(2, .int (r_1)), (0, .ref (ad 0)), (1, .int (p))] dX8_least_5 rfl (by decide) rfl ?_
  refine r_iload_n C 0 dX8_least_6 rfl rfl ?_
  refine r_if_ge C 14 dX8_least_7 (by decide) (fun c_4 => ?_) (fun c_4 => ?_)
  · -- to 14
    refine r_aload_n C 1 dX8_least_14 rfl rfl ?_
    refine r_get C (k := 0) (v := .ref (ad 2)) f_X8_20 (by decide) rfl rfl dX8_least_15 ?_
    refine r_iload_n C 0 dX8_least_18 rfl rfl ?_
    refine r_callV C (k := 2) [.int (r_1)] [] (c_X2_hoursOf E ad σ  (r_1) ) lv_X8_260 (by decide) rfl rfl (by decide) (by decide) rfl rfl (Nat.le_of_ble_eq_true rfl) dX8_least_19 (fun r_5 τ_6 h_7 => ?_)
    obtain ⟨eh_7, h_7⟩ := h_7
    obtain rfl := eh_7.symm
    exact r_iret C T dX8_least_22 (⟨rfl, fun h => absurd (h_3.1 h) (by omega), fun h1 h2 h3 h4 => h_7.2.2 h2 h3⟩)
  · -- to 10
    refine r_iload_n C 0 dX8_least_10 rfl rfl ?_
    refine r_goto C 22 dX8_least_11 (by decide) ?_
    exact r_iret C T dX8_least_22 (⟨rfl, h_3.1, fun h1 h2 h3 h4 => absurd (h_3.2 h1 h4) (by omega)⟩)
set_option maxHeartbeats 4000000 in
set_option maxRecDepth 100000 in
theorem c_X8_risk (E : Ev) (ad : Nat → Nat) (σ : Sg) (p : Int32) (hI : IC σ) : Ct E ad yX8_risk cX8_risk 7 (some .int) 3 [.ref (ad 0), .int p] σ (fun r τ => τ = σ ∧ ((σ 2 6).toInt = 0 → r.toInt = -1)) := by
  have k_m1 : (-1 : Int32).toInt = -1 := by decide
  have k_0 : (0 : Int32).toInt = 0 := by decide
  have k_1 : (1 : Int32).toInt = 1 := by decide
  have k_3 : (3 : Int32).toInt = 3 := by decide
  have hJ := hI
  unfold IC at hJ
  refine ct_of RX8 rfl (by decide +kernel) [(0, .ref (ad 0)), (1, .int (p))] rfl (Nat.le_of_ble_eq_true rfl) (fun G C T => ?_)
  refine r_aload_n C 0 dX8_risk_0 rfl rfl ?_
  refine r_get C (k := 0) (v := .ref (ad 2)) f_X8_20 (by decide) rfl rfl dX8_risk_1 ?_
  refine r_iload_n C 1 dX8_risk_4 rfl rfl ?_
  refine r_callV C (k := 2) [.int (p)] [] (c_X2_hasFitting E ad σ  (p) hI) lv_X8_104 (by decide) rfl rfl (by decide) (by decide) rfl rfl (Nat.le_of_ble_eq_true rfl) dX8_risk_5 (fun r_1 τ_2 h_3 => ?_)
  obtain ⟨eh_3, h_3⟩ := h_3
  obtain rfl := eh_3.symm
  refine r_if_ne C 13 dX8_risk_8 (by decide) (fun c_4 => ?_) (fun c_4 => ?_)
  · -- to 13
    refine r_aload_n C 0 dX8_risk_13 rfl rfl ?_
    refine r_get C (k := 0) (v := .ref (ad 9)) f_X8_25 (by decide) rfl rfl dX8_risk_14 ?_
    refine r_aload_n C 0 dX8_risk_17 rfl rfl ?_
    refine r_get C (k := 0) (v := .int (σ 0 8)) f_X8_57 (by decide) rfl rfl dX8_risk_18 ?_
    refine r_callV C (k := 9) [.int (σ 0 8)] [] (c_X6_doubledAt E ad σ  (σ 0 8) hI) lv_X8_114 (by decide) rfl rfl (by decide) (by decide) rfl rfl (Nat.le_of_ble_eq_true rfl) dX8_risk_21 (fun r_5 τ_6 h_7 => ?_)
    obtain ⟨eh_7, h_7⟩ := h_7
    obtain rfl := eh_7.symm
    refine r_istore_n C [(2, .int (r_5)), (0, .ref (ad 0)), (1, .int (p))] dX8_risk_24 rfl (by decide) rfl ?_
    refine r_aload_n C 1 dX8_risk_25 rfl rfl ?_
    refine r_get C (k := 0) (v := .ref (ad 1)) f_X8_10 (by decide) rfl rfl dX8_risk_26 ?_
    refine r_callV C (k := 1) [] [] (c_X5_closedNow E ad σ   hI) lv_X8_90 (by decide) rfl rfl (by decide) (by decide) rfl rfl (Nat.le_of_ble_eq_true rfl) dX8_risk_29 (fun r_8 τ_9 h_10 => ?_)
    obtain ⟨eh_10, h_10⟩ := h_10
    obtain rfl := eh_10.symm
    refine r_iconst C (1) dX8_risk_32 (by decide) ?_
    refine r_iload_n C 2 dX8_risk_33 rfl rfl ?_
    refine r_ishl C dX8_risk_34 ?_
    refine r_nm (P := fun z => z = (1 : Int32) <<< ((p : Int32) &&& 31)) rfl (fun z_11 hz_12 => ?_)
    refine r_iconst C (-1) dX8_risk_35 (by decide) ?_
    refine r_ixor C dX8_risk_36 ?_
    refine r_nm (P := fun z => z = (z_11 : Int32) ^^^ ((-1))) rfl (fun z_13 hz_14 => ?_)
    refine r_iand C dX8_risk_37 ?_
    refine r_nm (P := fun z => z = (r_8 : Int32) &&& (z_13)) rfl (fun z_15 hz_16 => ?_)
    refine r_istore_n C [(3, .int (z_15)), (2, .int (r_5)), (0, .ref (ad 0)), (1, .int (p))] dX8_risk_38 rfl (by decide) rfl ?_
    refine r_iconst C (0) dX8_risk_39 (by decide) ?_
    refine r_istore C [(4, .int (0)), (3, .int (z_15)), (2, .int (r_5)), (0, .ref (ad 0)), (1, .int (p))] dX8_risk_40 (by decide) rfl ?_
    refine r_iconst C (0) dX8_risk_42 (by decide) ?_
    refine r_istore C [(5, .int (0)), (4, .int (0)), (3, .int (z_15)), (2, .int (r_5)), (0, .ref (ad 0)), (1, .int (p))] dX8_risk_43 (by decide) rfl ?_
    have L_45 : ∀ (n : Nat), ∀ (a : Int32) (i : Int32), (0 ≤ i.toInt ∧ i.toInt ≤ 7) → 7 - i.toInt < (n : Int) → At E ad G 7 45 [(5, .int (i)), (4, .int (a)), (3, .int (z_15)), (2, .int (r_5)), (0, .ref (ad 0)), (1, .int (p))] [] σ := by
      intro n
      induction n with
      | zero =>
        intro a i hi hm
        exact absurd hm (by omega)
      | succ n ih =>
        intro a i hi hm
        have ih_45 := ih
        clear ih
        refine r_iload C 0 dX8_risk_45 rfl ?_
        refine r_aload_n C 4 dX8_risk_47 rfl rfl ?_
        refine r_get C (k := 0) (v := .ref (ad 16)) f_X8_30 (by decide) rfl rfl dX8_risk_48 ?_
        refine r_get C (k := 16) (v := .int (σ 16 8)) f_X8_179 (by decide) rfl rfl dX8_risk_51 ?_
        refine r_icmp_ge C 127 dX8_risk_54 (by decide) (fun c_17 => ?_) (fun c_17 => ?_)
        · -- to 127
          refine r_iload C 1 dX8_risk_127 rfl ?_
          exact r_iret C T dX8_risk_129 (⟨rfl, fun h => by first | exact k_m1 | exact absurd h (by omega)⟩)
        · -- to 57
          have L_121 : ∀ (c : Int32), At E ad G 7 121 [(5, .int (i)), (4, .int (c)), (3, .int (z_15)), (2, .int (r_5)), (0, .ref (ad 0)), (1, .int (p))] [] σ := by
            intro c
            refine r_iinc C 0 (fun z => [(5, .int (z)), (4, .int (c)), (3, .int (z_15)), (2, .int (r_5)), (0, .ref (ad 0)), (1, .int (p))]) dX8_risk_121 rfl (by decide) (by decide) (by omega) (fun _ => rfl) (fun z_18 hz_19 => ?_)
            refine r_goto C 45 dX8_risk_124 (by decide) ?_
            exact At.sub [0, 1, 2, 3, 4, 5] rfl (ih_45 (c : Int32) (z_18 : Int32) (by omega) (by omega))
          have L_76 : ∀ (b : Int32), At E ad G 7 76 [(5, .int (i)), (4, .int (a)), (3, .int (z_15)), (2, .int (r_5)), (0, .ref (ad 0)), (1, .int (p))] [.int (b)] σ := by
            intro b
            refine r_istore C [(6, .int (b)), (5, .int (i)), (4, .int (a)), (3, .int (z_15)), (2, .int (r_5)), (0, .ref (ad 0)), (1, .int (p))] dX8_risk_76 (by decide) rfl ?_
            refine r_iload C 0 dX8_risk_78 rfl ?_
            refine r_if_eq C 121 dX8_risk_80 (by decide) (fun c_20 => ?_) (fun c_20 => ?_)
            · -- to 121
              exact At.sub [1, 2, 3, 4, 5, 6] rfl (L_121 (a : Int32) )
            · -- to 83
              refine r_aload_n C 5 dX8_risk_83 rfl rfl ?_
              refine r_get C (k := 0) (v := .ref (ad 2)) f_X8_20 (by decide) rfl rfl dX8_risk_84 ?_
              refine r_aload_n C 5 dX8_risk_87 rfl rfl ?_
              refine r_get C (k := 0) (v := .ref (ad 16)) f_X8_30 (by decide) rfl rfl dX8_risk_88 ?_
              refine r_get C (k := 16) (v := .ref (ad 17)) f_X8_219 (by decide) rfl rfl dX8_risk_91 ?_
              refine r_iload C 1 dX8_risk_94 rfl ?_
              refine r_iald C (k := 17) (by decide) rfl (by omega) (σ 17 ((i : Int32).toInt.toNat)) rfl dX8_risk_96 ?_
              refine r_iload_n C 3 dX8_risk_97 rfl rfl ?_
              refine r_aload_n C 5 dX8_risk_98 rfl rfl ?_
              refine r_get C (k := 0) (v := .ref (ad 2)) f_X8_20 (by decide) rfl rfl dX8_risk_99 ?_
              refine r_callV C (k := 2) [] [.int (z_15), .int (σ 17 ((i : Int32).toInt.toNat)), .ref (ad 2)] (c_X2_allPipes E ad σ   ) lv_X8_111 (by decide) rfl rfl (by decide) (by decide) rfl rfl (Nat.le_of_ble_eq_true rfl) dX8_risk_102 (fun r_22 τ_23 h_24 => ?_)
              obtain ⟨eh_24, h_24⟩ := h_24
              obtain rfl := eh_24.symm
              refine r_iload_n C 4 dX8_risk_105 rfl rfl ?_
              refine r_callV C (k := 2) [.int (σ 17 ((i : Int32).toInt.toNat)), .int (z_15), .int (r_22), .int (r_5)] [] (c_X2_isSafe E ad σ  (σ 17 ((i : Int32).toInt.toNat)) (z_15) (r_22) (r_5) hI) lv_X8_119 (by decide) rfl rfl (by decide) (by decide) rfl rfl (Nat.le_of_ble_eq_true rfl) dX8_risk_106 (fun r_25 τ_26 h_27 => ?_)
              obtain ⟨eh_27, h_27⟩ := h_27
              obtain rfl := eh_27.symm
              refine r_if_ne C 121 dX8_risk_109 (by decide) (fun c_28 => ?_) (fun c_28 => ?_)
              · -- to 121
                exact At.sub [1, 2, 3, 4, 5, 6] rfl (L_121 (a : Int32) )
              · -- to 112
                refine r_iload C 2 dX8_risk_112 rfl ?_
                refine r_iconst C (1) dX8_risk_114 (by decide) ?_
                refine r_iload C 1 dX8_risk_115 rfl ?_
                refine r_ishl C dX8_risk_117 ?_
                refine r_nm (P := fun z => z = (1 : Int32) <<< ((i : Int32) &&& 31)) rfl (fun z_29 hz_30 => ?_)
                refine r_ior C dX8_risk_118 ?_
                refine r_nm (P := fun z => z = (a : Int32) ||| (z_29)) rfl (fun z_31 hz_32 => ?_)
                refine r_istore C [(4, .int (z_31)), (6, .int (b)), (5, .int (i)), (3, .int (z_15)), (2, .int (r_5)), (0, .ref (ad 0)), (1, .int (p))] dX8_risk_119 (by decide) rfl ?_
                exact At.sub [2, 0, 3, 4, 5, 6] rfl (L_121 (z_31 : Int32) )
          refine r_aload_n C 4 dX8_risk_57 rfl rfl ?_
          refine r_get C (k := 0) (v := .ref (ad 16)) f_X8_30 (by decide) rfl rfl dX8_risk_58 ?_
          refine r_get C (k := 16) (v := .ref (ad 20)) f_X8_186 (by decide) rfl rfl dX8_risk_61 ?_
          refine r_iload C 0 dX8_risk_64 rfl ?_
          refine r_iald C (k := 20) (by decide) rfl (by omega) (σ 20 ((i : Int32).toInt.toNat)) rfl dX8_risk_66 ?_
          refine r_iconst C (3) dX8_risk_67 (by decide) ?_
          refine r_icmp_ne C 75 dX8_risk_68 (by decide) (fun c_34 => ?_) (fun c_34 => ?_)
          · -- to 75
            refine r_iconst C (0) dX8_risk_75 (by decide) ?_
            exact At.sub [0, 1, 2, 3, 4, 5] rfl (L_76 (0 : Int32) )
          · -- to 71
            refine r_iconst C (1) dX8_risk_71 (by decide) ?_
            refine r_goto C 76 dX8_risk_72 (by decide) ?_
            exact At.sub [0, 1, 2, 3, 4, 5] rfl (L_76 (1 : Int32) )
    exact At.sub [0, 1, 2, 3, 4, 5] rfl (L_45 ((7 - (0 : Int32).toInt).toNat + 1) (0 : Int32) (0 : Int32) (by omega) (by omega))
  · -- to 11
    refine r_iconst C (-1) dX8_risk_11 (by decide) ?_
    exact r_iret C T dX8_risk_12 (⟨rfl, fun h => by first | exact k_m1 | exact absurd h (by omega)⟩)
set_option maxHeartbeats 4000000 in
set_option maxRecDepth 100000 in
theorem c_X8_right (E : Ev) (ad : Nat → Nat) (σ : Sg) (p : Int32) (q : Int32) (u : Int32) (hI : IC σ) : Ct E ad yX8_right cX8_right 6 (some .int) 3 [.ref (ad 0), .int p, .int q, .int u] σ (fun r τ => τ = σ ∧ ((σ 16 8).toInt = 0 → r.toInt = -1)) := by
  have k_m1 : (-1 : Int32).toInt = -1 := by decide
  have k_0 : (0 : Int32).toInt = 0 := by decide
  have k_1 : (1 : Int32).toInt = 1 := by decide
  have k_2 : (2 : Int32).toInt = 2 := by decide
  have k_3 : (3 : Int32).toInt = 3 := by decide
  have hJ := hI
  unfold IC at hJ
  refine ct_of RX8 rfl (by decide +kernel) [(0, .ref (ad 0)), (1, .int (p)), (2, .int (q)), (3, .int (u))] rfl (Nat.le_of_ble_eq_true rfl) (fun G C T => ?_)
  refine r_aload_n C 0 dX8_right_0 rfl rfl ?_
  refine r_get C (k := 0) (v := .ref (ad 16)) f_X8_30 (by decide) rfl rfl dX8_right_1 ?_
  refine r_iload_n C 1 dX8_right_4 rfl rfl ?_
  refine r_callV C (k := 16) [.int (p)] [] (c_X3_has E ad σ  (p) ) lv_X8_182 (by decide) rfl rfl (by decide) (by decide) rfl rfl (Nat.le_of_ble_eq_true rfl) dX8_right_5 (fun r_1 τ_2 h_3 => ?_)
  obtain ⟨eh_3, h_3⟩ := h_3
  obtain rfl := eh_3.symm
  refine r_if_eq C 27 dX8_right_8 (by decide) (fun c_4 => ?_) (fun c_4 => ?_)
  · -- to 27
    refine r_iconst C (-1) dX8_right_27 (by decide) ?_
    exact r_iret C T dX8_right_28 (⟨rfl, fun h => by first | exact k_m1 | exact absurd h (by omega)⟩)
  · -- to 11
    refine r_aload_n C 0 dX8_right_11 rfl rfl ?_
    refine r_iload_n C 2 dX8_right_12 rfl rfl ?_
    refine r_callV C (k := 0) [.int (q)] [] (c_X8_isPast E ad σ  (q) hI) lv_X8_266 (by decide) rfl rfl (by decide) (by decide) rfl rfl (Nat.le_of_ble_eq_true rfl) dX8_right_13 (fun r_5 τ_6 h_7 => ?_)
    obtain ⟨eh_7, h_7⟩ := h_7
    obtain rfl := eh_7.symm
    refine r_if_eq C 27 dX8_right_16 (by decide) (fun c_8 => ?_) (fun c_8 => ?_)
    · -- to 27
      refine r_iconst C (-1) dX8_right_27 (by decide) ?_
      exact r_iret C T dX8_right_28 (⟨rfl, fun h => by first | exact k_m1 | exact absurd h (by omega)⟩)
    · -- to 19
      refine r_aload_n C 0 dX8_right_19 rfl rfl ?_
      refine r_iload_n C 3 dX8_right_20 rfl rfl ?_
      refine r_callV C (k := 0) [.int (u)] [] (c_X8_isPast E ad σ  (u) hI) lv_X8_266 (by decide) rfl rfl (by decide) (by decide) rfl rfl (Nat.le_of_ble_eq_true rfl) dX8_right_21 (fun r_9 τ_10 h_11 => ?_)
      obtain ⟨eh_11, h_11⟩ := h_11
      obtain rfl := eh_11.symm
      refine r_if_ne C 29 dX8_right_24 (by decide) (fun c_12 => ?_) (fun c_12 => ?_)
      · -- to 29
        have L_57 : ∀ (a : Int32), At E ad G 6 57 [(0, .ref (ad 0)), (1, .int (p)), (2, .int (q)), (3, .int (u))] [.int (a)] σ := by
          intro a
          refine r_istore C [(4, .int (a)), (0, .ref (ad 0)), (1, .int (p)), (2, .int (q)), (3, .int (u))] dX8_right_57 (by decide) rfl ?_
          refine r_iload C 0 dX8_right_59 rfl ?_
          refine r_iload_n C 2 dX8_right_61 rfl rfl ?_
          refine r_ishr C dX8_right_62 ?_
          refine r_nm (P := fun z => z = (a : Int32) >>> ((p : Int32) &&& 31)) rfl (fun z_13 hz_14 => ?_)
          refine r_iconst C (1) dX8_right_63 (by decide) ?_
          refine r_iand C dX8_right_64 ?_
          refine r_nm (P := fun z => z = (z_13 : Int32) &&& (1)) rfl (fun z_15 hz_16 => ?_)
          refine r_if_ne C 70 dX8_right_65 (by decide) (fun c_17 => ?_) (fun c_17 => ?_)
          · -- to 70
            have L_97 : ∀ (b : Int32), At E ad G 6 97 [(4, .int (a)), (0, .ref (ad 0)), (1, .int (p)), (2, .int (q)), (3, .int (u))] [.int (b)] σ := by
              intro b
              refine r_istore C [(5, .int (b)), (4, .int (a)), (0, .ref (ad 0)), (1, .int (p)), (2, .int (q)), (3, .int (u))] dX8_right_97 (by decide) rfl ?_
              refine r_aload_n C 2 dX8_right_99 rfl rfl ?_
              refine r_get C (k := 0) (v := .ref (ad 2)) f_X8_20 (by decide) rfl rfl dX8_right_100 ?_
              refine r_aload_n C 2 dX8_right_103 rfl rfl ?_
              refine r_get C (k := 0) (v := .ref (ad 16)) f_X8_30 (by decide) rfl rfl dX8_right_104 ?_
              refine r_get C (k := 16) (v := .ref (ad 17)) f_X8_219 (by decide) rfl rfl dX8_right_107 ?_
              refine r_iload_n C 3 dX8_right_110 rfl rfl ?_
              refine r_iald C (k := 17) (by decide) rfl (by omega) (σ 17 ((p : Int32).toInt.toNat)) rfl dX8_right_111 ?_
              refine r_iload C 0 dX8_right_112 rfl ?_
              refine r_aload_n C 2 dX8_right_114 rfl rfl ?_
              refine r_get C (k := 0) (v := .ref (ad 2)) f_X8_20 (by decide) rfl rfl dX8_right_115 ?_
              refine r_iload_n C 5 dX8_right_118 rfl rfl ?_
              refine r_callV C (k := 2) [.int (u)] [.int (b), .int (σ 17 ((p : Int32).toInt.toNat)), .ref (ad 2)] (c_X2_knownAt E ad σ  (u) hI) lv_X8_275 (by decide) rfl rfl (by decide) (by decide) rfl rfl (Nat.le_of_ble_eq_true rfl) dX8_right_119 (fun r_19 τ_20 h_21 => ?_)
              obtain ⟨eh_21, h_21⟩ := h_21
              obtain rfl := eh_21.symm
              refine r_aload_n C 2 dX8_right_122 rfl rfl ?_
              refine r_get C (k := 0) (v := .ref (ad 9)) f_X8_25 (by decide) rfl rfl dX8_right_123 ?_
              refine r_iload_n C 4 dX8_right_126 rfl rfl ?_
              refine r_callV C (k := 9) [.int (q)] [.int (r_19), .int (b), .int (σ 17 ((p : Int32).toInt.toNat)), .ref (ad 2)] (c_X6_doubledAt E ad σ  (q) hI) lv_X8_114 (by decide) rfl rfl (by decide) (by decide) rfl rfl (Nat.le_of_ble_eq_true rfl) dX8_right_127 (fun r_22 τ_23 h_24 => ?_)
              obtain ⟨eh_24, h_24⟩ := h_24
              obtain rfl := eh_24.symm
              refine r_callV C (k := 2) [.int (σ 17 ((p : Int32).toInt.toNat)), .int (b), .int (r_19), .int (r_22)] [] (c_X2_isSafe E ad σ  (σ 17 ((p : Int32).toInt.toNat)) (b) (r_19) (r_22) hI) lv_X8_119 (by decide) rfl rfl (by decide) (by decide) rfl rfl (Nat.le_of_ble_eq_true rfl) dX8_right_130 (fun r_25 τ_26 h_27 => ?_)
              obtain ⟨eh_27, h_27⟩ := h_27
              obtain rfl := eh_27.symm
              refine r_if_eq C 140 dX8_right_133 (by decide) (fun c_28 => ?_) (fun c_28 => ?_)
              · -- to 140
                refine r_iconst C (0) dX8_right_140 (by decide) ?_
                exact r_iret C T dX8_right_141 (⟨rfl, fun h => by first | exact k_m1 | exact absurd h (by omega)⟩)
              · -- to 136
                refine r_iconst C (1) dX8_right_136 (by decide) ?_
                refine r_goto C 141 dX8_right_137 (by decide) ?_
                exact r_iret C T dX8_right_141 (⟨rfl, fun h => by first | exact k_m1 | exact absurd h (by omega)⟩)
            refine r_iload_n C 3 dX8_right_70 rfl rfl ?_
            refine r_aload_n C 1 dX8_right_71 rfl rfl ?_
            refine r_get C (k := 0) (v := .int (σ 0 8)) f_X8_57 (by decide) rfl rfl dX8_right_72 ?_
            refine r_icmp_ne C 88 dX8_right_75 (by decide) (fun c_29 => ?_) (fun c_29 => ?_)
            · -- to 88
              refine r_aload_n C 1 dX8_right_88 rfl rfl ?_
              refine r_get C (k := 0) (v := .ref (ad 29)) f_X8_46 (by decide) rfl rfl dX8_right_89 ?_
              refine r_get C (k := 29) (v := .ref (ad 30)) f_X8_272 (by decide) rfl rfl dX8_right_92 ?_
              refine r_iload_n C 3 dX8_right_95 rfl rfl ?_
              refine r_iald C (k := 30) (by decide) rfl (by omega) (σ 30 ((q : Int32).toInt.toNat)) rfl dX8_right_96 ?_
              exact At.sub [0, 1, 2, 3, 4] rfl (L_97 (σ 30 ((q : Int32).toInt.toNat) : Int32) )
            · -- to 78
              refine r_aload_n C 1 dX8_right_78 rfl rfl ?_
              refine r_get C (k := 0) (v := .ref (ad 1)) f_X8_10 (by decide) rfl rfl dX8_right_79 ?_
              refine r_callV C (k := 1) [] [] (c_X5_closedNow E ad σ   hI) lv_X8_90 (by decide) rfl rfl (by decide) (by decide) rfl rfl (Nat.le_of_ble_eq_true rfl) dX8_right_82 (fun r_31 τ_32 h_33 => ?_)
              obtain ⟨eh_33, h_33⟩ := h_33
              obtain rfl := eh_33.symm
              refine r_goto C 97 dX8_right_85 (by decide) ?_
              exact At.sub [0, 1, 2, 3, 4] rfl (L_97 (r_31 : Int32) )
          · -- to 68
            refine r_iconst C (2) dX8_right_68 (by decide) ?_
            exact r_iret C T dX8_right_69 (⟨rfl, fun h => by first | exact k_m1 | exact absurd h (by omega)⟩)
        refine r_iload_n C 2 dX8_right_29 rfl rfl ?_
        refine r_aload_n C 0 dX8_right_30 rfl rfl ?_
        refine r_get C (k := 0) (v := .int (σ 0 8)) f_X8_57 (by decide) rfl rfl dX8_right_31 ?_
        refine r_icmp_ne C 48 dX8_right_34 (by decide) (fun c_34 => ?_) (fun c_34 => ?_)
        · -- to 48
          refine r_aload_n C 0 dX8_right_48 rfl rfl ?_
          refine r_get C (k := 0) (v := .ref (ad 29)) f_X8_46 (by decide) rfl rfl dX8_right_49 ?_
          refine r_get C (k := 29) (v := .ref (ad 31)) f_X8_269 (by decide) rfl rfl dX8_right_52 ?_
          refine r_iload_n C 2 dX8_right_55 rfl rfl ?_
          refine r_iald C (k := 31) (by decide) rfl (by omega) (σ 31 ((q : Int32).toInt.toNat)) rfl dX8_right_56 ?_
          exact At.sub [0, 1, 2, 3] rfl (L_57 (σ 31 ((q : Int32).toInt.toNat) : Int32) )
        · -- to 37
          refine r_aload_n C 0 dX8_right_37 rfl rfl ?_
          refine r_get C (k := 0) (v := .ref (ad 16)) f_X8_30 (by decide) rfl rfl dX8_right_38 ?_
          refine r_iconst C (3) dX8_right_41 (by decide) ?_
          refine r_callV C (k := 16) [.int (3)] [] (c_X3_inState E ad σ  (3) hI) lv_X8_131 (by decide) rfl rfl (by decide) (by decide) rfl rfl (Nat.le_of_ble_eq_true rfl) dX8_right_42 (fun r_36 τ_37 h_38 => ?_)
          obtain ⟨eh_38, h_38⟩ := h_38
          obtain rfl := eh_38.symm
          refine r_goto C 57 dX8_right_45 (by decide) ?_
          exact At.sub [0, 1, 2, 3] rfl (L_57 (r_36 : Int32) )
      · -- to 27
        refine r_iconst C (-1) dX8_right_27 (by decide) ?_
        exact r_iret C T dX8_right_28 (⟨rfl, fun h => by first | exact k_m1 | exact absurd h (by omega)⟩)
set_option maxHeartbeats 4000000 in
set_option maxRecDepth 100000 in
theorem c_X8_order (E : Ev) (ad : Nat → Nat) (σ : Sg)  (hI : IC σ) : Ct E ad yX8_order cX8_order 1 (some .int) 5 [.ref (ad 0)] σ (fun r τ => Off [32, 33, 34, 35, 36, 37, 38] σ τ ∧ (0 ≤ (τ 32 3).toInt ∧ (τ 32 3).toInt ≤ 7) ∧ (0 ≤ (τ 32 5).toInt ∧ (τ 32 5).toInt ≤ 28) ∧ ((σ 16 8).toInt = 0 → r.toInt = 0)) := by
  have hJ := hI
  unfold IC at hJ
  refine ct_of RX8 rfl (by decide +kernel) [(0, .ref (ad 0))] rfl (Nat.le_of_ble_eq_true rfl) (fun G C T => ?_)
  refine r_aload_n C 0 dX8_order_0 rfl rfl ?_
  refine r_get C (k := 0) (v := .ref (ad 32)) f_X8_53 (by decide) rfl rfl dX8_order_1 ?_
  refine r_aload_n C 0 dX8_order_4 rfl rfl ?_
  refine r_get C (k := 0) (v := .ref (ad 16)) f_X8_30 (by decide) rfl rfl dX8_order_5 ?_
  refine r_aload_n C 0 dX8_order_8 rfl rfl ?_
  refine r_get C (k := 0) (v := .ref (ad 1)) f_X8_10 (by decide) rfl rfl dX8_order_9 ?_
  refine r_callV C (k := 1) [] [.ref (ad 16), .ref (ad 32)] (c_X5_closedNow E ad σ   hI) lv_X8_90 (by decide) rfl rfl (by decide) (by decide) rfl rfl (Nat.le_of_ble_eq_true rfl) dX8_order_12 (fun r_1 τ_2 h_3 => ?_)
  obtain ⟨eh_3, h_3⟩ := h_3
  obtain rfl := eh_3.symm
  refine r_callV C (k := 32) [.ref (ad 16), .int (r_1)] [] (c_X4_tell E ad σ  (r_1) hI) lv_X8_278 (by decide) rfl rfl (by decide) (by decide) rfl rfl (Nat.le_of_ble_eq_true rfl) dX8_order_15 (fun r_4 τ_5 h_6 => ?_)
  exact r_iret C T dX8_order_18 (h_6)
set_option maxHeartbeats 4000000 in
set_option maxRecDepth 100000 in
theorem c_X8_ordered (E : Ev) (ad : Nat → Nat) (σ : Sg) (p : Int32) (hI : IC σ) : Ct E ad yX8_ordered cX8_ordered 2 (some .int) 0 [.ref (ad 0), .int p] σ (fun r τ => τ = σ ∧ ((σ 32 3).toInt = 0 → r.toInt = -3)) := by
  have k_m3 : (-3 : Int32).toInt = -3 := by decide
  have hJ := hI
  unfold IC at hJ
  refine ct_of RX8 rfl (by decide +kernel) [(0, .ref (ad 0)), (1, .int (p))] rfl (Nat.le_of_ble_eq_true rfl) (fun G C T => ?_)
  refine r_iload_n C 1 dX8_ordered_0 rfl rfl ?_
  refine r_if_lt C 15 dX8_ordered_1 (by decide) (fun c_1 => ?_) (fun c_1 => ?_)
  · -- to 15
    refine r_bipush C (-3) dX8_ordered_15 (by decide) ?_
    exact r_iret C T dX8_ordered_17 (⟨rfl, fun h => by first | exact k_m3 | exact absurd h (by omega)⟩)
  · -- to 4
    refine r_iload_n C 1 dX8_ordered_4 rfl rfl ?_
    refine r_aload_n C 0 dX8_ordered_5 rfl rfl ?_
    refine r_get C (k := 0) (v := .ref (ad 32)) f_X8_53 (by decide) rfl rfl dX8_ordered_6 ?_
    refine r_get C (k := 32) (v := .int (σ 32 3)) f_X8_282 (by decide) rfl rfl dX8_ordered_9 ?_
    refine r_icmp_lt C 18 dX8_ordered_12 (by decide) (fun c_2 => ?_) (fun c_2 => ?_)
    · -- to 18
      refine r_aload_n C 0 dX8_ordered_18 rfl rfl ?_
      refine r_get C (k := 0) (v := .ref (ad 32)) f_X8_53 (by decide) rfl rfl dX8_ordered_19 ?_
      refine r_get C (k := 32) (v := .ref (ad 33)) f_X8_285 (by decide) rfl rfl dX8_ordered_22 ?_
      refine r_iload_n C 1 dX8_ordered_25 rfl rfl ?_
      refine r_iald C (k := 33) (by decide) rfl (by omega) (σ 33 ((p : Int32).toInt.toNat)) rfl dX8_ordered_26 ?_
      exact r_iret C T dX8_ordered_27 (⟨rfl, fun h => by first | exact k_m3 | exact absurd h (by omega)⟩)
    · -- to 15
      refine r_bipush C (-3) dX8_ordered_15 (by decide) ?_
      exact r_iret C T dX8_ordered_17 (⟨rfl, fun h => by first | exact k_m3 | exact absurd h (by omega)⟩)
set_option maxHeartbeats 4000000 in
set_option maxRecDepth 100000 in
theorem c_X8_row (E : Ev) (ad : Nat → Nat) (σ : Sg) (p : Int32) (q : Int32) (hI : IC σ) : Ct E ad yX8_row cX8_row 3 (some .int) 0 [.ref (ad 0), .int p, .int q] σ (fun r τ => τ = σ ∧ (¬ (0 ≤ q.toInt ∧ q.toInt < 3) → r.toInt = -1) ∧ ((σ 32 5).toInt = 0 → 0 ≤ q.toInt ∧ q.toInt < 3 → r.toInt = -3)) := by
  have k_m3 : (-3 : Int32).toInt = -3 := by decide
  have k_m1 : (-1 : Int32).toInt = -1 := by decide
  have k_3 : (3 : Int32).toInt = 3 := by decide
  have hJ := hI
  unfold IC at hJ
  refine ct_of RX8 rfl (by decide +kernel) [(0, .ref (ad 0)), (1, .int (p)), (2, .int (q))] rfl (Nat.le_of_ble_eq_true rfl) (fun G C T => ?_)
  refine r_iload_n C 2 dX8_row_0 rfl rfl ?_
  refine r_if_lt C 9 dX8_row_1 (by decide) (fun c_1 => ?_) (fun c_1 => ?_)
  · -- to 9
    refine r_iconst C (-1) dX8_row_9 (by decide) ?_
    exact r_iret C T dX8_row_10 (⟨rfl, fun _ => k_m1, fun _ h => absurd h (by omega)⟩)
  · -- to 4
    refine r_iload_n C 2 dX8_row_4 rfl rfl ?_
    refine r_iconst C (3) dX8_row_5 (by decide) ?_
    refine r_icmp_lt C 11 dX8_row_6 (by decide) (fun c_2 => ?_) (fun c_2 => ?_)
    · -- to 11
      refine r_iload_n C 1 dX8_row_11 rfl rfl ?_
      refine r_if_lt C 26 dX8_row_12 (by decide) (fun c_3 => ?_) (fun c_3 => ?_)
      · -- to 26
        refine r_bipush C (-3) dX8_row_26 (by decide) ?_
        exact r_iret C T dX8_row_28 (⟨rfl, fun h => absurd h (by omega), fun _ _ => k_m3⟩)
      · -- to 15
        refine r_iload_n C 1 dX8_row_15 rfl rfl ?_
        refine r_aload_n C 0 dX8_row_16 rfl rfl ?_
        refine r_get C (k := 0) (v := .ref (ad 32)) f_X8_53 (by decide) rfl rfl dX8_row_17 ?_
        refine r_get C (k := 32) (v := .int (σ 32 5)) f_X8_288 (by decide) rfl rfl dX8_row_20 ?_
        refine r_icmp_lt C 29 dX8_row_23 (by decide) (fun c_4 => ?_) (fun c_4 => ?_)
        · -- to 29
          refine r_aload_n C 0 dX8_row_29 rfl rfl ?_
          refine r_get C (k := 0) (v := .ref (ad 32)) f_X8_53 (by decide) rfl rfl dX8_row_30 ?_
          refine r_get C (k := 32) (v := .ref (ad 35)) f_X8_291 (by decide) rfl rfl dX8_row_33 ?_
          refine r_iload_n C 1 dX8_row_36 rfl rfl ?_
          refine r_iconst C (3) dX8_row_37 (by decide) ?_
          refine r_imul C dX8_row_38 ?_
          refine r_nm (P := fun z => z.toInt = 3 * (p : Int32).toInt ∧ z = (p) * (3)) ⟨ta_mulR k_3 (by omega), rfl⟩ (fun z_5 hz_6 => ?_)
          refine r_iload_n C 2 dX8_row_39 rfl rfl ?_
          refine r_iadd C dX8_row_40 ?_
          refine r_nm (P := fun z => z.toInt = (z_5 : Int32).toInt + (q : Int32).toInt ∧ z = (z_5) + (q)) ⟨ta_add (by omega), rfl⟩ (fun z_7 hz_8 => ?_)
          refine r_iald C (k := 35) (by decide) rfl (by omega) (σ 35 ((z_7 : Int32).toInt.toNat)) rfl dX8_row_41 ?_
          exact r_iret C T dX8_row_42 (⟨rfl, fun h => absurd h (by omega), fun h => absurd h (by omega)⟩)
        · -- to 26
          refine r_bipush C (-3) dX8_row_26 (by decide) ?_
          exact r_iret C T dX8_row_28 (⟨rfl, fun h => absurd h (by omega), fun _ _ => k_m3⟩)
    · -- to 9
      refine r_iconst C (-1) dX8_row_9 (by decide) ?_
      exact r_iret C T dX8_row_10 (⟨rfl, fun _ => k_m1, fun _ h => absurd h (by omega)⟩)
set_option maxHeartbeats 4000000 in
set_option maxRecDepth 100000 in
theorem c_X8_alter (E : Ev) (ad : Nat → Nat) (σ : Sg) (p : Int32) (q : Int32) (u : Int32) (hI : IC σ) : Ct E ad yX8_alter cX8_alter 5 (some .int) 0 [.ref (ad 0), .int p, .int q, .int u] σ (fun r τ => Off [35] σ τ ∧ (¬ (0 ≤ q.toInt ∧ q.toInt < 3) → r.toInt = -1) ∧ ((σ 32 5).toInt = 0 → 0 ≤ q.toInt ∧ q.toInt < 3 → r.toInt = -3)) := by
  have k_m3 : (-3 : Int32).toInt = -3 := by decide
  have k_m1 : (-1 : Int32).toInt = -1 := by decide
  have k_3 : (3 : Int32).toInt = 3 := by decide
  have hJ := hI
  unfold IC at hJ
  refine ct_of RX8 rfl (by decide +kernel) [(0, .ref (ad 0)), (1, .int (p)), (2, .int (q)), (3, .int (u))] rfl (Nat.le_of_ble_eq_true rfl) (fun G C T => ?_)
  refine r_iload_n C 2 dX8_alter_0 rfl rfl ?_
  refine r_if_lt C 9 dX8_alter_1 (by decide) (fun c_1 => ?_) (fun c_1 => ?_)
  · -- to 9
    refine r_iconst C (-1) dX8_alter_9 (by decide) ?_
    exact r_iret C T dX8_alter_10 (⟨Off.rf, fun _ => k_m1, fun _ h => absurd h (by omega)⟩)
  · -- to 4
    refine r_iload_n C 2 dX8_alter_4 rfl rfl ?_
    refine r_iconst C (3) dX8_alter_5 (by decide) ?_
    refine r_icmp_lt C 11 dX8_alter_6 (by decide) (fun c_2 => ?_) (fun c_2 => ?_)
    · -- to 11
      refine r_iload_n C 1 dX8_alter_11 rfl rfl ?_
      refine r_if_lt C 26 dX8_alter_12 (by decide) (fun c_3 => ?_) (fun c_3 => ?_)
      · -- to 26
        refine r_bipush C (-3) dX8_alter_26 (by decide) ?_
        exact r_iret C T dX8_alter_28 (⟨Off.rf, fun h => absurd h (by omega), fun _ _ => k_m3⟩)
      · -- to 15
        refine r_iload_n C 1 dX8_alter_15 rfl rfl ?_
        refine r_aload_n C 0 dX8_alter_16 rfl rfl ?_
        refine r_get C (k := 0) (v := .ref (ad 32)) f_X8_53 (by decide) rfl rfl dX8_alter_17 ?_
        refine r_get C (k := 32) (v := .int (σ 32 5)) f_X8_288 (by decide) rfl rfl dX8_alter_20 ?_
        refine r_icmp_lt C 29 dX8_alter_23 (by decide) (fun c_4 => ?_) (fun c_4 => ?_)
        · -- to 29
          refine r_aload_n C 0 dX8_alter_29 rfl rfl ?_
          refine r_get C (k := 0) (v := .ref (ad 32)) f_X8_53 (by decide) rfl rfl dX8_alter_30 ?_
          refine r_get C (k := 32) (v := .ref (ad 35)) f_X8_291 (by decide) rfl rfl dX8_alter_33 ?_
          refine r_iload_n C 1 dX8_alter_36 rfl rfl ?_
          refine r_iconst C (3) dX8_alter_37 (by decide) ?_
          refine r_imul C dX8_alter_38 ?_
          refine r_nm (P := fun z => z.toInt = 3 * (p : Int32).toInt ∧ z = (p) * (3)) ⟨ta_mulR k_3 (by omega), rfl⟩ (fun z_5 hz_6 => ?_)
          refine r_iload_n C 2 dX8_alter_39 rfl rfl ?_
          refine r_iadd C dX8_alter_40 ?_
          refine r_nm (P := fun z => z.toInt = (z_5 : Int32).toInt + (q : Int32).toInt ∧ z = (z_5) + (q)) ⟨ta_add (by omega), rfl⟩ (fun z_7 hz_8 => ?_)
          refine r_iald C (k := 35) (by decide) rfl (by omega) (σ 35 ((z_7 : Int32).toInt.toNat)) rfl dX8_alter_41 ?_
          refine r_istore C [(4, .int (σ 35 ((z_7 : Int32).toInt.toNat))), (0, .ref (ad 0)), (1, .int (p)), (2, .int (q)), (3, .int (u))] dX8_alter_42 (by decide) rfl ?_
          refine r_aload_n C 1 dX8_alter_44 rfl rfl ?_
          refine r_get C (k := 0) (v := .ref (ad 32)) f_X8_53 (by decide) rfl rfl dX8_alter_45 ?_
          refine r_get C (k := 32) (v := .ref (ad 35)) f_X8_291 (by decide) rfl rfl dX8_alter_48 ?_
          refine r_iload_n C 2 dX8_alter_51 rfl rfl ?_
          refine r_iconst C (3) dX8_alter_52 (by decide) ?_
          refine r_imul C dX8_alter_53 ?_
          refine r_nm (P := fun z => z.toInt = 3 * (p : Int32).toInt ∧ z = (p) * (3)) ⟨ta_mulR k_3 (by omega), rfl⟩ (fun z_10 hz_11 => ?_)
          refine r_iload_n C 3 dX8_alter_54 rfl rfl ?_
          refine r_iadd C dX8_alter_55 ?_
          refine r_nm (P := fun z => z.toInt = (z_10 : Int32).toInt + (q : Int32).toInt ∧ z = (z_10) + (q)) ⟨ta_add (by omega), rfl⟩ (fun z_12 hz_13 => ?_)
          refine r_iload_n C 4 dX8_alter_56 rfl rfl ?_
          refine r_iast C (k := 35) (by decide) (fun _ => rfl) (by omega) dX8_alter_57 ?_
          refine r_iload C 0 dX8_alter_58 rfl ?_
          exact r_iret C T dX8_alter_60 (⟨Off.rf.up (by decide), fun h => absurd h (by omega), fun h => absurd h (by omega)⟩)
        · -- to 26
          refine r_bipush C (-3) dX8_alter_26 (by decide) ?_
          exact r_iret C T dX8_alter_28 (⟨Off.rf, fun h => absurd h (by omega), fun _ _ => k_m3⟩)
    · -- to 9
      refine r_iconst C (-1) dX8_alter_9 (by decide) ?_
      exact r_iret C T dX8_alter_10 (⟨Off.rf, fun _ => k_m1, fun _ h => absurd h (by omega)⟩)
set_option maxHeartbeats 4000000 in
set_option maxRecDepth 100000 in
theorem c_X8_drop (E : Ev) (ad : Nat → Nat) (σ : Sg)  (hI : IC σ) : Ct E ad yX8_drop cX8_drop 1 (some .int) 0 [.ref (ad 0)] σ (fun r τ => Off [32] σ τ ∧ (∀ j, j ≠ 5 → τ 32 j = σ 32 j) ∧ ((σ 32 5).toInt = 0 → r.toInt = -3 ∧ τ = σ) ∧ ((σ 32 5).toInt ≠ 0 → r.toInt = (σ 32 5).toInt - 1 ∧ (τ 32 5).toInt = (σ 32 5).toInt - 1)) := by
  have k_m3 : (-3 : Int32).toInt = -3 := by decide
  have k_1 : (1 : Int32).toInt = 1 := by decide
  have hJ := hI
  unfold IC at hJ
  refine ct_of RX8 rfl (by decide +kernel) [(0, .ref (ad 0))] rfl (Nat.le_of_ble_eq_true rfl) (fun G C T => ?_)
  refine r_aload_n C 0 dX8_drop_0 rfl rfl ?_
  refine r_get C (k := 0) (v := .ref (ad 32)) f_X8_53 (by decide) rfl rfl dX8_drop_1 ?_
  refine r_get C (k := 32) (v := .int (σ 32 5)) f_X8_288 (by decide) rfl rfl dX8_drop_4 ?_
  refine r_if_ne C 13 dX8_drop_7 (by decide) (fun c_1 => ?_) (fun c_1 => ?_)
  · -- to 13
    refine r_aload_n C 0 dX8_drop_13 rfl rfl ?_
    refine r_get C (k := 0) (v := .ref (ad 32)) f_X8_53 (by decide) rfl rfl dX8_drop_14 ?_
    refine r_dup C dX8_drop_17 rfl ?_
    refine r_get C (k := 32) (v := .int (σ 32 5)) f_X8_288 (by decide) rfl rfl dX8_drop_18 ?_
    refine r_iconst C (1) dX8_drop_21 (by decide) ?_
    refine r_isub C dX8_drop_22 ?_
    refine r_nm (P := fun z => z.toInt = (σ 32 5 : Int32).toInt - (1 : Int32).toInt ∧ z = (σ 32 5) - (1)) ⟨ta_sub (by omega), rfl⟩ (fun z_2 hz_3 => ?_)
    refine r_put C (k := 32) pf_X8_288 (by decide) (fun _ => rfl) (fun _ => Nat.le_of_ble_eq_true rfl) (fun _ _ => rfl) dX8_drop_23 ?_
    refine r_aload_n C 0 dX8_drop_26 rfl rfl ?_
    refine r_get C (k := 0) (v := .ref (ad 32)) f_X8_53 (by decide) rfl rfl dX8_drop_27 ?_
    refine r_get C (k := 32) (v := .int (z_2)) f_X8_288 (by decide) rfl rfl dX8_drop_30 ?_
    exact r_iret C T dX8_drop_33 (⟨Off.rf.up (by decide), fun j hj => by rw [sUp_eq]; exact if_neg hj, fun h => absurd h c_1, fun _ => ⟨by omega, (show (z_2 : Int32).toInt = _ by omega)⟩⟩)
  · -- to 10
    refine r_bipush C (-3) dX8_drop_10 (by decide) ?_
    exact r_iret C T dX8_drop_12 (⟨Off.rf, fun _ _ => rfl, fun _ => ⟨k_m3, rfl⟩, fun h => absurd c_1 h⟩)
set_option maxHeartbeats 4000000 in
set_option maxRecDepth 100000 in
theorem c_X8_check (E : Ev) (ad : Nat → Nat) (σ : Sg)  (hI : IC σ) : Ct E ad yX8_check cX8_check 1 (some .int) 1 [.ref (ad 0)] σ (fun r τ => τ = σ ∧ (σ 32 6 = 0 → r.toInt = -3)) := by
  have k_m3 : (-3 : Int32).toInt = -3 := by decide
  have hJ := hI
  unfold IC at hJ
  refine ct_of RX8 rfl (by decide +kernel) [(0, .ref (ad 0))] rfl (Nat.le_of_ble_eq_true rfl) (fun G C T => ?_)
  refine r_aload_n C 0 dX8_check_0 rfl rfl ?_
  refine r_get C (k := 0) (v := .ref (ad 32)) f_X8_53 (by decide) rfl rfl dX8_check_1 ?_
  refine r_get C (k := 32) (v := .int (σ 32 6)) f_X8_294 (by decide) rfl rfl dX8_check_4 ?_
  refine r_if_eq C 20 dX8_check_7 (by decide) (fun c_1 => ?_) (fun c_1 => ?_)
  · -- to 20
    refine r_bipush C (-3) dX8_check_20 (by decide) ?_
    exact r_iret C T dX8_check_22 (⟨rfl, fun _ => k_m3⟩)
  · -- to 10
    have tt := k_m3
    refine r_aload_n C 0 dX8_check_10 rfl rfl ?_
    refine r_get C (k := 0) (v := .ref (ad 32)) f_X8_53 (by decide) rfl rfl dX8_check_11 ?_
    refine r_callV C (k := 32) [] [] (c_X4_firstWrongRow E ad σ   hI) lv_X8_298 (by decide) rfl rfl (by decide) (by decide) rfl rfl (Nat.le_of_ble_eq_true rfl) dX8_check_14 (fun r_2 τ_3 h_4 => ?_)
    obtain ⟨eh_4, h_4⟩ := h_4
    obtain rfl := eh_4.symm
    refine r_goto C 22 dX8_check_17 (by decide) ?_
    exact r_iret C T dX8_check_22 (⟨rfl, fun h => absurd (by rw [h]; rfl) c_1⟩)
set_option maxHeartbeats 4000000 in
set_option maxRecDepth 100000 in
theorem c_X8_many (E : Ev) (ad : Nat → Nat) (σ : Sg) (p : Int32) (hI : IC σ) : Ct E ad yX8_many cX8_many 2 (some .int) 3 [.ref (ad 0), .int p] σ (fun r τ => τ = σ ∧ (¬ (0 ≤ p.toInt ∧ p.toInt ≤ 10) → r.toInt = -1) ∧ ((σ 0 8).toInt = 0 → (σ 2 6).toInt = 0 → σ 2 9 = 0 → (σ 9 6).toInt = 0 → (σ 16 8).toInt = 0 → (∀ j, j < 8 → (σ 26 j).toInt = -1) → σ 25 0 = 255 → (σ 27 1).toInt = 0 → (σ 32 5).toInt = 0 → (p.toInt = 7 → r.toInt = 8) ∧ (0 ≤ p.toInt ∧ p.toInt ≤ 10 → p.toInt ≠ 7 → r.toInt = 0))) := by
  have k_m1 : (-1 : Int32).toInt = -1 := by decide
  have k_3 : (3 : Int32).toInt = 3 := by decide
  have hJ := hI
  unfold IC at hJ
  refine ct_of RX8 rfl (by decide +kernel) [(0, .ref (ad 0)), (1, .int (p))] rfl (Nat.le_of_ble_eq_true rfl) (fun G C T => ?_)
  refine r_iload_n C 1 dX8_many_0 rfl rfl ?_
  rcases (show ((p : Int32).toInt < 0 ∨ 10 < (p : Int32).toInt) ∨ (p : Int32).toInt = 0 ∨ (p : Int32).toInt = 1 ∨ (p : Int32).toInt = 2 ∨ (p : Int32).toInt = 3 ∨ (p : Int32).toInt = 4 ∨ (p : Int32).toInt = 5 ∨ (p : Int32).toInt = 6 ∨ (p : Int32).toInt = 7 ∨ (p : Int32).toInt = 8 ∨ (p : Int32).toInt = 9 ∨ (p : Int32).toInt = 10 by omega) with sw_1 | sw_1 | sw_1 | sw_1 | sw_1 | sw_1 | sw_1 | sw_1 | sw_1 | sw_1 | sw_1 | sw_1
  · -- case None
    refine r_tblOut C 155 dX8_many_1 sw_1 (by decide) ?_
    refine r_iconst C (-1) dX8_many_155 (by decide) ?_
    exact r_iret C T dX8_many_156 (⟨rfl, fun _ => k_m1, fun f0 f1 f2 f3 f4 f5 f6 f7 f8 => ⟨fun h => absurd h (by omega), fun h => absurd h (by omega)⟩⟩)
  · -- case 0
    refine r_tblIn C (0) 60 dX8_many_1 sw_1 (by decide) (by decide) rfl (by decide) ?_
    refine r_aload_n C 0 dX8_many_60 rfl rfl ?_
    refine r_get C (k := 0) (v := .int (σ 0 8)) f_X8_57 (by decide) rfl rfl dX8_many_61 ?_
    exact r_iret C T dX8_many_64 (⟨rfl, fun h => absurd h (by omega), fun f0 f1 f2 f3 f4 f5 f6 f7 f8 => ⟨fun h => absurd h (by omega), fun _ _ => f0⟩⟩)
  · -- case 1
    refine r_tblIn C (1) 65 dX8_many_1 sw_1 (by decide) (by decide) rfl (by decide) ?_
    refine r_aload_n C 0 dX8_many_65 rfl rfl ?_
    refine r_get C (k := 0) (v := .ref (ad 2)) f_X8_20 (by decide) rfl rfl dX8_many_66 ?_
    refine r_get C (k := 2) (v := .int (σ 2 6)) f_X8_65 (by decide) rfl rfl dX8_many_69 ?_
    exact r_iret C T dX8_many_72 (⟨rfl, fun h => absurd h (by omega), fun f0 f1 f2 f3 f4 f5 f6 f7 f8 => ⟨fun h => absurd h (by omega), fun _ _ => f1⟩⟩)
  · -- case 2
    refine r_tblIn C (2) 73 dX8_many_1 sw_1 (by decide) (by decide) rfl (by decide) ?_
    refine r_aload_n C 0 dX8_many_73 rfl rfl ?_
    refine r_get C (k := 0) (v := .ref (ad 9)) f_X8_25 (by decide) rfl rfl dX8_many_74 ?_
    refine r_get C (k := 9) (v := .int (σ 9 6)) f_X8_151 (by decide) rfl rfl dX8_many_77 ?_
    exact r_iret C T dX8_many_80 (⟨rfl, fun h => absurd h (by omega), fun f0 f1 f2 f3 f4 f5 f6 f7 f8 => ⟨fun h => absurd h (by omega), fun _ _ => f3⟩⟩)
  · -- case 3
    refine r_tblIn C (3) 81 dX8_many_1 sw_1 (by decide) (by decide) rfl (by decide) ?_
    refine r_aload_n C 0 dX8_many_81 rfl rfl ?_
    refine r_get C (k := 0) (v := .ref (ad 16)) f_X8_30 (by decide) rfl rfl dX8_many_82 ?_
    refine r_get C (k := 16) (v := .int (σ 16 8)) f_X8_179 (by decide) rfl rfl dX8_many_85 ?_
    exact r_iret C T dX8_many_88 (⟨rfl, fun h => absurd h (by omega), fun f0 f1 f2 f3 f4 f5 f6 f7 f8 => ⟨fun h => absurd h (by omega), fun _ _ => f4⟩⟩)
  · -- case 4
    refine r_tblIn C (4) 89 dX8_many_1 sw_1 (by decide) (by decide) rfl (by decide) ?_
    refine r_aload_n C 0 dX8_many_89 rfl rfl ?_
    refine r_get C (k := 0) (v := .ref (ad 16)) f_X8_30 (by decide) rfl rfl dX8_many_90 ?_
    refine r_iconst C (3) dX8_many_93 (by decide) ?_
    refine r_callV C (k := 16) [.int (3)] [] (c_X3_inState E ad σ  (3) hI) lv_X8_131 (by decide) rfl rfl (by decide) (by decide) rfl rfl (Nat.le_of_ble_eq_true rfl) dX8_many_94 (fun r_2 τ_3 h_4 => ?_)
    obtain ⟨eh_4, h_4⟩ := h_4
    obtain rfl := eh_4.symm
    refine r_callS C [.int (r_2)] [] (c_J6_bitCount_0f7a4 E ad σ  (r_2) ) ls_X8_200 (by decide) (by decide) rfl rfl (Nat.le_of_ble_eq_true rfl) dX8_many_97 (fun r_5 τ_6 h_7 => ?_)
    obtain ⟨eh_7, h_7⟩ := h_7
    obtain rfl := eh_7.symm
    exact r_iret C T dX8_many_100 (⟨rfl, fun h => absurd h (by omega), fun f0 f1 f2 f3 f4 f5 f6 f7 f8 => ⟨fun h => absurd h (by omega), fun _ _ => (by rw [h_7.1, ta_inj ((h_4 f4).trans Int32.toInt_zero.symm)]; decide)⟩⟩)
  · -- case 5
    refine r_tblIn C (5) 101 dX8_many_1 sw_1 (by decide) (by decide) rfl (by decide) ?_
    refine r_aload_n C 0 dX8_many_101 rfl rfl ?_
    refine r_get C (k := 0) (v := .ref (ad 1)) f_X8_10 (by decide) rfl rfl dX8_many_102 ?_
    refine r_callV C (k := 1) [] [] (c_X5_closedNow E ad σ   hI) lv_X8_90 (by decide) rfl rfl (by decide) (by decide) rfl rfl (Nat.le_of_ble_eq_true rfl) dX8_many_105 (fun r_8 τ_9 h_10 => ?_)
    obtain ⟨eh_10, h_10⟩ := h_10
    obtain rfl := eh_10.symm
    refine r_callS C [.int (r_8)] [] (c_J6_bitCount_0f7a4 E ad σ  (r_8) ) ls_X8_200 (by decide) (by decide) rfl rfl (Nat.le_of_ble_eq_true rfl) dX8_many_108 (fun r_11 τ_12 h_13 => ?_)
    obtain ⟨eh_13, h_13⟩ := h_13
    obtain rfl := eh_13.symm
    exact r_iret C T dX8_many_111 (⟨rfl, fun h => absurd h (by omega), fun f0 f1 f2 f3 f4 f5 f6 f7 f8 => ⟨fun h => absurd h (by omega), fun _ _ => (by rw [h_13.1, h_10 f2 f4]; decide)⟩⟩)
  · -- case 6
    refine r_tblIn C (6) 112 dX8_many_1 sw_1 (by decide) (by decide) rfl (by decide) ?_
    refine r_aload_n C 0 dX8_many_112 rfl rfl ?_
    refine r_get C (k := 0) (v := .ref (ad 25)) f_X8_35 (by decide) rfl rfl dX8_many_113 ?_
    refine r_callV C (k := 25) [] [] (c_X0_allInside E ad σ   ) lv_X8_301 (by decide) rfl rfl (by decide) (by decide) rfl rfl (Nat.le_of_ble_eq_true rfl) dX8_many_116 (fun r_14 τ_15 h_16 => ?_)
    obtain ⟨eh_16, h_16⟩ := h_16
    obtain rfl := eh_16.symm
    exact r_iret C T dX8_many_119 (⟨rfl, fun h => absurd h (by omega), fun f0 f1 f2 f3 f4 f5 f6 f7 f8 => ⟨fun h => absurd h (by omega), fun _ _ => (h_16.2.2 f5)⟩⟩)
  · -- case 7
    refine r_tblIn C (7) 120 dX8_many_1 sw_1 (by decide) (by decide) rfl (by decide) ?_
    refine r_aload_n C 0 dX8_many_120 rfl rfl ?_
    refine r_get C (k := 0) (v := .ref (ad 25)) f_X8_35 (by decide) rfl rfl dX8_many_121 ?_
    refine r_get C (k := 25) (v := .int (σ 25 0)) f_X8_304 (by decide) rfl rfl dX8_many_124 ?_
    refine r_callS C [.int (σ 25 0)] [] (c_J6_bitCount_0f7a4 E ad σ  (σ 25 0) ) ls_X8_200 (by decide) (by decide) rfl rfl (Nat.le_of_ble_eq_true rfl) dX8_many_127 (fun r_17 τ_18 h_19 => ?_)
    obtain ⟨eh_19, h_19⟩ := h_19
    obtain rfl := eh_19.symm
    exact r_iret C T dX8_many_130 (⟨rfl, fun h => absurd h (by omega), fun f0 f1 f2 f3 f4 f5 f6 f7 f8 => ⟨fun _ => by rw [h_19.1, f6]; decide, fun _ h => absurd sw_1 h⟩⟩)
  · -- case 8
    refine r_tblIn C (8) 131 dX8_many_1 sw_1 (by decide) (by decide) rfl (by decide) ?_
    refine r_aload_n C 0 dX8_many_131 rfl rfl ?_
    refine r_get C (k := 0) (v := .ref (ad 27)) f_X8_39 (by decide) rfl rfl dX8_many_132 ?_
    refine r_get C (k := 27) (v := .int (σ 27 1)) f_X8_138 (by decide) rfl rfl dX8_many_135 ?_
    exact r_iret C T dX8_many_138 (⟨rfl, fun h => absurd h (by omega), fun f0 f1 f2 f3 f4 f5 f6 f7 f8 => ⟨fun h => absurd h (by omega), fun _ _ => f7⟩⟩)
  · -- case 9
    refine r_tblIn C (9) 139 dX8_many_1 sw_1 (by decide) (by decide) rfl (by decide) ?_
    refine r_aload_n C 0 dX8_many_139 rfl rfl ?_
    refine r_get C (k := 0) (v := .ref (ad 32)) f_X8_53 (by decide) rfl rfl dX8_many_140 ?_
    refine r_get C (k := 32) (v := .int (σ 32 5)) f_X8_288 (by decide) rfl rfl dX8_many_143 ?_
    exact r_iret C T dX8_many_146 (⟨rfl, fun h => absurd h (by omega), fun f0 f1 f2 f3 f4 f5 f6 f7 f8 => ⟨fun h => absurd h (by omega), fun _ _ => f8⟩⟩)
  · -- case 10
    refine r_tblIn C (10) 147 dX8_many_1 sw_1 (by decide) (by decide) rfl (by decide) ?_
    refine r_aload_n C 0 dX8_many_147 rfl rfl ?_
    refine r_get C (k := 0) (v := .ref (ad 16)) f_X8_30 (by decide) rfl rfl dX8_many_148 ?_
    refine r_callV C (k := 16) [] [] (c_X3_allLocks E ad σ   hI) lv_X8_307 (by decide) rfl rfl (by decide) (by decide) rfl rfl (Nat.le_of_ble_eq_true rfl) dX8_many_151 (fun r_20 τ_21 h_22 => ?_)
    obtain ⟨eh_22, h_22⟩ := h_22
    obtain rfl := eh_22.symm
    exact r_iret C T dX8_many_154 (⟨rfl, fun h => absurd h (by omega), fun f0 f1 f2 f3 f4 f5 f6 f7 f8 => ⟨fun h => absurd h (by omega), fun _ _ => (h_22 f4)⟩⟩)
