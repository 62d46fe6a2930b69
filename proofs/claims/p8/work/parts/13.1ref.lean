set_option maxHeartbeats 4000000 in
set_option maxRecDepth 100000 in
theorem c_X9_rule (E : Ev) (ad : Nat → Nat) (σ : Sg)  (hM : IM σ) : Ct E ad yX9_rule cX9_rule 1 (some .int) 5 [.ref (ad 39)] σ (fun r τ => Off [39, 46, 47, 48, 49, 50, 51] σ τ ∧ (∀ j, (j < 31 ∨ 38 ≤ j) ∧ j ≠ 8 ∧ j ≠ 29 → τ 39 j = σ 39 j) ∧ (τ 39 29).toInt = 0 ∧ (0 ≤ (τ 39 8).toInt ∧ (τ 39 8).toInt ≤ 12) ∧ ((σ 39 29).toInt = 0 → r.toInt = -100)) := by
  have k_m100 : (-100 : Int32).toInt = -100 := by decide
  have k_m2 : (-2 : Int32).toInt = -2 := by decide
  have k_m1 : (-1 : Int32).toInt = -1 := by decide
  have k_0 : (0 : Int32).toInt = 0 := by decide
  have k_1 : (1 : Int32).toInt = 1 := by decide
  have k_12 : (12 : Int32).toInt = 12 := by decide
  have hJ := hM
  unfold IM at hJ
  obtain ⟨n0, n1, n8, n17, n29, n39, n44, c40, c41, c42, c54, c58⟩ := hJ
  refine ct_of RX9 rfl (by decide +kernel) [(0, .ref (ad 39))] rfl (Nat.le_of_ble_eq_true rfl) (fun G C T => ?_)
  refine r_aload_n C 0 dX9_rule_0 rfl rfl ?_
  refine r_callVv C (k := 39) [] [] (c_X9_readRule E ad σ   (by omega)) lv_X9_256 (by decide) rfl rfl (by decide) (by decide) rfl rfl (Nat.le_of_ble_eq_true rfl) dX9_rule_1 (fun τ_2 h_3 => ?_)
  have e8 : (τ_2 39 8).toInt = (σ 39 8).toInt := by rw [h_3.1.2 8 (by omega)]
  have o1 : Off [39, 46, 47, 48, 49, 50, 51] σ τ_2 := h_3.1.1.to (by decide)
  have k1 : ∀ j, (j < 31 ∨ 38 ≤ j) → τ_2 39 j = σ 39 j := h_3.1.2
  refine r_aload_n C 0 dX9_rule_4 rfl rfl ?_
  refine r_iconst C (0) dX9_rule_5 (by decide) ?_
  refine r_put C (k := 39) pf_X9_168 (by decide) (fun _ => rfl) (fun _ => Nat.le_of_ble_eq_true rfl) (fun _ _ => rfl) dX9_rule_6 ?_
  refine r_aload_n C 0 dX9_rule_9 rfl rfl ?_
  refine r_get C (k := 39) (v := .int (τ_2 39 33)) f_X9_185 (by decide) rfl rfl dX9_rule_10 ?_
  refine r_if_lt C 24 dX9_rule_13 (by decide) (fun c_4 => ?_) (fun c_4 => ?_)
  · -- to 24
    refine r_aload_n C 0 dX9_rule_24 rfl rfl ?_
    refine r_get C (k := 39) (v := .int (τ_2 39 8)) f_X9_140 (by decide) rfl rfl dX9_rule_25 ?_
    refine r_bipush C (12) dX9_rule_28 (by decide) ?_
    refine r_icmp_ne C 36 dX9_rule_30 (by decide) (fun c_5 => ?_) (fun c_5 => ?_)
    · -- to 36
      refine r_aload_n C 0 dX9_rule_36 rfl rfl ?_
      refine r_get C (k := 39) (v := .ref (ad 46)) f_X9_29 (by decide) rfl rfl dX9_rule_37 ?_
      refine r_aload_n C 0 dX9_rule_40 rfl rfl ?_
      refine r_get C (k := 39) (v := .int (τ_2 39 8)) f_X9_140 (by decide) rfl rfl dX9_rule_41 ?_
      refine r_aload_n C 0 dX9_rule_44 rfl rfl ?_
      refine r_get C (k := 39) (v := .int (τ_2 39 34)) f_X9_231 (by decide) rfl rfl dX9_rule_45 ?_
      refine r_iast C (k := 46) (by decide) (fun _ => rfl) (by omega) dX9_rule_48 ?_
      refine r_aload_n C 0 dX9_rule_49 rfl rfl ?_
      refine r_get C (k := 39) (v := .ref (ad 47)) f_X9_32 (by decide) rfl rfl dX9_rule_50 ?_
      refine r_aload_n C 0 dX9_rule_53 rfl rfl ?_
      refine r_get C (k := 39) (v := .int (τ_2 39 8)) f_X9_140 (by decide) rfl rfl dX9_rule_54 ?_
      refine r_aload_n C 0 dX9_rule_57 rfl rfl ?_
      refine r_get C (k := 39) (v := .int (τ_2 39 35)) f_X9_240 (by decide) rfl rfl dX9_rule_58 ?_
      refine r_iast C (k := 47) (by decide) (fun _ => rfl) (by omega) dX9_rule_61 ?_
      refine r_aload_n C 0 dX9_rule_62 rfl rfl ?_
      refine r_get C (k := 39) (v := .ref (ad 48)) f_X9_35 (by decide) rfl rfl dX9_rule_63 ?_
      refine r_aload_n C 0 dX9_rule_66 rfl rfl ?_
      refine r_get C (k := 39) (v := .int (τ_2 39 8)) f_X9_140 (by decide) rfl rfl dX9_rule_67 ?_
      refine r_aload_n C 0 dX9_rule_70 rfl rfl ?_
      refine r_get C (k := 39) (v := .int (τ_2 39 36)) f_X9_222 (by decide) rfl rfl dX9_rule_71 ?_
      refine r_iast C (k := 48) (by decide) (fun _ => rfl) (by omega) dX9_rule_74 ?_
      refine r_aload_n C 0 dX9_rule_75 rfl rfl ?_
      refine r_get C (k := 39) (v := .ref (ad 49)) f_X9_38 (by decide) rfl rfl dX9_rule_76 ?_
      refine r_aload_n C 0 dX9_rule_79 rfl rfl ?_
      refine r_get C (k := 39) (v := .int (τ_2 39 8)) f_X9_140 (by decide) rfl rfl dX9_rule_80 ?_
      refine r_aload_n C 0 dX9_rule_83 rfl rfl ?_
      refine r_get C (k := 39) (v := .int (τ_2 39 37)) f_X9_225 (by decide) rfl rfl dX9_rule_84 ?_
      refine r_iast C (k := 49) (by decide) (fun _ => rfl) (by omega) dX9_rule_87 ?_
      refine r_aload_n C 0 dX9_rule_88 rfl rfl ?_
      refine r_get C (k := 39) (v := .ref (ad 50)) f_X9_41 (by decide) rfl rfl dX9_rule_89 ?_
      refine r_aload_n C 0 dX9_rule_92 rfl rfl ?_
      refine r_get C (k := 39) (v := .int (τ_2 39 8)) f_X9_140 (by decide) rfl rfl dX9_rule_93 ?_
      refine r_aload_n C 0 dX9_rule_96 rfl rfl ?_
      refine r_get C (k := 39) (v := .int (τ_2 39 0)) f_X9_119 (by decide) rfl rfl dX9_rule_97 ?_
      refine r_iast C (k := 50) (by decide) (fun _ => rfl) (by omega) dX9_rule_100 ?_
      refine r_aload_n C 0 dX9_rule_101 rfl rfl ?_
      refine r_get C (k := 39) (v := .ref (ad 51)) f_X9_44 (by decide) rfl rfl dX9_rule_102 ?_
      refine r_aload_n C 0 dX9_rule_105 rfl rfl ?_
      refine r_get C (k := 39) (v := .int (τ_2 39 8)) f_X9_140 (by decide) rfl rfl dX9_rule_106 ?_
      refine r_iconst C (-1) dX9_rule_109 (by decide) ?_
      refine r_iast C (k := 51) (by decide) (fun _ => rfl) (by omega) dX9_rule_110 ?_
      refine r_aload_n C 0 dX9_rule_111 rfl rfl ?_
      refine r_dup C dX9_rule_112 rfl ?_
      refine r_get C (k := 39) (v := .int (τ_2 39 8)) f_X9_140 (by decide) rfl rfl dX9_rule_113 ?_
      refine r_iconst C (1) dX9_rule_116 (by decide) ?_
      refine r_iadd C dX9_rule_117 ?_
      refine r_nm (P := fun z => z.toInt = (τ_2 39 8 : Int32).toInt + (1 : Int32).toInt ∧ z = (τ_2 39 8) + (1)) ⟨ta_add (by omega), rfl⟩ (fun z_6 hz_7 => ?_)
      refine r_put C (k := 39) pf_X9_140 (by decide) (fun _ => rfl) (fun _ => Nat.le_of_ble_eq_true rfl) (fun _ _ => rfl) dX9_rule_118 ?_
      refine r_aload_n C 0 dX9_rule_121 rfl rfl ?_
      refine r_get C (k := 39) (v := .int (z_6)) f_X9_140 (by decide) rfl rfl dX9_rule_122 ?_
      refine r_iconst C (1) dX9_rule_125 (by decide) ?_
      refine r_isub C dX9_rule_126 ?_
      refine r_nm (P := fun z => z.toInt = (z_6 : Int32).toInt - (1 : Int32).toInt ∧ z = (z_6) - (1)) ⟨ta_sub (by omega), rfl⟩ (fun z_8 hz_9 => ?_)
      exact r_iret C T dX9_rule_127 (⟨(((((((o1.up (by decide)).up (by decide)).up (by decide)).up (by decide)).up (by decide)).up (by decide)).up (by decide)).up (by decide), fun j hj => by rw [sUp_eq]; refine (if_neg hj.2.1).trans ?_; refine Eq.trans ?_ (k1 j hj.1); show (sUp τ_2 39 29 0) 39 j = _; rw [sUp_eq]; exact if_neg hj.2.2, rfl, by show 0 ≤ (z_6 : Int32).toInt ∧ (z_6 : Int32).toInt ≤ 12; omega, fun h => absurd (h_3.2 h) (by omega)⟩)
    · -- to 33
      refine r_bipush C (-2) dX9_rule_33 (by decide) ?_
      exact r_iret C T dX9_rule_35 (⟨o1.up (by decide), fun j hj => by rw [sUp_eq]; exact (if_neg hj.2.2).trans (k1 j hj.1), rfl, by show 0 ≤ (τ_2 39 8).toInt ∧ (τ_2 39 8).toInt ≤ 12; omega, fun h => absurd (h_3.2 h) (by omega)⟩)
  · -- to 16
    refine r_bipush C (-100) dX9_rule_16 (by decide) ?_
    refine r_aload_n C 0 dX9_rule_18 rfl rfl ?_
    refine r_get C (k := 39) (v := .int (τ_2 39 33)) f_X9_185 (by decide) rfl rfl dX9_rule_19 ?_
    refine r_isub C dX9_rule_22 ?_
    refine r_nm (P := fun z => z = ((-100)) - (τ_2 39 33)) rfl (fun z_10 hz_11 => ?_)
    exact r_iret C T dX9_rule_23 (⟨o1.up (by decide), fun j hj => by rw [sUp_eq]; exact (if_neg hj.2.2).trans (k1 j hj.1), rfl, by show 0 ≤ (τ_2 39 8).toInt ∧ (τ_2 39 8).toInt ≤ 12; omega, fun h => by rw [hz_11, ta_inj ((h_3.2 h).trans Int32.toInt_zero.symm)]; decide⟩)
set_option maxHeartbeats 4000000 in
set_option maxRecDepth 100000 in
theorem c_X9_strike (E : Ev) (ad : Nat → Nat) (σ : Sg) (p : Int32) (hM : IM σ) : Ct E ad yX9_strike cX9_strike 2 (some .int) 2 [.ref (ad 39), .int p] σ (fun r τ => Off [51] σ τ ∧ ((σ 39 8).toInt = 0 → r.toInt = -1)) := by
  have k_m4 : (-4 : Int32).toInt = -4 := by decide
  have k_m1 : (-1 : Int32).toInt = -1 := by decide
  have k_1 : (1 : Int32).toInt = 1 := by decide
  have hJ := hM
  unfold IM at hJ
  obtain ⟨n0, n1, n8, n17, n29, n39, n44, c40, c41, c42, c54, c58⟩ := hJ
  refine ct_of RX9 rfl (by decide +kernel) [(0, .ref (ad 39)), (1, .int (p))] rfl (Nat.le_of_ble_eq_true rfl) (fun G C T => ?_)
  refine r_aload_n C 0 dX9_strike_0 rfl rfl ?_
  refine r_iload_n C 1 dX9_strike_1 rfl rfl ?_
  refine r_callV C (k := 39) [.int (p)] [] (c_X9_isRule E ad σ  (p) hM) lv_X9_259 (by decide) rfl rfl (by decide) (by decide) rfl rfl (Nat.le_of_ble_eq_true rfl) dX9_strike_2 (fun r_1 τ_2 h_3 => ?_)
  obtain ⟨eh_3, h_3⟩ := h_3
  obtain rfl := eh_3.symm
  refine r_if_ne C 10 dX9_strike_5 (by decide) (fun c_4 => ?_) (fun c_4 => ?_)
  · -- to 10
    refine r_aload_n C 0 dX9_strike_10 rfl rfl ?_
    refine r_get C (k := 39) (v := .ref (ad 51)) f_X9_44 (by decide) rfl rfl dX9_strike_11 ?_
    refine r_iload_n C 1 dX9_strike_14 rfl rfl ?_
    refine r_iald C (k := 51) (by decide) rfl (by omega) (σ 51 ((p : Int32).toInt.toNat)) rfl dX9_strike_15 ?_
    refine r_if_lt C 22 dX9_strike_16 (by decide) (fun c_6 => ?_) (fun c_6 => ?_)
    · -- to 22
      refine r_aload_n C 0 dX9_strike_22 rfl rfl ?_
      refine r_get C (k := 39) (v := .ref (ad 51)) f_X9_44 (by decide) rfl rfl dX9_strike_23 ?_
      refine r_iload_n C 1 dX9_strike_26 rfl rfl ?_
      refine r_aload_n C 0 dX9_strike_27 rfl rfl ?_
      refine r_get C (k := 39) (v := .int (σ 39 0)) f_X9_119 (by decide) rfl rfl dX9_strike_28 ?_
      refine r_iast C (k := 51) (by decide) (fun _ => rfl) (by omega) dX9_strike_31 ?_
      refine r_iconst C (1) dX9_strike_32 (by decide) ?_
      exact r_iret C T dX9_strike_33 (⟨Off.rf.up (by decide), fun h => absurd h (by omega)⟩)
    · -- to 19
      refine r_bipush C (-4) dX9_strike_19 (by decide) ?_
      exact r_iret C T dX9_strike_21 (⟨Off.rf, fun h => absurd h (by omega)⟩)
  · -- to 8
    refine r_iconst C (-1) dX9_strike_8 (by decide) ?_
    exact r_iret C T dX9_strike_9 (⟨Off.rf, fun _ => k_m1⟩)
set_option maxHeartbeats 4000000 in
set_option maxRecDepth 100000 in
theorem c_X9_ruleOf (E : Ev) (ad : Nat → Nat) (σ : Sg) (p : Int32) (q : Int32) (hM : IM σ) : Ct E ad yX9_ruleOf cX9_ruleOf 3 (some .int) 2 [.ref (ad 39), .int p, .int q] σ (fun r τ => τ = σ ∧ ((σ 39 8).toInt = 0 → r.toInt = -1)) := by
  have k_m1 : (-1 : Int32).toInt = -1 := by decide
  have k_0 : (0 : Int32).toInt = 0 := by decide
  have k_1 : (1 : Int32).toInt = 1 := by decide
  have k_4 : (4 : Int32).toInt = 4 := by decide
  have hJ := hM
  unfold IM at hJ
  obtain ⟨n0, n1, n8, n17, n29, n39, n44, c40, c41, c42, c54, c58⟩ := hJ
  refine ct_of RX9 rfl (by decide +kernel) [(0, .ref (ad 39)), (1, .int (p)), (2, .int (q))] rfl (Nat.le_of_ble_eq_true rfl) (fun G C T => ?_)
  refine r_aload_n C 0 dX9_ruleOf_0 rfl rfl ?_
  refine r_iload_n C 1 dX9_ruleOf_1 rfl rfl ?_
  refine r_callV C (k := 39) [.int (p)] [] (c_X9_isRule E ad σ  (p) hM) lv_X9_259 (by decide) rfl rfl (by decide) (by decide) rfl rfl (Nat.le_of_ble_eq_true rfl) dX9_ruleOf_2 (fun r_1 τ_2 h_3 => ?_)
  obtain ⟨eh_3, h_3⟩ := h_3
  obtain rfl := eh_3.symm
  refine r_if_eq C 17 dX9_ruleOf_5 (by decide) (fun c_4 => ?_) (fun c_4 => ?_)
  · -- to 17
    refine r_iconst C (-1) dX9_ruleOf_17 (by decide) ?_
    exact r_iret C T dX9_ruleOf_18 (⟨rfl, fun h => by first | exact k_m1 | exact absurd h (by omega)⟩)
  · -- to 8
    refine r_iload_n C 2 dX9_ruleOf_8 rfl rfl ?_
    refine r_iconst C (0) dX9_ruleOf_9 (by decide) ?_
    refine r_iconst C (4) dX9_ruleOf_10 (by decide) ?_
    refine r_callS C [.int (q), .int (0), .int (4)] [] (c_X9_in E ad σ  (q) (0) (4) ) ls_X9_105 (by decide) (by decide) rfl rfl (Nat.le_of_ble_eq_true rfl) dX9_ruleOf_11 (fun r_5 τ_6 h_7 => ?_)
    obtain ⟨eh_7, h_7⟩ := h_7
    obtain rfl := eh_7.symm
    refine r_if_ne C 19 dX9_ruleOf_14 (by decide) (fun c_8 => ?_) (fun c_8 => ?_)
    · -- to 19
      refine r_iload_n C 2 dX9_ruleOf_19 rfl rfl ?_
      rcases (show ((q : Int32).toInt < 0 ∨ 3 < (q : Int32).toInt) ∨ (q : Int32).toInt = 0 ∨ (q : Int32).toInt = 1 ∨ (q : Int32).toInt = 2 ∨ (q : Int32).toInt = 3 by omega) with sw_9 | sw_9 | sw_9 | sw_9 | sw_9
      · -- case None
        refine r_tblOut C 80 dX9_ruleOf_20 sw_9 (by decide) ?_
        refine r_aload_n C 0 dX9_ruleOf_80 rfl rfl ?_
        refine r_iload_n C 1 dX9_ruleOf_81 rfl rfl ?_
        refine r_aload_n C 0 dX9_ruleOf_82 rfl rfl ?_
        refine r_get C (k := 39) (v := .int (σ 39 0)) f_X9_119 (by decide) rfl rfl dX9_ruleOf_83 ?_
        refine r_callV C (k := 39) [.int (p), .int (σ 39 0)] [] (c_X9_isInForce E ad σ  (p) (σ 39 0) (by omega)) lv_X9_143 (by decide) rfl rfl (by decide) (by decide) rfl rfl (Nat.le_of_ble_eq_true rfl) dX9_ruleOf_86 (fun r_10 τ_11 h_12 => ?_)
        obtain ⟨eh_12, h_12⟩ := h_12
        obtain rfl := eh_12.symm
        refine r_if_eq C 96 dX9_ruleOf_89 (by decide) (fun c_13 => ?_) (fun c_13 => ?_)
        · -- to 96
          refine r_iconst C (0) dX9_ruleOf_96 (by decide) ?_
          exact r_iret C T dX9_ruleOf_97 (⟨rfl, fun h => by first | exact k_m1 | exact absurd h (by omega)⟩)
        · -- to 92
          refine r_iconst C (1) dX9_ruleOf_92 (by decide) ?_
          refine r_goto C 97 dX9_ruleOf_93 (by decide) ?_
          exact r_iret C T dX9_ruleOf_97 (⟨rfl, fun h => by first | exact k_m1 | exact absurd h (by omega)⟩)
      · -- case 0
        refine r_tblIn C (0) 52 dX9_ruleOf_20 sw_9 (by decide) (by decide) rfl (by decide) ?_
        refine r_aload_n C 0 dX9_ruleOf_52 rfl rfl ?_
        refine r_get C (k := 39) (v := .ref (ad 46)) f_X9_29 (by decide) rfl rfl dX9_ruleOf_53 ?_
        refine r_iload_n C 1 dX9_ruleOf_56 rfl rfl ?_
        refine r_iald C (k := 46) (by decide) rfl (by omega) (σ 46 ((p : Int32).toInt.toNat)) rfl dX9_ruleOf_57 ?_
        exact r_iret C T dX9_ruleOf_58 (⟨rfl, fun h => by first | exact k_m1 | exact absurd h (by omega)⟩)
      · -- case 1
        refine r_tblIn C (1) 59 dX9_ruleOf_20 sw_9 (by decide) (by decide) rfl (by decide) ?_
        refine r_aload_n C 0 dX9_ruleOf_59 rfl rfl ?_
        refine r_get C (k := 39) (v := .ref (ad 47)) f_X9_32 (by decide) rfl rfl dX9_ruleOf_60 ?_
        refine r_iload_n C 1 dX9_ruleOf_63 rfl rfl ?_
        refine r_iald C (k := 47) (by decide) rfl (by omega) (σ 47 ((p : Int32).toInt.toNat)) rfl dX9_ruleOf_64 ?_
        exact r_iret C T dX9_ruleOf_65 (⟨rfl, fun h => by first | exact k_m1 | exact absurd h (by omega)⟩)
      · -- case 2
        refine r_tblIn C (2) 66 dX9_ruleOf_20 sw_9 (by decide) (by decide) rfl (by decide) ?_
        refine r_aload_n C 0 dX9_ruleOf_66 rfl rfl ?_
        refine r_get C (k := 39) (v := .ref (ad 48)) f_X9_35 (by decide) rfl rfl dX9_ruleOf_67 ?_
        refine r_iload_n C 1 dX9_ruleOf_70 rfl rfl ?_
        refine r_iald C (k := 48) (by decide) rfl (by omega) (σ 48 ((p : Int32).toInt.toNat)) rfl dX9_ruleOf_71 ?_
        exact r_iret C T dX9_ruleOf_72 (⟨rfl, fun h => by first | exact k_m1 | exact absurd h (by omega)⟩)
      · -- case 3
        refine r_tblIn C (3) 73 dX9_ruleOf_20 sw_9 (by decide) (by decide) rfl (by decide) ?_
        refine r_aload_n C 0 dX9_ruleOf_73 rfl rfl ?_
        refine r_get C (k := 39) (v := .ref (ad 49)) f_X9_38 (by decide) rfl rfl dX9_ruleOf_74 ?_
        refine r_iload_n C 1 dX9_ruleOf_77 rfl rfl ?_
        refine r_iald C (k := 49) (by decide) rfl (by omega) (σ 49 ((p : Int32).toInt.toNat)) rfl dX9_ruleOf_78 ?_
        exact r_iret C T dX9_ruleOf_79 (⟨rfl, fun h => by first | exact k_m1 | exact absurd h (by omega)⟩)
    · -- to 17
      refine r_iconst C (-1) dX9_ruleOf_17 (by decide) ?_
      exact r_iret C T dX9_ruleOf_18 (⟨rfl, fun h => by first | exact k_m1 | exact absurd h (by omega)⟩)
set_option maxHeartbeats 4000000 in
set_option maxRecDepth 100000 in
theorem c_X9_ask (E : Ev) (ad : Nat → Nat) (σ : Sg) (p : Int32) (q : Int32) (u : Int32) (hM : IM σ) : Ct E ad yX9_ask cX9_ask 5 (some .int) 2 [.ref (ad 39), .int p, .int q, .int u] σ (fun r τ => (¬ (0 ≤ p.toInt ∧ p.toInt < 10 ∧ 0 ≤ q.toInt ∧ q.toInt < 3 ∧ 0 ≤ u.toInt ∧ (u >>> ((σ 39 1) &&& 31)).toInt = 0 ∧ ¬ (∃ j : Nat, j < 12 ∧ (j : Int) < (σ 39 1).toInt ∧ ((u >>> (nI j &&& 31)) &&& 1).toInt = 1 ∧ (σ 42 j).toInt = 2)) ∧ r.toInt = -1 ∧ τ = σ) ∨ ((0 ≤ p.toInt ∧ p.toInt < 10 ∧ 0 ≤ q.toInt ∧ q.toInt < 3 ∧ 0 ≤ u.toInt ∧ (u >>> ((σ 39 1) &&& 31)).toInt = 0 ∧ ¬ (∃ j : Nat, j < 12 ∧ (j : Int) < (σ 39 1).toInt ∧ ((u >>> (nI j &&& 31)) &&& 1).toInt = 1 ∧ (σ 42 j).toInt = 2)) ∧ 7 ≤ (σ 39 17).toInt ∧ r.toInt = -2 ∧ τ = σ) ∨ ((0 ≤ p.toInt ∧ p.toInt < 10 ∧ 0 ≤ q.toInt ∧ q.toInt < 3 ∧ 0 ≤ u.toInt ∧ (u >>> ((σ 39 1) &&& 31)).toInt = 0 ∧ ¬ (∃ j : Nat, j < 12 ∧ (j : Int) < (σ 39 1).toInt ∧ ((u >>> (nI j &&& 31)) &&& 1).toInt = 1 ∧ (σ 42 j).toInt = 2)) ∧ (σ 39 17).toInt < 7 ∧ r.toInt = (σ 39 17).toInt ∧ Off [39, 54, 55, 56, 57, 58, 59, 60, 61] σ τ ∧ (τ 39 17).toInt = (σ 39 17).toInt + 1 ∧ (∀ j, j ≠ 17 → τ 39 j = σ 39 j) ∧ τ 57 = upd (σ 57) (σ 39 17).toInt.toNat 0 ∧ τ 56 = upd (σ 56) (σ 39 17).toInt.toNat u ∧ τ 54 = upd (σ 54) (σ 39 17).toInt.toNat p ∧ τ 58 = upd (σ 58) (σ 39 17).toInt.toNat (-1))) := by
  have k_m3 : (-3 : Int32).toInt = -3 := by decide
  have k_m2 : (-2 : Int32).toInt = -2 := by decide
  have k_m1 : (-1 : Int32).toInt = -1 := by decide
  have k_0 : (0 : Int32).toInt = 0 := by decide
  have k_1 : (1 : Int32).toInt = 1 := by decide
  have k_2 : (2 : Int32).toInt = 2 := by decide
  have k_7 : (7 : Int32).toInt = 7 := by decide
  have hJ := hM
  unfold IM at hJ
  obtain ⟨n0, n1, n8, n17, n29, n39, n44, c40, c41, c42, c54, c58⟩ := hJ
  refine ct_of RX9 rfl (by decide +kernel) [(0, .ref (ad 39)), (1, .int (p)), (2, .int (q)), (3, .int (u))] rfl (Nat.le_of_ble_eq_true rfl) (fun G C T => ?_)
  have L_29 : (¬ (0 ≤ p.toInt ∧ p.toInt < 10 ∧ 0 ≤ q.toInt ∧ q.toInt < 3 ∧ 0 ≤ u.toInt ∧ (u >>> ((σ 39 1) &&& 31)).toInt = 0 ∧ ¬ (∃ j : Nat, j < 12 ∧ (j : Int) < (σ 39 1).toInt ∧ ((u >>> (nI j &&& 31)) &&& 1).toInt = 1 ∧ (σ 42 j).toInt = 2))) → At E ad G 5 29 [(0, .ref (ad 39)), (1, .int (p)), (2, .int (q)), (3, .int (u))] [] σ := by
    intro hnv
    refine r_iconst C (-1) dX9_ask_29 (by decide) ?_
    exact r_iret C T dX9_ask_30 (Or.inl ⟨hnv, k_m1, rfl⟩)
  refine r_iload_n C 1 dX9_ask_0 rfl rfl ?_
  refine r_callS C [.int (p)] [] (c_X9_isPlace E ad σ  (p) ) ls_X9_116 (by decide) (by decide) rfl rfl (Nat.le_of_ble_eq_true rfl) dX9_ask_1 (fun r_1 τ_2 h_3 => ?_)
  obtain ⟨eh_3, h_3⟩ := h_3
  obtain rfl := eh_3.symm
  refine r_if_eq C 29 dX9_ask_4 (by decide) (fun c_4 => ?_) (fun c_4 => ?_)
  · -- to 29
    exact At.sub [0, 1, 2, 3] rfl (L_29  (fun h => absurd h.1 (by omega)))
  · -- to 7
    refine r_iload_n C 2 dX9_ask_7 rfl rfl ?_
    refine r_iconst C (0) dX9_ask_8 (by decide) ?_
    refine r_iconst C (2) dX9_ask_9 (by decide) ?_
    refine r_callS C [.int (q), .int (0), .int (2)] [] (c_X9_in E ad σ  (q) (0) (2) ) ls_X9_105 (by decide) (by decide) rfl rfl (Nat.le_of_ble_eq_true rfl) dX9_ask_10 (fun r_5 τ_6 h_7 => ?_)
    obtain ⟨eh_7, h_7⟩ := h_7
    obtain rfl := eh_7.symm
    refine r_if_eq C 29 dX9_ask_13 (by decide) (fun c_8 => ?_) (fun c_8 => ?_)
    · -- to 29
      exact At.sub [0, 1, 2, 3] rfl (L_29  (fun h => absurd h.2.2.1 (by omega)))
    · -- to 16
      refine r_iload_n C 3 dX9_ask_16 rfl rfl ?_
      refine r_if_lt C 29 dX9_ask_17 (by decide) (fun c_9 => ?_) (fun c_9 => ?_)
      · -- to 29
        exact At.sub [0, 1, 2, 3] rfl (L_29  (fun h => absurd h.2.2.2.2.1 (by omega)))
      · -- to 20
        refine r_iload_n C 3 dX9_ask_20 rfl rfl ?_
        refine r_aload_n C 0 dX9_ask_21 rfl rfl ?_
        refine r_get C (k := 39) (v := .int (σ 39 1)) f_X9_101 (by decide) rfl rfl dX9_ask_22 ?_
        refine r_ishr C dX9_ask_25 ?_
        refine r_nm (P := fun z => z = (u : Int32) >>> ((σ 39 1 : Int32) &&& 31)) rfl (fun z_10 hz_11 => ?_)
        refine r_if_eq C 31 dX9_ask_26 (by decide) (fun c_12 => ?_) (fun c_12 => ?_)
        · -- to 31
          have hsh : (u >>> ((σ 39 1) &&& 31)).toInt = 0 := by rw [← hz_11]; exact c_12
          refine r_iconst C (0) dX9_ask_31 (by decide) ?_
          refine r_istore C [(4, .int (0)), (0, .ref (ad 39)), (1, .int (p)), (2, .int (q)), (3, .int (u))] dX9_ask_32 (by decide) rfl ?_
          have L_34 : ∀ (n : Nat), ∀ (i : Int32), (0 ≤ i.toInt ∧ i.toInt ≤ 12) → (∀ j : Nat, (j : Int) < i.toInt → (j : Int) < (σ 39 1).toInt → ¬ (((u >>> (nI j &&& 31)) &&& 1).toInt = 1 ∧ (σ 42 j).toInt = 2)) → 12 - i.toInt < (n : Int) → At E ad G 5 34 [(4, .int (i)), (0, .ref (ad 39)), (1, .int (p)), (2, .int (q)), (3, .int (u))] [] σ := by
            intro n
            induction n with
            | zero =>
              intro i hi hno hm
              exact absurd hm (by omega)
            | succ n ih =>
              intro i hi hno hm
              have ih_34 := ih
              clear ih
              refine r_iload C 0 dX9_ask_34 rfl ?_
              refine r_aload_n C 1 dX9_ask_36 rfl rfl ?_
              refine r_get C (k := 39) (v := .int (σ 39 1)) f_X9_101 (by decide) rfl rfl dX9_ask_37 ?_
              refine r_icmp_ge C 71 dX9_ask_40 (by decide) (fun c_13 => ?_) (fun c_13 => ?_)
              · -- to 71
                have hv : (0 ≤ p.toInt ∧ p.toInt < 10 ∧ 0 ≤ q.toInt ∧ q.toInt < 3 ∧ 0 ≤ u.toInt ∧ (u >>> ((σ 39 1) &&& 31)).toInt = 0 ∧ ¬ (∃ j : Nat, j < 12 ∧ (j : Int) < (σ 39 1).toInt ∧ ((u >>> (nI j &&& 31)) &&& 1).toInt = 1 ∧ (σ 42 j).toInt = 2)) := ⟨by omega, by omega, by omega, by omega, by omega, hsh, fun ⟨j, h1, h2, h3⟩ => hno j (by omega) h2 h3⟩
                refine r_aload_n C 1 dX9_ask_71 rfl rfl ?_
                refine r_get C (k := 39) (v := .int (σ 39 17)) f_X9_113 (by decide) rfl rfl dX9_ask_72 ?_
                refine r_bipush C (7) dX9_ask_75 (by decide) ?_
                refine r_icmp_ne C 83 dX9_ask_77 (by decide) (fun c_14 => ?_) (fun c_14 => ?_)
                · -- to 83
                  refine r_aload_n C 1 dX9_ask_83 rfl rfl ?_
                  refine r_get C (k := 39) (v := .ref (ad 54)) f_X9_53 (by decide) rfl rfl dX9_ask_84 ?_
                  refine r_aload_n C 1 dX9_ask_87 rfl rfl ?_
                  refine r_get C (k := 39) (v := .int (σ 39 17)) f_X9_113 (by decide) rfl rfl dX9_ask_88 ?_
                  refine r_iload_n C 2 dX9_ask_91 rfl rfl ?_
                  refine r_iast C (k := 54) (by decide) (fun _ => rfl) (by omega) dX9_ask_92 ?_
                  refine r_aload_n C 1 dX9_ask_93 rfl rfl ?_
                  refine r_get C (k := 39) (v := .ref (ad 55)) f_X9_56 (by decide) rfl rfl dX9_ask_94 ?_
                  refine r_aload_n C 1 dX9_ask_97 rfl rfl ?_
                  refine r_get C (k := 39) (v := .int (σ 39 17)) f_X9_113 (by decide) rfl rfl dX9_ask_98 ?_
                  refine r_iload_n C 3 dX9_ask_101 rfl rfl ?_
                  refine r_iast C (k := 55) (by decide) (fun _ => rfl) (by omega) dX9_ask_102 ?_
                  refine r_aload_n C 1 dX9_ask_103 rfl rfl ?_
                  refine r_get C (k := 39) (v := .ref (ad 56)) f_X9_59 (by decide) rfl rfl dX9_ask_104 ?_
                  refine r_aload_n C 1 dX9_ask_107 rfl rfl ?_
                  refine r_get C (k := 39) (v := .int (σ 39 17)) f_X9_113 (by decide) rfl rfl dX9_ask_108 ?_
                  refine r_iload_n C 4 dX9_ask_111 rfl rfl ?_
                  refine r_iast C (k := 56) (by decide) (fun _ => rfl) (by omega) dX9_ask_112 ?_
                  refine r_aload_n C 1 dX9_ask_113 rfl rfl ?_
                  refine r_get C (k := 39) (v := .ref (ad 57)) f_X9_62 (by decide) rfl rfl dX9_ask_114 ?_
                  refine r_aload_n C 1 dX9_ask_117 rfl rfl ?_
                  refine r_get C (k := 39) (v := .int (σ 39 17)) f_X9_113 (by decide) rfl rfl dX9_ask_118 ?_
                  refine r_iconst C (0) dX9_ask_121 (by decide) ?_
                  refine r_iast C (k := 57) (by decide) (fun _ => rfl) (by omega) dX9_ask_122 ?_
                  refine r_aload_n C 1 dX9_ask_123 rfl rfl ?_
                  refine r_get C (k := 39) (v := .ref (ad 58)) f_X9_65 (by decide) rfl rfl dX9_ask_124 ?_
                  refine r_aload_n C 1 dX9_ask_127 rfl rfl ?_
                  refine r_get C (k := 39) (v := .int (σ 39 17)) f_X9_113 (by decide) rfl rfl dX9_ask_128 ?_
                  refine r_iconst C (-1) dX9_ask_131 (by decide) ?_
                  refine r_iast C (k := 58) (by decide) (fun _ => rfl) (by omega) dX9_ask_132 ?_
                  refine r_aload_n C 1 dX9_ask_133 rfl rfl ?_
                  refine r_get C (k := 39) (v := .ref (ad 59)) f_X9_68 (by decide) rfl rfl dX9_ask_134 ?_
                  refine r_aload_n C 1 dX9_ask_137 rfl rfl ?_
                  refine r_get C (k := 39) (v := .int (σ 39 17)) f_X9_113 (by decide) rfl rfl dX9_ask_138 ?_
                  refine r_bipush C (-3) dX9_ask_141 (by decide) ?_
                  refine r_iast C (k := 59) (by decide) (fun _ => rfl) (by omega) dX9_ask_143 ?_
                  refine r_aload_n C 1 dX9_ask_144 rfl rfl ?_
                  refine r_get C (k := 39) (v := .ref (ad 60)) f_X9_71 (by decide) rfl rfl dX9_ask_145 ?_
                  refine r_aload_n C 1 dX9_ask_148 rfl rfl ?_
                  refine r_get C (k := 39) (v := .int (σ 39 17)) f_X9_113 (by decide) rfl rfl dX9_ask_149 ?_
                  refine r_bipush C (-3) dX9_ask_152 (by decide) ?_
                  refine r_iast C (k := 60) (by decide) (fun _ => rfl) (by omega) dX9_ask_154 ?_
                  refine r_aload_n C 1 dX9_ask_155 rfl rfl ?_
                  refine r_get C (k := 39) (v := .ref (ad 61)) f_X9_74 (by decide) rfl rfl dX9_ask_156 ?_
                  refine r_aload_n C 1 dX9_ask_159 rfl rfl ?_
                  refine r_get C (k := 39) (v := .int (σ 39 17)) f_X9_113 (by decide) rfl rfl dX9_ask_160 ?_
                  refine r_bipush C (-3) dX9_ask_163 (by decide) ?_
                  refine r_iast C (k := 61) (by decide) (fun _ => rfl) (by omega) dX9_ask_165 ?_
                  refine r_aload_n C 1 dX9_ask_166 rfl rfl ?_
                  refine r_dup C dX9_ask_167 rfl ?_
                  refine r_get C (k := 39) (v := .int (σ 39 17)) f_X9_113 (by decide) rfl rfl dX9_ask_168 ?_
                  refine r_iconst C (1) dX9_ask_171 (by decide) ?_
                  refine r_iadd C dX9_ask_172 ?_
                  refine r_nm (P := fun z => z.toInt = (σ 39 17 : Int32).toInt + (1 : Int32).toInt ∧ z = (σ 39 17) + (1)) ⟨ta_add (by omega), rfl⟩ (fun z_15 hz_16 => ?_)
                  refine r_put C (k := 39) pf_X9_113 (by decide) (fun _ => rfl) (fun _ => Nat.le_of_ble_eq_true rfl) (fun _ _ => rfl) dX9_ask_173 ?_
                  refine r_aload_n C 1 dX9_ask_176 rfl rfl ?_
                  refine r_get C (k := 39) (v := .int (z_15)) f_X9_113 (by decide) rfl rfl dX9_ask_177 ?_
                  refine r_iconst C (1) dX9_ask_180 (by decide) ?_
                  refine r_isub C dX9_ask_181 ?_
                  refine r_nm (P := fun z => z.toInt = (z_15 : Int32).toInt - (1 : Int32).toInt ∧ z = (z_15) - (1)) ⟨ta_sub (by omega), rfl⟩ (fun z_17 hz_18 => ?_)
                  exact r_iret C T dX9_ask_182 (Or.inr (Or.inr ⟨hv, by omega, by omega, (((((((((Off.rf.up (by decide)).up (by decide)).up (by decide)).up (by decide)).up (by decide)).up (by decide)).up (by decide)).up (by decide)).up (by decide)), (show (z_15 : Int32).toInt = _ by omega), fun j hj => if_neg hj, rfl, rfl, rfl, rfl⟩))
                · -- to 80
                  refine r_bipush C (-2) dX9_ask_80 (by decide) ?_
                  exact r_iret C T dX9_ask_82 (Or.inr (Or.inl ⟨hv, by omega, k_m2, rfl⟩))
              · -- to 43
                refine r_iload_n C 4 dX9_ask_43 rfl rfl ?_
                refine r_iload C 0 dX9_ask_44 rfl ?_
                refine r_callS C [.int (u), .int (i)] [] (c_X9_has E ad σ  (u) (i) ) ls_X9_125 (by decide) (by decide) rfl rfl (Nat.le_of_ble_eq_true rfl) dX9_ask_46 (fun r_19 τ_20 h_21 => ?_)
                obtain ⟨eh_21, h_21⟩ := h_21
                obtain rfl := eh_21.symm
                refine r_if_eq C 65 dX9_ask_49 (by decide) (fun c_22 => ?_) (fun c_22 => ?_)
                · -- to 65
                  refine r_iinc C 0 (fun z => [(4, .int (z)), (0, .ref (ad 39)), (1, .int (p)), (2, .int (q)), (3, .int (u))]) dX9_ask_65 rfl (by decide) (by decide) (by omega) (fun _ => rfl) (fun z_23 hz_24 => ?_)
                  refine r_goto C 34 dX9_ask_68 (by decide) ?_
                  exact At.sub [0, 1, 2, 3, 4] rfl (ih_34 (z_23 : Int32) (by omega) (fun j hj hj2 t => by by_cases e : (j : Int) < i.toInt; (exact hno j e hj2 t); (have e2 : nI j = i := ta_inj (by rw [nI_toInt (by omega)]; omega); have e3 : j = (i : Int32).toInt.toNat := (by omega); rw [e2, e3] at t; omega)) (by omega))
                · -- to 52
                  refine r_aload_n C 1 dX9_ask_52 rfl rfl ?_
                  refine r_get C (k := 39) (v := .ref (ad 42)) f_X9_16 (by decide) rfl rfl dX9_ask_53 ?_
                  refine r_iload C 0 dX9_ask_56 rfl ?_
                  refine r_iald C (k := 42) (by decide) rfl (by omega) (σ 42 ((i : Int32).toInt.toNat)) rfl dX9_ask_58 ?_
                  refine r_iconst C (2) dX9_ask_59 (by decide) ?_
                  refine r_icmp_ne C 65 dX9_ask_60 (by decide) (fun c_26 => ?_) (fun c_26 => ?_)
                  · -- to 65
                    refine r_iinc C 0 (fun z => [(4, .int (z)), (0, .ref (ad 39)), (1, .int (p)), (2, .int (q)), (3, .int (u))]) dX9_ask_65 rfl (by decide) (by decide) (by omega) (fun _ => rfl) (fun z_27 hz_28 => ?_)
                    refine r_goto C 34 dX9_ask_68 (by decide) ?_
                    exact At.sub [0, 1, 2, 3, 4] rfl (ih_34 (z_27 : Int32) (by omega) (fun j hj hj2 t => by by_cases e : (j : Int) < i.toInt; (exact hno j e hj2 t); (have e2 : nI j = i := ta_inj (by rw [nI_toInt (by omega)]; omega); have e3 : j = (i : Int32).toInt.toNat := (by omega); rw [e2, e3] at t; omega)) (by omega))
                  · -- to 63
                    refine r_iconst C (-1) dX9_ask_63 (by decide) ?_
                    exact r_iret C T dX9_ask_64 (Or.inl ⟨fun h => h.2.2.2.2.2.2 ⟨(i : Int32).toInt.toNat, by omega, by omega, by rw [show nI (i : Int32).toInt.toNat = i from ta_inj (by rw [nI_toInt (by omega)]; omega)]; omega, by omega⟩, k_m1, rfl⟩)
          exact At.sub [0, 1, 2, 3, 4] rfl (L_34 ((12 - (0 : Int32).toInt).toNat + 1) (0 : Int32) (by omega) (fun j hj => absurd hj (by omega)) (by omega))
        · -- to 29
          exact At.sub [0, 1, 2, 3] rfl (L_29  (fun h => c_12 (by rw [hz_11]; exact h.2.2.2.2.2.1)))
set_option maxHeartbeats 4000000 in
set_option maxRecDepth 100000 in
theorem c_X9_hold (E : Ev) (ad : Nat → Nat) (σ : Sg) (p : Int32) (q : Int32) (hM : IM σ) : Ct E ad yX9_hold cX9_hold 4 (some .int) 2 [.ref (ad 39), .int p, .int q] σ (fun r τ => ((τ = σ) ∨ (∃ j, τ = sUp σ 58 j q ∧ q.toInt ≤ 7)) ∧ ((σ 39 17).toInt = 0 → r.toInt = -9)) := by
  have k_m9 : (-9 : Int32).toInt = -9 := by decide
  have k_m4 : (-4 : Int32).toInt = -4 := by decide
  have k_m1 : (-1 : Int32).toInt = -1 := by decide
  have k_3 : (3 : Int32).toInt = 3 := by decide
  have k_5 : (5 : Int32).toInt = 5 := by decide
  have hJ := hM
  unfold IM at hJ
  obtain ⟨n0, n1, n8, n17, n29, n39, n44, c40, c41, c42, c54, c58⟩ := hJ
  refine ct_of RX9 rfl (by decide +kernel) [(0, .ref (ad 39)), (1, .int (p)), (2, .int (q))] rfl (Nat.le_of_ble_eq_true rfl) (fun G C T => ?_)
  refine r_aload_n C 0 dX9_hold_0 rfl rfl ?_
  refine r_iload_n C 1 dX9_hold_1 rfl rfl ?_
  refine r_callV C (k := 39) [.int (p)] [] (c_X9_isPermit E ad σ  (p) hM) lv_X9_262 (by decide) rfl rfl (by decide) (by decide) rfl rfl (Nat.le_of_ble_eq_true rfl) dX9_hold_2 (fun r_1 τ_2 h_3 => ?_)
  obtain ⟨eh_3, h_3⟩ := h_3
  obtain rfl := eh_3.symm
  refine r_if_eq C 20 dX9_hold_5 (by decide) (fun c_4 => ?_) (fun c_4 => ?_)
  · -- to 20
    refine r_bipush C (-9) dX9_hold_20 (by decide) ?_
    exact r_iret C T dX9_hold_22 (⟨Or.inl rfl, fun _ => k_m9⟩)
  · -- to 8
    refine r_iload_n C 2 dX9_hold_8 rfl rfl ?_
    refine r_iconst C (-1) dX9_hold_9 (by decide) ?_
    refine r_icmp_eq C 23 dX9_hold_10 (by decide) (fun c_5 => ?_) (fun c_5 => ?_)
    · -- to 23
      refine r_aload_n C 0 dX9_hold_23 rfl rfl ?_
      refine r_get C (k := 39) (v := .ref (ad 57)) f_X9_62 (by decide) rfl rfl dX9_hold_24 ?_
      refine r_iload_n C 1 dX9_hold_27 rfl rfl ?_
      refine r_iald C (k := 57) (by decide) rfl (by omega) (σ 57 ((p : Int32).toInt.toNat)) rfl dX9_hold_28 ?_
      refine r_iconst C (5) dX9_hold_29 (by decide) ?_
      refine r_icmp_eq C 57 dX9_hold_30 (by decide) (fun c_7 => ?_) (fun c_7 => ?_)
      · -- to 57
        refine r_bipush C (-4) dX9_hold_57 (by decide) ?_
        exact r_iret C T dX9_hold_59 (⟨Or.inl rfl, fun h => absurd h (by omega)⟩)
      · -- to 33
        refine r_aload_n C 0 dX9_hold_33 rfl rfl ?_
        refine r_get C (k := 39) (v := .ref (ad 57)) f_X9_62 (by decide) rfl rfl dX9_hold_34 ?_
        refine r_iload_n C 1 dX9_hold_37 rfl rfl ?_
        refine r_iald C (k := 57) (by decide) rfl (by omega) (σ 57 ((p : Int32).toInt.toNat)) rfl dX9_hold_38 ?_
        refine r_iconst C (3) dX9_hold_39 (by decide) ?_
        refine r_icmp_ne C 60 dX9_hold_40 (by decide) (fun c_9 => ?_) (fun c_9 => ?_)
        · -- to 60
          refine r_aload_n C 0 dX9_hold_60 rfl rfl ?_
          refine r_get C (k := 39) (v := .ref (ad 58)) f_X9_65 (by decide) rfl rfl dX9_hold_61 ?_
          refine r_iload_n C 1 dX9_hold_64 rfl rfl ?_
          refine r_iald C (k := 58) (by decide) rfl (by omega) (σ 58 ((p : Int32).toInt.toNat)) rfl dX9_hold_65 ?_
          refine r_istore_n C [(3, .int (σ 58 ((p : Int32).toInt.toNat))), (0, .ref (ad 39)), (1, .int (p)), (2, .int (q))] dX9_hold_66 rfl (by decide) rfl ?_
          refine r_aload_n C 1 dX9_hold_67 rfl rfl ?_
          refine r_get C (k := 39) (v := .ref (ad 58)) f_X9_65 (by decide) rfl rfl dX9_hold_68 ?_
          refine r_iload_n C 2 dX9_hold_71 rfl rfl ?_
          refine r_iload_n C 3 dX9_hold_72 rfl rfl ?_
          refine r_iast C (k := 58) (by decide) (fun _ => rfl) (by omega) dX9_hold_73 ?_
          refine r_iload_n C 0 dX9_hold_74 rfl rfl ?_
          exact r_iret C T dX9_hold_75 (⟨Or.inr ⟨_, rfl, by omega⟩, fun h => absurd h (by omega)⟩)
        · -- to 43
          refine r_iload_n C 2 dX9_hold_43 rfl rfl ?_
          refine r_iconst C (-1) dX9_hold_44 (by decide) ?_
          refine r_icmp_eq C 57 dX9_hold_45 (by decide) (fun c_11 => ?_) (fun c_11 => ?_)
          · -- to 57
            refine r_bipush C (-4) dX9_hold_57 (by decide) ?_
            exact r_iret C T dX9_hold_59 (⟨Or.inl rfl, fun h => absurd h (by omega)⟩)
          · -- to 48
            refine r_aload_n C 0 dX9_hold_48 rfl rfl ?_
            refine r_get C (k := 39) (v := .ref (ad 52)) f_X9_47 (by decide) rfl rfl dX9_hold_49 ?_
            refine r_iload_n C 2 dX9_hold_52 rfl rfl ?_
            refine r_zald C (k := 52) (by decide) rfl (by omega) (σ 52 ((q : Int32).toInt.toNat)) rfl dX9_hold_53 ?_
            refine r_if_eq C 60 dX9_hold_54 (by decide) (fun c_13 => ?_) (fun c_13 => ?_)
            · -- to 60
              refine r_aload_n C 0 dX9_hold_60 rfl rfl ?_
              refine r_get C (k := 39) (v := .ref (ad 58)) f_X9_65 (by decide) rfl rfl dX9_hold_61 ?_
              refine r_iload_n C 1 dX9_hold_64 rfl rfl ?_
              refine r_iald C (k := 58) (by decide) rfl (by omega) (σ 58 ((p : Int32).toInt.toNat)) rfl dX9_hold_65 ?_
              refine r_istore_n C [(3, .int (σ 58 ((p : Int32).toInt.toNat))), (0, .ref (ad 39)), (1, .int (p)), (2, .int (q))] dX9_hold_66 rfl (by decide) rfl ?_
              refine r_aload_n C 1 dX9_hold_67 rfl rfl ?_
              refine r_get C (k := 39) (v := .ref (ad 58)) f_X9_65 (by decide) rfl rfl dX9_hold_68 ?_
              refine r_iload_n C 2 dX9_hold_71 rfl rfl ?_
              refine r_iload_n C 3 dX9_hold_72 rfl rfl ?_
              refine r_iast C (k := 58) (by decide) (fun _ => rfl) (by omega) dX9_hold_73 ?_
              refine r_iload_n C 0 dX9_hold_74 rfl rfl ?_
              exact r_iret C T dX9_hold_75 (⟨Or.inr ⟨_, rfl, by omega⟩, fun h => absurd h (by omega)⟩)
            · -- to 57
              refine r_bipush C (-4) dX9_hold_57 (by decide) ?_
              exact r_iret C T dX9_hold_59 (⟨Or.inl rfl, fun h => absurd h (by omega)⟩)
    · -- to 13
      refine r_iload_n C 2 dX9_hold_13 rfl rfl ?_
      refine r_callS C [.int (q)] [] (c_X9_isMan E ad σ  (q) ) ls_X9_265 (by decide) (by decide) rfl rfl (Nat.le_of_ble_eq_true rfl) dX9_hold_14 (fun r_15 τ_16 h_17 => ?_)
      obtain ⟨eh_17, h_17⟩ := h_17
      obtain rfl := eh_17.symm
      refine r_if_ne C 23 dX9_hold_17 (by decide) (fun c_18 => ?_) (fun c_18 => ?_)
      · -- to 23
        refine r_aload_n C 0 dX9_hold_23 rfl rfl ?_
        refine r_get C (k := 39) (v := .ref (ad 57)) f_X9_62 (by decide) rfl rfl dX9_hold_24 ?_
        refine r_iload_n C 1 dX9_hold_27 rfl rfl ?_
        refine r_iald C (k := 57) (by decide) rfl (by omega) (σ 57 ((p : Int32).toInt.toNat)) rfl dX9_hold_28 ?_
        refine r_iconst C (5) dX9_hold_29 (by decide) ?_
        refine r_icmp_eq C 57 dX9_hold_30 (by decide) (fun c_20 => ?_) (fun c_20 => ?_)
        · -- to 57
          refine r_bipush C (-4) dX9_hold_57 (by decide) ?_
          exact r_iret C T dX9_hold_59 (⟨Or.inl rfl, fun h => absurd h (by omega)⟩)
        · -- to 33
          refine r_aload_n C 0 dX9_hold_33 rfl rfl ?_
          refine r_get C (k := 39) (v := .ref (ad 57)) f_X9_62 (by decide) rfl rfl dX9_hold_34 ?_
          refine r_iload_n C 1 dX9_hold_37 rfl rfl ?_
          refine r_iald C (k := 57) (by decide) rfl (by omega) (σ 57 ((p : Int32).toInt.toNat)) rfl dX9_hold_38 ?_
          refine r_iconst C (3) dX9_hold_39 (by decide) ?_
          refine r_icmp_ne C 60 dX9_hold_40 (by decide) (fun c_22 => ?_) (fun c_22 => ?_)
          · -- to 60
            refine r_aload_n C 0 dX9_hold_60 rfl rfl ?_
            refine r_get C (k := 39) (v := .ref (ad 58)) f_X9_65 (by decide) rfl rfl dX9_hold_61 ?_
            refine r_iload_n C 1 dX9_hold_64 rfl rfl ?_
            refine r_iald C (k := 58) (by decide) rfl (by omega) (σ 58 ((p : Int32).toInt.toNat)) rfl dX9_hold_65 ?_
            refine r_istore_n C [(3, .int (σ 58 ((p : Int32).toInt.toNat))), (0, .ref (ad 39)), (1, .int (p)), (2, .int (q))] dX9_hold_66 rfl (by decide) rfl ?_
            refine r_aload_n C 1 dX9_hold_67 rfl rfl ?_
            refine r_get C (k := 39) (v := .ref (ad 58)) f_X9_65 (by decide) rfl rfl dX9_hold_68 ?_
            refine r_iload_n C 2 dX9_hold_71 rfl rfl ?_
            refine r_iload_n C 3 dX9_hold_72 rfl rfl ?_
            refine r_iast C (k := 58) (by decide) (fun _ => rfl) (by omega) dX9_hold_73 ?_
            refine r_iload_n C 0 dX9_hold_74 rfl rfl ?_
            exact r_iret C T dX9_hold_75 (⟨Or.inr ⟨_, rfl, by omega⟩, fun h => absurd h (by omega)⟩)
          · -- to 43
            refine r_iload_n C 2 dX9_hold_43 rfl rfl ?_
            refine r_iconst C (-1) dX9_hold_44 (by decide) ?_
            refine r_icmp_eq C 57 dX9_hold_45 (by decide) (fun c_24 => ?_) (fun c_24 => ?_)
            · -- to 57
              refine r_bipush C (-4) dX9_hold_57 (by decide) ?_
              exact r_iret C T dX9_hold_59 (⟨Or.inl rfl, fun h => absurd h (by omega)⟩)
            · -- to 48
              refine r_aload_n C 0 dX9_hold_48 rfl rfl ?_
              refine r_get C (k := 39) (v := .ref (ad 52)) f_X9_47 (by decide) rfl rfl dX9_hold_49 ?_
              refine r_iload_n C 2 dX9_hold_52 rfl rfl ?_
              refine r_zald C (k := 52) (by decide) rfl (by omega) (σ 52 ((q : Int32).toInt.toNat)) rfl dX9_hold_53 ?_
              refine r_if_eq C 60 dX9_hold_54 (by decide) (fun c_26 => ?_) (fun c_26 => ?_)
              · -- to 60
                refine r_aload_n C 0 dX9_hold_60 rfl rfl ?_
                refine r_get C (k := 39) (v := .ref (ad 58)) f_X9_65 (by decide) rfl rfl dX9_hold_61 ?_
                refine r_iload_n C 1 dX9_hold_64 rfl rfl ?_
                refine r_iald C (k := 58) (by decide) rfl (by omega) (σ 58 ((p : Int32).toInt.toNat)) rfl dX9_hold_65 ?_
                refine r_istore_n C [(3, .int (σ 58 ((p : Int32).toInt.toNat))), (0, .ref (ad 39)), (1, .int (p)), (2, .int (q))] dX9_hold_66 rfl (by decide) rfl ?_
                refine r_aload_n C 1 dX9_hold_67 rfl rfl ?_
                refine r_get C (k := 39) (v := .ref (ad 58)) f_X9_65 (by decide) rfl rfl dX9_hold_68 ?_
                refine r_iload_n C 2 dX9_hold_71 rfl rfl ?_
                refine r_iload_n C 3 dX9_hold_72 rfl rfl ?_
                refine r_iast C (k := 58) (by decide) (fun _ => rfl) (by omega) dX9_hold_73 ?_
                refine r_iload_n C 0 dX9_hold_74 rfl rfl ?_
                exact r_iret C T dX9_hold_75 (⟨Or.inr ⟨_, rfl, by omega⟩, fun h => absurd h (by omega)⟩)
              · -- to 57
                refine r_bipush C (-4) dX9_hold_57 (by decide) ?_
                exact r_iret C T dX9_hold_59 (⟨Or.inl rfl, fun h => absurd h (by omega)⟩)
      · -- to 20
        refine r_bipush C (-9) dX9_hold_20 (by decide) ?_
        exact r_iret C T dX9_hold_22 (⟨Or.inl rfl, fun _ => k_m9⟩)
set_option maxHeartbeats 4000000 in
set_option maxRecDepth 100000 in
theorem c_X9_rules (E : Ev) (ad : Nat → Nat) (σ : Sg) (p : Int32) (q : Int32) (u : Int32) (hp : 0 ≤ p.toInt ∧ p.toInt < 12) (hu : 0 ≤ u.toInt ∧ u.toInt < 7) : Ct E ad yX9_rules cX9_rules 4 (some .boolean) 1 [.ref (ad 39), .int p, .int q, .int u] σ (fun r τ => τ = σ ∧ (r.toInt = 0 ∨ r.toInt = 1)) := by
  have k_0 : (0 : Int32).toInt = 0 := by decide
  have k_1 : (1 : Int32).toInt = 1 := by decide
  refine ct_of RX9 rfl (by decide +kernel) [(0, .ref (ad 39)), (1, .int (p)), (2, .int (q)), (3, .int (u))] rfl (Nat.le_of_ble_eq_true rfl) (fun G C T => ?_)
  refine r_aload_n C 0 dX9_rules_0 rfl rfl ?_
  refine r_get C (k := 39) (v := .ref (ad 46)) f_X9_29 (by decide) rfl rfl dX9_rules_1 ?_
  refine r_iload_n C 1 dX9_rules_4 rfl rfl ?_
  refine r_iald C (k := 46) (by decide) rfl (by omega) (σ 46 ((p : Int32).toInt.toNat)) rfl dX9_rules_5 ?_
  refine r_iload_n C 2 dX9_rules_6 rfl rfl ?_
  refine r_icmp_ne C 41 dX9_rules_7 (by decide) (fun c_2 => ?_) (fun c_2 => ?_)
  · -- to 41
    refine r_iconst C (0) dX9_rules_41 (by decide) ?_
    exact r_zret C T dX9_rules_42 (by omega) (⟨rfl, by omega⟩)
  · -- to 10
    refine r_aload_n C 0 dX9_rules_10 rfl rfl ?_
    refine r_get C (k := 39) (v := .ref (ad 47)) f_X9_32 (by decide) rfl rfl dX9_rules_11 ?_
    refine r_iload_n C 1 dX9_rules_14 rfl rfl ?_
    refine r_iald C (k := 47) (by decide) rfl (by omega) (σ 47 ((p : Int32).toInt.toNat)) rfl dX9_rules_15 ?_
    refine r_aload_n C 0 dX9_rules_16 rfl rfl ?_
    refine r_get C (k := 39) (v := .ref (ad 55)) f_X9_56 (by decide) rfl rfl dX9_rules_17 ?_
    refine r_iload_n C 3 dX9_rules_20 rfl rfl ?_
    refine r_iald C (k := 55) (by decide) rfl (by omega) (σ 55 ((u : Int32).toInt.toNat)) rfl dX9_rules_21 ?_
    refine r_icmp_ne C 41 dX9_rules_22 (by decide) (fun c_5 => ?_) (fun c_5 => ?_)
    · -- to 41
      refine r_iconst C (0) dX9_rules_41 (by decide) ?_
      exact r_zret C T dX9_rules_42 (by omega) (⟨rfl, by omega⟩)
    · -- to 25
      refine r_aload_n C 0 dX9_rules_25 rfl rfl ?_
      refine r_iload_n C 1 dX9_rules_26 rfl rfl ?_
      refine r_aload_n C 0 dX9_rules_27 rfl rfl ?_
      refine r_get C (k := 39) (v := .int (σ 39 0)) f_X9_119 (by decide) rfl rfl dX9_rules_28 ?_
      refine r_callV C (k := 39) [.int (p), .int (σ 39 0)] [] (c_X9_isInForce E ad σ  (p) (σ 39 0) (by omega)) lv_X9_143 (by decide) rfl rfl (by decide) (by decide) rfl rfl (Nat.le_of_ble_eq_true rfl) dX9_rules_31 (fun r_6 τ_7 h_8 => ?_)
      obtain ⟨eh_8, h_8⟩ := h_8
      obtain rfl := eh_8.symm
      refine r_if_eq C 41 dX9_rules_34 (by decide) (fun c_9 => ?_) (fun c_9 => ?_)
      · -- to 41
        refine r_iconst C (0) dX9_rules_41 (by decide) ?_
        exact r_zret C T dX9_rules_42 (by omega) (⟨rfl, by omega⟩)
      · -- to 37
        refine r_iconst C (1) dX9_rules_37 (by decide) ?_
        refine r_goto C 42 dX9_rules_38 (by decide) ?_
        exact r_zret C T dX9_rules_42 (by omega) (⟨rfl, by omega⟩)
set_option maxHeartbeats 4000000 in
set_option maxRecDepth 100000 in
theorem c_X9_lacksTest (E : Ev) (ad : Nat → Nat) (σ : Sg) (p : Int32) (hM : IM σ) (hp : 0 ≤ p.toInt ∧ p.toInt < 7) : Ct E ad yX9_lacksTest cX9_lacksTest 5 (some .boolean) 2 [.ref (ad 39), .int p] σ (fun r τ => τ = σ ∧ (r.toInt = 0 ∨ r.toInt = 1)) := by
  have k_0 : (0 : Int32).toInt = 0 := by decide
  have k_1 : (1 : Int32).toInt = 1 := by decide
  have k_10 : (10 : Int32).toInt = 10 := by decide
  have hJ := hM
  unfold IM at hJ
  obtain ⟨n0, n1, n8, n17, n29, n39, n44, c40, c41, c42, c54, c58⟩ := hJ
  refine ct_of RX9 rfl (by decide +kernel) [(0, .ref (ad 39)), (1, .int (p))] rfl (Nat.le_of_ble_eq_true rfl) (fun G C T => ?_)
  refine r_iconst C (0) dX9_lacksTest_0 (by decide) ?_
  refine r_istore_n C [(2, .int (0)), (0, .ref (ad 39)), (1, .int (p))] dX9_lacksTest_1 rfl (by decide) rfl ?_
  refine r_iconst C (0) dX9_lacksTest_2 (by decide) ?_
  refine r_istore_n C [(3, .int (0)), (2, .int (0)), (0, .ref (ad 39)), (1, .int (p))] dX9_lacksTest_3 rfl (by decide) rfl ?_
  have L_4 : ∀ (n : Nat), ∀ (a : Int32) (i : Int32), (0 ≤ i.toInt ∧ i.toInt ≤ 12) → (a.toInt = 0 ∨ a.toInt = 1) → 12 - i.toInt < (n : Int) → At E ad G 5 4 [(3, .int (i)), (2, .int (a)), (0, .ref (ad 39)), (1, .int (p))] [] σ := by
    intro n
    induction n with
    | zero =>
      intro a i hi ha hm
      exact absurd hm (by omega)
    | succ n ih =>
      intro a i hi ha hm
      have ih_4 := ih
      clear ih
      refine r_iload_n C 0 dX9_lacksTest_4 rfl rfl ?_
      refine r_aload_n C 2 dX9_lacksTest_5 rfl rfl ?_
      refine r_get C (k := 39) (v := .int (σ 39 8)) f_X9_140 (by decide) rfl rfl dX9_lacksTest_6 ?_
      refine r_icmp_ge C 90 dX9_lacksTest_9 (by decide) (fun c_1 => ?_) (fun c_1 => ?_)
      · -- to 90
        refine r_iload_n C 1 dX9_lacksTest_90 rfl rfl ?_
        exact r_zret C T dX9_lacksTest_91 (by omega) (⟨rfl, by omega⟩)
      · -- to 12
        have L_57 : ∀ (b : Int32), At E ad G 5 57 [(3, .int (i)), (2, .int (a)), (0, .ref (ad 39)), (1, .int (p))] [.int (b)] σ := by
          intro b
          refine r_istore C [(4, .int (b)), (3, .int (i)), (2, .int (a)), (0, .ref (ad 39)), (1, .int (p))] dX9_lacksTest_57 (by decide) rfl ?_
          have L_83 : ∀ (c : Int32), (c.toInt = 0 ∨ c.toInt = 1) → At E ad G 5 83 [(4, .int (b)), (3, .int (i)), (2, .int (a)), (0, .ref (ad 39)), (1, .int (p))] [.int (c)] σ := by
            intro c hc
            refine r_istore_n C [(2, .int (c)), (4, .int (b)), (3, .int (i)), (0, .ref (ad 39)), (1, .int (p))] dX9_lacksTest_83 rfl (by decide) rfl ?_
            refine r_iinc C 2 (fun z => [(3, .int (z)), (2, .int (c)), (4, .int (b)), (0, .ref (ad 39)), (1, .int (p))]) dX9_lacksTest_84 rfl (by decide) (by decide) (by omega) (fun _ => rfl) (fun z_2 hz_3 => ?_)
            refine r_goto C 4 dX9_lacksTest_87 (by decide) ?_
            exact At.sub [0, 1, 3, 4] rfl (ih_4 (c : Int32) (z_2 : Int32) (by omega) (by omega) (by omega))
          refine r_iload_n C 2 dX9_lacksTest_59 rfl rfl ?_
          refine r_if_ne C 78 dX9_lacksTest_60 (by decide) (fun c_4 => ?_) (fun c_4 => ?_)
          · -- to 78
            refine r_iconst C (1) dX9_lacksTest_78 (by decide) ?_
            refine r_goto C 83 dX9_lacksTest_79 (by decide) ?_
            exact At.sub [0, 1, 2, 3, 4] rfl (L_83 (1 : Int32) (by omega))
          · -- to 63
            refine r_aload_n C 3 dX9_lacksTest_63 rfl rfl ?_
            refine r_iload_n C 1 dX9_lacksTest_64 rfl rfl ?_
            refine r_iconst C (0) dX9_lacksTest_65 (by decide) ?_
            refine r_iload_n C 4 dX9_lacksTest_66 rfl rfl ?_
            refine r_callV C (k := 39) [.int (i), .int (0), .int (p)] [] (c_X9_rules E ad σ  (i) (0) (p) (by omega) (by omega)) lv_X9_268 (by decide) rfl rfl (by decide) (by decide) rfl rfl (Nat.le_of_ble_eq_true rfl) dX9_lacksTest_67 (fun r_5 τ_6 h_7 => ?_)
            obtain ⟨eh_7, h_7⟩ := h_7
            obtain rfl := eh_7.symm
            refine r_if_eq C 82 dX9_lacksTest_70 (by decide) (fun c_8 => ?_) (fun c_8 => ?_)
            · -- to 82
              refine r_iconst C (0) dX9_lacksTest_82 (by decide) ?_
              exact At.sub [0, 1, 2, 3, 4] rfl (L_83 (0 : Int32) (by omega))
            · -- to 73
              refine r_iload C 0 dX9_lacksTest_73 rfl ?_
              refine r_if_ne C 82 dX9_lacksTest_75 (by decide) (fun c_9 => ?_) (fun c_9 => ?_)
              · -- to 82
                refine r_iconst C (0) dX9_lacksTest_82 (by decide) ?_
                exact At.sub [0, 1, 2, 3, 4] rfl (L_83 (0 : Int32) (by omega))
              · -- to 78
                refine r_iconst C (1) dX9_lacksTest_78 (by decide) ?_
                refine r_goto C 83 dX9_lacksTest_79 (by decide) ?_
                exact At.sub [0, 1, 2, 3, 4] rfl (L_83 (1 : Int32) (by omega))
        refine r_aload_n C 2 dX9_lacksTest_12 rfl rfl ?_
        refine r_get C (k := 39) (v := .ref (ad 59)) f_X9_68 (by decide) rfl rfl dX9_lacksTest_13 ?_
        refine r_iload_n C 3 dX9_lacksTest_16 rfl rfl ?_
        refine r_iald C (k := 59) (by decide) rfl (by omega) (σ 59 ((p : Int32).toInt.toNat)) rfl dX9_lacksTest_17 ?_
        refine r_if_lt C 56 dX9_lacksTest_18 (by decide) (fun c_11 => ?_) (fun c_11 => ?_)
        · -- to 56
          refine r_iconst C (0) dX9_lacksTest_56 (by decide) ?_
          exact At.sub [0, 1, 2, 3] rfl (L_57 (0 : Int32) )
        · -- to 21
          refine r_aload_n C 2 dX9_lacksTest_21 rfl rfl ?_
          refine r_get C (k := 39) (v := .ref (ad 59)) f_X9_68 (by decide) rfl rfl dX9_lacksTest_22 ?_
          refine r_iload_n C 3 dX9_lacksTest_25 rfl rfl ?_
          refine r_iald C (k := 59) (by decide) rfl (by omega) (σ 59 ((p : Int32).toInt.toNat)) rfl dX9_lacksTest_26 ?_
          refine r_bipush C (10) dX9_lacksTest_27 (by decide) ?_
          refine r_icmp_gt C 56 dX9_lacksTest_29 (by decide) (fun c_13 => ?_) (fun c_13 => ?_)
          · -- to 56
            refine r_iconst C (0) dX9_lacksTest_56 (by decide) ?_
            exact At.sub [0, 1, 2, 3] rfl (L_57 (0 : Int32) )
          · -- to 32
            refine r_aload_n C 2 dX9_lacksTest_32 rfl rfl ?_
            refine r_get C (k := 39) (v := .int (σ 39 0)) f_X9_119 (by decide) rfl rfl dX9_lacksTest_33 ?_
            refine r_aload_n C 2 dX9_lacksTest_36 rfl rfl ?_
            refine r_get C (k := 39) (v := .ref (ad 60)) f_X9_71 (by decide) rfl rfl dX9_lacksTest_37 ?_
            refine r_iload_n C 3 dX9_lacksTest_40 rfl rfl ?_
            refine r_iald C (k := 60) (by decide) rfl (by omega) (σ 60 ((p : Int32).toInt.toNat)) rfl dX9_lacksTest_41 ?_
            refine r_isub C dX9_lacksTest_42 ?_
            refine r_nm (P := fun z => z = (σ 39 0) - (σ 60 ((p : Int32).toInt.toNat))) rfl (fun z_15 hz_16 => ?_)
            refine r_aload_n C 2 dX9_lacksTest_43 rfl rfl ?_
            refine r_get C (k := 39) (v := .ref (ad 48)) f_X9_35 (by decide) rfl rfl dX9_lacksTest_44 ?_
            refine r_iload_n C 0 dX9_lacksTest_47 rfl rfl ?_
            refine r_iald C (k := 48) (by decide) rfl (by omega) (σ 48 ((i : Int32).toInt.toNat)) rfl dX9_lacksTest_48 ?_
            refine r_icmp_gt C 56 dX9_lacksTest_49 (by decide) (fun c_18 => ?_) (fun c_18 => ?_)
            · -- to 56
              refine r_iconst C (0) dX9_lacksTest_56 (by decide) ?_
              exact At.sub [0, 1, 2, 3] rfl (L_57 (0 : Int32) )
            · -- to 52
              refine r_iconst C (1) dX9_lacksTest_52 (by decide) ?_
              refine r_goto C 57 dX9_lacksTest_53 (by decide) ?_
              exact At.sub [0, 1, 2, 3] rfl (L_57 (1 : Int32) )
  exact At.sub [0, 1, 2, 3] rfl (L_4 ((12 - (0 : Int32).toInt).toNat + 1) (0 : Int32) (0 : Int32) (by omega) (by omega) (by omega))
set_option maxHeartbeats 4000000 in
set_option maxRecDepth 100000 in
theorem c_X9_within (E : Ev) (ad : Nat → Nat) (σ : Sg) (p : Int32) (q : Int32) (hM : IM σ) : Ct E ad yX9_within cX9_within 6 (some .int) 1 [.ref (ad 39), .int p, .int q] σ (fun r τ => τ = σ ∧ True) := by
  have k_m1 : (-1 : Int32).toInt = -1 := by decide
  have k_0 : (0 : Int32).toInt = 0 := by decide
  have k_1 : (1 : Int32).toInt = 1 := by decide
  have hJ := hM
  unfold IM at hJ
  obtain ⟨n0, n1, n8, n17, n29, n39, n44, c40, c41, c42, c54, c58⟩ := hJ
  refine ct_of RX9 rfl (by decide +kernel) [(0, .ref (ad 39)), (1, .int (p)), (2, .int (q))] rfl (Nat.le_of_ble_eq_true rfl) (fun G C T => ?_)
  refine r_iconst C (-1) dX9_within_0 (by decide) ?_
  refine r_istore_n C [(3, .int ((-1))), (0, .ref (ad 39)), (1, .int (p)), (2, .int (q))] dX9_within_1 rfl (by decide) rfl ?_
  refine r_iconst C (0) dX9_within_2 (by decide) ?_
  refine r_istore C [(4, .int (0)), (3, .int ((-1))), (0, .ref (ad 39)), (1, .int (p)), (2, .int (q))] dX9_within_3 (by decide) rfl ?_
  have L_5 : ∀ (n : Nat), ∀ (a : Int32) (i : Int32), (0 ≤ i.toInt ∧ i.toInt ≤ 12) → 12 - i.toInt < (n : Int) → At E ad G 6 5 [(4, .int (i)), (3, .int (a)), (0, .ref (ad 39)), (1, .int (p)), (2, .int (q))] [] σ := by
    intro n
    induction n with
    | zero =>
      intro a i hi hm
      exact absurd hm (by omega)
    | succ n ih =>
      intro a i hi hm
      have ih_5 := ih
      clear ih
      refine r_iload C 0 dX9_within_5 rfl ?_
      refine r_aload_n C 2 dX9_within_7 rfl rfl ?_
      refine r_get C (k := 39) (v := .int (σ 39 8)) f_X9_140 (by decide) rfl rfl dX9_within_8 ?_
      refine r_icmp_ge C 119 dX9_within_11 (by decide) (fun c_1 => ?_) (fun c_1 => ?_)
      · -- to 119
        refine r_iload_n C 1 dX9_within_119 rfl rfl ?_
        exact r_iret C T dX9_within_120 (⟨rfl, trivial⟩)
      · -- to 14
        have L_63 : ∀ (b : Int32), At E ad G 6 63 [(4, .int (i)), (3, .int (a)), (0, .ref (ad 39)), (1, .int (p)), (2, .int (q))] [.int (b)] σ := by
          intro b
          refine r_istore C [(5, .int (b)), (4, .int (i)), (3, .int (a)), (0, .ref (ad 39)), (1, .int (p)), (2, .int (q))] dX9_within_63 (by decide) rfl ?_
          have L_113 : ∀ (c : Int32), At E ad G 6 113 [(4, .int (i)), (3, .int (c)), (0, .ref (ad 39)), (1, .int (p)), (2, .int (q))] [] σ := by
            intro c
            refine r_iinc C 0 (fun z => [(4, .int (z)), (3, .int (c)), (0, .ref (ad 39)), (1, .int (p)), (2, .int (q))]) dX9_within_113 rfl (by decide) (by decide) (by omega) (fun _ => rfl) (fun z_2 hz_3 => ?_)
            refine r_goto C 5 dX9_within_116 (by decide) ?_
            exact At.sub [0, 1, 2, 3, 4] rfl (ih_5 (c : Int32) (z_2 : Int32) (by omega) (by omega))
          refine r_aload_n C 3 dX9_within_65 rfl rfl ?_
          refine r_get C (k := 39) (v := .ref (ad 46)) f_X9_29 (by decide) rfl rfl dX9_within_66 ?_
          refine r_iload C 1 dX9_within_69 rfl ?_
          refine r_iald C (k := 46) (by decide) rfl (by omega) (σ 46 ((i : Int32).toInt.toNat)) rfl dX9_within_71 ?_
          refine r_iconst C (1) dX9_within_72 (by decide) ?_
          refine r_icmp_ne C 113 dX9_within_73 (by decide) (fun c_5 => ?_) (fun c_5 => ?_)
          · -- to 113
            exact At.sub [1, 2, 3, 4, 5] rfl (L_113 (a : Int32) )
          · -- to 76
            refine r_iload C 0 dX9_within_76 rfl ?_
            refine r_if_eq C 113 dX9_within_78 (by decide) (fun c_6 => ?_) (fun c_6 => ?_)
            · -- to 113
              exact At.sub [1, 2, 3, 4, 5] rfl (L_113 (a : Int32) )
            · -- to 81
              refine r_aload_n C 3 dX9_within_81 rfl rfl ?_
              refine r_iload C 1 dX9_within_82 rfl ?_
              refine r_aload_n C 3 dX9_within_84 rfl rfl ?_
              refine r_get C (k := 39) (v := .int (σ 39 0)) f_X9_119 (by decide) rfl rfl dX9_within_85 ?_
              refine r_callV C (k := 39) [.int (i), .int (σ 39 0)] [] (c_X9_isInForce E ad σ  (i) (σ 39 0) (by omega)) lv_X9_143 (by decide) rfl rfl (by decide) (by decide) rfl rfl (Nat.le_of_ble_eq_true rfl) dX9_within_88 (fun r_7 τ_8 h_9 => ?_)
              obtain ⟨eh_9, h_9⟩ := h_9
              obtain rfl := eh_9.symm
              refine r_if_eq C 113 dX9_within_91 (by decide) (fun c_10 => ?_) (fun c_10 => ?_)
              · -- to 113
                exact At.sub [1, 2, 3, 4, 5] rfl (L_113 (a : Int32) )
              · -- to 94
                refine r_aload_n C 3 dX9_within_94 rfl rfl ?_
                refine r_get C (k := 39) (v := .ref (ad 49)) f_X9_38 (by decide) rfl rfl dX9_within_95 ?_
                refine r_iload C 1 dX9_within_98 rfl ?_
                refine r_iald C (k := 49) (by decide) rfl (by omega) (σ 49 ((i : Int32).toInt.toNat)) rfl dX9_within_100 ?_
                refine r_iload_n C 2 dX9_within_101 rfl rfl ?_
                refine r_icmp_le C 113 dX9_within_102 (by decide) (fun c_12 => ?_) (fun c_12 => ?_)
                · -- to 113
                  exact At.sub [1, 2, 3, 4, 5] rfl (L_113 (a : Int32) )
                · -- to 105
                  refine r_aload_n C 3 dX9_within_105 rfl rfl ?_
                  refine r_get C (k := 39) (v := .ref (ad 49)) f_X9_38 (by decide) rfl rfl dX9_within_106 ?_
                  refine r_iload C 1 dX9_within_109 rfl ?_
                  refine r_iald C (k := 49) (by decide) rfl (by omega) (σ 49 ((i : Int32).toInt.toNat)) rfl dX9_within_111 ?_
                  refine r_istore_n C [(3, .int (σ 49 ((i : Int32).toInt.toNat))), (5, .int (b)), (4, .int (i)), (0, .ref (ad 39)), (1, .int (p)), (2, .int (q))] dX9_within_112 rfl (by decide) rfl ?_
                  exact At.sub [2, 0, 3, 4, 5] rfl (L_113 (σ 49 ((i : Int32).toInt.toNat) : Int32) )
        refine r_aload_n C 2 dX9_within_14 rfl rfl ?_
        refine r_get C (k := 39) (v := .ref (ad 47)) f_X9_32 (by decide) rfl rfl dX9_within_15 ?_
        refine r_iload C 0 dX9_within_18 rfl ?_
        refine r_iald C (k := 47) (by decide) rfl (by omega) (σ 47 ((i : Int32).toInt.toNat)) rfl dX9_within_20 ?_
        refine r_iload_n C 3 dX9_within_21 rfl rfl ?_
        refine r_icmp_ne C 36 dX9_within_22 (by decide) (fun c_15 => ?_) (fun c_15 => ?_)
        · -- to 36
          refine r_aload_n C 2 dX9_within_36 rfl rfl ?_
          refine r_get C (k := 39) (v := .ref (ad 47)) f_X9_32 (by decide) rfl rfl dX9_within_37 ?_
          refine r_iload C 0 dX9_within_40 rfl ?_
          refine r_iald C (k := 47) (by decide) rfl (by omega) (σ 47 ((i : Int32).toInt.toNat)) rfl dX9_within_42 ?_
          refine r_iload_n C 4 dX9_within_43 rfl rfl ?_
          refine r_icmp_ne C 62 dX9_within_44 (by decide) (fun c_17 => ?_) (fun c_17 => ?_)
          · -- to 62
            refine r_iconst C (0) dX9_within_62 (by decide) ?_
            exact At.sub [0, 1, 2, 3, 4] rfl (L_63 (0 : Int32) )
          · -- to 47
            refine r_aload_n C 2 dX9_within_47 rfl rfl ?_
            refine r_get C (k := 39) (v := .ref (ad 48)) f_X9_35 (by decide) rfl rfl dX9_within_48 ?_
            refine r_iload C 0 dX9_within_51 rfl ?_
            refine r_iald C (k := 48) (by decide) rfl (by omega) (σ 48 ((i : Int32).toInt.toNat)) rfl dX9_within_53 ?_
            refine r_iload_n C 3 dX9_within_54 rfl rfl ?_
            refine r_icmp_ne C 62 dX9_within_55 (by decide) (fun c_19 => ?_) (fun c_19 => ?_)
            · -- to 62
              refine r_iconst C (0) dX9_within_62 (by decide) ?_
              exact At.sub [0, 1, 2, 3, 4] rfl (L_63 (0 : Int32) )
            · -- to 58
              refine r_iconst C (1) dX9_within_58 (by decide) ?_
              refine r_goto C 63 dX9_within_59 (by decide) ?_
              exact At.sub [0, 1, 2, 3, 4] rfl (L_63 (1 : Int32) )
        · -- to 25
          refine r_aload_n C 2 dX9_within_25 rfl rfl ?_
          refine r_get C (k := 39) (v := .ref (ad 48)) f_X9_35 (by decide) rfl rfl dX9_within_26 ?_
          refine r_iload C 0 dX9_within_29 rfl ?_
          refine r_iald C (k := 48) (by decide) rfl (by omega) (σ 48 ((i : Int32).toInt.toNat)) rfl dX9_within_31 ?_
          refine r_iload_n C 4 dX9_within_32 rfl rfl ?_
          refine r_icmp_eq C 58 dX9_within_33 (by decide) (fun c_21 => ?_) (fun c_21 => ?_)
          · -- to 58
            refine r_iconst C (1) dX9_within_58 (by decide) ?_
            refine r_goto C 63 dX9_within_59 (by decide) ?_
            exact At.sub [0, 1, 2, 3, 4] rfl (L_63 (1 : Int32) )
          · -- to 36
            refine r_aload_n C 2 dX9_within_36 rfl rfl ?_
            refine r_get C (k := 39) (v := .ref (ad 47)) f_X9_32 (by decide) rfl rfl dX9_within_37 ?_
            refine r_iload C 0 dX9_within_40 rfl ?_
            refine r_iald C (k := 47) (by decide) rfl (by omega) (σ 47 ((i : Int32).toInt.toNat)) rfl dX9_within_42 ?_
            refine r_iload_n C 4 dX9_within_43 rfl rfl ?_
            refine r_icmp_ne C 62 dX9_within_44 (by decide) (fun c_23 => ?_) (fun c_23 => ?_)
            · -- to 62
              refine r_iconst C (0) dX9_within_62 (by decide) ?_
              exact At.sub [0, 1, 2, 3, 4] rfl (L_63 (0 : Int32) )
            · -- to 47
              refine r_aload_n C 2 dX9_within_47 rfl rfl ?_
              refine r_get C (k := 39) (v := .ref (ad 48)) f_X9_35 (by decide) rfl rfl dX9_within_48 ?_
              refine r_iload C 0 dX9_within_51 rfl ?_
              refine r_iald C (k := 48) (by decide) rfl (by omega) (σ 48 ((i : Int32).toInt.toNat)) rfl dX9_within_53 ?_
              refine r_iload_n C 3 dX9_within_54 rfl rfl ?_
              refine r_icmp_ne C 62 dX9_within_55 (by decide) (fun c_25 => ?_) (fun c_25 => ?_)
              · -- to 62
                refine r_iconst C (0) dX9_within_62 (by decide) ?_
                exact At.sub [0, 1, 2, 3, 4] rfl (L_63 (0 : Int32) )
              · -- to 58
                refine r_iconst C (1) dX9_within_58 (by decide) ?_
                refine r_goto C 63 dX9_within_59 (by decide) ?_
                exact At.sub [0, 1, 2, 3, 4] rfl (L_63 (1 : Int32) )
  exact At.sub [0, 1, 2, 3, 4] rfl (L_5 ((12 - (0 : Int32).toInt).toNat + 1) ((-1) : Int32) (0 : Int32) (by omega) (by omega))
set_option maxHeartbeats 4000000 in
set_option maxRecDepth 100000 in
theorem c_X9_quarrelOf (E : Ev) (ad : Nat → Nat) (σ : Sg) (p : Int32) (hM : IM σ) (hp : 0 ≤ p.toInt ∧ p.toInt < 7) : Ct E ad yX9_quarrelOf cX9_quarrelOf 3 (some .int) 5 [.ref (ad 39), .int p] σ (fun r τ => ∃ g, τ = sSet σ 65 g ∧ (True)) := by
  have k_m3 : (-3 : Int32).toInt = -3 := by decide
  have k_0 : (0 : Int32).toInt = 0 := by decide
  have k_1 : (1 : Int32).toInt = 1 := by decide
  have k_3 : (3 : Int32).toInt = 3 := by decide
  have hJ := hM
  unfold IM at hJ
  obtain ⟨n0, n1, n8, n17, n29, n39, n44, c40, c41, c42, c54, c58⟩ := hJ
  refine ct_of RX9 rfl (by decide +kernel) [(0, .ref (ad 39)), (1, .int (p))] rfl (Nat.le_of_ble_eq_true rfl) (fun G C T => ?_)
  refine r_iconst C (0) dX9_quarrelOf_0 (by decide) ?_
  refine r_istore_n C [(2, .int (0)), (0, .ref (ad 39)), (1, .int (p))] dX9_quarrelOf_1 rfl (by decide) rfl ?_
  have L_2 : ∀ (n : Nat), ∀ (g : Nat → Int32) (i : Int32), (0 ≤ i.toInt ∧ i.toInt ≤ 7) → 7 - i.toInt < (n : Int) → At E ad G 3 2 [(2, .int (i)), (0, .ref (ad 39)), (1, .int (p))] [] (sSet σ 65 g) := by
    intro n
    induction n with
    | zero =>
      intro g i hi hm
      exact absurd hm (by omega)
    | succ n ih =>
      intro g i hi hm
      have ih_2 := ih
      clear ih
      refine r_iload_n C 0 dX9_quarrelOf_2 rfl rfl ?_
      refine r_aload_n C 1 dX9_quarrelOf_3 rfl rfl ?_
      refine r_get C (k := 39) (v := .int (σ 39 17)) f_X9_113 (by decide) rfl rfl dX9_quarrelOf_4 ?_
      refine r_icmp_ge C 83 dX9_quarrelOf_7 (by decide) (fun c_1 => ?_) (fun c_1 => ?_)
      · -- to 83
        refine r_bipush C (-3) dX9_quarrelOf_83 (by decide) ?_
        exact r_iret C T dX9_quarrelOf_85 (⟨g, rfl, trivial⟩)
      · -- to 10
        refine r_iload_n C 0 dX9_quarrelOf_10 rfl rfl ?_
        refine r_iload_n C 2 dX9_quarrelOf_11 rfl rfl ?_
        refine r_icmp_eq C 77 dX9_quarrelOf_12 (by decide) (fun c_2 => ?_) (fun c_2 => ?_)
        · -- to 77
          refine r_iinc C 0 (fun z => [(2, .int (z)), (0, .ref (ad 39)), (1, .int (p))]) dX9_quarrelOf_77 rfl (by decide) (by decide) (by omega) (fun _ => rfl) (fun z_3 hz_4 => ?_)
          refine r_goto C 2 dX9_quarrelOf_80 (by decide) ?_
          exact At.sub [0, 1, 2] rfl (ih_2 (g : Nat → Int32) (z_3 : Int32) (by omega) (by omega))
        · -- to 15
          refine r_aload_n C 1 dX9_quarrelOf_15 rfl rfl ?_
          refine r_get C (k := 39) (v := .ref (ad 57)) f_X9_62 (by decide) rfl rfl dX9_quarrelOf_16 ?_
          refine r_iload_n C 0 dX9_quarrelOf_19 rfl rfl ?_
          refine r_iald C (k := 57) (by decide) rfl (by omega) (σ 57 ((i : Int32).toInt.toNat)) rfl dX9_quarrelOf_20 ?_
          refine r_iconst C (3) dX9_quarrelOf_21 (by decide) ?_
          refine r_icmp_ne C 77 dX9_quarrelOf_22 (by decide) (fun c_6 => ?_) (fun c_6 => ?_)
          · -- to 77
            refine r_iinc C 0 (fun z => [(2, .int (z)), (0, .ref (ad 39)), (1, .int (p))]) dX9_quarrelOf_77 rfl (by decide) (by decide) (by omega) (fun _ => rfl) (fun z_7 hz_8 => ?_)
            refine r_goto C 2 dX9_quarrelOf_80 (by decide) ?_
            exact At.sub [0, 1, 2] rfl (ih_2 (g : Nat → Int32) (z_7 : Int32) (by omega) (by omega))
          · -- to 25
            refine r_aload_n C 1 dX9_quarrelOf_25 rfl rfl ?_
            refine r_aload_n C 1 dX9_quarrelOf_26 rfl rfl ?_
            refine r_get C (k := 39) (v := .ref (ad 54)) f_X9_53 (by decide) rfl rfl dX9_quarrelOf_27 ?_
            refine r_iload_n C 2 dX9_quarrelOf_30 rfl rfl ?_
            refine r_iald C (k := 54) (by decide) rfl (by omega) (σ 54 ((p : Int32).toInt.toNat)) rfl dX9_quarrelOf_31 ?_
            have q_9 := c54 ((p : Int32).toInt.toNat) (by omega)
            refine r_aload_n C 1 dX9_quarrelOf_32 rfl rfl ?_
            refine r_get C (k := 39) (v := .ref (ad 54)) f_X9_53 (by decide) rfl rfl dX9_quarrelOf_33 ?_
            refine r_iload_n C 0 dX9_quarrelOf_36 rfl rfl ?_
            refine r_iald C (k := 54) (by decide) rfl (by omega) (σ 54 ((i : Int32).toInt.toNat)) rfl dX9_quarrelOf_37 ?_
            have q_10 := c54 ((i : Int32).toInt.toNat) (by omega)
            refine r_iconst C (1) dX9_quarrelOf_38 (by decide) ?_
            refine r_callV C (k := 39) [.int (σ 54 ((p : Int32).toInt.toNat)), .int (σ 54 ((i : Int32).toInt.toNat)), .int (1)] [] (c_X9_between E ad (sSet σ 65 g)  (σ 54 ((p : Int32).toInt.toNat)) (σ 54 ((i : Int32).toInt.toNat)) (1) hM) lv_X9_161 (by decide) rfl rfl (by decide) (by decide) rfl rfl (Nat.le_of_ble_eq_true rfl) dX9_quarrelOf_39 (fun r_11 τ_12 h_13 => ?_)
            obtain ⟨g_14, eh_13, h_13⟩ := h_13
            subst eh_13
            rw [sSet2]
            refine r_if_lt C 77 dX9_quarrelOf_42 (by decide) (fun c_15 => ?_) (fun c_15 => ?_)
            · -- to 77
              refine r_iinc C 0 (fun z => [(2, .int (z)), (0, .ref (ad 39)), (1, .int (p))]) dX9_quarrelOf_77 rfl (by decide) (by decide) (by omega) (fun _ => rfl) (fun z_16 hz_17 => ?_)
              refine r_goto C 2 dX9_quarrelOf_80 (by decide) ?_
              exact At.sub [0, 1, 2] rfl (ih_2 (g_14 : Nat → Int32) (z_16 : Int32) (by omega) (by omega))
            · -- to 45
              refine r_aload_n C 1 dX9_quarrelOf_45 rfl rfl ?_
              refine r_get C (k := 39) (v := .ref (ad 65)) f_X9_86 (by decide) rfl rfl dX9_quarrelOf_46 ?_
              refine r_aload_n C 1 dX9_quarrelOf_49 rfl rfl ?_
              refine r_get C (k := 39) (v := .ref (ad 54)) f_X9_53 (by decide) rfl rfl dX9_quarrelOf_50 ?_
              refine r_iload_n C 0 dX9_quarrelOf_53 rfl rfl ?_
              refine r_iald C (k := 54) (by decide) rfl (by omega) (σ 54 ((i : Int32).toInt.toNat)) rfl dX9_quarrelOf_54 ?_
              have q_18 := c54 ((i : Int32).toInt.toNat) (by omega)
              refine r_iald C (k := 65) (by decide) rfl (by omega) (g_14 ((σ 54 ((i : Int32).toInt.toNat) : Int32).toInt.toNat)) rfl dX9_quarrelOf_55 ?_
              refine r_aload_n C 1 dX9_quarrelOf_56 rfl rfl ?_
              refine r_aload_n C 1 dX9_quarrelOf_57 rfl rfl ?_
              refine r_get C (k := 39) (v := .ref (ad 55)) f_X9_56 (by decide) rfl rfl dX9_quarrelOf_58 ?_
              refine r_iload_n C 2 dX9_quarrelOf_61 rfl rfl ?_
              refine r_iald C (k := 55) (by decide) rfl (by omega) (σ 55 ((p : Int32).toInt.toNat)) rfl dX9_quarrelOf_62 ?_
              refine r_aload_n C 1 dX9_quarrelOf_63 rfl rfl ?_
              refine r_get C (k := 39) (v := .ref (ad 55)) f_X9_56 (by decide) rfl rfl dX9_quarrelOf_64 ?_
              refine r_iload_n C 0 dX9_quarrelOf_67 rfl rfl ?_
              refine r_iald C (k := 55) (by decide) rfl (by omega) (σ 55 ((i : Int32).toInt.toNat)) rfl dX9_quarrelOf_68 ?_
              refine r_callV C (k := 39) [.int (σ 55 ((p : Int32).toInt.toNat)), .int (σ 55 ((i : Int32).toInt.toNat))] [.int (g_14 ((σ 54 ((i : Int32).toInt.toNat) : Int32).toInt.toNat))] (c_X9_within E ad (sSet σ 65 g_14)  (σ 55 ((p : Int32).toInt.toNat)) (σ 55 ((i : Int32).toInt.toNat)) hM) lv_X9_270 (by decide) rfl rfl (by decide) (by decide) rfl rfl (Nat.le_of_ble_eq_true rfl) dX9_quarrelOf_69 (fun r_22 τ_23 h_24 => ?_)
              obtain ⟨eh_24, h_24⟩ := h_24
              obtain rfl := eh_24.symm
              refine r_icmp_gt C 77 dX9_quarrelOf_72 (by decide) (fun c_25 => ?_) (fun c_25 => ?_)
              · -- to 77
                refine r_iinc C 0 (fun z => [(2, .int (z)), (0, .ref (ad 39)), (1, .int (p))]) dX9_quarrelOf_77 rfl (by decide) (by decide) (by omega) (fun _ => rfl) (fun z_26 hz_27 => ?_)
                refine r_goto C 2 dX9_quarrelOf_80 (by decide) ?_
                exact At.sub [0, 1, 2] rfl (ih_2 (g_14 : Nat → Int32) (z_26 : Int32) (by omega) (by omega))
              · -- to 75
                refine r_iload_n C 0 dX9_quarrelOf_75 rfl rfl ?_
                exact r_iret C T dX9_quarrelOf_76 (⟨g_14, rfl, trivial⟩)
  rw [sSet0 σ 65]
  exact At.sub [0, 1, 2] rfl (L_2 ((7 - (0 : Int32).toInt).toNat + 1) (σ 65 : Nat → Int32) (0 : Int32) (by omega) (by omega))
set_option maxHeartbeats 4000000 in
set_option maxRecDepth 100000 in
theorem c_X9_isOutOfHours (E : Ev) (ad : Nat → Nat) (σ : Sg) (p : Int32) (hM : IM σ) (hp : 0 ≤ p.toInt ∧ p.toInt < 7) : Ct E ad yX9_isOutOfHours cX9_isOutOfHours 8 (some .boolean) 2 [.ref (ad 39), .int p] σ (fun r τ => τ = σ ∧ (r.toInt = 0 ∨ r.toInt = 1)) := by
  have k_0 : (0 : Int32).toInt = 0 := by decide
  have k_1 : (1 : Int32).toInt = 1 := by decide
  have k_4 : (4 : Int32).toInt = 4 := by decide
  have k_24 : (24 : Int32).toInt = 24 := by decide
  have hJ := hM
  unfold IM at hJ
  obtain ⟨n0, n1, n8, n17, n29, n39, n44, c40, c41, c42, c54, c58⟩ := hJ
  refine ct_of RX9 rfl (by decide +kernel) [(0, .ref (ad 39)), (1, .int (p))] rfl (Nat.le_of_ble_eq_true rfl) (fun G C T => ?_)
  refine r_aload_n C 0 dX9_isOutOfHours_0 rfl rfl ?_
  refine r_get C (k := 39) (v := .int (σ 39 0)) f_X9_119 (by decide) rfl rfl dX9_isOutOfHours_1 ?_
  refine r_bipush C (24) dX9_isOutOfHours_4 (by decide) ?_
  refine r_irem C dX9_isOutOfHours_6 (by decide) ?_
  refine r_nm (P := fun z => z = (σ 39 0 : Int32) - (σ 39 0) / (24) * (24)) rfl (fun z_1 hz_2 => ?_)
  refine r_istore_n C [(2, .int (z_1)), (0, .ref (ad 39)), (1, .int (p))] dX9_isOutOfHours_7 rfl (by decide) rfl ?_
  refine r_iconst C (0) dX9_isOutOfHours_8 (by decide) ?_
  refine r_istore_n C [(3, .int (0)), (2, .int (z_1)), (0, .ref (ad 39)), (1, .int (p))] dX9_isOutOfHours_9 rfl (by decide) rfl ?_
  refine r_iconst C (0) dX9_isOutOfHours_10 (by decide) ?_
  refine r_istore C [(4, .int (0)), (3, .int (0)), (2, .int (z_1)), (0, .ref (ad 39)), (1, .int (p))] dX9_isOutOfHours_11 (by decide) rfl ?_
  have L_13 : ∀ (n : Nat), ∀ (a : Int32) (i : Int32), (0 ≤ i.toInt ∧ i.toInt ≤ 12) → (a.toInt = 0 ∨ a.toInt = 1) → 12 - i.toInt < (n : Int) → At E ad G 8 13 [(4, .int (i)), (3, .int (a)), (2, .int (z_1)), (0, .ref (ad 39)), (1, .int (p))] [] σ := by
    intro n
    induction n with
    | zero =>
      intro a i hi ha hm
      exact absurd hm (by omega)
    | succ n ih =>
      intro a i hi ha hm
      have ih_13 := ih
      clear ih
      refine r_iload C 0 dX9_isOutOfHours_13 rfl ?_
      refine r_aload_n C 3 dX9_isOutOfHours_15 rfl rfl ?_
      refine r_get C (k := 39) (v := .int (σ 39 8)) f_X9_140 (by decide) rfl rfl dX9_isOutOfHours_16 ?_
      refine r_icmp_ge C 109 dX9_isOutOfHours_19 (by decide) (fun c_3 => ?_) (fun c_3 => ?_)
      · -- to 109
        refine r_iload_n C 1 dX9_isOutOfHours_109 rfl rfl ?_
        exact r_zret C T dX9_isOutOfHours_110 (by omega) (⟨rfl, by omega⟩)
      · -- to 22
        refine r_aload_n C 3 dX9_isOutOfHours_22 rfl rfl ?_
        refine r_get C (k := 39) (v := .ref (ad 48)) f_X9_35 (by decide) rfl rfl dX9_isOutOfHours_23 ?_
        refine r_iload C 0 dX9_isOutOfHours_26 rfl ?_
        refine r_iald C (k := 48) (by decide) rfl (by omega) (σ 48 ((i : Int32).toInt.toNat)) rfl dX9_isOutOfHours_28 ?_
        refine r_istore C [(5, .int (σ 48 ((i : Int32).toInt.toNat))), (4, .int (i)), (3, .int (a)), (2, .int (z_1)), (0, .ref (ad 39)), (1, .int (p))] dX9_isOutOfHours_29 (by decide) rfl ?_
        refine r_aload_n C 4 dX9_isOutOfHours_31 rfl rfl ?_
        refine r_get C (k := 39) (v := .ref (ad 49)) f_X9_38 (by decide) rfl rfl dX9_isOutOfHours_32 ?_
        refine r_iload C 1 dX9_isOutOfHours_35 rfl ?_
        refine r_iald C (k := 49) (by decide) rfl (by omega) (σ 49 ((i : Int32).toInt.toNat)) rfl dX9_isOutOfHours_37 ?_
        refine r_istore C [(6, .int (σ 49 ((i : Int32).toInt.toNat))), (5, .int (σ 48 ((i : Int32).toInt.toNat))), (4, .int (i)), (3, .int (a)), (2, .int (z_1)), (0, .ref (ad 39)), (1, .int (p))] dX9_isOutOfHours_38 (by decide) rfl ?_
        have L_75 : ∀ (b : Int32), At E ad G 8 75 [(6, .int (σ 49 ((i : Int32).toInt.toNat))), (5, .int (σ 48 ((i : Int32).toInt.toNat))), (4, .int (i)), (3, .int (a)), (2, .int (z_1)), (0, .ref (ad 39)), (1, .int (p))] [.int (b)] σ := by
          intro b
          refine r_istore C [(7, .int (b)), (6, .int (σ 49 ((i : Int32).toInt.toNat))), (5, .int (σ 48 ((i : Int32).toInt.toNat))), (4, .int (i)), (3, .int (a)), (2, .int (z_1)), (0, .ref (ad 39)), (1, .int (p))] dX9_isOutOfHours_75 (by decide) rfl ?_
          have L_102 : ∀ (c : Int32), (c.toInt = 0 ∨ c.toInt = 1) → At E ad G 8 102 [(7, .int (b)), (6, .int (σ 49 ((i : Int32).toInt.toNat))), (5, .int (σ 48 ((i : Int32).toInt.toNat))), (4, .int (i)), (3, .int (a)), (2, .int (z_1)), (0, .ref (ad 39)), (1, .int (p))] [.int (c)] σ := by
            intro c hc
            refine r_istore_n C [(3, .int (c)), (7, .int (b)), (6, .int (σ 49 ((i : Int32).toInt.toNat))), (5, .int (σ 48 ((i : Int32).toInt.toNat))), (4, .int (i)), (2, .int (z_1)), (0, .ref (ad 39)), (1, .int (p))] dX9_isOutOfHours_102 rfl (by decide) rfl ?_
            refine r_iinc C 4 (fun z => [(4, .int (z)), (3, .int (c)), (7, .int (b)), (6, .int (σ 49 ((i : Int32).toInt.toNat))), (5, .int (σ 48 ((i : Int32).toInt.toNat))), (2, .int (z_1)), (0, .ref (ad 39)), (1, .int (p))]) dX9_isOutOfHours_103 rfl (by decide) (by decide) (by omega) (fun _ => rfl) (fun z_6 hz_7 => ?_)
            refine r_goto C 13 dX9_isOutOfHours_106 (by decide) ?_
            exact At.sub [0, 1, 5, 6, 7] rfl (ih_13 (c : Int32) (z_6 : Int32) (by omega) (by omega) (by omega))
          refine r_iload_n C 4 dX9_isOutOfHours_77 rfl rfl ?_
          refine r_if_ne C 97 dX9_isOutOfHours_78 (by decide) (fun c_8 => ?_) (fun c_8 => ?_)
          · -- to 97
            refine r_iconst C (1) dX9_isOutOfHours_97 (by decide) ?_
            refine r_goto C 102 dX9_isOutOfHours_98 (by decide) ?_
            exact At.sub [0, 1, 2, 3, 4, 5, 6, 7] rfl (L_102 (1 : Int32) (by omega))
          · -- to 81
            refine r_aload_n C 6 dX9_isOutOfHours_81 rfl rfl ?_
            refine r_iload C 3 dX9_isOutOfHours_82 rfl ?_
            refine r_iconst C (4) dX9_isOutOfHours_84 (by decide) ?_
            refine r_iload_n C 7 dX9_isOutOfHours_85 rfl rfl ?_
            refine r_callV C (k := 39) [.int (i), .int (4), .int (p)] [] (c_X9_rules E ad σ  (i) (4) (p) (by omega) (by omega)) lv_X9_268 (by decide) rfl rfl (by decide) (by decide) rfl rfl (Nat.le_of_ble_eq_true rfl) dX9_isOutOfHours_86 (fun r_9 τ_10 h_11 => ?_)
            obtain ⟨eh_11, h_11⟩ := h_11
            obtain rfl := eh_11.symm
            refine r_if_eq C 101 dX9_isOutOfHours_89 (by decide) (fun c_12 => ?_) (fun c_12 => ?_)
            · -- to 101
              refine r_iconst C (0) dX9_isOutOfHours_101 (by decide) ?_
              exact At.sub [0, 1, 2, 3, 4, 5, 6, 7] rfl (L_102 (0 : Int32) (by omega))
            · -- to 92
              refine r_iload C 0 dX9_isOutOfHours_92 rfl ?_
              refine r_if_ne C 101 dX9_isOutOfHours_94 (by decide) (fun c_13 => ?_) (fun c_13 => ?_)
              · -- to 101
                refine r_iconst C (0) dX9_isOutOfHours_101 (by decide) ?_
                exact At.sub [0, 1, 2, 3, 4, 5, 6, 7] rfl (L_102 (0 : Int32) (by omega))
              · -- to 97
                refine r_iconst C (1) dX9_isOutOfHours_97 (by decide) ?_
                refine r_goto C 102 dX9_isOutOfHours_98 (by decide) ?_
                exact At.sub [0, 1, 2, 3, 4, 5, 6, 7] rfl (L_102 (1 : Int32) (by omega))
        refine r_iload C 1 dX9_isOutOfHours_40 rfl ?_
        refine r_iload C 0 dX9_isOutOfHours_42 rfl ?_
        refine r_icmp_gt C 58 dX9_isOutOfHours_44 (by decide) (fun c_14 => ?_) (fun c_14 => ?_)
        · -- to 58
          refine r_iload_n C 4 dX9_isOutOfHours_58 rfl rfl ?_
          refine r_iload C 1 dX9_isOutOfHours_59 rfl ?_
          refine r_icmp_ge C 70 dX9_isOutOfHours_61 (by decide) (fun c_15 => ?_) (fun c_15 => ?_)
          · -- to 70
            refine r_iconst C (1) dX9_isOutOfHours_70 (by decide) ?_
            refine r_goto C 75 dX9_isOutOfHours_71 (by decide) ?_
            exact At.sub [0, 1, 2, 3, 4, 5, 6] rfl (L_75 (1 : Int32) )
          · -- to 64
            refine r_iload_n C 4 dX9_isOutOfHours_64 rfl rfl ?_
            refine r_iload C 0 dX9_isOutOfHours_65 rfl ?_
            refine r_icmp_gt C 74 dX9_isOutOfHours_67 (by decide) (fun c_16 => ?_) (fun c_16 => ?_)
            · -- to 74
              refine r_iconst C (0) dX9_isOutOfHours_74 (by decide) ?_
              exact At.sub [0, 1, 2, 3, 4, 5, 6] rfl (L_75 (0 : Int32) )
            · -- to 70
              refine r_iconst C (1) dX9_isOutOfHours_70 (by decide) ?_
              refine r_goto C 75 dX9_isOutOfHours_71 (by decide) ?_
              exact At.sub [0, 1, 2, 3, 4, 5, 6] rfl (L_75 (1 : Int32) )
        · -- to 47
          refine r_iload_n C 4 dX9_isOutOfHours_47 rfl rfl ?_
          refine r_iload C 1 dX9_isOutOfHours_48 rfl ?_
          refine r_iload C 0 dX9_isOutOfHours_50 rfl ?_
          refine r_callS C [.int (z_1), .int (σ 48 ((i : Int32).toInt.toNat)), .int (σ 49 ((i : Int32).toInt.toNat))] [] (c_X9_in E ad σ  (z_1) (σ 48 ((i : Int32).toInt.toNat)) (σ 49 ((i : Int32).toInt.toNat)) ) ls_X9_105 (by decide) (by decide) rfl rfl (Nat.le_of_ble_eq_true rfl) dX9_isOutOfHours_52 (fun r_17 τ_18 h_19 => ?_)
          obtain ⟨eh_19, h_19⟩ := h_19
          obtain rfl := eh_19.symm
          refine r_goto C 75 dX9_isOutOfHours_55 (by decide) ?_
          exact At.sub [0, 1, 2, 3, 4, 5, 6] rfl (L_75 (r_17 : Int32) )
  exact At.sub [0, 1, 2, 3, 4] rfl (L_13 ((12 - (0 : Int32).toInt).toNat + 1) (0 : Int32) (0 : Int32) (by omega) (by omega) (by omega))
set_option maxHeartbeats 4000000 in
set_option maxRecDepth 100000 in
theorem c_X9_insideOf (E : Ev) (ad : Nat → Nat) (σ : Sg) (p : Int32)  : Ct E ad yX9_insideOf cX9_insideOf 4 (some .int) 0 [.ref (ad 39), .int p] σ (fun r τ => τ = σ ∧ 0 ≤ r.toInt ∧ r.toInt ≤ 8) := by
  have k_0 : (0 : Int32).toInt = 0 := by decide
  have k_1 : (1 : Int32).toInt = 1 := by decide
  have k_8 : (8 : Int32).toInt = 8 := by decide
  refine ct_of RX9 rfl (by decide +kernel) [(0, .ref (ad 39)), (1, .int (p))] rfl (Nat.le_of_ble_eq_true rfl) (fun G C T => ?_)
  refine r_iconst C (0) dX9_insideOf_0 (by decide) ?_
  refine r_istore_n C [(2, .int (0)), (0, .ref (ad 39)), (1, .int (p))] dX9_insideOf_1 rfl (by decide) rfl ?_
  refine r_iconst C (0) dX9_insideOf_2 (by decide) ?_
  refine r_istore_n C [(3, .int (0)), (2, .int (0)), (0, .ref (ad 39)), (1, .int (p))] dX9_insideOf_3 rfl (by decide) rfl ?_
  have L_4 : ∀ (n : Nat), ∀ (a : Int32) (i : Int32), (0 ≤ i.toInt ∧ i.toInt ≤ 8) → (0 ≤ a.toInt ∧ a.toInt ≤ i.toInt) → 8 - i.toInt < (n : Int) → At E ad G 4 4 [(3, .int (i)), (2, .int (a)), (0, .ref (ad 39)), (1, .int (p))] [] σ := by
    intro n
    induction n with
    | zero =>
      intro a i hi hb hm
      exact absurd hm (by omega)
    | succ n ih =>
      intro a i hi hb hm
      have ih_4 := ih
      clear ih
      refine r_iload_n C 0 dX9_insideOf_4 rfl rfl ?_
      refine r_bipush C (8) dX9_insideOf_5 (by decide) ?_
      refine r_icmp_ge C 34 dX9_insideOf_7 (by decide) (fun c_1 => ?_) (fun c_1 => ?_)
      · -- to 34
        refine r_iload_n C 1 dX9_insideOf_34 rfl rfl ?_
        exact r_iret C T dX9_insideOf_35 (⟨rfl, by omega⟩)
      · -- to 10
        refine r_iload_n C 1 dX9_insideOf_10 rfl rfl ?_
        refine r_aload_n C 2 dX9_insideOf_11 rfl rfl ?_
        refine r_get C (k := 39) (v := .ref (ad 53)) f_X9_50 (by decide) rfl rfl dX9_insideOf_12 ?_
        refine r_iload_n C 0 dX9_insideOf_15 rfl rfl ?_
        refine r_iald C (k := 53) (by decide) rfl (by omega) (σ 53 ((i : Int32).toInt.toNat)) rfl dX9_insideOf_16 ?_
        refine r_iload_n C 3 dX9_insideOf_17 rfl rfl ?_
        refine r_icmp_ne C 25 dX9_insideOf_18 (by decide) (fun c_3 => ?_) (fun c_3 => ?_)
        · -- to 25
          refine r_iconst C (0) dX9_insideOf_25 (by decide) ?_
          refine r_iadd C dX9_insideOf_26 ?_
          refine r_nm (P := fun z => z.toInt = (a : Int32).toInt + (0 : Int32).toInt ∧ z = (a) + (0)) ⟨ta_add (by omega), rfl⟩ (fun z_4 hz_5 => ?_)
          refine r_istore_n C [(2, .int (z_4)), (3, .int (i)), (0, .ref (ad 39)), (1, .int (p))] dX9_insideOf_27 rfl (by decide) rfl ?_
          refine r_iinc C 1 (fun z => [(3, .int (z)), (2, .int (z_4)), (0, .ref (ad 39)), (1, .int (p))]) dX9_insideOf_28 rfl (by decide) (by decide) (by omega) (fun _ => rfl) (fun z_6 hz_7 => ?_)
          refine r_goto C 4 dX9_insideOf_31 (by decide) ?_
          exact At.sub [0, 1, 2, 3] rfl (ih_4 (z_4 : Int32) (z_6 : Int32) (by omega) (by omega) (by omega))
        · -- to 21
          refine r_iconst C (1) dX9_insideOf_21 (by decide) ?_
          refine r_goto C 26 dX9_insideOf_22 (by decide) ?_
          refine r_iadd C dX9_insideOf_26 ?_
          refine r_nm (P := fun z => z.toInt = (a : Int32).toInt + (1 : Int32).toInt ∧ z = (a) + (1)) ⟨ta_add (by omega), rfl⟩ (fun z_8 hz_9 => ?_)
          refine r_istore_n C [(2, .int (z_8)), (3, .int (i)), (0, .ref (ad 39)), (1, .int (p))] dX9_insideOf_27 rfl (by decide) rfl ?_
          refine r_iinc C 1 (fun z => [(3, .int (z)), (2, .int (z_8)), (0, .ref (ad 39)), (1, .int (p))]) dX9_insideOf_28 rfl (by decide) (by decide) (by omega) (fun _ => rfl) (fun z_10 hz_11 => ?_)
          refine r_goto C 4 dX9_insideOf_31 (by decide) ?_
          exact At.sub [0, 1, 2, 3] rfl (ih_4 (z_8 : Int32) (z_10 : Int32) (by omega) (by omega) (by omega))
  exact At.sub [0, 1, 2, 3] rfl (L_4 ((8 - (0 : Int32).toInt).toNat + 1) (0 : Int32) (0 : Int32) (by omega) (by omega) (by omega))
set_option maxHeartbeats 4000000 in
set_option maxRecDepth 100000 in
theorem c_X9_areTooMany (E : Ev) (ad : Nat → Nat) (σ : Sg) (p : Int32) (hM : IM σ) (hp : 0 ≤ p.toInt ∧ p.toInt < 7) : Ct E ad yX9_areTooMany cX9_areTooMany 4 (some .boolean) 2 [.ref (ad 39), .int p] σ (fun r τ => τ = σ ∧ (r.toInt = 0 ∨ r.toInt = 1)) := by
  have k_0 : (0 : Int32).toInt = 0 := by decide
  have k_1 : (1 : Int32).toInt = 1 := by decide
  have k_3 : (3 : Int32).toInt = 3 := by decide
  have hJ := hM
  unfold IM at hJ
  obtain ⟨n0, n1, n8, n17, n29, n39, n44, c40, c41, c42, c54, c58⟩ := hJ
  refine ct_of RX9 rfl (by decide +kernel) [(0, .ref (ad 39)), (1, .int (p))] rfl (Nat.le_of_ble_eq_true rfl) (fun G C T => ?_)
  refine r_iconst C (0) dX9_areTooMany_0 (by decide) ?_
  refine r_istore_n C [(2, .int (0)), (0, .ref (ad 39)), (1, .int (p))] dX9_areTooMany_1 rfl (by decide) rfl ?_
  refine r_iconst C (0) dX9_areTooMany_2 (by decide) ?_
  refine r_istore_n C [(3, .int (0)), (2, .int (0)), (0, .ref (ad 39)), (1, .int (p))] dX9_areTooMany_3 rfl (by decide) rfl ?_
  have L_4 : ∀ (n : Nat), ∀ (a : Int32) (i : Int32), (0 ≤ i.toInt ∧ i.toInt ≤ 12) → (a.toInt = 0 ∨ a.toInt = 1) → 12 - i.toInt < (n : Int) → At E ad G 4 4 [(3, .int (i)), (2, .int (a)), (0, .ref (ad 39)), (1, .int (p))] [] σ := by
    intro n
    induction n with
    | zero =>
      intro a i hi ha hm
      exact absurd hm (by omega)
    | succ n ih =>
      intro a i hi ha hm
      have ih_4 := ih
      clear ih
      refine r_iload_n C 0 dX9_areTooMany_4 rfl rfl ?_
      refine r_aload_n C 2 dX9_areTooMany_5 rfl rfl ?_
      refine r_get C (k := 39) (v := .int (σ 39 8)) f_X9_140 (by decide) rfl rfl dX9_areTooMany_6 ?_
      refine r_icmp_ge C 52 dX9_areTooMany_9 (by decide) (fun c_1 => ?_) (fun c_1 => ?_)
      · -- to 52
        refine r_iload_n C 1 dX9_areTooMany_52 rfl rfl ?_
        exact r_zret C T dX9_areTooMany_53 (by omega) (⟨rfl, by omega⟩)
      · -- to 12
        have L_45 : ∀ (c : Int32), (c.toInt = 0 ∨ c.toInt = 1) → At E ad G 4 45 [(3, .int (i)), (2, .int (a)), (0, .ref (ad 39)), (1, .int (p))] [.int (c)] σ := by
          intro c hc
          refine r_istore_n C [(2, .int (c)), (3, .int (i)), (0, .ref (ad 39)), (1, .int (p))] dX9_areTooMany_45 rfl (by decide) rfl ?_
          refine r_iinc C 1 (fun z => [(3, .int (z)), (2, .int (c)), (0, .ref (ad 39)), (1, .int (p))]) dX9_areTooMany_46 rfl (by decide) (by decide) (by omega) (fun _ => rfl) (fun z_2 hz_3 => ?_)
          refine r_goto C 4 dX9_areTooMany_49 (by decide) ?_
          exact At.sub [0, 1, 2, 3] rfl (ih_4 (c : Int32) (z_2 : Int32) (by omega) (by omega) (by omega))
        refine r_iload_n C 1 dX9_areTooMany_12 rfl rfl ?_
        refine r_if_ne C 40 dX9_areTooMany_13 (by decide) (fun c_4 => ?_) (fun c_4 => ?_)
        · -- to 40
          refine r_iconst C (1) dX9_areTooMany_40 (by decide) ?_
          refine r_goto C 45 dX9_areTooMany_41 (by decide) ?_
          exact At.sub [0, 1, 2, 3] rfl (L_45 (1 : Int32) (by omega))
        · -- to 16
          refine r_aload_n C 2 dX9_areTooMany_16 rfl rfl ?_
          refine r_iload_n C 0 dX9_areTooMany_17 rfl rfl ?_
          refine r_iconst C (3) dX9_areTooMany_18 (by decide) ?_
          refine r_iload_n C 3 dX9_areTooMany_19 rfl rfl ?_
          refine r_callV C (k := 39) [.int (i), .int (3), .int (p)] [] (c_X9_rules E ad σ  (i) (3) (p) (by omega) (by omega)) lv_X9_268 (by decide) rfl rfl (by decide) (by decide) rfl rfl (Nat.le_of_ble_eq_true rfl) dX9_areTooMany_20 (fun r_5 τ_6 h_7 => ?_)
          obtain ⟨eh_7, h_7⟩ := h_7
          obtain rfl := eh_7.symm
          refine r_if_eq C 44 dX9_areTooMany_23 (by decide) (fun c_8 => ?_) (fun c_8 => ?_)
          · -- to 44
            refine r_iconst C (0) dX9_areTooMany_44 (by decide) ?_
            exact At.sub [0, 1, 2, 3] rfl (L_45 (0 : Int32) (by omega))
          · -- to 26
            refine r_aload_n C 2 dX9_areTooMany_26 rfl rfl ?_
            refine r_iload_n C 3 dX9_areTooMany_27 rfl rfl ?_
            refine r_callV C (k := 39) [.int (p)] [] (c_X9_insideOf E ad σ  (p) ) lv_X9_273 (by decide) rfl rfl (by decide) (by decide) rfl rfl (Nat.le_of_ble_eq_true rfl) dX9_areTooMany_28 (fun r_9 τ_10 h_11 => ?_)
            obtain ⟨eh_11, h_11⟩ := h_11
            obtain rfl := eh_11.symm
            refine r_aload_n C 2 dX9_areTooMany_31 rfl rfl ?_
            refine r_get C (k := 39) (v := .ref (ad 48)) f_X9_35 (by decide) rfl rfl dX9_areTooMany_32 ?_
            refine r_iload_n C 0 dX9_areTooMany_35 rfl rfl ?_
            refine r_iald C (k := 48) (by decide) rfl (by omega) (σ 48 ((i : Int32).toInt.toNat)) rfl dX9_areTooMany_36 ?_
            refine r_icmp_lt C 44 dX9_areTooMany_37 (by decide) (fun c_13 => ?_) (fun c_13 => ?_)
            · -- to 44
              refine r_iconst C (0) dX9_areTooMany_44 (by decide) ?_
              exact At.sub [0, 1, 2, 3] rfl (L_45 (0 : Int32) (by omega))
            · -- to 40
              refine r_iconst C (1) dX9_areTooMany_40 (by decide) ?_
              refine r_goto C 45 dX9_areTooMany_41 (by decide) ?_
              exact At.sub [0, 1, 2, 3] rfl (L_45 (1 : Int32) (by omega))
  exact At.sub [0, 1, 2, 3] rfl (L_4 ((12 - (0 : Int32).toInt).toNat + 1) (0 : Int32) (0 : Int32) (by omega) (by omega) (by omega))
set_option maxHeartbeats 4000000 in
set_option maxRecDepth 100000 in
theorem c_X9_isWatched (E : Ev) (ad : Nat → Nat) (σ : Sg) (p : Int32) (hM : IM σ) (hp : 0 ≤ p.toInt ∧ p.toInt < 7) : Ct E ad yX9_isWatched cX9_isWatched 4 (some .boolean) 2 [.ref (ad 39), .int p] σ (fun r τ => τ = σ ∧ (r.toInt = 0 ∨ r.toInt = 1)) := by
  have k_0 : (0 : Int32).toInt = 0 := by decide
  have k_1 : (1 : Int32).toInt = 1 := by decide
  have k_5 : (5 : Int32).toInt = 5 := by decide
  have hJ := hM
  unfold IM at hJ
  obtain ⟨n0, n1, n8, n17, n29, n39, n44, c40, c41, c42, c54, c58⟩ := hJ
  refine ct_of RX9 rfl (by decide +kernel) [(0, .ref (ad 39)), (1, .int (p))] rfl (Nat.le_of_ble_eq_true rfl) (fun G C T => ?_)
  refine r_iconst C (0) dX9_isWatched_0 (by decide) ?_
  refine r_istore_n C [(2, .int (0)), (0, .ref (ad 39)), (1, .int (p))] dX9_isWatched_1 rfl (by decide) rfl ?_
  refine r_iconst C (0) dX9_isWatched_2 (by decide) ?_
  refine r_istore_n C [(3, .int (0)), (2, .int (0)), (0, .ref (ad 39)), (1, .int (p))] dX9_isWatched_3 rfl (by decide) rfl ?_
  have L_4 : ∀ (n : Nat), ∀ (a : Int32) (i : Int32), (0 ≤ i.toInt ∧ i.toInt ≤ 12) → (a.toInt = 0 ∨ a.toInt = 1) → 12 - i.toInt < (n : Int) → At E ad G 4 4 [(3, .int (i)), (2, .int (a)), (0, .ref (ad 39)), (1, .int (p))] [] σ := by
    intro n
    induction n with
    | zero =>
      intro a i hi ha hm
      exact absurd hm (by omega)
    | succ n ih =>
      intro a i hi ha hm
      have ih_4 := ih
      clear ih
      refine r_iload_n C 0 dX9_isWatched_4 rfl rfl ?_
      refine r_aload_n C 2 dX9_isWatched_5 rfl rfl ?_
      refine r_get C (k := 39) (v := .int (σ 39 8)) f_X9_140 (by decide) rfl rfl dX9_isWatched_6 ?_
      refine r_icmp_ge C 67 dX9_isWatched_9 (by decide) (fun c_1 => ?_) (fun c_1 => ?_)
      · -- to 67
        refine r_iload_n C 1 dX9_isWatched_67 rfl rfl ?_
        exact r_zret C T dX9_isWatched_68 (by omega) (⟨rfl, by omega⟩)
      · -- to 12
        have L_60 : ∀ (c : Int32), (c.toInt = 0 ∨ c.toInt = 1) → At E ad G 4 60 [(3, .int (i)), (2, .int (a)), (0, .ref (ad 39)), (1, .int (p))] [.int (c)] σ := by
          intro c hc
          refine r_istore_n C [(2, .int (c)), (3, .int (i)), (0, .ref (ad 39)), (1, .int (p))] dX9_isWatched_60 rfl (by decide) rfl ?_
          refine r_iinc C 1 (fun z => [(3, .int (z)), (2, .int (c)), (0, .ref (ad 39)), (1, .int (p))]) dX9_isWatched_61 rfl (by decide) (by decide) (by omega) (fun _ => rfl) (fun z_2 hz_3 => ?_)
          refine r_goto C 4 dX9_isWatched_64 (by decide) ?_
          exact At.sub [0, 1, 2, 3] rfl (ih_4 (c : Int32) (z_2 : Int32) (by omega) (by omega) (by omega))
        refine r_iload_n C 1 dX9_isWatched_12 rfl rfl ?_
        refine r_if_ne C 55 dX9_isWatched_13 (by decide) (fun c_4 => ?_) (fun c_4 => ?_)
        · -- to 55
          refine r_iconst C (1) dX9_isWatched_55 (by decide) ?_
          refine r_goto C 60 dX9_isWatched_56 (by decide) ?_
          exact At.sub [0, 1, 2, 3] rfl (L_60 (1 : Int32) (by omega))
        · -- to 16
          refine r_aload_n C 2 dX9_isWatched_16 rfl rfl ?_
          refine r_iload_n C 0 dX9_isWatched_17 rfl rfl ?_
          refine r_iconst C (5) dX9_isWatched_18 (by decide) ?_
          refine r_iload_n C 3 dX9_isWatched_19 rfl rfl ?_
          refine r_callV C (k := 39) [.int (i), .int (5), .int (p)] [] (c_X9_rules E ad σ  (i) (5) (p) (by omega) (by omega)) lv_X9_268 (by decide) rfl rfl (by decide) (by decide) rfl rfl (Nat.le_of_ble_eq_true rfl) dX9_isWatched_20 (fun r_5 τ_6 h_7 => ?_)
          obtain ⟨eh_7, h_7⟩ := h_7
          obtain rfl := eh_7.symm
          refine r_if_eq C 59 dX9_isWatched_23 (by decide) (fun c_8 => ?_) (fun c_8 => ?_)
          · -- to 59
            refine r_iconst C (0) dX9_isWatched_59 (by decide) ?_
            exact At.sub [0, 1, 2, 3] rfl (L_60 (0 : Int32) (by omega))
          · -- to 26
            refine r_aload_n C 2 dX9_isWatched_26 rfl rfl ?_
            refine r_get C (k := 39) (v := .ref (ad 61)) f_X9_74 (by decide) rfl rfl dX9_isWatched_27 ?_
            refine r_iload_n C 3 dX9_isWatched_30 rfl rfl ?_
            refine r_iald C (k := 61) (by decide) rfl (by omega) (σ 61 ((p : Int32).toInt.toNat)) rfl dX9_isWatched_31 ?_
            refine r_if_lt C 59 dX9_isWatched_32 (by decide) (fun c_10 => ?_) (fun c_10 => ?_)
            · -- to 59
              refine r_iconst C (0) dX9_isWatched_59 (by decide) ?_
              exact At.sub [0, 1, 2, 3] rfl (L_60 (0 : Int32) (by omega))
            · -- to 35
              refine r_aload_n C 2 dX9_isWatched_35 rfl rfl ?_
              refine r_get C (k := 39) (v := .int (σ 39 0)) f_X9_119 (by decide) rfl rfl dX9_isWatched_36 ?_
              refine r_aload_n C 2 dX9_isWatched_39 rfl rfl ?_
              refine r_get C (k := 39) (v := .ref (ad 61)) f_X9_74 (by decide) rfl rfl dX9_isWatched_40 ?_
              refine r_iload_n C 3 dX9_isWatched_43 rfl rfl ?_
              refine r_iald C (k := 61) (by decide) rfl (by omega) (σ 61 ((p : Int32).toInt.toNat)) rfl dX9_isWatched_44 ?_
              refine r_isub C dX9_isWatched_45 ?_
              refine r_nm (P := fun z => z = (σ 39 0) - (σ 61 ((p : Int32).toInt.toNat))) rfl (fun z_12 hz_13 => ?_)
              refine r_aload_n C 2 dX9_isWatched_46 rfl rfl ?_
              refine r_get C (k := 39) (v := .ref (ad 48)) f_X9_35 (by decide) rfl rfl dX9_isWatched_47 ?_
              refine r_iload_n C 0 dX9_isWatched_50 rfl rfl ?_
              refine r_iald C (k := 48) (by decide) rfl (by omega) (σ 48 ((i : Int32).toInt.toNat)) rfl dX9_isWatched_51 ?_
              refine r_icmp_ge C 59 dX9_isWatched_52 (by decide) (fun c_15 => ?_) (fun c_15 => ?_)
              · -- to 59
                refine r_iconst C (0) dX9_isWatched_59 (by decide) ?_
                exact At.sub [0, 1, 2, 3] rfl (L_60 (0 : Int32) (by omega))
              · -- to 55
                refine r_iconst C (1) dX9_isWatched_55 (by decide) ?_
                refine r_goto C 60 dX9_isWatched_56 (by decide) ?_
                exact At.sub [0, 1, 2, 3] rfl (L_60 (1 : Int32) (by omega))
  exact At.sub [0, 1, 2, 3] rfl (L_4 ((12 - (0 : Int32).toInt).toNat + 1) (0 : Int32) (0 : Int32) (by omega) (by omega) (by omega))
set_option maxHeartbeats 4000000 in
set_option maxRecDepth 100000 in
theorem c_X9_mayBegin (E : Ev) (ad : Nat → Nat) (σ : Sg) (p : Int32) (hp : 0 ≤ p.toInt ∧ p.toInt < 7) : Ct E ad yX9_mayBegin cX9_mayBegin 2 (some .boolean) 0 [.ref (ad 39), .int p] σ (fun r τ => τ = σ ∧ (r.toInt = 0 ∨ r.toInt = 1)) := by
  have k_0 : (0 : Int32).toInt = 0 := by decide
  have k_1 : (1 : Int32).toInt = 1 := by decide
  have k_2 : (2 : Int32).toInt = 2 := by decide
  have k_4 : (4 : Int32).toInt = 4 := by decide
  refine ct_of RX9 rfl (by decide +kernel) [(0, .ref (ad 39)), (1, .int (p))] rfl (Nat.le_of_ble_eq_true rfl) (fun G C T => ?_)
  refine r_aload_n C 0 dX9_mayBegin_0 rfl rfl ?_
  refine r_get C (k := 39) (v := .ref (ad 57)) f_X9_62 (by decide) rfl rfl dX9_mayBegin_1 ?_
  refine r_iload_n C 1 dX9_mayBegin_4 rfl rfl ?_
  refine r_iald C (k := 57) (by decide) rfl (by omega) (σ 57 ((p : Int32).toInt.toNat)) rfl dX9_mayBegin_5 ?_
  refine r_iconst C (1) dX9_mayBegin_6 (by decide) ?_
  refine r_icmp_eq C 30 dX9_mayBegin_7 (by decide) (fun c_2 => ?_) (fun c_2 => ?_)
  · -- to 30
    refine r_iconst C (1) dX9_mayBegin_30 (by decide) ?_
    refine r_goto C 35 dX9_mayBegin_31 (by decide) ?_
    exact r_zret C T dX9_mayBegin_35 (by omega) (⟨rfl, by omega⟩)
  · -- to 10
    refine r_aload_n C 0 dX9_mayBegin_10 rfl rfl ?_
    refine r_get C (k := 39) (v := .ref (ad 57)) f_X9_62 (by decide) rfl rfl dX9_mayBegin_11 ?_
    refine r_iload_n C 1 dX9_mayBegin_14 rfl rfl ?_
    refine r_iald C (k := 57) (by decide) rfl (by omega) (σ 57 ((p : Int32).toInt.toNat)) rfl dX9_mayBegin_15 ?_
    refine r_iconst C (2) dX9_mayBegin_16 (by decide) ?_
    refine r_icmp_eq C 30 dX9_mayBegin_17 (by decide) (fun c_4 => ?_) (fun c_4 => ?_)
    · -- to 30
      refine r_iconst C (1) dX9_mayBegin_30 (by decide) ?_
      refine r_goto C 35 dX9_mayBegin_31 (by decide) ?_
      exact r_zret C T dX9_mayBegin_35 (by omega) (⟨rfl, by omega⟩)
    · -- to 20
      refine r_aload_n C 0 dX9_mayBegin_20 rfl rfl ?_
      refine r_get C (k := 39) (v := .ref (ad 57)) f_X9_62 (by decide) rfl rfl dX9_mayBegin_21 ?_
      refine r_iload_n C 1 dX9_mayBegin_24 rfl rfl ?_
      refine r_iald C (k := 57) (by decide) rfl (by omega) (σ 57 ((p : Int32).toInt.toNat)) rfl dX9_mayBegin_25 ?_
      refine r_iconst C (4) dX9_mayBegin_26 (by decide) ?_
      refine r_icmp_ne C 34 dX9_mayBegin_27 (by decide) (fun c_6 => ?_) (fun c_6 => ?_)
      · -- to 34
        refine r_iconst C (0) dX9_mayBegin_34 (by decide) ?_
        exact r_zret C T dX9_mayBegin_35 (by omega) (⟨rfl, by omega⟩)
      · -- to 30
        refine r_iconst C (1) dX9_mayBegin_30 (by decide) ?_
        refine r_goto C 35 dX9_mayBegin_31 (by decide) ?_
        exact r_zret C T dX9_mayBegin_35 (by omega) (⟨rfl, by omega⟩)
set_option maxHeartbeats 4000000 in
set_option maxRecDepth 100000 in
theorem c_X9_isOutOfState (E : Ev) (ad : Nat → Nat) (σ : Sg) (p : Int32) (q : Int32) (hp : 0 ≤ p.toInt ∧ p.toInt < 7) : Ct E ad yX9_isOutOfState cX9_isOutOfState 3 (some .boolean) 2 [.ref (ad 39), .int p, .int q] σ (fun r τ => τ = σ ∧ (r.toInt = 0 ∨ r.toInt = 1)) := by
  have k_0 : (0 : Int32).toInt = 0 := by decide
  have k_1 : (1 : Int32).toInt = 1 := by decide
  have k_3 : (3 : Int32).toInt = 3 := by decide
  refine ct_of RX9 rfl (by decide +kernel) [(0, .ref (ad 39)), (1, .int (p)), (2, .int (q))] rfl (Nat.le_of_ble_eq_true rfl) (fun G C T => ?_)
  refine r_iload_n C 2 dX9_isOutOfState_0 rfl rfl ?_
  rcases (show ((q : Int32).toInt < 0 ∨ 4 < (q : Int32).toInt) ∨ (q : Int32).toInt = 0 ∨ (q : Int32).toInt = 1 ∨ (q : Int32).toInt = 2 ∨ (q : Int32).toInt = 3 ∨ (q : Int32).toInt = 4 by omega) with sw_1 | sw_1 | sw_1 | sw_1 | sw_1 | sw_1
  · -- case None
    refine r_tblOut C 79 dX9_isOutOfState_1 sw_1 (by decide) ?_
    refine r_aload_n C 0 dX9_isOutOfState_79 rfl rfl ?_
    refine r_get C (k := 39) (v := .ref (ad 57)) f_X9_62 (by decide) rfl rfl dX9_isOutOfState_80 ?_
    refine r_iload_n C 1 dX9_isOutOfState_83 rfl rfl ?_
    refine r_iald C (k := 57) (by decide) rfl (by omega) (σ 57 ((p : Int32).toInt.toNat)) rfl dX9_isOutOfState_84 ?_
    refine r_iconst C (3) dX9_isOutOfState_85 (by decide) ?_
    refine r_icmp_eq C 93 dX9_isOutOfState_86 (by decide) (fun c_3 => ?_) (fun c_3 => ?_)
    · -- to 93
      refine r_iconst C (0) dX9_isOutOfState_93 (by decide) ?_
      exact r_zret C T dX9_isOutOfState_94 (by omega) (⟨rfl, by omega⟩)
    · -- to 89
      refine r_iconst C (1) dX9_isOutOfState_89 (by decide) ?_
      refine r_goto C 94 dX9_isOutOfState_90 (by decide) ?_
      exact r_zret C T dX9_isOutOfState_94 (by omega) (⟨rfl, by omega⟩)
  · -- case 0
    refine r_tblIn C (0) 36 dX9_isOutOfState_1 sw_1 (by decide) (by decide) rfl (by decide) ?_
    refine r_aload_n C 0 dX9_isOutOfState_36 rfl rfl ?_
    refine r_get C (k := 39) (v := .ref (ad 57)) f_X9_62 (by decide) rfl rfl dX9_isOutOfState_37 ?_
    refine r_iload_n C 1 dX9_isOutOfState_40 rfl rfl ?_
    refine r_iald C (k := 57) (by decide) rfl (by omega) (σ 57 ((p : Int32).toInt.toNat)) rfl dX9_isOutOfState_41 ?_
    refine r_if_eq C 49 dX9_isOutOfState_42 (by decide) (fun c_5 => ?_) (fun c_5 => ?_)
    · -- to 49
      refine r_iconst C (0) dX9_isOutOfState_49 (by decide) ?_
      exact r_zret C T dX9_isOutOfState_50 (by omega) (⟨rfl, by omega⟩)
    · -- to 45
      refine r_iconst C (1) dX9_isOutOfState_45 (by decide) ?_
      refine r_goto C 50 dX9_isOutOfState_46 (by decide) ?_
      exact r_zret C T dX9_isOutOfState_50 (by omega) (⟨rfl, by omega⟩)
  · -- case 1
    refine r_tblIn C (1) 51 dX9_isOutOfState_1 sw_1 (by decide) (by decide) rfl (by decide) ?_
    refine r_aload_n C 0 dX9_isOutOfState_51 rfl rfl ?_
    refine r_iload_n C 1 dX9_isOutOfState_52 rfl rfl ?_
    refine r_callV C (k := 39) [.int (p)] [] (c_X9_hasLocks E ad σ  (p) (by omega)) lv_X9_122 (by decide) rfl rfl (by decide) (by decide) rfl rfl (Nat.le_of_ble_eq_true rfl) dX9_isOutOfState_53 (fun r_6 τ_7 h_8 => ?_)
    obtain ⟨eh_8, h_8⟩ := h_8
    obtain rfl := eh_8.symm
    refine r_if_ne C 63 dX9_isOutOfState_56 (by decide) (fun c_9 => ?_) (fun c_9 => ?_)
    · -- to 63
      refine r_iconst C (0) dX9_isOutOfState_63 (by decide) ?_
      exact r_zret C T dX9_isOutOfState_64 (by omega) (⟨rfl, by omega⟩)
    · -- to 59
      refine r_iconst C (1) dX9_isOutOfState_59 (by decide) ?_
      refine r_goto C 64 dX9_isOutOfState_60 (by decide) ?_
      exact r_zret C T dX9_isOutOfState_64 (by omega) (⟨rfl, by omega⟩)
  · -- case 2
    refine r_tblIn C (2) 65 dX9_isOutOfState_1 sw_1 (by decide) (by decide) rfl (by decide) ?_
    refine r_aload_n C 0 dX9_isOutOfState_65 rfl rfl ?_
    refine r_iload_n C 1 dX9_isOutOfState_66 rfl rfl ?_
    refine r_callV C (k := 39) [.int (p)] [] (c_X9_mayBegin E ad σ  (p) (by omega)) lv_X9_276 (by decide) rfl rfl (by decide) (by decide) rfl rfl (Nat.le_of_ble_eq_true rfl) dX9_isOutOfState_67 (fun r_10 τ_11 h_12 => ?_)
    obtain ⟨eh_12, h_12⟩ := h_12
    obtain rfl := eh_12.symm
    refine r_if_ne C 77 dX9_isOutOfState_70 (by decide) (fun c_13 => ?_) (fun c_13 => ?_)
    · -- to 77
      refine r_iconst C (0) dX9_isOutOfState_77 (by decide) ?_
      exact r_zret C T dX9_isOutOfState_78 (by omega) (⟨rfl, by omega⟩)
    · -- to 73
      refine r_iconst C (1) dX9_isOutOfState_73 (by decide) ?_
      refine r_goto C 78 dX9_isOutOfState_74 (by decide) ?_
      exact r_zret C T dX9_isOutOfState_78 (by omega) (⟨rfl, by omega⟩)
  · -- case 3
    refine r_tblIn C (3) 79 dX9_isOutOfState_1 sw_1 (by decide) (by decide) rfl (by decide) ?_
    refine r_aload_n C 0 dX9_isOutOfState_79 rfl rfl ?_
    refine r_get C (k := 39) (v := .ref (ad 57)) f_X9_62 (by decide) rfl rfl dX9_isOutOfState_80 ?_
    refine r_iload_n C 1 dX9_isOutOfState_83 rfl rfl ?_
    refine r_iald C (k := 57) (by decide) rfl (by omega) (σ 57 ((p : Int32).toInt.toNat)) rfl dX9_isOutOfState_84 ?_
    refine r_iconst C (3) dX9_isOutOfState_85 (by decide) ?_
    refine r_icmp_eq C 93 dX9_isOutOfState_86 (by decide) (fun c_15 => ?_) (fun c_15 => ?_)
    · -- to 93
      refine r_iconst C (0) dX9_isOutOfState_93 (by decide) ?_
      exact r_zret C T dX9_isOutOfState_94 (by omega) (⟨rfl, by omega⟩)
    · -- to 89
      refine r_iconst C (1) dX9_isOutOfState_89 (by decide) ?_
      refine r_goto C 94 dX9_isOutOfState_90 (by decide) ?_
      exact r_zret C T dX9_isOutOfState_94 (by omega) (⟨rfl, by omega⟩)
  · -- case 4
    refine r_tblIn C (4) 65 dX9_isOutOfState_1 sw_1 (by decide) (by decide) rfl (by decide) ?_
    refine r_aload_n C 0 dX9_isOutOfState_65 rfl rfl ?_
    refine r_iload_n C 1 dX9_isOutOfState_66 rfl rfl ?_
    refine r_callV C (k := 39) [.int (p)] [] (c_X9_mayBegin E ad σ  (p) (by omega)) lv_X9_276 (by decide) rfl rfl (by decide) (by decide) rfl rfl (Nat.le_of_ble_eq_true rfl) dX9_isOutOfState_67 (fun r_16 τ_17 h_18 => ?_)
    obtain ⟨eh_18, h_18⟩ := h_18
    obtain rfl := eh_18.symm
    refine r_if_ne C 77 dX9_isOutOfState_70 (by decide) (fun c_19 => ?_) (fun c_19 => ?_)
    · -- to 77
      refine r_iconst C (0) dX9_isOutOfState_77 (by decide) ?_
      exact r_zret C T dX9_isOutOfState_78 (by omega) (⟨rfl, by omega⟩)
    · -- to 73
      refine r_iconst C (1) dX9_isOutOfState_73 (by decide) ?_
      refine r_goto C 78 dX9_isOutOfState_74 (by decide) ?_
      exact r_zret C T dX9_isOutOfState_78 (by omega) (⟨rfl, by omega⟩)
set_option maxHeartbeats 4000000 in
set_option maxRecDepth 100000 in
theorem c_X9_startBar (E : Ev) (ad : Nat → Nat) (σ : Sg) (p : Int32) (hM : IM σ) (hp : 0 ≤ p.toInt ∧ p.toInt < 7) : Ct E ad yX9_startBar cX9_startBar 2 (some .int) 6 [.ref (ad 39), .int p] σ (fun r τ => ∃ g, τ = sSet σ 65 g ∧ (0 ≤ r.toInt ∧ r.toInt ≤ 8)) := by
  have k_0 : (0 : Int32).toInt = 0 := by decide
  have k_2 : (2 : Int32).toInt = 2 := by decide
  have k_3 : (3 : Int32).toInt = 3 := by decide
  have k_4 : (4 : Int32).toInt = 4 := by decide
  have k_5 : (5 : Int32).toInt = 5 := by decide
  have k_6 : (6 : Int32).toInt = 6 := by decide
  have hJ := hM
  unfold IM at hJ
  obtain ⟨n0, n1, n8, n17, n29, n39, n44, c40, c41, c42, c54, c58⟩ := hJ
  refine ct_of RX9 rfl (by decide +kernel) [(0, .ref (ad 39)), (1, .int (p))] rfl (Nat.le_of_ble_eq_true rfl) (fun G C T => ?_)
  refine r_aload_n C 0 dX9_startBar_0 rfl rfl ?_
  refine r_aload_n C 0 dX9_startBar_1 rfl rfl ?_
  refine r_get C (k := 39) (v := .ref (ad 54)) f_X9_53 (by decide) rfl rfl dX9_startBar_2 ?_
  refine r_iload_n C 1 dX9_startBar_5 rfl rfl ?_
  refine r_iald C (k := 54) (by decide) rfl (by omega) (σ 54 ((p : Int32).toInt.toNat)) rfl dX9_startBar_6 ?_
  have q_1 := c54 ((p : Int32).toInt.toNat) (by omega)
  refine r_aload_n C 0 dX9_startBar_7 rfl rfl ?_
  refine r_callV C (k := 39) [] [.int (σ 54 ((p : Int32).toInt.toNat)), .ref (ad 39)] (c_X9_closedNow E ad σ   hM) lv_X9_133 (by decide) rfl rfl (by decide) (by decide) rfl rfl (Nat.le_of_ble_eq_true rfl) dX9_startBar_8 (fun r_2 τ_3 h_4 => ?_)
  obtain ⟨eh_4, h_4⟩ := h_4
  obtain rfl := eh_4.symm
  refine r_callV C (k := 39) [.int (σ 54 ((p : Int32).toInt.toNat)), .int (r_2)] [] (c_X9_isSafeNow E ad σ  (σ 54 ((p : Int32).toInt.toNat)) (r_2) hM) lv_X9_158 (by decide) rfl rfl (by decide) (by decide) rfl rfl (Nat.le_of_ble_eq_true rfl) dX9_startBar_11 (fun r_5 τ_6 h_7 => ?_)
  obtain ⟨g_8, eh_7, h_7⟩ := h_7
  subst eh_7
  refine r_if_ne C 19 dX9_startBar_14 (by decide) (fun c_9 => ?_) (fun c_9 => ?_)
  · -- to 19
    refine r_aload_n C 0 dX9_startBar_19 rfl rfl ?_
    refine r_iload_n C 1 dX9_startBar_20 rfl rfl ?_
    refine r_callV C (k := 39) [.int (p)] [] (c_X9_lacksTest E ad (sSet σ 65 g_8)  (p) hM (by omega)) lv_X9_279 (by decide) rfl rfl (by decide) (by decide) rfl rfl (Nat.le_of_ble_eq_true rfl) dX9_startBar_21 (fun r_10 τ_11 h_12 => ?_)
    obtain ⟨eh_12, h_12⟩ := h_12
    obtain rfl := eh_12.symm
    refine r_if_eq C 29 dX9_startBar_24 (by decide) (fun c_13 => ?_) (fun c_13 => ?_)
    · -- to 29
      refine r_aload_n C 0 dX9_startBar_29 rfl rfl ?_
      refine r_iload_n C 1 dX9_startBar_30 rfl rfl ?_
      refine r_callV C (k := 39) [.int (p)] [] (c_X9_quarrelOf E ad (sSet σ 65 g_8)  (p) hM (by omega)) lv_X9_282 (by decide) rfl rfl (by decide) (by decide) rfl rfl (Nat.le_of_ble_eq_true rfl) dX9_startBar_31 (fun r_14 τ_15 h_16 => ?_)
      obtain ⟨g_17, eh_16, h_16⟩ := h_16
      subst eh_16
      rw [sSet2]
      refine r_if_lt C 39 dX9_startBar_34 (by decide) (fun c_18 => ?_) (fun c_18 => ?_)
      · -- to 39
        refine r_aload_n C 0 dX9_startBar_39 rfl rfl ?_
        refine r_iload_n C 1 dX9_startBar_40 rfl rfl ?_
        refine r_callV C (k := 39) [.int (p)] [] (c_X9_isOutOfHours E ad (sSet σ 65 g_17)  (p) hM (by omega)) lv_X9_285 (by decide) rfl rfl (by decide) (by decide) rfl rfl (Nat.le_of_ble_eq_true rfl) dX9_startBar_41 (fun r_19 τ_20 h_21 => ?_)
        obtain ⟨eh_21, h_21⟩ := h_21
        obtain rfl := eh_21.symm
        refine r_if_eq C 49 dX9_startBar_44 (by decide) (fun c_22 => ?_) (fun c_22 => ?_)
        · -- to 49
          refine r_aload_n C 0 dX9_startBar_49 rfl rfl ?_
          refine r_get C (k := 39) (v := .ref (ad 58)) f_X9_65 (by decide) rfl rfl dX9_startBar_50 ?_
          refine r_iload_n C 1 dX9_startBar_53 rfl rfl ?_
          refine r_iald C (k := 58) (by decide) rfl (by omega) (σ 58 ((p : Int32).toInt.toNat)) rfl dX9_startBar_54 ?_
          have q_23 := c58 ((p : Int32).toInt.toNat) (by omega)
          refine r_if_lt C 72 dX9_startBar_55 (by decide) (fun c_24 => ?_) (fun c_24 => ?_)
          · -- to 72
            refine r_bipush C (6) dX9_startBar_72 (by decide) ?_
            refine r_goto C 78 dX9_startBar_74 (by decide) ?_
            exact r_iret C T dX9_startBar_78 (⟨g_17, rfl, by omega⟩)
          · -- to 58
            refine r_aload_n C 0 dX9_startBar_58 rfl rfl ?_
            refine r_get C (k := 39) (v := .ref (ad 52)) f_X9_47 (by decide) rfl rfl dX9_startBar_59 ?_
            refine r_aload_n C 0 dX9_startBar_62 rfl rfl ?_
            refine r_get C (k := 39) (v := .ref (ad 58)) f_X9_65 (by decide) rfl rfl dX9_startBar_63 ?_
            refine r_iload_n C 1 dX9_startBar_66 rfl rfl ?_
            refine r_iald C (k := 58) (by decide) rfl (by omega) (σ 58 ((p : Int32).toInt.toNat)) rfl dX9_startBar_67 ?_
            have q_25 := c58 ((p : Int32).toInt.toNat) (by omega)
            refine r_zald C (k := 52) (by decide) rfl (by omega) (σ 52 ((σ 58 ((p : Int32).toInt.toNat) : Int32).toInt.toNat)) rfl dX9_startBar_68 ?_
            refine r_if_eq C 77 dX9_startBar_69 (by decide) (fun c_27 => ?_) (fun c_27 => ?_)
            · -- to 77
              refine r_iconst C (0) dX9_startBar_77 (by decide) ?_
              exact r_iret C T dX9_startBar_78 (⟨g_17, rfl, by omega⟩)
            · -- to 72
              refine r_bipush C (6) dX9_startBar_72 (by decide) ?_
              refine r_goto C 78 dX9_startBar_74 (by decide) ?_
              exact r_iret C T dX9_startBar_78 (⟨g_17, rfl, by omega⟩)
        · -- to 47
          refine r_iconst C (5) dX9_startBar_47 (by decide) ?_
          exact r_iret C T dX9_startBar_48 (⟨g_17, rfl, by omega⟩)
      · -- to 37
        refine r_iconst C (4) dX9_startBar_37 (by decide) ?_
        exact r_iret C T dX9_startBar_38 (⟨g_17, rfl, by omega⟩)
    · -- to 27
      refine r_iconst C (3) dX9_startBar_27 (by decide) ?_
      exact r_iret C T dX9_startBar_28 (⟨g_8, rfl, by omega⟩)
  · -- to 17
    refine r_iconst C (2) dX9_startBar_17 (by decide) ?_
    exact r_iret C T dX9_startBar_18 (⟨g_8, rfl, by omega⟩)
set_option maxHeartbeats 4000000 in
set_option maxRecDepth 100000 in
theorem c_X9_bar (E : Ev) (ad : Nat → Nat) (σ : Sg) (p : Int32) (q : Int32) (hM : IM σ) (hp : 0 ≤ p.toInt ∧ p.toInt < 7) : Ct E ad yX9_bar cX9_bar 3 (some .int) 7 [.ref (ad 39), .int p, .int q] σ (fun r τ => ∃ g, τ = sSet σ 65 g ∧ (0 ≤ r.toInt ∧ r.toInt ≤ 8)) := by
  have k_0 : (0 : Int32).toInt = 0 := by decide
  have k_1 : (1 : Int32).toInt = 1 := by decide
  have k_3 : (3 : Int32).toInt = 3 := by decide
  have k_5 : (5 : Int32).toInt = 5 := by decide
  have k_7 : (7 : Int32).toInt = 7 := by decide
  have k_8 : (8 : Int32).toInt = 8 := by decide
  have hJ := hM
  unfold IM at hJ
  obtain ⟨n0, n1, n8, n17, n29, n39, n44, c40, c41, c42, c54, c58⟩ := hJ
  refine ct_of RX9 rfl (by decide +kernel) [(0, .ref (ad 39)), (1, .int (p)), (2, .int (q))] rfl (Nat.le_of_ble_eq_true rfl) (fun G C T => ?_)
  refine r_aload_n C 0 dX9_bar_0 rfl rfl ?_
  refine r_iload_n C 1 dX9_bar_1 rfl rfl ?_
  refine r_iload_n C 2 dX9_bar_2 rfl rfl ?_
  refine r_callV C (k := 39) [.int (p), .int (q)] [] (c_X9_isOutOfState E ad σ  (p) (q) (by omega)) lv_X9_288 (by decide) rfl rfl (by decide) (by decide) rfl rfl (Nat.le_of_ble_eq_true rfl) dX9_bar_3 (fun r_1 τ_2 h_3 => ?_)
  obtain ⟨eh_3, h_3⟩ := h_3
  obtain rfl := eh_3.symm
  refine r_if_eq C 11 dX9_bar_6 (by decide) (fun c_4 => ?_) (fun c_4 => ?_)
  · -- to 11
    refine r_iload_n C 2 dX9_bar_11 rfl rfl ?_
    rcases (show ((q : Int32).toInt < 2 ∨ 5 < (q : Int32).toInt) ∨ (q : Int32).toInt = 2 ∨ (q : Int32).toInt = 3 ∨ (q : Int32).toInt = 4 ∨ (q : Int32).toInt = 5 by omega) with sw_5 | sw_5 | sw_5 | sw_5 | sw_5
    · -- case None
      refine r_tblOut C 132 dX9_bar_12 sw_5 (by decide) ?_
      refine r_iconst C (0) dX9_bar_132 (by decide) ?_
      exact r_iret C T dX9_bar_133 (⟨_, sSet0 σ 65, by omega⟩)
    · -- case 2
      refine r_tblIn C (2) 44 dX9_bar_12 sw_5 (by decide) (by decide) rfl (by decide) ?_
      refine r_aload_n C 0 dX9_bar_44 rfl rfl ?_
      refine r_iload_n C 1 dX9_bar_45 rfl rfl ?_
      refine r_callV C (k := 39) [.int (p)] [] (c_X9_startBar E ad σ  (p) hM (by omega)) lv_X9_291 (by decide) rfl rfl (by decide) (by decide) rfl rfl (Nat.le_of_ble_eq_true rfl) dX9_bar_46 (fun r_6 τ_7 h_8 => ?_)
      obtain ⟨g_9, eh_8, h_8⟩ := h_8
      subst eh_8
      exact r_iret C T dX9_bar_49 (⟨g_9, rfl, by omega⟩)
    · -- case 3
      refine r_tblIn C (3) 50 dX9_bar_12 sw_5 (by decide) (by decide) rfl (by decide) ?_
      refine r_aload_n C 0 dX9_bar_50 rfl rfl ?_
      refine r_iload_n C 1 dX9_bar_51 rfl rfl ?_
      refine r_callV C (k := 39) [.int (p)] [] (c_X9_insideOf E ad σ  (p) ) lv_X9_273 (by decide) rfl rfl (by decide) (by decide) rfl rfl (Nat.le_of_ble_eq_true rfl) dX9_bar_52 (fun r_10 τ_11 h_12 => ?_)
      obtain ⟨eh_12, h_12⟩ := h_12
      obtain rfl := eh_12.symm
      refine r_if_le C 63 dX9_bar_55 (by decide) (fun c_13 => ?_) (fun c_13 => ?_)
      · -- to 63
        refine r_iconst C (0) dX9_bar_63 (by decide) ?_
        exact r_iret C T dX9_bar_64 (⟨_, sSet0 σ 65, by omega⟩)
      · -- to 58
        refine r_bipush C (7) dX9_bar_58 (by decide) ?_
        refine r_goto C 64 dX9_bar_60 (by decide) ?_
        exact r_iret C T dX9_bar_64 (⟨_, sSet0 σ 65, by omega⟩)
    · -- case 4
      refine r_tblIn C (4) 65 dX9_bar_12 sw_5 (by decide) (by decide) rfl (by decide) ?_
      refine r_aload_n C 0 dX9_bar_65 rfl rfl ?_
      refine r_iload_n C 1 dX9_bar_66 rfl rfl ?_
      refine r_callV C (k := 39) [.int (p)] [] (c_X9_insideOf E ad σ  (p) ) lv_X9_273 (by decide) rfl rfl (by decide) (by decide) rfl rfl (Nat.le_of_ble_eq_true rfl) dX9_bar_67 (fun r_14 τ_15 h_16 => ?_)
      obtain ⟨eh_16, h_16⟩ := h_16
      obtain rfl := eh_16.symm
      refine r_if_le C 78 dX9_bar_70 (by decide) (fun c_17 => ?_) (fun c_17 => ?_)
      · -- to 78
        refine r_aload_n C 0 dX9_bar_78 rfl rfl ?_
        refine r_iload_n C 1 dX9_bar_79 rfl rfl ?_
        refine r_callV C (k := 39) [.int (p)] [] (c_X9_isWatched E ad σ  (p) hM (by omega)) lv_X9_294 (by decide) rfl rfl (by decide) (by decide) rfl rfl (Nat.le_of_ble_eq_true rfl) dX9_bar_80 (fun r_18 τ_19 h_20 => ?_)
        obtain ⟨eh_20, h_20⟩ := h_20
        obtain rfl := eh_20.symm
        refine r_if_eq C 91 dX9_bar_83 (by decide) (fun c_21 => ?_) (fun c_21 => ?_)
        · -- to 91
          refine r_iconst C (0) dX9_bar_91 (by decide) ?_
          exact r_iret C T dX9_bar_92 (⟨_, sSet0 σ 65, by omega⟩)
        · -- to 86
          refine r_bipush C (8) dX9_bar_86 (by decide) ?_
          refine r_goto C 92 dX9_bar_88 (by decide) ?_
          exact r_iret C T dX9_bar_92 (⟨_, sSet0 σ 65, by omega⟩)
      · -- to 73
        refine r_bipush C (7) dX9_bar_73 (by decide) ?_
        refine r_goto C 92 dX9_bar_75 (by decide) ?_
        exact r_iret C T dX9_bar_92 (⟨_, sSet0 σ 65, by omega⟩)
    · -- case 5
      refine r_tblIn C (5) 93 dX9_bar_12 sw_5 (by decide) (by decide) rfl (by decide) ?_
      refine r_aload_n C 0 dX9_bar_93 rfl rfl ?_
      refine r_iload_n C 1 dX9_bar_94 rfl rfl ?_
      refine r_callV C (k := 39) [.int (p)] [] (c_X9_lacksTest E ad σ  (p) hM (by omega)) lv_X9_279 (by decide) rfl rfl (by decide) (by decide) rfl rfl (Nat.le_of_ble_eq_true rfl) dX9_bar_95 (fun r_22 τ_23 h_24 => ?_)
      obtain ⟨eh_24, h_24⟩ := h_24
      obtain rfl := eh_24.symm
      refine r_if_eq C 105 dX9_bar_98 (by decide) (fun c_25 => ?_) (fun c_25 => ?_)
      · -- to 105
        refine r_aload_n C 0 dX9_bar_105 rfl rfl ?_
        refine r_iload_n C 1 dX9_bar_106 rfl rfl ?_
        refine r_callV C (k := 39) [.int (p)] [] (c_X9_isOutOfHours E ad σ  (p) hM (by omega)) lv_X9_285 (by decide) rfl rfl (by decide) (by decide) rfl rfl (Nat.le_of_ble_eq_true rfl) dX9_bar_107 (fun r_26 τ_27 h_28 => ?_)
        obtain ⟨eh_28, h_28⟩ := h_28
        obtain rfl := eh_28.symm
        refine r_if_eq C 117 dX9_bar_110 (by decide) (fun c_29 => ?_) (fun c_29 => ?_)
        · -- to 117
          refine r_aload_n C 0 dX9_bar_117 rfl rfl ?_
          refine r_iload_n C 1 dX9_bar_118 rfl rfl ?_
          refine r_callV C (k := 39) [.int (p)] [] (c_X9_areTooMany E ad σ  (p) hM (by omega)) lv_X9_297 (by decide) rfl rfl (by decide) (by decide) rfl rfl (Nat.le_of_ble_eq_true rfl) dX9_bar_119 (fun r_30 τ_31 h_32 => ?_)
          obtain ⟨eh_32, h_32⟩ := h_32
          obtain rfl := eh_32.symm
          refine r_if_eq C 130 dX9_bar_122 (by decide) (fun c_33 => ?_) (fun c_33 => ?_)
          · -- to 130
            refine r_iconst C (0) dX9_bar_130 (by decide) ?_
            exact r_iret C T dX9_bar_131 (⟨_, sSet0 σ 65, by omega⟩)
          · -- to 125
            refine r_bipush C (7) dX9_bar_125 (by decide) ?_
            refine r_goto C 131 dX9_bar_127 (by decide) ?_
            exact r_iret C T dX9_bar_131 (⟨_, sSet0 σ 65, by omega⟩)
        · -- to 113
          refine r_iconst C (5) dX9_bar_113 (by decide) ?_
          refine r_goto C 131 dX9_bar_114 (by decide) ?_
          exact r_iret C T dX9_bar_131 (⟨_, sSet0 σ 65, by omega⟩)
      · -- to 101
        refine r_iconst C (3) dX9_bar_101 (by decide) ?_
        refine r_goto C 131 dX9_bar_102 (by decide) ?_
        exact r_iret C T dX9_bar_131 (⟨_, sSet0 σ 65, by omega⟩)
  · -- to 9
    refine r_iconst C (1) dX9_bar_9 (by decide) ?_
    exact r_iret C T dX9_bar_10 (⟨_, sSet0 σ 65, by omega⟩)
set_option maxHeartbeats 4000000 in
set_option maxRecDepth 100000 in
theorem c_X9_isolate (E : Ev) (ad : Nat → Nat) (σ : Sg) (p : Int32) (hM : IM σ) : Ct E ad yX9_isolate cX9_isolate 3 (some .int) 8 [.ref (ad 39), .int p] σ (fun r τ => Off [57, 65] σ τ ∧ ((σ 39 17).toInt = 0 → r.toInt = -1)) := by
  have k_m10 : (-10 : Int32).toInt = -10 := by decide
  have k_m1 : (-1 : Int32).toInt = -1 := by decide
  have k_0 : (0 : Int32).toInt = 0 := by decide
  have k_1 : (1 : Int32).toInt = 1 := by decide
  have hJ := hM
  unfold IM at hJ
  obtain ⟨n0, n1, n8, n17, n29, n39, n44, c40, c41, c42, c54, c58⟩ := hJ
  refine ct_of RX9 rfl (by decide +kernel) [(0, .ref (ad 39)), (1, .int (p))] rfl (Nat.le_of_ble_eq_true rfl) (fun G C T => ?_)
  refine r_aload_n C 0 dX9_isolate_0 rfl rfl ?_
  refine r_iload_n C 1 dX9_isolate_1 rfl rfl ?_
  refine r_callV C (k := 39) [.int (p)] [] (c_X9_isPermit E ad σ  (p) hM) lv_X9_262 (by decide) rfl rfl (by decide) (by decide) rfl rfl (Nat.le_of_ble_eq_true rfl) dX9_isolate_2 (fun r_1 τ_2 h_3 => ?_)
  obtain ⟨eh_3, h_3⟩ := h_3
  obtain rfl := eh_3.symm
  refine r_if_ne C 10 dX9_isolate_5 (by decide) (fun c_4 => ?_) (fun c_4 => ?_)
  · -- to 10
    refine r_aload_n C 0 dX9_isolate_10 rfl rfl ?_
    refine r_iload_n C 1 dX9_isolate_11 rfl rfl ?_
    refine r_iconst C (0) dX9_isolate_12 (by decide) ?_
    refine r_callV C (k := 39) [.int (p), .int (0)] [] (c_X9_bar E ad σ  (p) (0) hM (by omega)) lv_X9_300 (by decide) rfl rfl (by decide) (by decide) rfl rfl (Nat.le_of_ble_eq_true rfl) dX9_isolate_13 (fun r_5 τ_6 h_7 => ?_)
    obtain ⟨g_8, eh_7, h_7⟩ := h_7
    subst eh_7
    refine r_if_le C 29 dX9_isolate_16 (by decide) (fun c_9 => ?_) (fun c_9 => ?_)
    · -- to 29
      refine r_aload_n C 0 dX9_isolate_29 rfl rfl ?_
      refine r_callV C (k := 39) [] [] (c_X9_closedNow E ad (sSet σ 65 g_8)   hM) lv_X9_133 (by decide) rfl rfl (by decide) (by decide) rfl rfl (Nat.le_of_ble_eq_true rfl) dX9_isolate_30 (fun r_10 τ_11 h_12 => ?_)
      obtain ⟨eh_12, h_12⟩ := h_12
      obtain rfl := eh_12.symm
      refine r_istore_n C [(2, .int (r_10)), (0, .ref (ad 39)), (1, .int (p))] dX9_isolate_33 rfl (by decide) rfl ?_
      refine r_aload_n C 1 dX9_isolate_34 rfl rfl ?_
      refine r_get C (k := 39) (v := .ref (ad 57)) f_X9_62 (by decide) rfl rfl dX9_isolate_35 ?_
      refine r_iload_n C 2 dX9_isolate_38 rfl rfl ?_
      refine r_iconst C (1) dX9_isolate_39 (by decide) ?_
      refine r_iast C (k := 57) (by decide) (fun _ => rfl) (by omega) dX9_isolate_40 ?_
      refine r_aload_n C 1 dX9_isolate_41 rfl rfl ?_
      refine r_callV C (k := 39) [] [] (c_X9_closedNow E ad (sUp (sSet σ 65 g_8) 57 ((p : Int32).toInt.toNat) (1))   hM) lv_X9_133 (by decide) rfl rfl (by decide) (by decide) rfl rfl (Nat.le_of_ble_eq_true rfl) dX9_isolate_42 (fun r_13 τ_14 h_15 => ?_)
      obtain ⟨eh_15, h_15⟩ := h_15
      obtain rfl := eh_15.symm
      refine r_callS C [.int (r_13)] [] (c_X9_ones E ad (sUp (sSet σ 65 g_8) 57 ((p : Int32).toInt.toNat) (1))  (r_13) ) ls_X9_303 (by decide) (by decide) rfl rfl (Nat.le_of_ble_eq_true rfl) dX9_isolate_45 (fun r_16 τ_17 h_18 => ?_)
      obtain ⟨eh_18, h_18⟩ := h_18
      obtain rfl := eh_18.symm
      refine r_iload_n C 0 dX9_isolate_48 rfl rfl ?_
      refine r_callS C [.int (r_10)] [.int (r_16)] (c_X9_ones E ad (sUp (sSet σ 65 g_8) 57 ((p : Int32).toInt.toNat) (1))  (r_10) ) ls_X9_303 (by decide) (by decide) rfl rfl (Nat.le_of_ble_eq_true rfl) dX9_isolate_49 (fun r_19 τ_20 h_21 => ?_)
      obtain ⟨eh_21, h_21⟩ := h_21
      obtain rfl := eh_21.symm
      refine r_isub C dX9_isolate_52 ?_
      refine r_nm (P := fun z => z = (r_16) - (r_19)) rfl (fun z_22 hz_23 => ?_)
      exact r_iret C T dX9_isolate_53 (⟨(Off.rf.st (by decide)).up (by decide), fun h => absurd h (by omega)⟩)
    · -- to 19
      refine r_bipush C (-10) dX9_isolate_19 (by decide) ?_
      refine r_aload_n C 0 dX9_isolate_21 rfl rfl ?_
      refine r_iload_n C 1 dX9_isolate_22 rfl rfl ?_
      refine r_iconst C (0) dX9_isolate_23 (by decide) ?_
      refine r_callV C (k := 39) [.int (p), .int (0)] [.int ((-10))] (c_X9_bar E ad (sSet σ 65 g_8)  (p) (0) hM (by omega)) lv_X9_300 (by decide) rfl rfl (by decide) (by decide) rfl rfl (Nat.le_of_ble_eq_true rfl) dX9_isolate_24 (fun r_24 τ_25 h_26 => ?_)
      obtain ⟨g_27, eh_26, h_26⟩ := h_26
      subst eh_26
      rw [sSet2]
      refine r_isub C dX9_isolate_27 ?_
      refine r_nm (P := fun z => z = ((-10)) - (r_24)) rfl (fun z_28 hz_29 => ?_)
      exact r_iret C T dX9_isolate_28 (⟨(Off.rf.st (by decide)), fun h => absurd h (by omega)⟩)
  · -- to 8
    refine r_iconst C (-1) dX9_isolate_8 (by decide) ?_
    exact r_iret C T dX9_isolate_9 (⟨Off.rf, fun _ => k_m1⟩)
set_option maxHeartbeats 4000000 in
set_option maxRecDepth 100000 in
theorem c_X9_test (E : Ev) (ad : Nat → Nat) (σ : Sg) (p : Int32) (q : Int32) (hM : IM σ) : Ct E ad yX9_test cX9_test 3 (some .int) 8 [.ref (ad 39), .int p, .int q] σ (fun r τ => Off [57, 59, 60, 65] σ τ ∧ ((σ 39 17).toInt = 0 → r.toInt = -1)) := by
  have k_m10 : (-10 : Int32).toInt = -10 := by decide
  have k_m1 : (-1 : Int32).toInt = -1 := by decide
  have k_0 : (0 : Int32).toInt = 0 := by decide
  have k_1 : (1 : Int32).toInt = 1 := by decide
  have k_2 : (2 : Int32).toInt = 2 := by decide
  have k_10 : (10 : Int32).toInt = 10 := by decide
  have k_100 : (100 : Int32).toInt = 100 := by decide
  have hJ := hM
  unfold IM at hJ
  obtain ⟨n0, n1, n8, n17, n29, n39, n44, c40, c41, c42, c54, c58⟩ := hJ
  refine ct_of RX9 rfl (by decide +kernel) [(0, .ref (ad 39)), (1, .int (p)), (2, .int (q))] rfl (Nat.le_of_ble_eq_true rfl) (fun G C T => ?_)
  refine r_aload_n C 0 dX9_test_0 rfl rfl ?_
  refine r_iload_n C 1 dX9_test_1 rfl rfl ?_
  refine r_callV C (k := 39) [.int (p)] [] (c_X9_isPermit E ad σ  (p) hM) lv_X9_262 (by decide) rfl rfl (by decide) (by decide) rfl rfl (Nat.le_of_ble_eq_true rfl) dX9_test_2 (fun r_1 τ_2 h_3 => ?_)
  obtain ⟨eh_3, h_3⟩ := h_3
  obtain rfl := eh_3.symm
  refine r_if_eq C 18 dX9_test_5 (by decide) (fun c_4 => ?_) (fun c_4 => ?_)
  · -- to 18
    refine r_iconst C (-1) dX9_test_18 (by decide) ?_
    exact r_iret C T dX9_test_19 (⟨Off.rf, fun _ => k_m1⟩)
  · -- to 8
    refine r_iload_n C 2 dX9_test_8 rfl rfl ?_
    refine r_iconst C (0) dX9_test_9 (by decide) ?_
    refine r_bipush C (100) dX9_test_10 (by decide) ?_
    refine r_callS C [.int (q), .int (0), .int (100)] [] (c_X9_in E ad σ  (q) (0) (100) ) ls_X9_105 (by decide) (by decide) rfl rfl (Nat.le_of_ble_eq_true rfl) dX9_test_12 (fun r_5 τ_6 h_7 => ?_)
    obtain ⟨eh_7, h_7⟩ := h_7
    obtain rfl := eh_7.symm
    refine r_if_ne C 20 dX9_test_15 (by decide) (fun c_8 => ?_) (fun c_8 => ?_)
    · -- to 20
      refine r_aload_n C 0 dX9_test_20 rfl rfl ?_
      refine r_iload_n C 1 dX9_test_21 rfl rfl ?_
      refine r_iconst C (1) dX9_test_22 (by decide) ?_
      refine r_callV C (k := 39) [.int (p), .int (1)] [] (c_X9_bar E ad σ  (p) (1) hM (by omega)) lv_X9_300 (by decide) rfl rfl (by decide) (by decide) rfl rfl (Nat.le_of_ble_eq_true rfl) dX9_test_23 (fun r_9 τ_10 h_11 => ?_)
      obtain ⟨g_12, eh_11, h_11⟩ := h_11
      subst eh_11
      refine r_if_le C 39 dX9_test_26 (by decide) (fun c_13 => ?_) (fun c_13 => ?_)
      · -- to 39
        refine r_aload_n C 0 dX9_test_39 rfl rfl ?_
        refine r_get C (k := 39) (v := .ref (ad 59)) f_X9_68 (by decide) rfl rfl dX9_test_40 ?_
        refine r_iload_n C 1 dX9_test_43 rfl rfl ?_
        refine r_iload_n C 2 dX9_test_44 rfl rfl ?_
        refine r_iast C (k := 59) (by decide) (fun _ => rfl) (by omega) dX9_test_45 ?_
        refine r_aload_n C 0 dX9_test_46 rfl rfl ?_
        refine r_get C (k := 39) (v := .ref (ad 60)) f_X9_71 (by decide) rfl rfl dX9_test_47 ?_
        refine r_iload_n C 1 dX9_test_50 rfl rfl ?_
        refine r_aload_n C 0 dX9_test_51 rfl rfl ?_
        refine r_get C (k := 39) (v := .int (σ 39 0)) f_X9_119 (by decide) rfl rfl dX9_test_52 ?_
        refine r_iast C (k := 60) (by decide) (fun _ => rfl) (by omega) dX9_test_55 ?_
        refine r_aload_n C 0 dX9_test_56 rfl rfl ?_
        refine r_get C (k := 39) (v := .ref (ad 57)) f_X9_62 (by decide) rfl rfl dX9_test_57 ?_
        refine r_iload_n C 1 dX9_test_60 rfl rfl ?_
        refine r_aload_n C 0 dX9_test_61 rfl rfl ?_
        refine r_get C (k := 39) (v := .ref (ad 57)) f_X9_62 (by decide) rfl rfl dX9_test_62 ?_
        refine r_iload_n C 1 dX9_test_65 rfl rfl ?_
        refine r_iald C (k := 57) (by decide) rfl (by omega) (σ 57 ((p : Int32).toInt.toNat)) rfl dX9_test_66 ?_
        refine r_iconst C (1) dX9_test_67 (by decide) ?_
        refine r_icmp_ne C 75 dX9_test_68 (by decide) (fun c_15 => ?_) (fun c_15 => ?_)
        · -- to 75
          refine r_aload_n C 0 dX9_test_75 rfl rfl ?_
          refine r_get C (k := 39) (v := .ref (ad 57)) f_X9_62 (by decide) rfl rfl dX9_test_76 ?_
          refine r_iload_n C 1 dX9_test_79 rfl rfl ?_
          refine r_iald C (k := 57) (by decide) rfl (by omega) (σ 57 ((p : Int32).toInt.toNat)) rfl dX9_test_80 ?_
          refine r_iast C (k := 57) (by decide) (fun _ => rfl) (by omega) dX9_test_81 ?_
          refine r_iload_n C 2 dX9_test_82 rfl rfl ?_
          refine r_bipush C (10) dX9_test_83 (by decide) ?_
          refine r_icmp_gt C 92 dX9_test_85 (by decide) (fun c_17 => ?_) (fun c_17 => ?_)
          · -- to 92
            refine r_iconst C (0) dX9_test_92 (by decide) ?_
            exact r_iret C T dX9_test_93 (⟨(((Off.rf.st (by decide)).up (by decide)).up (by decide)).up (by decide), fun h => absurd h (by omega)⟩)
          · -- to 88
            refine r_iconst C (1) dX9_test_88 (by decide) ?_
            refine r_goto C 93 dX9_test_89 (by decide) ?_
            exact r_iret C T dX9_test_93 (⟨(((Off.rf.st (by decide)).up (by decide)).up (by decide)).up (by decide), fun h => absurd h (by omega)⟩)
        · -- to 71
          refine r_iconst C (2) dX9_test_71 (by decide) ?_
          refine r_goto C 81 dX9_test_72 (by decide) ?_
          refine r_iast C (k := 57) (by decide) (fun _ => rfl) (by omega) dX9_test_81 ?_
          refine r_iload_n C 2 dX9_test_82 rfl rfl ?_
          refine r_bipush C (10) dX9_test_83 (by decide) ?_
          refine r_icmp_gt C 92 dX9_test_85 (by decide) (fun c_18 => ?_) (fun c_18 => ?_)
          · -- to 92
            refine r_iconst C (0) dX9_test_92 (by decide) ?_
            exact r_iret C T dX9_test_93 (⟨(((Off.rf.st (by decide)).up (by decide)).up (by decide)).up (by decide), fun h => absurd h (by omega)⟩)
          · -- to 88
            refine r_iconst C (1) dX9_test_88 (by decide) ?_
            refine r_goto C 93 dX9_test_89 (by decide) ?_
            exact r_iret C T dX9_test_93 (⟨(((Off.rf.st (by decide)).up (by decide)).up (by decide)).up (by decide), fun h => absurd h (by omega)⟩)
      · -- to 29
        refine r_bipush C (-10) dX9_test_29 (by decide) ?_
        refine r_aload_n C 0 dX9_test_31 rfl rfl ?_
        refine r_iload_n C 1 dX9_test_32 rfl rfl ?_
        refine r_iconst C (1) dX9_test_33 (by decide) ?_
        refine r_callV C (k := 39) [.int (p), .int (1)] [.int ((-10))] (c_X9_bar E ad (sSet σ 65 g_12)  (p) (1) hM (by omega)) lv_X9_300 (by decide) rfl rfl (by decide) (by decide) rfl rfl (Nat.le_of_ble_eq_true rfl) dX9_test_34 (fun r_19 τ_20 h_21 => ?_)
        obtain ⟨g_22, eh_21, h_21⟩ := h_21
        subst eh_21
        rw [sSet2]
        refine r_isub C dX9_test_37 ?_
        refine r_nm (P := fun z => z = ((-10)) - (r_19)) rfl (fun z_23 hz_24 => ?_)
        exact r_iret C T dX9_test_38 (⟨(Off.rf.st (by decide)), fun h => absurd h (by omega)⟩)
    · -- to 18
      refine r_iconst C (-1) dX9_test_18 (by decide) ?_
      exact r_iret C T dX9_test_19 (⟨Off.rf, fun _ => k_m1⟩)
set_option maxHeartbeats 4000000 in
set_option maxRecDepth 100000 in
theorem c_X9_start (E : Ev) (ad : Nat → Nat) (σ : Sg) (p : Int32) (hM : IM σ) : Ct E ad yX9_start cX9_start 3 (some .int) 8 [.ref (ad 39), .int p] σ (fun r τ => Off [57, 65] σ τ ∧ ((σ 39 17).toInt = 0 → r.toInt = -1)) := by
  have k_m10 : (-10 : Int32).toInt = -10 := by decide
  have k_m1 : (-1 : Int32).toInt = -1 := by decide
  have k_1 : (1 : Int32).toInt = 1 := by decide
  have k_2 : (2 : Int32).toInt = 2 := by decide
  have k_3 : (3 : Int32).toInt = 3 := by decide
  have hJ := hM
  unfold IM at hJ
  obtain ⟨n0, n1, n8, n17, n29, n39, n44, c40, c41, c42, c54, c58⟩ := hJ
  refine ct_of RX9 rfl (by decide +kernel) [(0, .ref (ad 39)), (1, .int (p))] rfl (Nat.le_of_ble_eq_true rfl) (fun G C T => ?_)
  refine r_aload_n C 0 dX9_start_0 rfl rfl ?_
  refine r_iload_n C 1 dX9_start_1 rfl rfl ?_
  refine r_callV C (k := 39) [.int (p)] [] (c_X9_isPermit E ad σ  (p) hM) lv_X9_262 (by decide) rfl rfl (by decide) (by decide) rfl rfl (Nat.le_of_ble_eq_true rfl) dX9_start_2 (fun r_1 τ_2 h_3 => ?_)
  obtain ⟨eh_3, h_3⟩ := h_3
  obtain rfl := eh_3.symm
  refine r_if_ne C 10 dX9_start_5 (by decide) (fun c_4 => ?_) (fun c_4 => ?_)
  · -- to 10
    refine r_aload_n C 0 dX9_start_10 rfl rfl ?_
    refine r_iload_n C 1 dX9_start_11 rfl rfl ?_
    refine r_iconst C (2) dX9_start_12 (by decide) ?_
    refine r_callV C (k := 39) [.int (p), .int (2)] [] (c_X9_bar E ad σ  (p) (2) hM (by omega)) lv_X9_300 (by decide) rfl rfl (by decide) (by decide) rfl rfl (Nat.le_of_ble_eq_true rfl) dX9_start_13 (fun r_5 τ_6 h_7 => ?_)
    obtain ⟨g_8, eh_7, h_7⟩ := h_7
    subst eh_7
    refine r_istore_n C [(2, .int (r_5)), (0, .ref (ad 39)), (1, .int (p))] dX9_start_16 rfl (by decide) rfl ?_
    refine r_iload_n C 0 dX9_start_17 rfl rfl ?_
    refine r_if_le C 26 dX9_start_18 (by decide) (fun c_9 => ?_) (fun c_9 => ?_)
    · -- to 26
      refine r_aload_n C 1 dX9_start_26 rfl rfl ?_
      refine r_get C (k := 39) (v := .ref (ad 57)) f_X9_62 (by decide) rfl rfl dX9_start_27 ?_
      refine r_iload_n C 2 dX9_start_30 rfl rfl ?_
      refine r_iconst C (3) dX9_start_31 (by decide) ?_
      refine r_iast C (k := 57) (by decide) (fun _ => rfl) (by omega) dX9_start_32 ?_
      refine r_iconst C (1) dX9_start_33 (by decide) ?_
      exact r_iret C T dX9_start_34 (⟨(Off.rf.st (by decide)).up (by decide), fun h => absurd h (by omega)⟩)
    · -- to 21
      refine r_bipush C (-10) dX9_start_21 (by decide) ?_
      refine r_iload_n C 0 dX9_start_23 rfl rfl ?_
      refine r_isub C dX9_start_24 ?_
      refine r_nm (P := fun z => z = ((-10)) - (r_5)) rfl (fun z_10 hz_11 => ?_)
      exact r_iret C T dX9_start_25 (⟨(Off.rf.st (by decide)), fun h => absurd h (by omega)⟩)
  · -- to 8
    refine r_iconst C (-1) dX9_start_8 (by decide) ?_
    exact r_iret C T dX9_start_9 (⟨Off.rf, fun _ => k_m1⟩)
set_option maxHeartbeats 4000000 in
set_option maxRecDepth 100000 in
theorem c_X9_hangUp (E : Ev) (ad : Nat → Nat) (σ : Sg) (p : Int32) (hp : 0 ≤ p.toInt ∧ p.toInt < 7) : CtV E ad yX9_hangUp cX9_hangUp 2 0 [.ref (ad 39), .int p] σ (fun τ => τ = sUp (sUp σ 57 p.toInt.toNat 4) 61 p.toInt.toNat (σ 39 0)) := by
  have k_4 : (4 : Int32).toInt = 4 := by decide
  refine ctv_of RX9 rfl (by decide +kernel) [(0, .ref (ad 39)), (1, .int (p))] rfl (Nat.le_of_ble_eq_true rfl) (fun G C T => ?_)
  refine r_aload_n C 0 dX9_hangUp_0 rfl rfl ?_
  refine r_get C (k := 39) (v := .ref (ad 57)) f_X9_62 (by decide) rfl rfl dX9_hangUp_1 ?_
  refine r_iload_n C 1 dX9_hangUp_4 rfl rfl ?_
  refine r_iconst C (4) dX9_hangUp_5 (by decide) ?_
  refine r_iast C (k := 57) (by decide) (fun _ => rfl) (by omega) dX9_hangUp_6 ?_
  refine r_aload_n C 0 dX9_hangUp_7 rfl rfl ?_
  refine r_get C (k := 39) (v := .ref (ad 61)) f_X9_74 (by decide) rfl rfl dX9_hangUp_8 ?_
  refine r_iload_n C 1 dX9_hangUp_11 rfl rfl ?_
  refine r_aload_n C 0 dX9_hangUp_12 rfl rfl ?_
  refine r_get C (k := 39) (v := .int (σ 39 0)) f_X9_119 (by decide) rfl rfl dX9_hangUp_13 ?_
  refine r_iast C (k := 61) (by decide) (fun _ => rfl) (by omega) dX9_hangUp_16 ?_
  exact r_vret C T dX9_hangUp_17 (rfl)
set_option maxHeartbeats 4000000 in
set_option maxRecDepth 100000 in
theorem c_X9_hang (E : Ev) (ad : Nat → Nat) (σ : Sg) (p : Int32) (hM : IM σ) : Ct E ad yX9_hang cX9_hang 3 (some .int) 8 [.ref (ad 39), .int p] σ (fun r τ => Off [57, 61, 65] σ τ ∧ ((σ 39 17).toInt = 0 → r.toInt = -1)) := by
  have k_m10 : (-10 : Int32).toInt = -10 := by decide
  have k_m1 : (-1 : Int32).toInt = -1 := by decide
  have k_1 : (1 : Int32).toInt = 1 := by decide
  have k_3 : (3 : Int32).toInt = 3 := by decide
  have hJ := hM
  unfold IM at hJ
  obtain ⟨n0, n1, n8, n17, n29, n39, n44, c40, c41, c42, c54, c58⟩ := hJ
  refine ct_of RX9 rfl (by decide +kernel) [(0, .ref (ad 39)), (1, .int (p))] rfl (Nat.le_of_ble_eq_true rfl) (fun G C T => ?_)
  refine r_aload_n C 0 dX9_hang_0 rfl rfl ?_
  refine r_iload_n C 1 dX9_hang_1 rfl rfl ?_
  refine r_callV C (k := 39) [.int (p)] [] (c_X9_isPermit E ad σ  (p) hM) lv_X9_262 (by decide) rfl rfl (by decide) (by decide) rfl rfl (Nat.le_of_ble_eq_true rfl) dX9_hang_2 (fun r_1 τ_2 h_3 => ?_)
  obtain ⟨eh_3, h_3⟩ := h_3
  obtain rfl := eh_3.symm
  refine r_if_ne C 10 dX9_hang_5 (by decide) (fun c_4 => ?_) (fun c_4 => ?_)
  · -- to 10
    refine r_aload_n C 0 dX9_hang_10 rfl rfl ?_
    refine r_iload_n C 1 dX9_hang_11 rfl rfl ?_
    refine r_iconst C (3) dX9_hang_12 (by decide) ?_
    refine r_callV C (k := 39) [.int (p), .int (3)] [] (c_X9_bar E ad σ  (p) (3) hM (by omega)) lv_X9_300 (by decide) rfl rfl (by decide) (by decide) rfl rfl (Nat.le_of_ble_eq_true rfl) dX9_hang_13 (fun r_5 τ_6 h_7 => ?_)
    obtain ⟨g_8, eh_7, h_7⟩ := h_7
    subst eh_7
    refine r_istore_n C [(2, .int (r_5)), (0, .ref (ad 39)), (1, .int (p))] dX9_hang_16 rfl (by decide) rfl ?_
    refine r_iload_n C 0 dX9_hang_17 rfl rfl ?_
    refine r_if_le C 26 dX9_hang_18 (by decide) (fun c_9 => ?_) (fun c_9 => ?_)
    · -- to 26
      refine r_aload_n C 1 dX9_hang_26 rfl rfl ?_
      refine r_iload_n C 2 dX9_hang_27 rfl rfl ?_
      refine r_callVv C (k := 39) [.int (p)] [] (c_X9_hangUp E ad (sSet σ 65 g_8)  (p) (by omega)) lv_X9_306 (by decide) rfl rfl (by decide) (by decide) rfl rfl (Nat.le_of_ble_eq_true rfl) dX9_hang_28 (fun τ_11 h_12 => ?_)
      refine r_iconst C (1) dX9_hang_31 (by decide) ?_
      exact r_iret C T dX9_hang_32 (⟨by rw [h_12]; exact ((Off.rf.st (by decide)).up (by decide)).up (by decide), fun h => absurd h (by omega)⟩)
    · -- to 21
      refine r_bipush C (-10) dX9_hang_21 (by decide) ?_
      refine r_iload_n C 0 dX9_hang_23 rfl rfl ?_
      refine r_isub C dX9_hang_24 ?_
      refine r_nm (P := fun z => z = ((-10)) - (r_5)) rfl (fun z_13 hz_14 => ?_)
      exact r_iret C T dX9_hang_25 (⟨(Off.rf.st (by decide)), fun h => absurd h (by omega)⟩)
  · -- to 8
    refine r_iconst C (-1) dX9_hang_8 (by decide) ?_
    exact r_iret C T dX9_hang_9 (⟨Off.rf, fun _ => k_m1⟩)
set_option maxHeartbeats 4000000 in
set_option maxRecDepth 100000 in
theorem c_X9_back (E : Ev) (ad : Nat → Nat) (σ : Sg) (p : Int32) (hM : IM σ) : Ct E ad yX9_back cX9_back 4 (some .int) 8 [.ref (ad 39), .int p] σ (fun r τ => Off [57, 65] σ τ ∧ ((σ 39 17).toInt = 0 → r.toInt = -1)) := by
  have k_m10 : (-10 : Int32).toInt = -10 := by decide
  have k_m1 : (-1 : Int32).toInt = -1 := by decide
  have k_4 : (4 : Int32).toInt = 4 := by decide
  have k_5 : (5 : Int32).toInt = 5 := by decide
  have hJ := hM
  unfold IM at hJ
  obtain ⟨n0, n1, n8, n17, n29, n39, n44, c40, c41, c42, c54, c58⟩ := hJ
  refine ct_of RX9 rfl (by decide +kernel) [(0, .ref (ad 39)), (1, .int (p))] rfl (Nat.le_of_ble_eq_true rfl) (fun G C T => ?_)
  refine r_aload_n C 0 dX9_back_0 rfl rfl ?_
  refine r_iload_n C 1 dX9_back_1 rfl rfl ?_
  refine r_callV C (k := 39) [.int (p)] [] (c_X9_isPermit E ad σ  (p) hM) lv_X9_262 (by decide) rfl rfl (by decide) (by decide) rfl rfl (Nat.le_of_ble_eq_true rfl) dX9_back_2 (fun r_1 τ_2 h_3 => ?_)
  obtain ⟨eh_3, h_3⟩ := h_3
  obtain rfl := eh_3.symm
  refine r_if_ne C 10 dX9_back_5 (by decide) (fun c_4 => ?_) (fun c_4 => ?_)
  · -- to 10
    refine r_aload_n C 0 dX9_back_10 rfl rfl ?_
    refine r_iload_n C 1 dX9_back_11 rfl rfl ?_
    refine r_iconst C (4) dX9_back_12 (by decide) ?_
    refine r_callV C (k := 39) [.int (p), .int (4)] [] (c_X9_bar E ad σ  (p) (4) hM (by omega)) lv_X9_300 (by decide) rfl rfl (by decide) (by decide) rfl rfl (Nat.le_of_ble_eq_true rfl) dX9_back_13 (fun r_5 τ_6 h_7 => ?_)
    obtain ⟨g_8, eh_7, h_7⟩ := h_7
    subst eh_7
    refine r_istore_n C [(2, .int (r_5)), (0, .ref (ad 39)), (1, .int (p))] dX9_back_16 rfl (by decide) rfl ?_
    refine r_iload_n C 0 dX9_back_17 rfl rfl ?_
    refine r_if_le C 26 dX9_back_18 (by decide) (fun c_9 => ?_) (fun c_9 => ?_)
    · -- to 26
      refine r_aload_n C 1 dX9_back_26 rfl rfl ?_
      refine r_callV C (k := 39) [] [] (c_X9_closedNow E ad (sSet σ 65 g_8)   hM) lv_X9_133 (by decide) rfl rfl (by decide) (by decide) rfl rfl (Nat.le_of_ble_eq_true rfl) dX9_back_27 (fun r_10 τ_11 h_12 => ?_)
      obtain ⟨eh_12, h_12⟩ := h_12
      obtain rfl := eh_12.symm
      refine r_istore_n C [(3, .int (r_10)), (2, .int (r_5)), (0, .ref (ad 39)), (1, .int (p))] dX9_back_30 rfl (by decide) rfl ?_
      refine r_aload_n C 2 dX9_back_31 rfl rfl ?_
      refine r_get C (k := 39) (v := .ref (ad 57)) f_X9_62 (by decide) rfl rfl dX9_back_32 ?_
      refine r_iload_n C 3 dX9_back_35 rfl rfl ?_
      refine r_iconst C (5) dX9_back_36 (by decide) ?_
      refine r_iast C (k := 57) (by decide) (fun _ => rfl) (by omega) dX9_back_37 ?_
      refine r_iload_n C 0 dX9_back_38 rfl rfl ?_
      refine r_callS C [.int (r_10)] [] (c_X9_ones E ad (sUp (sSet σ 65 g_8) 57 ((p : Int32).toInt.toNat) (5))  (r_10) ) ls_X9_303 (by decide) (by decide) rfl rfl (Nat.le_of_ble_eq_true rfl) dX9_back_39 (fun r_13 τ_14 h_15 => ?_)
      obtain ⟨eh_15, h_15⟩ := h_15
      obtain rfl := eh_15.symm
      refine r_aload_n C 2 dX9_back_42 rfl rfl ?_
      refine r_callV C (k := 39) [] [.int (r_13)] (c_X9_closedNow E ad (sUp (sSet σ 65 g_8) 57 ((p : Int32).toInt.toNat) (5))   hM) lv_X9_133 (by decide) rfl rfl (by decide) (by decide) rfl rfl (Nat.le_of_ble_eq_true rfl) dX9_back_43 (fun r_16 τ_17 h_18 => ?_)
      obtain ⟨eh_18, h_18⟩ := h_18
      obtain rfl := eh_18.symm
      refine r_callS C [.int (r_16)] [.int (r_13)] (c_X9_ones E ad (sUp (sSet σ 65 g_8) 57 ((p : Int32).toInt.toNat) (5))  (r_16) ) ls_X9_303 (by decide) (by decide) rfl rfl (Nat.le_of_ble_eq_true rfl) dX9_back_46 (fun r_19 τ_20 h_21 => ?_)
      obtain ⟨eh_21, h_21⟩ := h_21
      obtain rfl := eh_21.symm
      refine r_isub C dX9_back_49 ?_
      refine r_nm (P := fun z => z = (r_13) - (r_19)) rfl (fun z_22 hz_23 => ?_)
      exact r_iret C T dX9_back_50 (⟨(Off.rf.st (by decide)).up (by decide), fun h => absurd h (by omega)⟩)
    · -- to 21
      refine r_bipush C (-10) dX9_back_21 (by decide) ?_
      refine r_iload_n C 0 dX9_back_23 rfl rfl ?_
      refine r_isub C dX9_back_24 ?_
      refine r_nm (P := fun z => z = ((-10)) - (r_5)) rfl (fun z_24 hz_25 => ?_)
      exact r_iret C T dX9_back_25 (⟨(Off.rf.st (by decide)), fun h => absurd h (by omega)⟩)
  · -- to 8
    refine r_iconst C (-1) dX9_back_8 (by decide) ?_
    exact r_iret C T dX9_back_9 (⟨Off.rf, fun _ => k_m1⟩)
set_option maxHeartbeats 4000000 in
set_option maxRecDepth 100000 in
theorem c_X9_may (E : Ev) (ad : Nat → Nat) (σ : Sg) (p : Int32) (q : Int32) (hM : IM σ) : Ct E ad yX9_may cX9_may 3 (some .int) 8 [.ref (ad 39), .int p, .int q] σ (fun r τ => Off [65] σ τ ∧ ((σ 39 17).toInt = 0 → r.toInt = -1)) := by
  have k_m1 : (-1 : Int32).toInt = -1 := by decide
  have k_0 : (0 : Int32).toInt = 0 := by decide
  have k_5 : (5 : Int32).toInt = 5 := by decide
  have hJ := hM
  unfold IM at hJ
  obtain ⟨n0, n1, n8, n17, n29, n39, n44, c40, c41, c42, c54, c58⟩ := hJ
  refine ct_of RX9 rfl (by decide +kernel) [(0, .ref (ad 39)), (1, .int (p)), (2, .int (q))] rfl (Nat.le_of_ble_eq_true rfl) (fun G C T => ?_)
  refine r_aload_n C 0 dX9_may_0 rfl rfl ?_
  refine r_iload_n C 1 dX9_may_1 rfl rfl ?_
  refine r_callV C (k := 39) [.int (p)] [] (c_X9_isPermit E ad σ  (p) hM) lv_X9_262 (by decide) rfl rfl (by decide) (by decide) rfl rfl (Nat.le_of_ble_eq_true rfl) dX9_may_2 (fun r_1 τ_2 h_3 => ?_)
  obtain ⟨eh_3, h_3⟩ := h_3
  obtain rfl := eh_3.symm
  refine r_if_eq C 26 dX9_may_5 (by decide) (fun c_4 => ?_) (fun c_4 => ?_)
  · -- to 26
    refine r_iconst C (-1) dX9_may_26 (by decide) ?_
    exact r_iret C T dX9_may_27 (⟨Off.rf, fun _ => k_m1⟩)
  · -- to 8
    refine r_iload_n C 2 dX9_may_8 rfl rfl ?_
    refine r_iconst C (0) dX9_may_9 (by decide) ?_
    refine r_iconst C (5) dX9_may_10 (by decide) ?_
    refine r_callS C [.int (q), .int (0), .int (5)] [] (c_X9_in E ad σ  (q) (0) (5) ) ls_X9_105 (by decide) (by decide) rfl rfl (Nat.le_of_ble_eq_true rfl) dX9_may_11 (fun r_5 τ_6 h_7 => ?_)
    obtain ⟨eh_7, h_7⟩ := h_7
    obtain rfl := eh_7.symm
    refine r_if_eq C 26 dX9_may_14 (by decide) (fun c_8 => ?_) (fun c_8 => ?_)
    · -- to 26
      refine r_iconst C (-1) dX9_may_26 (by decide) ?_
      exact r_iret C T dX9_may_27 (⟨Off.rf, fun _ => k_m1⟩)
    · -- to 17
      have tt := k_m1
      refine r_aload_n C 0 dX9_may_17 rfl rfl ?_
      refine r_iload_n C 1 dX9_may_18 rfl rfl ?_
      refine r_iload_n C 2 dX9_may_19 rfl rfl ?_
      refine r_callV C (k := 39) [.int (p), .int (q)] [] (c_X9_bar E ad σ  (p) (q) hM (by omega)) lv_X9_300 (by decide) rfl rfl (by decide) (by decide) rfl rfl (Nat.le_of_ble_eq_true rfl) dX9_may_20 (fun r_9 τ_10 h_11 => ?_)
      obtain ⟨g_12, eh_11, h_11⟩ := h_11
      subst eh_11
      refine r_goto C 27 dX9_may_23 (by decide) ?_
      exact r_iret C T dX9_may_27 (⟨(Off.rf.st (by decide)), fun h => absurd h (by omega)⟩)
set_option maxHeartbeats 4000000 in
set_option maxRecDepth 100000 in
theorem c_X9_quarrels (E : Ev) (ad : Nat → Nat) (σ : Sg) (p : Int32) (hM : IM σ) : Ct E ad yX9_quarrels cX9_quarrels 2 (some .int) 8 [.ref (ad 39), .int p] σ (fun r τ => Off [65] σ τ ∧ ((σ 39 17).toInt = 0 → r.toInt = -1)) := by
  have k_m1 : (-1 : Int32).toInt = -1 := by decide
  have hJ := hM
  unfold IM at hJ
  obtain ⟨n0, n1, n8, n17, n29, n39, n44, c40, c41, c42, c54, c58⟩ := hJ
  refine ct_of RX9 rfl (by decide +kernel) [(0, .ref (ad 39)), (1, .int (p))] rfl (Nat.le_of_ble_eq_true rfl) (fun G C T => ?_)
  refine r_aload_n C 0 dX9_quarrels_0 rfl rfl ?_
  refine r_iload_n C 1 dX9_quarrels_1 rfl rfl ?_
  refine r_callV C (k := 39) [.int (p)] [] (c_X9_isPermit E ad σ  (p) hM) lv_X9_262 (by decide) rfl rfl (by decide) (by decide) rfl rfl (Nat.le_of_ble_eq_true rfl) dX9_quarrels_2 (fun r_1 τ_2 h_3 => ?_)
  obtain ⟨eh_3, h_3⟩ := h_3
  obtain rfl := eh_3.symm
  refine r_if_eq C 16 dX9_quarrels_5 (by decide) (fun c_4 => ?_) (fun c_4 => ?_)
  · -- to 16
    refine r_iconst C (-1) dX9_quarrels_16 (by decide) ?_
    exact r_iret C T dX9_quarrels_17 (⟨Off.rf, fun _ => k_m1⟩)
  · -- to 8
    have tt := k_m1
    refine r_aload_n C 0 dX9_quarrels_8 rfl rfl ?_
    refine r_iload_n C 1 dX9_quarrels_9 rfl rfl ?_
    refine r_callV C (k := 39) [.int (p)] [] (c_X9_quarrelOf E ad σ  (p) hM (by omega)) lv_X9_282 (by decide) rfl rfl (by decide) (by decide) rfl rfl (Nat.le_of_ble_eq_true rfl) dX9_quarrels_10 (fun r_5 τ_6 h_7 => ?_)
    obtain ⟨g_8, eh_7, h_7⟩ := h_7
    subst eh_7
    refine r_goto C 17 dX9_quarrels_13 (by decide) ?_
    exact r_iret C T dX9_quarrels_17 (⟨(Off.rf.st (by decide)), fun h => absurd h (by omega)⟩)
set_option maxHeartbeats 4000000 in
set_option maxRecDepth 100000 in
theorem c_X9_permitOf (E : Ev) (ad : Nat → Nat) (σ : Sg) (p : Int32) (q : Int32) (hM : IM σ) : Ct E ad yX9_permitOf cX9_permitOf 3 (some .int) 2 [.ref (ad 39), .int p, .int q] σ (fun r τ => τ = σ ∧ ((σ 39 17).toInt = 0 → r.toInt = -1)) := by
  have k_m3 : (-3 : Int32).toInt = -3 := by decide
  have k_m1 : (-1 : Int32).toInt = -1 := by decide
  have k_0 : (0 : Int32).toInt = 0 := by decide
  have k_3 : (3 : Int32).toInt = 3 := by decide
  have k_8 : (8 : Int32).toInt = 8 := by decide
  have hJ := hM
  unfold IM at hJ
  obtain ⟨n0, n1, n8, n17, n29, n39, n44, c40, c41, c42, c54, c58⟩ := hJ
  refine ct_of RX9 rfl (by decide +kernel) [(0, .ref (ad 39)), (1, .int (p)), (2, .int (q))] rfl (Nat.le_of_ble_eq_true rfl) (fun G C T => ?_)
  refine r_aload_n C 0 dX9_permitOf_0 rfl rfl ?_
  refine r_iload_n C 1 dX9_permitOf_1 rfl rfl ?_
  refine r_callV C (k := 39) [.int (p)] [] (c_X9_isPermit E ad σ  (p) hM) lv_X9_262 (by decide) rfl rfl (by decide) (by decide) rfl rfl (Nat.le_of_ble_eq_true rfl) dX9_permitOf_2 (fun r_1 τ_2 h_3 => ?_)
  obtain ⟨eh_3, h_3⟩ := h_3
  obtain rfl := eh_3.symm
  refine r_if_eq C 18 dX9_permitOf_5 (by decide) (fun c_4 => ?_) (fun c_4 => ?_)
  · -- to 18
    refine r_iconst C (-1) dX9_permitOf_18 (by decide) ?_
    exact r_iret C T dX9_permitOf_19 (⟨rfl, fun h => by first | exact k_m1 | exact absurd h (by omega)⟩)
  · -- to 8
    refine r_iload_n C 2 dX9_permitOf_8 rfl rfl ?_
    refine r_iconst C (0) dX9_permitOf_9 (by decide) ?_
    refine r_bipush C (8) dX9_permitOf_10 (by decide) ?_
    refine r_callS C [.int (q), .int (0), .int (8)] [] (c_X9_in E ad σ  (q) (0) (8) ) ls_X9_105 (by decide) (by decide) rfl rfl (Nat.le_of_ble_eq_true rfl) dX9_permitOf_12 (fun r_5 τ_6 h_7 => ?_)
    obtain ⟨eh_7, h_7⟩ := h_7
    obtain rfl := eh_7.symm
    refine r_if_ne C 20 dX9_permitOf_15 (by decide) (fun c_8 => ?_) (fun c_8 => ?_)
    · -- to 20
      refine r_iload_n C 2 dX9_permitOf_20 rfl rfl ?_
      rcases (show ((q : Int32).toInt < 0 ∨ 7 < (q : Int32).toInt) ∨ (q : Int32).toInt = 0 ∨ (q : Int32).toInt = 1 ∨ (q : Int32).toInt = 2 ∨ (q : Int32).toInt = 3 ∨ (q : Int32).toInt = 4 ∨ (q : Int32).toInt = 5 ∨ (q : Int32).toInt = 6 ∨ (q : Int32).toInt = 7 by omega) with sw_9 | sw_9 | sw_9 | sw_9 | sw_9 | sw_9 | sw_9 | sw_9 | sw_9
      · -- case None
        refine r_tblOut C 137 dX9_permitOf_21 sw_9 (by decide) ?_
        refine r_aload_n C 0 dX9_permitOf_137 rfl rfl ?_
        refine r_get C (k := 39) (v := .ref (ad 57)) f_X9_62 (by decide) rfl rfl dX9_permitOf_138 ?_
        refine r_iload_n C 1 dX9_permitOf_141 rfl rfl ?_
        refine r_iald C (k := 57) (by decide) rfl (by omega) (σ 57 ((p : Int32).toInt.toNat)) rfl dX9_permitOf_142 ?_
        refine r_iconst C (3) dX9_permitOf_143 (by decide) ?_
        refine r_icmp_ne C 154 dX9_permitOf_144 (by decide) (fun c_11 => ?_) (fun c_11 => ?_)
        · -- to 154
          refine r_aload_n C 0 dX9_permitOf_154 rfl rfl ?_
          refine r_get C (k := 39) (v := .ref (ad 61)) f_X9_74 (by decide) rfl rfl dX9_permitOf_155 ?_
          refine r_iload_n C 1 dX9_permitOf_158 rfl rfl ?_
          refine r_iald C (k := 61) (by decide) rfl (by omega) (σ 61 ((p : Int32).toInt.toNat)) rfl dX9_permitOf_159 ?_
          exact r_iret C T dX9_permitOf_160 (⟨rfl, fun h => by first | exact k_m1 | exact absurd h (by omega)⟩)
        · -- to 147
          refine r_aload_n C 0 dX9_permitOf_147 rfl rfl ?_
          refine r_get C (k := 39) (v := .int (σ 39 0)) f_X9_119 (by decide) rfl rfl dX9_permitOf_148 ?_
          refine r_goto C 160 dX9_permitOf_151 (by decide) ?_
          exact r_iret C T dX9_permitOf_160 (⟨rfl, fun h => by first | exact k_m1 | exact absurd h (by omega)⟩)
      · -- case 0
        refine r_tblIn C (0) 68 dX9_permitOf_21 sw_9 (by decide) (by decide) rfl (by decide) ?_
        refine r_aload_n C 0 dX9_permitOf_68 rfl rfl ?_
        refine r_get C (k := 39) (v := .ref (ad 54)) f_X9_53 (by decide) rfl rfl dX9_permitOf_69 ?_
        refine r_iload_n C 1 dX9_permitOf_72 rfl rfl ?_
        refine r_iald C (k := 54) (by decide) rfl (by omega) (σ 54 ((p : Int32).toInt.toNat)) rfl dX9_permitOf_73 ?_
        exact r_iret C T dX9_permitOf_74 (⟨rfl, fun h => by first | exact k_m1 | exact absurd h (by omega)⟩)
      · -- case 1
        refine r_tblIn C (1) 75 dX9_permitOf_21 sw_9 (by decide) (by decide) rfl (by decide) ?_
        refine r_aload_n C 0 dX9_permitOf_75 rfl rfl ?_
        refine r_get C (k := 39) (v := .ref (ad 55)) f_X9_56 (by decide) rfl rfl dX9_permitOf_76 ?_
        refine r_iload_n C 1 dX9_permitOf_79 rfl rfl ?_
        refine r_iald C (k := 55) (by decide) rfl (by omega) (σ 55 ((p : Int32).toInt.toNat)) rfl dX9_permitOf_80 ?_
        exact r_iret C T dX9_permitOf_81 (⟨rfl, fun h => by first | exact k_m1 | exact absurd h (by omega)⟩)
      · -- case 2
        refine r_tblIn C (2) 82 dX9_permitOf_21 sw_9 (by decide) (by decide) rfl (by decide) ?_
        refine r_aload_n C 0 dX9_permitOf_82 rfl rfl ?_
        refine r_get C (k := 39) (v := .ref (ad 56)) f_X9_59 (by decide) rfl rfl dX9_permitOf_83 ?_
        refine r_iload_n C 1 dX9_permitOf_86 rfl rfl ?_
        refine r_iald C (k := 56) (by decide) rfl (by omega) (σ 56 ((p : Int32).toInt.toNat)) rfl dX9_permitOf_87 ?_
        exact r_iret C T dX9_permitOf_88 (⟨rfl, fun h => by first | exact k_m1 | exact absurd h (by omega)⟩)
      · -- case 3
        refine r_tblIn C (3) 89 dX9_permitOf_21 sw_9 (by decide) (by decide) rfl (by decide) ?_
        refine r_aload_n C 0 dX9_permitOf_89 rfl rfl ?_
        refine r_get C (k := 39) (v := .ref (ad 57)) f_X9_62 (by decide) rfl rfl dX9_permitOf_90 ?_
        refine r_iload_n C 1 dX9_permitOf_93 rfl rfl ?_
        refine r_iald C (k := 57) (by decide) rfl (by omega) (σ 57 ((p : Int32).toInt.toNat)) rfl dX9_permitOf_94 ?_
        exact r_iret C T dX9_permitOf_95 (⟨rfl, fun h => by first | exact k_m1 | exact absurd h (by omega)⟩)
      · -- case 4
        refine r_tblIn C (4) 96 dX9_permitOf_21 sw_9 (by decide) (by decide) rfl (by decide) ?_
        refine r_aload_n C 0 dX9_permitOf_96 rfl rfl ?_
        refine r_get C (k := 39) (v := .ref (ad 58)) f_X9_65 (by decide) rfl rfl dX9_permitOf_97 ?_
        refine r_iload_n C 1 dX9_permitOf_100 rfl rfl ?_
        refine r_iald C (k := 58) (by decide) rfl (by omega) (σ 58 ((p : Int32).toInt.toNat)) rfl dX9_permitOf_101 ?_
        refine r_if_ge C 110 dX9_permitOf_102 (by decide) (fun c_18 => ?_) (fun c_18 => ?_)
        · -- to 110
          refine r_aload_n C 0 dX9_permitOf_110 rfl rfl ?_
          refine r_get C (k := 39) (v := .ref (ad 58)) f_X9_65 (by decide) rfl rfl dX9_permitOf_111 ?_
          refine r_iload_n C 1 dX9_permitOf_114 rfl rfl ?_
          refine r_iald C (k := 58) (by decide) rfl (by omega) (σ 58 ((p : Int32).toInt.toNat)) rfl dX9_permitOf_115 ?_
          exact r_iret C T dX9_permitOf_116 (⟨rfl, fun h => by first | exact k_m1 | exact absurd h (by omega)⟩)
        · -- to 105
          refine r_bipush C (-3) dX9_permitOf_105 (by decide) ?_
          refine r_goto C 116 dX9_permitOf_107 (by decide) ?_
          exact r_iret C T dX9_permitOf_116 (⟨rfl, fun h => by first | exact k_m1 | exact absurd h (by omega)⟩)
      · -- case 5
        refine r_tblIn C (5) 117 dX9_permitOf_21 sw_9 (by decide) (by decide) rfl (by decide) ?_
        refine r_aload_n C 0 dX9_permitOf_117 rfl rfl ?_
        refine r_iload_n C 1 dX9_permitOf_118 rfl rfl ?_
        refine r_callV C (k := 39) [.int (p)] [] (c_X9_insideOf E ad σ  (p) ) lv_X9_273 (by decide) rfl rfl (by decide) (by decide) rfl rfl (Nat.le_of_ble_eq_true rfl) dX9_permitOf_119 (fun r_20 τ_21 h_22 => ?_)
        obtain ⟨eh_22, h_22⟩ := h_22
        obtain rfl := eh_22.symm
        exact r_iret C T dX9_permitOf_122 (⟨rfl, fun h => by first | exact k_m1 | exact absurd h (by omega)⟩)
      · -- case 6
        refine r_tblIn C (6) 123 dX9_permitOf_21 sw_9 (by decide) (by decide) rfl (by decide) ?_
        refine r_aload_n C 0 dX9_permitOf_123 rfl rfl ?_
        refine r_get C (k := 39) (v := .ref (ad 59)) f_X9_68 (by decide) rfl rfl dX9_permitOf_124 ?_
        refine r_iload_n C 1 dX9_permitOf_127 rfl rfl ?_
        refine r_iald C (k := 59) (by decide) rfl (by omega) (σ 59 ((p : Int32).toInt.toNat)) rfl dX9_permitOf_128 ?_
        exact r_iret C T dX9_permitOf_129 (⟨rfl, fun h => by first | exact k_m1 | exact absurd h (by omega)⟩)
      · -- case 7
        refine r_tblIn C (7) 130 dX9_permitOf_21 sw_9 (by decide) (by decide) rfl (by decide) ?_
        refine r_aload_n C 0 dX9_permitOf_130 rfl rfl ?_
        refine r_get C (k := 39) (v := .ref (ad 60)) f_X9_71 (by decide) rfl rfl dX9_permitOf_131 ?_
        refine r_iload_n C 1 dX9_permitOf_134 rfl rfl ?_
        refine r_iald C (k := 60) (by decide) rfl (by omega) (σ 60 ((p : Int32).toInt.toNat)) rfl dX9_permitOf_135 ?_
        exact r_iret C T dX9_permitOf_136 (⟨rfl, fun h => by first | exact k_m1 | exact absurd h (by omega)⟩)
    · -- to 18
      refine r_iconst C (-1) dX9_permitOf_18 (by decide) ?_
      exact r_iret C T dX9_permitOf_19 (⟨rfl, fun h => by first | exact k_m1 | exact absurd h (by omega)⟩)
set_option maxHeartbeats 4000000 in
set_option maxRecDepth 100000 in
theorem c_X9_enter (E : Ev) (ad : Nat → Nat) (σ : Sg) (p : Int32) (q : Int32) (hM : IM σ) : Ct E ad yX9_enter cX9_enter 4 (some .int) 8 [.ref (ad 39), .int p, .int q] σ (fun r τ => Off [53, 65] σ τ ∧ ((σ 39 17).toInt = 0 → r.toInt = -1)) := by
  have k_m10 : (-10 : Int32).toInt = -10 := by decide
  have k_m4 : (-4 : Int32).toInt = -4 := by decide
  have k_m1 : (-1 : Int32).toInt = -1 := by decide
  have k_5 : (5 : Int32).toInt = 5 := by decide
  have hJ := hM
  unfold IM at hJ
  obtain ⟨n0, n1, n8, n17, n29, n39, n44, c40, c41, c42, c54, c58⟩ := hJ
  refine ct_of RX9 rfl (by decide +kernel) [(0, .ref (ad 39)), (1, .int (p)), (2, .int (q))] rfl (Nat.le_of_ble_eq_true rfl) (fun G C T => ?_)
  refine r_iload_n C 1 dX9_enter_0 rfl rfl ?_
  refine r_callS C [.int (p)] [] (c_X9_isMan E ad σ  (p) ) ls_X9_265 (by decide) (by decide) rfl rfl (Nat.le_of_ble_eq_true rfl) dX9_enter_1 (fun r_1 τ_2 h_3 => ?_)
  obtain ⟨eh_3, h_3⟩ := h_3
  obtain rfl := eh_3.symm
  refine r_if_eq C 15 dX9_enter_4 (by decide) (fun c_4 => ?_) (fun c_4 => ?_)
  · -- to 15
    refine r_iconst C (-1) dX9_enter_15 (by decide) ?_
    exact r_iret C T dX9_enter_16 (⟨Off.rf, fun _ => k_m1⟩)
  · -- to 7
    refine r_aload_n C 0 dX9_enter_7 rfl rfl ?_
    refine r_iload_n C 2 dX9_enter_8 rfl rfl ?_
    refine r_callV C (k := 39) [.int (q)] [] (c_X9_isPermit E ad σ  (q) hM) lv_X9_262 (by decide) rfl rfl (by decide) (by decide) rfl rfl (Nat.le_of_ble_eq_true rfl) dX9_enter_9 (fun r_5 τ_6 h_7 => ?_)
    obtain ⟨eh_7, h_7⟩ := h_7
    obtain rfl := eh_7.symm
    refine r_if_ne C 17 dX9_enter_12 (by decide) (fun c_8 => ?_) (fun c_8 => ?_)
    · -- to 17
      refine r_aload_n C 0 dX9_enter_17 rfl rfl ?_
      refine r_get C (k := 39) (v := .ref (ad 52)) f_X9_47 (by decide) rfl rfl dX9_enter_18 ?_
      refine r_iload_n C 1 dX9_enter_21 rfl rfl ?_
      refine r_zald C (k := 52) (by decide) rfl (by omega) (σ 52 ((p : Int32).toInt.toNat)) rfl dX9_enter_22 ?_
      refine r_if_ne C 35 dX9_enter_23 (by decide) (fun c_10 => ?_) (fun c_10 => ?_)
      · -- to 35
        refine r_bipush C (-4) dX9_enter_35 (by decide) ?_
        exact r_iret C T dX9_enter_37 (⟨Off.rf, fun h => absurd h (by omega)⟩)
      · -- to 26
        refine r_aload_n C 0 dX9_enter_26 rfl rfl ?_
        refine r_get C (k := 39) (v := .ref (ad 53)) f_X9_50 (by decide) rfl rfl dX9_enter_27 ?_
        refine r_iload_n C 1 dX9_enter_30 rfl rfl ?_
        refine r_iald C (k := 53) (by decide) rfl (by omega) (σ 53 ((p : Int32).toInt.toNat)) rfl dX9_enter_31 ?_
        refine r_if_lt C 38 dX9_enter_32 (by decide) (fun c_12 => ?_) (fun c_12 => ?_)
        · -- to 38
          refine r_aload_n C 0 dX9_enter_38 rfl rfl ?_
          refine r_iload_n C 2 dX9_enter_39 rfl rfl ?_
          refine r_iconst C (5) dX9_enter_40 (by decide) ?_
          refine r_callV C (k := 39) [.int (q), .int (5)] [] (c_X9_bar E ad σ  (q) (5) hM (by omega)) lv_X9_300 (by decide) rfl rfl (by decide) (by decide) rfl rfl (Nat.le_of_ble_eq_true rfl) dX9_enter_41 (fun r_13 τ_14 h_15 => ?_)
          obtain ⟨g_16, eh_15, h_15⟩ := h_15
          subst eh_15
          refine r_istore_n C [(3, .int (r_13)), (0, .ref (ad 39)), (1, .int (p)), (2, .int (q))] dX9_enter_44 rfl (by decide) rfl ?_
          refine r_iload_n C 0 dX9_enter_45 rfl rfl ?_
          refine r_if_le C 54 dX9_enter_46 (by decide) (fun c_17 => ?_) (fun c_17 => ?_)
          · -- to 54
            refine r_aload_n C 1 dX9_enter_54 rfl rfl ?_
            refine r_get C (k := 39) (v := .ref (ad 53)) f_X9_50 (by decide) rfl rfl dX9_enter_55 ?_
            refine r_iload_n C 2 dX9_enter_58 rfl rfl ?_
            refine r_iload_n C 3 dX9_enter_59 rfl rfl ?_
            refine r_iast C (k := 53) (by decide) (fun _ => rfl) (by omega) dX9_enter_60 ?_
            refine r_aload_n C 1 dX9_enter_61 rfl rfl ?_
            refine r_iload_n C 3 dX9_enter_62 rfl rfl ?_
            refine r_callV C (k := 39) [.int (q)] [] (c_X9_insideOf E ad (sUp (sSet σ 65 g_16) 53 ((p : Int32).toInt.toNat) (q))  (q) ) lv_X9_273 (by decide) rfl rfl (by decide) (by decide) rfl rfl (Nat.le_of_ble_eq_true rfl) dX9_enter_63 (fun r_18 τ_19 h_20 => ?_)
            obtain ⟨eh_20, h_20⟩ := h_20
            obtain rfl := eh_20.symm
            exact r_iret C T dX9_enter_66 (⟨(Off.rf.st (by decide)).up (by decide), fun h => absurd h (by omega)⟩)
          · -- to 49
            refine r_bipush C (-10) dX9_enter_49 (by decide) ?_
            refine r_iload_n C 0 dX9_enter_51 rfl rfl ?_
            refine r_isub C dX9_enter_52 ?_
            refine r_nm (P := fun z => z = ((-10)) - (r_13)) rfl (fun z_21 hz_22 => ?_)
            exact r_iret C T dX9_enter_53 (⟨(Off.rf.st (by decide)), fun h => absurd h (by omega)⟩)
        · -- to 35
          refine r_bipush C (-4) dX9_enter_35 (by decide) ?_
          exact r_iret C T dX9_enter_37 (⟨Off.rf, fun h => absurd h (by omega)⟩)
    · -- to 15
      refine r_iconst C (-1) dX9_enter_15 (by decide) ?_
      exact r_iret C T dX9_enter_16 (⟨Off.rf, fun _ => k_m1⟩)
set_option maxHeartbeats 4000000 in
set_option maxRecDepth 100000 in
theorem c_X9_leave (E : Ev) (ad : Nat → Nat) (σ : Sg) (p : Int32) (hM : IM σ) : Ct E ad yX9_leave cX9_leave 3 (some .int) 2 [.ref (ad 39), .int p] σ (fun r τ => Off [53] σ τ ∧ (¬ (0 ≤ p.toInt ∧ p.toInt < 8) → r.toInt = -1) ∧ ((∀ j, j < 8 → (σ 53 j).toInt = -1) → 0 ≤ p.toInt ∧ p.toInt < 8 → r.toInt = -4)) := by
  have k_m4 : (-4 : Int32).toInt = -4 := by decide
  have k_m1 : (-1 : Int32).toInt = -1 := by decide
  have hJ := hM
  unfold IM at hJ
  obtain ⟨n0, n1, n8, n17, n29, n39, n44, c40, c41, c42, c54, c58⟩ := hJ
  refine ct_of RX9 rfl (by decide +kernel) [(0, .ref (ad 39)), (1, .int (p))] rfl (Nat.le_of_ble_eq_true rfl) (fun G C T => ?_)
  refine r_iload_n C 1 dX9_leave_0 rfl rfl ?_
  refine r_callS C [.int (p)] [] (c_X9_isMan E ad σ  (p) ) ls_X9_265 (by decide) (by decide) rfl rfl (Nat.le_of_ble_eq_true rfl) dX9_leave_1 (fun r_1 τ_2 h_3 => ?_)
  obtain ⟨eh_3, h_3⟩ := h_3
  obtain rfl := eh_3.symm
  refine r_if_ne C 9 dX9_leave_4 (by decide) (fun c_4 => ?_) (fun c_4 => ?_)
  · -- to 9
    refine r_aload_n C 0 dX9_leave_9 rfl rfl ?_
    refine r_get C (k := 39) (v := .ref (ad 53)) f_X9_50 (by decide) rfl rfl dX9_leave_10 ?_
    refine r_iload_n C 1 dX9_leave_13 rfl rfl ?_
    refine r_iald C (k := 53) (by decide) rfl (by omega) (σ 53 ((p : Int32).toInt.toNat)) rfl dX9_leave_14 ?_
    refine r_if_ge C 21 dX9_leave_15 (by decide) (fun c_6 => ?_) (fun c_6 => ?_)
    · -- to 21
      refine r_aload_n C 0 dX9_leave_21 rfl rfl ?_
      refine r_get C (k := 39) (v := .ref (ad 53)) f_X9_50 (by decide) rfl rfl dX9_leave_22 ?_
      refine r_iload_n C 1 dX9_leave_25 rfl rfl ?_
      refine r_iald C (k := 53) (by decide) rfl (by omega) (σ 53 ((p : Int32).toInt.toNat)) rfl dX9_leave_26 ?_
      refine r_istore_n C [(2, .int (σ 53 ((p : Int32).toInt.toNat))), (0, .ref (ad 39)), (1, .int (p))] dX9_leave_27 rfl (by decide) rfl ?_
      refine r_aload_n C 1 dX9_leave_28 rfl rfl ?_
      refine r_get C (k := 39) (v := .ref (ad 53)) f_X9_50 (by decide) rfl rfl dX9_leave_29 ?_
      refine r_iload_n C 2 dX9_leave_32 rfl rfl ?_
      refine r_iconst C (-1) dX9_leave_33 (by decide) ?_
      refine r_iast C (k := 53) (by decide) (fun _ => rfl) (by omega) dX9_leave_34 ?_
      refine r_iload_n C 0 dX9_leave_35 rfl rfl ?_
      exact r_iret C T dX9_leave_36 (⟨Off.rf.up (by decide), fun h => absurd h (by omega), fun h h2 => absurd (h (p : Int32).toInt.toNat (by omega)) (by omega)⟩)
    · -- to 18
      refine r_bipush C (-4) dX9_leave_18 (by decide) ?_
      exact r_iret C T dX9_leave_20 (⟨Off.rf, fun h => absurd h (by omega), fun _ _ => k_m4⟩)
  · -- to 7
    refine r_iconst C (-1) dX9_leave_7 (by decide) ?_
    exact r_iret C T dX9_leave_8 (⟨Off.rf, fun _ => k_m1, fun _ h => absurd h (by omega)⟩)
set_option maxHeartbeats 4000000 in
set_option maxRecDepth 100000 in
theorem c_X9_holdsLive (E : Ev) (ad : Nat → Nat) (σ : Sg) (p : Int32) (hM : IM σ) : Ct E ad yX9_holdsLive cX9_holdsLive 4 (some .boolean) 0 [.ref (ad 39), .int p] σ (fun r τ => τ = σ ∧ (r.toInt = 0 ∨ r.toInt = 1) ∧ ((σ 39 17).toInt = 0 → r.toInt = 0)) := by
  have k_0 : (0 : Int32).toInt = 0 := by decide
  have k_1 : (1 : Int32).toInt = 1 := by decide
  have k_3 : (3 : Int32).toInt = 3 := by decide
  have hJ := hM
  unfold IM at hJ
  obtain ⟨n0, n1, n8, n17, n29, n39, n44, c40, c41, c42, c54, c58⟩ := hJ
  refine ct_of RX9 rfl (by decide +kernel) [(0, .ref (ad 39)), (1, .int (p))] rfl (Nat.le_of_ble_eq_true rfl) (fun G C T => ?_)
  refine r_iconst C (0) dX9_holdsLive_0 (by decide) ?_
  refine r_istore_n C [(2, .int (0)), (0, .ref (ad 39)), (1, .int (p))] dX9_holdsLive_1 rfl (by decide) rfl ?_
  refine r_iconst C (0) dX9_holdsLive_2 (by decide) ?_
  refine r_istore_n C [(3, .int (0)), (2, .int (0)), (0, .ref (ad 39)), (1, .int (p))] dX9_holdsLive_3 rfl (by decide) rfl ?_
  have L_4 : ∀ (n : Nat), ∀ (a : Int32) (i : Int32), (0 ≤ i.toInt ∧ i.toInt ≤ 7) → (a.toInt = 0 ∨ a.toInt = 1) → ((σ 39 17).toInt = 0 → a.toInt = 0) → 7 - i.toInt < (n : Int) → At E ad G 4 4 [(3, .int (i)), (2, .int (a)), (0, .ref (ad 39)), (1, .int (p))] [] σ := by
    intro n
    induction n with
    | zero =>
      intro a i hi ha hf hm
      exact absurd hm (by omega)
    | succ n ih =>
      intro a i hi ha hf hm
      have ih_4 := ih
      clear ih
      refine r_iload_n C 0 dX9_holdsLive_4 rfl rfl ?_
      refine r_aload_n C 2 dX9_holdsLive_5 rfl rfl ?_
      refine r_get C (k := 39) (v := .int (σ 39 17)) f_X9_113 (by decide) rfl rfl dX9_holdsLive_6 ?_
      refine r_icmp_ge C 48 dX9_holdsLive_9 (by decide) (fun c_1 => ?_) (fun c_1 => ?_)
      · -- to 48
        refine r_iload_n C 1 dX9_holdsLive_48 rfl rfl ?_
        exact r_zret C T dX9_holdsLive_49 (by omega) (⟨rfl, ha, hf⟩)
      · -- to 12
        have L_41 : ∀ (c : Int32), (c.toInt = 0 ∨ c.toInt = 1) → At E ad G 4 41 [(3, .int (i)), (2, .int (a)), (0, .ref (ad 39)), (1, .int (p))] [.int (c)] σ := by
          intro c hc
          refine r_istore_n C [(2, .int (c)), (3, .int (i)), (0, .ref (ad 39)), (1, .int (p))] dX9_holdsLive_41 rfl (by decide) rfl ?_
          refine r_iinc C 1 (fun z => [(3, .int (z)), (2, .int (c)), (0, .ref (ad 39)), (1, .int (p))]) dX9_holdsLive_42 rfl (by decide) (by decide) (by omega) (fun _ => rfl) (fun z_2 hz_3 => ?_)
          refine r_goto C 4 dX9_holdsLive_45 (by decide) ?_
          exact At.sub [0, 1, 2, 3] rfl (ih_4 (c : Int32) (z_2 : Int32) (by omega) hc (fun h => absurd h (by omega)) (by omega))
        refine r_iload_n C 1 dX9_holdsLive_12 rfl rfl ?_
        refine r_if_ne C 36 dX9_holdsLive_13 (by decide) (fun c_4 => ?_) (fun c_4 => ?_)
        · -- to 36
          refine r_iconst C (1) dX9_holdsLive_36 (by decide) ?_
          refine r_goto C 41 dX9_holdsLive_37 (by decide) ?_
          exact At.sub [0, 1, 2, 3] rfl (L_41 (1 : Int32) (by omega))
        · -- to 16
          refine r_aload_n C 2 dX9_holdsLive_16 rfl rfl ?_
          refine r_get C (k := 39) (v := .ref (ad 57)) f_X9_62 (by decide) rfl rfl dX9_holdsLive_17 ?_
          refine r_iload_n C 0 dX9_holdsLive_20 rfl rfl ?_
          refine r_iald C (k := 57) (by decide) rfl (by omega) (σ 57 ((i : Int32).toInt.toNat)) rfl dX9_holdsLive_21 ?_
          refine r_iconst C (3) dX9_holdsLive_22 (by decide) ?_
          refine r_icmp_ne C 40 dX9_holdsLive_23 (by decide) (fun c_6 => ?_) (fun c_6 => ?_)
          · -- to 40
            refine r_iconst C (0) dX9_holdsLive_40 (by decide) ?_
            exact At.sub [0, 1, 2, 3] rfl (L_41 (0 : Int32) (by omega))
          · -- to 26
            refine r_aload_n C 2 dX9_holdsLive_26 rfl rfl ?_
            refine r_get C (k := 39) (v := .ref (ad 58)) f_X9_65 (by decide) rfl rfl dX9_holdsLive_27 ?_
            refine r_iload_n C 0 dX9_holdsLive_30 rfl rfl ?_
            refine r_iald C (k := 58) (by decide) rfl (by omega) (σ 58 ((i : Int32).toInt.toNat)) rfl dX9_holdsLive_31 ?_
            refine r_iload_n C 3 dX9_holdsLive_32 rfl rfl ?_
            refine r_icmp_ne C 40 dX9_holdsLive_33 (by decide) (fun c_8 => ?_) (fun c_8 => ?_)
            · -- to 40
              refine r_iconst C (0) dX9_holdsLive_40 (by decide) ?_
              exact At.sub [0, 1, 2, 3] rfl (L_41 (0 : Int32) (by omega))
            · -- to 36
              refine r_iconst C (1) dX9_holdsLive_36 (by decide) ?_
              refine r_goto C 41 dX9_holdsLive_37 (by decide) ?_
              exact At.sub [0, 1, 2, 3] rfl (L_41 (1 : Int32) (by omega))
  exact At.sub [0, 1, 2, 3] rfl (L_4 ((7 - (0 : Int32).toInt).toNat + 1) (0 : Int32) (0 : Int32) (by omega) (by omega) (fun _ => k_0) (by omega))
set_option maxHeartbeats 4000000 in
set_option maxRecDepth 100000 in
theorem c_X9_shift (E : Ev) (ad : Nat → Nat) (σ : Sg) (p : Int32) (q : Int32) (hM : IM σ) (hq : q.toInt = 0 ∨ q.toInt = 1) : Ct E ad yX9_shift cX9_shift 3 (some .int) 2 [.ref (ad 39), .int p, .int q] σ (fun r τ => Off [52] σ τ ∧ (¬ (0 ≤ p.toInt ∧ p.toInt < 8) → r.toInt = -1) ∧ ((∀ j, j < 8 → (σ 52 j).toInt = 0) → (∀ j, j < 8 → (σ 53 j).toInt = -1) → (σ 39 17).toInt = 0 → 0 ≤ p.toInt ∧ p.toInt < 8 → (q.toInt = 0 → r.toInt = 1) ∧ (q.toInt = 1 → r.toInt = -4))) := by
  have k_m4 : (-4 : Int32).toInt = -4 := by decide
  have k_m1 : (-1 : Int32).toInt = -1 := by decide
  have k_0 : (0 : Int32).toInt = 0 := by decide
  have k_1 : (1 : Int32).toInt = 1 := by decide
  have hJ := hM
  unfold IM at hJ
  obtain ⟨n0, n1, n8, n17, n29, n39, n44, c40, c41, c42, c54, c58⟩ := hJ
  refine ct_of RX9 rfl (by decide +kernel) [(0, .ref (ad 39)), (1, .int (p)), (2, .int (q))] rfl (Nat.le_of_ble_eq_true rfl) (fun G C T => ?_)
  refine r_iload_n C 1 dX9_shift_0 rfl rfl ?_
  refine r_callS C [.int (p)] [] (c_X9_isMan E ad σ  (p) ) ls_X9_265 (by decide) (by decide) rfl rfl (Nat.le_of_ble_eq_true rfl) dX9_shift_1 (fun r_1 τ_2 h_3 => ?_)
  obtain ⟨eh_3, h_3⟩ := h_3
  obtain rfl := eh_3.symm
  refine r_if_ne C 9 dX9_shift_4 (by decide) (fun c_4 => ?_) (fun c_4 => ?_)
  · -- to 9
    refine r_aload_n C 0 dX9_shift_9 rfl rfl ?_
    refine r_get C (k := 39) (v := .ref (ad 52)) f_X9_47 (by decide) rfl rfl dX9_shift_10 ?_
    refine r_iload_n C 1 dX9_shift_13 rfl rfl ?_
    refine r_zald C (k := 52) (by decide) rfl (by omega) (σ 52 ((p : Int32).toInt.toNat)) rfl dX9_shift_14 ?_
    refine r_iload_n C 2 dX9_shift_15 rfl rfl ?_
    refine r_icmp_ne C 40 dX9_shift_16 (by decide) (fun c_6 => ?_) (fun c_6 => ?_)
    · -- to 40
      refine r_bipush C (-4) dX9_shift_40 (by decide) ?_
      exact r_iret C T dX9_shift_42 (⟨Off.rf, fun h => absurd h (by omega), fun h1 h2 h3 h4 => by have t1 := h1 (p : Int32).toInt.toNat (by omega); have t2 := h2 (p : Int32).toInt.toNat (by omega); omega⟩)
    · -- to 19
      refine r_iload_n C 2 dX9_shift_19 rfl rfl ?_
      refine r_if_ne C 43 dX9_shift_20 (by decide) (fun c_7 => ?_) (fun c_7 => ?_)
      · -- to 43
        refine r_aload_n C 0 dX9_shift_43 rfl rfl ?_
        refine r_get C (k := 39) (v := .ref (ad 52)) f_X9_47 (by decide) rfl rfl dX9_shift_44 ?_
        refine r_iload_n C 1 dX9_shift_47 rfl rfl ?_
        refine r_iload_n C 2 dX9_shift_48 rfl rfl ?_
        refine r_if_ne C 56 dX9_shift_49 (by decide) (fun c_8 => ?_) (fun c_8 => ?_)
        · -- to 56
          refine r_iconst C (0) dX9_shift_56 (by decide) ?_
          refine r_zast C (k := 52) (by decide) (fun _ => rfl) (by omega) (by omega) dX9_shift_57 ?_
          refine r_iconst C (1) dX9_shift_58 (by decide) ?_
          exact r_iret C T dX9_shift_59 (⟨Off.rf.up (by decide), fun h => absurd h (by omega), fun h1 h2 h3 h4 => by have t1 := h1 (p : Int32).toInt.toNat (by omega); omega⟩)
        · -- to 52
          refine r_iconst C (1) dX9_shift_52 (by decide) ?_
          refine r_goto C 57 dX9_shift_53 (by decide) ?_
          refine r_zast C (k := 52) (by decide) (fun _ => rfl) (by omega) (by omega) dX9_shift_57 ?_
          refine r_iconst C (1) dX9_shift_58 (by decide) ?_
          exact r_iret C T dX9_shift_59 (⟨Off.rf.up (by decide), fun h => absurd h (by omega), fun h1 h2 h3 h4 => by have t1 := h1 (p : Int32).toInt.toNat (by omega); omega⟩)
      · -- to 23
        refine r_aload_n C 0 dX9_shift_23 rfl rfl ?_
        refine r_get C (k := 39) (v := .ref (ad 53)) f_X9_50 (by decide) rfl rfl dX9_shift_24 ?_
        refine r_iload_n C 1 dX9_shift_27 rfl rfl ?_
        refine r_iald C (k := 53) (by decide) rfl (by omega) (σ 53 ((p : Int32).toInt.toNat)) rfl dX9_shift_28 ?_
        refine r_if_ge C 40 dX9_shift_29 (by decide) (fun c_10 => ?_) (fun c_10 => ?_)
        · -- to 40
          refine r_bipush C (-4) dX9_shift_40 (by decide) ?_
          exact r_iret C T dX9_shift_42 (⟨Off.rf, fun h => absurd h (by omega), fun h1 h2 h3 h4 => by have t1 := h1 (p : Int32).toInt.toNat (by omega); have t2 := h2 (p : Int32).toInt.toNat (by omega); omega⟩)
        · -- to 32
          refine r_aload_n C 0 dX9_shift_32 rfl rfl ?_
          refine r_iload_n C 1 dX9_shift_33 rfl rfl ?_
          refine r_callV C (k := 39) [.int (p)] [] (c_X9_holdsLive E ad σ  (p) hM) lv_X9_310 (by decide) rfl rfl (by decide) (by decide) rfl rfl (Nat.le_of_ble_eq_true rfl) dX9_shift_34 (fun r_11 τ_12 h_13 => ?_)
          obtain ⟨eh_13, h_13⟩ := h_13
          obtain rfl := eh_13.symm
          refine r_if_eq C 43 dX9_shift_37 (by decide) (fun c_14 => ?_) (fun c_14 => ?_)
          · -- to 43
            refine r_aload_n C 0 dX9_shift_43 rfl rfl ?_
            refine r_get C (k := 39) (v := .ref (ad 52)) f_X9_47 (by decide) rfl rfl dX9_shift_44 ?_
            refine r_iload_n C 1 dX9_shift_47 rfl rfl ?_
            refine r_iload_n C 2 dX9_shift_48 rfl rfl ?_
            refine r_if_ne C 56 dX9_shift_49 (by decide) (fun c_15 => ?_) (fun c_15 => ?_)
            · -- to 56
              refine r_iconst C (0) dX9_shift_56 (by decide) ?_
              refine r_zast C (k := 52) (by decide) (fun _ => rfl) (by omega) (by omega) dX9_shift_57 ?_
              refine r_iconst C (1) dX9_shift_58 (by decide) ?_
              exact r_iret C T dX9_shift_59 (⟨Off.rf.up (by decide), fun h => absurd h (by omega), fun h1 h2 h3 h4 => by have t1 := h1 (p : Int32).toInt.toNat (by omega); omega⟩)
            · -- to 52
              refine r_iconst C (1) dX9_shift_52 (by decide) ?_
              refine r_goto C 57 dX9_shift_53 (by decide) ?_
              refine r_zast C (k := 52) (by decide) (fun _ => rfl) (by omega) (by omega) dX9_shift_57 ?_
              refine r_iconst C (1) dX9_shift_58 (by decide) ?_
              exact r_iret C T dX9_shift_59 (⟨Off.rf.up (by decide), fun h => absurd h (by omega), fun h1 h2 h3 h4 => by have t1 := h1 (p : Int32).toInt.toNat (by omega); omega⟩)
          · -- to 40
            refine r_bipush C (-4) dX9_shift_40 (by decide) ?_
            exact r_iret C T dX9_shift_42 (⟨Off.rf, fun h => absurd h (by omega), fun h1 h2 h3 h4 => by have t1 := h1 (p : Int32).toInt.toNat (by omega); have t2 := h2 (p : Int32).toInt.toNat (by omega); have t3 := h_13.2 h3; omega⟩)
  · -- to 7
    refine r_iconst C (-1) dX9_shift_7 (by decide) ?_
    exact r_iret C T dX9_shift_8 (⟨Off.rf, fun _ => k_m1, fun _ _ _ h => absurd h (by omega)⟩)
set_option maxHeartbeats 4000000 in
set_option maxRecDepth 100000 in
theorem c_X9_siren (E : Ev) (ad : Nat → Nat) (σ : Sg)  (hM : IM σ) : Ct E ad yX9_siren cX9_siren 3 (some .int) 1 [.ref (ad 39)] σ (fun r τ => Off [53, 57, 61] σ τ ∧ ((∀ j, j < 8 → (σ 53 j).toInt = -1) → r.toInt = 0)) := by
  have k_m1 : (-1 : Int32).toInt = -1 := by decide
  have k_0 : (0 : Int32).toInt = 0 := by decide
  have k_1 : (1 : Int32).toInt = 1 := by decide
  have k_3 : (3 : Int32).toInt = 3 := by decide
  have k_8 : (8 : Int32).toInt = 8 := by decide
  have hJ := hM
  unfold IM at hJ
  obtain ⟨n0, n1, n8, n17, n29, n39, n44, c40, c41, c42, c54, c58⟩ := hJ
  refine ct_of RX9 rfl (by decide +kernel) [(0, .ref (ad 39))] rfl (Nat.le_of_ble_eq_true rfl) (fun G C T => ?_)
  refine r_iconst C (0) dX9_siren_0 (by decide) ?_
  refine r_istore_n C [(1, .int (0)), (0, .ref (ad 39))] dX9_siren_1 rfl (by decide) rfl ?_
  refine r_iconst C (0) dX9_siren_2 (by decide) ?_
  refine r_istore_n C [(2, .int (0)), (1, .int (0)), (0, .ref (ad 39))] dX9_siren_3 rfl (by decide) rfl ?_
  have L_4 : ∀ (n : Nat), ∀ (τ1 : Sg) (a : Int32) (i : Int32), (0 ≤ i.toInt ∧ i.toInt ≤ 8) → (0 ≤ a.toInt ∧ a.toInt ≤ i.toInt) → (Off [53] σ τ1) → ((∀ j, j < 8 → (σ 53 j).toInt = -1) → ∀ j, j < 8 → (τ1 53 j).toInt = -1) → ((∀ j, j < 8 → (σ 53 j).toInt = -1) → a.toInt = 0) → 8 - i.toInt < (n : Int) → At E ad G 3 4 [(2, .int (i)), (1, .int (a)), (0, .ref (ad 39))] [] τ1 := by
    intro n
    induction n with
    | zero =>
      intro τ1 a i hi hb ho hw hf hm
      exact absurd hm (by omega)
    | succ n ih =>
      intro τ1 a i hi hb ho hw hf hm
      have ih_4 := ih
      clear ih
      refine r_iload_n C 0 dX9_siren_4 rfl rfl ?_
      refine r_bipush C (8) dX9_siren_5 (by decide) ?_
      refine r_icmp_ge C 40 dX9_siren_7 (by decide) (fun c_1 => ?_) (fun c_1 => ?_)
      · -- to 40
        refine r_iconst C (0) dX9_siren_40 (by decide) ?_
        refine r_istore_n C [(2, .int (0)), (1, .int (a)), (0, .ref (ad 39))] dX9_siren_41 rfl (by decide) rfl ?_
        have L_42 : ∀ (n : Nat), ∀ (τ2 : Sg) (i : Int32), (0 ≤ i.toInt ∧ i.toInt ≤ 7) → (Off [53, 57, 61] σ τ2) → 7 - i.toInt < (n : Int) → At E ad G 3 42 [(2, .int (i)), (1, .int (a)), (0, .ref (ad 39))] [] τ2 := by
          intro n
          induction n with
          | zero =>
            intro τ2 i hi2 ho2 hm
            exact absurd hm (by omega)
          | succ n ih =>
            intro τ2 i hi2 ho2 hm
            have ih_42 := ih
            clear ih
            have e17 : (τ2 39 17).toInt = (σ 39 17).toInt := by rw [ho2 39 (by decide)]
            refine r_iload_n C 0 dX9_siren_42 rfl rfl ?_
            refine r_aload_n C 2 dX9_siren_43 rfl rfl ?_
            refine r_get C (k := 39) (v := .int (τ2 39 17)) f_X9_113 (by decide) rfl rfl dX9_siren_44 ?_
            refine r_icmp_ge C 71 dX9_siren_47 (by decide) (fun c_2 => ?_) (fun c_2 => ?_)
            · -- to 71
              refine r_iload_n C 1 dX9_siren_71 rfl rfl ?_
              exact r_iret C T dX9_siren_72 (⟨ho2, hf⟩)
            · -- to 50
              refine r_aload_n C 2 dX9_siren_50 rfl rfl ?_
              refine r_get C (k := 39) (v := .ref (ad 57)) f_X9_62 (by decide) rfl rfl dX9_siren_51 ?_
              refine r_iload_n C 0 dX9_siren_54 rfl rfl ?_
              refine r_iald C (k := 57) (by decide) rfl (by omega) (τ2 57 ((i : Int32).toInt.toNat)) rfl dX9_siren_55 ?_
              refine r_iconst C (3) dX9_siren_56 (by decide) ?_
              refine r_icmp_ne C 65 dX9_siren_57 (by decide) (fun c_4 => ?_) (fun c_4 => ?_)
              · -- to 65
                refine r_iinc C 0 (fun z => [(2, .int (z)), (1, .int (a)), (0, .ref (ad 39))]) dX9_siren_65 rfl (by decide) (by decide) (by omega) (fun _ => rfl) (fun z_5 hz_6 => ?_)
                refine r_goto C 42 dX9_siren_68 (by decide) ?_
                exact At.sub [0, 1, 2] rfl (ih_42 τ2 (z_5 : Int32) (by omega) ho2 (by omega))
              · -- to 60
                refine r_aload_n C 2 dX9_siren_60 rfl rfl ?_
                refine r_iload_n C 0 dX9_siren_61 rfl rfl ?_
                refine r_callVv C (k := 39) [.int (i)] [] (c_X9_hangUp E ad τ2  (i) (by omega)) lv_X9_306 (by decide) rfl rfl (by decide) (by decide) rfl rfl (Nat.le_of_ble_eq_true rfl) dX9_siren_62 (fun τ_8 h_9 => ?_)
                refine r_iinc C 0 (fun z => [(2, .int (z)), (1, .int (a)), (0, .ref (ad 39))]) dX9_siren_65 rfl (by decide) (by decide) (by omega) (fun _ => rfl) (fun z_10 hz_11 => ?_)
                refine r_goto C 42 dX9_siren_68 (by decide) ?_
                exact At.sub [0, 1, 2] rfl (ih_42 τ_8 (z_10 : Int32) (by omega) (by rw [h_9]; exact (ho2.up (by decide)).up (by decide)) (by omega))
        exact At.sub [0, 1, 2] rfl (L_42 ((7 - (0 : Int32).toInt).toNat + 1) τ1 (0 : Int32) (by omega) (ho.to (by decide)) (by omega))
      · -- to 10
        refine r_iload_n C 1 dX9_siren_10 rfl rfl ?_
        refine r_aload_n C 2 dX9_siren_11 rfl rfl ?_
        refine r_get C (k := 39) (v := .ref (ad 53)) f_X9_50 (by decide) rfl rfl dX9_siren_12 ?_
        refine r_iload_n C 0 dX9_siren_15 rfl rfl ?_
        refine r_iald C (k := 53) (by decide) rfl (by omega) (τ1 53 ((i : Int32).toInt.toNat)) rfl dX9_siren_16 ?_
        refine r_if_lt C 24 dX9_siren_17 (by decide) (fun c_13 => ?_) (fun c_13 => ?_)
        · -- to 24
          refine r_iconst C (0) dX9_siren_24 (by decide) ?_
          refine r_iadd C dX9_siren_25 ?_
          refine r_nm (P := fun z => z.toInt = (a : Int32).toInt + (0 : Int32).toInt ∧ z = (a) + (0)) ⟨ta_add (by omega), rfl⟩ (fun z_14 hz_15 => ?_)
          refine r_istore_n C [(1, .int (z_14)), (2, .int (i)), (0, .ref (ad 39))] dX9_siren_26 rfl (by decide) rfl ?_
          refine r_aload_n C 2 dX9_siren_27 rfl rfl ?_
          refine r_get C (k := 39) (v := .ref (ad 53)) f_X9_50 (by decide) rfl rfl dX9_siren_28 ?_
          refine r_iload_n C 1 dX9_siren_31 rfl rfl ?_
          refine r_iconst C (-1) dX9_siren_32 (by decide) ?_
          refine r_iast C (k := 53) (by decide) (fun _ => rfl) (by omega) dX9_siren_33 ?_
          refine r_iinc C 1 (fun z => [(2, .int (z)), (1, .int (z_14)), (0, .ref (ad 39))]) dX9_siren_34 rfl (by decide) (by decide) (by omega) (fun _ => rfl) (fun z_16 hz_17 => ?_)
          refine r_goto C 4 dX9_siren_37 (by decide) ?_
          exact At.sub [0, 1, 2] rfl (ih_4 (sUp τ1 53 ((i : Int32).toInt.toNat) ((-1))) (z_14 : Int32) (z_16 : Int32) (by omega) (by omega) (ho.up (by decide)) (fun h j hj => by rw [sUp_eq]; unfold upd; split; (exact k_m1); (exact hw h j hj)) (fun h => by have t1 := hw h (i : Int32).toInt.toNat (by omega); have t2 := hf h; omega) (by omega))
        · -- to 20
          refine r_iconst C (1) dX9_siren_20 (by decide) ?_
          refine r_goto C 25 dX9_siren_21 (by decide) ?_
          refine r_iadd C dX9_siren_25 ?_
          refine r_nm (P := fun z => z.toInt = (a : Int32).toInt + (1 : Int32).toInt ∧ z = (a) + (1)) ⟨ta_add (by omega), rfl⟩ (fun z_18 hz_19 => ?_)
          refine r_istore_n C [(1, .int (z_18)), (2, .int (i)), (0, .ref (ad 39))] dX9_siren_26 rfl (by decide) rfl ?_
          refine r_aload_n C 2 dX9_siren_27 rfl rfl ?_
          refine r_get C (k := 39) (v := .ref (ad 53)) f_X9_50 (by decide) rfl rfl dX9_siren_28 ?_
          refine r_iload_n C 1 dX9_siren_31 rfl rfl ?_
          refine r_iconst C (-1) dX9_siren_32 (by decide) ?_
          refine r_iast C (k := 53) (by decide) (fun _ => rfl) (by omega) dX9_siren_33 ?_
          refine r_iinc C 1 (fun z => [(2, .int (z)), (1, .int (z_18)), (0, .ref (ad 39))]) dX9_siren_34 rfl (by decide) (by decide) (by omega) (fun _ => rfl) (fun z_20 hz_21 => ?_)
          refine r_goto C 4 dX9_siren_37 (by decide) ?_
          exact At.sub [0, 1, 2] rfl (ih_4 (sUp τ1 53 ((i : Int32).toInt.toNat) ((-1))) (z_18 : Int32) (z_20 : Int32) (by omega) (by omega) (ho.up (by decide)) (fun h j hj => by rw [sUp_eq]; unfold upd; split; (exact k_m1); (exact hw h j hj)) (fun h => by have t1 := hw h (i : Int32).toInt.toNat (by omega); have t2 := hf h; omega) (by omega))
  exact At.sub [0, 1, 2] rfl (L_4 ((8 - (0 : Int32).toInt).toNat + 1) σ (0 : Int32) (0 : Int32) (by omega) (by omega) Off.rf (fun h => h) (fun _ => k_0) (by omega))
set_option maxHeartbeats 4000000 in
set_option maxRecDepth 100000 in
theorem c_X9_hoursOf (E : Ev) (ad : Nat → Nat) (σ : Sg) (p : Int32) (hM : IM σ) : Ct E ad yX9_hoursOf cX9_hoursOf 4 (some .int) 1 [.ref (ad 39), .int p] σ (fun r τ => τ = σ ∧ ((σ 39 1).toInt = 0 → r.toInt = 0)) := by
  have k_0 : (0 : Int32).toInt = 0 := by decide
  have k_1 : (1 : Int32).toInt = 1 := by decide
  have k_3 : (3 : Int32).toInt = 3 := by decide
  have hJ := hM
  unfold IM at hJ
  obtain ⟨n0, n1, n8, n17, n29, n39, n44, c40, c41, c42, c54, c58⟩ := hJ
  refine ct_of RX9 rfl (by decide +kernel) [(0, .ref (ad 39)), (1, .int (p))] rfl (Nat.le_of_ble_eq_true rfl) (fun G C T => ?_)
  refine r_iconst C (0) dX9_hoursOf_0 (by decide) ?_
  refine r_istore_n C [(2, .int (0)), (0, .ref (ad 39)), (1, .int (p))] dX9_hoursOf_1 rfl (by decide) rfl ?_
  refine r_iconst C (0) dX9_hoursOf_2 (by decide) ?_
  refine r_istore_n C [(3, .int (0)), (2, .int (0)), (0, .ref (ad 39)), (1, .int (p))] dX9_hoursOf_3 rfl (by decide) rfl ?_
  have L_4 : ∀ (n : Nat), ∀ (a : Int32) (i : Int32), (0 ≤ i.toInt ∧ i.toInt ≤ 12) → ((σ 39 1).toInt = 0 → a.toInt = 0) → 12 - i.toInt < (n : Int) → At E ad G 4 4 [(3, .int (i)), (2, .int (a)), (0, .ref (ad 39)), (1, .int (p))] [] σ := by
    intro n
    induction n with
    | zero =>
      intro a i hi hf hm
      exact absurd hm (by omega)
    | succ n ih =>
      intro a i hi hf hm
      have ih_4 := ih
      clear ih
      refine r_iload_n C 0 dX9_hoursOf_4 rfl rfl ?_
      refine r_aload_n C 2 dX9_hoursOf_5 rfl rfl ?_
      refine r_get C (k := 39) (v := .int (σ 39 1)) f_X9_101 (by decide) rfl rfl dX9_hoursOf_6 ?_
      refine r_icmp_ge C 47 dX9_hoursOf_9 (by decide) (fun c_1 => ?_) (fun c_1 => ?_)
      · -- to 47
        refine r_iload_n C 1 dX9_hoursOf_47 rfl rfl ?_
        exact r_iret C T dX9_hoursOf_48 (⟨rfl, hf⟩)
      · -- to 12
        refine r_iload_n C 1 dX9_hoursOf_12 rfl rfl ?_
        refine r_iload_n C 3 dX9_hoursOf_13 rfl rfl ?_
        refine r_iload_n C 0 dX9_hoursOf_14 rfl rfl ?_
        refine r_callS C [.int (p), .int (i)] [.int (a)] (c_X9_has E ad σ  (p) (i) ) ls_X9_125 (by decide) (by decide) rfl rfl (Nat.le_of_ble_eq_true rfl) dX9_hoursOf_15 (fun r_2 τ_3 h_4 => ?_)
        obtain ⟨eh_4, h_4⟩ := h_4
        obtain rfl := eh_4.symm
        refine r_if_ne C 25 dX9_hoursOf_18 (by decide) (fun c_5 => ?_) (fun c_5 => ?_)
        · -- to 25
          refine r_aload_n C 2 dX9_hoursOf_25 rfl rfl ?_
          refine r_get C (k := 39) (v := .ref (ad 42)) f_X9_16 (by decide) rfl rfl dX9_hoursOf_26 ?_
          refine r_iload_n C 0 dX9_hoursOf_29 rfl rfl ?_
          refine r_iald C (k := 42) (by decide) rfl (by omega) (σ 42 ((i : Int32).toInt.toNat)) rfl dX9_hoursOf_30 ?_
          refine r_if_ne C 38 dX9_hoursOf_31 (by decide) (fun c_7 => ?_) (fun c_7 => ?_)
          · -- to 38
            refine r_iconst C (3) dX9_hoursOf_38 (by decide) ?_
            refine r_iadd C dX9_hoursOf_39 ?_
            refine r_nm (P := fun z => z = (a) + (3)) rfl (fun z_8 hz_9 => ?_)
            refine r_istore_n C [(2, .int (z_8)), (3, .int (i)), (0, .ref (ad 39)), (1, .int (p))] dX9_hoursOf_40 rfl (by decide) rfl ?_
            refine r_iinc C 1 (fun z => [(3, .int (z)), (2, .int (z_8)), (0, .ref (ad 39)), (1, .int (p))]) dX9_hoursOf_41 rfl (by decide) (by decide) (by omega) (fun _ => rfl) (fun z_10 hz_11 => ?_)
            refine r_goto C 4 dX9_hoursOf_44 (by decide) ?_
            exact At.sub [0, 1, 2, 3] rfl (ih_4 (z_8 : Int32) (z_10 : Int32) (by omega) (fun h => absurd h (by omega)) (by omega))
          · -- to 34
            refine r_iconst C (1) dX9_hoursOf_34 (by decide) ?_
            refine r_goto C 39 dX9_hoursOf_35 (by decide) ?_
            refine r_iadd C dX9_hoursOf_39 ?_
            refine r_nm (P := fun z => z = (a) + (1)) rfl (fun z_12 hz_13 => ?_)
            refine r_istore_n C [(2, .int (z_12)), (3, .int (i)), (0, .ref (ad 39)), (1, .int (p))] dX9_hoursOf_40 rfl (by decide) rfl ?_
            refine r_iinc C 1 (fun z => [(3, .int (z)), (2, .int (z_12)), (0, .ref (ad 39)), (1, .int (p))]) dX9_hoursOf_41 rfl (by decide) (by decide) (by omega) (fun _ => rfl) (fun z_14 hz_15 => ?_)
            refine r_goto C 4 dX9_hoursOf_44 (by decide) ?_
            exact At.sub [0, 1, 2, 3] rfl (ih_4 (z_12 : Int32) (z_14 : Int32) (by omega) (fun h => absurd h (by omega)) (by omega))
        · -- to 21
          refine r_iconst C (0) dX9_hoursOf_21 (by decide) ?_
          refine r_goto C 39 dX9_hoursOf_22 (by decide) ?_
          refine r_iadd C dX9_hoursOf_39 ?_
          refine r_nm (P := fun z => z = (a) + (0)) rfl (fun z_16 hz_17 => ?_)
          refine r_istore_n C [(2, .int (z_16)), (3, .int (i)), (0, .ref (ad 39)), (1, .int (p))] dX9_hoursOf_40 rfl (by decide) rfl ?_
          refine r_iinc C 1 (fun z => [(3, .int (z)), (2, .int (z_16)), (0, .ref (ad 39)), (1, .int (p))]) dX9_hoursOf_41 rfl (by decide) (by decide) (by omega) (fun _ => rfl) (fun z_18 hz_19 => ?_)
          refine r_goto C 4 dX9_hoursOf_44 (by decide) ?_
          exact At.sub [0, 1, 2, 3] rfl (ih_4 (z_16 : Int32) (z_18 : Int32) (by omega) (fun h => absurd h (by omega)) (by omega))
  exact At.sub [0, 1, 2, 3] rfl (L_4 ((12 - (0 : Int32).toInt).toNat + 1) (0 : Int32) (0 : Int32) (by omega) (fun _ => k_0) (by omega))
set_option maxHeartbeats 4000000 in
set_option maxRecDepth 100000 in
theorem c_X9_areFittings (E : Ev) (ad : Nat → Nat) (σ : Sg) (p : Int32) (hM : IM σ) : Ct E ad yX9_areFittings cX9_areFittings 4 (some .boolean) 1 [.ref (ad 39), .int p] σ (fun r τ => τ = σ ∧ (r.toInt = 0 ∨ r.toInt = 1) ∧ ((σ 39 1).toInt = 0 → r.toInt = 1)) := by
  have k_0 : (0 : Int32).toInt = 0 := by decide
  have k_1 : (1 : Int32).toInt = 1 := by decide
  have k_2 : (2 : Int32).toInt = 2 := by decide
  have hJ := hM
  unfold IM at hJ
  obtain ⟨n0, n1, n8, n17, n29, n39, n44, c40, c41, c42, c54, c58⟩ := hJ
  refine ct_of RX9 rfl (by decide +kernel) [(0, .ref (ad 39)), (1, .int (p))] rfl (Nat.le_of_ble_eq_true rfl) (fun G C T => ?_)
  refine r_iconst C (1) dX9_areFittings_0 (by decide) ?_
  refine r_istore_n C [(2, .int (1)), (0, .ref (ad 39)), (1, .int (p))] dX9_areFittings_1 rfl (by decide) rfl ?_
  refine r_iconst C (0) dX9_areFittings_2 (by decide) ?_
  refine r_istore_n C [(3, .int (0)), (2, .int (1)), (0, .ref (ad 39)), (1, .int (p))] dX9_areFittings_3 rfl (by decide) rfl ?_
  have L_4 : ∀ (n : Nat), ∀ (a : Int32) (i : Int32), (0 ≤ i.toInt ∧ i.toInt ≤ 12) → (a.toInt = 0 ∨ a.toInt = 1) → ((σ 39 1).toInt = 0 → a.toInt = 1) → 12 - i.toInt < (n : Int) → At E ad G 4 4 [(3, .int (i)), (2, .int (a)), (0, .ref (ad 39)), (1, .int (p))] [] σ := by
    intro n
    induction n with
    | zero =>
      intro a i hi ha hf hm
      exact absurd hm (by omega)
    | succ n ih =>
      intro a i hi ha hf hm
      have ih_4 := ih
      clear ih
      refine r_iload_n C 0 dX9_areFittings_4 rfl rfl ?_
      refine r_aload_n C 2 dX9_areFittings_5 rfl rfl ?_
      refine r_get C (k := 39) (v := .int (σ 39 1)) f_X9_101 (by decide) rfl rfl dX9_areFittings_6 ?_
      refine r_icmp_ge C 46 dX9_areFittings_9 (by decide) (fun c_1 => ?_) (fun c_1 => ?_)
      · -- to 46
        refine r_iload_n C 1 dX9_areFittings_46 rfl rfl ?_
        exact r_zret C T dX9_areFittings_47 (by omega) (⟨rfl, ha, hf⟩)
      · -- to 12
        have L_39 : ∀ (c : Int32), (c.toInt = 0 ∨ c.toInt = 1) → At E ad G 4 39 [(3, .int (i)), (2, .int (a)), (0, .ref (ad 39)), (1, .int (p))] [.int (c)] σ := by
          intro c hc
          refine r_istore_n C [(2, .int (c)), (3, .int (i)), (0, .ref (ad 39)), (1, .int (p))] dX9_areFittings_39 rfl (by decide) rfl ?_
          refine r_iinc C 1 (fun z => [(3, .int (z)), (2, .int (c)), (0, .ref (ad 39)), (1, .int (p))]) dX9_areFittings_40 rfl (by decide) (by decide) (by omega) (fun _ => rfl) (fun z_2 hz_3 => ?_)
          refine r_goto C 4 dX9_areFittings_43 (by decide) ?_
          exact At.sub [0, 1, 2, 3] rfl (ih_4 (c : Int32) (z_2 : Int32) (by omega) hc (fun h => absurd h (by omega)) (by omega))
        refine r_iload_n C 1 dX9_areFittings_12 rfl rfl ?_
        refine r_if_eq C 38 dX9_areFittings_13 (by decide) (fun c_4 => ?_) (fun c_4 => ?_)
        · -- to 38
          refine r_iconst C (0) dX9_areFittings_38 (by decide) ?_
          exact At.sub [0, 1, 2, 3] rfl (L_39 (0 : Int32) (by omega))
        · -- to 16
          refine r_iload_n C 3 dX9_areFittings_16 rfl rfl ?_
          refine r_iload_n C 0 dX9_areFittings_17 rfl rfl ?_
          refine r_callS C [.int (p), .int (i)] [] (c_X9_has E ad σ  (p) (i) ) ls_X9_125 (by decide) (by decide) rfl rfl (Nat.le_of_ble_eq_true rfl) dX9_areFittings_18 (fun r_5 τ_6 h_7 => ?_)
          obtain ⟨eh_7, h_7⟩ := h_7
          obtain rfl := eh_7.symm
          refine r_if_eq C 34 dX9_areFittings_21 (by decide) (fun c_8 => ?_) (fun c_8 => ?_)
          · -- to 34
            refine r_iconst C (1) dX9_areFittings_34 (by decide) ?_
            refine r_goto C 39 dX9_areFittings_35 (by decide) ?_
            exact At.sub [0, 1, 2, 3] rfl (L_39 (1 : Int32) (by omega))
          · -- to 24
            refine r_aload_n C 2 dX9_areFittings_24 rfl rfl ?_
            refine r_get C (k := 39) (v := .ref (ad 42)) f_X9_16 (by decide) rfl rfl dX9_areFittings_25 ?_
            refine r_iload_n C 0 dX9_areFittings_28 rfl rfl ?_
            refine r_iald C (k := 42) (by decide) rfl (by omega) (σ 42 ((i : Int32).toInt.toNat)) rfl dX9_areFittings_29 ?_
            refine r_iconst C (2) dX9_areFittings_30 (by decide) ?_
            refine r_icmp_ge C 38 dX9_areFittings_31 (by decide) (fun c_10 => ?_) (fun c_10 => ?_)
            · -- to 38
              refine r_iconst C (0) dX9_areFittings_38 (by decide) ?_
              exact At.sub [0, 1, 2, 3] rfl (L_39 (0 : Int32) (by omega))
            · -- to 34
              refine r_iconst C (1) dX9_areFittings_34 (by decide) ?_
              refine r_goto C 39 dX9_areFittings_35 (by decide) ?_
              exact At.sub [0, 1, 2, 3] rfl (L_39 (1 : Int32) (by omega))
  exact At.sub [0, 1, 2, 3] rfl (L_4 ((12 - (0 : Int32).toInt).toNat + 1) (1 : Int32) (0 : Int32) (by omega) (by omega) (fun _ => k_1) (by omega))
set_option maxHeartbeats 4000000 in
set_option maxRecDepth 100000 in
theorem c_X9_isAhead (E : Ev) (ad : Nat → Nat) (σ : Sg) (p : Int32) (q : Int32)  : Ct E ad yX9_isAhead cX9_isAhead 3 (some .boolean) 0 [.int p, .int q] σ (fun r τ => τ = σ ∧ (r.toInt = 0 ∨ r.toInt = 1)) := by
  have k_0 : (0 : Int32).toInt = 0 := by decide
  have k_1 : (1 : Int32).toInt = 1 := by decide
  refine ct_of RX9 rfl (by decide +kernel) [(0, .int (p)), (1, .int (q))] rfl (Nat.le_of_ble_eq_true rfl) (fun G C T => ?_)
  refine r_iload_n C 0 dX9_isAhead_0 rfl rfl ?_
  refine r_iload_n C 1 dX9_isAhead_1 rfl rfl ?_
  refine r_ixor C dX9_isAhead_2 ?_
  refine r_nm (P := fun z => z = (p : Int32) ^^^ (q)) rfl (fun z_1 hz_2 => ?_)
  refine r_istore_n C [(2, .int (z_1)), (0, .int (p)), (1, .int (q))] dX9_isAhead_3 rfl (by decide) rfl ?_
  refine r_iload_n C 0 dX9_isAhead_4 rfl rfl ?_
  refine r_iload_n C 0 dX9_isAhead_5 rfl rfl ?_
  refine r_ineg C dX9_isAhead_6 ?_
  refine r_nm (P := fun z => z = -(z_1 : Int32)) rfl (fun z_3 hz_4 => ?_)
  refine r_iand C dX9_isAhead_7 ?_
  refine r_nm (P := fun z => z = (z_1 : Int32) &&& (z_3)) rfl (fun z_5 hz_6 => ?_)
  refine r_iload_n C 1 dX9_isAhead_8 rfl rfl ?_
  refine r_iand C dX9_isAhead_9 ?_
  refine r_nm (P := fun z => z = (z_5 : Int32) &&& (p)) rfl (fun z_7 hz_8 => ?_)
  refine r_if_eq C 17 dX9_isAhead_10 (by decide) (fun c_9 => ?_) (fun c_9 => ?_)
  · -- to 17
    refine r_iconst C (0) dX9_isAhead_17 (by decide) ?_
    exact r_zret C T dX9_isAhead_18 (by omega) (⟨rfl, by omega⟩)
  · -- to 13
    refine r_iconst C (1) dX9_isAhead_13 (by decide) ?_
    refine r_goto C 18 dX9_isAhead_14 (by decide) ?_
    exact r_zret C T dX9_isAhead_18 (by omega) (⟨rfl, by omega⟩)
set_option maxHeartbeats 4000000 in
set_option maxRecDepth 100000 in
theorem c_X9_leastOf (E : Ev) (ad : Nat → Nat) (σ : Sg) (p : Int32) (hM : IM σ) : Ct E ad yX9_leastOf cX9_leastOf 6 (some .int) 4 [.ref (ad 39), .int p] σ (fun r τ => ∃ g, τ = sSet σ 65 g ∧ (((∀ j, σ 45 j = 0) → (σ 39 1).toInt = 0 → r.toInt = 0))) := by
  have k_m1 : (-1 : Int32).toInt = -1 := by decide
  have k_0 : (0 : Int32).toInt = 0 := by decide
  have k_1 : (1 : Int32).toInt = 1 := by decide
  have hJ := hM
  unfold IM at hJ
  obtain ⟨n0, n1, n8, n17, n29, n39, n44, c40, c41, c42, c54, c58⟩ := hJ
  refine ct_of RX9 rfl (by decide +kernel) [(0, .ref (ad 39)), (1, .int (p))] rfl (Nat.le_of_ble_eq_true rfl) (fun G C T => ?_)
  refine r_iconst C (-1) dX9_leastOf_0 (by decide) ?_
  refine r_istore_n C [(2, .int ((-1))), (0, .ref (ad 39)), (1, .int (p))] dX9_leastOf_1 rfl (by decide) rfl ?_
  refine r_iconst C (0) dX9_leastOf_2 (by decide) ?_
  refine r_istore_n C [(3, .int (0)), (2, .int ((-1))), (0, .ref (ad 39)), (1, .int (p))] dX9_leastOf_3 rfl (by decide) rfl ?_
  have L_4 : ∀ (n : Nat), ∀ (g : Nat → Int32) (a : Int32) (i : Int32), (0 ≤ i.toInt ∧ i.toInt ≤ 4096) → ((∀ j, σ 45 j = 0) → (σ 39 1).toInt = 0 → (i.toInt = 0 → a.toInt < 0) ∧ (0 < i.toInt → a.toInt = 0)) → 4096 - i.toInt < (n : Int) → At E ad G 6 4 [(3, .int (i)), (2, .int (a)), (0, .ref (ad 39)), (1, .int (p))] [] (sSet σ 65 g) := by
    intro n
    induction n with
    | zero =>
      intro g a i hi hf hm
      exact absurd hm (by omega)
    | succ n ih =>
      intro g a i hi hf hm
      have ih_4 := ih
      clear ih
      refine r_iload_n C 0 dX9_leastOf_4 rfl rfl ?_
      refine r_iconst C (1) dX9_leastOf_5 (by decide) ?_
      refine r_aload_n C 2 dX9_leastOf_6 rfl rfl ?_
      refine r_get C (k := 39) (v := .int (σ 39 1)) f_X9_101 (by decide) rfl rfl dX9_leastOf_7 ?_
      refine r_ishl C dX9_leastOf_10 ?_
      refine r_nm (P := fun z => (1 ≤ z.toInt ∧ z.toInt ≤ 4096) ∧ ((σ 39 1).toInt = 0 → z.toInt = 1)) (ta_shl12 n1) (fun z_1 hz_2 => ?_)
      refine r_icmp_ge C 124 dX9_leastOf_11 (by decide) (fun c_3 => ?_) (fun c_3 => ?_)
      · -- to 124
        refine r_iload_n C 1 dX9_leastOf_124 rfl rfl ?_
        exact r_iret C T dX9_leastOf_125 (⟨g, rfl, fun h1 h2 => (hf h1 h2).2 (by have t := hz_2.2 h2; omega)⟩)
      · -- to 14
        refine r_aload_n C 2 dX9_leastOf_14 rfl rfl ?_
        refine r_iload_n C 0 dX9_leastOf_15 rfl rfl ?_
        refine r_callV C (k := 39) [.int (i)] [] (c_X9_hoursOf E ad (sSet σ 65 g)  (i) hM) lv_X9_313 (by decide) rfl rfl (by decide) (by decide) rfl rfl (Nat.le_of_ble_eq_true rfl) dX9_leastOf_16 (fun r_4 τ_5 h_6 => ?_)
        obtain ⟨eh_6, h_6⟩ := h_6
        obtain rfl := eh_6.symm
        refine r_istore C [(4, .int (r_4)), (3, .int (i)), (2, .int (a)), (0, .ref (ad 39)), (1, .int (p))] dX9_leastOf_19 (by decide) rfl ?_
        have L_40 : ∀ (b : Int32), (a.toInt < 0 → b.toInt ≠ 0) → At E ad G 6 40 [(4, .int (r_4)), (3, .int (i)), (2, .int (a)), (0, .ref (ad 39)), (1, .int (p))] [.int (b)] (sSet σ 65 g) := by
          intro b hb
          refine r_istore C [(5, .int (b)), (4, .int (r_4)), (3, .int (i)), (2, .int (a)), (0, .ref (ad 39)), (1, .int (p))] dX9_leastOf_40 (by decide) rfl ?_
          have L_92 : ∀ (c : Int32), (a.toInt < 0 → c.toInt ≠ 0) → At E ad G 6 92 [(5, .int (b)), (4, .int (r_4)), (3, .int (i)), (2, .int (a)), (0, .ref (ad 39)), (1, .int (p))] [.int (c)] (sSet σ 65 g) := by
            intro c hc
            refine r_istore C [(5, .int (c)), (4, .int (r_4)), (3, .int (i)), (2, .int (a)), (0, .ref (ad 39)), (1, .int (p))] dX9_leastOf_92 (by decide) rfl ?_
            have L_118 : ∀ (g2 : Nat → Int32) (e : Int32), ((∀ j, σ 45 j = 0) → (σ 39 1).toInt = 0 → e.toInt = 0) → At E ad G 6 118 [(3, .int (i)), (2, .int (e)), (0, .ref (ad 39)), (1, .int (p))] [] (sSet σ 65 g2) := by
              intro g2 e hd
              refine r_iinc C 0 (fun z => [(3, .int (z)), (2, .int (e)), (0, .ref (ad 39)), (1, .int (p))]) dX9_leastOf_118 rfl (by decide) (by decide) (by omega) (fun _ => rfl) (fun z_7 hz_8 => ?_)
              refine r_goto C 4 dX9_leastOf_121 (by decide) ?_
              exact At.sub [0, 1, 2, 3] rfl (ih_4 (g2 : Nat → Int32) (e : Int32) (z_7 : Int32) (by omega) (fun h1 h2 => ⟨fun h => absurd h (by omega), fun _ => hd h1 h2⟩) (by omega))
            refine r_iload C 0 dX9_leastOf_94 rfl ?_
            refine r_if_eq C 118 dX9_leastOf_96 (by decide) (fun c_9 => ?_) (fun c_9 => ?_)
            · -- to 118
              exact At.sub [2, 3, 4, 5] rfl (L_118 (g : Nat → Int32) (a : Int32) (fun h1 h2 => absurd (hc ((hf h1 h2).1 (by have t := hz_2.2 h2; omega))) (by omega)))
            · -- to 99
              refine r_aload_n C 4 dX9_leastOf_99 rfl rfl ?_
              refine r_iload_n C 2 dX9_leastOf_100 rfl rfl ?_
              refine r_callV C (k := 39) [.int (i)] [] (c_X9_areFittings E ad (sSet σ 65 g)  (i) hM) lv_X9_319 (by decide) rfl rfl (by decide) (by decide) rfl rfl (Nat.le_of_ble_eq_true rfl) dX9_leastOf_101 (fun r_10 τ_11 h_12 => ?_)
              obtain ⟨eh_12, h_12⟩ := h_12
              obtain rfl := eh_12.symm
              refine r_if_eq C 118 dX9_leastOf_104 (by decide) (fun c_13 => ?_) (fun c_13 => ?_)
              · -- to 118
                exact At.sub [2, 3, 4, 5] rfl (L_118 (g : Nat → Int32) (a : Int32) (fun h1 h2 => absurd (h_12.2 h2) (by omega)))
              · -- to 107
                refine r_aload_n C 4 dX9_leastOf_107 rfl rfl ?_
                refine r_iload_n C 5 dX9_leastOf_108 rfl rfl ?_
                refine r_iload_n C 2 dX9_leastOf_109 rfl rfl ?_
                refine r_callV C (k := 39) [.int (p), .int (i)] [] (c_X9_isSafeNow E ad (sSet σ 65 g)  (p) (i) hM) lv_X9_158 (by decide) rfl rfl (by decide) (by decide) rfl rfl (Nat.le_of_ble_eq_true rfl) dX9_leastOf_110 (fun r_14 τ_15 h_16 => ?_)
                obtain ⟨g_17, eh_16, h_16⟩ := h_16
                subst eh_16
                rw [sSet2]
                refine r_if_eq C 118 dX9_leastOf_113 (by decide) (fun c_18 => ?_) (fun c_18 => ?_)
                · -- to 118
                  exact At.sub [2, 3, 4, 5] rfl (L_118 (g_17 : Nat → Int32) (a : Int32) (fun h1 h2 => absurd (h_16.2 h1) (by omega)))
                · -- to 116
                  refine r_iload_n C 2 dX9_leastOf_116 rfl rfl ?_
                  refine r_istore_n C [(2, .int (i)), (5, .int (c)), (4, .int (r_4)), (3, .int (i)), (0, .ref (ad 39)), (1, .int (p))] dX9_leastOf_117 rfl (by decide) rfl ?_
                  exact At.sub [3, 0, 4, 5] rfl (L_118 (g_17 : Nat → Int32) (i : Int32) (fun h1 h2 => by have t := hz_2.2 h2; omega))
          refine r_iload C 0 dX9_leastOf_42 rfl ?_
          refine r_if_ne C 87 dX9_leastOf_44 (by decide) (fun c_19 => ?_) (fun c_19 => ?_)
          · -- to 87
            refine r_iconst C (1) dX9_leastOf_87 (by decide) ?_
            refine r_goto C 92 dX9_leastOf_88 (by decide) ?_
            exact At.sub [0, 1, 2, 3, 4, 5] rfl (L_92 (1 : Int32) (by omega))
          · -- to 47
            refine r_iload C 1 dX9_leastOf_47 rfl ?_
            refine r_aload_n C 4 dX9_leastOf_49 rfl rfl ?_
            refine r_iload_n C 3 dX9_leastOf_50 rfl rfl ?_
            refine r_callV C (k := 39) [.int (a)] [.int (r_4)] (c_X9_hoursOf E ad (sSet σ 65 g)  (a) hM) lv_X9_313 (by decide) rfl rfl (by decide) (by decide) rfl rfl (Nat.le_of_ble_eq_true rfl) dX9_leastOf_51 (fun r_20 τ_21 h_22 => ?_)
            obtain ⟨eh_22, h_22⟩ := h_22
            obtain rfl := eh_22.symm
            refine r_icmp_ne C 91 dX9_leastOf_54 (by decide) (fun c_23 => ?_) (fun c_23 => ?_)
            · -- to 91
              refine r_iconst C (0) dX9_leastOf_91 (by decide) ?_
              exact At.sub [0, 1, 2, 3, 4, 5] rfl (L_92 (0 : Int32) (fun h => absurd (hb h) (by omega)))
            · -- to 57
              refine r_iload_n C 2 dX9_leastOf_57 rfl rfl ?_
              refine r_callS C [.int (i)] [] (c_X9_ones E ad (sSet σ 65 g)  (i) ) ls_X9_303 (by decide) (by decide) rfl rfl (Nat.le_of_ble_eq_true rfl) dX9_leastOf_58 (fun r_24 τ_25 h_26 => ?_)
              obtain ⟨eh_26, h_26⟩ := h_26
              obtain rfl := eh_26.symm
              refine r_iload_n C 3 dX9_leastOf_61 rfl rfl ?_
              refine r_callS C [.int (a)] [.int (r_24)] (c_X9_ones E ad (sSet σ 65 g)  (a) ) ls_X9_303 (by decide) (by decide) rfl rfl (Nat.le_of_ble_eq_true rfl) dX9_leastOf_62 (fun r_27 τ_28 h_29 => ?_)
              obtain ⟨eh_29, h_29⟩ := h_29
              obtain rfl := eh_29.symm
              refine r_icmp_lt C 87 dX9_leastOf_65 (by decide) (fun c_30 => ?_) (fun c_30 => ?_)
              · -- to 87
                refine r_iconst C (1) dX9_leastOf_87 (by decide) ?_
                refine r_goto C 92 dX9_leastOf_88 (by decide) ?_
                exact At.sub [0, 1, 2, 3, 4, 5] rfl (L_92 (1 : Int32) (by omega))
              · -- to 68
                refine r_iload_n C 2 dX9_leastOf_68 rfl rfl ?_
                refine r_callS C [.int (i)] [] (c_X9_ones E ad (sSet σ 65 g)  (i) ) ls_X9_303 (by decide) (by decide) rfl rfl (Nat.le_of_ble_eq_true rfl) dX9_leastOf_69 (fun r_31 τ_32 h_33 => ?_)
                obtain ⟨eh_33, h_33⟩ := h_33
                obtain rfl := eh_33.symm
                refine r_iload_n C 3 dX9_leastOf_72 rfl rfl ?_
                refine r_callS C [.int (a)] [.int (r_31)] (c_X9_ones E ad (sSet σ 65 g)  (a) ) ls_X9_303 (by decide) (by decide) rfl rfl (Nat.le_of_ble_eq_true rfl) dX9_leastOf_73 (fun r_34 τ_35 h_36 => ?_)
                obtain ⟨eh_36, h_36⟩ := h_36
                obtain rfl := eh_36.symm
                refine r_icmp_ne C 91 dX9_leastOf_76 (by decide) (fun c_37 => ?_) (fun c_37 => ?_)
                · -- to 91
                  refine r_iconst C (0) dX9_leastOf_91 (by decide) ?_
                  exact At.sub [0, 1, 2, 3, 4, 5] rfl (L_92 (0 : Int32) (fun h => absurd (hb h) (by omega)))
                · -- to 79
                  refine r_iload_n C 2 dX9_leastOf_79 rfl rfl ?_
                  refine r_iload_n C 3 dX9_leastOf_80 rfl rfl ?_
                  refine r_callS C [.int (i), .int (a)] [] (c_X9_isAhead E ad (sSet σ 65 g)  (i) (a) ) ls_X9_316 (by decide) (by decide) rfl rfl (Nat.le_of_ble_eq_true rfl) dX9_leastOf_81 (fun r_38 τ_39 h_40 => ?_)
                  obtain ⟨eh_40, h_40⟩ := h_40
                  obtain rfl := eh_40.symm
                  refine r_if_eq C 91 dX9_leastOf_84 (by decide) (fun c_41 => ?_) (fun c_41 => ?_)
                  · -- to 91
                    refine r_iconst C (0) dX9_leastOf_91 (by decide) ?_
                    exact At.sub [0, 1, 2, 3, 4, 5] rfl (L_92 (0 : Int32) (fun h => absurd (hb h) (by omega)))
                  · -- to 87
                    refine r_iconst C (1) dX9_leastOf_87 (by decide) ?_
                    refine r_goto C 92 dX9_leastOf_88 (by decide) ?_
                    exact At.sub [0, 1, 2, 3, 4, 5] rfl (L_92 (1 : Int32) (by omega))
        refine r_iload_n C 2 dX9_leastOf_21 rfl rfl ?_
        refine r_if_lt C 35 dX9_leastOf_22 (by decide) (fun c_42 => ?_) (fun c_42 => ?_)
        · -- to 35
          refine r_iconst C (1) dX9_leastOf_35 (by decide) ?_
          refine r_goto C 40 dX9_leastOf_36 (by decide) ?_
          exact At.sub [0, 1, 2, 3, 4] rfl (L_40 (1 : Int32) (by omega))
        · -- to 25
          refine r_iload C 0 dX9_leastOf_25 rfl ?_
          refine r_aload_n C 3 dX9_leastOf_27 rfl rfl ?_
          refine r_iload_n C 2 dX9_leastOf_28 rfl rfl ?_
          refine r_callV C (k := 39) [.int (a)] [.int (r_4)] (c_X9_hoursOf E ad (sSet σ 65 g)  (a) hM) lv_X9_313 (by decide) rfl rfl (by decide) (by decide) rfl rfl (Nat.le_of_ble_eq_true rfl) dX9_leastOf_29 (fun r_43 τ_44 h_45 => ?_)
          obtain ⟨eh_45, h_45⟩ := h_45
          obtain rfl := eh_45.symm
          refine r_icmp_ge C 39 dX9_leastOf_32 (by decide) (fun c_46 => ?_) (fun c_46 => ?_)
          · -- to 39
            refine r_iconst C (0) dX9_leastOf_39 (by decide) ?_
            exact At.sub [0, 1, 2, 3, 4] rfl (L_40 (0 : Int32) (by omega))
          · -- to 35
            refine r_iconst C (1) dX9_leastOf_35 (by decide) ?_
            refine r_goto C 40 dX9_leastOf_36 (by decide) ?_
            exact At.sub [0, 1, 2, 3, 4] rfl (L_40 (1 : Int32) (by omega))
  rw [sSet0 σ 65]
  exact At.sub [0, 1, 2, 3] rfl (L_4 ((4096 - (0 : Int32).toInt).toNat + 1) (σ 65 : Nat → Int32) ((-1) : Int32) (0 : Int32) (by omega) (fun _ _ => ⟨fun _ => by omega, fun h => absurd h (by omega)⟩) (by omega))
set_option maxHeartbeats 4000000 in
set_option maxRecDepth 100000 in
theorem c_X9_least (E : Ev) (ad : Nat → Nat) (σ : Sg) (p : Int32) (hM : IM σ) : Ct E ad yX9_least cX9_least 3 (some .int) 5 [.ref (ad 39), .int p] σ (fun r τ => Off [65] σ τ ∧ (¬ (0 ≤ p.toInt ∧ p.toInt < 10) → r.toInt = -1) ∧ ((∀ j, σ 45 j = 0) → (σ 39 1).toInt = 0 → 0 ≤ p.toInt ∧ p.toInt < 10 → r.toInt = 0)) := by
  have k_m3 : (-3 : Int32).toInt = -3 := by decide
  have k_m1 : (-1 : Int32).toInt = -1 := by decide
  have hJ := hM
  unfold IM at hJ
  obtain ⟨n0, n1, n8, n17, n29, n39, n44, c40, c41, c42, c54, c58⟩ := hJ
  refine ct_of RX9 rfl (by decide +kernel) [(0, .ref (ad 39)), (1, .int (p))] rfl (Nat.le_of_ble_eq_true rfl) (fun G C T => ?_)
  refine r_iload_n C 1 dX9_least_0 rfl rfl ?_
  refine r_callS C [.int (p)] [] (c_X9_isPlace E ad σ  (p) ) ls_X9_116 (by decide) (by decide) rfl rfl (Nat.le_of_ble_eq_true rfl) dX9_least_1 (fun r_1 τ_2 h_3 => ?_)
  obtain ⟨eh_3, h_3⟩ := h_3
  obtain rfl := eh_3.symm
  refine r_if_ne C 9 dX9_least_4 (by decide) (fun c_4 => ?_) (fun c_4 => ?_)
  · -- to 9
    refine r_aload_n C 0 dX9_least_9 rfl rfl ?_
    refine r_iload_n C 1 dX9_least_10 rfl rfl ?_
    refine r_callV C (k := 39) [.int (p)] [] (c_X9_leastOf E ad σ  (p) hM) lv_X9_322 (by decide) rfl rfl (by decide) (by decide) rfl rfl (Nat.le_of_ble_eq_true rfl) dX9_least_11 (fun r_5 τ_6 h_7 => ?_)
    obtain ⟨g_8, eh_7, h_7⟩ := h_7
    subst eh_7
    refine r_istore_n C [(2, .int (r_5)), (0, .ref (ad 39)), (1, .int (p))] dX9_least_14 rfl (by decide) rfl ?_
    refine r_iload_n C 0 dX9_least_15 rfl rfl ?_
    refine r_if_ge C 24 dX9_least_16 (by decide) (fun c_9 => ?_) (fun c_9 => ?_)
    · -- to 24
      refine r_aload_n C 1 dX9_least_24 rfl rfl ?_
      refine r_iload_n C 0 dX9_least_25 rfl rfl ?_
      refine r_callV C (k := 39) [.int (r_5)] [] (c_X9_hoursOf E ad (sSet σ 65 g_8)  (r_5) hM) lv_X9_313 (by decide) rfl rfl (by decide) (by decide) rfl rfl (Nat.le_of_ble_eq_true rfl) dX9_least_26 (fun r_10 τ_11 h_12 => ?_)
      obtain ⟨eh_12, h_12⟩ := h_12
      obtain rfl := eh_12.symm
      exact r_iret C T dX9_least_29 (⟨(Off.rf.st (by decide)), fun h => absurd h (by omega), fun h1 h2 h3 => h_12 h2⟩)
    · -- to 19
      refine r_bipush C (-3) dX9_least_19 (by decide) ?_
      refine r_goto C 29 dX9_least_21 (by decide) ?_
      exact r_iret C T dX9_least_29 (⟨(Off.rf.st (by decide)), fun h => absurd h (by omega), fun h1 h2 h3 => absurd (h_7 h1 h2) (by omega)⟩)
  · -- to 7
    refine r_iconst C (-1) dX9_least_7 (by decide) ?_
    exact r_iret C T dX9_least_8 (⟨Off.rf, fun _ => k_m1, fun _ _ h => absurd h (by omega)⟩)
set_option maxHeartbeats 4000000 in
set_option maxRecDepth 100000 in
theorem c_X9_leastSet (E : Ev) (ad : Nat → Nat) (σ : Sg) (p : Int32) (hM : IM σ) : Ct E ad yX9_leastSet cX9_leastSet 3 (some .int) 5 [.ref (ad 39), .int p] σ (fun r τ => Off [65] σ τ ∧ (¬ (0 ≤ p.toInt ∧ p.toInt < 10) → r.toInt = -1) ∧ ((∀ j, σ 45 j = 0) → (σ 39 1).toInt = 0 → 0 ≤ p.toInt ∧ p.toInt < 10 → r.toInt = 0)) := by
  have k_m3 : (-3 : Int32).toInt = -3 := by decide
  have k_m1 : (-1 : Int32).toInt = -1 := by decide
  have hJ := hM
  unfold IM at hJ
  obtain ⟨n0, n1, n8, n17, n29, n39, n44, c40, c41, c42, c54, c58⟩ := hJ
  refine ct_of RX9 rfl (by decide +kernel) [(0, .ref (ad 39)), (1, .int (p))] rfl (Nat.le_of_ble_eq_true rfl) (fun G C T => ?_)
  refine r_iload_n C 1 dX9_leastSet_0 rfl rfl ?_
  refine r_callS C [.int (p)] [] (c_X9_isPlace E ad σ  (p) ) ls_X9_116 (by decide) (by decide) rfl rfl (Nat.le_of_ble_eq_true rfl) dX9_leastSet_1 (fun r_1 τ_2 h_3 => ?_)
  obtain ⟨eh_3, h_3⟩ := h_3
  obtain rfl := eh_3.symm
  refine r_if_ne C 9 dX9_leastSet_4 (by decide) (fun c_4 => ?_) (fun c_4 => ?_)
  · -- to 9
    refine r_aload_n C 0 dX9_leastSet_9 rfl rfl ?_
    refine r_iload_n C 1 dX9_leastSet_10 rfl rfl ?_
    refine r_callV C (k := 39) [.int (p)] [] (c_X9_leastOf E ad σ  (p) hM) lv_X9_322 (by decide) rfl rfl (by decide) (by decide) rfl rfl (Nat.le_of_ble_eq_true rfl) dX9_leastSet_11 (fun r_5 τ_6 h_7 => ?_)
    obtain ⟨g_8, eh_7, h_7⟩ := h_7
    subst eh_7
    refine r_istore_n C [(2, .int (r_5)), (0, .ref (ad 39)), (1, .int (p))] dX9_leastSet_14 rfl (by decide) rfl ?_
    refine r_iload_n C 0 dX9_leastSet_15 rfl rfl ?_
    refine r_if_ge C 24 dX9_leastSet_16 (by decide) (fun c_9 => ?_) (fun c_9 => ?_)
    · -- to 24
      refine r_iload_n C 0 dX9_leastSet_24 rfl rfl ?_
      exact r_iret C T dX9_leastSet_25 (⟨(Off.rf.st (by decide)), fun h => absurd h (by omega), fun h1 h2 h3 => by have t := h_7 h1 h2; omega⟩)
    · -- to 19
      refine r_bipush C (-3) dX9_leastSet_19 (by decide) ?_
      refine r_goto C 25 dX9_leastSet_21 (by decide) ?_
      exact r_iret C T dX9_leastSet_25 (⟨(Off.rf.st (by decide)), fun h => absurd h (by omega), fun h1 h2 h3 => by have t := h_7 h1 h2; omega⟩)
  · -- to 7
    refine r_iconst C (-1) dX9_leastSet_7 (by decide) ?_
    exact r_iret C T dX9_leastSet_8 (⟨Off.rf, fun _ => k_m1, fun _ _ h => absurd h (by omega)⟩)
set_option maxHeartbeats 4000000 in
set_option maxRecDepth 100000 in
theorem c_X9_risk (E : Ev) (ad : Nat → Nat) (σ : Sg) (p : Int32) (hM : IM σ) : Ct E ad yX9_risk cX9_risk 5 (some .int) 4 [.ref (ad 39), .int p] σ (fun r τ => Off [65] σ τ ∧ ((σ 39 1).toInt = 0 → r.toInt = -1)) := by
  have k_m1 : (-1 : Int32).toInt = -1 := by decide
  have k_0 : (0 : Int32).toInt = 0 := by decide
  have k_1 : (1 : Int32).toInt = 1 := by decide
  have k_3 : (3 : Int32).toInt = 3 := by decide
  have hJ := hM
  unfold IM at hJ
  obtain ⟨n0, n1, n8, n17, n29, n39, n44, c40, c41, c42, c54, c58⟩ := hJ
  refine ct_of RX9 rfl (by decide +kernel) [(0, .ref (ad 39)), (1, .int (p))] rfl (Nat.le_of_ble_eq_true rfl) (fun G C T => ?_)
  refine r_aload_n C 0 dX9_risk_0 rfl rfl ?_
  refine r_iload_n C 1 dX9_risk_1 rfl rfl ?_
  refine r_callV C (k := 39) [.int (p)] [] (c_X9_isFitting E ad σ  (p) hM) lv_X9_137 (by decide) rfl rfl (by decide) (by decide) rfl rfl (Nat.le_of_ble_eq_true rfl) dX9_risk_2 (fun r_1 τ_2 h_3 => ?_)
  obtain ⟨eh_3, h_3⟩ := h_3
  obtain rfl := eh_3.symm
  refine r_if_ne C 10 dX9_risk_5 (by decide) (fun c_4 => ?_) (fun c_4 => ?_)
  · -- to 10
    refine r_aload_n C 0 dX9_risk_10 rfl rfl ?_
    refine r_callV C (k := 39) [] [] (c_X9_closedNow E ad σ   hM) lv_X9_133 (by decide) rfl rfl (by decide) (by decide) rfl rfl (Nat.le_of_ble_eq_true rfl) dX9_risk_11 (fun r_5 τ_6 h_7 => ?_)
    obtain ⟨eh_7, h_7⟩ := h_7
    obtain rfl := eh_7.symm
    refine r_iconst C (1) dX9_risk_14 (by decide) ?_
    refine r_iload_n C 1 dX9_risk_15 rfl rfl ?_
    refine r_ishl C dX9_risk_16 ?_
    refine r_nm (P := fun z => z = (1 : Int32) <<< ((p : Int32) &&& 31)) rfl (fun z_8 hz_9 => ?_)
    refine r_iconst C (-1) dX9_risk_17 (by decide) ?_
    refine r_ixor C dX9_risk_18 ?_
    refine r_nm (P := fun z => z = (z_8 : Int32) ^^^ ((-1))) rfl (fun z_10 hz_11 => ?_)
    refine r_iand C dX9_risk_19 ?_
    refine r_nm (P := fun z => z = (r_5 : Int32) &&& (z_10)) rfl (fun z_12 hz_13 => ?_)
    refine r_istore_n C [(2, .int (z_12)), (0, .ref (ad 39)), (1, .int (p))] dX9_risk_20 rfl (by decide) rfl ?_
    refine r_iconst C (0) dX9_risk_21 (by decide) ?_
    refine r_istore_n C [(3, .int (0)), (2, .int (z_12)), (0, .ref (ad 39)), (1, .int (p))] dX9_risk_22 rfl (by decide) rfl ?_
    refine r_iconst C (0) dX9_risk_23 (by decide) ?_
    refine r_istore C [(4, .int (0)), (3, .int (0)), (2, .int (z_12)), (0, .ref (ad 39)), (1, .int (p))] dX9_risk_24 (by decide) rfl ?_
    have L_26 : ∀ (n : Nat), ∀ (g : Nat → Int32) (a : Int32) (i : Int32), (0 ≤ i.toInt ∧ i.toInt ≤ 7) → 7 - i.toInt < (n : Int) → At E ad G 5 26 [(4, .int (i)), (3, .int (a)), (2, .int (z_12)), (0, .ref (ad 39)), (1, .int (p))] [] (sSet σ 65 g) := by
      intro n
      induction n with
      | zero =>
        intro g a i hi hm
        exact absurd hm (by omega)
      | succ n ih =>
        intro g a i hi hm
        have ih_26 := ih
        clear ih
        refine r_iload C 0 dX9_risk_26 rfl ?_
        refine r_aload_n C 3 dX9_risk_28 rfl rfl ?_
        refine r_get C (k := 39) (v := .int (σ 39 17)) f_X9_113 (by decide) rfl rfl dX9_risk_29 ?_
        refine r_icmp_ge C 78 dX9_risk_32 (by decide) (fun c_14 => ?_) (fun c_14 => ?_)
        · -- to 78
          refine r_iload_n C 1 dX9_risk_78 rfl rfl ?_
          exact r_iret C T dX9_risk_79 (⟨(Off.rf.st (by decide)), fun h => absurd h (by omega)⟩)
        · -- to 35
          have L_70 : ∀ (g2 : Nat → Int32) (c : Int32), At E ad G 5 70 [(4, .int (i)), (3, .int (a)), (2, .int (z_12)), (0, .ref (ad 39)), (1, .int (p))] [.int (c), .int (a)] (sSet σ 65 g2) := by
            intro g2 c
            refine r_ior C dX9_risk_70 ?_
            refine r_nm (P := fun z => z = (a : Int32) ||| (c)) rfl (fun z_15 hz_16 => ?_)
            refine r_istore_n C [(3, .int (z_15)), (4, .int (i)), (2, .int (z_12)), (0, .ref (ad 39)), (1, .int (p))] dX9_risk_71 rfl (by decide) rfl ?_
            refine r_iinc C 1 (fun z => [(4, .int (z)), (3, .int (z_15)), (2, .int (z_12)), (0, .ref (ad 39)), (1, .int (p))]) dX9_risk_72 rfl (by decide) (by decide) (by omega) (fun _ => rfl) (fun z_17 hz_18 => ?_)
            refine r_goto C 26 dX9_risk_75 (by decide) ?_
            exact At.sub [0, 1, 2, 3, 4] rfl (ih_26 (g2 : Nat → Int32) (z_15 : Int32) (z_17 : Int32) (by omega) (by omega))
          refine r_iload_n C 1 dX9_risk_35 rfl rfl ?_
          refine r_aload_n C 3 dX9_risk_36 rfl rfl ?_
          refine r_get C (k := 39) (v := .ref (ad 57)) f_X9_62 (by decide) rfl rfl dX9_risk_37 ?_
          refine r_iload C 0 dX9_risk_40 rfl ?_
          refine r_iald C (k := 57) (by decide) rfl (by omega) (σ 57 ((i : Int32).toInt.toNat)) rfl dX9_risk_42 ?_
          refine r_iconst C (3) dX9_risk_43 (by decide) ?_
          refine r_icmp_ne C 69 dX9_risk_44 (by decide) (fun c_20 => ?_) (fun c_20 => ?_)
          · -- to 69
            refine r_iconst C (0) dX9_risk_69 (by decide) ?_
            exact At.sub [0, 1, 2, 3, 4] rfl (L_70 (g : Nat → Int32) (0 : Int32) )
          · -- to 47
            refine r_aload_n C 3 dX9_risk_47 rfl rfl ?_
            refine r_aload_n C 3 dX9_risk_48 rfl rfl ?_
            refine r_get C (k := 39) (v := .ref (ad 54)) f_X9_53 (by decide) rfl rfl dX9_risk_49 ?_
            refine r_iload C 0 dX9_risk_52 rfl ?_
            refine r_iald C (k := 54) (by decide) rfl (by omega) (σ 54 ((i : Int32).toInt.toNat)) rfl dX9_risk_54 ?_
            have q_21 := c54 ((i : Int32).toInt.toNat) (by omega)
            refine r_iload_n C 2 dX9_risk_55 rfl rfl ?_
            refine r_callV C (k := 39) [.int (σ 54 ((i : Int32).toInt.toNat)), .int (z_12)] [.int (a)] (c_X9_isSafeNow E ad (sSet σ 65 g)  (σ 54 ((i : Int32).toInt.toNat)) (z_12) hM) lv_X9_158 (by decide) rfl rfl (by decide) (by decide) rfl rfl (Nat.le_of_ble_eq_true rfl) dX9_risk_56 (fun r_22 τ_23 h_24 => ?_)
            obtain ⟨g_25, eh_24, h_24⟩ := h_24
            subst eh_24
            rw [sSet2]
            refine r_if_ne C 69 dX9_risk_59 (by decide) (fun c_26 => ?_) (fun c_26 => ?_)
            · -- to 69
              refine r_iconst C (0) dX9_risk_69 (by decide) ?_
              exact At.sub [0, 1, 2, 3, 4] rfl (L_70 (g_25 : Nat → Int32) (0 : Int32) )
            · -- to 62
              refine r_iconst C (1) dX9_risk_62 (by decide) ?_
              refine r_iload C 0 dX9_risk_63 rfl ?_
              refine r_ishl C dX9_risk_65 ?_
              refine r_nm (P := fun z => z = (1 : Int32) <<< ((i : Int32) &&& 31)) rfl (fun z_27 hz_28 => ?_)
              refine r_goto C 70 dX9_risk_66 (by decide) ?_
              exact At.sub [0, 1, 2, 3, 4] rfl (L_70 (g_25 : Nat → Int32) (z_27 : Int32) )
    rw [sSet0 σ 65]
    exact At.sub [0, 1, 2, 3, 4] rfl (L_26 ((7 - (0 : Int32).toInt).toNat + 1) (σ 65 : Nat → Int32) (0 : Int32) (0 : Int32) (by omega) (by omega))
  · -- to 8
    refine r_iconst C (-1) dX9_risk_8 (by decide) ?_
    exact r_iret C T dX9_risk_9 (⟨Off.rf, fun _ => k_m1⟩)
set_option maxHeartbeats 4000000 in
set_option maxRecDepth 100000 in
theorem c_X9_right (E : Ev) (ad : Nat → Nat) (σ : Sg) (p : Int32) (q : Int32) (u : Int32) (hM : IM σ) : Ct E ad yX9_right cX9_right 6 (some .int) 4 [.ref (ad 39), .int p, .int q, .int u] σ (fun r τ => Off [65] σ τ ∧ ((σ 39 17).toInt = 0 → r.toInt = -1)) := by
  have k_m1 : (-1 : Int32).toInt = -1 := by decide
  have k_0 : (0 : Int32).toInt = 0 := by decide
  have k_1 : (1 : Int32).toInt = 1 := by decide
  have k_2 : (2 : Int32).toInt = 2 := by decide
  have hJ := hM
  unfold IM at hJ
  obtain ⟨n0, n1, n8, n17, n29, n39, n44, c40, c41, c42, c54, c58⟩ := hJ
  refine ct_of RX9 rfl (by decide +kernel) [(0, .ref (ad 39)), (1, .int (p)), (2, .int (q)), (3, .int (u))] rfl (Nat.le_of_ble_eq_true rfl) (fun G C T => ?_)
  refine r_aload_n C 0 dX9_right_0 rfl rfl ?_
  refine r_iload_n C 1 dX9_right_1 rfl rfl ?_
  refine r_callV C (k := 39) [.int (p)] [] (c_X9_isPermit E ad σ  (p) hM) lv_X9_262 (by decide) rfl rfl (by decide) (by decide) rfl rfl (Nat.le_of_ble_eq_true rfl) dX9_right_2 (fun r_1 τ_2 h_3 => ?_)
  obtain ⟨eh_3, h_3⟩ := h_3
  obtain rfl := eh_3.symm
  refine r_if_eq C 32 dX9_right_5 (by decide) (fun c_4 => ?_) (fun c_4 => ?_)
  · -- to 32
    refine r_iconst C (-1) dX9_right_32 (by decide) ?_
    exact r_iret C T dX9_right_33 (⟨Off.rf, fun _ => k_m1⟩)
  · -- to 8
    refine r_iload_n C 2 dX9_right_8 rfl rfl ?_
    refine r_iconst C (0) dX9_right_9 (by decide) ?_
    refine r_aload_n C 0 dX9_right_10 rfl rfl ?_
    refine r_get C (k := 39) (v := .int (σ 39 0)) f_X9_119 (by decide) rfl rfl dX9_right_11 ?_
    refine r_callS C [.int (q), .int (0), .int (σ 39 0)] [] (c_X9_in E ad σ  (q) (0) (σ 39 0) ) ls_X9_105 (by decide) (by decide) rfl rfl (Nat.le_of_ble_eq_true rfl) dX9_right_14 (fun r_5 τ_6 h_7 => ?_)
    obtain ⟨eh_7, h_7⟩ := h_7
    obtain rfl := eh_7.symm
    refine r_if_eq C 32 dX9_right_17 (by decide) (fun c_8 => ?_) (fun c_8 => ?_)
    · -- to 32
      refine r_iconst C (-1) dX9_right_32 (by decide) ?_
      exact r_iret C T dX9_right_33 (⟨Off.rf, fun _ => k_m1⟩)
    · -- to 20
      refine r_iload_n C 3 dX9_right_20 rfl rfl ?_
      refine r_iconst C (0) dX9_right_21 (by decide) ?_
      refine r_aload_n C 0 dX9_right_22 rfl rfl ?_
      refine r_get C (k := 39) (v := .int (σ 39 0)) f_X9_119 (by decide) rfl rfl dX9_right_23 ?_
      refine r_callS C [.int (u), .int (0), .int (σ 39 0)] [] (c_X9_in E ad σ  (u) (0) (σ 39 0) ) ls_X9_105 (by decide) (by decide) rfl rfl (Nat.le_of_ble_eq_true rfl) dX9_right_26 (fun r_9 τ_10 h_11 => ?_)
      obtain ⟨eh_11, h_11⟩ := h_11
      obtain rfl := eh_11.symm
      refine r_if_ne C 34 dX9_right_29 (by decide) (fun c_12 => ?_) (fun c_12 => ?_)
      · -- to 34
        have L_55 : ∀ (b : Int32), At E ad G 6 55 [(0, .ref (ad 39)), (1, .int (p)), (2, .int (q)), (3, .int (u))] [.int (b)] σ := by
          intro b
          refine r_istore C [(4, .int (b)), (0, .ref (ad 39)), (1, .int (p)), (2, .int (q)), (3, .int (u))] dX9_right_55 (by decide) rfl ?_
          have L_78 : ∀ (c : Int32), At E ad G 6 78 [(4, .int (b)), (0, .ref (ad 39)), (1, .int (p)), (2, .int (q)), (3, .int (u))] [.int (c)] σ := by
            intro c
            refine r_istore C [(5, .int (c)), (4, .int (b)), (0, .ref (ad 39)), (1, .int (p)), (2, .int (q)), (3, .int (u))] dX9_right_78 (by decide) rfl ?_
            refine r_iload C 1 dX9_right_80 rfl ?_
            refine r_iload_n C 3 dX9_right_82 rfl rfl ?_
            refine r_callS C [.int (b), .int (p)] [] (c_X9_has E ad σ  (b) (p) ) ls_X9_125 (by decide) (by decide) rfl rfl (Nat.le_of_ble_eq_true rfl) dX9_right_83 (fun r_13 τ_14 h_15 => ?_)
            obtain ⟨eh_15, h_15⟩ := h_15
            obtain rfl := eh_15.symm
            refine r_if_ne C 91 dX9_right_86 (by decide) (fun c_16 => ?_) (fun c_16 => ?_)
            · -- to 91
              refine r_aload_n C 2 dX9_right_91 rfl rfl ?_
              refine r_aload_n C 2 dX9_right_92 rfl rfl ?_
              refine r_get C (k := 39) (v := .ref (ad 54)) f_X9_53 (by decide) rfl rfl dX9_right_93 ?_
              refine r_iload_n C 3 dX9_right_96 rfl rfl ?_
              refine r_iald C (k := 54) (by decide) rfl (by omega) (σ 54 ((p : Int32).toInt.toNat)) rfl dX9_right_97 ?_
              have q_17 := c54 ((p : Int32).toInt.toNat) (by omega)
              refine r_iload C 0 dX9_right_98 rfl ?_
              refine r_iload_n C 4 dX9_right_100 rfl rfl ?_
              refine r_iload_n C 5 dX9_right_101 rfl rfl ?_
              refine r_callV C (k := 39) [.int (σ 54 ((p : Int32).toInt.toNat)), .int (c), .int (q), .int (u)] [] (c_X9_isSafe E ad σ  (σ 54 ((p : Int32).toInt.toNat)) (c) (q) (u) hM) lv_X9_154 (by decide) rfl rfl (by decide) (by decide) rfl rfl (Nat.le_of_ble_eq_true rfl) dX9_right_102 (fun r_18 τ_19 h_20 => ?_)
              obtain ⟨g_21, eh_20, h_20⟩ := h_20
              subst eh_20
              refine r_if_eq C 112 dX9_right_105 (by decide) (fun c_22 => ?_) (fun c_22 => ?_)
              · -- to 112
                refine r_iconst C (0) dX9_right_112 (by decide) ?_
                exact r_iret C T dX9_right_113 (⟨(Off.rf.st (by decide)), fun h => absurd h (by omega)⟩)
              · -- to 108
                refine r_iconst C (1) dX9_right_108 (by decide) ?_
                refine r_goto C 113 dX9_right_109 (by decide) ?_
                exact r_iret C T dX9_right_113 (⟨(Off.rf.st (by decide)), fun h => absurd h (by omega)⟩)
            · -- to 89
              refine r_iconst C (2) dX9_right_89 (by decide) ?_
              exact r_iret C T dX9_right_90 (⟨Off.rf, fun h => absurd h (by omega)⟩)
          refine r_iload_n C 3 dX9_right_57 rfl rfl ?_
          refine r_aload_n C 1 dX9_right_58 rfl rfl ?_
          refine r_get C (k := 39) (v := .int (σ 39 0)) f_X9_119 (by decide) rfl rfl dX9_right_59 ?_
          refine r_icmp_ne C 72 dX9_right_62 (by decide) (fun c_23 => ?_) (fun c_23 => ?_)
          · -- to 72
            refine r_aload_n C 1 dX9_right_72 rfl rfl ?_
            refine r_get C (k := 39) (v := .ref (ad 62)) f_X9_77 (by decide) rfl rfl dX9_right_73 ?_
            refine r_iload_n C 3 dX9_right_76 rfl rfl ?_
            refine r_iald C (k := 62) (by decide) rfl (by omega) (σ 62 ((q : Int32).toInt.toNat)) rfl dX9_right_77 ?_
            exact At.sub [0, 1, 2, 3, 4] rfl (L_78 (σ 62 ((q : Int32).toInt.toNat) : Int32) )
          · -- to 65
            refine r_aload_n C 1 dX9_right_65 rfl rfl ?_
            refine r_callV C (k := 39) [] [] (c_X9_closedNow E ad σ   hM) lv_X9_133 (by decide) rfl rfl (by decide) (by decide) rfl rfl (Nat.le_of_ble_eq_true rfl) dX9_right_66 (fun r_25 τ_26 h_27 => ?_)
            obtain ⟨eh_27, h_27⟩ := h_27
            obtain rfl := eh_27.symm
            refine r_goto C 78 dX9_right_69 (by decide) ?_
            exact At.sub [0, 1, 2, 3, 4] rfl (L_78 (r_25 : Int32) )
        refine r_iload_n C 2 dX9_right_34 rfl rfl ?_
        refine r_aload_n C 0 dX9_right_35 rfl rfl ?_
        refine r_get C (k := 39) (v := .int (σ 39 0)) f_X9_119 (by decide) rfl rfl dX9_right_36 ?_
        refine r_icmp_ne C 49 dX9_right_39 (by decide) (fun c_28 => ?_) (fun c_28 => ?_)
        · -- to 49
          refine r_aload_n C 0 dX9_right_49 rfl rfl ?_
          refine r_get C (k := 39) (v := .ref (ad 63)) f_X9_80 (by decide) rfl rfl dX9_right_50 ?_
          refine r_iload_n C 2 dX9_right_53 rfl rfl ?_
          refine r_iald C (k := 63) (by decide) rfl (by omega) (σ 63 ((q : Int32).toInt.toNat)) rfl dX9_right_54 ?_
          exact At.sub [0, 1, 2, 3] rfl (L_55 (σ 63 ((q : Int32).toInt.toNat) : Int32) )
        · -- to 42
          refine r_aload_n C 0 dX9_right_42 rfl rfl ?_
          refine r_callV C (k := 39) [] [] (c_X9_liveNow E ad σ   hM) lv_X9_165 (by decide) rfl rfl (by decide) (by decide) rfl rfl (Nat.le_of_ble_eq_true rfl) dX9_right_43 (fun r_30 τ_31 h_32 => ?_)
          obtain ⟨eh_32, h_32⟩ := h_32
          obtain rfl := eh_32.symm
          refine r_goto C 55 dX9_right_46 (by decide) ?_
          exact At.sub [0, 1, 2, 3] rfl (L_55 (r_30 : Int32) )
      · -- to 32
        refine r_iconst C (-1) dX9_right_32 (by decide) ?_
        exact r_iret C T dX9_right_33 (⟨Off.rf, fun _ => k_m1⟩)
set_option maxHeartbeats 4000000 in
set_option maxRecDepth 100000 in
theorem c_X9_ordered (E : Ev) (ad : Nat → Nat) (σ : Sg) (p : Int32) (hM : IM σ) : Ct E ad yX9_ordered cX9_ordered 2 (some .int) 1 [.ref (ad 39), .int p] σ (fun r τ => τ = σ ∧ ((σ 39 39).toInt = 0 → r.toInt = -3)) := by
  have k_m3 : (-3 : Int32).toInt = -3 := by decide
  have k_0 : (0 : Int32).toInt = 0 := by decide
  have k_1 : (1 : Int32).toInt = 1 := by decide
  have hJ := hM
  unfold IM at hJ
  obtain ⟨n0, n1, n8, n17, n29, n39, n44, c40, c41, c42, c54, c58⟩ := hJ
  refine ct_of RX9 rfl (by decide +kernel) [(0, .ref (ad 39)), (1, .int (p))] rfl (Nat.le_of_ble_eq_true rfl) (fun G C T => ?_)
  refine r_iload_n C 1 dX9_ordered_0 rfl rfl ?_
  refine r_iconst C (0) dX9_ordered_1 (by decide) ?_
  refine r_aload_n C 0 dX9_ordered_2 rfl rfl ?_
  refine r_get C (k := 39) (v := .int (σ 39 39)) f_X9_337 (by decide) rfl rfl dX9_ordered_3 ?_
  refine r_iconst C (1) dX9_ordered_6 (by decide) ?_
  refine r_isub C dX9_ordered_7 ?_
  refine r_nm (P := fun z => z.toInt = (σ 39 39 : Int32).toInt - (1 : Int32).toInt ∧ z = (σ 39 39) - (1)) ⟨ta_sub (by omega), rfl⟩ (fun z_1 hz_2 => ?_)
  refine r_callS C [.int (p), .int (0), .int (z_1)] [] (c_X9_in E ad σ  (p) (0) (z_1) ) ls_X9_105 (by decide) (by decide) rfl rfl (Nat.le_of_ble_eq_true rfl) dX9_ordered_8 (fun r_3 τ_4 h_5 => ?_)
  obtain ⟨eh_5, h_5⟩ := h_5
  obtain rfl := eh_5.symm
  refine r_if_eq C 23 dX9_ordered_11 (by decide) (fun c_6 => ?_) (fun c_6 => ?_)
  · -- to 23
    refine r_bipush C (-3) dX9_ordered_23 (by decide) ?_
    exact r_iret C T dX9_ordered_25 (⟨rfl, fun h => by first | exact k_m3 | exact absurd h (by omega)⟩)
  · -- to 14
    refine r_aload_n C 0 dX9_ordered_14 rfl rfl ?_
    refine r_get C (k := 39) (v := .ref (ad 67)) f_X9_92 (by decide) rfl rfl dX9_ordered_15 ?_
    refine r_iload_n C 1 dX9_ordered_18 rfl rfl ?_
    refine r_iald C (k := 67) (by decide) rfl (by omega) (σ 67 ((p : Int32).toInt.toNat)) rfl dX9_ordered_19 ?_
    refine r_goto C 25 dX9_ordered_20 (by decide) ?_
    exact r_iret C T dX9_ordered_25 (⟨rfl, fun h => by first | exact k_m3 | exact absurd h (by omega)⟩)
set_option maxHeartbeats 4000000 in
set_option maxRecDepth 100000 in
theorem c_X9_row (E : Ev) (ad : Nat → Nat) (σ : Sg) (p : Int32) (q : Int32) (hM : IM σ) : Ct E ad yX9_row cX9_row 3 (some .int) 1 [.ref (ad 39), .int p, .int q] σ (fun r τ => τ = σ ∧ (¬ (0 ≤ q.toInt ∧ q.toInt < 3) → r.toInt = -1) ∧ ((σ 39 44).toInt = 0 → 0 ≤ q.toInt ∧ q.toInt < 3 → r.toInt = -3)) := by
  have k_m3 : (-3 : Int32).toInt = -3 := by decide
  have k_m1 : (-1 : Int32).toInt = -1 := by decide
  have k_0 : (0 : Int32).toInt = 0 := by decide
  have k_1 : (1 : Int32).toInt = 1 := by decide
  have k_2 : (2 : Int32).toInt = 2 := by decide
  have k_3 : (3 : Int32).toInt = 3 := by decide
  have hJ := hM
  unfold IM at hJ
  obtain ⟨n0, n1, n8, n17, n29, n39, n44, c40, c41, c42, c54, c58⟩ := hJ
  refine ct_of RX9 rfl (by decide +kernel) [(0, .ref (ad 39)), (1, .int (p)), (2, .int (q))] rfl (Nat.le_of_ble_eq_true rfl) (fun G C T => ?_)
  refine r_iload_n C 2 dX9_row_0 rfl rfl ?_
  refine r_iconst C (0) dX9_row_1 (by decide) ?_
  refine r_iconst C (2) dX9_row_2 (by decide) ?_
  refine r_callS C [.int (q), .int (0), .int (2)] [] (c_X9_in E ad σ  (q) (0) (2) ) ls_X9_105 (by decide) (by decide) rfl rfl (Nat.le_of_ble_eq_true rfl) dX9_row_3 (fun r_1 τ_2 h_3 => ?_)
  obtain ⟨eh_3, h_3⟩ := h_3
  obtain rfl := eh_3.symm
  refine r_if_ne C 11 dX9_row_6 (by decide) (fun c_4 => ?_) (fun c_4 => ?_)
  · -- to 11
    refine r_iload_n C 1 dX9_row_11 rfl rfl ?_
    refine r_iconst C (0) dX9_row_12 (by decide) ?_
    refine r_aload_n C 0 dX9_row_13 rfl rfl ?_
    refine r_get C (k := 39) (v := .int (σ 39 44)) f_X9_347 (by decide) rfl rfl dX9_row_14 ?_
    refine r_iconst C (1) dX9_row_17 (by decide) ?_
    refine r_isub C dX9_row_18 ?_
    refine r_nm (P := fun z => z.toInt = (σ 39 44 : Int32).toInt - (1 : Int32).toInt ∧ z = (σ 39 44) - (1)) ⟨ta_sub (by omega), rfl⟩ (fun z_5 hz_6 => ?_)
    refine r_callS C [.int (p), .int (0), .int (z_5)] [] (c_X9_in E ad σ  (p) (0) (z_5) ) ls_X9_105 (by decide) (by decide) rfl rfl (Nat.le_of_ble_eq_true rfl) dX9_row_19 (fun r_7 τ_8 h_9 => ?_)
    obtain ⟨eh_9, h_9⟩ := h_9
    obtain rfl := eh_9.symm
    refine r_if_eq C 38 dX9_row_22 (by decide) (fun c_10 => ?_) (fun c_10 => ?_)
    · -- to 38
      refine r_bipush C (-3) dX9_row_38 (by decide) ?_
      exact r_iret C T dX9_row_40 (⟨rfl, fun h => absurd h (by omega), fun h _ => by first | exact k_m3 | exact absurd h (by omega)⟩)
    · -- to 25
      refine r_aload_n C 0 dX9_row_25 rfl rfl ?_
      refine r_get C (k := 39) (v := .ref (ad 69)) f_X9_98 (by decide) rfl rfl dX9_row_26 ?_
      refine r_iconst C (3) dX9_row_29 (by decide) ?_
      refine r_iload_n C 1 dX9_row_30 rfl rfl ?_
      refine r_imul C dX9_row_31 ?_
      refine r_nm (P := fun z => z.toInt = 3 * (p : Int32).toInt ∧ z = (3) * (p)) ⟨ta_mulL k_3 (by omega), rfl⟩ (fun z_11 hz_12 => ?_)
      refine r_iload_n C 2 dX9_row_32 rfl rfl ?_
      refine r_iadd C dX9_row_33 ?_
      refine r_nm (P := fun z => z.toInt = (z_11 : Int32).toInt + (q : Int32).toInt ∧ z = (z_11) + (q)) ⟨ta_add (by omega), rfl⟩ (fun z_13 hz_14 => ?_)
      refine r_iald C (k := 69) (by decide) rfl (by omega) (σ 69 ((z_13 : Int32).toInt.toNat)) rfl dX9_row_34 ?_
      refine r_goto C 40 dX9_row_35 (by decide) ?_
      exact r_iret C T dX9_row_40 (⟨rfl, fun h => absurd h (by omega), fun h _ => by first | exact k_m3 | exact absurd h (by omega)⟩)
  · -- to 9
    refine r_iconst C (-1) dX9_row_9 (by decide) ?_
    exact r_iret C T dX9_row_10 (⟨rfl, fun _ => k_m1, fun _ h => absurd h (by omega)⟩)
set_option maxHeartbeats 4000000 in
set_option maxRecDepth 100000 in
theorem c_X9_alter (E : Ev) (ad : Nat → Nat) (σ : Sg) (p : Int32) (q : Int32) (u : Int32) (hM : IM σ) : Ct E ad yX9_alter cX9_alter 5 (some .int) 1 [.ref (ad 39), .int p, .int q, .int u] σ (fun r τ => Off [69] σ τ ∧ (¬ (0 ≤ q.toInt ∧ q.toInt < 3) → r.toInt = -1) ∧ ((σ 39 44).toInt = 0 → 0 ≤ q.toInt ∧ q.toInt < 3 → r.toInt = -3)) := by
  have k_m3 : (-3 : Int32).toInt = -3 := by decide
  have k_m1 : (-1 : Int32).toInt = -1 := by decide
  have k_0 : (0 : Int32).toInt = 0 := by decide
  have k_1 : (1 : Int32).toInt = 1 := by decide
  have k_2 : (2 : Int32).toInt = 2 := by decide
  have k_3 : (3 : Int32).toInt = 3 := by decide
  have hJ := hM
  unfold IM at hJ
  obtain ⟨n0, n1, n8, n17, n29, n39, n44, c40, c41, c42, c54, c58⟩ := hJ
  refine ct_of RX9 rfl (by decide +kernel) [(0, .ref (ad 39)), (1, .int (p)), (2, .int (q)), (3, .int (u))] rfl (Nat.le_of_ble_eq_true rfl) (fun G C T => ?_)
  refine r_iload_n C 2 dX9_alter_0 rfl rfl ?_
  refine r_iconst C (0) dX9_alter_1 (by decide) ?_
  refine r_iconst C (2) dX9_alter_2 (by decide) ?_
  refine r_callS C [.int (q), .int (0), .int (2)] [] (c_X9_in E ad σ  (q) (0) (2) ) ls_X9_105 (by decide) (by decide) rfl rfl (Nat.le_of_ble_eq_true rfl) dX9_alter_3 (fun r_1 τ_2 h_3 => ?_)
  obtain ⟨eh_3, h_3⟩ := h_3
  obtain rfl := eh_3.symm
  refine r_if_ne C 11 dX9_alter_6 (by decide) (fun c_4 => ?_) (fun c_4 => ?_)
  · -- to 11
    refine r_iload_n C 1 dX9_alter_11 rfl rfl ?_
    refine r_iconst C (0) dX9_alter_12 (by decide) ?_
    refine r_aload_n C 0 dX9_alter_13 rfl rfl ?_
    refine r_get C (k := 39) (v := .int (σ 39 44)) f_X9_347 (by decide) rfl rfl dX9_alter_14 ?_
    refine r_iconst C (1) dX9_alter_17 (by decide) ?_
    refine r_isub C dX9_alter_18 ?_
    refine r_nm (P := fun z => z.toInt = (σ 39 44 : Int32).toInt - (1 : Int32).toInt ∧ z = (σ 39 44) - (1)) ⟨ta_sub (by omega), rfl⟩ (fun z_5 hz_6 => ?_)
    refine r_callS C [.int (p), .int (0), .int (z_5)] [] (c_X9_in E ad σ  (p) (0) (z_5) ) ls_X9_105 (by decide) (by decide) rfl rfl (Nat.le_of_ble_eq_true rfl) dX9_alter_19 (fun r_7 τ_8 h_9 => ?_)
    obtain ⟨eh_9, h_9⟩ := h_9
    obtain rfl := eh_9.symm
    refine r_if_ne C 28 dX9_alter_22 (by decide) (fun c_10 => ?_) (fun c_10 => ?_)
    · -- to 28
      refine r_aload_n C 0 dX9_alter_28 rfl rfl ?_
      refine r_get C (k := 39) (v := .ref (ad 69)) f_X9_98 (by decide) rfl rfl dX9_alter_29 ?_
      refine r_iconst C (3) dX9_alter_32 (by decide) ?_
      refine r_iload_n C 1 dX9_alter_33 rfl rfl ?_
      refine r_imul C dX9_alter_34 ?_
      refine r_nm (P := fun z => z.toInt = 3 * (p : Int32).toInt ∧ z = (3) * (p)) ⟨ta_mulL k_3 (by omega), rfl⟩ (fun z_11 hz_12 => ?_)
      refine r_iload_n C 2 dX9_alter_35 rfl rfl ?_
      refine r_iadd C dX9_alter_36 ?_
      refine r_nm (P := fun z => z.toInt = (z_11 : Int32).toInt + (q : Int32).toInt ∧ z = (z_11) + (q)) ⟨ta_add (by omega), rfl⟩ (fun z_13 hz_14 => ?_)
      refine r_iald C (k := 69) (by decide) rfl (by omega) (σ 69 ((z_13 : Int32).toInt.toNat)) rfl dX9_alter_37 ?_
      refine r_istore C [(4, .int (σ 69 ((z_13 : Int32).toInt.toNat))), (0, .ref (ad 39)), (1, .int (p)), (2, .int (q)), (3, .int (u))] dX9_alter_38 (by decide) rfl ?_
      refine r_aload_n C 1 dX9_alter_40 rfl rfl ?_
      refine r_get C (k := 39) (v := .ref (ad 69)) f_X9_98 (by decide) rfl rfl dX9_alter_41 ?_
      refine r_iconst C (3) dX9_alter_44 (by decide) ?_
      refine r_iload_n C 2 dX9_alter_45 rfl rfl ?_
      refine r_imul C dX9_alter_46 ?_
      refine r_nm (P := fun z => z.toInt = 3 * (p : Int32).toInt ∧ z = (3) * (p)) ⟨ta_mulL k_3 (by omega), rfl⟩ (fun z_16 hz_17 => ?_)
      refine r_iload_n C 3 dX9_alter_47 rfl rfl ?_
      refine r_iadd C dX9_alter_48 ?_
      refine r_nm (P := fun z => z.toInt = (z_16 : Int32).toInt + (q : Int32).toInt ∧ z = (z_16) + (q)) ⟨ta_add (by omega), rfl⟩ (fun z_18 hz_19 => ?_)
      refine r_iload_n C 4 dX9_alter_49 rfl rfl ?_
      refine r_iast C (k := 69) (by decide) (fun _ => rfl) (by omega) dX9_alter_50 ?_
      refine r_iload C 0 dX9_alter_51 rfl ?_
      exact r_iret C T dX9_alter_53 (⟨Off.rf.up (by decide), fun h => absurd h (by omega), fun h => absurd h (by omega)⟩)
    · -- to 25
      refine r_bipush C (-3) dX9_alter_25 (by decide) ?_
      exact r_iret C T dX9_alter_27 (⟨Off.rf, fun h => absurd h (by omega), fun _ _ => k_m3⟩)
  · -- to 9
    refine r_iconst C (-1) dX9_alter_9 (by decide) ?_
    exact r_iret C T dX9_alter_10 (⟨Off.rf, fun _ => k_m1, fun _ h => absurd h (by omega)⟩)
set_option maxHeartbeats 4000000 in
set_option maxRecDepth 100000 in
theorem c_X9_drop (E : Ev) (ad : Nat → Nat) (σ : Sg)  (hM : IM σ) : Ct E ad yX9_drop cX9_drop 1 (some .int) 0 [.ref (ad 39)] σ (fun r τ => Off [39] σ τ ∧ (∀ j, j ≠ 44 → τ 39 j = σ 39 j) ∧ ((σ 39 44).toInt = 0 → r.toInt = -3 ∧ τ = σ) ∧ ((σ 39 44).toInt ≠ 0 → r.toInt = (σ 39 44).toInt - 1 ∧ (τ 39 44).toInt = (σ 39 44).toInt - 1)) := by
  have k_m3 : (-3 : Int32).toInt = -3 := by decide
  have k_1 : (1 : Int32).toInt = 1 := by decide
  have hJ := hM
  unfold IM at hJ
  obtain ⟨n0, n1, n8, n17, n29, n39, n44, c40, c41, c42, c54, c58⟩ := hJ
  refine ct_of RX9 rfl (by decide +kernel) [(0, .ref (ad 39))] rfl (Nat.le_of_ble_eq_true rfl) (fun G C T => ?_)
  refine r_aload_n C 0 dX9_drop_0 rfl rfl ?_
  refine r_get C (k := 39) (v := .int (σ 39 44)) f_X9_347 (by decide) rfl rfl dX9_drop_1 ?_
  refine r_if_ne C 10 dX9_drop_4 (by decide) (fun c_1 => ?_) (fun c_1 => ?_)
  · -- to 10
    refine r_aload_n C 0 dX9_drop_10 rfl rfl ?_
    refine r_dup C dX9_drop_11 rfl ?_
    refine r_get C (k := 39) (v := .int (σ 39 44)) f_X9_347 (by decide) rfl rfl dX9_drop_12 ?_
    refine r_iconst C (1) dX9_drop_15 (by decide) ?_
    refine r_isub C dX9_drop_16 ?_
    refine r_nm (P := fun z => z.toInt = (σ 39 44 : Int32).toInt - (1 : Int32).toInt ∧ z = (σ 39 44) - (1)) ⟨ta_sub (by omega), rfl⟩ (fun z_2 hz_3 => ?_)
    refine r_put C (k := 39) pf_X9_347 (by decide) (fun _ => rfl) (fun _ => Nat.le_of_ble_eq_true rfl) (fun _ _ => rfl) dX9_drop_17 ?_
    refine r_aload_n C 0 dX9_drop_20 rfl rfl ?_
    refine r_get C (k := 39) (v := .int (z_2)) f_X9_347 (by decide) rfl rfl dX9_drop_21 ?_
    exact r_iret C T dX9_drop_24 (⟨Off.rf.up (by decide), fun j hj => by rw [sUp_eq]; exact if_neg hj, fun h => absurd h c_1, fun _ => ⟨by omega, (show (z_2 : Int32).toInt = _ by omega)⟩⟩)
  · -- to 7
    refine r_bipush C (-3) dX9_drop_7 (by decide) ?_
    exact r_iret C T dX9_drop_9 (⟨Off.rf, fun _ _ => rfl, fun _ => ⟨k_m3, rfl⟩, fun h => absurd c_1 h⟩)
set_option maxHeartbeats 4000000 in
set_option maxRecDepth 100000 in
theorem c_X9_check (E : Ev) (ad : Nat → Nat) (σ : Sg)  (hM : IM σ) : Ct E ad yX9_check cX9_check 3 (some .int) 0 [.ref (ad 39)] σ (fun r τ => τ = σ ∧ (σ 39 40 = 0 → r.toInt = -3)) := by
  have k_m3 : (-3 : Int32).toInt = -3 := by decide
  have k_m1 : (-1 : Int32).toInt = -1 := by decide
  have k_0 : (0 : Int32).toInt = 0 := by decide
  have k_3 : (3 : Int32).toInt = 3 := by decide
  have hJ := hM
  unfold IM at hJ
  obtain ⟨n0, n1, n8, n17, n29, n39, n44, c40, c41, c42, c54, c58⟩ := hJ
  refine ct_of RX9 rfl (by decide +kernel) [(0, .ref (ad 39))] rfl (Nat.le_of_ble_eq_true rfl) (fun G C T => ?_)
  refine r_aload_n C 0 dX9_check_0 rfl rfl ?_
  refine r_get C (k := 39) (v := .int (σ 39 40)) f_X9_343 (by decide) rfl rfl dX9_check_1 ?_
  refine r_if_ne C 10 dX9_check_4 (by decide) (fun c_1 => ?_) (fun c_1 => ?_)
  · -- to 10
    have hc4 := c_1
    refine r_iconst C (0) dX9_check_10 (by decide) ?_
    refine r_istore_n C [(1, .int (0)), (0, .ref (ad 39))] dX9_check_11 rfl (by decide) rfl ?_
    have L_12 : ∀ (n : Nat), ∀ (i : Int32), (0 ≤ i.toInt ∧ i.toInt ≤ 28) → 28 - i.toInt < (n : Int) → At E ad G 3 12 [(1, .int (i)), (0, .ref (ad 39))] [] σ := by
      intro n
      induction n with
      | zero =>
        intro i hi hm
        exact absurd hm (by omega)
      | succ n ih =>
        intro i hi hm
        have ih_12 := ih
        clear ih
        refine r_iload_n C 0 dX9_check_12 rfl rfl ?_
        refine r_aload_n C 1 dX9_check_13 rfl rfl ?_
        refine r_get C (k := 39) (v := .int (σ 39 44)) f_X9_347 (by decide) rfl rfl dX9_check_14 ?_
        refine r_icmp_ge C 64 dX9_check_17 (by decide) (fun c_2 => ?_) (fun c_2 => ?_)
        · -- to 64
          refine r_aload_n C 1 dX9_check_64 rfl rfl ?_
          refine r_get C (k := 39) (v := .int (σ 39 44)) f_X9_347 (by decide) rfl rfl dX9_check_65 ?_
          refine r_aload_n C 1 dX9_check_68 rfl rfl ?_
          refine r_get C (k := 39) (v := .int (σ 39 42)) f_X9_340 (by decide) rfl rfl dX9_check_69 ?_
          refine r_icmp_ge C 82 dX9_check_72 (by decide) (fun c_3 => ?_) (fun c_3 => ?_)
          · -- to 82
            refine r_iconst C (-1) dX9_check_82 (by decide) ?_
            exact r_iret C T dX9_check_83 (⟨rfl, fun h => absurd (by rw [h]; rfl) hc4⟩)
          · -- to 75
            refine r_aload_n C 1 dX9_check_75 rfl rfl ?_
            refine r_get C (k := 39) (v := .int (σ 39 44)) f_X9_347 (by decide) rfl rfl dX9_check_76 ?_
            refine r_goto C 83 dX9_check_79 (by decide) ?_
            exact r_iret C T dX9_check_83 (⟨rfl, fun h => absurd (by rw [h]; rfl) hc4⟩)
        · -- to 20
          refine r_iconst C (0) dX9_check_20 (by decide) ?_
          refine r_istore_n C [(2, .int (0)), (1, .int (i)), (0, .ref (ad 39))] dX9_check_21 rfl (by decide) rfl ?_
          have L_22 : ∀ (n : Nat), ∀ (j : Int32), (0 ≤ j.toInt ∧ j.toInt ≤ 3) → 3 - j.toInt < (n : Int) → At E ad G 3 22 [(2, .int (j)), (1, .int (i)), (0, .ref (ad 39))] [] σ := by
            intro n
            induction n with
            | zero =>
              intro j hj hm
              exact absurd hm (by omega)
            | succ n ih =>
              intro j hj hm
              have ih_22 := ih
              clear ih
              refine r_iload_n C 0 dX9_check_22 rfl rfl ?_
              refine r_iconst C (3) dX9_check_23 (by decide) ?_
              refine r_icmp_ge C 58 dX9_check_24 (by decide) (fun c_4 => ?_) (fun c_4 => ?_)
              · -- to 58
                refine r_iinc C 1 (fun z => [(1, .int (z)), (2, .int (j)), (0, .ref (ad 39))]) dX9_check_58 rfl (by decide) (by decide) (by omega) (fun _ => rfl) (fun z_5 hz_6 => ?_)
                refine r_goto C 12 dX9_check_61 (by decide) ?_
                exact At.sub [0, 2] rfl (ih_12 (z_5 : Int32) (by omega) (by omega))
              · -- to 27
                refine r_aload_n C 2 dX9_check_27 rfl rfl ?_
                refine r_get C (k := 39) (v := .ref (ad 69)) f_X9_98 (by decide) rfl rfl dX9_check_28 ?_
                refine r_iconst C (3) dX9_check_31 (by decide) ?_
                refine r_iload_n C 1 dX9_check_32 rfl rfl ?_
                refine r_imul C dX9_check_33 ?_
                refine r_nm (P := fun z => z.toInt = 3 * (i : Int32).toInt ∧ z = (3) * (i)) ⟨ta_mulL k_3 (by omega), rfl⟩ (fun z_7 hz_8 => ?_)
                refine r_iload_n C 0 dX9_check_34 rfl rfl ?_
                refine r_iadd C dX9_check_35 ?_
                refine r_nm (P := fun z => z.toInt = (z_7 : Int32).toInt + (j : Int32).toInt ∧ z = (z_7) + (j)) ⟨ta_add (by omega), rfl⟩ (fun z_9 hz_10 => ?_)
                refine r_iald C (k := 69) (by decide) rfl (by omega) (σ 69 ((z_9 : Int32).toInt.toNat)) rfl dX9_check_36 ?_
                refine r_aload_n C 2 dX9_check_37 rfl rfl ?_
                refine r_get C (k := 39) (v := .ref (ad 68)) f_X9_95 (by decide) rfl rfl dX9_check_38 ?_
                refine r_iconst C (3) dX9_check_41 (by decide) ?_
                refine r_iload_n C 1 dX9_check_42 rfl rfl ?_
                refine r_imul C dX9_check_43 ?_
                refine r_nm (P := fun z => z.toInt = 3 * (i : Int32).toInt ∧ z = (3) * (i)) ⟨ta_mulL k_3 (by omega), rfl⟩ (fun z_12 hz_13 => ?_)
                refine r_iload_n C 0 dX9_check_44 rfl rfl ?_
                refine r_iadd C dX9_check_45 ?_
                refine r_nm (P := fun z => z.toInt = (z_12 : Int32).toInt + (j : Int32).toInt ∧ z = (z_12) + (j)) ⟨ta_add (by omega), rfl⟩ (fun z_14 hz_15 => ?_)
                refine r_iald C (k := 68) (by decide) rfl (by omega) (σ 68 ((z_14 : Int32).toInt.toNat)) rfl dX9_check_46 ?_
                refine r_icmp_eq C 52 dX9_check_47 (by decide) (fun c_17 => ?_) (fun c_17 => ?_)
                · -- to 52
                  refine r_iinc C 0 (fun z => [(2, .int (z)), (1, .int (i)), (0, .ref (ad 39))]) dX9_check_52 rfl (by decide) (by decide) (by omega) (fun _ => rfl) (fun z_18 hz_19 => ?_)
                  refine r_goto C 22 dX9_check_55 (by decide) ?_
                  exact At.sub [0, 1, 2] rfl (ih_22 (z_18 : Int32) (by omega) (by omega))
                · -- to 50
                  refine r_iload_n C 1 dX9_check_50 rfl rfl ?_
                  exact r_iret C T dX9_check_51 (⟨rfl, fun h => absurd (by rw [h]; rfl) hc4⟩)
          exact At.sub [0, 1, 2] rfl (L_22 ((3 - (0 : Int32).toInt).toNat + 1) (0 : Int32) (by omega) (by omega))
    exact At.sub [0, 1] rfl (L_12 ((28 - (0 : Int32).toInt).toNat + 1) (0 : Int32) (by omega) (by omega))
  · -- to 7
    refine r_bipush C (-3) dX9_check_7 (by decide) ?_
    exact r_iret C T dX9_check_9 (⟨rfl, fun _ => k_m3⟩)
set_option maxHeartbeats 4000000 in
set_option maxRecDepth 100000 in
theorem c_X9_permitsThat (E : Ev) (ad : Nat → Nat) (σ : Sg) (p : Int32) (hM : IM σ) : Ct E ad yX9_permitsThat cX9_permitsThat 4 (some .int) 0 [.ref (ad 39), .int p] σ (fun r τ => τ = σ ∧ ((σ 39 17).toInt = 0 → r.toInt = 0)) := by
  have k_0 : (0 : Int32).toInt = 0 := by decide
  have k_1 : (1 : Int32).toInt = 1 := by decide
  have hJ := hM
  unfold IM at hJ
  obtain ⟨n0, n1, n8, n17, n29, n39, n44, c40, c41, c42, c54, c58⟩ := hJ
  refine ct_of RX9 rfl (by decide +kernel) [(0, .ref (ad 39)), (1, .int (p))] rfl (Nat.le_of_ble_eq_true rfl) (fun G C T => ?_)
  refine r_iconst C (0) dX9_permitsThat_0 (by decide) ?_
  refine r_istore_n C [(2, .int (0)), (0, .ref (ad 39)), (1, .int (p))] dX9_permitsThat_1 rfl (by decide) rfl ?_
  refine r_iconst C (0) dX9_permitsThat_2 (by decide) ?_
  refine r_istore_n C [(3, .int (0)), (2, .int (0)), (0, .ref (ad 39)), (1, .int (p))] dX9_permitsThat_3 rfl (by decide) rfl ?_
  have L_4 : ∀ (n : Nat), ∀ (a : Int32) (i : Int32), (0 ≤ i.toInt ∧ i.toInt ≤ 7) → ((σ 39 17).toInt = 0 → a.toInt = 0) → 7 - i.toInt < (n : Int) → At E ad G 4 4 [(3, .int (i)), (2, .int (a)), (0, .ref (ad 39)), (1, .int (p))] [] σ := by
    intro n
    induction n with
    | zero =>
      intro a i hi hf hm
      exact absurd hm (by omega)
    | succ n ih =>
      intro a i hi hf hm
      have ih_4 := ih
      clear ih
      refine r_iload_n C 0 dX9_permitsThat_4 rfl rfl ?_
      refine r_aload_n C 2 dX9_permitsThat_5 rfl rfl ?_
      refine r_get C (k := 39) (v := .int (σ 39 17)) f_X9_113 (by decide) rfl rfl dX9_permitsThat_6 ?_
      refine r_icmp_ge C 36 dX9_permitsThat_9 (by decide) (fun c_1 => ?_) (fun c_1 => ?_)
      · -- to 36
        refine r_iload_n C 1 dX9_permitsThat_36 rfl rfl ?_
        exact r_iret C T dX9_permitsThat_37 (⟨rfl, hf⟩)
      · -- to 12
        refine r_iload_n C 1 dX9_permitsThat_12 rfl rfl ?_
        refine r_aload_n C 2 dX9_permitsThat_13 rfl rfl ?_
        refine r_get C (k := 39) (v := .ref (ad 57)) f_X9_62 (by decide) rfl rfl dX9_permitsThat_14 ?_
        refine r_iload_n C 0 dX9_permitsThat_17 rfl rfl ?_
        refine r_iald C (k := 57) (by decide) rfl (by omega) (σ 57 ((i : Int32).toInt.toNat)) rfl dX9_permitsThat_18 ?_
        refine r_iload_n C 3 dX9_permitsThat_19 rfl rfl ?_
        refine r_icmp_ne C 27 dX9_permitsThat_20 (by decide) (fun c_3 => ?_) (fun c_3 => ?_)
        · -- to 27
          refine r_iconst C (0) dX9_permitsThat_27 (by decide) ?_
          refine r_iadd C dX9_permitsThat_28 ?_
          refine r_nm (P := fun z => z = (a) + (0)) rfl (fun z_4 hz_5 => ?_)
          refine r_istore_n C [(2, .int (z_4)), (3, .int (i)), (0, .ref (ad 39)), (1, .int (p))] dX9_permitsThat_29 rfl (by decide) rfl ?_
          refine r_iinc C 1 (fun z => [(3, .int (z)), (2, .int (z_4)), (0, .ref (ad 39)), (1, .int (p))]) dX9_permitsThat_30 rfl (by decide) (by decide) (by omega) (fun _ => rfl) (fun z_6 hz_7 => ?_)
          refine r_goto C 4 dX9_permitsThat_33 (by decide) ?_
          exact At.sub [0, 1, 2, 3] rfl (ih_4 (z_4 : Int32) (z_6 : Int32) (by omega) (fun h => absurd h (by omega)) (by omega))
        · -- to 23
          refine r_iconst C (1) dX9_permitsThat_23 (by decide) ?_
          refine r_goto C 28 dX9_permitsThat_24 (by decide) ?_
          refine r_iadd C dX9_permitsThat_28 ?_
          refine r_nm (P := fun z => z = (a) + (1)) rfl (fun z_8 hz_9 => ?_)
          refine r_istore_n C [(2, .int (z_8)), (3, .int (i)), (0, .ref (ad 39)), (1, .int (p))] dX9_permitsThat_29 rfl (by decide) rfl ?_
          refine r_iinc C 1 (fun z => [(3, .int (z)), (2, .int (z_8)), (0, .ref (ad 39)), (1, .int (p))]) dX9_permitsThat_30 rfl (by decide) (by decide) (by omega) (fun _ => rfl) (fun z_10 hz_11 => ?_)
          refine r_goto C 4 dX9_permitsThat_33 (by decide) ?_
          exact At.sub [0, 1, 2, 3] rfl (ih_4 (z_8 : Int32) (z_10 : Int32) (by omega) (fun h => absurd h (by omega)) (by omega))
  exact At.sub [0, 1, 2, 3] rfl (L_4 ((7 - (0 : Int32).toInt).toNat + 1) (0 : Int32) (0 : Int32) (by omega) (fun _ => k_0) (by omega))
set_option maxHeartbeats 4000000 in
set_option maxRecDepth 100000 in
theorem c_X9_men (E : Ev) (ad : Nat → Nat) (σ : Sg) (p : Int32)  : Ct E ad yX9_men cX9_men 5 (some .int) 0 [.ref (ad 39), .int p] σ (fun r τ => τ = σ ∧ (p.toInt ≠ 0 → (∀ j, j < 8 → (σ 53 j).toInt = -1) → r.toInt = 0) ∧ (p.toInt = 0 → (∀ j, j < 8 → (σ 52 j).toInt = 0) → r.toInt = 8)) := by
  have k_0 : (0 : Int32).toInt = 0 := by decide
  have k_1 : (1 : Int32).toInt = 1 := by decide
  have k_8 : (8 : Int32).toInt = 8 := by decide
  refine ct_of RX9 rfl (by decide +kernel) [(0, .ref (ad 39)), (1, .int (p))] rfl (Nat.le_of_ble_eq_true rfl) (fun G C T => ?_)
  refine r_iconst C (0) dX9_men_0 (by decide) ?_
  refine r_istore_n C [(2, .int (0)), (0, .ref (ad 39)), (1, .int (p))] dX9_men_1 rfl (by decide) rfl ?_
  refine r_iconst C (0) dX9_men_2 (by decide) ?_
  refine r_istore_n C [(3, .int (0)), (2, .int (0)), (0, .ref (ad 39)), (1, .int (p))] dX9_men_3 rfl (by decide) rfl ?_
  have L_4 : ∀ (n : Nat), ∀ (a : Int32) (i : Int32), (0 ≤ i.toInt ∧ i.toInt ≤ 8) → (0 ≤ a.toInt ∧ a.toInt ≤ i.toInt) → (p.toInt ≠ 0 → (∀ j, j < 8 → (σ 53 j).toInt = -1) → a.toInt = 0) → (p.toInt = 0 → (∀ j, j < 8 → (σ 52 j).toInt = 0) → a.toInt = i.toInt) → 8 - i.toInt < (n : Int) → At E ad G 5 4 [(3, .int (i)), (2, .int (a)), (0, .ref (ad 39)), (1, .int (p))] [] σ := by
    intro n
    induction n with
    | zero =>
      intro a i hi hb h1 h2 hm
      exact absurd hm (by omega)
    | succ n ih =>
      intro a i hi hb h1 h2 hm
      have ih_4 := ih
      clear ih
      refine r_iload_n C 0 dX9_men_4 rfl rfl ?_
      refine r_bipush C (8) dX9_men_5 (by decide) ?_
      refine r_icmp_ge C 66 dX9_men_7 (by decide) (fun c_1 => ?_) (fun c_1 => ?_)
      · -- to 66
        refine r_iload_n C 1 dX9_men_66 rfl rfl ?_
        exact r_iret C T dX9_men_67 (⟨rfl, h1, fun h h3 => by have t := h2 h h3; omega⟩)
      · -- to 10
        have L_45 : ∀ (c : Int32), ((p.toInt ≠ 0 → (∀ j, j < 8 → (σ 53 j).toInt = -1) → c.toInt = 0) ∧ (p.toInt = 0 → (∀ j, j < 8 → (σ 52 j).toInt = 0) → c.toInt ≠ 0)) → At E ad G 5 45 [(3, .int (i)), (2, .int (a)), (0, .ref (ad 39)), (1, .int (p))] [.int (c)] σ := by
          intro c hc
          refine r_istore C [(4, .int (c)), (3, .int (i)), (2, .int (a)), (0, .ref (ad 39)), (1, .int (p))] dX9_men_45 (by decide) rfl ?_
          refine r_iload_n C 2 dX9_men_47 rfl rfl ?_
          refine r_iload C 0 dX9_men_48 rfl ?_
          refine r_if_eq C 57 dX9_men_50 (by decide) (fun c_2 => ?_) (fun c_2 => ?_)
          · -- to 57
            refine r_iconst C (0) dX9_men_57 (by decide) ?_
            refine r_iadd C dX9_men_58 ?_
            refine r_nm (P := fun z => z.toInt = (a : Int32).toInt + (0 : Int32).toInt ∧ z = (a) + (0)) ⟨ta_add (by omega), rfl⟩ (fun z_3 hz_4 => ?_)
            refine r_istore_n C [(2, .int (z_3)), (4, .int (c)), (3, .int (i)), (0, .ref (ad 39)), (1, .int (p))] dX9_men_59 rfl (by decide) rfl ?_
            refine r_iinc C 2 (fun z => [(3, .int (z)), (2, .int (z_3)), (4, .int (c)), (0, .ref (ad 39)), (1, .int (p))]) dX9_men_60 rfl (by decide) (by decide) (by omega) (fun _ => rfl) (fun z_5 hz_6 => ?_)
            refine r_goto C 4 dX9_men_63 (by decide) ?_
            exact At.sub [0, 1, 3, 4] rfl (ih_4 (z_3 : Int32) (z_5 : Int32) (by omega) (by omega) (fun h h3 => by have t := h1 h h3; have t2 := hc.1 h h3; omega) (fun h h3 => by have t := h2 h h3; have t2 := hc.2 h h3; omega) (by omega))
          · -- to 53
            refine r_iconst C (1) dX9_men_53 (by decide) ?_
            refine r_goto C 58 dX9_men_54 (by decide) ?_
            refine r_iadd C dX9_men_58 ?_
            refine r_nm (P := fun z => z.toInt = (a : Int32).toInt + (1 : Int32).toInt ∧ z = (a) + (1)) ⟨ta_add (by omega), rfl⟩ (fun z_7 hz_8 => ?_)
            refine r_istore_n C [(2, .int (z_7)), (4, .int (c)), (3, .int (i)), (0, .ref (ad 39)), (1, .int (p))] dX9_men_59 rfl (by decide) rfl ?_
            refine r_iinc C 2 (fun z => [(3, .int (z)), (2, .int (z_7)), (4, .int (c)), (0, .ref (ad 39)), (1, .int (p))]) dX9_men_60 rfl (by decide) (by decide) (by omega) (fun _ => rfl) (fun z_9 hz_10 => ?_)
            refine r_goto C 4 dX9_men_63 (by decide) ?_
            exact At.sub [0, 1, 3, 4] rfl (ih_4 (z_7 : Int32) (z_9 : Int32) (by omega) (by omega) (fun h h3 => by have t := h1 h h3; have t2 := hc.1 h h3; omega) (fun h h3 => by have t := h2 h h3; have t2 := hc.2 h h3; omega) (by omega))
        refine r_iload_n C 3 dX9_men_10 rfl rfl ?_
        refine r_if_eq C 31 dX9_men_11 (by decide) (fun c_11 => ?_) (fun c_11 => ?_)
        · -- to 31
          refine r_aload_n C 2 dX9_men_31 rfl rfl ?_
          refine r_get C (k := 39) (v := .ref (ad 52)) f_X9_47 (by decide) rfl rfl dX9_men_32 ?_
          refine r_iload_n C 0 dX9_men_35 rfl rfl ?_
          refine r_zald C (k := 52) (by decide) rfl (by omega) (σ 52 ((i : Int32).toInt.toNat)) rfl dX9_men_36 ?_
          refine r_if_ne C 44 dX9_men_37 (by decide) (fun c_13 => ?_) (fun c_13 => ?_)
          · -- to 44
            refine r_iconst C (0) dX9_men_44 (by decide) ?_
            exact At.sub [0, 1, 2, 3] rfl (L_45 (0 : Int32) ⟨fun h => absurd h (by omega), fun h h3 => by have t := h3 (i : Int32).toInt.toNat (by omega); omega⟩)
          · -- to 40
            refine r_iconst C (1) dX9_men_40 (by decide) ?_
            refine r_goto C 45 dX9_men_41 (by decide) ?_
            exact At.sub [0, 1, 2, 3] rfl (L_45 (1 : Int32) ⟨fun h => absurd h (by omega), fun _ _ => by omega⟩)
        · -- to 14
          refine r_aload_n C 2 dX9_men_14 rfl rfl ?_
          refine r_get C (k := 39) (v := .ref (ad 53)) f_X9_50 (by decide) rfl rfl dX9_men_15 ?_
          refine r_iload_n C 0 dX9_men_18 rfl rfl ?_
          refine r_iald C (k := 53) (by decide) rfl (by omega) (σ 53 ((i : Int32).toInt.toNat)) rfl dX9_men_19 ?_
          refine r_if_lt C 27 dX9_men_20 (by decide) (fun c_15 => ?_) (fun c_15 => ?_)
          · -- to 27
            refine r_iconst C (0) dX9_men_27 (by decide) ?_
            refine r_goto C 45 dX9_men_28 (by decide) ?_
            exact At.sub [0, 1, 2, 3] rfl (L_45 (0 : Int32) ⟨fun _ _ => k_0, fun h => absurd h (by omega)⟩)
          · -- to 23
            refine r_iconst C (1) dX9_men_23 (by decide) ?_
            refine r_goto C 45 dX9_men_24 (by decide) ?_
            exact At.sub [0, 1, 2, 3] rfl (L_45 (1 : Int32) ⟨fun h h3 => by have t := h3 (i : Int32).toInt.toNat (by omega); omega, fun h => absurd h (by omega)⟩)
  exact At.sub [0, 1, 2, 3] rfl (L_4 ((8 - (0 : Int32).toInt).toNat + 1) (0 : Int32) (0 : Int32) (by omega) (by omega) (fun _ _ => k_0) (fun _ _ => rfl) (by omega))
set_option maxHeartbeats 4000000 in
set_option maxRecDepth 100000 in
theorem c_X9_allLocks (E : Ev) (ad : Nat → Nat) (σ : Sg)  (hM : IM σ) : Ct E ad yX9_allLocks cX9_allLocks 3 (some .int) 3 [.ref (ad 39)] σ (fun r τ => τ = σ ∧ ((σ 39 1).toInt = 0 → r.toInt = 0)) := by
  have k_0 : (0 : Int32).toInt = 0 := by decide
  have hJ := hM
  unfold IM at hJ
  obtain ⟨n0, n1, n8, n17, n29, n39, n44, c40, c41, c42, c54, c58⟩ := hJ
  refine ct_of RX9 rfl (by decide +kernel) [(0, .ref (ad 39))] rfl (Nat.le_of_ble_eq_true rfl) (fun G C T => ?_)
  refine r_iconst C (0) dX9_allLocks_0 (by decide) ?_
  refine r_istore_n C [(1, .int (0)), (0, .ref (ad 39))] dX9_allLocks_1 rfl (by decide) rfl ?_
  refine r_iconst C (0) dX9_allLocks_2 (by decide) ?_
  refine r_istore_n C [(2, .int (0)), (1, .int (0)), (0, .ref (ad 39))] dX9_allLocks_3 rfl (by decide) rfl ?_
  have L_4 : ∀ (n : Nat), ∀ (a : Int32) (i : Int32), (0 ≤ i.toInt ∧ i.toInt ≤ 12) → ((σ 39 1).toInt = 0 → a.toInt = 0) → 12 - i.toInt < (n : Int) → At E ad G 3 4 [(2, .int (i)), (1, .int (a)), (0, .ref (ad 39))] [] σ := by
    intro n
    induction n with
    | zero =>
      intro a i hi hf hm
      exact absurd hm (by omega)
    | succ n ih =>
      intro a i hi hf hm
      have ih_4 := ih
      clear ih
      refine r_iload_n C 0 dX9_allLocks_4 rfl rfl ?_
      refine r_aload_n C 2 dX9_allLocks_5 rfl rfl ?_
      refine r_get C (k := 39) (v := .int (σ 39 1)) f_X9_101 (by decide) rfl rfl dX9_allLocks_6 ?_
      refine r_icmp_ge C 26 dX9_allLocks_9 (by decide) (fun c_1 => ?_) (fun c_1 => ?_)
      · -- to 26
        refine r_iload_n C 1 dX9_allLocks_26 rfl rfl ?_
        exact r_iret C T dX9_allLocks_27 (⟨rfl, hf⟩)
      · -- to 12
        refine r_iload_n C 1 dX9_allLocks_12 rfl rfl ?_
        refine r_aload_n C 2 dX9_allLocks_13 rfl rfl ?_
        refine r_iload_n C 0 dX9_allLocks_14 rfl rfl ?_
        refine r_callV C (k := 39) [.int (i)] [.int (a)] (c_X9_locks E ad σ  (i) hM) lv_X9_129 (by decide) rfl rfl (by decide) (by decide) rfl rfl (Nat.le_of_ble_eq_true rfl) dX9_allLocks_15 (fun r_2 τ_3 h_4 => ?_)
        obtain ⟨eh_4, h_4⟩ := h_4
        obtain rfl := eh_4.symm
        refine r_iadd C dX9_allLocks_18 ?_
        refine r_nm (P := fun z => z = (a) + (r_2)) rfl (fun z_5 hz_6 => ?_)
        refine r_istore_n C [(1, .int (z_5)), (2, .int (i)), (0, .ref (ad 39))] dX9_allLocks_19 rfl (by decide) rfl ?_
        refine r_iinc C 1 (fun z => [(2, .int (z)), (1, .int (z_5)), (0, .ref (ad 39))]) dX9_allLocks_20 rfl (by decide) (by decide) (by omega) (fun _ => rfl) (fun z_7 hz_8 => ?_)
        refine r_goto C 4 dX9_allLocks_23 (by decide) ?_
        exact At.sub [0, 1, 2] rfl (ih_4 (z_5 : Int32) (z_7 : Int32) (by omega) (fun h => absurd h (by omega)) (by omega))
  exact At.sub [0, 1, 2] rfl (L_4 ((12 - (0 : Int32).toInt).toNat + 1) (0 : Int32) (0 : Int32) (by omega) (fun _ => k_0) (by omega))
set_option maxHeartbeats 4000000 in
set_option maxRecDepth 100000 in
theorem c_X9_many (E : Ev) (ad : Nat → Nat) (σ : Sg) (p : Int32) (hM : IM σ) : Ct E ad yX9_many cX9_many 2 (some .int) 4 [.ref (ad 39), .int p] σ (fun r τ => τ = σ ∧ (¬ (0 ≤ p.toInt ∧ p.toInt ≤ 10) → r.toInt = -1) ∧ ((σ 39 0).toInt = 0 → (σ 39 1).toInt = 0 → (σ 39 8).toInt = 0 → (σ 39 17).toInt = 0 → (∀ j, j < 8 → (σ 53 j).toInt = -1) → (∀ j, j < 8 → (σ 52 j).toInt = 0) → (σ 39 29).toInt = 0 → (σ 39 44).toInt = 0 → (p.toInt = 7 → r.toInt = 8) ∧ (0 ≤ p.toInt ∧ p.toInt ≤ 10 → p.toInt ≠ 7 → r.toInt = 0))) := by
  have k_m1 : (-1 : Int32).toInt = -1 := by decide
  have k_0 : (0 : Int32).toInt = 0 := by decide
  have k_1 : (1 : Int32).toInt = 1 := by decide
  have k_3 : (3 : Int32).toInt = 3 := by decide
  have hJ := hM
  unfold IM at hJ
  obtain ⟨n0, n1, n8, n17, n29, n39, n44, c40, c41, c42, c54, c58⟩ := hJ
  refine ct_of RX9 rfl (by decide +kernel) [(0, .ref (ad 39)), (1, .int (p))] rfl (Nat.le_of_ble_eq_true rfl) (fun G C T => ?_)
  refine r_iload_n C 1 dX9_many_0 rfl rfl ?_
  rcases (show ((p : Int32).toInt < 0 ∨ 10 < (p : Int32).toInt) ∨ (p : Int32).toInt = 0 ∨ (p : Int32).toInt = 1 ∨ (p : Int32).toInt = 2 ∨ (p : Int32).toInt = 3 ∨ (p : Int32).toInt = 4 ∨ (p : Int32).toInt = 5 ∨ (p : Int32).toInt = 6 ∨ (p : Int32).toInt = 7 ∨ (p : Int32).toInt = 8 ∨ (p : Int32).toInt = 9 ∨ (p : Int32).toInt = 10 by omega) with sw_1 | sw_1 | sw_1 | sw_1 | sw_1 | sw_1 | sw_1 | sw_1 | sw_1 | sw_1 | sw_1 | sw_1
  · -- case None
    refine r_tblOut C 121 dX9_many_1 sw_1 (by decide) ?_
    refine r_iconst C (-1) dX9_many_121 (by decide) ?_
    exact r_iret C T dX9_many_122 (⟨rfl, fun _ => k_m1, fun f0 f1 f2 f3 f4 f5 f6 f7 => ⟨fun h => absurd h (by omega), fun h => absurd h (by omega)⟩⟩)
  · -- case 0
    refine r_tblIn C (0) 60 dX9_many_1 sw_1 (by decide) (by decide) rfl (by decide) ?_
    refine r_aload_n C 0 dX9_many_60 rfl rfl ?_
    refine r_get C (k := 39) (v := .int (σ 39 0)) f_X9_119 (by decide) rfl rfl dX9_many_61 ?_
    exact r_iret C T dX9_many_64 (⟨rfl, fun h => absurd h (by omega), fun f0 f1 f2 f3 f4 f5 f6 f7 => ⟨fun h => absurd h (by omega), fun _ _ => f0⟩⟩)
  · -- case 1
    refine r_tblIn C (1) 65 dX9_many_1 sw_1 (by decide) (by decide) rfl (by decide) ?_
    refine r_aload_n C 0 dX9_many_65 rfl rfl ?_
    refine r_get C (k := 39) (v := .int (σ 39 1)) f_X9_101 (by decide) rfl rfl dX9_many_66 ?_
    exact r_iret C T dX9_many_69 (⟨rfl, fun h => absurd h (by omega), fun f0 f1 f2 f3 f4 f5 f6 f7 => ⟨fun h => absurd h (by omega), fun _ _ => f1⟩⟩)
  · -- case 2
    refine r_tblIn C (2) 70 dX9_many_1 sw_1 (by decide) (by decide) rfl (by decide) ?_
    refine r_aload_n C 0 dX9_many_70 rfl rfl ?_
    refine r_get C (k := 39) (v := .int (σ 39 8)) f_X9_140 (by decide) rfl rfl dX9_many_71 ?_
    exact r_iret C T dX9_many_74 (⟨rfl, fun h => absurd h (by omega), fun f0 f1 f2 f3 f4 f5 f6 f7 => ⟨fun h => absurd h (by omega), fun _ _ => f2⟩⟩)
  · -- case 3
    refine r_tblIn C (3) 75 dX9_many_1 sw_1 (by decide) (by decide) rfl (by decide) ?_
    refine r_aload_n C 0 dX9_many_75 rfl rfl ?_
    refine r_get C (k := 39) (v := .int (σ 39 17)) f_X9_113 (by decide) rfl rfl dX9_many_76 ?_
    exact r_iret C T dX9_many_79 (⟨rfl, fun h => absurd h (by omega), fun f0 f1 f2 f3 f4 f5 f6 f7 => ⟨fun h => absurd h (by omega), fun _ _ => f3⟩⟩)
  · -- case 4
    refine r_tblIn C (4) 80 dX9_many_1 sw_1 (by decide) (by decide) rfl (by decide) ?_
    refine r_aload_n C 0 dX9_many_80 rfl rfl ?_
    refine r_iconst C (3) dX9_many_81 (by decide) ?_
    refine r_callV C (k := 39) [.int (3)] [] (c_X9_permitsThat E ad σ  (3) hM) lv_X9_350 (by decide) rfl rfl (by decide) (by decide) rfl rfl (Nat.le_of_ble_eq_true rfl) dX9_many_82 (fun r_2 τ_3 h_4 => ?_)
    obtain ⟨eh_4, h_4⟩ := h_4
    obtain rfl := eh_4.symm
    exact r_iret C T dX9_many_85 (⟨rfl, fun h => absurd h (by omega), fun f0 f1 f2 f3 f4 f5 f6 f7 => ⟨fun h => absurd h (by omega), fun _ _ => (h_4 f3)⟩⟩)
  · -- case 5
    refine r_tblIn C (5) 86 dX9_many_1 sw_1 (by decide) (by decide) rfl (by decide) ?_
    refine r_aload_n C 0 dX9_many_86 rfl rfl ?_
    refine r_callV C (k := 39) [] [] (c_X9_closedNow E ad σ   hM) lv_X9_133 (by decide) rfl rfl (by decide) (by decide) rfl rfl (Nat.le_of_ble_eq_true rfl) dX9_many_87 (fun r_5 τ_6 h_7 => ?_)
    obtain ⟨eh_7, h_7⟩ := h_7
    obtain rfl := eh_7.symm
    refine r_callS C [.int (r_5)] [] (c_X9_ones E ad σ  (r_5) ) ls_X9_303 (by decide) (by decide) rfl rfl (Nat.le_of_ble_eq_true rfl) dX9_many_90 (fun r_8 τ_9 h_10 => ?_)
    obtain ⟨eh_10, h_10⟩ := h_10
    obtain rfl := eh_10.symm
    exact r_iret C T dX9_many_93 (⟨rfl, fun h => absurd h (by omega), fun f0 f1 f2 f3 f4 f5 f6 f7 => ⟨fun h => absurd h (by omega), fun _ _ => (h_10.2 (h_7 f1))⟩⟩)
  · -- case 6
    refine r_tblIn C (6) 94 dX9_many_1 sw_1 (by decide) (by decide) rfl (by decide) ?_
    refine r_aload_n C 0 dX9_many_94 rfl rfl ?_
    refine r_iconst C (1) dX9_many_95 (by decide) ?_
    refine r_callV C (k := 39) [.int (1)] [] (c_X9_men E ad σ  (1) ) lv_X9_353 (by decide) rfl rfl (by decide) (by decide) rfl rfl (Nat.le_of_ble_eq_true rfl) dX9_many_96 (fun r_11 τ_12 h_13 => ?_)
    obtain ⟨eh_13, h_13⟩ := h_13
    obtain rfl := eh_13.symm
    exact r_iret C T dX9_many_99 (⟨rfl, fun h => absurd h (by omega), fun f0 f1 f2 f3 f4 f5 f6 f7 => ⟨fun h => absurd h (by omega), fun _ _ => (h_13.1 (by omega) f4)⟩⟩)
  · -- case 7
    refine r_tblIn C (7) 100 dX9_many_1 sw_1 (by decide) (by decide) rfl (by decide) ?_
    refine r_aload_n C 0 dX9_many_100 rfl rfl ?_
    refine r_iconst C (0) dX9_many_101 (by decide) ?_
    refine r_callV C (k := 39) [.int (0)] [] (c_X9_men E ad σ  (0) ) lv_X9_353 (by decide) rfl rfl (by decide) (by decide) rfl rfl (Nat.le_of_ble_eq_true rfl) dX9_many_102 (fun r_14 τ_15 h_16 => ?_)
    obtain ⟨eh_16, h_16⟩ := h_16
    obtain rfl := eh_16.symm
    exact r_iret C T dX9_many_105 (⟨rfl, fun h => absurd h (by omega), fun f0 f1 f2 f3 f4 f5 f6 f7 => ⟨fun _ => h_16.2 (by omega) f5, fun _ h => absurd sw_1 h⟩⟩)
  · -- case 8
    refine r_tblIn C (8) 106 dX9_many_1 sw_1 (by decide) (by decide) rfl (by decide) ?_
    refine r_aload_n C 0 dX9_many_106 rfl rfl ?_
    refine r_get C (k := 39) (v := .int (σ 39 29)) f_X9_168 (by decide) rfl rfl dX9_many_107 ?_
    exact r_iret C T dX9_many_110 (⟨rfl, fun h => absurd h (by omega), fun f0 f1 f2 f3 f4 f5 f6 f7 => ⟨fun h => absurd h (by omega), fun _ _ => f6⟩⟩)
  · -- case 9
    refine r_tblIn C (9) 111 dX9_many_1 sw_1 (by decide) (by decide) rfl (by decide) ?_
    refine r_aload_n C 0 dX9_many_111 rfl rfl ?_
    refine r_get C (k := 39) (v := .int (σ 39 44)) f_X9_347 (by decide) rfl rfl dX9_many_112 ?_
    exact r_iret C T dX9_many_115 (⟨rfl, fun h => absurd h (by omega), fun f0 f1 f2 f3 f4 f5 f6 f7 => ⟨fun h => absurd h (by omega), fun _ _ => f7⟩⟩)
  · -- case 10
    refine r_tblIn C (10) 116 dX9_many_1 sw_1 (by decide) (by decide) rfl (by decide) ?_
    refine r_aload_n C 0 dX9_many_116 rfl rfl ?_
    refine r_callV C (k := 39) [] [] (c_X9_allLocks E ad σ   hM) lv_X9_357 (by decide) rfl rfl (by decide) (by decide) rfl rfl (Nat.le_of_ble_eq_true rfl) dX9_many_117 (fun r_17 τ_18 h_19 => ?_)
    obtain ⟨eh_19, h_19⟩ := h_19
    obtain rfl := eh_19.symm
    exact r_iret C T dX9_many_120 (⟨rfl, fun h => absurd h (by omega), fun f0 f1 f2 f3 f4 f5 f6 f7 => ⟨fun h => absurd h (by omega), fun _ _ => (h_19 f1)⟩⟩)
