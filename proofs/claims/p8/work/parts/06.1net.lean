set_option maxHeartbeats 4000000 in
set_option maxRecDepth 100000 in
theorem c_J6_bitCount_0f7a4 (E : Ev) (ad : Nat → Nat) (σ : Sg) (p : Int32)  : Ct E ad yJ6_bitCount_0f7a4 cJ6_bitCount_0f7a4 1 (some .int) 0 [.int p] σ (fun r τ => τ = σ ∧ r = bcF p ∧ 0 ≤ r.toInt ∧ r.toInt ≤ 63) := by
  have k_1 : (1 : Int32).toInt = 1 := by decide
  have k_2 : (2 : Int32).toInt = 2 := by decide
  have k_4 : (4 : Int32).toInt = 4 := by decide
  have k_8 : (8 : Int32).toInt = 8 := by decide
  have k_16 : (16 : Int32).toInt = 16 := by decide
  have k_63 : (63 : Int32).toInt = 63 := by decide
  refine ct_of RJ6 rfl (by decide +kernel) [(0, .int (p))] rfl (Nat.le_of_ble_eq_true rfl) (fun G C T => ?_)
  refine r_iload_n C 0 dJ6_bitCount_0f7a4_0 rfl rfl ?_
  refine r_iload_n C 0 dJ6_bitCount_0f7a4_1 rfl rfl ?_
  refine r_iconst C (1) dJ6_bitCount_0f7a4_2 (by decide) ?_
  refine r_iushr C dJ6_bitCount_0f7a4_3 ?_
  refine r_nm (P := fun z => z = ((p : Int32).toUInt32 >>> ((1 : Int32).toUInt32 &&& Int32.toUInt32 31)).toInt32) rfl (fun z_1 hz_2 => ?_)
  refine r_ldcw C (1431655765) kc_J6_265 dJ6_bitCount_0f7a4_4 ?_
  refine r_iand C dJ6_bitCount_0f7a4_7 ?_
  refine r_nm (P := fun z => z = (z_1 : Int32) &&& (1431655765)) rfl (fun z_3 hz_4 => ?_)
  refine r_isub C dJ6_bitCount_0f7a4_8 ?_
  refine r_nm (P := fun z => z = (p) - (z_3)) rfl (fun z_5 hz_6 => ?_)
  refine r_istore_n C [(0, .int (z_5))] dJ6_bitCount_0f7a4_9 rfl (by decide) rfl ?_
  refine r_iload_n C 0 dJ6_bitCount_0f7a4_10 rfl rfl ?_
  refine r_ldcw C (858993459) kc_J6_266 dJ6_bitCount_0f7a4_11 ?_
  refine r_iand C dJ6_bitCount_0f7a4_14 ?_
  refine r_nm (P := fun z => z = (z_5 : Int32) &&& (858993459)) rfl (fun z_7 hz_8 => ?_)
  refine r_iload_n C 0 dJ6_bitCount_0f7a4_15 rfl rfl ?_
  refine r_iconst C (2) dJ6_bitCount_0f7a4_16 (by decide) ?_
  refine r_iushr C dJ6_bitCount_0f7a4_17 ?_
  refine r_nm (P := fun z => z = ((z_5 : Int32).toUInt32 >>> ((2 : Int32).toUInt32 &&& Int32.toUInt32 31)).toInt32) rfl (fun z_9 hz_10 => ?_)
  refine r_ldcw C (858993459) kc_J6_266 dJ6_bitCount_0f7a4_18 ?_
  refine r_iand C dJ6_bitCount_0f7a4_21 ?_
  refine r_nm (P := fun z => z = (z_9 : Int32) &&& (858993459)) rfl (fun z_11 hz_12 => ?_)
  refine r_iadd C dJ6_bitCount_0f7a4_22 ?_
  refine r_nm (P := fun z => z = (z_7) + (z_11)) rfl (fun z_13 hz_14 => ?_)
  refine r_istore_n C [(0, .int (z_13))] dJ6_bitCount_0f7a4_23 rfl (by decide) rfl ?_
  refine r_iload_n C 0 dJ6_bitCount_0f7a4_24 rfl rfl ?_
  refine r_iload_n C 0 dJ6_bitCount_0f7a4_25 rfl rfl ?_
  refine r_iconst C (4) dJ6_bitCount_0f7a4_26 (by decide) ?_
  refine r_iushr C dJ6_bitCount_0f7a4_27 ?_
  refine r_nm (P := fun z => z = ((z_13 : Int32).toUInt32 >>> ((4 : Int32).toUInt32 &&& Int32.toUInt32 31)).toInt32) rfl (fun z_15 hz_16 => ?_)
  refine r_iadd C dJ6_bitCount_0f7a4_28 ?_
  refine r_nm (P := fun z => z = (z_13) + (z_15)) rfl (fun z_17 hz_18 => ?_)
  refine r_ldcw C (252645135) kc_J6_267 dJ6_bitCount_0f7a4_29 ?_
  refine r_iand C dJ6_bitCount_0f7a4_32 ?_
  refine r_nm (P := fun z => z = (z_17 : Int32) &&& (252645135)) rfl (fun z_19 hz_20 => ?_)
  refine r_istore_n C [(0, .int (z_19))] dJ6_bitCount_0f7a4_33 rfl (by decide) rfl ?_
  refine r_iload_n C 0 dJ6_bitCount_0f7a4_34 rfl rfl ?_
  refine r_iload_n C 0 dJ6_bitCount_0f7a4_35 rfl rfl ?_
  refine r_bipush C (8) dJ6_bitCount_0f7a4_36 (by decide) ?_
  refine r_iushr C dJ6_bitCount_0f7a4_38 ?_
  refine r_nm (P := fun z => z = ((z_19 : Int32).toUInt32 >>> ((8 : Int32).toUInt32 &&& Int32.toUInt32 31)).toInt32) rfl (fun z_21 hz_22 => ?_)
  refine r_iadd C dJ6_bitCount_0f7a4_39 ?_
  refine r_nm (P := fun z => z = (z_19) + (z_21)) rfl (fun z_23 hz_24 => ?_)
  refine r_istore_n C [(0, .int (z_23))] dJ6_bitCount_0f7a4_40 rfl (by decide) rfl ?_
  refine r_iload_n C 0 dJ6_bitCount_0f7a4_41 rfl rfl ?_
  refine r_iload_n C 0 dJ6_bitCount_0f7a4_42 rfl rfl ?_
  refine r_bipush C (16) dJ6_bitCount_0f7a4_43 (by decide) ?_
  refine r_iushr C dJ6_bitCount_0f7a4_45 ?_
  refine r_nm (P := fun z => z = ((z_23 : Int32).toUInt32 >>> ((16 : Int32).toUInt32 &&& Int32.toUInt32 31)).toInt32) rfl (fun z_25 hz_26 => ?_)
  refine r_iadd C dJ6_bitCount_0f7a4_46 ?_
  refine r_nm (P := fun z => z = (z_23) + (z_25)) rfl (fun z_27 hz_28 => ?_)
  refine r_istore_n C [(0, .int (z_27))] dJ6_bitCount_0f7a4_47 rfl (by decide) rfl ?_
  refine r_iload_n C 0 dJ6_bitCount_0f7a4_48 rfl rfl ?_
  refine r_bipush C (63) dJ6_bitCount_0f7a4_49 (by decide) ?_
  refine r_iand C dJ6_bitCount_0f7a4_51 ?_
  refine r_nm (P := fun z => z = (z_27 : Int32) &&& (63)) rfl (fun z_29 hz_30 => ?_)
  exact r_iret C T dJ6_bitCount_0f7a4_52 (⟨rfl, by subst_vars; rfl, by rw [hz_30]; exact and63 _⟩)
set_option maxHeartbeats 4000000 in
set_option maxRecDepth 100000 in
theorem c_X8_isPlace (E : Ev) (ad : Nat → Nat) (σ : Sg) (p : Int32)  : Ct E ad yX8_isPlace cX8_isPlace 1 (some .boolean) 0 [.int p] σ (fun r τ => τ = σ ∧ ((r.toInt = 1 ∧ 0 ≤ p.toInt ∧ p.toInt < 10) ∨ (r.toInt = 0 ∧ ¬ (0 ≤ p.toInt ∧ p.toInt < 10)))) := by
  have k_0 : (0 : Int32).toInt = 0 := by decide
  have k_1 : (1 : Int32).toInt = 1 := by decide
  have k_10 : (10 : Int32).toInt = 10 := by decide
  refine ct_of RX8 rfl (by decide +kernel) [(0, .int (p))] rfl (Nat.le_of_ble_eq_true rfl) (fun G C T => ?_)
  refine r_iload_n C 0 dX8_isPlace_0 rfl rfl ?_
  refine r_if_lt C 14 dX8_isPlace_1 (by decide) (fun c_1 => ?_) (fun c_1 => ?_)
  · -- to 14
    refine r_iconst C (0) dX8_isPlace_14 (by decide) ?_
    exact r_zret C T dX8_isPlace_15 (by omega) (⟨rfl, by omega⟩)
  · -- to 4
    refine r_iload_n C 0 dX8_isPlace_4 rfl rfl ?_
    refine r_bipush C (10) dX8_isPlace_5 (by decide) ?_
    refine r_icmp_ge C 14 dX8_isPlace_7 (by decide) (fun c_2 => ?_) (fun c_2 => ?_)
    · -- to 14
      refine r_iconst C (0) dX8_isPlace_14 (by decide) ?_
      exact r_zret C T dX8_isPlace_15 (by omega) (⟨rfl, by omega⟩)
    · -- to 10
      refine r_iconst C (1) dX8_isPlace_10 (by decide) ?_
      refine r_goto C 15 dX8_isPlace_11 (by decide) ?_
      exact r_zret C T dX8_isPlace_15 (by omega) (⟨rfl, by omega⟩)
set_option maxHeartbeats 4000000 in
set_option maxRecDepth 100000 in
theorem c_X8_isMan (E : Ev) (ad : Nat → Nat) (σ : Sg) (p : Int32)  : Ct E ad yX8_isMan cX8_isMan 1 (some .boolean) 0 [.int p] σ (fun r τ => τ = σ ∧ ((r.toInt = 1 ∧ 0 ≤ p.toInt ∧ p.toInt < 8) ∨ (r.toInt = 0 ∧ ¬ (0 ≤ p.toInt ∧ p.toInt < 8)))) := by
  have k_0 : (0 : Int32).toInt = 0 := by decide
  have k_1 : (1 : Int32).toInt = 1 := by decide
  have k_8 : (8 : Int32).toInt = 8 := by decide
  refine ct_of RX8 rfl (by decide +kernel) [(0, .int (p))] rfl (Nat.le_of_ble_eq_true rfl) (fun G C T => ?_)
  refine r_iload_n C 0 dX8_isMan_0 rfl rfl ?_
  refine r_if_lt C 14 dX8_isMan_1 (by decide) (fun c_1 => ?_) (fun c_1 => ?_)
  · -- to 14
    refine r_iconst C (0) dX8_isMan_14 (by decide) ?_
    exact r_zret C T dX8_isMan_15 (by omega) (⟨rfl, by omega⟩)
  · -- to 4
    refine r_iload_n C 0 dX8_isMan_4 rfl rfl ?_
    refine r_bipush C (8) dX8_isMan_5 (by decide) ?_
    refine r_icmp_ge C 14 dX8_isMan_7 (by decide) (fun c_2 => ?_) (fun c_2 => ?_)
    · -- to 14
      refine r_iconst C (0) dX8_isMan_14 (by decide) ?_
      exact r_zret C T dX8_isMan_15 (by omega) (⟨rfl, by omega⟩)
    · -- to 10
      refine r_iconst C (1) dX8_isMan_10 (by decide) ?_
      refine r_goto C 15 dX8_isMan_11 (by decide) ?_
      exact r_zret C T dX8_isMan_15 (by omega) (⟨rfl, by omega⟩)
set_option maxHeartbeats 4000000 in
set_option maxRecDepth 100000 in
theorem c_X2_has (E : Ev) (ad : Nat → Nat) (σ : Sg) (p : Int32)  : Ct E ad yX2_has cX2_has 2 (some .boolean) 0 [.ref (ad 2), .int p] σ (fun r τ => τ = σ ∧ ((r.toInt = 1 ∧ 0 ≤ p.toInt ∧ p.toInt < (σ 2 6).toInt) ∨ (r.toInt = 0 ∧ ¬ (0 ≤ p.toInt ∧ p.toInt < (σ 2 6).toInt)))) := by
  have k_0 : (0 : Int32).toInt = 0 := by decide
  have k_1 : (1 : Int32).toInt = 1 := by decide
  refine ct_of RX2 rfl (by decide +kernel) [(0, .ref (ad 2)), (1, .int (p))] rfl (Nat.le_of_ble_eq_true rfl) (fun G C T => ?_)
  refine r_iload_n C 1 dX2_has_0 rfl rfl ?_
  refine r_if_lt C 16 dX2_has_1 (by decide) (fun c_1 => ?_) (fun c_1 => ?_)
  · -- to 16
    refine r_iconst C (0) dX2_has_16 (by decide) ?_
    exact r_zret C T dX2_has_17 (by omega) (⟨rfl, by omega⟩)
  · -- to 4
    refine r_iload_n C 1 dX2_has_4 rfl rfl ?_
    refine r_aload_n C 0 dX2_has_5 rfl rfl ?_
    refine r_get C (k := 2) (v := .int (σ 2 6)) f_X2_30 (by decide) rfl rfl dX2_has_6 ?_
    refine r_icmp_ge C 16 dX2_has_9 (by decide) (fun c_2 => ?_) (fun c_2 => ?_)
    · -- to 16
      refine r_iconst C (0) dX2_has_16 (by decide) ?_
      exact r_zret C T dX2_has_17 (by omega) (⟨rfl, by omega⟩)
    · -- to 12
      refine r_iconst C (1) dX2_has_12 (by decide) ?_
      refine r_goto C 17 dX2_has_13 (by decide) ?_
      exact r_zret C T dX2_has_17 (by omega) (⟨rfl, by omega⟩)
set_option maxHeartbeats 4000000 in
set_option maxRecDepth 100000 in
theorem c_X2_hasFitting (E : Ev) (ad : Nat → Nat) (σ : Sg) (p : Int32) (hI : IC σ) : Ct E ad yX2_hasFitting cX2_hasFitting 2 (some .boolean) 1 [.ref (ad 2), .int p] σ (fun r τ => τ = σ ∧ ((r.toInt = 1 ∧ 0 ≤ p.toInt ∧ p.toInt < (σ 2 6).toInt ∧ (σ 6 p.toInt.toNat).toInt ≠ 2) ∨ (r.toInt = 0 ∧ ¬ (0 ≤ p.toInt ∧ p.toInt < (σ 2 6).toInt ∧ (σ 6 p.toInt.toNat).toInt ≠ 2)))) := by
  have k_0 : (0 : Int32).toInt = 0 := by decide
  have k_1 : (1 : Int32).toInt = 1 := by decide
  have k_2 : (2 : Int32).toInt = 2 := by decide
  have hJ := hI
  unfold IC at hJ
  refine ct_of RX2 rfl (by decide +kernel) [(0, .ref (ad 2)), (1, .int (p))] rfl (Nat.le_of_ble_eq_true rfl) (fun G C T => ?_)
  refine r_aload_n C 0 dX2_hasFitting_0 rfl rfl ?_
  refine r_iload_n C 1 dX2_hasFitting_1 rfl rfl ?_
  refine r_callV C (k := 2) [.int (p)] [] (c_X2_has E ad σ  (p) ) lv_X2_43 (by decide) rfl rfl (by decide) (by decide) rfl rfl (Nat.le_of_ble_eq_true rfl) dX2_hasFitting_2 (fun r_1 τ_2 h_3 => ?_)
  obtain ⟨eh_3, h_3⟩ := h_3
  obtain rfl := eh_3.symm
  refine r_if_eq C 22 dX2_hasFitting_5 (by decide) (fun c_4 => ?_) (fun c_4 => ?_)
  · -- to 22
    refine r_iconst C (0) dX2_hasFitting_22 (by decide) ?_
    exact r_zret C T dX2_hasFitting_23 (by omega) (⟨rfl, by omega⟩)
  · -- to 8
    refine r_aload_n C 0 dX2_hasFitting_8 rfl rfl ?_
    refine r_get C (k := 2) (v := .ref (ad 6)) f_X2_21 (by decide) rfl rfl dX2_hasFitting_9 ?_
    refine r_iload_n C 1 dX2_hasFitting_12 rfl rfl ?_
    refine r_iald C (k := 6) (by decide) rfl (by omega) (σ 6 ((p : Int32).toInt.toNat)) rfl dX2_hasFitting_13 ?_
    refine r_iconst C (2) dX2_hasFitting_14 (by decide) ?_
    refine r_icmp_eq C 22 dX2_hasFitting_15 (by decide) (fun c_6 => ?_) (fun c_6 => ?_)
    · -- to 22
      refine r_iconst C (0) dX2_hasFitting_22 (by decide) ?_
      exact r_zret C T dX2_hasFitting_23 (by omega) (⟨rfl, by omega⟩)
    · -- to 18
      refine r_iconst C (1) dX2_hasFitting_18 (by decide) ?_
      refine r_goto C 23 dX2_hasFitting_19 (by decide) ?_
      exact r_zret C T dX2_hasFitting_23 (by omega) (⟨rfl, by omega⟩)
set_option maxHeartbeats 4000000 in
set_option maxRecDepth 100000 in
theorem c_X2_allPipes (E : Ev) (ad : Nat → Nat) (σ : Sg)   : Ct E ad yX2_allPipes cX2_allPipes 1 (some .int) 0 [.ref (ad 2)] σ (fun r τ => τ = σ ∧ r = ((1 : Int32) <<< ((σ 2 6) &&& 31)) - 1) := by
  have k_1 : (1 : Int32).toInt = 1 := by decide
  refine ct_of RX2 rfl (by decide +kernel) [(0, .ref (ad 2))] rfl (Nat.le_of_ble_eq_true rfl) (fun G C T => ?_)
  refine r_iconst C (1) dX2_allPipes_0 (by decide) ?_
  refine r_aload_n C 0 dX2_allPipes_1 rfl rfl ?_
  refine r_get C (k := 2) (v := .int (σ 2 6)) f_X2_30 (by decide) rfl rfl dX2_allPipes_2 ?_
  refine r_ishl C dX2_allPipes_5 ?_
  refine r_nm (P := fun z => z = (1 : Int32) <<< ((σ 2 6 : Int32) &&& 31)) rfl (fun z_1 hz_2 => ?_)
  refine r_iconst C (1) dX2_allPipes_6 (by decide) ?_
  refine r_isub C dX2_allPipes_7 ?_
  refine r_nm (P := fun z => z = (z_1) - (1)) rfl (fun z_3 hz_4 => ?_)
  exact r_iret C T dX2_allPipes_8 (⟨rfl, by subst hz_2; exact hz_4⟩)
set_option maxHeartbeats 4000000 in
set_option maxRecDepth 100000 in
theorem c_X2_allFittings (E : Ev) (ad : Nat → Nat) (σ : Sg)   : Ct E ad yX2_allFittings cX2_allFittings 1 (some .int) 0 [.ref (ad 2)] σ (fun r τ => τ = σ ∧ r = (σ 2 7) ||| (σ 2 8)) := by
  refine ct_of RX2 rfl (by decide +kernel) [(0, .ref (ad 2))] rfl (Nat.le_of_ble_eq_true rfl) (fun G C T => ?_)
  refine r_aload_n C 0 dX2_allFittings_0 rfl rfl ?_
  refine r_get C (k := 2) (v := .int (σ 2 7)) f_X2_34 (by decide) rfl rfl dX2_allFittings_1 ?_
  refine r_aload_n C 0 dX2_allFittings_4 rfl rfl ?_
  refine r_get C (k := 2) (v := .int (σ 2 8)) f_X2_37 (by decide) rfl rfl dX2_allFittings_5 ?_
  refine r_ior C dX2_allFittings_8 ?_
  refine r_nm (P := fun z => z = (σ 2 7 : Int32) ||| (σ 2 8)) rfl (fun z_1 hz_2 => ?_)
  exact r_iret C T dX2_allFittings_9 (⟨rfl, by assumption⟩)
set_option maxHeartbeats 4000000 in
set_option maxRecDepth 100000 in
theorem c_X2_knownAt (E : Ev) (ad : Nat → Nat) (σ : Sg) (p : Int32) (hI : IC σ) : Ct E ad yX2_knownAt cX2_knownAt 4 (some .int) 0 [.ref (ad 2), .int p] σ (fun r τ => τ = σ ∧ True) := by
  have k_0 : (0 : Int32).toInt = 0 := by decide
  have k_1 : (1 : Int32).toInt = 1 := by decide
  have hJ := hI
  unfold IC at hJ
  refine ct_of RX2 rfl (by decide +kernel) [(0, .ref (ad 2)), (1, .int (p))] rfl (Nat.le_of_ble_eq_true rfl) (fun G C T => ?_)
  refine r_iconst C (0) dX2_knownAt_0 (by decide) ?_
  refine r_istore_n C [(2, .int (0)), (0, .ref (ad 2)), (1, .int (p))] dX2_knownAt_1 rfl (by decide) rfl ?_
  refine r_iconst C (0) dX2_knownAt_2 (by decide) ?_
  refine r_istore_n C [(3, .int (0)), (2, .int (0)), (0, .ref (ad 2)), (1, .int (p))] dX2_knownAt_3 rfl (by decide) rfl ?_
  have L_4 : ∀ (n : Nat), ∀ (a : Int32) (i : Int32), (0 ≤ i.toInt ∧ i.toInt ≤ 12) → 12 - i.toInt < (n : Int) → At E ad G 4 4 [(3, .int (i)), (2, .int (a)), (0, .ref (ad 2)), (1, .int (p))] [] σ := by
    intro n
    induction n with
    | zero =>
      intro a i hi hm
      exact absurd hm (by omega)
    | succ n ih =>
      intro a i hi hm
      have ih_4 := ih
      clear ih
      refine r_iload_n C 0 dX2_knownAt_4 rfl rfl ?_
      refine r_aload_n C 2 dX2_knownAt_5 rfl rfl ?_
      refine r_get C (k := 2) (v := .int (σ 2 6)) f_X2_30 (by decide) rfl rfl dX2_knownAt_6 ?_
      refine r_icmp_ge C 38 dX2_knownAt_9 (by decide) (fun c_1 => ?_) (fun c_1 => ?_)
      · -- to 38
        refine r_iload_n C 1 dX2_knownAt_38 rfl rfl ?_
        exact r_iret C T dX2_knownAt_39 (⟨rfl, trivial⟩)
      · -- to 12
        refine r_iload_n C 1 dX2_knownAt_12 rfl rfl ?_
        refine r_aload_n C 2 dX2_knownAt_13 rfl rfl ?_
        refine r_get C (k := 2) (v := .ref (ad 7)) f_X2_24 (by decide) rfl rfl dX2_knownAt_14 ?_
        refine r_iload_n C 0 dX2_knownAt_17 rfl rfl ?_
        refine r_iald C (k := 7) (by decide) rfl (by omega) (σ 7 ((i : Int32).toInt.toNat)) rfl dX2_knownAt_18 ?_
        refine r_iload_n C 3 dX2_knownAt_19 rfl rfl ?_
        refine r_icmp_gt C 29 dX2_knownAt_20 (by decide) (fun c_3 => ?_) (fun c_3 => ?_)
        · -- to 29
          refine r_iconst C (0) dX2_knownAt_29 (by decide) ?_
          refine r_ior C dX2_knownAt_30 ?_
          refine r_nm (P := fun z => z = (a : Int32) ||| (0)) rfl (fun z_4 hz_5 => ?_)
          refine r_istore_n C [(2, .int (z_4)), (3, .int (i)), (0, .ref (ad 2)), (1, .int (p))] dX2_knownAt_31 rfl (by decide) rfl ?_
          refine r_iinc C 1 (fun z => [(3, .int (z)), (2, .int (z_4)), (0, .ref (ad 2)), (1, .int (p))]) dX2_knownAt_32 rfl (by decide) (by decide) (by omega) (fun _ => rfl) (fun z_6 hz_7 => ?_)
          refine r_goto C 4 dX2_knownAt_35 (by decide) ?_
          exact At.sub [0, 1, 2, 3] rfl (ih_4 (z_4 : Int32) (z_6 : Int32) (by omega) (by omega))
        · -- to 23
          refine r_iconst C (1) dX2_knownAt_23 (by decide) ?_
          refine r_iload_n C 0 dX2_knownAt_24 rfl rfl ?_
          refine r_ishl C dX2_knownAt_25 ?_
          refine r_nm (P := fun z => z = (1 : Int32) <<< ((i : Int32) &&& 31)) rfl (fun z_8 hz_9 => ?_)
          refine r_goto C 30 dX2_knownAt_26 (by decide) ?_
          refine r_ior C dX2_knownAt_30 ?_
          refine r_nm (P := fun z => z = (a : Int32) ||| (z_8)) rfl (fun z_10 hz_11 => ?_)
          refine r_istore_n C [(2, .int (z_10)), (3, .int (i)), (0, .ref (ad 2)), (1, .int (p))] dX2_knownAt_31 rfl (by decide) rfl ?_
          refine r_iinc C 1 (fun z => [(3, .int (z)), (2, .int (z_10)), (0, .ref (ad 2)), (1, .int (p))]) dX2_knownAt_32 rfl (by decide) (by decide) (by omega) (fun _ => rfl) (fun z_12 hz_13 => ?_)
          refine r_goto C 4 dX2_knownAt_35 (by decide) ?_
          exact At.sub [0, 1, 2, 3] rfl (ih_4 (z_10 : Int32) (z_12 : Int32) (by omega) (by omega))
  exact At.sub [0, 1, 2, 3] rfl (L_4 ((12 - (0 : Int32).toInt).toNat + 1) (0 : Int32) (0 : Int32) (by omega) (by omega))
set_option maxHeartbeats 4000000 in
set_option maxRecDepth 100000 in
theorem c_X2_stepOver (E : Ev) (ad : Nat → Nat) (σ : Sg) (p : Int32) (q : Int32) (hI : IC σ) : Ct E ad yX2_stepOver cX2_stepOver 5 (some .int) 0 [.ref (ad 2), .int p, .int q] σ (fun r τ => τ = σ ∧ ((σ 2 6).toInt = 0 → r = p) ∧ SO (σ 5) p q (σ 2 6).toInt r) := by
  have k_0 : (0 : Int32).toInt = 0 := by decide
  have k_1 : (1 : Int32).toInt = 1 := by decide
  have hJ := hI
  unfold IC at hJ
  refine ct_of RX2 rfl (by decide +kernel) [(0, .ref (ad 2)), (1, .int (p)), (2, .int (q))] rfl (Nat.le_of_ble_eq_true rfl) (fun G C T => ?_)
  refine r_iload_n C 1 dX2_stepOver_0 rfl rfl ?_
  refine r_istore_n C [(3, .int (p)), (0, .ref (ad 2)), (1, .int (p)), (2, .int (q))] dX2_stepOver_1 rfl (by decide) rfl ?_
  refine r_iconst C (0) dX2_stepOver_2 (by decide) ?_
  refine r_istore C [(4, .int (0)), (3, .int (p)), (0, .ref (ad 2)), (1, .int (p)), (2, .int (q))] dX2_stepOver_3 (by decide) rfl ?_
  have L_5 : ∀ (n : Nat), ∀ (a : Int32) (i : Int32), (0 ≤ i.toInt ∧ i.toInt ≤ (σ 2 6).toInt) → ((σ 2 6).toInt = 0 → a = p) → (SO (σ 5) p q i.toInt a) → 12 - i.toInt < (n : Int) → At E ad G 5 5 [(4, .int (i)), (3, .int (a)), (0, .ref (ad 2)), (1, .int (p)), (2, .int (q))] [] σ := by
    intro n
    induction n with
    | zero =>
      intro a i hi hf hO hm
      exact absurd hm (by omega)
    | succ n ih =>
      intro a i hi hf hO hm
      have ih_5 := ih
      clear ih
      refine r_iload C 0 dX2_stepOver_5 rfl ?_
      refine r_aload_n C 2 dX2_stepOver_7 rfl rfl ?_
      refine r_get C (k := 2) (v := .int (σ 2 6)) f_X2_30 (by decide) rfl rfl dX2_stepOver_8 ?_
      refine r_icmp_ge C 51 dX2_stepOver_11 (by decide) (fun c_1 => ?_) (fun c_1 => ?_)
      · -- to 51
        refine r_iload_n C 1 dX2_stepOver_51 rfl rfl ?_
        exact r_iret C T dX2_stepOver_52 (⟨rfl, hf, by rw [show (σ 2 6).toInt = i.toInt from by omega]; exact hO⟩)
      · -- to 14
        refine r_iload_n C 4 dX2_stepOver_14 rfl rfl ?_
        refine r_iload C 0 dX2_stepOver_15 rfl ?_
        refine r_ishr C dX2_stepOver_17 ?_
        refine r_nm (P := fun z => z = (q : Int32) >>> ((i : Int32) &&& 31)) rfl (fun z_2 hz_3 => ?_)
        refine r_iconst C (1) dX2_stepOver_18 (by decide) ?_
        refine r_iand C dX2_stepOver_19 ?_
        refine r_nm (P := fun z => z = (z_2 : Int32) &&& (1)) rfl (fun z_4 hz_5 => ?_)
        refine r_if_eq C 45 dX2_stepOver_20 (by decide) (fun c_6 => ?_) (fun c_6 => ?_)
        · -- to 45
          refine r_iinc C 0 (fun z => [(4, .int (z)), (3, .int (a)), (0, .ref (ad 2)), (1, .int (p)), (2, .int (q))]) dX2_stepOver_45 rfl (by decide) (by decide) (by omega) (fun _ => rfl) (fun z_7 hz_8 => ?_)
          refine r_goto C 5 dX2_stepOver_48 (by decide) ?_
          exact At.sub [0, 1, 2, 3, 4] rfl (ih_5 (a : Int32) (z_7 : Int32) (by omega) (fun h => absurd h (by omega)) (SO_no hO (by omega) hz_8 (fun z => absurd ((has_ne (p := q) (q := i) (by omega)).mpr z.1) (by rw [← hz_3, ← hz_5]; omega))) (by omega))
        · -- to 23
          refine r_aload_n C 2 dX2_stepOver_23 rfl rfl ?_
          refine r_get C (k := 2) (v := .ref (ad 5)) f_X2_18 (by decide) rfl rfl dX2_stepOver_24 ?_
          refine r_iload C 0 dX2_stepOver_27 rfl ?_
          refine r_iald C (k := 5) (by decide) rfl (by omega) (σ 5 ((i : Int32).toInt.toNat)) rfl dX2_stepOver_29 ?_
          refine r_iload_n C 3 dX2_stepOver_30 rfl rfl ?_
          refine r_iand C dX2_stepOver_31 ?_
          refine r_nm (P := fun z => z = (σ 5 ((i : Int32).toInt.toNat) : Int32) &&& (p)) rfl (fun z_10 hz_11 => ?_)
          refine r_if_eq C 45 dX2_stepOver_32 (by decide) (fun c_12 => ?_) (fun c_12 => ?_)
          · -- to 45
            refine r_iinc C 0 (fun z => [(4, .int (z)), (3, .int (a)), (0, .ref (ad 2)), (1, .int (p)), (2, .int (q))]) dX2_stepOver_45 rfl (by decide) (by decide) (by omega) (fun _ => rfl) (fun z_13 hz_14 => ?_)
            refine r_goto C 5 dX2_stepOver_48 (by decide) ?_
            exact At.sub [0, 1, 2, 3, 4] rfl (ih_5 (a : Int32) (z_13 : Int32) (by omega) (fun h => absurd h (by omega)) (SO_no hO (by omega) hz_14 (fun z => absurd z.2 (by rw [← hz_11]; omega))) (by omega))
          · -- to 35
            refine r_iload_n C 1 dX2_stepOver_35 rfl rfl ?_
            refine r_aload_n C 2 dX2_stepOver_36 rfl rfl ?_
            refine r_get C (k := 2) (v := .ref (ad 5)) f_X2_18 (by decide) rfl rfl dX2_stepOver_37 ?_
            refine r_iload C 0 dX2_stepOver_40 rfl ?_
            refine r_iald C (k := 5) (by decide) rfl (by omega) (σ 5 ((i : Int32).toInt.toNat)) rfl dX2_stepOver_42 ?_
            refine r_ior C dX2_stepOver_43 ?_
            refine r_nm (P := fun z => z = (a : Int32) ||| (σ 5 ((i : Int32).toInt.toNat))) rfl (fun z_16 hz_17 => ?_)
            refine r_istore_n C [(3, .int (z_16)), (4, .int (i)), (0, .ref (ad 2)), (1, .int (p)), (2, .int (q))] dX2_stepOver_44 rfl (by decide) rfl ?_
            refine r_iinc C 1 (fun z => [(4, .int (z)), (3, .int (z_16)), (0, .ref (ad 2)), (1, .int (p)), (2, .int (q))]) dX2_stepOver_45 rfl (by decide) (by decide) (by omega) (fun _ => rfl) (fun z_18 hz_19 => ?_)
            refine r_goto C 5 dX2_stepOver_48 (by decide) ?_
            exact At.sub [0, 1, 2, 3, 4] rfl (ih_5 (z_16 : Int32) (z_18 : Int32) (by omega) (fun h => absurd h (by omega)) (by rw [hz_17]; exact SO_yes hO (by omega) hz_19 ((has_ne (by omega)).mp (by rw [← hz_3, ← hz_5]; exact c_6)) (by rw [← hz_11]; exact c_12)) (by omega))
  exact At.sub [0, 1, 2, 3, 4] rfl (L_5 ((12 - (0 : Int32).toInt).toNat + 1) (p : Int32) (0 : Int32) (by omega) (fun _ => rfl) (by rw [k_0]; exact SO_0) (by omega))
set_option maxHeartbeats 4000000 in
set_option maxRecDepth 100000 in
theorem c_X2_spread (E : Ev) (ad : Nat → Nat) (σ : Sg) (p : Int32) (q : Int32) (hI : IC σ) : Ct E ad yX2_spread cX2_spread 7 (some .int) 0 [.ref (ad 2), .int p, .int q] σ (fun r τ => τ = σ ∧ ((σ 2 6).toInt = 0 → r = p)) := by
  have k_0 : (0 : Int32).toInt = 0 := by decide
  have k_1 : (1 : Int32).toInt = 1 := by decide
  have k_10 : (10 : Int32).toInt = 10 := by decide
  have hJ := hI
  unfold IC at hJ
  refine ct_of RX2 rfl (by decide +kernel) [(0, .ref (ad 2)), (1, .int (p)), (2, .int (q))] rfl (Nat.le_of_ble_eq_true rfl) (fun G C T => ?_)
  refine r_iload_n C 1 dX2_spread_0 rfl rfl ?_
  refine r_istore_n C [(3, .int (p)), (0, .ref (ad 2)), (1, .int (p)), (2, .int (q))] dX2_spread_1 rfl (by decide) rfl ?_
  refine r_iconst C (0) dX2_spread_2 (by decide) ?_
  refine r_istore C [(4, .int (0)), (3, .int (p)), (0, .ref (ad 2)), (1, .int (p)), (2, .int (q))] dX2_spread_3 (by decide) rfl ?_
  have L_5 : ∀ (n : Nat), ∀ (a : Int32) (i : Int32), (0 ≤ i.toInt ∧ i.toInt ≤ 10) → ((σ 2 6).toInt = 0 → a = p) → 10 - i.toInt < (n : Int) → At E ad G 7 5 [(4, .int (i)), (3, .int (a)), (0, .ref (ad 2)), (1, .int (p)), (2, .int (q))] [] σ := by
    intro n
    induction n with
    | zero =>
      intro a i hi hf hm
      exact absurd hm (by omega)
    | succ n ih =>
      intro a i hi hf hm
      have ih_5 := ih
      clear ih
      refine r_iload C 0 dX2_spread_5 rfl ?_
      refine r_bipush C (10) dX2_spread_7 (by decide) ?_
      refine r_icmp_ge C 79 dX2_spread_9 (by decide) (fun c_1 => ?_) (fun c_1 => ?_)
      · -- to 79
        refine r_iload_n C 1 dX2_spread_79 rfl rfl ?_
        exact r_iret C T dX2_spread_80 (⟨rfl, by first | exact hg | exact hf⟩)
      · -- to 12
        refine r_iload_n C 1 dX2_spread_12 rfl rfl ?_
        refine r_istore C [(5, .int (a)), (4, .int (i)), (3, .int (a)), (0, .ref (ad 2)), (1, .int (p)), (2, .int (q))] dX2_spread_13 (by decide) rfl ?_
        refine r_iconst C (0) dX2_spread_15 (by decide) ?_
        refine r_istore C [(6, .int (0)), (5, .int (a)), (4, .int (i)), (3, .int (a)), (0, .ref (ad 2)), (1, .int (p)), (2, .int (q))] dX2_spread_16 (by decide) rfl ?_
        have L_18 : ∀ (n : Nat), ∀ (b : Int32) (j : Int32), (0 ≤ j.toInt ∧ j.toInt ≤ 12) → ((σ 2 6).toInt = 0 → b = p) → 12 - j.toInt < (n : Int) → At E ad G 7 18 [(6, .int (j)), (5, .int (a)), (4, .int (i)), (3, .int (b)), (0, .ref (ad 2)), (1, .int (p)), (2, .int (q))] [] σ := by
          intro n
          induction n with
          | zero =>
            intro b j hj hg hm
            exact absurd hm (by omega)
          | succ n ih =>
            intro b j hj hg hm
            have ih_18 := ih
            clear ih
            refine r_iload C 0 dX2_spread_18 rfl ?_
            refine r_aload_n C 4 dX2_spread_20 rfl rfl ?_
            refine r_get C (k := 2) (v := .int (σ 2 6)) f_X2_30 (by decide) rfl rfl dX2_spread_21 ?_
            refine r_icmp_ge C 64 dX2_spread_24 (by decide) (fun c_2 => ?_) (fun c_2 => ?_)
            · -- to 64
              refine r_iload_n C 3 dX2_spread_64 rfl rfl ?_
              refine r_iload C 1 dX2_spread_65 rfl ?_
              refine r_icmp_ne C 73 dX2_spread_67 (by decide) (fun c_3 => ?_) (fun c_3 => ?_)
              · -- to 73
                refine r_iinc C 2 (fun z => [(4, .int (z)), (6, .int (j)), (5, .int (a)), (3, .int (b)), (0, .ref (ad 2)), (1, .int (p)), (2, .int (q))]) dX2_spread_73 rfl (by decide) (by decide) (by omega) (fun _ => rfl) (fun z_4 hz_5 => ?_)
                refine r_goto C 5 dX2_spread_76 (by decide) ?_
                exact At.sub [0, 3, 4, 5, 6] rfl (ih_5 (b : Int32) (z_4 : Int32) (by omega) hg (by omega))
              · -- to 70
                refine r_goto C 79 dX2_spread_70 (by decide) ?_
                refine r_iload_n C 3 dX2_spread_79 rfl rfl ?_
                exact r_iret C T dX2_spread_80 (⟨rfl, by first | exact hg | exact hf⟩)
            · -- to 27
              refine r_iload_n C 6 dX2_spread_27 rfl rfl ?_
              refine r_iload C 0 dX2_spread_28 rfl ?_
              refine r_ishr C dX2_spread_30 ?_
              refine r_nm (P := fun z => z = (q : Int32) >>> ((j : Int32) &&& 31)) rfl (fun z_6 hz_7 => ?_)
              refine r_iconst C (1) dX2_spread_31 (by decide) ?_
              refine r_iand C dX2_spread_32 ?_
              refine r_nm (P := fun z => z = (z_6 : Int32) &&& (1)) rfl (fun z_8 hz_9 => ?_)
              refine r_if_eq C 58 dX2_spread_33 (by decide) (fun c_10 => ?_) (fun c_10 => ?_)
              · -- to 58
                refine r_iinc C 0 (fun z => [(6, .int (z)), (5, .int (a)), (4, .int (i)), (3, .int (b)), (0, .ref (ad 2)), (1, .int (p)), (2, .int (q))]) dX2_spread_58 rfl (by decide) (by decide) (by omega) (fun _ => rfl) (fun z_11 hz_12 => ?_)
                refine r_goto C 18 dX2_spread_61 (by decide) ?_
                exact At.sub [0, 1, 2, 3, 4, 5, 6] rfl (ih_18 (b : Int32) (z_11 : Int32) (by omega) (fun h => absurd h (by omega)) (by omega))
              · -- to 36
                refine r_aload_n C 4 dX2_spread_36 rfl rfl ?_
                refine r_get C (k := 2) (v := .ref (ad 5)) f_X2_18 (by decide) rfl rfl dX2_spread_37 ?_
                refine r_iload C 0 dX2_spread_40 rfl ?_
                refine r_iald C (k := 5) (by decide) rfl (by omega) (σ 5 ((j : Int32).toInt.toNat)) rfl dX2_spread_42 ?_
                refine r_iload_n C 3 dX2_spread_43 rfl rfl ?_
                refine r_iand C dX2_spread_44 ?_
                refine r_nm (P := fun z => z = (σ 5 ((j : Int32).toInt.toNat) : Int32) &&& (b)) rfl (fun z_14 hz_15 => ?_)
                refine r_if_eq C 58 dX2_spread_45 (by decide) (fun c_16 => ?_) (fun c_16 => ?_)
                · -- to 58
                  refine r_iinc C 0 (fun z => [(6, .int (z)), (5, .int (a)), (4, .int (i)), (3, .int (b)), (0, .ref (ad 2)), (1, .int (p)), (2, .int (q))]) dX2_spread_58 rfl (by decide) (by decide) (by omega) (fun _ => rfl) (fun z_17 hz_18 => ?_)
                  refine r_goto C 18 dX2_spread_61 (by decide) ?_
                  exact At.sub [0, 1, 2, 3, 4, 5, 6] rfl (ih_18 (b : Int32) (z_17 : Int32) (by omega) (fun h => absurd h (by omega)) (by omega))
                · -- to 48
                  refine r_iload_n C 3 dX2_spread_48 rfl rfl ?_
                  refine r_aload_n C 4 dX2_spread_49 rfl rfl ?_
                  refine r_get C (k := 2) (v := .ref (ad 5)) f_X2_18 (by decide) rfl rfl dX2_spread_50 ?_
                  refine r_iload C 0 dX2_spread_53 rfl ?_
                  refine r_iald C (k := 5) (by decide) rfl (by omega) (σ 5 ((j : Int32).toInt.toNat)) rfl dX2_spread_55 ?_
                  refine r_ior C dX2_spread_56 ?_
                  refine r_nm (P := fun z => z = (b : Int32) ||| (σ 5 ((j : Int32).toInt.toNat))) rfl (fun z_20 hz_21 => ?_)
                  refine r_istore_n C [(3, .int (z_20)), (6, .int (j)), (5, .int (a)), (4, .int (i)), (0, .ref (ad 2)), (1, .int (p)), (2, .int (q))] dX2_spread_57 rfl (by decide) rfl ?_
                  refine r_iinc C 1 (fun z => [(6, .int (z)), (3, .int (z_20)), (5, .int (a)), (4, .int (i)), (0, .ref (ad 2)), (1, .int (p)), (2, .int (q))]) dX2_spread_58 rfl (by decide) (by decide) (by omega) (fun _ => rfl) (fun z_22 hz_23 => ?_)
                  refine r_goto C 18 dX2_spread_61 (by decide) ?_
                  exact At.sub [0, 2, 3, 1, 4, 5, 6] rfl (ih_18 (z_20 : Int32) (z_22 : Int32) (by omega) (fun h => absurd h (by omega)) (by omega))
        exact At.sub [0, 1, 2, 3, 4, 5, 6] rfl (L_18 ((12 - (0 : Int32).toInt).toNat + 1) (a : Int32) (0 : Int32) (by omega) hf (by omega))
  exact At.sub [0, 1, 2, 3, 4] rfl (L_5 ((10 - (0 : Int32).toInt).toNat + 1) (p : Int32) (0 : Int32) (by omega) (fun _ => rfl) (by omega))
set_option maxHeartbeats 4000000 in
set_option maxRecDepth 100000 in
theorem c_X2_sourcesOf (E : Ev) (ad : Nat → Nat) (σ : Sg) (p : Int32)  : Ct E ad yX2_sourcesOf cX2_sourcesOf 4 (some .int) 0 [.ref (ad 2), .int p] σ (fun r τ => τ = σ ∧ ((∀ j, σ 8 j = 0) → r = 0)) := by
  have k_0 : (0 : Int32).toInt = 0 := by decide
  have k_1 : (1 : Int32).toInt = 1 := by decide
  have k_3 : (3 : Int32).toInt = 3 := by decide
  refine ct_of RX2 rfl (by decide +kernel) [(0, .ref (ad 2)), (1, .int (p))] rfl (Nat.le_of_ble_eq_true rfl) (fun G C T => ?_)
  refine r_iconst C (0) dX2_sourcesOf_0 (by decide) ?_
  refine r_istore_n C [(2, .int (0)), (0, .ref (ad 2)), (1, .int (p))] dX2_sourcesOf_1 rfl (by decide) rfl ?_
  refine r_iconst C (0) dX2_sourcesOf_2 (by decide) ?_
  refine r_istore_n C [(3, .int (0)), (2, .int (0)), (0, .ref (ad 2)), (1, .int (p))] dX2_sourcesOf_3 rfl (by decide) rfl ?_
  have L_4 : ∀ (n : Nat), ∀ (a : Int32) (i : Int32), (0 ≤ i.toInt ∧ i.toInt ≤ 3) → ((∀ j, σ 8 j = 0) → a = 0) → 3 - i.toInt < (n : Int) → At E ad G 4 4 [(3, .int (i)), (2, .int (a)), (0, .ref (ad 2)), (1, .int (p))] [] σ := by
    intro n
    induction n with
    | zero =>
      intro a i hi hf hm
      exact absurd hm (by omega)
    | succ n ih =>
      intro a i hi hf hm
      have ih_4 := ih
      clear ih
      refine r_iload_n C 0 dX2_sourcesOf_4 rfl rfl ?_
      refine r_iconst C (3) dX2_sourcesOf_5 (by decide) ?_
      refine r_icmp_ge C 36 dX2_sourcesOf_6 (by decide) (fun c_1 => ?_) (fun c_1 => ?_)
      · -- to 36
        refine r_iload_n C 1 dX2_sourcesOf_36 rfl rfl ?_
        exact r_iret C T dX2_sourcesOf_37 (⟨rfl, hf⟩)
      · -- to 9
        refine r_iload_n C 1 dX2_sourcesOf_9 rfl rfl ?_
        refine r_iload_n C 3 dX2_sourcesOf_10 rfl rfl ?_
        refine r_iload_n C 0 dX2_sourcesOf_11 rfl rfl ?_
        refine r_ishr C dX2_sourcesOf_12 ?_
        refine r_nm (P := fun z => z = (p : Int32) >>> ((i : Int32) &&& 31)) rfl (fun z_2 hz_3 => ?_)
        refine r_iconst C (1) dX2_sourcesOf_13 (by decide) ?_
        refine r_iand C dX2_sourcesOf_14 ?_
        refine r_nm (P := fun z => z = (z_2 : Int32) &&& (1)) rfl (fun z_4 hz_5 => ?_)
        refine r_if_eq C 27 dX2_sourcesOf_15 (by decide) (fun c_6 => ?_) (fun c_6 => ?_)
        · -- to 27
          refine r_iconst C (0) dX2_sourcesOf_27 (by decide) ?_
          refine r_ior C dX2_sourcesOf_28 ?_
          refine r_nm (P := fun z => z = (a : Int32) ||| (0)) rfl (fun z_7 hz_8 => ?_)
          refine r_istore_n C [(2, .int (z_7)), (3, .int (i)), (0, .ref (ad 2)), (1, .int (p))] dX2_sourcesOf_29 rfl (by decide) rfl ?_
          refine r_iinc C 1 (fun z => [(3, .int (z)), (2, .int (z_7)), (0, .ref (ad 2)), (1, .int (p))]) dX2_sourcesOf_30 rfl (by decide) (by decide) (by omega) (fun _ => rfl) (fun z_9 hz_10 => ?_)
          refine r_goto C 4 dX2_sourcesOf_33 (by decide) ?_
          exact At.sub [0, 1, 2, 3] rfl (ih_4 (z_7 : Int32) (z_9 : Int32) (by omega) (fun h => by rw [hz_8, hf h]; first | rw [h]; rfl | rfl) (by omega))
        · -- to 18
          refine r_aload_n C 2 dX2_sourcesOf_18 rfl rfl ?_
          refine r_get C (k := 2) (v := .ref (ad 8)) f_X2_27 (by decide) rfl rfl dX2_sourcesOf_19 ?_
          refine r_iload_n C 0 dX2_sourcesOf_22 rfl rfl ?_
          refine r_iald C (k := 8) (by decide) rfl (by omega) (σ 8 ((i : Int32).toInt.toNat)) rfl dX2_sourcesOf_23 ?_
          refine r_goto C 28 dX2_sourcesOf_24 (by decide) ?_
          refine r_ior C dX2_sourcesOf_28 ?_
          refine r_nm (P := fun z => z = (a : Int32) ||| (σ 8 ((i : Int32).toInt.toNat))) rfl (fun z_12 hz_13 => ?_)
          refine r_istore_n C [(2, .int (z_12)), (3, .int (i)), (0, .ref (ad 2)), (1, .int (p))] dX2_sourcesOf_29 rfl (by decide) rfl ?_
          refine r_iinc C 1 (fun z => [(3, .int (z)), (2, .int (z_12)), (0, .ref (ad 2)), (1, .int (p))]) dX2_sourcesOf_30 rfl (by decide) (by decide) (by omega) (fun _ => rfl) (fun z_14 hz_15 => ?_)
          refine r_goto C 4 dX2_sourcesOf_33 (by decide) ?_
          exact At.sub [0, 1, 2, 3] rfl (ih_4 (z_12 : Int32) (z_14 : Int32) (by omega) (fun h => by rw [hz_13, hf h]; first | rw [h]; rfl | rfl) (by omega))
  exact At.sub [0, 1, 2, 3] rfl (L_4 ((3 - (0 : Int32).toInt).toNat + 1) (0 : Int32) (0 : Int32) (by omega) (fun _ => rfl) (by omega))
set_option maxHeartbeats 4000000 in
set_option maxRecDepth 100000 in
theorem c_X2_isSafe (E : Ev) (ad : Nat → Nat) (σ : Sg) (p : Int32) (q : Int32) (u : Int32) (v : Int32) (hI : IC σ) : Ct E ad yX2_isSafe cX2_isSafe 8 (some .boolean) 1 [.ref (ad 2), .int p, .int q, .int u, .int v] σ (fun r τ => τ = σ ∧ (r.toInt = 0 ∨ r.toInt = 1) ∧ ((∀ j, σ 8 j = 0) → r.toInt = 1)) := by
  have k_m1 : (-1 : Int32).toInt = -1 := by decide
  have k_0 : (0 : Int32).toInt = 0 := by decide
  have k_1 : (1 : Int32).toInt = 1 := by decide
  have k_7 : (7 : Int32).toInt = 7 := by decide
  have hJ := hI
  unfold IC at hJ
  refine ct_of RX2 rfl (by decide +kernel) [(0, .ref (ad 2)), (1, .int (p)), (2, .int (q)), (3, .int (u)), (4, .int (v))] rfl (Nat.le_of_ble_eq_true rfl) (fun G C T => ?_)
  refine r_iload_n C 3 dX2_isSafe_0 rfl rfl ?_
  refine r_iload_n C 2 dX2_isSafe_1 rfl rfl ?_
  refine r_iconst C (-1) dX2_isSafe_2 (by decide) ?_
  refine r_ixor C dX2_isSafe_3 ?_
  refine r_nm (P := fun z => z = (q : Int32) ^^^ ((-1))) rfl (fun z_1 hz_2 => ?_)
  refine r_iand C dX2_isSafe_4 ?_
  refine r_nm (P := fun z => z = (u : Int32) &&& (z_1)) rfl (fun z_3 hz_4 => ?_)
  refine r_istore C [(5, .int (z_3)), (0, .ref (ad 2)), (1, .int (p)), (2, .int (q)), (3, .int (u)), (4, .int (v))] dX2_isSafe_5 (by decide) rfl ?_
  refine r_aload_n C 1 dX2_isSafe_7 rfl rfl ?_
  refine r_iconst C (1) dX2_isSafe_8 (by decide) ?_
  refine r_iload_n C 2 dX2_isSafe_9 rfl rfl ?_
  refine r_ishl C dX2_isSafe_10 ?_
  refine r_nm (P := fun z => z = (1 : Int32) <<< ((p : Int32) &&& 31)) rfl (fun z_5 hz_6 => ?_)
  refine r_iload C 0 dX2_isSafe_11 rfl ?_
  refine r_callV C (k := 2) [.int (z_5), .int (z_3)] [] (c_X2_spread E ad σ  (z_5) (z_3) hI) lv_X2_47 (by decide) rfl rfl (by decide) (by decide) rfl rfl (Nat.le_of_ble_eq_true rfl) dX2_isSafe_13 (fun r_7 τ_8 h_9 => ?_)
  obtain ⟨eh_9, h_9⟩ := h_9
  obtain rfl := eh_9.symm
  refine r_istore C [(6, .int (r_7)), (5, .int (z_3)), (0, .ref (ad 2)), (1, .int (p)), (2, .int (q)), (3, .int (u)), (4, .int (v))] dX2_isSafe_16 (by decide) rfl ?_
  refine r_iload C 0 dX2_isSafe_18 rfl ?_
  refine r_aload_n C 2 dX2_isSafe_20 rfl rfl ?_
  refine r_bipush C (7) dX2_isSafe_21 (by decide) ?_
  refine r_callV C (k := 2) [.int (7)] [.int (r_7)] (c_X2_sourcesOf E ad σ  (7) ) lv_X2_51 (by decide) rfl rfl (by decide) (by decide) rfl rfl (Nat.le_of_ble_eq_true rfl) dX2_isSafe_23 (fun r_10 τ_11 h_12 => ?_)
  obtain ⟨eh_12, h_12⟩ := h_12
  obtain rfl := eh_12.symm
  refine r_iand C dX2_isSafe_26 ?_
  refine r_nm (P := fun z => z = (r_7 : Int32) &&& (r_10)) rfl (fun z_13 hz_14 => ?_)
  refine r_if_eq C 32 dX2_isSafe_27 (by decide) (fun c_15 => ?_) (fun c_15 => ?_)
  · -- to 32
    refine r_iload C 6 dX2_isSafe_32 rfl ?_
    refine r_if_ne C 39 dX2_isSafe_34 (by decide) (fun c_16 => ?_) (fun c_16 => ?_)
    · -- to 39
      refine r_aload_n C 2 dX2_isSafe_39 rfl rfl ?_
      refine r_iload C 0 dX2_isSafe_40 rfl ?_
      refine r_iload_n C 5 dX2_isSafe_42 rfl rfl ?_
      refine r_iload_n C 4 dX2_isSafe_43 rfl rfl ?_
      refine r_iand C dX2_isSafe_44 ?_
      refine r_nm (P := fun z => z = (u : Int32) &&& (q)) rfl (fun z_17 hz_18 => ?_)
      refine r_aload_n C 2 dX2_isSafe_45 rfl rfl ?_
      refine r_get C (k := 2) (v := .int (σ 2 7)) f_X2_34 (by decide) rfl rfl dX2_isSafe_46 ?_
      refine r_iand C dX2_isSafe_49 ?_
      refine r_nm (P := fun z => z = (z_17 : Int32) &&& (σ 2 7)) rfl (fun z_19 hz_20 => ?_)
      refine r_callV C (k := 2) [.int (r_7), .int (z_19)] [] (c_X2_stepOver E ad σ  (r_7) (z_19) hI) lv_X2_55 (by decide) rfl rfl (by decide) (by decide) rfl rfl (Nat.le_of_ble_eq_true rfl) dX2_isSafe_50 (fun r_21 τ_22 h_23 => ?_)
      obtain ⟨eh_23, h_23⟩ := h_23
      obtain rfl := eh_23.symm
      refine r_istore C [(7, .int (r_21)), (6, .int (r_7)), (5, .int (z_3)), (0, .ref (ad 2)), (1, .int (p)), (2, .int (q)), (3, .int (u)), (4, .int (v))] dX2_isSafe_53 (by decide) rfl ?_
      refine r_aload_n C 3 dX2_isSafe_55 rfl rfl ?_
      refine r_iload C 0 dX2_isSafe_56 rfl ?_
      refine r_iload C 2 dX2_isSafe_58 rfl ?_
      refine r_callV C (k := 2) [.int (r_21), .int (z_3)] [] (c_X2_spread E ad σ  (r_21) (z_3) hI) lv_X2_47 (by decide) rfl rfl (by decide) (by decide) rfl rfl (Nat.le_of_ble_eq_true rfl) dX2_isSafe_60 (fun r_24 τ_25 h_26 => ?_)
      obtain ⟨eh_26, h_26⟩ := h_26
      obtain rfl := eh_26.symm
      refine r_aload_n C 3 dX2_isSafe_63 rfl rfl ?_
      refine r_iload C 7 dX2_isSafe_64 rfl ?_
      refine r_callV C (k := 2) [.int (v)] [.int (r_24)] (c_X2_sourcesOf E ad σ  (v) ) lv_X2_51 (by decide) rfl rfl (by decide) (by decide) rfl rfl (Nat.le_of_ble_eq_true rfl) dX2_isSafe_66 (fun r_27 τ_28 h_29 => ?_)
      obtain ⟨eh_29, h_29⟩ := h_29
      obtain rfl := eh_29.symm
      refine r_iand C dX2_isSafe_69 ?_
      refine r_nm (P := fun z => z = (r_24 : Int32) &&& (r_27)) rfl (fun z_30 hz_31 => ?_)
      refine r_if_ne C 77 dX2_isSafe_70 (by decide) (fun c_32 => ?_) (fun c_32 => ?_)
      · -- to 77
        refine r_iconst C (0) dX2_isSafe_77 (by decide) ?_
        exact r_zret C T dX2_isSafe_78 (by omega) (⟨rfl, by omega, fun h => by first | exact k_1 | exact absurd (by rw [hz_31, h_29 h]; simp) c_32⟩)
      · -- to 73
        refine r_iconst C (1) dX2_isSafe_73 (by decide) ?_
        refine r_goto C 78 dX2_isSafe_74 (by decide) ?_
        exact r_zret C T dX2_isSafe_78 (by omega) (⟨rfl, by omega, fun h => by first | exact k_1 | exact absurd (by rw [hz_31, h_29 h]; simp) c_32⟩)
    · -- to 37
      refine r_iconst C (1) dX2_isSafe_37 (by decide) ?_
      exact r_zret C T dX2_isSafe_38 (by omega) (⟨rfl, Or.inr k_1, fun _ => k_1⟩)
  · -- to 30
    refine r_iconst C (0) dX2_isSafe_30 (by decide) ?_
    exact r_zret C T dX2_isSafe_31 (by omega) (⟨rfl, Or.inl k_0, fun h => absurd (by rw [hz_14, h_12 h]; simp) c_15⟩)
set_option maxHeartbeats 4000000 in
set_option maxRecDepth 100000 in
theorem c_X2_fewestBarriers (E : Ev) (ad : Nat → Nat) (σ : Sg) (p : Int32) (q : Int32) (u : Int32) (hI : IC σ) : Ct E ad yX2_fewestBarriers cX2_fewestBarriers 9 (some .int) 1 [.ref (ad 2), .int p, .int q, .int u] σ (fun r τ => τ = σ ∧ ((σ 2 6).toInt = 0 → (0 ≤ p.toInt ∧ p.toInt < 10 ∧ 0 ≤ q.toInt ∧ q.toInt < 10) → ((p.toInt = q.toInt → r.toInt = 0) ∧ (p.toInt ≠ q.toInt → r.toInt = -3)))) := by
  have k_m3 : (-3 : Int32).toInt = -3 := by decide
  have k_m1 : (-1 : Int32).toInt = -1 := by decide
  have k_0 : (0 : Int32).toInt = 0 := by decide
  have k_1 : (1 : Int32).toInt = 1 := by decide
  have k_18 : (18 : Int32).toInt = 18 := by decide
  have hJ := hI
  unfold IC at hJ
  refine ct_of RX2 rfl (by decide +kernel) [(0, .ref (ad 2)), (1, .int (p)), (2, .int (q)), (3, .int (u))] rfl (Nat.le_of_ble_eq_true rfl) (fun G C T => ?_)
  refine r_aload_n C 0 dX2_fewestBarriers_0 rfl rfl ?_
  refine r_callV C (k := 2) [] [] (c_X2_allPipes E ad σ   ) lv_X2_58 (by decide) rfl rfl (by decide) (by decide) rfl rfl (Nat.le_of_ble_eq_true rfl) dX2_fewestBarriers_1 (fun r_1 τ_2 h_3 => ?_)
  obtain ⟨eh_3, h_3⟩ := h_3
  obtain rfl := eh_3.symm
  refine r_iload_n C 3 dX2_fewestBarriers_4 rfl rfl ?_
  refine r_iconst C (-1) dX2_fewestBarriers_5 (by decide) ?_
  refine r_ixor C dX2_fewestBarriers_6 ?_
  refine r_nm (P := fun z => z = (u : Int32) ^^^ ((-1))) rfl (fun z_4 hz_5 => ?_)
  refine r_iand C dX2_fewestBarriers_7 ?_
  refine r_nm (P := fun z => z = (r_1 : Int32) &&& (z_4)) rfl (fun z_6 hz_7 => ?_)
  refine r_istore C [(4, .int (z_6)), (0, .ref (ad 2)), (1, .int (p)), (2, .int (q)), (3, .int (u))] dX2_fewestBarriers_8 (by decide) rfl ?_
  refine r_iconst C (0) dX2_fewestBarriers_10 (by decide) ?_
  refine r_istore C [(5, .int (0)), (4, .int (z_6)), (0, .ref (ad 2)), (1, .int (p)), (2, .int (q)), (3, .int (u))] dX2_fewestBarriers_11 (by decide) rfl ?_
  refine r_aload_n C 2 dX2_fewestBarriers_13 rfl rfl ?_
  refine r_iconst C (1) dX2_fewestBarriers_14 (by decide) ?_
  refine r_iload_n C 3 dX2_fewestBarriers_15 rfl rfl ?_
  refine r_ishl C dX2_fewestBarriers_16 ?_
  refine r_nm (P := fun z => z = (1 : Int32) <<< ((p : Int32) &&& 31)) rfl (fun z_8 hz_9 => ?_)
  refine r_iload C 1 dX2_fewestBarriers_17 rfl ?_
  refine r_callV C (k := 2) [.int (z_8), .int (z_6)] [] (c_X2_spread E ad σ  (z_8) (z_6) hI) lv_X2_47 (by decide) rfl rfl (by decide) (by decide) rfl rfl (Nat.le_of_ble_eq_true rfl) dX2_fewestBarriers_19 (fun r_10 τ_11 h_12 => ?_)
  obtain ⟨eh_12, h_12⟩ := h_12
  obtain rfl := eh_12.symm
  refine r_istore C [(6, .int (r_10)), (5, .int (0)), (4, .int (z_6)), (0, .ref (ad 2)), (1, .int (p)), (2, .int (q)), (3, .int (u))] dX2_fewestBarriers_22 (by decide) rfl ?_
  refine r_iconst C (0) dX2_fewestBarriers_24 (by decide) ?_
  refine r_istore C [(7, .int (0)), (6, .int (r_10)), (5, .int (0)), (4, .int (z_6)), (0, .ref (ad 2)), (1, .int (p)), (2, .int (q)), (3, .int (u))] dX2_fewestBarriers_25 (by decide) rfl ?_
  have L_27 : ∀ (n : Nat), ∀ (a : Int32) (b : Int32) (i : Int32), (0 ≤ i.toInt ∧ i.toInt ≤ 19) → ((σ 2 6).toInt = 0 → (0 ≤ p.toInt ∧ p.toInt < 10 ∧ 0 ≤ q.toInt ∧ q.toInt < 10) → (b = (1 : Int32) <<< (p &&& 31) ∧ (a = 0 ∨ a = (1 : Int32) <<< (p &&& 31)) ∧ (0 < i.toInt → p.toInt ≠ q.toInt))) → 19 - i.toInt < (n : Int) → At E ad G 9 27 [(7, .int (i)), (6, .int (b)), (5, .int (a)), (4, .int (z_6)), (0, .ref (ad 2)), (1, .int (p)), (2, .int (q)), (3, .int (u))] [] σ := by
    intro n
    induction n with
    | zero =>
      intro a b i hi hf hm
      exact absurd hm (by omega)
    | succ n ih =>
      intro a b i hi hf hm
      have ih_27 := ih
      clear ih
      refine r_iload C 0 dX2_fewestBarriers_27 rfl ?_
      refine r_bipush C (18) dX2_fewestBarriers_29 (by decide) ?_
      refine r_icmp_gt C 93 dX2_fewestBarriers_31 (by decide) (fun c_13 => ?_) (fun c_13 => ?_)
      · -- to 93
        refine r_bipush C (-3) dX2_fewestBarriers_93 (by decide) ?_
        exact r_iret C T dX2_fewestBarriers_95 (⟨rfl, fun h hh => by have t3 := (hf h hh).2.2; omega⟩)
      · -- to 34
        refine r_iload C 1 dX2_fewestBarriers_34 rfl ?_
        refine r_iload_n C 6 dX2_fewestBarriers_36 rfl rfl ?_
        refine r_ishr C dX2_fewestBarriers_37 ?_
        refine r_nm (P := fun z => z = (b : Int32) >>> ((q : Int32) &&& 31)) rfl (fun z_14 hz_15 => ?_)
        refine r_iconst C (1) dX2_fewestBarriers_38 (by decide) ?_
        refine r_iand C dX2_fewestBarriers_39 ?_
        refine r_nm (P := fun z => z = (z_14 : Int32) &&& (1)) rfl (fun z_16 hz_17 => ?_)
        refine r_if_eq C 46 dX2_fewestBarriers_40 (by decide) (fun c_18 => ?_) (fun c_18 => ?_)
        · -- to 46
          refine r_aload_n C 4 dX2_fewestBarriers_46 rfl rfl ?_
          refine r_iload C 1 dX2_fewestBarriers_47 rfl ?_
          refine r_iload_n C 7 dX2_fewestBarriers_49 rfl rfl ?_
          refine r_aload_n C 4 dX2_fewestBarriers_50 rfl rfl ?_
          refine r_get C (k := 2) (v := .int (σ 2 7)) f_X2_34 (by decide) rfl rfl dX2_fewestBarriers_51 ?_
          refine r_iand C dX2_fewestBarriers_54 ?_
          refine r_nm (P := fun z => z = (u : Int32) &&& (σ 2 7)) rfl (fun z_19 hz_20 => ?_)
          refine r_callV C (k := 2) [.int (b), .int (z_19)] [] (c_X2_stepOver E ad σ  (b) (z_19) hI) lv_X2_55 (by decide) rfl rfl (by decide) (by decide) rfl rfl (Nat.le_of_ble_eq_true rfl) dX2_fewestBarriers_55 (fun r_21 τ_22 h_23 => ?_)
          obtain ⟨eh_23, h_23⟩ := h_23
          obtain rfl := eh_23.symm
          refine r_aload_n C 4 dX2_fewestBarriers_58 rfl rfl ?_
          refine r_iload C 2 dX2_fewestBarriers_59 rfl ?_
          refine r_iload_n C 7 dX2_fewestBarriers_61 rfl rfl ?_
          refine r_aload_n C 4 dX2_fewestBarriers_62 rfl rfl ?_
          refine r_get C (k := 2) (v := .int (σ 2 8)) f_X2_37 (by decide) rfl rfl dX2_fewestBarriers_63 ?_
          refine r_iand C dX2_fewestBarriers_66 ?_
          refine r_nm (P := fun z => z = (u : Int32) &&& (σ 2 8)) rfl (fun z_24 hz_25 => ?_)
          refine r_callV C (k := 2) [.int (a), .int (z_24)] [.int (r_21)] (c_X2_stepOver E ad σ  (a) (z_24) hI) lv_X2_55 (by decide) rfl rfl (by decide) (by decide) rfl rfl (Nat.le_of_ble_eq_true rfl) dX2_fewestBarriers_67 (fun r_26 τ_27 h_28 => ?_)
          obtain ⟨eh_28, h_28⟩ := h_28
          obtain rfl := eh_28.symm
          refine r_ior C dX2_fewestBarriers_70 ?_
          refine r_nm (P := fun z => z = (r_21 : Int32) ||| (r_26)) rfl (fun z_29 hz_30 => ?_)
          refine r_istore C [(8, .int (z_29)), (7, .int (i)), (6, .int (b)), (5, .int (a)), (4, .int (z_6)), (0, .ref (ad 2)), (1, .int (p)), (2, .int (q)), (3, .int (u))] dX2_fewestBarriers_71 (by decide) rfl ?_
          refine r_iload C 2 dX2_fewestBarriers_73 rfl ?_
          refine r_istore C [(5, .int (b)), (8, .int (z_29)), (7, .int (i)), (6, .int (b)), (4, .int (z_6)), (0, .ref (ad 2)), (1, .int (p)), (2, .int (q)), (3, .int (u))] dX2_fewestBarriers_75 (by decide) rfl ?_
          refine r_aload_n C 5 dX2_fewestBarriers_77 rfl rfl ?_
          refine r_iload C 1 dX2_fewestBarriers_78 rfl ?_
          refine r_iload C 4 dX2_fewestBarriers_80 rfl ?_
          refine r_callV C (k := 2) [.int (z_29), .int (z_6)] [] (c_X2_spread E ad σ  (z_29) (z_6) hI) lv_X2_47 (by decide) rfl rfl (by decide) (by decide) rfl rfl (Nat.le_of_ble_eq_true rfl) dX2_fewestBarriers_82 (fun r_31 τ_32 h_33 => ?_)
          obtain ⟨eh_33, h_33⟩ := h_33
          obtain rfl := eh_33.symm
          refine r_istore C [(6, .int (r_31)), (5, .int (b)), (8, .int (z_29)), (7, .int (i)), (4, .int (z_6)), (0, .ref (ad 2)), (1, .int (p)), (2, .int (q)), (3, .int (u))] dX2_fewestBarriers_85 (by decide) rfl ?_
          refine r_iinc C 3 (fun z => [(7, .int (z)), (6, .int (r_31)), (5, .int (b)), (8, .int (z_29)), (4, .int (z_6)), (0, .ref (ad 2)), (1, .int (p)), (2, .int (q)), (3, .int (u))]) dX2_fewestBarriers_87 rfl (by decide) (by decide) (by omega) (fun _ => rfl) (fun z_34 hz_35 => ?_)
          refine r_goto C 27 dX2_fewestBarriers_90 (by decide) ?_
          exact At.sub [0, 1, 2, 4, 5, 6, 7, 8] rfl (ih_27 (b : Int32) (r_31 : Int32) (z_34 : Int32) (by omega) (fun h hh => by have t := hf h hh; have t2 := ta_bit (p := p) (q := q) (by omega) (by omega); exact ⟨by rw [h_33 h, hz_30, h_23.1 h, h_28.1 h, t.1]; rcases t.2.1 with e | e <;> rw [e] <;> simp, Or.inr t.1, fun _ => by rw [hz_17, hz_15, t.1, t2] at c_18; split at c_18 <;> omega⟩) (by omega))
        · -- to 43
          refine r_iload C 0 dX2_fewestBarriers_43 rfl ?_
          exact r_iret C T dX2_fewestBarriers_45 (⟨rfl, fun h hh => by have t := (hf h hh).1; have t2 := ta_bit (p := p) (q := q) (by omega) (by omega); rw [hz_17, hz_15, t, t2] at c_18; have t3 := (hf h hh).2.2; split at c_18 <;> omega⟩)
  exact At.sub [0, 1, 2, 3, 4, 5, 6, 7] rfl (L_27 ((19 - (0 : Int32).toInt).toNat + 1) (0 : Int32) (r_10 : Int32) (0 : Int32) (by omega) (fun h hh => ⟨by rw [h_12 h, hz_9], Or.inl rfl, fun z => absurd z (by omega)⟩) (by omega))
set_option maxHeartbeats 4000000 in
set_option maxRecDepth 100000 in
theorem c_X2_pipesApart (E : Ev) (ad : Nat → Nat) (σ : Sg) (p : Int32) (q : Int32) (hI : IC σ) : Ct E ad yX2_pipesApart cX2_pipesApart 5 (some .int) 1 [.ref (ad 2), .int p, .int q] σ (fun r τ => τ = σ ∧ ((σ 2 6).toInt = 0 → (0 ≤ p.toInt ∧ p.toInt < 10 ∧ 0 ≤ q.toInt ∧ q.toInt < 10) → ((p.toInt = q.toInt → r.toInt = 0) ∧ (p.toInt ≠ q.toInt → r.toInt = -3))) ∧ (∀ A B g : Nat → Int32, (0 ≤ p.toInt ∧ p.toInt < 10 ∧ 0 ≤ q.toInt ∧ q.toInt < 10) → GS (σ 2 6).toInt (σ 5) A B g p.toInt → r.toInt = if (g q.toInt.toNat).toInt = 1000 then -3 else (g q.toInt.toNat).toInt)) := by
  have k_m3 : (-3 : Int32).toInt = -3 := by decide
  have k_0 : (0 : Int32).toInt = 0 := by decide
  have k_1 : (1 : Int32).toInt = 1 := by decide
  have k_10 : (10 : Int32).toInt = 10 := by decide
  have hJ := hI
  unfold IC at hJ
  refine ct_of RX2 rfl (by decide +kernel) [(0, .ref (ad 2)), (1, .int (p)), (2, .int (q))] rfl (Nat.le_of_ble_eq_true rfl) (fun G C T => ?_)
  refine r_iconst C (1) dX2_pipesApart_0 (by decide) ?_
  refine r_iload_n C 1 dX2_pipesApart_1 rfl rfl ?_
  refine r_ishl C dX2_pipesApart_2 ?_
  refine r_nm (P := fun z => z = (1 : Int32) <<< ((p : Int32) &&& 31)) rfl (fun z_1 hz_2 => ?_)
  refine r_istore_n C [(3, .int (z_1)), (0, .ref (ad 2)), (1, .int (p)), (2, .int (q))] dX2_pipesApart_3 rfl (by decide) rfl ?_
  refine r_iconst C (0) dX2_pipesApart_4 (by decide) ?_
  refine r_istore C [(4, .int (0)), (3, .int (z_1)), (0, .ref (ad 2)), (1, .int (p)), (2, .int (q))] dX2_pipesApart_5 (by decide) rfl ?_
  have L_7 : ∀ (n : Nat), ∀ (b : Int32) (i : Int32), (0 ≤ i.toInt ∧ i.toInt ≤ 10) → ((σ 2 6).toInt = 0 → (0 ≤ p.toInt ∧ p.toInt < 10 ∧ 0 ≤ q.toInt ∧ q.toInt < 10) → (b = (1 : Int32) <<< (p &&& 31) ∧ (0 < i.toInt → p.toInt ≠ q.toInt))) → (∀ A B g : Nat → Int32, (0 ≤ p.toInt ∧ p.toInt < 10 ∧ 0 ≤ q.toInt ∧ q.toInt < 10) → GS (σ 2 6).toInt (σ 5) A B g p.toInt → (∀ j : Nat, j < 10 → (bt b j = true ↔ (g j).toInt ≤ i.toInt)) ∧ i.toInt ≤ (g q.toInt.toNat).toInt) → 10 - i.toInt < (n : Int) → At E ad G 5 7 [(4, .int (i)), (3, .int (b)), (0, .ref (ad 2)), (1, .int (p)), (2, .int (q))] [] σ := by
    intro n
    induction n with
    | zero =>
      intro b i hi hf hg hm
      exact absurd hm (by omega)
    | succ n ih =>
      intro b i hi hf hg hm
      have ih_7 := ih
      clear ih
      refine r_iload C 0 dX2_pipesApart_7 rfl ?_
      refine r_bipush C (10) dX2_pipesApart_9 (by decide) ?_
      refine r_icmp_ge C 41 dX2_pipesApart_11 (by decide) (fun c_3 => ?_) (fun c_3 => ?_)
      · -- to 41
        refine r_bipush C (-3) dX2_pipesApart_41 (by decide) ?_
        exact r_iret C T dX2_pipesApart_43 (⟨rfl, fun h hh => by have t3 := (hf h hh).2; omega, fun A B g hh hG => by
            have t := hg A B g hh hG
            rw [if_pos (GS_end hG (by omega) (by omega))]; exact k_m3⟩)
      · -- to 14
        refine r_iload_n C 1 dX2_pipesApart_14 rfl rfl ?_
        refine r_iload_n C 4 dX2_pipesApart_15 rfl rfl ?_
        refine r_ishr C dX2_pipesApart_16 ?_
        refine r_nm (P := fun z => z = (b : Int32) >>> ((q : Int32) &&& 31)) rfl (fun z_4 hz_5 => ?_)
        refine r_iconst C (1) dX2_pipesApart_17 (by decide) ?_
        refine r_iand C dX2_pipesApart_18 ?_
        refine r_nm (P := fun z => z = (z_4 : Int32) &&& (1)) rfl (fun z_6 hz_7 => ?_)
        refine r_if_eq C 25 dX2_pipesApart_19 (by decide) (fun c_8 => ?_) (fun c_8 => ?_)
        · -- to 25
          refine r_aload_n C 2 dX2_pipesApart_25 rfl rfl ?_
          refine r_iload_n C 1 dX2_pipesApart_26 rfl rfl ?_
          refine r_aload_n C 2 dX2_pipesApart_27 rfl rfl ?_
          refine r_callV C (k := 2) [] [.int (b), .ref (ad 2)] (c_X2_allPipes E ad σ   ) lv_X2_58 (by decide) rfl rfl (by decide) (by decide) rfl rfl (Nat.le_of_ble_eq_true rfl) dX2_pipesApart_28 (fun r_9 τ_10 h_11 => ?_)
          obtain ⟨eh_11, h_11⟩ := h_11
          obtain rfl := eh_11.symm
          refine r_callV C (k := 2) [.int (b), .int (r_9)] [] (c_X2_stepOver E ad σ  (b) (r_9) hI) lv_X2_55 (by decide) rfl rfl (by decide) (by decide) rfl rfl (Nat.le_of_ble_eq_true rfl) dX2_pipesApart_31 (fun r_12 τ_13 h_14 => ?_)
          obtain ⟨eh_14, h_14⟩ := h_14
          obtain rfl := eh_14.symm
          refine r_istore_n C [(3, .int (r_12)), (4, .int (i)), (0, .ref (ad 2)), (1, .int (p)), (2, .int (q))] dX2_pipesApart_34 rfl (by decide) rfl ?_
          refine r_iinc C 1 (fun z => [(4, .int (z)), (3, .int (r_12)), (0, .ref (ad 2)), (1, .int (p)), (2, .int (q))]) dX2_pipesApart_35 rfl (by decide) (by decide) (by omega) (fun _ => rfl) (fun z_15 hz_16 => ?_)
          refine r_goto C 7 dX2_pipesApart_38 (by decide) ?_
          exact At.sub [0, 1, 2, 3, 4] rfl (ih_7 (r_12 : Int32) (z_15 : Int32) (by omega) (fun h hh => by have t := hf h hh; have t2 := ta_bit (p := p) (q := q) (by omega) (by omega); exact ⟨by rw [h_14.1 h, t.1], fun _ => by rw [hz_7, hz_5, t.1, t2] at c_8; split at c_8 <;> omega⟩) (fun A B g hh hG => by
              have t := hg A B g hh hG
              have t1 : ¬ (g q.toInt.toNat).toInt ≤ i.toInt := fun z => absurd ((has_ne (p := b) (q := q) (by omega)).mpr ((t.1 q.toInt.toNat (by omega)).mpr z)) (by rw [← hz_5, ← hz_7]; omega)
              rw [hz_16]
              exact ⟨GS_st hG (by omega) t.1 h_14.2 (fun k hk => by rw [h_11]; exact all_bt (by omega) hk), by omega⟩) (by omega))
        · -- to 22
          refine r_iload C 0 dX2_pipesApart_22 rfl ?_
          exact r_iret C T dX2_pipesApart_24 (⟨rfl, fun h hh => by have t := (hf h hh).1; have t2 := ta_bit (p := p) (q := q) (by omega) (by omega); rw [hz_7, hz_5, t, t2] at c_8; have t3 := (hf h hh).2; split at c_8 <;> omega, fun A B g hh hG => by
              have t := hg A B g hh hG
              have t2 := (has_ne (p := b) (q := q) (by omega)).mp (by rw [← hz_5, ← hz_7]; exact c_8)
              have t3 := (t.1 q.toInt.toNat (by omega)).mp t2
              rw [if_neg (by omega)]; omega⟩)
  exact At.sub [0, 1, 2, 3, 4] rfl (L_7 ((10 - (0 : Int32).toInt).toNat + 1) (z_1 : Int32) (0 : Int32) (by omega) (fun h hh => ⟨by rw [hz_2], fun z => absurd z (by omega)⟩) (fun A B g hh hG => ⟨by rw [hz_2, k_0]; exact GS_0 hG, by have t := hG.2.2.1 q.toInt.toNat (by omega); omega⟩) (by omega))
set_option maxHeartbeats 4000000 in
set_option maxRecDepth 100000 in
theorem c_X2_hoursOf (E : Ev) (ad : Nat → Nat) (σ : Sg) (p : Int32)  : Ct E ad yX2_hoursOf cX2_hoursOf 2 (some .int) 1 [.ref (ad 2), .int p] σ (fun r τ => τ = σ ∧ 0 ≤ r.toInt ∧ r.toInt ≤ 252 ∧ (σ 2 7 = 0 → σ 2 8 = 0 → r.toInt = 0)) := by
  have k_1 : (1 : Int32).toInt = 1 := by decide
  have k_3 : (3 : Int32).toInt = 3 := by decide
  refine ct_of RX2 rfl (by decide +kernel) [(0, .ref (ad 2)), (1, .int (p))] rfl (Nat.le_of_ble_eq_true rfl) (fun G C T => ?_)
  refine r_iconst C (1) dX2_hoursOf_0 (by decide) ?_
  refine r_iload_n C 1 dX2_hoursOf_1 rfl rfl ?_
  refine r_aload_n C 0 dX2_hoursOf_2 rfl rfl ?_
  refine r_get C (k := 2) (v := .int (σ 2 7)) f_X2_34 (by decide) rfl rfl dX2_hoursOf_3 ?_
  refine r_iand C dX2_hoursOf_6 ?_
  refine r_nm (P := fun z => z = (p : Int32) &&& (σ 2 7)) rfl (fun z_1 hz_2 => ?_)
  refine r_callS C [.int (z_1)] [.int (1)] (c_J6_bitCount_0f7a4 E ad σ  (z_1) ) ls_X2_62 (by decide) (by decide) rfl rfl (Nat.le_of_ble_eq_true rfl) dX2_hoursOf_7 (fun r_3 τ_4 h_5 => ?_)
  obtain ⟨eh_5, h_5⟩ := h_5
  obtain rfl := eh_5.symm
  refine r_imul C dX2_hoursOf_10 ?_
  refine r_nm (P := fun z => z.toInt = 1 * (r_3 : Int32).toInt ∧ z = (1) * (r_3)) ⟨ta_mulL k_1 (by omega), rfl⟩ (fun z_6 hz_7 => ?_)
  refine r_iconst C (3) dX2_hoursOf_11 (by decide) ?_
  refine r_iload_n C 1 dX2_hoursOf_12 rfl rfl ?_
  refine r_aload_n C 0 dX2_hoursOf_13 rfl rfl ?_
  refine r_get C (k := 2) (v := .int (σ 2 8)) f_X2_37 (by decide) rfl rfl dX2_hoursOf_14 ?_
  refine r_iand C dX2_hoursOf_17 ?_
  refine r_nm (P := fun z => z = (p : Int32) &&& (σ 2 8)) rfl (fun z_8 hz_9 => ?_)
  refine r_callS C [.int (z_8)] [.int (3), .int (z_6)] (c_J6_bitCount_0f7a4 E ad σ  (z_8) ) ls_X2_62 (by decide) (by decide) rfl rfl (Nat.le_of_ble_eq_true rfl) dX2_hoursOf_18 (fun r_10 τ_11 h_12 => ?_)
  obtain ⟨eh_12, h_12⟩ := h_12
  obtain rfl := eh_12.symm
  refine r_imul C dX2_hoursOf_21 ?_
  refine r_nm (P := fun z => z.toInt = 3 * (r_10 : Int32).toInt ∧ z = (3) * (r_10)) ⟨ta_mulL k_3 (by omega), rfl⟩ (fun z_13 hz_14 => ?_)
  refine r_iadd C dX2_hoursOf_22 ?_
  refine r_nm (P := fun z => z.toInt = (z_6 : Int32).toInt + (z_13 : Int32).toInt ∧ z = (z_6) + (z_13)) ⟨ta_add (by omega), rfl⟩ (fun z_15 hz_16 => ?_)
  exact r_iret C T dX2_hoursOf_23 (⟨rfl, by omega, by omega, fun h1 h2 => by have e1 := h_5.1; have e2 := h_12.1; rw [hz_2, h1] at e1; rw [hz_9, h2] at e2; have e3 : bcF (p &&& 0) = 0 := (by rw [Int32.and_zero]; decide); rw [e3] at e1 e2; rw [e1] at hz_7; rw [e2] at hz_14; have k0 : (0 : Int32).toInt = 0 := rfl; omega⟩)
set_option maxHeartbeats 4000000 in
set_option maxRecDepth 100000 in
theorem c_X2_isBetter (E : Ev) (ad : Nat → Nat) (σ : Sg) (p : Int32) (q : Int32)  : Ct E ad yX2_isBetter cX2_isBetter 5 (some .boolean) 2 [.ref (ad 2), .int p, .int q] σ (fun r τ => τ = σ ∧ (r.toInt = 0 ∨ r.toInt = 1)) := by
  have k_0 : (0 : Int32).toInt = 0 := by decide
  have k_1 : (1 : Int32).toInt = 1 := by decide
  refine ct_of RX2 rfl (by decide +kernel) [(0, .ref (ad 2)), (1, .int (p)), (2, .int (q))] rfl (Nat.le_of_ble_eq_true rfl) (fun G C T => ?_)
  refine r_aload_n C 0 dX2_isBetter_0 rfl rfl ?_
  refine r_iload_n C 1 dX2_isBetter_1 rfl rfl ?_
  refine r_callV C (k := 2) [.int (p)] [] (c_X2_hoursOf E ad σ  (p) ) lv_X2_81 (by decide) rfl rfl (by decide) (by decide) rfl rfl (Nat.le_of_ble_eq_true rfl) dX2_isBetter_2 (fun r_1 τ_2 h_3 => ?_)
  obtain ⟨eh_3, h_3⟩ := h_3
  obtain rfl := eh_3.symm
  refine r_aload_n C 0 dX2_isBetter_5 rfl rfl ?_
  refine r_iload_n C 2 dX2_isBetter_6 rfl rfl ?_
  refine r_callV C (k := 2) [.int (q)] [.int (r_1)] (c_X2_hoursOf E ad σ  (q) ) lv_X2_81 (by decide) rfl rfl (by decide) (by decide) rfl rfl (Nat.le_of_ble_eq_true rfl) dX2_isBetter_7 (fun r_4 τ_5 h_6 => ?_)
  obtain ⟨eh_6, h_6⟩ := h_6
  obtain rfl := eh_6.symm
  refine r_icmp_eq C 32 dX2_isBetter_10 (by decide) (fun c_7 => ?_) (fun c_7 => ?_)
  · -- to 32
    refine r_iload_n C 1 dX2_isBetter_32 rfl rfl ?_
    refine r_callS C [.int (p)] [] (c_J6_bitCount_0f7a4 E ad σ  (p) ) ls_X2_62 (by decide) (by decide) rfl rfl (Nat.le_of_ble_eq_true rfl) dX2_isBetter_33 (fun r_8 τ_9 h_10 => ?_)
    obtain ⟨eh_10, h_10⟩ := h_10
    obtain rfl := eh_10.symm
    refine r_iload_n C 2 dX2_isBetter_36 rfl rfl ?_
    refine r_callS C [.int (q)] [.int (r_8)] (c_J6_bitCount_0f7a4 E ad σ  (q) ) ls_X2_62 (by decide) (by decide) rfl rfl (Nat.le_of_ble_eq_true rfl) dX2_isBetter_37 (fun r_11 τ_12 h_13 => ?_)
    obtain ⟨eh_13, h_13⟩ := h_13
    obtain rfl := eh_13.symm
    refine r_icmp_eq C 60 dX2_isBetter_40 (by decide) (fun c_14 => ?_) (fun c_14 => ?_)
    · -- to 60
      refine r_iload_n C 1 dX2_isBetter_60 rfl rfl ?_
      refine r_iload_n C 2 dX2_isBetter_61 rfl rfl ?_
      refine r_ixor C dX2_isBetter_62 ?_
      refine r_nm (P := fun z => z = (p : Int32) ^^^ (q)) rfl (fun z_15 hz_16 => ?_)
      refine r_istore_n C [(3, .int (z_15)), (0, .ref (ad 2)), (1, .int (p)), (2, .int (q))] dX2_isBetter_63 rfl (by decide) rfl ?_
      refine r_iload_n C 0 dX2_isBetter_64 rfl rfl ?_
      refine r_iload_n C 0 dX2_isBetter_65 rfl rfl ?_
      refine r_ineg C dX2_isBetter_66 ?_
      refine r_nm (P := fun z => z = -(z_15 : Int32)) rfl (fun z_17 hz_18 => ?_)
      refine r_iand C dX2_isBetter_67 ?_
      refine r_nm (P := fun z => z = (z_15 : Int32) &&& (z_17)) rfl (fun z_19 hz_20 => ?_)
      refine r_istore C [(4, .int (z_19)), (3, .int (z_15)), (0, .ref (ad 2)), (1, .int (p)), (2, .int (q))] dX2_isBetter_68 (by decide) rfl ?_
      refine r_iload_n C 3 dX2_isBetter_70 rfl rfl ?_
      refine r_iload C 0 dX2_isBetter_71 rfl ?_
      refine r_iand C dX2_isBetter_73 ?_
      refine r_nm (P := fun z => z = (p : Int32) &&& (z_19)) rfl (fun z_21 hz_22 => ?_)
      refine r_if_eq C 81 dX2_isBetter_74 (by decide) (fun c_23 => ?_) (fun c_23 => ?_)
      · -- to 81
        refine r_iconst C (0) dX2_isBetter_81 (by decide) ?_
        exact r_zret C T dX2_isBetter_82 (by omega) (⟨rfl, by omega⟩)
      · -- to 77
        refine r_iconst C (1) dX2_isBetter_77 (by decide) ?_
        refine r_goto C 82 dX2_isBetter_78 (by decide) ?_
        exact r_zret C T dX2_isBetter_82 (by omega) (⟨rfl, by omega⟩)
    · -- to 43
      refine r_iload_n C 1 dX2_isBetter_43 rfl rfl ?_
      refine r_callS C [.int (p)] [] (c_J6_bitCount_0f7a4 E ad σ  (p) ) ls_X2_62 (by decide) (by decide) rfl rfl (Nat.le_of_ble_eq_true rfl) dX2_isBetter_44 (fun r_24 τ_25 h_26 => ?_)
      obtain ⟨eh_26, h_26⟩ := h_26
      obtain rfl := eh_26.symm
      refine r_iload_n C 2 dX2_isBetter_47 rfl rfl ?_
      refine r_callS C [.int (q)] [.int (r_24)] (c_J6_bitCount_0f7a4 E ad σ  (q) ) ls_X2_62 (by decide) (by decide) rfl rfl (Nat.le_of_ble_eq_true rfl) dX2_isBetter_48 (fun r_27 τ_28 h_29 => ?_)
      obtain ⟨eh_29, h_29⟩ := h_29
      obtain rfl := eh_29.symm
      refine r_icmp_ge C 58 dX2_isBetter_51 (by decide) (fun c_30 => ?_) (fun c_30 => ?_)
      · -- to 58
        refine r_iconst C (0) dX2_isBetter_58 (by decide) ?_
        exact r_zret C T dX2_isBetter_59 (by omega) (⟨rfl, by omega⟩)
      · -- to 54
        refine r_iconst C (1) dX2_isBetter_54 (by decide) ?_
        refine r_goto C 59 dX2_isBetter_55 (by decide) ?_
        exact r_zret C T dX2_isBetter_59 (by omega) (⟨rfl, by omega⟩)
  · -- to 13
    refine r_aload_n C 0 dX2_isBetter_13 rfl rfl ?_
    refine r_iload_n C 1 dX2_isBetter_14 rfl rfl ?_
    refine r_callV C (k := 2) [.int (p)] [] (c_X2_hoursOf E ad σ  (p) ) lv_X2_81 (by decide) rfl rfl (by decide) (by decide) rfl rfl (Nat.le_of_ble_eq_true rfl) dX2_isBetter_15 (fun r_31 τ_32 h_33 => ?_)
    obtain ⟨eh_33, h_33⟩ := h_33
    obtain rfl := eh_33.symm
    refine r_aload_n C 0 dX2_isBetter_18 rfl rfl ?_
    refine r_iload_n C 2 dX2_isBetter_19 rfl rfl ?_
    refine r_callV C (k := 2) [.int (q)] [.int (r_31)] (c_X2_hoursOf E ad σ  (q) ) lv_X2_81 (by decide) rfl rfl (by decide) (by decide) rfl rfl (Nat.le_of_ble_eq_true rfl) dX2_isBetter_20 (fun r_34 τ_35 h_36 => ?_)
    obtain ⟨eh_36, h_36⟩ := h_36
    obtain rfl := eh_36.symm
    refine r_icmp_ge C 30 dX2_isBetter_23 (by decide) (fun c_37 => ?_) (fun c_37 => ?_)
    · -- to 30
      refine r_iconst C (0) dX2_isBetter_30 (by decide) ?_
      exact r_zret C T dX2_isBetter_31 (by omega) (⟨rfl, by omega⟩)
    · -- to 26
      refine r_iconst C (1) dX2_isBetter_26 (by decide) ?_
      refine r_goto C 31 dX2_isBetter_27 (by decide) ?_
      exact r_zret C T dX2_isBetter_31 (by omega) (⟨rfl, by omega⟩)
set_option maxHeartbeats 4000000 in
set_option maxRecDepth 100000 in
theorem c_X2_thinned (E : Ev) (ad : Nat → Nat) (σ : Sg) (p : Int32) (q : Int32) (hI : IC σ) : Ct E ad yX2_thinned cX2_thinned 6 (some .int) 2 [.ref (ad 2), .int p, .int q] σ (fun r τ => τ = σ ∧ True) := by
  have k_m1 : (-1 : Int32).toInt = -1 := by decide
  have k_1 : (1 : Int32).toInt = 1 := by decide
  have hJ := hI
  unfold IC at hJ
  refine ct_of RX2 rfl (by decide +kernel) [(0, .ref (ad 2)), (1, .int (p)), (2, .int (q))] rfl (Nat.le_of_ble_eq_true rfl) (fun G C T => ?_)
  refine r_aload_n C 0 dX2_thinned_0 rfl rfl ?_
  refine r_callV C (k := 2) [] [] (c_X2_allFittings E ad σ   ) lv_X2_71 (by decide) rfl rfl (by decide) (by decide) rfl rfl (Nat.le_of_ble_eq_true rfl) dX2_thinned_1 (fun r_1 τ_2 h_3 => ?_)
  obtain ⟨eh_3, h_3⟩ := h_3
  obtain rfl := eh_3.symm
  refine r_istore_n C [(3, .int (r_1)), (0, .ref (ad 2)), (1, .int (p)), (2, .int (q))] dX2_thinned_4 rfl (by decide) rfl ?_
  refine r_aload_n C 1 dX2_thinned_5 rfl rfl ?_
  refine r_get C (k := 2) (v := .int (σ 2 6)) f_X2_30 (by decide) rfl rfl dX2_thinned_6 ?_
  refine r_iconst C (1) dX2_thinned_9 (by decide) ?_
  refine r_isub C dX2_thinned_10 ?_
  refine r_nm (P := fun z => z.toInt = (σ 2 6 : Int32).toInt - (1 : Int32).toInt ∧ z = (σ 2 6) - (1)) ⟨ta_sub (by omega), rfl⟩ (fun z_4 hz_5 => ?_)
  refine r_istore C [(4, .int (z_4)), (3, .int (r_1)), (0, .ref (ad 2)), (1, .int (p)), (2, .int (q))] dX2_thinned_11 (by decide) rfl ?_
  have L_13 : ∀ (n : Nat), ∀ (a : Int32) (i : Int32), (-1 ≤ i.toInt ∧ i.toInt ≤ 11) → i.toInt + 1 < (n : Int) → At E ad G 6 13 [(4, .int (i)), (3, .int (a)), (0, .ref (ad 2)), (1, .int (p)), (2, .int (q))] [] σ := by
    intro n
    induction n with
    | zero =>
      intro a i hi hm
      exact absurd hm (by omega)
    | succ n ih =>
      intro a i hi hm
      have ih_13 := ih
      clear ih
      refine r_iload C 0 dX2_thinned_13 rfl ?_
      refine r_if_lt C 58 dX2_thinned_15 (by decide) (fun c_6 => ?_) (fun c_6 => ?_)
      · -- to 58
        refine r_iload_n C 1 dX2_thinned_58 rfl rfl ?_
        exact r_iret C T dX2_thinned_59 (⟨rfl, trivial⟩)
      · -- to 18
        refine r_iload_n C 1 dX2_thinned_18 rfl rfl ?_
        refine r_iconst C (1) dX2_thinned_19 (by decide) ?_
        refine r_iload C 0 dX2_thinned_20 rfl ?_
        refine r_ishl C dX2_thinned_22 ?_
        refine r_nm (P := fun z => z = (1 : Int32) <<< ((i : Int32) &&& 31)) rfl (fun z_7 hz_8 => ?_)
        refine r_iconst C (-1) dX2_thinned_23 (by decide) ?_
        refine r_ixor C dX2_thinned_24 ?_
        refine r_nm (P := fun z => z = (z_7 : Int32) ^^^ ((-1))) rfl (fun z_9 hz_10 => ?_)
        refine r_iand C dX2_thinned_25 ?_
        refine r_nm (P := fun z => z = (a : Int32) &&& (z_9)) rfl (fun z_11 hz_12 => ?_)
        refine r_istore C [(5, .int (z_11)), (4, .int (i)), (3, .int (a)), (0, .ref (ad 2)), (1, .int (p)), (2, .int (q))] dX2_thinned_26 (by decide) rfl ?_
        refine r_iload C 0 dX2_thinned_28 rfl ?_
        refine r_iload_n C 2 dX2_thinned_30 rfl rfl ?_
        refine r_icmp_eq C 52 dX2_thinned_31 (by decide) (fun c_13 => ?_) (fun c_13 => ?_)
        · -- to 52
          refine r_iinc C 1 (fun z => [(4, .int (z)), (5, .int (z_11)), (3, .int (a)), (0, .ref (ad 2)), (1, .int (p)), (2, .int (q))]) dX2_thinned_52 rfl (by decide) (by decide) (by omega) (fun _ => rfl) (fun z_14 hz_15 => ?_)
          refine r_goto C 13 dX2_thinned_55 (by decide) ?_
          exact At.sub [0, 2, 3, 4, 5] rfl (ih_13 (a : Int32) (z_14 : Int32) (by omega) (by omega))
        · -- to 34
          refine r_aload_n C 3 dX2_thinned_34 rfl rfl ?_
          refine r_iload_n C 4 dX2_thinned_35 rfl rfl ?_
          refine r_iload C 0 dX2_thinned_36 rfl ?_
          refine r_aload_n C 3 dX2_thinned_38 rfl rfl ?_
          refine r_callV C (k := 2) [] [.int (z_11), .int (p), .ref (ad 2)] (c_X2_allPipes E ad σ   ) lv_X2_58 (by decide) rfl rfl (by decide) (by decide) rfl rfl (Nat.le_of_ble_eq_true rfl) dX2_thinned_39 (fun r_16 τ_17 h_18 => ?_)
          obtain ⟨eh_18, h_18⟩ := h_18
          obtain rfl := eh_18.symm
          refine r_iload_n C 5 dX2_thinned_42 rfl rfl ?_
          refine r_callV C (k := 2) [.int (p), .int (z_11), .int (r_16), .int (q)] [] (c_X2_isSafe E ad σ  (p) (z_11) (r_16) (q) hI) lv_X2_67 (by decide) rfl rfl (by decide) (by decide) rfl rfl (Nat.le_of_ble_eq_true rfl) dX2_thinned_43 (fun r_19 τ_20 h_21 => ?_)
          obtain ⟨eh_21, h_21⟩ := h_21
          obtain rfl := eh_21.symm
          refine r_if_eq C 52 dX2_thinned_46 (by decide) (fun c_22 => ?_) (fun c_22 => ?_)
          · -- to 52
            refine r_iinc C 1 (fun z => [(4, .int (z)), (5, .int (z_11)), (3, .int (a)), (0, .ref (ad 2)), (1, .int (p)), (2, .int (q))]) dX2_thinned_52 rfl (by decide) (by decide) (by omega) (fun _ => rfl) (fun z_23 hz_24 => ?_)
            refine r_goto C 13 dX2_thinned_55 (by decide) ?_
            exact At.sub [0, 2, 3, 4, 5] rfl (ih_13 (a : Int32) (z_23 : Int32) (by omega) (by omega))
          · -- to 49
            refine r_iload C 0 dX2_thinned_49 rfl ?_
            refine r_istore_n C [(3, .int (z_11)), (5, .int (z_11)), (4, .int (i)), (0, .ref (ad 2)), (1, .int (p)), (2, .int (q))] dX2_thinned_51 rfl (by decide) rfl ?_
            refine r_iinc C 2 (fun z => [(4, .int (z)), (3, .int (z_11)), (5, .int (z_11)), (0, .ref (ad 2)), (1, .int (p)), (2, .int (q))]) dX2_thinned_52 rfl (by decide) (by decide) (by omega) (fun _ => rfl) (fun z_25 hz_26 => ?_)
            refine r_goto C 13 dX2_thinned_55 (by decide) ?_
            exact At.sub [0, 1, 3, 4, 5] rfl (ih_13 (z_11 : Int32) (z_25 : Int32) (by omega) (by omega))
  exact At.sub [0, 1, 2, 3, 4] rfl (L_13 (((z_4 : Int32).toInt + 1).toNat + 1) (r_1 : Int32) (z_4 : Int32) (by omega) (by omega))
