/-! WHAT HOLDS BETWEEN CALLS, of the class's cells -/
def IC (σ : Sg) : Prop := (0 ≤ (σ 2 6).toInt ∧ (σ 2 6).toInt ≤ 12) ∧ (0 ≤ (σ 9 6).toInt ∧ (σ 9 6).toInt ≤ 12) ∧ (0 ≤ (σ 16 8).toInt ∧ (σ 16 8).toInt ≤ 7) ∧ (0 ≤ (σ 0 8).toInt ∧ (σ 0 8).toInt ≤ 300) ∧ (0 ≤ (σ 27 1).toInt ∧ (σ 27 1).toInt ≤ 60) ∧ (0 ≤ (σ 32 3).toInt ∧ (σ 32 3).toInt ≤ 7) ∧ (0 ≤ (σ 32 5).toInt ∧ (σ 32 5).toInt ≤ 28)
set_option maxHeartbeats 4000000 in
set_option maxRecDepth 100000 in
theorem c_X8_isPlace (E : Ev) (ad : Nat → Nat) (σ : Sg) (p : Int32)  : Ct E ad yX8_isPlace cX8_isPlace 1 (some .boolean) 0 [.int p] σ (fun r τ => τ = σ ∧ ((r.toInt = 1 ∧ 0 ≤ p.toInt ∧ p.toInt < 10) ∨ (r.toInt = 0 ∧ ¬ (0 ≤ p.toInt ∧ p.toInt < 10)))) := by
  have k_0 : (0 : Int32).toInt = 0 := by decide
  have k_1 : (1 : Int32).toInt = 1 := by decide
  have k_10 : (10 : Int32).toInt = 10 := by decide
  refine ct_of RX8 rfl (by decide +kernel) [(0, .int (p))] rfl (Nat.le_of_ble_eq_true rfl) (fun G C T => ?_)
  refine r_iload_n C 0 dX8_isPlace_0 rfl rfl ?_
  refine r_if_lt C 14 dX8_isPlace_1 (by decide) (fun c_1 => ?_) (fun c_1 => ?_)
  · -- to 14
    refine r_iconst C (0) dX8_isPlace_14 (by decide) ?_
    exact r_zret C T dX8_isPlace_15 (by omega) ⟨rfl, by omega⟩
  · -- to 4
    refine r_iload_n C 0 dX8_isPlace_4 rfl rfl ?_
    refine r_bipush C (10) dX8_isPlace_5 (by decide) ?_
    refine r_icmp_ge C 14 dX8_isPlace_7 (by decide) (fun c_2 => ?_) (fun c_2 => ?_)
    · -- to 14
      refine r_iconst C (0) dX8_isPlace_14 (by decide) ?_
      exact r_zret C T dX8_isPlace_15 (by omega) ⟨rfl, by omega⟩
    · -- to 10
      refine r_iconst C (1) dX8_isPlace_10 (by decide) ?_
      refine r_goto C 15 dX8_isPlace_11 (by decide) ?_
      exact r_zret C T dX8_isPlace_15 (by omega) ⟨rfl, by omega⟩
set_option maxHeartbeats 4000000 in
set_option maxRecDepth 100000 in
theorem c_X8_isMan (E : Ev) (ad : Nat → Nat) (σ : Sg) (p : Int32)  : Ct E ad yX8_isMan cX8_isMan 1 (some .boolean) 0 [.int p] σ (fun r τ => τ = σ ∧ ((r.toInt = 1 ∧ 0 ≤ p.toInt ∧ p.toInt < 8) ∨ (r.toInt = 0 ∧ ¬ (0 ≤ p.toInt ∧ p.toInt < 8)))) := by
  have k_0 : (0 : Int32).toInt = 0 := by decide
  have k_1 : (1 : Int32).toInt = 1 := by decide
  have k_8 : (8 : Int32).toInt = 8 := by decide
  refine ct_of RX8 rfl (by decide +kernel) [(0, .int (p))] rfl (Nat.le_of_ble_eq_true rfl) (fun G C T => ?_)
  refine r_iload_n C 0 dX8_isMan_0 rfl rfl ?_
  refine r_if_lt C 14 dX8_isMan_1 (by decide) (fun c_1 => ?_) (fun c_1 => ?_)
  · -- to 14
    refine r_iconst C (0) dX8_isMan_14 (by decide) ?_
    exact r_zret C T dX8_isMan_15 (by omega) ⟨rfl, by omega⟩
  · -- to 4
    refine r_iload_n C 0 dX8_isMan_4 rfl rfl ?_
    refine r_bipush C (8) dX8_isMan_5 (by decide) ?_
    refine r_icmp_ge C 14 dX8_isMan_7 (by decide) (fun c_2 => ?_) (fun c_2 => ?_)
    · -- to 14
      refine r_iconst C (0) dX8_isMan_14 (by decide) ?_
      exact r_zret C T dX8_isMan_15 (by omega) ⟨rfl, by omega⟩
    · -- to 10
      refine r_iconst C (1) dX8_isMan_10 (by decide) ?_
      refine r_goto C 15 dX8_isMan_11 (by decide) ?_
      exact r_zret C T dX8_isMan_15 (by omega) ⟨rfl, by omega⟩
set_option maxHeartbeats 4000000 in
set_option maxRecDepth 100000 in
theorem c_X2_has (E : Ev) (ad : Nat → Nat) (σ : Sg) (p : Int32)  : Ct E ad yX2_has cX2_has 2 (some .boolean) 0 [.ref (ad 2), .int p] σ (fun r τ => τ = σ ∧ ((r.toInt = 1 ∧ 0 ≤ p.toInt ∧ p.toInt < (σ 2 6).toInt) ∨ (r.toInt = 0 ∧ ¬ (0 ≤ p.toInt ∧ p.toInt < (σ 2 6).toInt)))) := by
  have k_0 : (0 : Int32).toInt = 0 := by decide
  have k_1 : (1 : Int32).toInt = 1 := by decide
  refine ct_of RX2 rfl (by decide +kernel) [(0, .ref (ad 2)), (1, .int (p))] rfl (Nat.le_of_ble_eq_true rfl) (fun G C T => ?_)
  refine r_iload_n C 1 dX2_has_0 rfl rfl ?_
  refine r_if_lt C 16 dX2_has_1 (by decide) (fun c_1 => ?_) (fun c_1 => ?_)
  · -- to 16
    refine r_iconst C (0) dX2_has_16 (by decide) ?_
    exact r_zret C T dX2_has_17 (by omega) ⟨rfl, by omega⟩
  · -- to 4
    refine r_iload_n C 1 dX2_has_4 rfl rfl ?_
    refine r_aload_n C 0 dX2_has_5 rfl rfl ?_
    refine r_get C (k := 2) (v := .int (σ 2 6)) f_X2_30 (by decide) rfl rfl dX2_has_6 ?_
    refine r_icmp_ge C 16 dX2_has_9 (by decide) (fun c_2 => ?_) (fun c_2 => ?_)
    · -- to 16
      refine r_iconst C (0) dX2_has_16 (by decide) ?_
      exact r_zret C T dX2_has_17 (by omega) ⟨rfl, by omega⟩
    · -- to 12
      refine r_iconst C (1) dX2_has_12 (by decide) ?_
      refine r_goto C 17 dX2_has_13 (by decide) ?_
      exact r_zret C T dX2_has_17 (by omega) ⟨rfl, by omega⟩
set_option maxHeartbeats 4000000 in
set_option maxRecDepth 100000 in
theorem c_X2_hasFitting (E : Ev) (ad : Nat → Nat) (σ : Sg) (p : Int32) (hI : IC σ) : Ct E ad yX2_hasFitting cX2_hasFitting 2 (some .boolean) 1 [.ref (ad 2), .int p] σ (fun r τ => τ = σ ∧ ((r.toInt = 1 ∧ 0 ≤ p.toInt ∧ p.toInt < (σ 2 6).toInt ∧ (σ 6 p.toInt.toNat).toInt ≠ 2) ∨ (r.toInt = 0 ∧ ¬ (0 ≤ p.toInt ∧ p.toInt < (σ 2 6).toInt ∧ (σ 6 p.toInt.toNat).toInt ≠ 2)))) := by
  have k_0 : (0 : Int32).toInt = 0 := by decide
  have k_1 : (1 : Int32).toInt = 1 := by decide
  have k_2 : (2 : Int32).toInt = 2 := by decide
  have hJ := hI
  unfold IC at hJ
  refine ct_of RX2 rfl (by decide +kernel) [(0, .ref (ad 2)), (1, .int (p))] rfl (Nat.le_of_ble_eq_true rfl) (fun G C T => ?_)
  refine r_aload_n C 0 dX2_hasFitting_0 rfl rfl ?_
  refine r_iload_n C 1 dX2_hasFitting_1 rfl rfl ?_
  refine r_callV C (k := 2) [.int (p)] [] (c_X2_has E ad σ  (p) ) lv_X2_43 (by decide) rfl rfl (by decide) (by decide) rfl rfl (Nat.le_of_ble_eq_true rfl) dX2_hasFitting_2 (fun r_1 τ_2 h_3 => ?_)
  obtain ⟨eh_3, h_3⟩ := h_3
  obtain rfl := eh_3.symm
  refine r_if_eq C 22 dX2_hasFitting_5 (by decide) (fun c_4 => ?_) (fun c_4 => ?_)
  · -- to 22
    refine r_iconst C (0) dX2_hasFitting_22 (by decide) ?_
    exact r_zret C T dX2_hasFitting_23 (by omega) ⟨rfl, by omega⟩
  · -- to 8
    refine r_aload_n C 0 dX2_hasFitting_8 rfl rfl ?_
    refine r_get C (k := 2) (v := .ref (ad 6)) f_X2_21 (by decide) rfl rfl dX2_hasFitting_9 ?_
    refine r_iload_n C 1 dX2_hasFitting_12 rfl rfl ?_
    refine r_iald C (k := 6) (by decide) rfl (by omega) (σ 6 ((p : Int32).toInt.toNat)) rfl dX2_hasFitting_13 ?_
    refine r_iconst C (2) dX2_hasFitting_14 (by decide) ?_
    refine r_icmp_eq C 22 dX2_hasFitting_15 (by decide) (fun c_5 => ?_) (fun c_5 => ?_)
    · -- to 22
      refine r_iconst C (0) dX2_hasFitting_22 (by decide) ?_
      exact r_zret C T dX2_hasFitting_23 (by omega) ⟨rfl, by omega⟩
    · -- to 18
      refine r_iconst C (1) dX2_hasFitting_18 (by decide) ?_
      refine r_goto C 23 dX2_hasFitting_19 (by decide) ?_
      exact r_zret C T dX2_hasFitting_23 (by omega) ⟨rfl, by omega⟩
set_option maxHeartbeats 4000000 in
set_option maxRecDepth 100000 in
theorem c_X2_allPipes (E : Ev) (ad : Nat → Nat) (σ : Sg)   : Ct E ad yX2_allPipes cX2_allPipes 1 (some .int) 0 [.ref (ad 2)] σ (fun r τ => τ = σ ∧ r = ((1 : Int32) <<< ((σ 2 6) &&& 31)) - 1) := by
  have k_1 : (1 : Int32).toInt = 1 := by decide
  refine ct_of RX2 rfl (by decide +kernel) [(0, .ref (ad 2))] rfl (Nat.le_of_ble_eq_true rfl) (fun G C T => ?_)
  refine r_iconst C (1) dX2_allPipes_0 (by decide) ?_
  refine r_aload_n C 0 dX2_allPipes_1 rfl rfl ?_
  refine r_get C (k := 2) (v := .int (σ 2 6)) f_X2_30 (by decide) rfl rfl dX2_allPipes_2 ?_
  refine r_ishl C dX2_allPipes_5 ?_
  refine r_nm (P := fun z => z = (1 : Int32) <<< ((σ 2 6 : Int32) &&& 31)) rfl (fun z_1 hz_2 => ?_)
  refine r_iconst C (1) dX2_allPipes_6 (by decide) ?_
  refine r_isub C dX2_allPipes_7 ?_
  refine r_nm (P := fun z => z = (z_1) - (1)) rfl (fun z_3 hz_4 => ?_)
  exact r_iret C T dX2_allPipes_8 ⟨rfl, by subst hz_2; exact hz_4⟩
set_option maxHeartbeats 4000000 in
set_option maxRecDepth 100000 in
theorem c_X2_knownAt (E : Ev) (ad : Nat → Nat) (σ : Sg) (p : Int32) (hI : IC σ) : Ct E ad yX2_knownAt cX2_knownAt 4 (some .int) 0 [.ref (ad 2), .int p] σ (fun r τ => τ = σ ∧ True) := by
  have k_0 : (0 : Int32).toInt = 0 := by decide
  have k_1 : (1 : Int32).toInt = 1 := by decide
  have hJ := hI
  unfold IC at hJ
  refine ct_of RX2 rfl (by decide +kernel) [(0, .ref (ad 2)), (1, .int (p))] rfl (Nat.le_of_ble_eq_true rfl) (fun G C T => ?_)
  refine r_iconst C (0) dX2_knownAt_0 (by decide) ?_
  refine r_istore_n C [(2, .int (0)), (0, .ref (ad 2)), (1, .int (p))] dX2_knownAt_1 rfl (by decide) rfl ?_
  refine r_iconst C (0) dX2_knownAt_2 (by decide) ?_
  refine r_istore_n C [(3, .int (0)), (2, .int (0)), (0, .ref (ad 2)), (1, .int (p))] dX2_knownAt_3 rfl (by decide) rfl ?_
  have L_4 : ∀ (n : Nat), ∀ (a : Int32) (i : Int32), (0 ≤ i.toInt ∧ i.toInt ≤ 12) → 12 - i.toInt < (n : Int) → At E ad G 4 4 [(3, .int (i)), (2, .int (a)), (0, .ref (ad 2)), (1, .int (p))] [] σ := by
    intro n
    induction n with
    | zero =>
      intro a i hi hm
      exact absurd hm (by omega)
    | succ n ih =>
      intro a i hi hm
      have ih_4 := ih
      clear ih
      refine r_iload_n C 0 dX2_knownAt_4 rfl rfl ?_
      refine r_aload_n C 2 dX2_knownAt_5 rfl rfl ?_
      refine r_get C (k := 2) (v := .int (σ 2 6)) f_X2_30 (by decide) rfl rfl dX2_knownAt_6 ?_
      refine r_icmp_ge C 38 dX2_knownAt_9 (by decide) (fun c_1 => ?_) (fun c_1 => ?_)
      · -- to 38
        refine r_iload_n C 1 dX2_knownAt_38 rfl rfl ?_
        exact r_iret C T dX2_knownAt_39 ⟨rfl, trivial⟩
      · -- to 12
        refine r_iload_n C 1 dX2_knownAt_12 rfl rfl ?_
        refine r_aload_n C 2 dX2_knownAt_13 rfl rfl ?_
        refine r_get C (k := 2) (v := .ref (ad 7)) f_X2_24 (by decide) rfl rfl dX2_knownAt_14 ?_
        refine r_iload_n C 0 dX2_knownAt_17 rfl rfl ?_
        refine r_iald C (k := 7) (by decide) rfl (by omega) (σ 7 ((i : Int32).toInt.toNat)) rfl dX2_knownAt_18 ?_
        refine r_iload_n C 3 dX2_knownAt_19 rfl rfl ?_
        refine r_icmp_gt C 29 dX2_knownAt_20 (by decide) (fun c_2 => ?_) (fun c_2 => ?_)
        · -- to 29
          refine r_iconst C (0) dX2_knownAt_29 (by decide) ?_
          refine r_ior C dX2_knownAt_30 ?_
          refine r_nm (P := fun z => z = (a : Int32) ||| (0)) rfl (fun z_3 hz_4 => ?_)
          refine r_istore_n C [(2, .int (z_3)), (3, .int (i)), (0, .ref (ad 2)), (1, .int (p))] dX2_knownAt_31 rfl (by decide) rfl ?_
          refine r_iinc C 1 (fun z => [(3, .int (z)), (2, .int (z_3)), (0, .ref (ad 2)), (1, .int (p))]) dX2_knownAt_32 rfl (by decide) (by decide) (by omega) (fun _ => rfl) (fun z_5 hz_6 => ?_)
          refine r_goto C 4 dX2_knownAt_35 (by decide) ?_
          exact At.sub [0, 1, 2, 3] rfl (ih_4 (z_3 : Int32) (z_5 : Int32) (by omega) (by omega))
        · -- to 23
          refine r_iconst C (1) dX2_knownAt_23 (by decide) ?_
          refine r_iload_n C 0 dX2_knownAt_24 rfl rfl ?_
          refine r_ishl C dX2_knownAt_25 ?_
          refine r_nm (P := fun z => z = (1 : Int32) <<< ((i : Int32) &&& 31)) rfl (fun z_7 hz_8 => ?_)
          refine r_goto C 30 dX2_knownAt_26 (by decide) ?_
          refine r_ior C dX2_knownAt_30 ?_
          refine r_nm (P := fun z => z = (a : Int32) ||| (z_7)) rfl (fun z_9 hz_10 => ?_)
          refine r_istore_n C [(2, .int (z_9)), (3, .int (i)), (0, .ref (ad 2)), (1, .int (p))] dX2_knownAt_31 rfl (by decide) rfl ?_
          refine r_iinc C 1 (fun z => [(3, .int (z)), (2, .int (z_9)), (0, .ref (ad 2)), (1, .int (p))]) dX2_knownAt_32 rfl (by decide) (by decide) (by omega) (fun _ => rfl) (fun z_11 hz_12 => ?_)
          refine r_goto C 4 dX2_knownAt_35 (by decide) ?_
          exact At.sub [0, 1, 2, 3] rfl (ih_4 (z_9 : Int32) (z_11 : Int32) (by omega) (by omega))
  exact At.sub [0, 1, 2, 3] rfl (L_4 ((12 - (0 : Int32).toInt).toNat + 1) (0 : Int32) (0 : Int32) (by omega) (by omega))
set_option maxHeartbeats 4000000 in
set_option maxRecDepth 100000 in
theorem c_X3_locksOf (E : Ev) (ad : Nat → Nat) (σ : Sg) (p : Int32) (hp : 0 ≤ p.toInt ∧ p.toInt < 7) : Ct E ad yX3_locksOf cX3_locksOf 2 (some .int) 0 [.ref (ad 16), .int p] σ (fun r τ => τ = σ ∧ True) := by
  have k_0 : (0 : Int32).toInt = 0 := by decide
  have k_1 : (1 : Int32).toInt = 1 := by decide
  have k_5 : (5 : Int32).toInt = 5 := by decide
  refine ct_of RX3 rfl (by decide +kernel) [(0, .ref (ad 16)), (1, .int (p))] rfl (Nat.le_of_ble_eq_true rfl) (fun G C T => ?_)
  refine r_aload_n C 0 dX3_locksOf_0 rfl rfl ?_
  refine r_get C (k := 16) (v := .ref (ad 20)) f_X3_21 (by decide) rfl rfl dX3_locksOf_1 ?_
  refine r_iload_n C 1 dX3_locksOf_4 rfl rfl ?_
  refine r_iald C (k := 20) (by decide) rfl (by omega) (σ 20 ((p : Int32).toInt.toNat)) rfl dX3_locksOf_5 ?_
  refine r_iconst C (1) dX3_locksOf_6 (by decide) ?_
  refine r_icmp_lt C 29 dX3_locksOf_7 (by decide) (fun c_1 => ?_) (fun c_1 => ?_)
  · -- to 29
    refine r_iconst C (0) dX3_locksOf_29 (by decide) ?_
    exact r_iret C T dX3_locksOf_30 ⟨rfl, trivial⟩
  · -- to 10
    refine r_aload_n C 0 dX3_locksOf_10 rfl rfl ?_
    refine r_get C (k := 16) (v := .ref (ad 20)) f_X3_21 (by decide) rfl rfl dX3_locksOf_11 ?_
    refine r_iload_n C 1 dX3_locksOf_14 rfl rfl ?_
    refine r_iald C (k := 20) (by decide) rfl (by omega) (σ 20 ((p : Int32).toInt.toNat)) rfl dX3_locksOf_15 ?_
    refine r_iconst C (5) dX3_locksOf_16 (by decide) ?_
    refine r_icmp_ge C 29 dX3_locksOf_17 (by decide) (fun c_2 => ?_) (fun c_2 => ?_)
    · -- to 29
      refine r_iconst C (0) dX3_locksOf_29 (by decide) ?_
      exact r_iret C T dX3_locksOf_30 ⟨rfl, trivial⟩
    · -- to 20
      refine r_aload_n C 0 dX3_locksOf_20 rfl rfl ?_
      refine r_get C (k := 16) (v := .ref (ad 19)) f_X3_18 (by decide) rfl rfl dX3_locksOf_21 ?_
      refine r_iload_n C 1 dX3_locksOf_24 rfl rfl ?_
      refine r_iald C (k := 19) (by decide) rfl (by omega) (σ 19 ((p : Int32).toInt.toNat)) rfl dX3_locksOf_25 ?_
      refine r_goto C 30 dX3_locksOf_26 (by decide) ?_
      exact r_iret C T dX3_locksOf_30 ⟨rfl, trivial⟩
set_option maxHeartbeats 4000000 in
set_option maxRecDepth 100000 in
theorem c_X3_lockedPipes (E : Ev) (ad : Nat → Nat) (σ : Sg)  (hI : IC σ) : Ct E ad yX3_lockedPipes cX3_lockedPipes 3 (some .int) 1 [.ref (ad 16)] σ (fun r τ => τ = σ ∧ True) := by
  have k_0 : (0 : Int32).toInt = 0 := by decide
  have hJ := hI
  unfold IC at hJ
  refine ct_of RX3 rfl (by decide +kernel) [(0, .ref (ad 16))] rfl (Nat.le_of_ble_eq_true rfl) (fun G C T => ?_)
  refine r_iconst C (0) dX3_lockedPipes_0 (by decide) ?_
  refine r_istore_n C [(1, .int (0)), (0, .ref (ad 16))] dX3_lockedPipes_1 rfl (by decide) rfl ?_
  refine r_iconst C (0) dX3_lockedPipes_2 (by decide) ?_
  refine r_istore_n C [(2, .int (0)), (1, .int (0)), (0, .ref (ad 16))] dX3_lockedPipes_3 rfl (by decide) rfl ?_
  have L_4 : ∀ (n : Nat), ∀ (a : Int32) (i : Int32), (0 ≤ i.toInt ∧ i.toInt ≤ 7) → 7 - i.toInt < (n : Int) → At E ad G 3 4 [(2, .int (i)), (1, .int (a)), (0, .ref (ad 16))] [] σ := by
    intro n
    induction n with
    | zero =>
      intro a i hi hm
      exact absurd hm (by omega)
    | succ n ih =>
      intro a i hi hm
      have ih_4 := ih
      clear ih
      refine r_iload_n C 0 dX3_lockedPipes_4 rfl rfl ?_
      refine r_aload_n C 2 dX3_lockedPipes_5 rfl rfl ?_
      refine r_get C (k := 16) (v := .int (σ 16 8)) f_X3_36 (by decide) rfl rfl dX3_lockedPipes_6 ?_
      refine r_icmp_ge C 26 dX3_lockedPipes_9 (by decide) (fun c_1 => ?_) (fun c_1 => ?_)
      · -- to 26
        refine r_iload_n C 1 dX3_lockedPipes_26 rfl rfl ?_
        exact r_iret C T dX3_lockedPipes_27 ⟨rfl, trivial⟩
      · -- to 12
        refine r_iload_n C 1 dX3_lockedPipes_12 rfl rfl ?_
        refine r_aload_n C 2 dX3_lockedPipes_13 rfl rfl ?_
        refine r_iload_n C 0 dX3_lockedPipes_14 rfl rfl ?_
        refine r_callV C (k := 16) [.int (i)] [.int (a)] (c_X3_locksOf E ad σ  (i) (by omega)) lv_X3_40 (by decide) rfl rfl (by decide) (by decide) rfl rfl (Nat.le_of_ble_eq_true rfl) dX3_lockedPipes_15 (fun r_2 τ_3 h_4 => ?_)
        obtain ⟨eh_4, h_4⟩ := h_4
        obtain rfl := eh_4.symm
        refine r_ior C dX3_lockedPipes_18 ?_
        refine r_nm (P := fun z => z = (a : Int32) ||| (r_2)) rfl (fun z_5 hz_6 => ?_)
        refine r_istore_n C [(1, .int (z_5)), (2, .int (i)), (0, .ref (ad 16))] dX3_lockedPipes_19 rfl (by decide) rfl ?_
        refine r_iinc C 1 (fun z => [(2, .int (z)), (1, .int (z_5)), (0, .ref (ad 16))]) dX3_lockedPipes_20 rfl (by decide) (by decide) (by omega) (fun _ => rfl) (fun z_7 hz_8 => ?_)
        refine r_goto C 4 dX3_lockedPipes_23 (by decide) ?_
        exact At.sub [0, 1, 2] rfl (ih_4 (z_5 : Int32) (z_7 : Int32) (by omega) (by omega))
  exact At.sub [0, 1, 2] rfl (L_4 ((7 - (0 : Int32).toInt).toNat + 1) (0 : Int32) (0 : Int32) (by omega) (by omega))
set_option maxHeartbeats 4000000 in
set_option maxRecDepth 100000 in
theorem c_X2_stepOver (E : Ev) (ad : Nat → Nat) (σ : Sg) (p : Int32) (q : Int32) (hI : IC σ) : Ct E ad yX2_stepOver cX2_stepOver 5 (some .int) 0 [.ref (ad 2), .int p, .int q] σ (fun r τ => τ = σ ∧ True) := by
  have k_0 : (0 : Int32).toInt = 0 := by decide
  have k_1 : (1 : Int32).toInt = 1 := by decide
  have hJ := hI
  unfold IC at hJ
  refine ct_of RX2 rfl (by decide +kernel) [(0, .ref (ad 2)), (1, .int (p)), (2, .int (q))] rfl (Nat.le_of_ble_eq_true rfl) (fun G C T => ?_)
  refine r_iload_n C 1 dX2_stepOver_0 rfl rfl ?_
  refine r_istore_n C [(3, .int (p)), (0, .ref (ad 2)), (1, .int (p)), (2, .int (q))] dX2_stepOver_1 rfl (by decide) rfl ?_
  refine r_iconst C (0) dX2_stepOver_2 (by decide) ?_
  refine r_istore C [(4, .int (0)), (3, .int (p)), (0, .ref (ad 2)), (1, .int (p)), (2, .int (q))] dX2_stepOver_3 (by decide) rfl ?_
  have L_5 : ∀ (n : Nat), ∀ (a : Int32) (i : Int32), (0 ≤ i.toInt ∧ i.toInt ≤ 12) → 12 - i.toInt < (n : Int) → At E ad G 5 5 [(4, .int (i)), (3, .int (a)), (0, .ref (ad 2)), (1, .int (p)), (2, .int (q))] [] σ := by
    intro n
    induction n with
    | zero =>
      intro a i hi hm
      exact absurd hm (by omega)
    | succ n ih =>
      intro a i hi hm
      have ih_5 := ih
      clear ih
      refine r_iload C 0 dX2_stepOver_5 rfl ?_
      refine r_aload_n C 2 dX2_stepOver_7 rfl rfl ?_
      refine r_get C (k := 2) (v := .int (σ 2 6)) f_X2_30 (by decide) rfl rfl dX2_stepOver_8 ?_
      refine r_icmp_ge C 51 dX2_stepOver_11 (by decide) (fun c_1 => ?_) (fun c_1 => ?_)
      · -- to 51
        refine r_iload_n C 1 dX2_stepOver_51 rfl rfl ?_
        exact r_iret C T dX2_stepOver_52 ⟨rfl, trivial⟩
      · -- to 14
        refine r_iload_n C 4 dX2_stepOver_14 rfl rfl ?_
        refine r_iload C 0 dX2_stepOver_15 rfl ?_
        refine r_ishr C dX2_stepOver_17 ?_
        refine r_nm (P := fun z => z = (q : Int32) >>> ((i : Int32) &&& 31)) rfl (fun z_2 hz_3 => ?_)
        refine r_iconst C (1) dX2_stepOver_18 (by decide) ?_
        refine r_iand C dX2_stepOver_19 ?_
        refine r_nm (P := fun z => z = (z_2 : Int32) &&& (1)) rfl (fun z_4 hz_5 => ?_)
        refine r_if_eq C 45 dX2_stepOver_20 (by decide) (fun c_6 => ?_) (fun c_6 => ?_)
        · -- to 45
          refine r_iinc C 0 (fun z => [(4, .int (z)), (3, .int (a)), (0, .ref (ad 2)), (1, .int (p)), (2, .int (q))]) dX2_stepOver_45 rfl (by decide) (by decide) (by omega) (fun _ => rfl) (fun z_7 hz_8 => ?_)
          refine r_goto C 5 dX2_stepOver_48 (by decide) ?_
          exact At.sub [0, 1, 2, 3, 4] rfl (ih_5 (a : Int32) (z_7 : Int32) (by omega) (by omega))
        · -- to 23
          refine r_aload_n C 2 dX2_stepOver_23 rfl rfl ?_
          refine r_get C (k := 2) (v := .ref (ad 5)) f_X2_18 (by decide) rfl rfl dX2_stepOver_24 ?_
          refine r_iload C 0 dX2_stepOver_27 rfl ?_
          refine r_iald C (k := 5) (by decide) rfl (by omega) (σ 5 ((i : Int32).toInt.toNat)) rfl dX2_stepOver_29 ?_
          refine r_iload_n C 3 dX2_stepOver_30 rfl rfl ?_
          refine r_iand C dX2_stepOver_31 ?_
          refine r_nm (P := fun z => z = (σ 5 ((i : Int32).toInt.toNat) : Int32) &&& (p)) rfl (fun z_9 hz_10 => ?_)
          refine r_if_eq C 45 dX2_stepOver_32 (by decide) (fun c_11 => ?_) (fun c_11 => ?_)
          · -- to 45
            refine r_iinc C 0 (fun z => [(4, .int (z)), (3, .int (a)), (0, .ref (ad 2)), (1, .int (p)), (2, .int (q))]) dX2_stepOver_45 rfl (by decide) (by decide) (by omega) (fun _ => rfl) (fun z_12 hz_13 => ?_)
            refine r_goto C 5 dX2_stepOver_48 (by decide) ?_
            exact At.sub [0, 1, 2, 3, 4] rfl (ih_5 (a : Int32) (z_12 : Int32) (by omega) (by omega))
          · -- to 35
            refine r_iload_n C 1 dX2_stepOver_35 rfl rfl ?_
            refine r_aload_n C 2 dX2_stepOver_36 rfl rfl ?_
            refine r_get C (k := 2) (v := .ref (ad 5)) f_X2_18 (by decide) rfl rfl dX2_stepOver_37 ?_
            refine r_iload C 0 dX2_stepOver_40 rfl ?_
            refine r_iald C (k := 5) (by decide) rfl (by omega) (σ 5 ((i : Int32).toInt.toNat)) rfl dX2_stepOver_42 ?_
            refine r_ior C dX2_stepOver_43 ?_
            refine r_nm (P := fun z => z = (a : Int32) ||| (σ 5 ((i : Int32).toInt.toNat))) rfl (fun z_14 hz_15 => ?_)
            refine r_istore_n C [(3, .int (z_14)), (4, .int (i)), (0, .ref (ad 2)), (1, .int (p)), (2, .int (q))] dX2_stepOver_44 rfl (by decide) rfl ?_
            refine r_iinc C 1 (fun z => [(4, .int (z)), (3, .int (z_14)), (0, .ref (ad 2)), (1, .int (p)), (2, .int (q))]) dX2_stepOver_45 rfl (by decide) (by decide) (by omega) (fun _ => rfl) (fun z_16 hz_17 => ?_)
            refine r_goto C 5 dX2_stepOver_48 (by decide) ?_
            exact At.sub [0, 1, 2, 3, 4] rfl (ih_5 (z_14 : Int32) (z_16 : Int32) (by omega) (by omega))
  exact At.sub [0, 1, 2, 3, 4] rfl (L_5 ((12 - (0 : Int32).toInt).toNat + 1) (p : Int32) (0 : Int32) (by omega) (by omega))
