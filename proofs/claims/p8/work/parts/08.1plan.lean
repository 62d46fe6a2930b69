set_option maxHeartbeats 4000000 in
set_option maxRecDepth 100000 in
theorem c_X4_movesThrough (E : Ev) (ad : Nat → Nat) (σ : Sg) (p : Int32) (q : Int32) (u : Int32) (hq : 0 ≤ q.toInt ∧ q.toInt < 7) (hu : 0 ≤ u.toInt ∧ u.toInt ≤ 127) : Ct E ad yX4_movesThrough cX4_movesThrough 5 (some .int) 1 [.ref (ad 32), .int p, .int q, .int u] σ (fun r τ => τ = σ ∧ True) := by
  have k_m1 : (-1 : Int32).toInt = -1 := by decide
  have k_1 : (1 : Int32).toInt = 1 := by decide
  have k_7 : (7 : Int32).toInt = 7 := by decide
  refine ct_of RX4 rfl (by decide +kernel) [(0, .ref (ad 32)), (1, .int (p)), (2, .int (q)), (3, .int (u))] rfl (Nat.le_of_ble_eq_true rfl) (fun G C T => ?_)
  refine r_iload_n C 3 dX4_movesThrough_0 rfl rfl ?_
  refine r_iconst C (1) dX4_movesThrough_1 (by decide) ?_
  refine r_iload_n C 2 dX4_movesThrough_2 rfl rfl ?_
  refine r_ishl C dX4_movesThrough_3 ?_
  refine r_nm (P := fun z => z = (1 : Int32) <<< ((q : Int32) &&& 31)) rfl (fun z_1 hz_2 => ?_)
  refine r_iconst C (-1) dX4_movesThrough_4 (by decide) ?_
  refine r_ixor C dX4_movesThrough_5 ?_
  refine r_nm (P := fun z => z = (z_1 : Int32) ^^^ ((-1))) rfl (fun z_3 hz_4 => ?_)
  refine r_iand C dX4_movesThrough_6 ?_
  refine r_nm (P := fun z => 0 ≤ z.toInt ∧ z.toInt ≤ 127) (ta_and127 hu) (fun z_5 hz_6 => ?_)
  refine r_istore C [(4, .int (z_5)), (0, .ref (ad 32)), (1, .int (p)), (2, .int (q)), (3, .int (u))] dX4_movesThrough_7 (by decide) rfl ?_
  refine r_iload_n C 2 dX4_movesThrough_9 rfl rfl ?_
  refine r_aload_n C 1 dX4_movesThrough_10 rfl rfl ?_
  refine r_get C (k := 32) (v := .ref (ad 37)) f_X4_38 (by decide) rfl rfl dX4_movesThrough_11 ?_
  refine r_iload_n C 3 dX4_movesThrough_14 rfl rfl ?_
  refine r_iald C (k := 37) (by decide) rfl (by omega) (σ 37 ((q : Int32).toInt.toNat)) rfl dX4_movesThrough_15 ?_
  refine r_ixor C dX4_movesThrough_16 ?_
  refine r_nm (P := fun z => z = (p : Int32) ^^^ (σ 37 ((q : Int32).toInt.toNat))) rfl (fun z_8 hz_9 => ?_)
  refine r_callS C [.int (z_8)] [] (c_J6_bitCount_0f7a4 E ad σ  (z_8) ) ls_X4_73 (by decide) (by decide) rfl rfl (Nat.le_of_ble_eq_true rfl) dX4_movesThrough_17 (fun r_10 τ_11 h_12 => ?_)
  obtain ⟨eh_12, h_12⟩ := h_12
  obtain rfl := eh_12.symm
  refine r_aload_n C 1 dX4_movesThrough_20 rfl rfl ?_
  refine r_get C (k := 32) (v := .ref (ad 38)) f_X4_41 (by decide) rfl rfl dX4_movesThrough_21 ?_
  refine r_iload C 0 dX4_movesThrough_24 rfl ?_
  refine r_bipush C (7) dX4_movesThrough_26 (by decide) ?_
  refine r_imul C dX4_movesThrough_28 ?_
  refine r_nm (P := fun z => z.toInt = 7 * (z_5 : Int32).toInt ∧ z = (z_5) * (7)) ⟨ta_mulR k_7 (by omega), rfl⟩ (fun z_13 hz_14 => ?_)
  refine r_iload_n C 3 dX4_movesThrough_29 rfl rfl ?_
  refine r_iadd C dX4_movesThrough_30 ?_
  refine r_nm (P := fun z => z.toInt = (z_13 : Int32).toInt + (q : Int32).toInt ∧ z = (z_13) + (q)) ⟨ta_add (by omega), rfl⟩ (fun z_15 hz_16 => ?_)
  refine r_iald C (k := 38) (by decide) rfl (by omega) (σ 38 ((z_15 : Int32).toInt.toNat)) rfl dX4_movesThrough_31 ?_
  refine r_iadd C dX4_movesThrough_32 ?_
  refine r_nm (P := fun z => z = (r_10) + (σ 38 ((z_15 : Int32).toInt.toNat))) rfl (fun z_18 hz_19 => ?_)
  exact r_iret C T dX4_movesThrough_33 (⟨rfl, trivial⟩)
set_option maxHeartbeats 4000000 in
set_option maxRecDepth 100000 in
theorem c_X4_fewestLeft (E : Ev) (ad : Nat → Nat) (σ : Sg) (p : Int32) (q : Int32) (hs : (σ 32 3).toInt ≤ 7) (hp : 0 ≤ p.toInt ∧ p.toInt ≤ 127) (hq : 0 ≤ q.toInt ∧ q.toInt < 7) : Ct E ad yX4_fewestLeft cX4_fewestLeft 5 (some .int) 2 [.ref (ad 32), .int p, .int q] σ (fun r τ => τ = σ ∧ True) := by
  have k_0 : (0 : Int32).toInt = 0 := by decide
  have k_1 : (1 : Int32).toInt = 1 := by decide
  have k_1000 : (1000 : Int32).toInt = 1000 := by decide
  refine ct_of RX4 rfl (by decide +kernel) [(0, .ref (ad 32)), (1, .int (p)), (2, .int (q))] rfl (Nat.le_of_ble_eq_true rfl) (fun G C T => ?_)
  refine r_iload_n C 1 dX4_fewestLeft_0 rfl rfl ?_
  refine r_if_ne C 14 dX4_fewestLeft_1 (by decide) (fun c_1 => ?_) (fun c_1 => ?_)
  · -- to 14
    refine r_sipush C (1000) dX4_fewestLeft_14 (by decide) ?_
    refine r_istore_n C [(3, .int (1000)), (0, .ref (ad 32)), (1, .int (p)), (2, .int (q))] dX4_fewestLeft_17 rfl (by decide) rfl ?_
    refine r_iconst C (0) dX4_fewestLeft_18 (by decide) ?_
    refine r_istore C [(4, .int (0)), (3, .int (1000)), (0, .ref (ad 32)), (1, .int (p)), (2, .int (q))] dX4_fewestLeft_19 (by decide) rfl ?_
    have L_21 : ∀ (n : Nat), ∀ (a : Int32) (i : Int32), (0 ≤ i.toInt ∧ i.toInt ≤ 7) → 7 - i.toInt < (n : Int) → At E ad G 5 21 [(4, .int (i)), (3, .int (a)), (0, .ref (ad 32)), (1, .int (p)), (2, .int (q))] [] σ := by
      intro n
      induction n with
      | zero =>
        intro a i hi hm
        exact absurd hm (by omega)
      | succ n ih =>
        intro a i hi hm
        have ih_21 := ih
        clear ih
        refine r_iload C 0 dX4_fewestLeft_21 rfl ?_
        refine r_aload_n C 2 dX4_fewestLeft_23 rfl rfl ?_
        refine r_get C (k := 32) (v := .int (σ 32 3)) f_X4_21 (by decide) rfl rfl dX4_fewestLeft_24 ?_
        refine r_icmp_ge C 63 dX4_fewestLeft_27 (by decide) (fun c_2 => ?_) (fun c_2 => ?_)
        · -- to 63
          refine r_iload_n C 1 dX4_fewestLeft_63 rfl rfl ?_
          exact r_iret C T dX4_fewestLeft_64 (⟨rfl, trivial⟩)
        · -- to 30
          refine r_iload_n C 3 dX4_fewestLeft_30 rfl rfl ?_
          refine r_iload C 0 dX4_fewestLeft_31 rfl ?_
          refine r_ishr C dX4_fewestLeft_33 ?_
          refine r_nm (P := fun z => z = (p : Int32) >>> ((i : Int32) &&& 31)) rfl (fun z_3 hz_4 => ?_)
          refine r_iconst C (1) dX4_fewestLeft_34 (by decide) ?_
          refine r_iand C dX4_fewestLeft_35 ?_
          refine r_nm (P := fun z => z = (z_3 : Int32) &&& (1)) rfl (fun z_5 hz_6 => ?_)
          refine r_if_eq C 57 dX4_fewestLeft_36 (by decide) (fun c_7 => ?_) (fun c_7 => ?_)
          · -- to 57
            refine r_iinc C 0 (fun z => [(4, .int (z)), (3, .int (a)), (0, .ref (ad 32)), (1, .int (p)), (2, .int (q))]) dX4_fewestLeft_57 rfl (by decide) (by decide) (by omega) (fun _ => rfl) (fun z_8 hz_9 => ?_)
            refine r_goto C 21 dX4_fewestLeft_60 (by decide) ?_
            exact At.sub [0, 1, 2, 3, 4] rfl (ih_21 (a : Int32) (z_8 : Int32) (by omega) (by omega))
          · -- to 39
            refine r_iload_n C 1 dX4_fewestLeft_39 rfl rfl ?_
            refine r_aload_n C 2 dX4_fewestLeft_40 rfl rfl ?_
            refine r_aload_n C 2 dX4_fewestLeft_41 rfl rfl ?_
            refine r_get C (k := 32) (v := .ref (ad 37)) f_X4_38 (by decide) rfl rfl dX4_fewestLeft_42 ?_
            refine r_iload_n C 4 dX4_fewestLeft_45 rfl rfl ?_
            refine r_iald C (k := 37) (by decide) rfl (by omega) (σ 37 ((q : Int32).toInt.toNat)) rfl dX4_fewestLeft_46 ?_
            refine r_iload C 0 dX4_fewestLeft_47 rfl ?_
            refine r_iload_n C 3 dX4_fewestLeft_49 rfl rfl ?_
            refine r_callV C (k := 32) [.int (σ 37 ((q : Int32).toInt.toNat)), .int (i), .int (p)] [.int (a)] (c_X4_movesThrough E ad σ  (σ 37 ((q : Int32).toInt.toNat)) (i) (p) (by omega) (by omega)) lv_X4_79 (by decide) rfl rfl (by decide) (by decide) rfl rfl (Nat.le_of_ble_eq_true rfl) dX4_fewestLeft_50 (fun r_11 τ_12 h_13 => ?_)
            obtain ⟨eh_13, h_13⟩ := h_13
            obtain rfl := eh_13.symm
            refine r_min C lm_min (by decide) (by decide) dX4_fewestLeft_53 (fun z_14 hz_15 => ?_)
            refine r_istore_n C [(3, .int (z_14)), (4, .int (i)), (0, .ref (ad 32)), (1, .int (p)), (2, .int (q))] dX4_fewestLeft_56 rfl (by decide) rfl ?_
            refine r_iinc C 1 (fun z => [(4, .int (z)), (3, .int (z_14)), (0, .ref (ad 32)), (1, .int (p)), (2, .int (q))]) dX4_fewestLeft_57 rfl (by decide) (by decide) (by omega) (fun _ => rfl) (fun z_16 hz_17 => ?_)
            refine r_goto C 21 dX4_fewestLeft_60 (by decide) ?_
            exact At.sub [0, 1, 2, 3, 4] rfl (ih_21 (z_14 : Int32) (z_16 : Int32) (by omega) (by omega))
    exact At.sub [0, 1, 2, 3, 4] rfl (L_21 ((7 - (0 : Int32).toInt).toNat + 1) (1000 : Int32) (0 : Int32) (by omega) (by omega))
  · -- to 4
    refine r_aload_n C 0 dX4_fewestLeft_4 rfl rfl ?_
    refine r_get C (k := 32) (v := .ref (ad 37)) f_X4_38 (by decide) rfl rfl dX4_fewestLeft_5 ?_
    refine r_iload_n C 2 dX4_fewestLeft_8 rfl rfl ?_
    refine r_iald C (k := 37) (by decide) rfl (by omega) (σ 37 ((q : Int32).toInt.toNat)) rfl dX4_fewestLeft_9 ?_
    refine r_callS C [.int (σ 37 ((q : Int32).toInt.toNat))] [] (c_J6_bitCount_0f7a4 E ad σ  (σ 37 ((q : Int32).toInt.toNat)) ) ls_X4_73 (by decide) (by decide) rfl rfl (Nat.le_of_ble_eq_true rfl) dX4_fewestLeft_10 (fun r_19 τ_20 h_21 => ?_)
    obtain ⟨eh_21, h_21⟩ := h_21
    obtain rfl := eh_21.symm
    exact r_iret C T dX4_fewestLeft_13 (⟨rfl, trivial⟩)
set_option maxHeartbeats 4000000 in
set_option maxRecDepth 100000 in
theorem c_X4_addRow (E : Ev) (ad : Nat → Nat) (σ : Sg) (p : Int32) (q : Int32) (u : Int32) (hc : 0 ≤ (σ 32 4).toInt ∧ (σ 32 4).toInt ≤ 28) : CtV E ad yX4_addRow cX4_addRow 4 0 [.ref (ad 32), .int p, .int q, .int u] σ (fun τ => Off [32, 34] σ τ ∧ (∀ j, j ≠ 4 → τ 32 j = σ 32 j) ∧ 0 ≤ (τ 32 4).toInt ∧ (τ 32 4).toInt ≤ 28) := by
  have k_1 : (1 : Int32).toInt = 1 := by decide
  have k_2 : (2 : Int32).toInt = 2 := by decide
  have k_3 : (3 : Int32).toInt = 3 := by decide
  have k_28 : (28 : Int32).toInt = 28 := by decide
  refine ctv_of RX4 rfl (by decide +kernel) [(0, .ref (ad 32)), (1, .int (p)), (2, .int (q)), (3, .int (u))] rfl (Nat.le_of_ble_eq_true rfl) (fun G C T => ?_)
  refine r_aload_n C 0 dX4_addRow_0 rfl rfl ?_
  refine r_get C (k := 32) (v := .int (σ 32 4)) f_X4_25 (by decide) rfl rfl dX4_addRow_1 ?_
  refine r_bipush C (28) dX4_addRow_4 (by decide) ?_
  refine r_icmp_lt C 10 dX4_addRow_6 (by decide) (fun c_1 => ?_) (fun c_1 => ?_)
  · -- to 10
    refine r_aload_n C 0 dX4_addRow_10 rfl rfl ?_
    refine r_get C (k := 32) (v := .ref (ad 34)) f_X4_15 (by decide) rfl rfl dX4_addRow_11 ?_
    refine r_aload_n C 0 dX4_addRow_14 rfl rfl ?_
    refine r_get C (k := 32) (v := .int (σ 32 4)) f_X4_25 (by decide) rfl rfl dX4_addRow_15 ?_
    refine r_iconst C (3) dX4_addRow_18 (by decide) ?_
    refine r_imul C dX4_addRow_19 ?_
    refine r_nm (P := fun z => z.toInt = 3 * (σ 32 4 : Int32).toInt ∧ z = (σ 32 4) * (3)) ⟨ta_mulR k_3 (by omega), rfl⟩ (fun z_2 hz_3 => ?_)
    refine r_iload_n C 1 dX4_addRow_20 rfl rfl ?_
    refine r_iast C (k := 34) (by decide) (fun _ => rfl) (by omega) dX4_addRow_21 ?_
    refine r_aload_n C 0 dX4_addRow_22 rfl rfl ?_
    refine r_get C (k := 32) (v := .ref (ad 34)) f_X4_15 (by decide) rfl rfl dX4_addRow_23 ?_
    refine r_aload_n C 0 dX4_addRow_26 rfl rfl ?_
    refine r_get C (k := 32) (v := .int (σ 32 4)) f_X4_25 (by decide) rfl rfl dX4_addRow_27 ?_
    refine r_iconst C (3) dX4_addRow_30 (by decide) ?_
    refine r_imul C dX4_addRow_31 ?_
    refine r_nm (P := fun z => z.toInt = 3 * (σ 32 4 : Int32).toInt ∧ z = (σ 32 4) * (3)) ⟨ta_mulR k_3 (by omega), rfl⟩ (fun z_4 hz_5 => ?_)
    refine r_iconst C (1) dX4_addRow_32 (by decide) ?_
    refine r_iadd C dX4_addRow_33 ?_
    refine r_nm (P := fun z => z.toInt = (z_4 : Int32).toInt + (1 : Int32).toInt ∧ z = (z_4) + (1)) ⟨ta_add (by omega), rfl⟩ (fun z_6 hz_7 => ?_)
    refine r_iload_n C 2 dX4_addRow_34 rfl rfl ?_
    refine r_iast C (k := 34) (by decide) (fun _ => rfl) (by omega) dX4_addRow_35 ?_
    refine r_aload_n C 0 dX4_addRow_36 rfl rfl ?_
    refine r_get C (k := 32) (v := .ref (ad 34)) f_X4_15 (by decide) rfl rfl dX4_addRow_37 ?_
    refine r_aload_n C 0 dX4_addRow_40 rfl rfl ?_
    refine r_get C (k := 32) (v := .int (σ 32 4)) f_X4_25 (by decide) rfl rfl dX4_addRow_41 ?_
    refine r_iconst C (3) dX4_addRow_44 (by decide) ?_
    refine r_imul C dX4_addRow_45 ?_
    refine r_nm (P := fun z => z.toInt = 3 * (σ 32 4 : Int32).toInt ∧ z = (σ 32 4) * (3)) ⟨ta_mulR k_3 (by omega), rfl⟩ (fun z_8 hz_9 => ?_)
    refine r_iconst C (2) dX4_addRow_46 (by decide) ?_
    refine r_iadd C dX4_addRow_47 ?_
    refine r_nm (P := fun z => z.toInt = (z_8 : Int32).toInt + (2 : Int32).toInt ∧ z = (z_8) + (2)) ⟨ta_add (by omega), rfl⟩ (fun z_10 hz_11 => ?_)
    refine r_iload_n C 3 dX4_addRow_48 rfl rfl ?_
    refine r_iast C (k := 34) (by decide) (fun _ => rfl) (by omega) dX4_addRow_49 ?_
    refine r_aload_n C 0 dX4_addRow_50 rfl rfl ?_
    refine r_dup C dX4_addRow_51 rfl ?_
    refine r_get C (k := 32) (v := .int (σ 32 4)) f_X4_25 (by decide) rfl rfl dX4_addRow_52 ?_
    refine r_iconst C (1) dX4_addRow_55 (by decide) ?_
    refine r_iadd C dX4_addRow_56 ?_
    refine r_nm (P := fun z => z.toInt = (σ 32 4 : Int32).toInt + (1 : Int32).toInt ∧ z = (σ 32 4) + (1)) ⟨ta_add (by omega), rfl⟩ (fun z_12 hz_13 => ?_)
    refine r_put C (k := 32) pf_X4_25 (by decide) (fun _ => rfl) (fun _ => Nat.le_of_ble_eq_true rfl) (fun _ _ => rfl) dX4_addRow_57 ?_
    exact r_vret C T dX4_addRow_60 (⟨((((Off.rf.up (by decide)).up (by decide)).up (by decide)).up (by decide)), fun j hj => by simp [sUp, upd, hj], by show 0 ≤ (z_12 : Int32).toInt ∧ (z_12 : Int32).toInt ≤ 28; omega⟩)
  · -- to 9
    exact r_vret C T dX4_addRow_9 (⟨Off.rf, fun _ _ => rfl, hc⟩)
set_option maxHeartbeats 4000000 in
set_option maxRecDepth 100000 in
theorem c_X4_bestWork (E : Ev) (ad : Nat → Nat) (σ : Sg) (p : Int32) (q : Int32) (u : Int32) (v : Int32) (hs : (σ 32 3).toInt ≤ 7) (hq : 0 ≤ q.toInt ∧ q.toInt ≤ 127) (hc : 0 ≤ (σ 32 4).toInt ∧ (σ 32 4).toInt ≤ 28) : Ct E ad yX4_bestWork cX4_bestWork 9 (some .int) 2 [.ref (ad 32), .int p, .int q, .int u, .int v] σ (fun r τ => 0 ≤ r.toInt ∧ r.toInt < 7 ∧ Off [32, 34] σ τ ∧ (∀ j, j ≠ 4 → τ 32 j = σ 32 j) ∧ 0 ≤ (τ 32 4).toInt ∧ (τ 32 4).toInt ≤ 28) := by
  have k_0 : (0 : Int32).toInt = 0 := by decide
  have k_1 : (1 : Int32).toInt = 1 := by decide
  have k_1000 : (1000 : Int32).toInt = 1000 := by decide
  refine ct_of RX4 rfl (by decide +kernel) [(0, .ref (ad 32)), (1, .int (p)), (2, .int (q)), (3, .int (u)), (4, .int (v))] rfl (Nat.le_of_ble_eq_true rfl) (fun G C T => ?_)
  refine r_iconst C (0) dX4_bestWork_0 (by decide) ?_
  refine r_istore C [(5, .int (0)), (0, .ref (ad 32)), (1, .int (p)), (2, .int (q)), (3, .int (u)), (4, .int (v))] dX4_bestWork_1 (by decide) rfl ?_
  refine r_sipush C (1000) dX4_bestWork_3 (by decide) ?_
  refine r_istore C [(6, .int (1000)), (5, .int (0)), (0, .ref (ad 32)), (1, .int (p)), (2, .int (q)), (3, .int (u)), (4, .int (v))] dX4_bestWork_6 (by decide) rfl ?_
  refine r_iconst C (0) dX4_bestWork_8 (by decide) ?_
  refine r_istore C [(7, .int (0)), (6, .int (1000)), (5, .int (0)), (0, .ref (ad 32)), (1, .int (p)), (2, .int (q)), (3, .int (u)), (4, .int (v))] dX4_bestWork_9 (by decide) rfl ?_
  have L_11 : ∀ (n : Nat), ∀ (τ1 : Sg) (a : Int32) (b : Int32) (i : Int32), (0 ≤ i.toInt ∧ i.toInt ≤ 7) → (0 ≤ a.toInt ∧ a.toInt < 7) → (Off [32, 34] σ τ1) → (∀ j, j ≠ 4 → τ1 32 j = σ 32 j) → (0 ≤ (τ1 32 4).toInt ∧ (τ1 32 4).toInt ≤ 28) → 7 - i.toInt < (n : Int) → At E ad G 9 11 [(7, .int (i)), (6, .int (b)), (5, .int (a)), (0, .ref (ad 32)), (1, .int (p)), (2, .int (q)), (3, .int (u)), (4, .int (v))] [] τ1 := by
    intro n
    induction n with
    | zero =>
      intro τ1 a b i hi ha ho hk hk2 hm
      exact absurd hm (by omega)
    | succ n ih =>
      intro τ1 a b i hi ha ho hk hk2 hm
      have ih_11 := ih
      clear ih
      have e3 : (τ1 32 3).toInt = (σ 32 3).toInt := by rw [hk 3 (by decide)]
      refine r_iload C 0 dX4_bestWork_11 rfl ?_
      refine r_aload_n C 3 dX4_bestWork_13 rfl rfl ?_
      refine r_get C (k := 32) (v := .int (τ1 32 3)) f_X4_21 (by decide) rfl rfl dX4_bestWork_14 ?_
      refine r_icmp_ge C 77 dX4_bestWork_17 (by decide) (fun c_1 => ?_) (fun c_1 => ?_)
      · -- to 77
        refine r_iload C 2 dX4_bestWork_77 rfl ?_
        exact r_iret C T dX4_bestWork_79 (⟨by omega, by omega, ho, hk, hk2⟩)
      · -- to 20
        refine r_iload_n C 5 dX4_bestWork_20 rfl rfl ?_
        refine r_iload C 0 dX4_bestWork_21 rfl ?_
        refine r_ishr C dX4_bestWork_23 ?_
        refine r_nm (P := fun z => z = (q : Int32) >>> ((i : Int32) &&& 31)) rfl (fun z_2 hz_3 => ?_)
        refine r_iconst C (1) dX4_bestWork_24 (by decide) ?_
        refine r_iand C dX4_bestWork_25 ?_
        refine r_nm (P := fun z => z = (z_2 : Int32) &&& (1)) rfl (fun z_4 hz_5 => ?_)
        refine r_if_eq C 71 dX4_bestWork_26 (by decide) (fun c_6 => ?_) (fun c_6 => ?_)
        · -- to 71
          refine r_iinc C 0 (fun z => [(7, .int (z)), (6, .int (b)), (5, .int (a)), (0, .ref (ad 32)), (1, .int (p)), (2, .int (q)), (3, .int (u)), (4, .int (v))]) dX4_bestWork_71 rfl (by decide) (by decide) (by omega) (fun _ => rfl) (fun z_7 hz_8 => ?_)
          refine r_goto C 11 dX4_bestWork_74 (by decide) ?_
          exact At.sub [0, 1, 2, 3, 4, 5, 6, 7] rfl (ih_11 τ1 (a : Int32) (b : Int32) (z_7 : Int32) (by omega) (by omega) ho hk hk2 (by omega))
        · -- to 29
          refine r_iload C 7 dX4_bestWork_29 rfl ?_
          refine r_aload_n C 3 dX4_bestWork_31 rfl rfl ?_
          refine r_iload_n C 6 dX4_bestWork_32 rfl rfl ?_
          refine r_iload C 0 dX4_bestWork_33 rfl ?_
          refine r_iload_n C 5 dX4_bestWork_35 rfl rfl ?_
          refine r_callV C (k := 32) [.int (u), .int (i), .int (q)] [.int (v)] (c_X4_movesThrough E ad τ1  (u) (i) (q) (by omega) (by omega)) lv_X4_79 (by decide) rfl rfl (by decide) (by decide) rfl rfl (Nat.le_of_ble_eq_true rfl) dX4_bestWork_36 (fun r_9 τ_10 h_11 => ?_)
          obtain ⟨eh_11, h_11⟩ := h_11
          obtain rfl := eh_11.symm
          refine r_iadd C dX4_bestWork_39 ?_
          refine r_nm (P := fun z => z = (v) + (r_9)) rfl (fun z_12 hz_13 => ?_)
          refine r_istore C [(8, .int (z_12)), (7, .int (i)), (6, .int (b)), (5, .int (a)), (0, .ref (ad 32)), (1, .int (p)), (2, .int (q)), (3, .int (u)), (4, .int (v))] dX4_bestWork_40 (by decide) rfl ?_
          refine r_aload_n C 4 dX4_bestWork_42 rfl rfl ?_
          refine r_iload_n C 5 dX4_bestWork_43 rfl rfl ?_
          refine r_aload_n C 4 dX4_bestWork_44 rfl rfl ?_
          refine r_get C (k := 32) (v := .ref (ad 36)) f_X4_35 (by decide) rfl rfl dX4_bestWork_45 ?_
          refine r_iload C 1 dX4_bestWork_48 rfl ?_
          refine r_iald C (k := 36) (by decide) rfl (by omega) (τ1 36 ((i : Int32).toInt.toNat)) rfl dX4_bestWork_50 ?_
          refine r_iload C 0 dX4_bestWork_51 rfl ?_
          refine r_callVv C (k := 32) [.int (p), .int (τ1 36 ((i : Int32).toInt.toNat)), .int (z_12)] [] (c_X4_addRow E ad τ1  (p) (τ1 36 ((i : Int32).toInt.toNat)) (z_12) (by omega)) lv_X4_92 (by decide) rfl rfl (by decide) (by decide) rfl rfl (Nat.le_of_ble_eq_true rfl) dX4_bestWork_53 (fun τ_16 h_17 => ?_)
          refine r_iload C 0 dX4_bestWork_56 rfl ?_
          refine r_iload C 2 dX4_bestWork_58 rfl ?_
          refine r_icmp_ge C 71 dX4_bestWork_60 (by decide) (fun c_18 => ?_) (fun c_18 => ?_)
          · -- to 71
            refine r_iinc C 1 (fun z => [(7, .int (z)), (8, .int (z_12)), (6, .int (b)), (5, .int (a)), (0, .ref (ad 32)), (1, .int (p)), (2, .int (q)), (3, .int (u)), (4, .int (v))]) dX4_bestWork_71 rfl (by decide) (by decide) (by omega) (fun _ => rfl) (fun z_19 hz_20 => ?_)
            refine r_goto C 11 dX4_bestWork_74 (by decide) ?_
            exact At.sub [0, 2, 3, 4, 5, 6, 7, 8] rfl (ih_11 τ_16 (a : Int32) (b : Int32) (z_19 : Int32) (by omega) (by omega) (ho.tr h_17.1 (fun _ h => h)) (fun j hj => (h_17.2.1 j hj).trans (hk j hj)) h_17.2.2 (by omega))
          · -- to 63
            refine r_iload C 0 dX4_bestWork_63 rfl ?_
            refine r_istore C [(6, .int (z_12)), (8, .int (z_12)), (7, .int (i)), (5, .int (a)), (0, .ref (ad 32)), (1, .int (p)), (2, .int (q)), (3, .int (u)), (4, .int (v))] dX4_bestWork_65 (by decide) rfl ?_
            refine r_iload C 2 dX4_bestWork_67 rfl ?_
            refine r_istore C [(5, .int (i)), (6, .int (z_12)), (8, .int (z_12)), (7, .int (i)), (0, .ref (ad 32)), (1, .int (p)), (2, .int (q)), (3, .int (u)), (4, .int (v))] dX4_bestWork_69 (by decide) rfl ?_
            refine r_iinc C 3 (fun z => [(7, .int (z)), (5, .int (i)), (6, .int (z_12)), (8, .int (z_12)), (0, .ref (ad 32)), (1, .int (p)), (2, .int (q)), (3, .int (u)), (4, .int (v))]) dX4_bestWork_71 rfl (by decide) (by decide) (by omega) (fun _ => rfl) (fun z_21 hz_22 => ?_)
            refine r_goto C 11 dX4_bestWork_74 (by decide) ?_
            exact At.sub [0, 2, 1, 4, 5, 6, 7, 8] rfl (ih_11 τ_16 (i : Int32) (z_12 : Int32) (z_21 : Int32) (by omega) (by omega) (ho.tr h_17.1 (fun _ h => h)) (fun j hj => (h_17.2.1 j hj).trans (hk j hj)) h_17.2.2 (by omega))
  exact At.sub [0, 1, 2, 3, 4, 5, 6, 7] rfl (L_11 ((7 - (0 : Int32).toInt).toNat + 1) σ (0 : Int32) (1000 : Int32) (0 : Int32) (by omega) (by omega) Off.rf (fun _ _ => rfl) hc (by omega))
set_option maxHeartbeats 4000000 in
set_option maxRecDepth 100000 in
theorem c_X4_layOrder (E : Ev) (ad : Nat → Nat) (σ : Sg)  (hs : 0 ≤ (σ 32 3).toInt ∧ (σ 32 3).toInt ≤ 7) (hc : 0 ≤ (σ 32 4).toInt ∧ (σ 32 4).toInt ≤ 28) : Ct E ad yX4_layOrder cX4_layOrder 7 (some .int) 3 [.ref (ad 32)] σ (fun r τ => Off [32, 33, 34] σ τ ∧ (∀ j, j ≠ 4 → τ 32 j = σ 32 j) ∧ 0 ≤ (τ 32 4).toInt ∧ (τ 32 4).toInt ≤ 28 ∧ ((σ 32 3).toInt = 0 → r.toInt = 0)) := by
  have k_m1 : (-1 : Int32).toInt = -1 := by decide
  have k_0 : (0 : Int32).toInt = 0 := by decide
  have k_1 : (1 : Int32).toInt = 1 := by decide
  refine ct_of RX4 rfl (by decide +kernel) [(0, .ref (ad 32))] rfl (Nat.le_of_ble_eq_true rfl) (fun G C T => ?_)
  refine r_iconst C (1) dX4_layOrder_0 (by decide) ?_
  refine r_aload_n C 0 dX4_layOrder_1 rfl rfl ?_
  refine r_get C (k := 32) (v := .int (σ 32 3)) f_X4_21 (by decide) rfl rfl dX4_layOrder_2 ?_
  refine r_ishl C dX4_layOrder_5 ?_
  refine r_nm (P := fun z => 1 ≤ z.toInt ∧ z.toInt ≤ 128) (ta_shl7 (by omega) (by omega)) (fun z_1 hz_2 => ?_)
  refine r_iconst C (1) dX4_layOrder_6 (by decide) ?_
  refine r_isub C dX4_layOrder_7 ?_
  refine r_nm (P := fun z => z.toInt = (z_1 : Int32).toInt - (1 : Int32).toInt ∧ z = (z_1) - (1)) ⟨ta_sub (by omega), rfl⟩ (fun z_3 hz_4 => ?_)
  refine r_istore_n C [(1, .int (z_3)), (0, .ref (ad 32))] dX4_layOrder_8 rfl (by decide) rfl ?_
  refine r_iconst C (0) dX4_layOrder_9 (by decide) ?_
  refine r_istore_n C [(2, .int (0)), (1, .int (z_3)), (0, .ref (ad 32))] dX4_layOrder_10 rfl (by decide) rfl ?_
  refine r_iconst C (0) dX4_layOrder_11 (by decide) ?_
  refine r_istore_n C [(3, .int (0)), (2, .int (0)), (1, .int (z_3)), (0, .ref (ad 32))] dX4_layOrder_12 rfl (by decide) rfl ?_
  refine r_iconst C (0) dX4_layOrder_13 (by decide) ?_
  refine r_istore C [(4, .int (0)), (3, .int (0)), (2, .int (0)), (1, .int (z_3)), (0, .ref (ad 32))] dX4_layOrder_14 (by decide) rfl ?_
  refine r_iconst C (0) dX4_layOrder_16 (by decide) ?_
  refine r_istore C [(5, .int (0)), (4, .int (0)), (3, .int (0)), (2, .int (0)), (1, .int (z_3)), (0, .ref (ad 32))] dX4_layOrder_17 (by decide) rfl ?_
  have L_19 : ∀ (n : Nat), ∀ (τ1 : Sg) (c : Int32) (e : Int32) (f : Int32) (g : Int32) (i : Int32), (0 ≤ i.toInt ∧ i.toInt ≤ 7) → (0 ≤ c.toInt ∧ c.toInt ≤ 127) → (Off [32, 33, 34] σ τ1) → (∀ j, j ≠ 4 → τ1 32 j = σ 32 j) → (0 ≤ (τ1 32 4).toInt ∧ (τ1 32 4).toInt ≤ 28) → ((σ 32 3).toInt = 0 → g.toInt = 0) → 7 - i.toInt < (n : Int) → At E ad G 7 19 [(5, .int (i)), (4, .int (g)), (3, .int (f)), (2, .int (e)), (1, .int (c)), (0, .ref (ad 32))] [] τ1 := by
    intro n
    induction n with
    | zero =>
      intro τ1 c e f g i hi hl ho hk hk2 hf hm
      exact absurd hm (by omega)
    | succ n ih =>
      intro τ1 c e f g i hi hl ho hk hk2 hf hm
      have ih_19 := ih
      clear ih
      have e3 : (τ1 32 3).toInt = (σ 32 3).toInt := by rw [hk 3 (by decide)]
      refine r_iload C 0 dX4_layOrder_19 rfl ?_
      refine r_aload_n C 5 dX4_layOrder_21 rfl rfl ?_
      refine r_get C (k := 32) (v := .int (τ1 32 3)) f_X4_21 (by decide) rfl rfl dX4_layOrder_22 ?_
      refine r_icmp_ge C 103 dX4_layOrder_25 (by decide) (fun c_5 => ?_) (fun c_5 => ?_)
      · -- to 103
        refine r_iload C 1 dX4_layOrder_103 rfl ?_
        exact r_iret C T dX4_layOrder_105 (⟨ho, hk, hk2.1, hk2.2, hf⟩)
      · -- to 28
        refine r_aload_n C 5 dX4_layOrder_28 rfl rfl ?_
        refine r_iload C 0 dX4_layOrder_29 rfl ?_
        refine r_iload_n C 4 dX4_layOrder_31 rfl rfl ?_
        refine r_iload_n C 3 dX4_layOrder_32 rfl rfl ?_
        refine r_iload_n C 2 dX4_layOrder_33 rfl rfl ?_
        refine r_callV C (k := 32) [.int (i), .int (c), .int (e), .int (f)] [] (c_X4_bestWork E ad τ1  (i) (c) (e) (f) (by omega) (by omega) hk2) lv_X4_88 (by decide) rfl rfl (by decide) (by decide) rfl rfl (Nat.le_of_ble_eq_true rfl) dX4_layOrder_34 (fun r_6 τ_7 h_8 => ?_)
        refine r_istore C [(6, .int (r_6)), (5, .int (i)), (4, .int (g)), (3, .int (f)), (2, .int (e)), (1, .int (c)), (0, .ref (ad 32))] dX4_layOrder_37 (by decide) rfl ?_
        refine r_iload_n C 3 dX4_layOrder_39 rfl rfl ?_
        refine r_aload_n C 6 dX4_layOrder_40 rfl rfl ?_
        refine r_iload_n C 4 dX4_layOrder_41 rfl rfl ?_
        refine r_iload C 0 dX4_layOrder_42 rfl ?_
        refine r_iload_n C 5 dX4_layOrder_44 rfl rfl ?_
        refine r_callV C (k := 32) [.int (e), .int (r_6), .int (c)] [.int (f)] (c_X4_movesThrough E ad τ_7  (e) (r_6) (c) (by omega) (by omega)) lv_X4_79 (by decide) rfl rfl (by decide) (by decide) rfl rfl (Nat.le_of_ble_eq_true rfl) dX4_layOrder_45 (fun r_9 τ_10 h_11 => ?_)
        obtain ⟨eh_11, h_11⟩ := h_11
        obtain rfl := eh_11.symm
        refine r_iadd C dX4_layOrder_48 ?_
        refine r_nm (P := fun z => z = (f) + (r_9)) rfl (fun z_12 hz_13 => ?_)
        refine r_istore C [(4, .int (z_12)), (6, .int (r_6)), (5, .int (i)), (3, .int (f)), (2, .int (e)), (1, .int (c)), (0, .ref (ad 32))] dX4_layOrder_49 (by decide) rfl ?_
        refine r_iload_n C 3 dX4_layOrder_51 rfl rfl ?_
        refine r_iload_n C 4 dX4_layOrder_52 rfl rfl ?_
        refine r_aload_n C 6 dX4_layOrder_53 rfl rfl ?_
        refine r_get C (k := 32) (v := .ref (ad 37)) f_X4_38 (by decide) rfl rfl dX4_layOrder_54 ?_
        refine r_iload C 1 dX4_layOrder_57 rfl ?_
        refine r_iald C (k := 37) (by decide) rfl (by omega) (τ_7 37 ((r_6 : Int32).toInt.toNat)) rfl dX4_layOrder_59 ?_
        refine r_ixor C dX4_layOrder_60 ?_
        refine r_nm (P := fun z => z = (e : Int32) ^^^ (τ_7 37 ((r_6 : Int32).toInt.toNat))) rfl (fun z_15 hz_16 => ?_)
        refine r_callS C [.int (z_15)] [.int (f)] (c_J6_bitCount_0f7a4 E ad τ_7  (z_15) ) ls_X4_73 (by decide) (by decide) rfl rfl (Nat.le_of_ble_eq_true rfl) dX4_layOrder_61 (fun r_17 τ_18 h_19 => ?_)
        obtain ⟨eh_19, h_19⟩ := h_19
        obtain rfl := eh_19.symm
        refine r_iadd C dX4_layOrder_64 ?_
        refine r_nm (P := fun z => z = (f) + (r_17)) rfl (fun z_20 hz_21 => ?_)
        refine r_istore_n C [(3, .int (z_20)), (4, .int (z_12)), (6, .int (r_6)), (5, .int (i)), (2, .int (e)), (1, .int (c)), (0, .ref (ad 32))] dX4_layOrder_65 rfl (by decide) rfl ?_
        refine r_aload_n C 6 dX4_layOrder_66 rfl rfl ?_
        refine r_get C (k := 32) (v := .ref (ad 37)) f_X4_38 (by decide) rfl rfl dX4_layOrder_67 ?_
        refine r_iload C 2 dX4_layOrder_70 rfl ?_
        refine r_iald C (k := 37) (by decide) rfl (by omega) (τ_7 37 ((r_6 : Int32).toInt.toNat)) rfl dX4_layOrder_72 ?_
        refine r_istore_n C [(2, .int (τ_7 37 ((r_6 : Int32).toInt.toNat))), (3, .int (z_20)), (4, .int (z_12)), (6, .int (r_6)), (5, .int (i)), (1, .int (c)), (0, .ref (ad 32))] dX4_layOrder_73 rfl (by decide) rfl ?_
        refine r_iload_n C 5 dX4_layOrder_74 rfl rfl ?_
        refine r_iconst C (1) dX4_layOrder_75 (by decide) ?_
        refine r_iload C 3 dX4_layOrder_76 rfl ?_
        refine r_ishl C dX4_layOrder_78 ?_
        refine r_nm (P := fun z => z = (1 : Int32) <<< ((r_6 : Int32) &&& 31)) rfl (fun z_23 hz_24 => ?_)
        refine r_iconst C (-1) dX4_layOrder_79 (by decide) ?_
        refine r_ixor C dX4_layOrder_80 ?_
        refine r_nm (P := fun z => z = (z_23 : Int32) ^^^ ((-1))) rfl (fun z_25 hz_26 => ?_)
        refine r_iand C dX4_layOrder_81 ?_
        refine r_nm (P := fun z => 0 ≤ z.toInt ∧ z.toInt ≤ 127) (ta_and127 hl) (fun z_27 hz_28 => ?_)
        refine r_istore_n C [(1, .int (z_27)), (2, .int (τ_7 37 ((r_6 : Int32).toInt.toNat))), (3, .int (z_20)), (4, .int (z_12)), (6, .int (r_6)), (5, .int (i)), (0, .ref (ad 32))] dX4_layOrder_82 rfl (by decide) rfl ?_
        refine r_aload_n C 6 dX4_layOrder_83 rfl rfl ?_
        refine r_get C (k := 32) (v := .ref (ad 33)) f_X4_9 (by decide) rfl rfl dX4_layOrder_84 ?_
        refine r_iload C 5 dX4_layOrder_87 rfl ?_
        refine r_aload_n C 6 dX4_layOrder_89 rfl rfl ?_
        refine r_get C (k := 32) (v := .ref (ad 36)) f_X4_35 (by decide) rfl rfl dX4_layOrder_90 ?_
        refine r_iload C 4 dX4_layOrder_93 rfl ?_
        refine r_iald C (k := 36) (by decide) rfl (by omega) (τ_7 36 ((r_6 : Int32).toInt.toNat)) rfl dX4_layOrder_95 ?_
        refine r_iast C (k := 33) (by decide) (fun _ => rfl) (by omega) dX4_layOrder_96 ?_
        refine r_iinc C 5 (fun z => [(5, .int (z)), (1, .int (z_27)), (2, .int (τ_7 37 ((r_6 : Int32).toInt.toNat))), (3, .int (z_20)), (4, .int (z_12)), (6, .int (r_6)), (0, .ref (ad 32))]) dX4_layOrder_97 rfl (by decide) (by decide) (by omega) (fun _ => rfl) (fun z_30 hz_31 => ?_)
        refine r_goto C 19 dX4_layOrder_100 (by decide) ?_
        exact At.sub [0, 4, 3, 2, 1, 6] rfl (ih_19 (sUp τ_7 33 ((i : Int32).toInt.toNat) (τ_7 36 ((r_6 : Int32).toInt.toNat))) (z_27 : Int32) (τ_7 37 ((r_6 : Int32).toInt.toNat) : Int32) (z_20 : Int32) (z_12 : Int32) (z_30 : Int32) (by omega) (by omega) ((ho.tr (h_8.2.2.1.to (by decide)) (fun _ h => h)).up (by decide)) (fun j hj => (h_8.2.2.2.1 j hj).trans (hk j hj)) h_8.2.2.2.2 (fun h => absurd h (by omega)) (by omega))
  exact At.sub [0, 1, 2, 3, 4, 5] rfl (L_19 ((7 - (0 : Int32).toInt).toNat + 1) σ (z_3 : Int32) (0 : Int32) (0 : Int32) (0 : Int32) (0 : Int32) (by omega) (by omega) Off.rf (fun _ _ => rfl) hc (fun _ => k_0) (by omega))
set_option maxHeartbeats 4000000 in
set_option maxRecDepth 100000 in
theorem c_X4_gatherWorks (E : Ev) (ad : Nat → Nat) (σ : Sg) (q : Int32) (hI : IC σ) : CtV E ad yX4_gatherWorks cX4_gatherWorks 4 0 [.ref (ad 32), .ref (ad 16), .int q] σ (fun τ => Off [32, 36, 37] σ τ ∧ (∀ j, j ≠ 3 → τ 32 j = σ 32 j) ∧ 0 ≤ (τ 32 3).toInt ∧ (τ 32 3).toInt ≤ (σ 16 8).toInt) := by
  have k_m1 : (-1 : Int32).toInt = -1 := by decide
  have k_0 : (0 : Int32).toInt = 0 := by decide
  have k_1 : (1 : Int32).toInt = 1 := by decide
  have hJ := hI
  unfold IC at hJ
  refine ctv_of RX4 rfl (by decide +kernel) [(0, .ref (ad 32)), (1, .ref (ad 16)), (2, .int (q))] rfl (Nat.le_of_ble_eq_true rfl) (fun G C T => ?_)
  refine r_aload_n C 0 dX4_gatherWorks_0 rfl rfl ?_
  refine r_iconst C (0) dX4_gatherWorks_1 (by decide) ?_
  refine r_put C (k := 32) pf_X4_21 (by decide) (fun _ => rfl) (fun _ => Nat.le_of_ble_eq_true rfl) (fun _ _ => rfl) dX4_gatherWorks_2 ?_
  refine r_iconst C (0) dX4_gatherWorks_5 (by decide) ?_
  refine r_istore_n C [(3, .int (0)), (0, .ref (ad 32)), (1, .ref (ad 16)), (2, .int (q))] dX4_gatherWorks_6 rfl (by decide) rfl ?_
  have L_7 : ∀ (n : Nat), ∀ (τ1 : Sg) (i : Int32), (0 ≤ i.toInt ∧ i.toInt ≤ (σ 16 8).toInt) → (0 ≤ (τ1 32 3).toInt ∧ (τ1 32 3).toInt ≤ i.toInt) → (Off [32, 36, 37] σ τ1) → (∀ j, j ≠ 3 → τ1 32 j = σ 32 j) → 7 - i.toInt < (n : Int) → At E ad G 4 7 [(3, .int (i)), (0, .ref (ad 32)), (1, .ref (ad 16)), (2, .int (q))] [] τ1 := by
    intro n
    induction n with
    | zero =>
      intro τ1 i hi hz ho hk hm
      exact absurd hm (by omega)
    | succ n ih =>
      intro τ1 i hi hz ho hk hm
      have ih_7 := ih
      clear ih
      have e8 : (τ1 16 8).toInt = (σ 16 8).toInt := by rw [ho 16 (by decide)]
      refine r_iload_n C 0 dX4_gatherWorks_7 rfl rfl ?_
      refine r_aload_n C 2 dX4_gatherWorks_8 rfl rfl ?_
      refine r_get C (k := 16) (v := .int (τ1 16 8)) f_X4_62 (by decide) rfl rfl dX4_gatherWorks_9 ?_
      refine r_icmp_ge C 69 dX4_gatherWorks_12 (by decide) (fun c_1 => ?_) (fun c_1 => ?_)
      · -- to 69
        exact r_vret C T dX4_gatherWorks_69 (⟨ho, hk, by omega, by omega⟩)
      · -- to 15
        refine r_aload_n C 2 dX4_gatherWorks_15 rfl rfl ?_
        refine r_get C (k := 16) (v := .ref (ad 20)) f_X4_67 (by decide) rfl rfl dX4_gatherWorks_16 ?_
        refine r_iload_n C 0 dX4_gatherWorks_19 rfl rfl ?_
        refine r_iald C (k := 20) (by decide) rfl (by omega) (τ1 20 ((i : Int32).toInt.toNat)) rfl dX4_gatherWorks_20 ?_
        refine r_if_ne C 63 dX4_gatherWorks_21 (by decide) (fun c_3 => ?_) (fun c_3 => ?_)
        · -- to 63
          refine r_iinc C 0 (fun z => [(3, .int (z)), (0, .ref (ad 32)), (1, .ref (ad 16)), (2, .int (q))]) dX4_gatherWorks_63 rfl (by decide) (by decide) (by omega) (fun _ => rfl) (fun z_4 hz_5 => ?_)
          refine r_goto C 7 dX4_gatherWorks_66 (by decide) ?_
          exact At.sub [0, 1, 2, 3] rfl (ih_7 τ1 (z_4 : Int32) (by omega) (by omega) ho hk (by omega))
        · -- to 24
          have tt := ho
          refine r_aload_n C 1 dX4_gatherWorks_24 rfl rfl ?_
          refine r_get C (k := 32) (v := .ref (ad 36)) f_X4_35 (by decide) rfl rfl dX4_gatherWorks_25 ?_
          refine r_aload_n C 1 dX4_gatherWorks_28 rfl rfl ?_
          refine r_get C (k := 32) (v := .int (τ1 32 3)) f_X4_21 (by decide) rfl rfl dX4_gatherWorks_29 ?_
          refine r_iload_n C 0 dX4_gatherWorks_32 rfl rfl ?_
          refine r_iast C (k := 36) (by decide) (fun _ => rfl) (by omega) dX4_gatherWorks_33 ?_
          refine r_aload_n C 1 dX4_gatherWorks_34 rfl rfl ?_
          refine r_get C (k := 32) (v := .ref (ad 37)) f_X4_38 (by decide) rfl rfl dX4_gatherWorks_35 ?_
          refine r_aload_n C 1 dX4_gatherWorks_38 rfl rfl ?_
          refine r_get C (k := 32) (v := .int (τ1 32 3)) f_X4_21 (by decide) rfl rfl dX4_gatherWorks_39 ?_
          refine r_aload_n C 2 dX4_gatherWorks_42 rfl rfl ?_
          refine r_get C (k := 16) (v := .ref (ad 19)) f_X4_70 (by decide) rfl rfl dX4_gatherWorks_43 ?_
          refine r_iload_n C 0 dX4_gatherWorks_46 rfl rfl ?_
          refine r_iald C (k := 19) (by decide) rfl (by omega) (τ1 19 ((i : Int32).toInt.toNat)) rfl dX4_gatherWorks_47 ?_
          refine r_iload_n C 3 dX4_gatherWorks_48 rfl rfl ?_
          refine r_iconst C (-1) dX4_gatherWorks_49 (by decide) ?_
          refine r_ixor C dX4_gatherWorks_50 ?_
          refine r_nm (P := fun z => z = (q : Int32) ^^^ ((-1))) rfl (fun z_7 hz_8 => ?_)
          refine r_iand C dX4_gatherWorks_51 ?_
          refine r_nm (P := fun z => z = (τ1 19 ((i : Int32).toInt.toNat) : Int32) &&& (z_7)) rfl (fun z_9 hz_10 => ?_)
          refine r_iast C (k := 37) (by decide) (fun _ => rfl) (by omega) dX4_gatherWorks_52 ?_
          refine r_aload_n C 1 dX4_gatherWorks_53 rfl rfl ?_
          refine r_dup C dX4_gatherWorks_54 rfl ?_
          refine r_get C (k := 32) (v := .int (τ1 32 3)) f_X4_21 (by decide) rfl rfl dX4_gatherWorks_55 ?_
          refine r_iconst C (1) dX4_gatherWorks_58 (by decide) ?_
          refine r_iadd C dX4_gatherWorks_59 ?_
          refine r_nm (P := fun z => z.toInt = (τ1 32 3 : Int32).toInt + (1 : Int32).toInt ∧ z = (τ1 32 3) + (1)) ⟨ta_add (by omega), rfl⟩ (fun z_11 hz_12 => ?_)
          refine r_put C (k := 32) pf_X4_21 (by decide) (fun _ => rfl) (fun _ => Nat.le_of_ble_eq_true rfl) (fun _ _ => rfl) dX4_gatherWorks_60 ?_
          refine r_iinc C 0 (fun z => [(3, .int (z)), (0, .ref (ad 32)), (1, .ref (ad 16)), (2, .int (q))]) dX4_gatherWorks_63 rfl (by decide) (by decide) (by omega) (fun _ => rfl) (fun z_13 hz_14 => ?_)
          refine r_goto C 7 dX4_gatherWorks_66 (by decide) ?_
          exact At.sub [0, 1, 2, 3] rfl (ih_7 (sUp (sUp (sUp τ1 36 ((τ1 32 3 : Int32).toInt.toNat) (i)) 37 ((τ1 32 3 : Int32).toInt.toNat) (z_9)) 32 3 (z_11)) (z_13 : Int32) (by omega) (show 0 ≤ (z_11 : Int32).toInt ∧ (z_11 : Int32).toInt ≤ _ by omega) (((ho.up (by decide)).up (by decide)).up (by decide))  (fun j hj => (if_neg hj).trans (hk j hj))  (by omega))
  exact At.sub [0, 1, 2, 3] rfl (L_7 ((7 - (0 : Int32).toInt).toNat + 1) (sUp σ 32 3 (0)) (0 : Int32) (by omega) (show 0 ≤ (0 : Int32).toInt ∧ (0 : Int32).toInt ≤ (0 : Int32).toInt by omega) (Off.rf.up (by decide)) (fun j hj => if_neg hj) (by omega))
set_option maxHeartbeats 4000000 in
set_option maxRecDepth 100000 in
theorem c_X4_tell (E : Ev) (ad : Nat → Nat) (σ : Sg) (q : Int32) (hI : IC σ) : Ct E ad yX4_tell cX4_tell 5 (some .int) 4 [.ref (ad 32), .ref (ad 16), .int q] σ (fun r τ => Off [32, 33, 34, 35, 36, 37, 38] σ τ ∧ (0 ≤ (τ 32 3).toInt ∧ (τ 32 3).toInt ≤ 7) ∧ (0 ≤ (τ 32 5).toInt ∧ (τ 32 5).toInt ≤ 28) ∧ ((σ 16 8).toInt = 0 → r.toInt = 0)) := by
  have k_0 : (0 : Int32).toInt = 0 := by decide
  have k_1 : (1 : Int32).toInt = 1 := by decide
  have k_7 : (7 : Int32).toInt = 7 := by decide
  have hJ := hI
  unfold IC at hJ
  refine ct_of RX4 rfl (by decide +kernel) [(0, .ref (ad 32)), (1, .ref (ad 16)), (2, .int (q))] rfl (Nat.le_of_ble_eq_true rfl) (fun G C T => ?_)
  refine r_aload_n C 0 dX4_tell_0 rfl rfl ?_
  refine r_aload_n C 1 dX4_tell_1 rfl rfl ?_
  refine r_iload_n C 2 dX4_tell_2 rfl rfl ?_
  refine r_callVv C (k := 32) [.ref (ad 16), .int (q)] [] (c_X4_gatherWorks E ad σ  (q) hI) lv_X4_44 (by decide) rfl rfl (by decide) (by decide) rfl rfl (Nat.le_of_ble_eq_true rfl) dX4_tell_3 (fun τ_2 h_3 => ?_)
  refine r_iconst C (0) dX4_tell_6 (by decide) ?_
  refine r_istore_n C [(3, .int (0)), (0, .ref (ad 32)), (1, .ref (ad 16)), (2, .int (q))] dX4_tell_7 rfl (by decide) rfl ?_
  have L_8 : ∀ (n : Nat), ∀ (τ1 : Sg) (i : Int32), (0 ≤ i.toInt ∧ i.toInt ≤ 128) → (Off [32, 36, 37, 38] σ τ1) → (0 ≤ (τ1 32 3).toInt ∧ (τ1 32 3).toInt ≤ (σ 16 8).toInt) → 128 - i.toInt < (n : Int) → At E ad G 5 8 [(3, .int (i)), (0, .ref (ad 32)), (1, .ref (ad 16)), (2, .int (q))] [] τ1 := by
    intro n
    induction n with
    | zero =>
      intro τ1 i hi ho h3 hm
      exact absurd hm (by omega)
    | succ n ih =>
      intro τ1 i hi ho h3 hm
      have ih_8 := ih
      clear ih
      refine r_iload_n C 0 dX4_tell_8 rfl rfl ?_
      refine r_iconst C (1) dX4_tell_9 (by decide) ?_
      refine r_aload_n C 1 dX4_tell_10 rfl rfl ?_
      refine r_get C (k := 32) (v := .int (τ1 32 3)) f_X4_21 (by decide) rfl rfl dX4_tell_11 ?_
      refine r_ishl C dX4_tell_14 ?_
      refine r_nm (P := fun z => 1 ≤ z.toInt ∧ z.toInt ≤ 128) (ta_shl7 (by omega) (by omega)) (fun z_4 hz_5 => ?_)
      refine r_icmp_ge C 70 dX4_tell_15 (by decide) (fun c_6 => ?_) (fun c_6 => ?_)
      · -- to 70
        refine r_aload_n C 1 dX4_tell_70 rfl rfl ?_
        refine r_iconst C (0) dX4_tell_71 (by decide) ?_
        refine r_put C (k := 32) pf_X4_25 (by decide) (fun _ => rfl) (fun _ => Nat.le_of_ble_eq_true rfl) (fun _ _ => rfl) dX4_tell_72 ?_
        refine r_aload_n C 1 dX4_tell_75 rfl rfl ?_
        refine r_iconst C (1) dX4_tell_76 (by decide) ?_
        refine r_putz C (k := 32) pf_X4_31 (by decide) (by first | exact Or.inl rfl | exact Or.inr rfl | assumption) (fun _ => rfl) (fun _ => Nat.le_of_ble_eq_true rfl) (fun _ _ => rfl) dX4_tell_77 ?_
        refine r_aload_n C 1 dX4_tell_80 rfl rfl ?_
        refine r_callV C (k := 32) [] [] (c_X4_layOrder E ad (sUp (sUp τ1 32 4 (0)) 32 6 (1))   (by show 0 ≤ (τ1 32 3).toInt ∧ (τ1 32 3).toInt ≤ 7; omega) (by show 0 ≤ (0 : Int32).toInt ∧ (0 : Int32).toInt ≤ 28; omega)) lv_X4_52 (by decide) rfl rfl (by decide) (by decide) rfl rfl (Nat.le_of_ble_eq_true rfl) dX4_tell_81 (fun r_7 τ_8 h_9 => ?_)
        refine r_istore_n C [(3, .int (r_7)), (0, .ref (ad 32)), (1, .ref (ad 16)), (2, .int (q))] dX4_tell_84 rfl (by decide) rfl ?_
        refine r_aload_n C 1 dX4_tell_85 rfl rfl ?_
        refine r_get C (k := 32) (v := .ref (ad 34)) f_X4_15 (by decide) rfl rfl dX4_tell_86 ?_
        refine r_iconst C (0) dX4_tell_89 (by decide) ?_
        refine r_aload_n C 1 dX4_tell_90 rfl rfl ?_
        refine r_get C (k := 32) (v := .ref (ad 35)) f_X4_18 (by decide) rfl rfl dX4_tell_91 ?_
        refine r_iconst C (0) dX4_tell_94 (by decide) ?_
        refine r_aload_n C 1 dX4_tell_95 rfl rfl ?_
        refine r_get C (k := 32) (v := .ref (ad 34)) f_X4_15 (by decide) rfl rfl dX4_tell_96 ?_
        have k_84 : (84 : Int32).toInt = 84 := by decide
        refine r_alen C (k := 34) (84) (by decide) rfl (by decide) dX4_tell_99 ?_
        refine r_copy C (k0 := 34) (k1 := 35) (by decide) (by decide) (fun _ => rfl) (fun _ => rfl) (by omega) lm_cpy (by decide) (by decide) dX4_tell_100 ?_
        obtain ⟨τ_10, e_11⟩ : ∃ t : Sg, t = sSet τ_8 35 (va_cpy (τ_8 34) (τ_8 35) 0 0 (84 : Int32).toInt.toNat) := ⟨_, rfl⟩
        rw [← e_11]
        have e4 : (τ_10 32 4) = (τ_8 32 4) := by rw [e_11]; rfl
        have e3 : (τ_10 32 3) = (τ_8 32 3) := by rw [e_11]; rfl
        have ofc : Off [32, 33, 34, 35, 36, 37, 38] σ τ_10 := by rw [e_11]; intro k hk; exact (if_neg (fun e => hk (by rw [e]; decide))).trans (((ho.up (j := 4) (v := 0) (by decide)).up (j := 6) (v := 1) (by decide) |>.to (T := [32, 33, 34, 35, 36, 37, 38]) (by decide) |>.tr (h_9.1.to (T := [32, 33, 34, 35, 36, 37, 38]) (by decide)) (fun _ h => h)) k hk)
        refine r_aload_n C 1 dX4_tell_103 rfl rfl ?_
        refine r_aload_n C 1 dX4_tell_104 rfl rfl ?_
        refine r_get C (k := 32) (v := .int (τ_10 32 4)) f_X4_25 (by decide) rfl rfl dX4_tell_105 ?_
        refine r_put C (k := 32) pf_X4_28 (by decide) (fun _ => rfl) (fun _ => Nat.le_of_ble_eq_true rfl) (fun _ _ => rfl) dX4_tell_108 ?_
        refine r_iload_n C 0 dX4_tell_111 rfl rfl ?_
        exact r_iret C T dX4_tell_112 (⟨ofc.up (by decide), by show 0 ≤ (τ_10 32 3).toInt ∧ (τ_10 32 3).toInt ≤ 7; rw [e3, h_9.2.1 3 (by decide)]; show 0 ≤ (τ1 32 3).toInt ∧ (τ1 32 3).toInt ≤ 7; omega, by show 0 ≤ (τ_10 32 4).toInt ∧ (τ_10 32 4).toInt ≤ 28; rw [e4]; exact ⟨h_9.2.2.1, h_9.2.2.2.1⟩, fun h => h_9.2.2.2.2 (by show (τ1 32 3).toInt = 0; omega)⟩)
      · -- to 18
        refine r_iconst C (0) dX4_tell_18 (by decide) ?_
        refine r_istore C [(4, .int (0)), (3, .int (i)), (0, .ref (ad 32)), (1, .ref (ad 16)), (2, .int (q))] dX4_tell_19 (by decide) rfl ?_
        have L_21 : ∀ (n : Nat), ∀ (τ2 : Sg) (j : Int32), (0 ≤ j.toInt ∧ j.toInt ≤ 7) → (Off [32, 36, 37, 38] σ τ2) → (0 ≤ (τ2 32 3).toInt ∧ (τ2 32 3).toInt ≤ (σ 16 8).toInt) → 7 - j.toInt < (n : Int) → At E ad G 5 21 [(4, .int (j)), (3, .int (i)), (0, .ref (ad 32)), (1, .ref (ad 16)), (2, .int (q))] [] τ2 := by
          intro n
          induction n with
          | zero =>
            intro τ2 j hj ho2 h32 hm
            exact absurd hm (by omega)
          | succ n ih =>
            intro τ2 j hj ho2 h32 hm
            have ih_21 := ih
            clear ih
            refine r_iload C 0 dX4_tell_21 rfl ?_
            refine r_aload_n C 2 dX4_tell_23 rfl rfl ?_
            refine r_get C (k := 32) (v := .int (τ2 32 3)) f_X4_21 (by decide) rfl rfl dX4_tell_24 ?_
            refine r_icmp_ge C 64 dX4_tell_27 (by decide) (fun c_12 => ?_) (fun c_12 => ?_)
            · -- to 64
              refine r_iinc C 1 (fun z => [(3, .int (z)), (4, .int (j)), (0, .ref (ad 32)), (1, .ref (ad 16)), (2, .int (q))]) dX4_tell_64 rfl (by decide) (by decide) (by omega) (fun _ => rfl) (fun z_13 hz_14 => ?_)
              refine r_goto C 8 dX4_tell_67 (by decide) ?_
              exact At.sub [0, 2, 3, 4] rfl (ih_8 τ2 (z_13 : Int32) (by omega) ho2 h32 (by omega))
            · -- to 30
              refine r_iload_n C 1 dX4_tell_30 rfl rfl ?_
              refine r_iload C 0 dX4_tell_31 rfl ?_
              refine r_ishr C dX4_tell_33 ?_
              refine r_nm (P := fun z => z = (i : Int32) >>> ((j : Int32) &&& 31)) rfl (fun z_15 hz_16 => ?_)
              refine r_iconst C (1) dX4_tell_34 (by decide) ?_
              refine r_iand C dX4_tell_35 ?_
              refine r_nm (P := fun z => z = (z_15 : Int32) &&& (1)) rfl (fun z_17 hz_18 => ?_)
              refine r_if_ne C 58 dX4_tell_36 (by decide) (fun c_19 => ?_) (fun c_19 => ?_)
              · -- to 58
                refine r_iinc C 0 (fun z => [(4, .int (z)), (3, .int (i)), (0, .ref (ad 32)), (1, .ref (ad 16)), (2, .int (q))]) dX4_tell_58 rfl (by decide) (by decide) (by omega) (fun _ => rfl) (fun z_20 hz_21 => ?_)
                refine r_goto C 21 dX4_tell_61 (by decide) ?_
                exact At.sub [0, 1, 2, 3, 4] rfl (ih_21 τ2 (z_20 : Int32) (by omega) ho2 h32 (by omega))
              · -- to 39
                have tt := ho2
                refine r_aload_n C 2 dX4_tell_39 rfl rfl ?_
                refine r_get C (k := 32) (v := .ref (ad 38)) f_X4_41 (by decide) rfl rfl dX4_tell_40 ?_
                refine r_iload_n C 1 dX4_tell_43 rfl rfl ?_
                refine r_bipush C (7) dX4_tell_44 (by decide) ?_
                refine r_imul C dX4_tell_46 ?_
                refine r_nm (P := fun z => z.toInt = 7 * (i : Int32).toInt ∧ z = (i) * (7)) ⟨ta_mulR k_7 (by omega), rfl⟩ (fun z_22 hz_23 => ?_)
                refine r_iload C 0 dX4_tell_47 rfl ?_
                refine r_iadd C dX4_tell_49 ?_
                refine r_nm (P := fun z => z.toInt = (z_22 : Int32).toInt + (j : Int32).toInt ∧ z = (z_22) + (j)) ⟨ta_add (by omega), rfl⟩ (fun z_24 hz_25 => ?_)
                refine r_aload_n C 2 dX4_tell_50 rfl rfl ?_
                refine r_iload_n C 1 dX4_tell_51 rfl rfl ?_
                refine r_iload C 0 dX4_tell_52 rfl ?_
                refine r_callV C (k := 32) [.int (i), .int (j)] [.int (z_24), .ref (ad 38)] (c_X4_fewestLeft E ad τ2  (i) (j) (by omega) (by omega) (by omega)) lv_X4_48 (by decide) rfl rfl (by decide) (by decide) rfl rfl (Nat.le_of_ble_eq_true rfl) dX4_tell_54 (fun r_26 τ_27 h_28 => ?_)
                obtain ⟨eh_28, h_28⟩ := h_28
                obtain rfl := eh_28.symm
                refine r_iast C (k := 38) (by decide) (fun _ => rfl) (by omega) dX4_tell_57 ?_
                refine r_iinc C 0 (fun z => [(4, .int (z)), (3, .int (i)), (0, .ref (ad 32)), (1, .ref (ad 16)), (2, .int (q))]) dX4_tell_58 rfl (by decide) (by decide) (by omega) (fun _ => rfl) (fun z_29 hz_30 => ?_)
                refine r_goto C 21 dX4_tell_61 (by decide) ?_
                exact At.sub [0, 1, 2, 3, 4] rfl (ih_21 (sUp τ2 38 ((z_24 : Int32).toInt.toNat) (r_26)) (z_29 : Int32) (by omega) (ho2.up (by decide))  h32 (by omega))
        exact At.sub [0, 1, 2, 3, 4] rfl (L_21 ((7 - (0 : Int32).toInt).toNat + 1) τ1 (0 : Int32) (by omega) ho h3 (by omega))
  exact At.sub [0, 1, 2, 3] rfl (L_8 ((128 - (0 : Int32).toInt).toNat + 1) τ_2 (0 : Int32) (by omega) (h_3.1.to (by decide)) (h_3.2.2) (by omega))
set_option maxHeartbeats 4000000 in
set_option maxRecDepth 100000 in
theorem c_X4_firstWrongRow (E : Ev) (ad : Nat → Nat) (σ : Sg)  (hI : IC σ) : Ct E ad yX4_firstWrongRow cX4_firstWrongRow 2 (some .int) 0 [.ref (ad 32)] σ (fun r τ => τ = σ ∧ True) := by
  have k_m1 : (-1 : Int32).toInt = -1 := by decide
  have k_0 : (0 : Int32).toInt = 0 := by decide
  have k_3 : (3 : Int32).toInt = 3 := by decide
  have hJ := hI
  unfold IC at hJ
  refine ct_of RX4 rfl (by decide +kernel) [(0, .ref (ad 32))] rfl (Nat.le_of_ble_eq_true rfl) (fun G C T => ?_)
  refine r_iconst C (0) dX4_firstWrongRow_0 (by decide) ?_
  refine r_istore_n C [(1, .int (0)), (0, .ref (ad 32))] dX4_firstWrongRow_1 rfl (by decide) rfl ?_
  have L_2 : ∀ (n : Nat), ∀ (i : Int32), (0 ≤ i.toInt ∧ i.toInt ≤ 84) → 84 - i.toInt < (n : Int) → At E ad G 2 2 [(1, .int (i)), (0, .ref (ad 32))] [] σ := by
    intro n
    induction n with
    | zero =>
      intro i hi hm
      exact absurd hm (by omega)
    | succ n ih =>
      intro i hi hm
      have ih_2 := ih
      clear ih
      refine r_iload_n C 0 dX4_firstWrongRow_2 rfl rfl ?_
      refine r_aload_n C 1 dX4_firstWrongRow_3 rfl rfl ?_
      refine r_get C (k := 32) (v := .int (σ 32 5)) f_X4_28 (by decide) rfl rfl dX4_firstWrongRow_4 ?_
      refine r_iconst C (3) dX4_firstWrongRow_7 (by decide) ?_
      refine r_imul C dX4_firstWrongRow_8 ?_
      refine r_nm (P := fun z => z.toInt = 3 * (σ 32 5 : Int32).toInt ∧ z = (σ 32 5) * (3)) ⟨ta_mulR k_3 (by omega), rfl⟩ (fun z_1 hz_2 => ?_)
      refine r_icmp_ge C 37 dX4_firstWrongRow_9 (by decide) (fun c_3 => ?_) (fun c_3 => ?_)
      · -- to 37
        refine r_aload_n C 1 dX4_firstWrongRow_37 rfl rfl ?_
        refine r_get C (k := 32) (v := .int (σ 32 5)) f_X4_28 (by decide) rfl rfl dX4_firstWrongRow_38 ?_
        refine r_aload_n C 1 dX4_firstWrongRow_41 rfl rfl ?_
        refine r_get C (k := 32) (v := .int (σ 32 4)) f_X4_25 (by decide) rfl rfl dX4_firstWrongRow_42 ?_
        refine r_icmp_ge C 55 dX4_firstWrongRow_45 (by decide) (fun c_4 => ?_) (fun c_4 => ?_)
        · -- to 55
          refine r_iconst C (-1) dX4_firstWrongRow_55 (by decide) ?_
          exact r_iret C T dX4_firstWrongRow_56 (⟨rfl, trivial⟩)
        · -- to 48
          refine r_aload_n C 1 dX4_firstWrongRow_48 rfl rfl ?_
          refine r_get C (k := 32) (v := .int (σ 32 5)) f_X4_28 (by decide) rfl rfl dX4_firstWrongRow_49 ?_
          refine r_goto C 56 dX4_firstWrongRow_52 (by decide) ?_
          exact r_iret C T dX4_firstWrongRow_56 (⟨rfl, trivial⟩)
      · -- to 12
        refine r_aload_n C 1 dX4_firstWrongRow_12 rfl rfl ?_
        refine r_get C (k := 32) (v := .ref (ad 35)) f_X4_18 (by decide) rfl rfl dX4_firstWrongRow_13 ?_
        refine r_iload_n C 0 dX4_firstWrongRow_16 rfl rfl ?_
        refine r_iald C (k := 35) (by decide) rfl (by omega) (σ 35 ((i : Int32).toInt.toNat)) rfl dX4_firstWrongRow_17 ?_
        refine r_aload_n C 1 dX4_firstWrongRow_18 rfl rfl ?_
        refine r_get C (k := 32) (v := .ref (ad 34)) f_X4_15 (by decide) rfl rfl dX4_firstWrongRow_19 ?_
        refine r_iload_n C 0 dX4_firstWrongRow_22 rfl rfl ?_
        refine r_iald C (k := 34) (by decide) rfl (by omega) (σ 34 ((i : Int32).toInt.toNat)) rfl dX4_firstWrongRow_23 ?_
        refine r_icmp_eq C 31 dX4_firstWrongRow_24 (by decide) (fun c_7 => ?_) (fun c_7 => ?_)
        · -- to 31
          refine r_iinc C 0 (fun z => [(1, .int (z)), (0, .ref (ad 32))]) dX4_firstWrongRow_31 rfl (by decide) (by decide) (by omega) (fun _ => rfl) (fun z_8 hz_9 => ?_)
          refine r_goto C 2 dX4_firstWrongRow_34 (by decide) ?_
          exact At.sub [0, 1] rfl (ih_2 (z_8 : Int32) (by omega) (by omega))
        · -- to 27
          refine r_iload_n C 0 dX4_firstWrongRow_27 rfl rfl ?_
          refine r_iconst C (3) dX4_firstWrongRow_28 (by decide) ?_
          refine r_idiv C dX4_firstWrongRow_29 (by decide) ?_
          refine r_nm (P := fun z => z = (i : Int32) / (3)) rfl (fun z_10 hz_11 => ?_)
          exact r_iret C T dX4_firstWrongRow_30 (⟨rfl, trivial⟩)
  exact At.sub [0, 1] rfl (L_2 ((84 - (0 : Int32).toInt).toNat + 1) (0 : Int32) (by omega) (by omega))
set_option maxHeartbeats 4000000 in
set_option maxRecDepth 100000 in
theorem c_X5_closedNow (E : Ev) (ad : Nat → Nat) (σ : Sg)  (hI : IC σ) : Ct E ad yX5_closedNow cX5_closedNow 1 (some .int) 2 [.ref (ad 1)] σ (fun r τ => τ = σ ∧ (σ 2 9 = 0 → (σ 16 8).toInt = 0 → r = 0)) := by
  have hJ := hI
  unfold IC at hJ
  refine ct_of RX5 rfl (by decide +kernel) [(0, .ref (ad 1))] rfl (Nat.le_of_ble_eq_true rfl) (fun G C T => ?_)
  refine r_aload_n C 0 dX5_closedNow_0 rfl rfl ?_
  refine r_get C (k := 1) (v := .ref (ad 2)) f_X5_12 (by decide) rfl rfl dX5_closedNow_1 ?_
  refine r_get C (k := 2) (v := .int (σ 2 9)) f_X5_39 (by decide) rfl rfl dX5_closedNow_4 ?_
  refine r_aload_n C 0 dX5_closedNow_7 rfl rfl ?_
  refine r_get C (k := 1) (v := .ref (ad 16)) f_X5_28 (by decide) rfl rfl dX5_closedNow_8 ?_
  refine r_callV C (k := 16) [] [.int (σ 2 9)] (c_X3_lockedPipes E ad σ   hI) lv_X5_43 (by decide) rfl rfl (by decide) (by decide) rfl rfl (Nat.le_of_ble_eq_true rfl) dX5_closedNow_11 (fun r_1 τ_2 h_3 => ?_)
  obtain ⟨eh_3, h_3⟩ := h_3
  obtain rfl := eh_3.symm
  refine r_ior C dX5_closedNow_14 ?_
  refine r_nm (P := fun z => z = (σ 2 9 : Int32) ||| (r_1)) rfl (fun z_4 hz_5 => ?_)
  exact r_iret C T dX5_closedNow_15 (⟨rfl, fun h1 h2 => by rw [hz_5, h1, ta_inj ((h_3 h2).trans Int32.toInt_zero.symm)]; rfl⟩)
set_option maxHeartbeats 4000000 in
set_option maxRecDepth 100000 in
theorem c_X5_lacksTest (E : Ev) (ad : Nat → Nat) (σ : Sg) (p : Int32) (q : Int32) (hI : IC σ) (hp : 0 ≤ p.toInt ∧ p.toInt < 7) : Ct E ad yX5_lacksTest cX5_lacksTest 5 (some .boolean) 2 [.ref (ad 1), .int p, .int q] σ (fun r τ => τ = σ ∧ (r.toInt = 0 ∨ r.toInt = 1)) := by
  have k_0 : (0 : Int32).toInt = 0 := by decide
  have k_1 : (1 : Int32).toInt = 1 := by decide
  have hJ := hI
  unfold IC at hJ
  refine ct_of RX5 rfl (by decide +kernel) [(0, .ref (ad 1)), (1, .int (p)), (2, .int (q))] rfl (Nat.le_of_ble_eq_true rfl) (fun G C T => ?_)
  refine r_iconst C (0) dX5_lacksTest_0 (by decide) ?_
  refine r_istore_n C [(3, .int (0)), (0, .ref (ad 1)), (1, .int (p)), (2, .int (q))] dX5_lacksTest_1 rfl (by decide) rfl ?_
  have L_2 : ∀ (n : Nat), ∀ (i : Int32), (0 ≤ i.toInt ∧ i.toInt ≤ 12) → 12 - i.toInt < (n : Int) → At E ad G 5 2 [(3, .int (i)), (0, .ref (ad 1)), (1, .int (p)), (2, .int (q))] [] σ := by
    intro n
    induction n with
    | zero =>
      intro i hi hm
      exact absurd hm (by omega)
    | succ n ih =>
      intro i hi hm
      have ih_2 := ih
      clear ih
      refine r_iload_n C 0 dX5_lacksTest_2 rfl rfl ?_
      refine r_aload_n C 1 dX5_lacksTest_3 rfl rfl ?_
      refine r_get C (k := 1) (v := .ref (ad 9)) f_X5_21 (by decide) rfl rfl dX5_lacksTest_4 ?_
      refine r_get C (k := 9) (v := .int (σ 9 6)) f_X5_107 (by decide) rfl rfl dX5_lacksTest_7 ?_
      refine r_icmp_ge C 68 dX5_lacksTest_10 (by decide) (fun c_1 => ?_) (fun c_1 => ?_)
      · -- to 68
        refine r_iconst C (0) dX5_lacksTest_68 (by decide) ?_
        exact r_zret C T dX5_lacksTest_69 (by omega) (⟨rfl, by omega⟩)
      · -- to 13
        refine r_aload_n C 1 dX5_lacksTest_13 rfl rfl ?_
        refine r_get C (k := 1) (v := .ref (ad 9)) f_X5_21 (by decide) rfl rfl dX5_lacksTest_14 ?_
        refine r_iload_n C 0 dX5_lacksTest_17 rfl rfl ?_
        refine r_iconst C (0) dX5_lacksTest_18 (by decide) ?_
        refine r_aload_n C 1 dX5_lacksTest_19 rfl rfl ?_
        refine r_get C (k := 1) (v := .ref (ad 16)) f_X5_28 (by decide) rfl rfl dX5_lacksTest_20 ?_
        refine r_get C (k := 16) (v := .ref (ad 18)) f_X5_110 (by decide) rfl rfl dX5_lacksTest_23 ?_
        refine r_iload_n C 2 dX5_lacksTest_26 rfl rfl ?_
        refine r_iald C (k := 18) (by decide) rfl (by omega) (σ 18 ((p : Int32).toInt.toNat)) rfl dX5_lacksTest_27 ?_
        refine r_iload_n C 3 dX5_lacksTest_28 rfl rfl ?_
        refine r_callV C (k := 9) [.int (i), .int (0), .int (σ 18 ((p : Int32).toInt.toNat)), .int (q)] [] (c_X6_speaksOf E ad σ  (i) (0) (σ 18 ((p : Int32).toInt.toNat)) (q) (by omega)) lv_X5_113 (by decide) rfl rfl (by decide) (by decide) rfl rfl (Nat.le_of_ble_eq_true rfl) dX5_lacksTest_29 (fun r_3 τ_4 h_5 => ?_)
        obtain ⟨eh_5, h_5⟩ := h_5
        obtain rfl := eh_5.symm
        refine r_istore C [(4, .int (r_3)), (3, .int (i)), (0, .ref (ad 1)), (1, .int (p)), (2, .int (q))] dX5_lacksTest_32 (by decide) rfl ?_
        refine r_iload C 0 dX5_lacksTest_34 rfl ?_
        refine r_if_eq C 62 dX5_lacksTest_36 (by decide) (fun c_6 => ?_) (fun c_6 => ?_)
        · -- to 62
          refine r_iinc C 1 (fun z => [(3, .int (z)), (4, .int (r_3)), (0, .ref (ad 1)), (1, .int (p)), (2, .int (q))]) dX5_lacksTest_62 rfl (by decide) (by decide) (by omega) (fun _ => rfl) (fun z_7 hz_8 => ?_)
          refine r_goto C 2 dX5_lacksTest_65 (by decide) ?_
          exact At.sub [0, 2, 3, 4] rfl (ih_2 (z_7 : Int32) (by omega) (by omega))
        · -- to 39
          refine r_aload_n C 2 dX5_lacksTest_39 rfl rfl ?_
          refine r_get C (k := 1) (v := .ref (ad 16)) f_X5_28 (by decide) rfl rfl dX5_lacksTest_40 ?_
          refine r_iload_n C 3 dX5_lacksTest_43 rfl rfl ?_
          refine r_iload_n C 4 dX5_lacksTest_44 rfl rfl ?_
          refine r_aload_n C 2 dX5_lacksTest_45 rfl rfl ?_
          refine r_get C (k := 1) (v := .ref (ad 9)) f_X5_21 (by decide) rfl rfl dX5_lacksTest_46 ?_
          refine r_get C (k := 9) (v := .ref (ad 12)) f_X5_116 (by decide) rfl rfl dX5_lacksTest_49 ?_
          refine r_iload_n C 1 dX5_lacksTest_52 rfl rfl ?_
          refine r_iald C (k := 12) (by decide) rfl (by omega) (σ 12 ((i : Int32).toInt.toNat)) rfl dX5_lacksTest_53 ?_
          refine r_callV C (k := 16) [.int (p), .int (q), .int (σ 12 ((i : Int32).toInt.toNat))] [] (c_X3_hasGoodTest E ad σ  (p) (q) (σ 12 ((i : Int32).toInt.toNat)) (by omega)) lv_X5_119 (by decide) rfl rfl (by decide) (by decide) rfl rfl (Nat.le_of_ble_eq_true rfl) dX5_lacksTest_54 (fun r_10 τ_11 h_12 => ?_)
          obtain ⟨eh_12, h_12⟩ := h_12
          obtain rfl := eh_12.symm
          refine r_if_ne C 62 dX5_lacksTest_57 (by decide) (fun c_13 => ?_) (fun c_13 => ?_)
          · -- to 62
            refine r_iinc C 1 (fun z => [(3, .int (z)), (4, .int (r_3)), (0, .ref (ad 1)), (1, .int (p)), (2, .int (q))]) dX5_lacksTest_62 rfl (by decide) (by decide) (by omega) (fun _ => rfl) (fun z_14 hz_15 => ?_)
            refine r_goto C 2 dX5_lacksTest_65 (by decide) ?_
            exact At.sub [0, 2, 3, 4] rfl (ih_2 (z_14 : Int32) (by omega) (by omega))
          · -- to 60
            refine r_iconst C (1) dX5_lacksTest_60 (by decide) ?_
            exact r_zret C T dX5_lacksTest_61 (by omega) (⟨rfl, by omega⟩)
  exact At.sub [0, 1, 2, 3] rfl (L_2 ((12 - (0 : Int32).toInt).toNat + 1) (0 : Int32) (by omega) (by omega))
set_option maxHeartbeats 4000000 in
set_option maxRecDepth 100000 in
theorem c_X5_quarrelOf (E : Ev) (ad : Nat → Nat) (σ : Sg) (p : Int32) (q : Int32) (hI : IC σ) (hp : 0 ≤ p.toInt ∧ p.toInt < 7) : Ct E ad yX5_quarrelOf cX5_quarrelOf 5 (some .int) 2 [.ref (ad 1), .int p, .int q] σ (fun r τ => τ = σ ∧ True) := by
  have k_m3 : (-3 : Int32).toInt = -3 := by decide
  have k_0 : (0 : Int32).toInt = 0 := by decide
  have k_3 : (3 : Int32).toInt = 3 := by decide
  have hJ := hI
  unfold IC at hJ
  refine ct_of RX5 rfl (by decide +kernel) [(0, .ref (ad 1)), (1, .int (p)), (2, .int (q))] rfl (Nat.le_of_ble_eq_true rfl) (fun G C T => ?_)
  refine r_iconst C (0) dX5_quarrelOf_0 (by decide) ?_
  refine r_istore_n C [(3, .int (0)), (0, .ref (ad 1)), (1, .int (p)), (2, .int (q))] dX5_quarrelOf_1 rfl (by decide) rfl ?_
  have L_2 : ∀ (n : Nat), ∀ (i : Int32), (0 ≤ i.toInt ∧ i.toInt ≤ 7) → 7 - i.toInt < (n : Int) → At E ad G 5 2 [(3, .int (i)), (0, .ref (ad 1)), (1, .int (p)), (2, .int (q))] [] σ := by
    intro n
    induction n with
    | zero =>
      intro i hi hm
      exact absurd hm (by omega)
    | succ n ih =>
      intro i hi hm
      have ih_2 := ih
      clear ih
      refine r_iload_n C 0 dX5_quarrelOf_2 rfl rfl ?_
      refine r_aload_n C 1 dX5_quarrelOf_3 rfl rfl ?_
      refine r_get C (k := 1) (v := .ref (ad 16)) f_X5_28 (by decide) rfl rfl dX5_quarrelOf_4 ?_
      refine r_get C (k := 16) (v := .int (σ 16 8)) f_X5_123 (by decide) rfl rfl dX5_quarrelOf_7 ?_
      refine r_icmp_ge C 97 dX5_quarrelOf_10 (by decide) (fun c_1 => ?_) (fun c_1 => ?_)
      · -- to 97
        refine r_bipush C (-3) dX5_quarrelOf_97 (by decide) ?_
        exact r_iret C T dX5_quarrelOf_99 (⟨rfl, trivial⟩)
      · -- to 13
        refine r_iload_n C 0 dX5_quarrelOf_13 rfl rfl ?_
        refine r_iload_n C 2 dX5_quarrelOf_14 rfl rfl ?_
        refine r_icmp_eq C 91 dX5_quarrelOf_15 (by decide) (fun c_2 => ?_) (fun c_2 => ?_)
        · -- to 91
          refine r_iinc C 0 (fun z => [(3, .int (z)), (0, .ref (ad 1)), (1, .int (p)), (2, .int (q))]) dX5_quarrelOf_91 rfl (by decide) (by decide) (by omega) (fun _ => rfl) (fun z_3 hz_4 => ?_)
          refine r_goto C 2 dX5_quarrelOf_94 (by decide) ?_
          exact At.sub [0, 1, 2, 3] rfl (ih_2 (z_3 : Int32) (by omega) (by omega))
        · -- to 18
          refine r_aload_n C 1 dX5_quarrelOf_18 rfl rfl ?_
          refine r_get C (k := 1) (v := .ref (ad 16)) f_X5_28 (by decide) rfl rfl dX5_quarrelOf_19 ?_
          refine r_get C (k := 16) (v := .ref (ad 20)) f_X5_51 (by decide) rfl rfl dX5_quarrelOf_22 ?_
          refine r_iload_n C 0 dX5_quarrelOf_25 rfl rfl ?_
          refine r_iald C (k := 20) (by decide) rfl (by omega) (σ 20 ((i : Int32).toInt.toNat)) rfl dX5_quarrelOf_26 ?_
          refine r_iconst C (3) dX5_quarrelOf_27 (by decide) ?_
          refine r_icmp_ne C 91 dX5_quarrelOf_28 (by decide) (fun c_6 => ?_) (fun c_6 => ?_)
          · -- to 91
            refine r_iinc C 0 (fun z => [(3, .int (z)), (0, .ref (ad 1)), (1, .int (p)), (2, .int (q))]) dX5_quarrelOf_91 rfl (by decide) (by decide) (by omega) (fun _ => rfl) (fun z_7 hz_8 => ?_)
            refine r_goto C 2 dX5_quarrelOf_94 (by decide) ?_
            exact At.sub [0, 1, 2, 3] rfl (ih_2 (z_7 : Int32) (by omega) (by omega))
          · -- to 31
            refine r_aload_n C 1 dX5_quarrelOf_31 rfl rfl ?_
            refine r_get C (k := 1) (v := .ref (ad 2)) f_X5_12 (by decide) rfl rfl dX5_quarrelOf_32 ?_
            refine r_aload_n C 1 dX5_quarrelOf_35 rfl rfl ?_
            refine r_get C (k := 1) (v := .ref (ad 16)) f_X5_28 (by decide) rfl rfl dX5_quarrelOf_36 ?_
            refine r_get C (k := 16) (v := .ref (ad 17)) f_X5_68 (by decide) rfl rfl dX5_quarrelOf_39 ?_
            refine r_iload_n C 2 dX5_quarrelOf_42 rfl rfl ?_
            refine r_iald C (k := 17) (by decide) rfl (by omega) (σ 17 ((p : Int32).toInt.toNat)) rfl dX5_quarrelOf_43 ?_
            refine r_aload_n C 1 dX5_quarrelOf_44 rfl rfl ?_
            refine r_get C (k := 1) (v := .ref (ad 16)) f_X5_28 (by decide) rfl rfl dX5_quarrelOf_45 ?_
            refine r_get C (k := 16) (v := .ref (ad 17)) f_X5_68 (by decide) rfl rfl dX5_quarrelOf_48 ?_
            refine r_iload_n C 0 dX5_quarrelOf_51 rfl rfl ?_
            refine r_iald C (k := 17) (by decide) rfl (by omega) (σ 17 ((i : Int32).toInt.toNat)) rfl dX5_quarrelOf_52 ?_
            refine r_callV C (k := 2) [.int (σ 17 ((p : Int32).toInt.toNat)), .int (σ 17 ((i : Int32).toInt.toNat))] [] (c_X2_pipesApart E ad σ  (σ 17 ((p : Int32).toInt.toNat)) (σ 17 ((i : Int32).toInt.toNat)) hI) lv_X5_124 (by decide) rfl rfl (by decide) (by decide) rfl rfl (Nat.le_of_ble_eq_true rfl) dX5_quarrelOf_53 (fun r_11 τ_12 h_13 => ?_)
            obtain ⟨eh_13, h_13⟩ := h_13
            obtain rfl := eh_13.symm
            refine r_istore C [(4, .int (r_11)), (3, .int (i)), (0, .ref (ad 1)), (1, .int (p)), (2, .int (q))] dX5_quarrelOf_56 (by decide) rfl ?_
            refine r_aload_n C 2 dX5_quarrelOf_58 rfl rfl ?_
            refine r_get C (k := 1) (v := .ref (ad 9)) f_X5_21 (by decide) rfl rfl dX5_quarrelOf_59 ?_
            refine r_aload_n C 2 dX5_quarrelOf_62 rfl rfl ?_
            refine r_get C (k := 1) (v := .ref (ad 16)) f_X5_28 (by decide) rfl rfl dX5_quarrelOf_63 ?_
            refine r_get C (k := 16) (v := .ref (ad 18)) f_X5_110 (by decide) rfl rfl dX5_quarrelOf_66 ?_
            refine r_iload_n C 3 dX5_quarrelOf_69 rfl rfl ?_
            refine r_iald C (k := 18) (by decide) rfl (by omega) (σ 18 ((p : Int32).toInt.toNat)) rfl dX5_quarrelOf_70 ?_
            refine r_aload_n C 2 dX5_quarrelOf_71 rfl rfl ?_
            refine r_get C (k := 1) (v := .ref (ad 16)) f_X5_28 (by decide) rfl rfl dX5_quarrelOf_72 ?_
            refine r_get C (k := 16) (v := .ref (ad 18)) f_X5_110 (by decide) rfl rfl dX5_quarrelOf_75 ?_
            refine r_iload_n C 1 dX5_quarrelOf_78 rfl rfl ?_
            refine r_iald C (k := 18) (by decide) rfl (by omega) (σ 18 ((i : Int32).toInt.toNat)) rfl dX5_quarrelOf_79 ?_
            refine r_iload C 0 dX5_quarrelOf_80 rfl ?_
            refine r_iload_n C 4 dX5_quarrelOf_82 rfl rfl ?_
            refine r_callV C (k := 9) [.int (σ 18 ((p : Int32).toInt.toNat)), .int (σ 18 ((i : Int32).toInt.toNat)), .int (r_11), .int (q)] [] (c_X6_barsBoth E ad σ  (σ 18 ((p : Int32).toInt.toNat)) (σ 18 ((i : Int32).toInt.toNat)) (r_11) (q) hI) lv_X5_127 (by decide) rfl rfl (by decide) (by decide) rfl rfl (Nat.le_of_ble_eq_true rfl) dX5_quarrelOf_83 (fun r_16 τ_17 h_18 => ?_)
            obtain ⟨eh_18, h_18⟩ := h_18
            obtain rfl := eh_18.symm
            refine r_if_eq C 91 dX5_quarrelOf_86 (by decide) (fun c_19 => ?_) (fun c_19 => ?_)
            · -- to 91
              refine r_iinc C 1 (fun z => [(3, .int (z)), (4, .int (r_11)), (0, .ref (ad 1)), (1, .int (p)), (2, .int (q))]) dX5_quarrelOf_91 rfl (by decide) (by decide) (by omega) (fun _ => rfl) (fun z_20 hz_21 => ?_)
              refine r_goto C 2 dX5_quarrelOf_94 (by decide) ?_
              exact At.sub [0, 2, 3, 4] rfl (ih_2 (z_20 : Int32) (by omega) (by omega))
            · -- to 89
              refine r_iload_n C 1 dX5_quarrelOf_89 rfl rfl ?_
              exact r_iret C T dX5_quarrelOf_90 (⟨rfl, trivial⟩)
  exact At.sub [0, 1, 2, 3] rfl (L_2 ((7 - (0 : Int32).toInt).toNat + 1) (0 : Int32) (by omega) (by omega))
set_option maxHeartbeats 4000000 in
set_option maxRecDepth 100000 in
theorem c_X5_isWithin (E : Ev) (ad : Nat → Nat) (σ : Sg) (p : Int32) (q : Int32) (u : Int32)  : Ct E ad yX5_isWithin cX5_isWithin 3 (some .boolean) 0 [.int p, .int q, .int u] σ (fun r τ => τ = σ ∧ (r.toInt = 0 ∨ r.toInt = 1)) := by
  have k_0 : (0 : Int32).toInt = 0 := by decide
  have k_1 : (1 : Int32).toInt = 1 := by decide
  refine ct_of RX5 rfl (by decide +kernel) [(0, .int (p)), (1, .int (q)), (2, .int (u))] rfl (Nat.le_of_ble_eq_true rfl) (fun G C T => ?_)
  refine r_iload_n C 1 dX5_isWithin_0 rfl rfl ?_
  refine r_iload_n C 2 dX5_isWithin_1 rfl rfl ?_
  refine r_icmp_le C 21 dX5_isWithin_2 (by decide) (fun c_1 => ?_) (fun c_1 => ?_)
  · -- to 21
    refine r_iload_n C 0 dX5_isWithin_21 rfl rfl ?_
    refine r_iload_n C 1 dX5_isWithin_22 rfl rfl ?_
    refine r_icmp_lt C 35 dX5_isWithin_23 (by decide) (fun c_2 => ?_) (fun c_2 => ?_)
    · -- to 35
      refine r_iconst C (0) dX5_isWithin_35 (by decide) ?_
      exact r_zret C T dX5_isWithin_36 (by omega) (⟨rfl, by omega⟩)
    · -- to 26
      refine r_iload_n C 0 dX5_isWithin_26 rfl rfl ?_
      refine r_iload_n C 2 dX5_isWithin_27 rfl rfl ?_
      refine r_icmp_gt C 35 dX5_isWithin_28 (by decide) (fun c_3 => ?_) (fun c_3 => ?_)
      · -- to 35
        refine r_iconst C (0) dX5_isWithin_35 (by decide) ?_
        exact r_zret C T dX5_isWithin_36 (by omega) (⟨rfl, by omega⟩)
      · -- to 31
        refine r_iconst C (1) dX5_isWithin_31 (by decide) ?_
        refine r_goto C 36 dX5_isWithin_32 (by decide) ?_
        exact r_zret C T dX5_isWithin_36 (by omega) (⟨rfl, by omega⟩)
  · -- to 5
    refine r_iload_n C 0 dX5_isWithin_5 rfl rfl ?_
    refine r_iload_n C 1 dX5_isWithin_6 rfl rfl ?_
    refine r_icmp_ge C 15 dX5_isWithin_7 (by decide) (fun c_4 => ?_) (fun c_4 => ?_)
    · -- to 15
      refine r_iconst C (1) dX5_isWithin_15 (by decide) ?_
      refine r_goto C 20 dX5_isWithin_16 (by decide) ?_
      exact r_zret C T dX5_isWithin_20 (by omega) (⟨rfl, by omega⟩)
    · -- to 10
      refine r_iload_n C 0 dX5_isWithin_10 rfl rfl ?_
      refine r_iload_n C 2 dX5_isWithin_11 rfl rfl ?_
      refine r_icmp_gt C 19 dX5_isWithin_12 (by decide) (fun c_5 => ?_) (fun c_5 => ?_)
      · -- to 19
        refine r_iconst C (0) dX5_isWithin_19 (by decide) ?_
        exact r_zret C T dX5_isWithin_20 (by omega) (⟨rfl, by omega⟩)
      · -- to 15
        refine r_iconst C (1) dX5_isWithin_15 (by decide) ?_
        refine r_goto C 20 dX5_isWithin_16 (by decide) ?_
        exact r_zret C T dX5_isWithin_20 (by omega) (⟨rfl, by omega⟩)
set_option maxHeartbeats 4000000 in
set_option maxRecDepth 100000 in
theorem c_X5_isOffHours (E : Ev) (ad : Nat → Nat) (σ : Sg) (p : Int32) (q : Int32) (hI : IC σ) (hp : 0 ≤ p.toInt ∧ p.toInt < 7) : Ct E ad yX5_isOffHours cX5_isOffHours 5 (some .boolean) 2 [.ref (ad 1), .int p, .int q] σ (fun r τ => τ = σ ∧ (r.toInt = 0 ∨ r.toInt = 1)) := by
  have k_0 : (0 : Int32).toInt = 0 := by decide
  have k_1 : (1 : Int32).toInt = 1 := by decide
  have k_4 : (4 : Int32).toInt = 4 := by decide
  have k_24 : (24 : Int32).toInt = 24 := by decide
  have hJ := hI
  unfold IC at hJ
  refine ct_of RX5 rfl (by decide +kernel) [(0, .ref (ad 1)), (1, .int (p)), (2, .int (q))] rfl (Nat.le_of_ble_eq_true rfl) (fun G C T => ?_)
  refine r_iconst C (0) dX5_isOffHours_0 (by decide) ?_
  refine r_istore_n C [(3, .int (0)), (0, .ref (ad 1)), (1, .int (p)), (2, .int (q))] dX5_isOffHours_1 rfl (by decide) rfl ?_
  have L_2 : ∀ (n : Nat), ∀ (i : Int32), (0 ≤ i.toInt ∧ i.toInt ≤ 12) → 12 - i.toInt < (n : Int) → At E ad G 5 2 [(3, .int (i)), (0, .ref (ad 1)), (1, .int (p)), (2, .int (q))] [] σ := by
    intro n
    induction n with
    | zero =>
      intro i hi hm
      exact absurd hm (by omega)
    | succ n ih =>
      intro i hi hm
      have ih_2 := ih
      clear ih
      refine r_iload_n C 0 dX5_isOffHours_2 rfl rfl ?_
      refine r_aload_n C 1 dX5_isOffHours_3 rfl rfl ?_
      refine r_get C (k := 1) (v := .ref (ad 9)) f_X5_21 (by decide) rfl rfl dX5_isOffHours_4 ?_
      refine r_get C (k := 9) (v := .int (σ 9 6)) f_X5_107 (by decide) rfl rfl dX5_isOffHours_7 ?_
      refine r_icmp_ge C 75 dX5_isOffHours_10 (by decide) (fun c_1 => ?_) (fun c_1 => ?_)
      · -- to 75
        refine r_iconst C (0) dX5_isOffHours_75 (by decide) ?_
        exact r_zret C T dX5_isOffHours_76 (by omega) (⟨rfl, by omega⟩)
      · -- to 13
        refine r_aload_n C 1 dX5_isOffHours_13 rfl rfl ?_
        refine r_get C (k := 1) (v := .ref (ad 9)) f_X5_21 (by decide) rfl rfl dX5_isOffHours_14 ?_
        refine r_iload_n C 0 dX5_isOffHours_17 rfl rfl ?_
        refine r_iconst C (4) dX5_isOffHours_18 (by decide) ?_
        refine r_aload_n C 1 dX5_isOffHours_19 rfl rfl ?_
        refine r_get C (k := 1) (v := .ref (ad 16)) f_X5_28 (by decide) rfl rfl dX5_isOffHours_20 ?_
        refine r_get C (k := 16) (v := .ref (ad 18)) f_X5_110 (by decide) rfl rfl dX5_isOffHours_23 ?_
        refine r_iload_n C 2 dX5_isOffHours_26 rfl rfl ?_
        refine r_iald C (k := 18) (by decide) rfl (by omega) (σ 18 ((p : Int32).toInt.toNat)) rfl dX5_isOffHours_27 ?_
        refine r_iload_n C 3 dX5_isOffHours_28 rfl rfl ?_
        refine r_callV C (k := 9) [.int (i), .int (4), .int (σ 18 ((p : Int32).toInt.toNat)), .int (q)] [] (c_X6_speaksOf E ad σ  (i) (4) (σ 18 ((p : Int32).toInt.toNat)) (q) (by omega)) lv_X5_113 (by decide) rfl rfl (by decide) (by decide) rfl rfl (Nat.le_of_ble_eq_true rfl) dX5_isOffHours_29 (fun r_3 τ_4 h_5 => ?_)
        obtain ⟨eh_5, h_5⟩ := h_5
        obtain rfl := eh_5.symm
        refine r_istore C [(4, .int (r_3)), (3, .int (i)), (0, .ref (ad 1)), (1, .int (p)), (2, .int (q))] dX5_isOffHours_32 (by decide) rfl ?_
        refine r_iload C 0 dX5_isOffHours_34 rfl ?_
        refine r_if_eq C 69 dX5_isOffHours_36 (by decide) (fun c_6 => ?_) (fun c_6 => ?_)
        · -- to 69
          refine r_iinc C 1 (fun z => [(3, .int (z)), (4, .int (r_3)), (0, .ref (ad 1)), (1, .int (p)), (2, .int (q))]) dX5_isOffHours_69 rfl (by decide) (by decide) (by omega) (fun _ => rfl) (fun z_7 hz_8 => ?_)
          refine r_goto C 2 dX5_isOffHours_72 (by decide) ?_
          exact At.sub [0, 2, 3, 4] rfl (ih_2 (z_7 : Int32) (by omega) (by omega))
        · -- to 39
          refine r_iload_n C 4 dX5_isOffHours_39 rfl rfl ?_
          refine r_bipush C (24) dX5_isOffHours_40 (by decide) ?_
          refine r_irem C dX5_isOffHours_42 (by decide) ?_
          refine r_nm (P := fun z => z = (q : Int32) - (q) / (24) * (24)) rfl (fun z_9 hz_10 => ?_)
          refine r_aload_n C 2 dX5_isOffHours_43 rfl rfl ?_
          refine r_get C (k := 1) (v := .ref (ad 9)) f_X5_21 (by decide) rfl rfl dX5_isOffHours_44 ?_
          refine r_get C (k := 9) (v := .ref (ad 12)) f_X5_116 (by decide) rfl rfl dX5_isOffHours_47 ?_
          refine r_iload_n C 1 dX5_isOffHours_50 rfl rfl ?_
          refine r_iald C (k := 12) (by decide) rfl (by omega) (σ 12 ((i : Int32).toInt.toNat)) rfl dX5_isOffHours_51 ?_
          refine r_aload_n C 2 dX5_isOffHours_52 rfl rfl ?_
          refine r_get C (k := 1) (v := .ref (ad 9)) f_X5_21 (by decide) rfl rfl dX5_isOffHours_53 ?_
          refine r_get C (k := 9) (v := .ref (ad 13)) f_X5_130 (by decide) rfl rfl dX5_isOffHours_56 ?_
          refine r_iload_n C 1 dX5_isOffHours_59 rfl rfl ?_
          refine r_iald C (k := 13) (by decide) rfl (by omega) (σ 13 ((i : Int32).toInt.toNat)) rfl dX5_isOffHours_60 ?_
          refine r_callS C [.int (z_9), .int (σ 12 ((i : Int32).toInt.toNat)), .int (σ 13 ((i : Int32).toInt.toNat))] [] (c_X5_isWithin E ad σ  (z_9) (σ 12 ((i : Int32).toInt.toNat)) (σ 13 ((i : Int32).toInt.toNat)) ) ls_X5_133 (by decide) (by decide) rfl rfl (Nat.le_of_ble_eq_true rfl) dX5_isOffHours_61 (fun r_13 τ_14 h_15 => ?_)
          obtain ⟨eh_15, h_15⟩ := h_15
          obtain rfl := eh_15.symm
          refine r_if_ne C 69 dX5_isOffHours_64 (by decide) (fun c_16 => ?_) (fun c_16 => ?_)
          · -- to 69
            refine r_iinc C 1 (fun z => [(3, .int (z)), (4, .int (r_3)), (0, .ref (ad 1)), (1, .int (p)), (2, .int (q))]) dX5_isOffHours_69 rfl (by decide) (by decide) (by omega) (fun _ => rfl) (fun z_17 hz_18 => ?_)
            refine r_goto C 2 dX5_isOffHours_72 (by decide) ?_
            exact At.sub [0, 2, 3, 4] rfl (ih_2 (z_17 : Int32) (by omega) (by omega))
          · -- to 67
            refine r_iconst C (1) dX5_isOffHours_67 (by decide) ?_
            exact r_zret C T dX5_isOffHours_68 (by omega) (⟨rfl, by omega⟩)
  exact At.sub [0, 1, 2, 3] rfl (L_2 ((12 - (0 : Int32).toInt).toNat + 1) (0 : Int32) (by omega) (by omega))
set_option maxHeartbeats 4000000 in
set_option maxRecDepth 100000 in
theorem c_X5_isCrowded (E : Ev) (ad : Nat → Nat) (σ : Sg) (p : Int32) (q : Int32) (hI : IC σ) (hp : 0 ≤ p.toInt ∧ p.toInt < 7) : Ct E ad yX5_isCrowded cX5_isCrowded 5 (some .boolean) 2 [.ref (ad 1), .int p, .int q] σ (fun r τ => τ = σ ∧ (r.toInt = 0 ∨ r.toInt = 1)) := by
  have k_0 : (0 : Int32).toInt = 0 := by decide
  have k_1 : (1 : Int32).toInt = 1 := by decide
  have k_3 : (3 : Int32).toInt = 3 := by decide
  have hJ := hI
  unfold IC at hJ
  refine ct_of RX5 rfl (by decide +kernel) [(0, .ref (ad 1)), (1, .int (p)), (2, .int (q))] rfl (Nat.le_of_ble_eq_true rfl) (fun G C T => ?_)
  refine r_aload_n C 0 dX5_isCrowded_0 rfl rfl ?_
  refine r_get C (k := 1) (v := .ref (ad 25)) f_X5_35 (by decide) rfl rfl dX5_isCrowded_1 ?_
  refine r_iload_n C 1 dX5_isCrowded_4 rfl rfl ?_
  refine r_callV C (k := 25) [.int (p)] [] (c_X0_insideFor E ad σ  (p) ) lv_X5_58 (by decide) rfl rfl (by decide) (by decide) rfl rfl (Nat.le_of_ble_eq_true rfl) dX5_isCrowded_5 (fun r_1 τ_2 h_3 => ?_)
  obtain ⟨eh_3, h_3⟩ := h_3
  obtain rfl := eh_3.symm
  refine r_istore_n C [(3, .int (r_1)), (0, .ref (ad 1)), (1, .int (p)), (2, .int (q))] dX5_isCrowded_8 rfl (by decide) rfl ?_
  refine r_iconst C (0) dX5_isCrowded_9 (by decide) ?_
  refine r_istore C [(4, .int (0)), (3, .int (r_1)), (0, .ref (ad 1)), (1, .int (p)), (2, .int (q))] dX5_isCrowded_10 (by decide) rfl ?_
  have L_12 : ∀ (n : Nat), ∀ (i : Int32), (0 ≤ i.toInt ∧ i.toInt ≤ 12) → 12 - i.toInt < (n : Int) → At E ad G 5 12 [(4, .int (i)), (3, .int (r_1)), (0, .ref (ad 1)), (1, .int (p)), (2, .int (q))] [] σ := by
    intro n
    induction n with
    | zero =>
      intro i hi hm
      exact absurd hm (by omega)
    | succ n ih =>
      intro i hi hm
      have ih_12 := ih
      clear ih
      refine r_iload C 0 dX5_isCrowded_12 rfl ?_
      refine r_aload_n C 2 dX5_isCrowded_14 rfl rfl ?_
      refine r_get C (k := 1) (v := .ref (ad 9)) f_X5_21 (by decide) rfl rfl dX5_isCrowded_15 ?_
      refine r_get C (k := 9) (v := .int (σ 9 6)) f_X5_107 (by decide) rfl rfl dX5_isCrowded_18 ?_
      refine r_icmp_ge C 69 dX5_isCrowded_21 (by decide) (fun c_4 => ?_) (fun c_4 => ?_)
      · -- to 69
        refine r_iconst C (0) dX5_isCrowded_69 (by decide) ?_
        exact r_zret C T dX5_isCrowded_70 (by omega) (⟨rfl, by omega⟩)
      · -- to 24
        refine r_aload_n C 2 dX5_isCrowded_24 rfl rfl ?_
        refine r_get C (k := 1) (v := .ref (ad 9)) f_X5_21 (by decide) rfl rfl dX5_isCrowded_25 ?_
        refine r_iload C 0 dX5_isCrowded_28 rfl ?_
        refine r_iconst C (3) dX5_isCrowded_30 (by decide) ?_
        refine r_aload_n C 2 dX5_isCrowded_31 rfl rfl ?_
        refine r_get C (k := 1) (v := .ref (ad 16)) f_X5_28 (by decide) rfl rfl dX5_isCrowded_32 ?_
        refine r_get C (k := 16) (v := .ref (ad 18)) f_X5_110 (by decide) rfl rfl dX5_isCrowded_35 ?_
        refine r_iload_n C 3 dX5_isCrowded_38 rfl rfl ?_
        refine r_iald C (k := 18) (by decide) rfl (by omega) (σ 18 ((p : Int32).toInt.toNat)) rfl dX5_isCrowded_39 ?_
        refine r_iload_n C 4 dX5_isCrowded_40 rfl rfl ?_
        refine r_callV C (k := 9) [.int (i), .int (3), .int (σ 18 ((p : Int32).toInt.toNat)), .int (q)] [] (c_X6_speaksOf E ad σ  (i) (3) (σ 18 ((p : Int32).toInt.toNat)) (q) (by omega)) lv_X5_113 (by decide) rfl rfl (by decide) (by decide) rfl rfl (Nat.le_of_ble_eq_true rfl) dX5_isCrowded_41 (fun r_6 τ_7 h_8 => ?_)
        obtain ⟨eh_8, h_8⟩ := h_8
        obtain rfl := eh_8.symm
        refine r_if_eq C 63 dX5_isCrowded_44 (by decide) (fun c_9 => ?_) (fun c_9 => ?_)
        · -- to 63
          refine r_iinc C 0 (fun z => [(4, .int (z)), (3, .int (r_1)), (0, .ref (ad 1)), (1, .int (p)), (2, .int (q))]) dX5_isCrowded_63 rfl (by decide) (by decide) (by omega) (fun _ => rfl) (fun z_10 hz_11 => ?_)
          refine r_goto C 12 dX5_isCrowded_66 (by decide) ?_
          exact At.sub [0, 1, 2, 3, 4] rfl (ih_12 (z_10 : Int32) (by omega) (by omega))
        · -- to 47
          refine r_iload_n C 1 dX5_isCrowded_47 rfl rfl ?_
          refine r_aload_n C 2 dX5_isCrowded_48 rfl rfl ?_
          refine r_get C (k := 1) (v := .ref (ad 9)) f_X5_21 (by decide) rfl rfl dX5_isCrowded_49 ?_
          refine r_get C (k := 9) (v := .ref (ad 12)) f_X5_116 (by decide) rfl rfl dX5_isCrowded_52 ?_
          refine r_iload C 0 dX5_isCrowded_55 rfl ?_
          refine r_iald C (k := 12) (by decide) rfl (by omega) (σ 12 ((i : Int32).toInt.toNat)) rfl dX5_isCrowded_57 ?_
          refine r_icmp_lt C 63 dX5_isCrowded_58 (by decide) (fun c_13 => ?_) (fun c_13 => ?_)
          · -- to 63
            refine r_iinc C 0 (fun z => [(4, .int (z)), (3, .int (r_1)), (0, .ref (ad 1)), (1, .int (p)), (2, .int (q))]) dX5_isCrowded_63 rfl (by decide) (by decide) (by omega) (fun _ => rfl) (fun z_14 hz_15 => ?_)
            refine r_goto C 12 dX5_isCrowded_66 (by decide) ?_
            exact At.sub [0, 1, 2, 3, 4] rfl (ih_12 (z_14 : Int32) (by omega) (by omega))
          · -- to 61
            refine r_iconst C (1) dX5_isCrowded_61 (by decide) ?_
            exact r_zret C T dX5_isCrowded_62 (by omega) (⟨rfl, by omega⟩)
  exact At.sub [0, 1, 2, 3, 4] rfl (L_12 ((12 - (0 : Int32).toInt).toNat + 1) (0 : Int32) (by omega) (by omega))
set_option maxHeartbeats 4000000 in
set_option maxRecDepth 100000 in
theorem c_X5_isWatched (E : Ev) (ad : Nat → Nat) (σ : Sg) (p : Int32) (q : Int32) (hI : IC σ) (hp : 0 ≤ p.toInt ∧ p.toInt < 7) : Ct E ad yX5_isWatched cX5_isWatched 5 (some .boolean) 2 [.ref (ad 1), .int p, .int q] σ (fun r τ => τ = σ ∧ (r.toInt = 0 ∨ r.toInt = 1)) := by
  have k_m3 : (-3 : Int32).toInt = -3 := by decide
  have k_0 : (0 : Int32).toInt = 0 := by decide
  have k_1 : (1 : Int32).toInt = 1 := by decide
  have k_5 : (5 : Int32).toInt = 5 := by decide
  have hJ := hI
  unfold IC at hJ
  refine ct_of RX5 rfl (by decide +kernel) [(0, .ref (ad 1)), (1, .int (p)), (2, .int (q))] rfl (Nat.le_of_ble_eq_true rfl) (fun G C T => ?_)
  refine r_aload_n C 0 dX5_isWatched_0 rfl rfl ?_
  refine r_get C (k := 1) (v := .ref (ad 16)) f_X5_28 (by decide) rfl rfl dX5_isWatched_1 ?_
  refine r_get C (k := 16) (v := .ref (ad 24)) f_X5_136 (by decide) rfl rfl dX5_isWatched_4 ?_
  refine r_iload_n C 1 dX5_isWatched_7 rfl rfl ?_
  refine r_iald C (k := 24) (by decide) rfl (by omega) (σ 24 ((p : Int32).toInt.toNat)) rfl dX5_isWatched_8 ?_
  refine r_istore_n C [(3, .int (σ 24 ((p : Int32).toInt.toNat))), (0, .ref (ad 1)), (1, .int (p)), (2, .int (q))] dX5_isWatched_9 rfl (by decide) rfl ?_
  refine r_iload_n C 0 dX5_isWatched_10 rfl rfl ?_
  refine r_bipush C (-3) dX5_isWatched_11 (by decide) ?_
  refine r_icmp_ne C 18 dX5_isWatched_13 (by decide) (fun c_2 => ?_) (fun c_2 => ?_)
  · -- to 18
    refine r_iconst C (0) dX5_isWatched_18 (by decide) ?_
    refine r_istore C [(4, .int (0)), (3, .int (σ 24 ((p : Int32).toInt.toNat))), (0, .ref (ad 1)), (1, .int (p)), (2, .int (q))] dX5_isWatched_19 (by decide) rfl ?_
    have L_21 : ∀ (n : Nat), ∀ (i : Int32), (0 ≤ i.toInt ∧ i.toInt ≤ 12) → 12 - i.toInt < (n : Int) → At E ad G 5 21 [(4, .int (i)), (3, .int (σ 24 ((p : Int32).toInt.toNat))), (0, .ref (ad 1)), (1, .int (p)), (2, .int (q))] [] σ := by
      intro n
      induction n with
      | zero =>
        intro i hi hm
        exact absurd hm (by omega)
      | succ n ih =>
        intro i hi hm
        have ih_21 := ih
        clear ih
        refine r_iload C 0 dX5_isWatched_21 rfl ?_
        refine r_aload_n C 2 dX5_isWatched_23 rfl rfl ?_
        refine r_get C (k := 1) (v := .ref (ad 9)) f_X5_21 (by decide) rfl rfl dX5_isWatched_24 ?_
        refine r_get C (k := 9) (v := .int (σ 9 6)) f_X5_107 (by decide) rfl rfl dX5_isWatched_27 ?_
        refine r_icmp_ge C 80 dX5_isWatched_30 (by decide) (fun c_3 => ?_) (fun c_3 => ?_)
        · -- to 80
          refine r_iconst C (0) dX5_isWatched_80 (by decide) ?_
          exact r_zret C T dX5_isWatched_81 (by omega) (⟨rfl, by omega⟩)
        · -- to 33
          refine r_aload_n C 2 dX5_isWatched_33 rfl rfl ?_
          refine r_get C (k := 1) (v := .ref (ad 9)) f_X5_21 (by decide) rfl rfl dX5_isWatched_34 ?_
          refine r_iload C 0 dX5_isWatched_37 rfl ?_
          refine r_iconst C (5) dX5_isWatched_39 (by decide) ?_
          refine r_aload_n C 2 dX5_isWatched_40 rfl rfl ?_
          refine r_get C (k := 1) (v := .ref (ad 16)) f_X5_28 (by decide) rfl rfl dX5_isWatched_41 ?_
          refine r_get C (k := 16) (v := .ref (ad 18)) f_X5_110 (by decide) rfl rfl dX5_isWatched_44 ?_
          refine r_iload_n C 3 dX5_isWatched_47 rfl rfl ?_
          refine r_iald C (k := 18) (by decide) rfl (by omega) (σ 18 ((p : Int32).toInt.toNat)) rfl dX5_isWatched_48 ?_
          refine r_iload_n C 4 dX5_isWatched_49 rfl rfl ?_
          refine r_callV C (k := 9) [.int (i), .int (5), .int (σ 18 ((p : Int32).toInt.toNat)), .int (q)] [] (c_X6_speaksOf E ad σ  (i) (5) (σ 18 ((p : Int32).toInt.toNat)) (q) (by omega)) lv_X5_113 (by decide) rfl rfl (by decide) (by decide) rfl rfl (Nat.le_of_ble_eq_true rfl) dX5_isWatched_50 (fun r_5 τ_6 h_7 => ?_)
          obtain ⟨eh_7, h_7⟩ := h_7
          obtain rfl := eh_7.symm
          refine r_if_eq C 74 dX5_isWatched_53 (by decide) (fun c_8 => ?_) (fun c_8 => ?_)
          · -- to 74
            refine r_iinc C 0 (fun z => [(4, .int (z)), (3, .int (σ 24 ((p : Int32).toInt.toNat))), (0, .ref (ad 1)), (1, .int (p)), (2, .int (q))]) dX5_isWatched_74 rfl (by decide) (by decide) (by omega) (fun _ => rfl) (fun z_9 hz_10 => ?_)
            refine r_goto C 21 dX5_isWatched_77 (by decide) ?_
            exact At.sub [0, 1, 2, 3, 4] rfl (ih_21 (z_9 : Int32) (by omega) (by omega))
          · -- to 56
            refine r_iload_n C 4 dX5_isWatched_56 rfl rfl ?_
            refine r_iload_n C 1 dX5_isWatched_57 rfl rfl ?_
            refine r_isub C dX5_isWatched_58 ?_
            refine r_nm (P := fun z => z = (q) - (σ 24 ((p : Int32).toInt.toNat))) rfl (fun z_11 hz_12 => ?_)
            refine r_aload_n C 2 dX5_isWatched_59 rfl rfl ?_
            refine r_get C (k := 1) (v := .ref (ad 9)) f_X5_21 (by decide) rfl rfl dX5_isWatched_60 ?_
            refine r_get C (k := 9) (v := .ref (ad 12)) f_X5_116 (by decide) rfl rfl dX5_isWatched_63 ?_
            refine r_iload C 0 dX5_isWatched_66 rfl ?_
            refine r_iald C (k := 12) (by decide) rfl (by omega) (σ 12 ((i : Int32).toInt.toNat)) rfl dX5_isWatched_68 ?_
            refine r_icmp_ge C 74 dX5_isWatched_69 (by decide) (fun c_14 => ?_) (fun c_14 => ?_)
            · -- to 74
              refine r_iinc C 0 (fun z => [(4, .int (z)), (3, .int (σ 24 ((p : Int32).toInt.toNat))), (0, .ref (ad 1)), (1, .int (p)), (2, .int (q))]) dX5_isWatched_74 rfl (by decide) (by decide) (by omega) (fun _ => rfl) (fun z_15 hz_16 => ?_)
              refine r_goto C 21 dX5_isWatched_77 (by decide) ?_
              exact At.sub [0, 1, 2, 3, 4] rfl (ih_21 (z_15 : Int32) (by omega) (by omega))
            · -- to 72
              refine r_iconst C (1) dX5_isWatched_72 (by decide) ?_
              exact r_zret C T dX5_isWatched_73 (by omega) (⟨rfl, by omega⟩)
    exact At.sub [0, 1, 2, 3, 4] rfl (L_21 ((12 - (0 : Int32).toInt).toNat + 1) (0 : Int32) (by omega) (by omega))
  · -- to 16
    refine r_iconst C (0) dX5_isWatched_16 (by decide) ?_
    exact r_zret C T dX5_isWatched_17 (by omega) (⟨rfl, by omega⟩)
set_option maxHeartbeats 4000000 in
set_option maxRecDepth 100000 in
theorem c_X5_barOfStart (E : Ev) (ad : Nat → Nat) (σ : Sg) (p : Int32) (q : Int32) (hI : IC σ) (hp : 0 ≤ p.toInt ∧ p.toInt < 7) : Ct E ad yX5_barOfStart cX5_barOfStart 3 (some .int) 3 [.ref (ad 1), .int p, .int q] σ (fun r τ => τ = σ ∧ 0 ≤ r.toInt ∧ r.toInt ≤ 8) := by
  have k_m3 : (-3 : Int32).toInt = -3 := by decide
  have k_0 : (0 : Int32).toInt = 0 := by decide
  have k_2 : (2 : Int32).toInt = 2 := by decide
  have k_3 : (3 : Int32).toInt = 3 := by decide
  have k_4 : (4 : Int32).toInt = 4 := by decide
  have k_5 : (5 : Int32).toInt = 5 := by decide
  have k_6 : (6 : Int32).toInt = 6 := by decide
  have hJ := hI
  unfold IC at hJ
  refine ct_of RX5 rfl (by decide +kernel) [(0, .ref (ad 1)), (1, .int (p)), (2, .int (q))] rfl (Nat.le_of_ble_eq_true rfl) (fun G C T => ?_)
  refine r_aload_n C 0 dX5_barOfStart_0 rfl rfl ?_
  refine r_get C (k := 1) (v := .ref (ad 2)) f_X5_12 (by decide) rfl rfl dX5_barOfStart_1 ?_
  refine r_aload_n C 0 dX5_barOfStart_4 rfl rfl ?_
  refine r_get C (k := 1) (v := .ref (ad 16)) f_X5_28 (by decide) rfl rfl dX5_barOfStart_5 ?_
  refine r_get C (k := 16) (v := .ref (ad 17)) f_X5_68 (by decide) rfl rfl dX5_barOfStart_8 ?_
  refine r_iload_n C 1 dX5_barOfStart_11 rfl rfl ?_
  refine r_iald C (k := 17) (by decide) rfl (by omega) (σ 17 ((p : Int32).toInt.toNat)) rfl dX5_barOfStart_12 ?_
  refine r_aload_n C 0 dX5_barOfStart_13 rfl rfl ?_
  refine r_callV C (k := 1) [] [.int (σ 17 ((p : Int32).toInt.toNat)), .ref (ad 2)] (c_X5_closedNow E ad σ   hI) lv_X5_71 (by decide) rfl rfl (by decide) (by decide) rfl rfl (Nat.le_of_ble_eq_true rfl) dX5_barOfStart_14 (fun r_2 τ_3 h_4 => ?_)
  obtain ⟨eh_4, h_4⟩ := h_4
  obtain rfl := eh_4.symm
  refine r_aload_n C 0 dX5_barOfStart_17 rfl rfl ?_
  refine r_get C (k := 1) (v := .ref (ad 2)) f_X5_12 (by decide) rfl rfl dX5_barOfStart_18 ?_
  refine r_callV C (k := 2) [] [.int (r_2), .int (σ 17 ((p : Int32).toInt.toNat)), .ref (ad 2)] (c_X2_allPipes E ad σ   ) lv_X5_74 (by decide) rfl rfl (by decide) (by decide) rfl rfl (Nat.le_of_ble_eq_true rfl) dX5_barOfStart_21 (fun r_5 τ_6 h_7 => ?_)
  obtain ⟨eh_7, h_7⟩ := h_7
  obtain rfl := eh_7.symm
  refine r_aload_n C 0 dX5_barOfStart_24 rfl rfl ?_
  refine r_get C (k := 1) (v := .ref (ad 9)) f_X5_21 (by decide) rfl rfl dX5_barOfStart_25 ?_
  refine r_iload_n C 2 dX5_barOfStart_28 rfl rfl ?_
  refine r_callV C (k := 9) [.int (q)] [.int (r_5), .int (r_2), .int (σ 17 ((p : Int32).toInt.toNat)), .ref (ad 2)] (c_X6_doubledAt E ad σ  (q) hI) lv_X5_77 (by decide) rfl rfl (by decide) (by decide) rfl rfl (Nat.le_of_ble_eq_true rfl) dX5_barOfStart_29 (fun r_8 τ_9 h_10 => ?_)
  obtain ⟨eh_10, h_10⟩ := h_10
  obtain rfl := eh_10.symm
  refine r_callV C (k := 2) [.int (σ 17 ((p : Int32).toInt.toNat)), .int (r_2), .int (r_5), .int (r_8)] [] (c_X2_isSafe E ad σ  (σ 17 ((p : Int32).toInt.toNat)) (r_2) (r_5) (r_8) hI) lv_X5_80 (by decide) rfl rfl (by decide) (by decide) rfl rfl (Nat.le_of_ble_eq_true rfl) dX5_barOfStart_32 (fun r_11 τ_12 h_13 => ?_)
  obtain ⟨eh_13, h_13⟩ := h_13
  obtain rfl := eh_13.symm
  refine r_if_ne C 40 dX5_barOfStart_35 (by decide) (fun c_14 => ?_) (fun c_14 => ?_)
  · -- to 40
    refine r_aload_n C 0 dX5_barOfStart_40 rfl rfl ?_
    refine r_iload_n C 1 dX5_barOfStart_41 rfl rfl ?_
    refine r_iload_n C 2 dX5_barOfStart_42 rfl rfl ?_
    refine r_callV C (k := 1) [.int (p), .int (q)] [] (c_X5_lacksTest E ad σ  (p) (q) hI (by omega)) lv_X5_84 (by decide) rfl rfl (by decide) (by decide) rfl rfl (Nat.le_of_ble_eq_true rfl) dX5_barOfStart_43 (fun r_15 τ_16 h_17 => ?_)
    obtain ⟨eh_17, h_17⟩ := h_17
    obtain rfl := eh_17.symm
    refine r_if_eq C 51 dX5_barOfStart_46 (by decide) (fun c_18 => ?_) (fun c_18 => ?_)
    · -- to 51
      refine r_aload_n C 0 dX5_barOfStart_51 rfl rfl ?_
      refine r_iload_n C 1 dX5_barOfStart_52 rfl rfl ?_
      refine r_iload_n C 2 dX5_barOfStart_53 rfl rfl ?_
      refine r_callV C (k := 1) [.int (p), .int (q)] [] (c_X5_quarrelOf E ad σ  (p) (q) hI (by omega)) lv_X5_88 (by decide) rfl rfl (by decide) (by decide) rfl rfl (Nat.le_of_ble_eq_true rfl) dX5_barOfStart_54 (fun r_19 τ_20 h_21 => ?_)
      obtain ⟨eh_21, h_21⟩ := h_21
      obtain rfl := eh_21.symm
      refine r_bipush C (-3) dX5_barOfStart_57 (by decide) ?_
      refine r_icmp_eq C 64 dX5_barOfStart_59 (by decide) (fun c_22 => ?_) (fun c_22 => ?_)
      · -- to 64
        refine r_aload_n C 0 dX5_barOfStart_64 rfl rfl ?_
        refine r_iload_n C 1 dX5_barOfStart_65 rfl rfl ?_
        refine r_iload_n C 2 dX5_barOfStart_66 rfl rfl ?_
        refine r_callV C (k := 1) [.int (p), .int (q)] [] (c_X5_isOffHours E ad σ  (p) (q) hI (by omega)) lv_X5_91 (by decide) rfl rfl (by decide) (by decide) rfl rfl (Nat.le_of_ble_eq_true rfl) dX5_barOfStart_67 (fun r_23 τ_24 h_25 => ?_)
        obtain ⟨eh_25, h_25⟩ := h_25
        obtain rfl := eh_25.symm
        refine r_if_eq C 75 dX5_barOfStart_70 (by decide) (fun c_26 => ?_) (fun c_26 => ?_)
        · -- to 75
          refine r_aload_n C 0 dX5_barOfStart_75 rfl rfl ?_
          refine r_get C (k := 1) (v := .ref (ad 25)) f_X5_35 (by decide) rfl rfl dX5_barOfStart_76 ?_
          refine r_aload_n C 0 dX5_barOfStart_79 rfl rfl ?_
          refine r_get C (k := 1) (v := .ref (ad 16)) f_X5_28 (by decide) rfl rfl dX5_barOfStart_80 ?_
          refine r_get C (k := 16) (v := .ref (ad 21)) f_X5_94 (by decide) rfl rfl dX5_barOfStart_83 ?_
          refine r_iload_n C 1 dX5_barOfStart_86 rfl rfl ?_
          refine r_iald C (k := 21) (by decide) rfl (by omega) (σ 21 ((p : Int32).toInt.toNat)) rfl dX5_barOfStart_87 ?_
          refine r_callV C (k := 25) [.int (σ 21 ((p : Int32).toInt.toNat))] [] (c_X0_isOn E ad σ  (σ 21 ((p : Int32).toInt.toNat)) ) lv_X5_97 (by decide) rfl rfl (by decide) (by decide) rfl rfl (Nat.le_of_ble_eq_true rfl) dX5_barOfStart_88 (fun r_28 τ_29 h_30 => ?_)
          obtain ⟨eh_30, h_30⟩ := h_30
          obtain rfl := eh_30.symm
          refine r_if_eq C 98 dX5_barOfStart_91 (by decide) (fun c_31 => ?_) (fun c_31 => ?_)
          · -- to 98
            refine r_bipush C (6) dX5_barOfStart_98 (by decide) ?_
            exact r_iret C T dX5_barOfStart_100 (⟨rfl, by omega⟩)
          · -- to 94
            refine r_iconst C (0) dX5_barOfStart_94 (by decide) ?_
            refine r_goto C 100 dX5_barOfStart_95 (by decide) ?_
            exact r_iret C T dX5_barOfStart_100 (⟨rfl, by omega⟩)
        · -- to 73
          refine r_iconst C (5) dX5_barOfStart_73 (by decide) ?_
          exact r_iret C T dX5_barOfStart_74 (⟨rfl, by omega⟩)
      · -- to 62
        refine r_iconst C (4) dX5_barOfStart_62 (by decide) ?_
        exact r_iret C T dX5_barOfStart_63 (⟨rfl, by omega⟩)
    · -- to 49
      refine r_iconst C (3) dX5_barOfStart_49 (by decide) ?_
      exact r_iret C T dX5_barOfStart_50 (⟨rfl, by omega⟩)
  · -- to 38
    refine r_iconst C (2) dX5_barOfStart_38 (by decide) ?_
    exact r_iret C T dX5_barOfStart_39 (⟨rfl, by omega⟩)
set_option maxHeartbeats 4000000 in
set_option maxRecDepth 100000 in
theorem c_X5_barOfBack (E : Ev) (ad : Nat → Nat) (σ : Sg) (p : Int32) (q : Int32) (hI : IC σ) (hp : 0 ≤ p.toInt ∧ p.toInt < 7) : Ct E ad yX5_barOfBack cX5_barOfBack 3 (some .int) 3 [.ref (ad 1), .int p, .int q] σ (fun r τ => τ = σ ∧ 0 ≤ r.toInt ∧ r.toInt ≤ 8) := by
  have k_0 : (0 : Int32).toInt = 0 := by decide
  have k_7 : (7 : Int32).toInt = 7 := by decide
  have k_8 : (8 : Int32).toInt = 8 := by decide
  have hJ := hI
  unfold IC at hJ
  refine ct_of RX5 rfl (by decide +kernel) [(0, .ref (ad 1)), (1, .int (p)), (2, .int (q))] rfl (Nat.le_of_ble_eq_true rfl) (fun G C T => ?_)
  refine r_aload_n C 0 dX5_barOfBack_0 rfl rfl ?_
  refine r_get C (k := 1) (v := .ref (ad 25)) f_X5_35 (by decide) rfl rfl dX5_barOfBack_1 ?_
  refine r_iload_n C 1 dX5_barOfBack_4 rfl rfl ?_
  refine r_callV C (k := 25) [.int (p)] [] (c_X0_insideFor E ad σ  (p) ) lv_X5_58 (by decide) rfl rfl (by decide) (by decide) rfl rfl (Nat.le_of_ble_eq_true rfl) dX5_barOfBack_5 (fun r_1 τ_2 h_3 => ?_)
  obtain ⟨eh_3, h_3⟩ := h_3
  obtain rfl := eh_3.symm
  refine r_if_le C 14 dX5_barOfBack_8 (by decide) (fun c_4 => ?_) (fun c_4 => ?_)
  · -- to 14
    refine r_aload_n C 0 dX5_barOfBack_14 rfl rfl ?_
    refine r_iload_n C 1 dX5_barOfBack_15 rfl rfl ?_
    refine r_iload_n C 2 dX5_barOfBack_16 rfl rfl ?_
    refine r_callV C (k := 1) [.int (p), .int (q)] [] (c_X5_isWatched E ad σ  (p) (q) hI (by omega)) lv_X5_101 (by decide) rfl rfl (by decide) (by decide) rfl rfl (Nat.le_of_ble_eq_true rfl) dX5_barOfBack_17 (fun r_5 τ_6 h_7 => ?_)
    obtain ⟨eh_7, h_7⟩ := h_7
    obtain rfl := eh_7.symm
    refine r_if_eq C 28 dX5_barOfBack_20 (by decide) (fun c_8 => ?_) (fun c_8 => ?_)
    · -- to 28
      refine r_iconst C (0) dX5_barOfBack_28 (by decide) ?_
      exact r_iret C T dX5_barOfBack_29 (⟨rfl, by omega⟩)
    · -- to 23
      refine r_bipush C (8) dX5_barOfBack_23 (by decide) ?_
      refine r_goto C 29 dX5_barOfBack_25 (by decide) ?_
      exact r_iret C T dX5_barOfBack_29 (⟨rfl, by omega⟩)
  · -- to 11
    refine r_bipush C (7) dX5_barOfBack_11 (by decide) ?_
    exact r_iret C T dX5_barOfBack_13 (⟨rfl, by omega⟩)
set_option maxHeartbeats 4000000 in
set_option maxRecDepth 100000 in
theorem c_X5_barOfEnter (E : Ev) (ad : Nat → Nat) (σ : Sg) (p : Int32) (q : Int32) (hI : IC σ) (hp : 0 ≤ p.toInt ∧ p.toInt < 7) : Ct E ad yX5_barOfEnter cX5_barOfEnter 3 (some .int) 3 [.ref (ad 1), .int p, .int q] σ (fun r τ => τ = σ ∧ 0 ≤ r.toInt ∧ r.toInt ≤ 8) := by
  have k_0 : (0 : Int32).toInt = 0 := by decide
  have k_3 : (3 : Int32).toInt = 3 := by decide
  have k_5 : (5 : Int32).toInt = 5 := by decide
  have k_7 : (7 : Int32).toInt = 7 := by decide
  have hJ := hI
  unfold IC at hJ
  refine ct_of RX5 rfl (by decide +kernel) [(0, .ref (ad 1)), (1, .int (p)), (2, .int (q))] rfl (Nat.le_of_ble_eq_true rfl) (fun G C T => ?_)
  refine r_aload_n C 0 dX5_barOfEnter_0 rfl rfl ?_
  refine r_iload_n C 1 dX5_barOfEnter_1 rfl rfl ?_
  refine r_iload_n C 2 dX5_barOfEnter_2 rfl rfl ?_
  refine r_callV C (k := 1) [.int (p), .int (q)] [] (c_X5_lacksTest E ad σ  (p) (q) hI (by omega)) lv_X5_84 (by decide) rfl rfl (by decide) (by decide) rfl rfl (Nat.le_of_ble_eq_true rfl) dX5_barOfEnter_3 (fun r_1 τ_2 h_3 => ?_)
  obtain ⟨eh_3, h_3⟩ := h_3
  obtain rfl := eh_3.symm
  refine r_if_eq C 11 dX5_barOfEnter_6 (by decide) (fun c_4 => ?_) (fun c_4 => ?_)
  · -- to 11
    refine r_aload_n C 0 dX5_barOfEnter_11 rfl rfl ?_
    refine r_iload_n C 1 dX5_barOfEnter_12 rfl rfl ?_
    refine r_iload_n C 2 dX5_barOfEnter_13 rfl rfl ?_
    refine r_callV C (k := 1) [.int (p), .int (q)] [] (c_X5_isOffHours E ad σ  (p) (q) hI (by omega)) lv_X5_91 (by decide) rfl rfl (by decide) (by decide) rfl rfl (Nat.le_of_ble_eq_true rfl) dX5_barOfEnter_14 (fun r_5 τ_6 h_7 => ?_)
    obtain ⟨eh_7, h_7⟩ := h_7
    obtain rfl := eh_7.symm
    refine r_if_eq C 22 dX5_barOfEnter_17 (by decide) (fun c_8 => ?_) (fun c_8 => ?_)
    · -- to 22
      refine r_aload_n C 0 dX5_barOfEnter_22 rfl rfl ?_
      refine r_iload_n C 1 dX5_barOfEnter_23 rfl rfl ?_
      refine r_iload_n C 2 dX5_barOfEnter_24 rfl rfl ?_
      refine r_callV C (k := 1) [.int (p), .int (q)] [] (c_X5_isCrowded E ad σ  (p) (q) hI (by omega)) lv_X5_104 (by decide) rfl rfl (by decide) (by decide) rfl rfl (Nat.le_of_ble_eq_true rfl) dX5_barOfEnter_25 (fun r_9 τ_10 h_11 => ?_)
      obtain ⟨eh_11, h_11⟩ := h_11
      obtain rfl := eh_11.symm
      refine r_if_eq C 36 dX5_barOfEnter_28 (by decide) (fun c_12 => ?_) (fun c_12 => ?_)
      · -- to 36
        refine r_iconst C (0) dX5_barOfEnter_36 (by decide) ?_
        exact r_iret C T dX5_barOfEnter_37 (⟨rfl, by omega⟩)
      · -- to 31
        refine r_bipush C (7) dX5_barOfEnter_31 (by decide) ?_
        refine r_goto C 37 dX5_barOfEnter_33 (by decide) ?_
        exact r_iret C T dX5_barOfEnter_37 (⟨rfl, by omega⟩)
    · -- to 20
      refine r_iconst C (5) dX5_barOfEnter_20 (by decide) ?_
      exact r_iret C T dX5_barOfEnter_21 (⟨rfl, by omega⟩)
  · -- to 9
    refine r_iconst C (3) dX5_barOfEnter_9 (by decide) ?_
    exact r_iret C T dX5_barOfEnter_10 (⟨rfl, by omega⟩)
set_option maxHeartbeats 4000000 in
set_option maxRecDepth 100000 in
theorem c_X5_firstBar (E : Ev) (ad : Nat → Nat) (σ : Sg) (p : Int32) (q : Int32) (u : Int32) (hI : IC σ) (hp : 0 ≤ p.toInt ∧ p.toInt < 7) (hq : 0 ≤ q.toInt ∧ q.toInt < 6) : Ct E ad yX5_firstBar cX5_firstBar 4 (some .int) 4 [.ref (ad 1), .int p, .int q, .int u] σ (fun r τ => τ = σ ∧ 0 ≤ r.toInt ∧ r.toInt ≤ 8 ∧ (r.toInt = 0 → ((gof q.toInt.toNat >>> (σ 20 p.toInt.toNat &&& 31)) &&& 1).toInt ≠ 0)) := by
  have k_0 : (0 : Int32).toInt = 0 := by decide
  have k_1 : (1 : Int32).toInt = 1 := by decide
  have k_7 : (7 : Int32).toInt = 7 := by decide
  have hJ := hI
  unfold IC at hJ
  refine ct_of RX5 rfl (by decide +kernel) [(0, .ref (ad 1)), (1, .int (p)), (2, .int (q)), (3, .int (u))] rfl (Nat.le_of_ble_eq_true rfl) (fun G C T => ?_)
  refine r_gets C C.f.2.2.2.2.1 wf_X5_47 dX5_firstBar_0 ?_
  refine r_iload_n C 2 dX5_firstBar_3 rfl rfl ?_
  refine r_ti C (by omega) dX5_firstBar_4 ?_
  refine r_aload_n C 0 dX5_firstBar_5 rfl rfl ?_
  refine r_get C (k := 1) (v := .ref (ad 16)) f_X5_28 (by decide) rfl rfl dX5_firstBar_6 ?_
  refine r_get C (k := 16) (v := .ref (ad 20)) f_X5_51 (by decide) rfl rfl dX5_firstBar_9 ?_
  refine r_iload_n C 1 dX5_firstBar_12 rfl rfl ?_
  refine r_iald C (k := 20) (by decide) rfl (by omega) (σ 20 ((p : Int32).toInt.toNat)) rfl dX5_firstBar_13 ?_
  refine r_ishr C dX5_firstBar_14 ?_
  refine r_nm (P := fun z => z = (gof (q : Int32).toInt.toNat : Int32) >>> ((σ 20 ((p : Int32).toInt.toNat) : Int32) &&& 31)) rfl (fun z_2 hz_3 => ?_)
  refine r_iconst C (1) dX5_firstBar_15 (by decide) ?_
  refine r_iand C dX5_firstBar_16 ?_
  refine r_nm (P := fun z => z = (z_2 : Int32) &&& (1)) rfl (fun z_4 hz_5 => ?_)
  refine r_if_ne C 22 dX5_firstBar_17 (by decide) (fun c_6 => ?_) (fun c_6 => ?_)
  · -- to 22
    refine r_iload_n C 2 dX5_firstBar_22 rfl rfl ?_
    rcases (show ((q : Int32).toInt < 2 ∨ 5 < (q : Int32).toInt) ∨ (q : Int32).toInt = 2 ∨ (q : Int32).toInt = 3 ∨ (q : Int32).toInt = 4 ∨ (q : Int32).toInt = 5 by omega) with sw_7 | sw_7 | sw_7 | sw_7 | sw_7
    · -- case None
      refine r_tblOut C 91 dX5_firstBar_23 sw_7 (by decide) ?_
      refine r_iconst C (0) dX5_firstBar_91 (by decide) ?_
      exact r_iret C T dX5_firstBar_92 (⟨rfl, by omega, by omega, fun _ => (by rw [← hz_3, ← hz_5]; exact c_6)⟩)
    · -- case 2
      refine r_tblIn C (2) 52 dX5_firstBar_23 sw_7 (by decide) (by decide) rfl (by decide) ?_
      refine r_aload_n C 0 dX5_firstBar_52 rfl rfl ?_
      refine r_iload_n C 1 dX5_firstBar_53 rfl rfl ?_
      refine r_iload_n C 3 dX5_firstBar_54 rfl rfl ?_
      refine r_callV C (k := 1) [.int (p), .int (u)] [] (c_X5_barOfStart E ad σ  (p) (u) hI (by omega)) lv_X5_54 (by decide) rfl rfl (by decide) (by decide) rfl rfl (Nat.le_of_ble_eq_true rfl) dX5_firstBar_55 (fun r_8 τ_9 h_10 => ?_)
      obtain ⟨eh_10, h_10⟩ := h_10
      obtain rfl := eh_10.symm
      exact r_iret C T dX5_firstBar_58 (⟨rfl, by omega, by omega, fun _ => (by rw [← hz_3, ← hz_5]; exact c_6)⟩)
    · -- case 3
      refine r_tblIn C (3) 59 dX5_firstBar_23 sw_7 (by decide) (by decide) rfl (by decide) ?_
      refine r_aload_n C 0 dX5_firstBar_59 rfl rfl ?_
      refine r_get C (k := 1) (v := .ref (ad 25)) f_X5_35 (by decide) rfl rfl dX5_firstBar_60 ?_
      refine r_iload_n C 1 dX5_firstBar_63 rfl rfl ?_
      refine r_callV C (k := 25) [.int (p)] [] (c_X0_insideFor E ad σ  (p) ) lv_X5_58 (by decide) rfl rfl (by decide) (by decide) rfl rfl (Nat.le_of_ble_eq_true rfl) dX5_firstBar_64 (fun r_11 τ_12 h_13 => ?_)
      obtain ⟨eh_13, h_13⟩ := h_13
      obtain rfl := eh_13.symm
      refine r_if_le C 75 dX5_firstBar_67 (by decide) (fun c_14 => ?_) (fun c_14 => ?_)
      · -- to 75
        refine r_iconst C (0) dX5_firstBar_75 (by decide) ?_
        exact r_iret C T dX5_firstBar_76 (⟨rfl, by omega, by omega, fun _ => (by rw [← hz_3, ← hz_5]; exact c_6)⟩)
      · -- to 70
        refine r_bipush C (7) dX5_firstBar_70 (by decide) ?_
        refine r_goto C 76 dX5_firstBar_72 (by decide) ?_
        exact r_iret C T dX5_firstBar_76 (⟨rfl, by omega, by omega, fun _ => (by rw [← hz_3, ← hz_5]; exact c_6)⟩)
    · -- case 4
      refine r_tblIn C (4) 77 dX5_firstBar_23 sw_7 (by decide) (by decide) rfl (by decide) ?_
      refine r_aload_n C 0 dX5_firstBar_77 rfl rfl ?_
      refine r_iload_n C 1 dX5_firstBar_78 rfl rfl ?_
      refine r_iload_n C 3 dX5_firstBar_79 rfl rfl ?_
      refine r_callV C (k := 1) [.int (p), .int (u)] [] (c_X5_barOfBack E ad σ  (p) (u) hI (by omega)) lv_X5_62 (by decide) rfl rfl (by decide) (by decide) rfl rfl (Nat.le_of_ble_eq_true rfl) dX5_firstBar_80 (fun r_15 τ_16 h_17 => ?_)
      obtain ⟨eh_17, h_17⟩ := h_17
      obtain rfl := eh_17.symm
      exact r_iret C T dX5_firstBar_83 (⟨rfl, by omega, by omega, fun _ => (by rw [← hz_3, ← hz_5]; exact c_6)⟩)
    · -- case 5
      refine r_tblIn C (5) 84 dX5_firstBar_23 sw_7 (by decide) (by decide) rfl (by decide) ?_
      refine r_aload_n C 0 dX5_firstBar_84 rfl rfl ?_
      refine r_iload_n C 1 dX5_firstBar_85 rfl rfl ?_
      refine r_iload_n C 3 dX5_firstBar_86 rfl rfl ?_
      refine r_callV C (k := 1) [.int (p), .int (u)] [] (c_X5_barOfEnter E ad σ  (p) (u) hI (by omega)) lv_X5_65 (by decide) rfl rfl (by decide) (by decide) rfl rfl (Nat.le_of_ble_eq_true rfl) dX5_firstBar_87 (fun r_18 τ_19 h_20 => ?_)
      obtain ⟨eh_20, h_20⟩ := h_20
      obtain rfl := eh_20.symm
      exact r_iret C T dX5_firstBar_90 (⟨rfl, by omega, by omega, fun _ => (by rw [← hz_3, ← hz_5]; exact c_6)⟩)
  · -- to 20
    refine r_iconst C (1) dX5_firstBar_20 (by decide) ?_
    exact r_iret C T dX5_firstBar_21 (⟨rfl, by omega, by omega, fun h => absurd h (by omega)⟩)
