set_option maxHeartbeats 4000000 in
set_option maxRecDepth 100000 in
theorem c_X9_moves (E : Ev) (ad : Nat → Nat) (σ : Sg) (p : Int32) (q : Int32) (hp : p.toInt < 7) (hq : q.toInt < 7) : Ct E ad yX9_moves cX9_moves 5 (some .int) 1 [.ref (ad 39), .int p, .int q] σ (fun r τ => τ = σ ∧ (0 ≤ r.toInt ∧ r.toInt ≤ 12)) := by
  have k_m1 : (-1 : Int32).toInt = -1 := by decide
  have k_0 : (0 : Int32).toInt = 0 := by decide
  refine ct_of RX9 rfl (by decide +kernel) [(0, .ref (ad 39)), (1, .int (p)), (2, .int (q))] rfl (Nat.le_of_ble_eq_true rfl) (fun G C T => ?_)
  refine r_iload_n C 1 dX9_moves_0 rfl rfl ?_
  refine r_if_ge C 8 dX9_moves_1 (by decide) (fun c_1 => ?_) (fun c_1 => ?_)
  · -- to 8
    refine r_aload_n C 0 dX9_moves_8 rfl rfl ?_
    refine r_get C (k := 39) (v := .ref (ad 56)) f_X9_59 (by decide) rfl rfl dX9_moves_9 ?_
    refine r_iload_n C 1 dX9_moves_12 rfl rfl ?_
    refine r_iald C (k := 56) (by decide) rfl (by omega) (σ 56 ((p : Int32).toInt.toNat)) rfl dX9_moves_13 ?_
    refine r_aload_n C 0 dX9_moves_14 rfl rfl ?_
    refine r_get C (k := 39) (v := .int (σ 39 46)) f_X9_325 (by decide) rfl rfl dX9_moves_15 ?_
    refine r_iconst C (-1) dX9_moves_18 (by decide) ?_
    refine r_ixor C dX9_moves_19 ?_
    refine r_nm (P := fun z => z = (σ 39 46 : Int32) ^^^ ((-1))) rfl (fun z_3 hz_4 => ?_)
    refine r_iand C dX9_moves_20 ?_
    refine r_nm (P := fun z => z = (σ 56 ((p : Int32).toInt.toNat) : Int32) &&& (z_3)) rfl (fun z_5 hz_6 => ?_)
    refine r_istore_n C [(3, .int (z_5)), (0, .ref (ad 39)), (1, .int (p)), (2, .int (q))] dX9_moves_21 rfl (by decide) rfl ?_
    refine r_iload_n C 3 dX9_moves_22 rfl rfl ?_
    refine r_if_ge C 30 dX9_moves_23 (by decide) (fun c_7 => ?_) (fun c_7 => ?_)
    · -- to 30
      refine r_aload_n C 1 dX9_moves_30 rfl rfl ?_
      refine r_get C (k := 39) (v := .ref (ad 56)) f_X9_59 (by decide) rfl rfl dX9_moves_31 ?_
      refine r_iload_n C 3 dX9_moves_34 rfl rfl ?_
      refine r_iald C (k := 56) (by decide) rfl (by omega) (σ 56 ((q : Int32).toInt.toNat)) rfl dX9_moves_35 ?_
      refine r_aload_n C 1 dX9_moves_36 rfl rfl ?_
      refine r_get C (k := 39) (v := .int (σ 39 46)) f_X9_325 (by decide) rfl rfl dX9_moves_37 ?_
      refine r_iconst C (-1) dX9_moves_40 (by decide) ?_
      refine r_ixor C dX9_moves_41 ?_
      refine r_nm (P := fun z => z = (σ 39 46 : Int32) ^^^ ((-1))) rfl (fun z_9 hz_10 => ?_)
      refine r_iand C dX9_moves_42 ?_
      refine r_nm (P := fun z => z = (σ 56 ((q : Int32).toInt.toNat) : Int32) &&& (z_9)) rfl (fun z_11 hz_12 => ?_)
      refine r_istore C [(4, .int (z_11)), (3, .int (z_5)), (0, .ref (ad 39)), (1, .int (p)), (2, .int (q))] dX9_moves_43 (by decide) rfl ?_
      refine r_iload_n C 1 dX9_moves_45 rfl rfl ?_
      refine r_iload C 0 dX9_moves_46 rfl ?_
      refine r_ixor C dX9_moves_48 ?_
      refine r_nm (P := fun z => z = (z_5 : Int32) ^^^ (z_11)) rfl (fun z_13 hz_14 => ?_)
      refine r_callS C [.int (z_13)] [] (c_X9_ones E ad σ  (z_13) ) ls_X9_303 (by decide) (by decide) rfl rfl (Nat.le_of_ble_eq_true rfl) dX9_moves_49 (fun r_15 τ_16 h_17 => ?_)
      obtain ⟨eh_17, h_17⟩ := h_17
      obtain rfl := eh_17.symm
      exact r_iret C T dX9_moves_52 (⟨rfl, h_17.1⟩)
    · -- to 26
      refine r_iconst C (0) dX9_moves_26 (by decide) ?_
      refine r_goto C 43 dX9_moves_27 (by decide) ?_
      refine r_istore C [(4, .int (0)), (3, .int (z_5)), (0, .ref (ad 39)), (1, .int (p)), (2, .int (q))] dX9_moves_43 (by decide) rfl ?_
      refine r_iload_n C 1 dX9_moves_45 rfl rfl ?_
      refine r_iload C 0 dX9_moves_46 rfl ?_
      refine r_ixor C dX9_moves_48 ?_
      refine r_nm (P := fun z => z = (z_5 : Int32) ^^^ (0)) rfl (fun z_18 hz_19 => ?_)
      refine r_callS C [.int (z_18)] [] (c_X9_ones E ad σ  (z_18) ) ls_X9_303 (by decide) (by decide) rfl rfl (Nat.le_of_ble_eq_true rfl) dX9_moves_49 (fun r_20 τ_21 h_22 => ?_)
      obtain ⟨eh_22, h_22⟩ := h_22
      obtain rfl := eh_22.symm
      exact r_iret C T dX9_moves_52 (⟨rfl, h_22.1⟩)
  · -- to 4
    refine r_iconst C (0) dX9_moves_4 (by decide) ?_
    refine r_goto C 21 dX9_moves_5 (by decide) ?_
    refine r_istore_n C [(3, .int (0)), (0, .ref (ad 39)), (1, .int (p)), (2, .int (q))] dX9_moves_21 rfl (by decide) rfl ?_
    refine r_iload_n C 3 dX9_moves_22 rfl rfl ?_
    refine r_if_ge C 30 dX9_moves_23 (by decide) (fun c_23 => ?_) (fun c_23 => ?_)
    · -- to 30
      refine r_aload_n C 1 dX9_moves_30 rfl rfl ?_
      refine r_get C (k := 39) (v := .ref (ad 56)) f_X9_59 (by decide) rfl rfl dX9_moves_31 ?_
      refine r_iload_n C 3 dX9_moves_34 rfl rfl ?_
      refine r_iald C (k := 56) (by decide) rfl (by omega) (σ 56 ((q : Int32).toInt.toNat)) rfl dX9_moves_35 ?_
      refine r_aload_n C 1 dX9_moves_36 rfl rfl ?_
      refine r_get C (k := 39) (v := .int (σ 39 46)) f_X9_325 (by decide) rfl rfl dX9_moves_37 ?_
      refine r_iconst C (-1) dX9_moves_40 (by decide) ?_
      refine r_ixor C dX9_moves_41 ?_
      refine r_nm (P := fun z => z = (σ 39 46 : Int32) ^^^ ((-1))) rfl (fun z_25 hz_26 => ?_)
      refine r_iand C dX9_moves_42 ?_
      refine r_nm (P := fun z => z = (σ 56 ((q : Int32).toInt.toNat) : Int32) &&& (z_25)) rfl (fun z_27 hz_28 => ?_)
      refine r_istore C [(4, .int (z_27)), (3, .int (0)), (0, .ref (ad 39)), (1, .int (p)), (2, .int (q))] dX9_moves_43 (by decide) rfl ?_
      refine r_iload_n C 1 dX9_moves_45 rfl rfl ?_
      refine r_iload C 0 dX9_moves_46 rfl ?_
      refine r_ixor C dX9_moves_48 ?_
      refine r_nm (P := fun z => z = (0 : Int32) ^^^ (z_27)) rfl (fun z_29 hz_30 => ?_)
      refine r_callS C [.int (z_29)] [] (c_X9_ones E ad σ  (z_29) ) ls_X9_303 (by decide) (by decide) rfl rfl (Nat.le_of_ble_eq_true rfl) dX9_moves_49 (fun r_31 τ_32 h_33 => ?_)
      obtain ⟨eh_33, h_33⟩ := h_33
      obtain rfl := eh_33.symm
      exact r_iret C T dX9_moves_52 (⟨rfl, h_33.1⟩)
    · -- to 26
      refine r_iconst C (0) dX9_moves_26 (by decide) ?_
      refine r_goto C 43 dX9_moves_27 (by decide) ?_
      refine r_istore C [(4, .int (0)), (3, .int (0)), (0, .ref (ad 39)), (1, .int (p)), (2, .int (q))] dX9_moves_43 (by decide) rfl ?_
      refine r_iload_n C 1 dX9_moves_45 rfl rfl ?_
      refine r_iload C 0 dX9_moves_46 rfl ?_
      refine r_ixor C dX9_moves_48 ?_
      refine r_nm (P := fun z => z = (0 : Int32) ^^^ (0)) rfl (fun z_34 hz_35 => ?_)
      refine r_callS C [.int (z_34)] [] (c_X9_ones E ad σ  (z_34) ) ls_X9_303 (by decide) (by decide) rfl rfl (Nat.le_of_ble_eq_true rfl) dX9_moves_49 (fun r_36 τ_37 h_38 => ?_)
      obtain ⟨eh_38, h_38⟩ := h_38
      obtain rfl := eh_38.symm
      exact r_iret C T dX9_moves_52 (⟨rfl, h_38.1⟩)
set_option maxHeartbeats 4000000 in
set_option maxRecDepth 100000 in
theorem c_X9_asked (E : Ev) (ad : Nat → Nat) (σ : Sg)  (hM : IM σ) : Ct E ad yX9_asked cX9_asked 3 (some .int) 0 [.ref (ad 39)] σ (fun r τ => τ = σ ∧ ((σ 39 17).toInt = 0 → r.toInt = 0) ∧ (∀ j : Nat, bt r j = true ↔ ((j : Int) < (σ 39 17).toInt ∧ (σ 57 j).toInt = 0))) := by
  have k_0 : (0 : Int32).toInt = 0 := by decide
  have k_1 : (1 : Int32).toInt = 1 := by decide
  have hJ := hM
  unfold IM at hJ
  obtain ⟨n0, n1, n8, n17, n29, n39, n44, c40, c41, c42, c54, c58⟩ := hJ
  refine ct_of RX9 rfl (by decide +kernel) [(0, .ref (ad 39))] rfl (Nat.le_of_ble_eq_true rfl) (fun G C T => ?_)
  refine r_iconst C (0) dX9_asked_0 (by decide) ?_
  refine r_istore_n C [(1, .int (0)), (0, .ref (ad 39))] dX9_asked_1 rfl (by decide) rfl ?_
  refine r_iconst C (0) dX9_asked_2 (by decide) ?_
  refine r_istore_n C [(2, .int (0)), (1, .int (0)), (0, .ref (ad 39))] dX9_asked_3 rfl (by decide) rfl ?_
  have L_4 : ∀ (n : Nat), ∀ (a : Int32) (i : Int32), (0 ≤ i.toInt ∧ i.toInt ≤ (σ 39 17).toInt) → (i.toInt = 0 → a = 0) → (∀ j : Nat, bt a j = true ↔ ((j : Int) < i.toInt ∧ (σ 57 j).toInt = 0)) → 7 - i.toInt < (n : Int) → At E ad G 3 4 [(2, .int (i)), (1, .int (a)), (0, .ref (ad 39))] [] σ := by
    intro n
    induction n with
    | zero =>
      intro a i hi hf hb hm
      exact absurd hm (by omega)
    | succ n ih =>
      intro a i hi hf hb hm
      have ih_4 := ih
      clear ih
      refine r_iload_n C 0 dX9_asked_4 rfl rfl ?_
      refine r_aload_n C 2 dX9_asked_5 rfl rfl ?_
      refine r_get C (k := 39) (v := .int (σ 39 17)) f_X9_113 (by decide) rfl rfl dX9_asked_6 ?_
      refine r_icmp_ge C 37 dX9_asked_9 (by decide) (fun c_1 => ?_) (fun c_1 => ?_)
      · -- to 37
        refine r_iload_n C 1 dX9_asked_37 rfl rfl ?_
        exact r_iret C T dX9_asked_38 (⟨rfl, fun h => by have e := hf (by omega); rw [e]; exact k_0, fun j => by have t := hb j; have e : i.toInt = (σ 39 17).toInt := (by omega); rw [e] at t; exact t⟩)
      · -- to 12
        refine r_iload_n C 1 dX9_asked_12 rfl rfl ?_
        refine r_aload_n C 2 dX9_asked_13 rfl rfl ?_
        refine r_get C (k := 39) (v := .ref (ad 57)) f_X9_62 (by decide) rfl rfl dX9_asked_14 ?_
        refine r_iload_n C 0 dX9_asked_17 rfl rfl ?_
        refine r_iald C (k := 57) (by decide) rfl (by omega) (σ 57 ((i : Int32).toInt.toNat)) rfl dX9_asked_18 ?_
        refine r_if_ne C 28 dX9_asked_19 (by decide) (fun c_3 => ?_) (fun c_3 => ?_)
        · -- to 28
          refine r_iconst C (0) dX9_asked_28 (by decide) ?_
          refine r_ior C dX9_asked_29 ?_
          refine r_nm (P := fun z => z = (a : Int32) ||| (0)) rfl (fun z_4 hz_5 => ?_)
          refine r_istore_n C [(1, .int (z_4)), (2, .int (i)), (0, .ref (ad 39))] dX9_asked_30 rfl (by decide) rfl ?_
          refine r_iinc C 1 (fun z => [(2, .int (z)), (1, .int (z_4)), (0, .ref (ad 39))]) dX9_asked_31 rfl (by decide) (by decide) (by omega) (fun _ => rfl) (fun z_6 hz_7 => ?_)
          refine r_goto C 4 dX9_asked_34 (by decide) ?_
          exact At.sub [0, 1, 2] rfl (ih_4 (z_4 : Int32) (z_6 : Int32) (by omega) (fun h => absurd h (by omega)) (ask_st (i := i) (a := a) (by omega) hb hz_7 hz_5 (Or.inr ⟨c_3, rfl⟩)) (by omega))
        · -- to 22
          refine r_iconst C (1) dX9_asked_22 (by decide) ?_
          refine r_iload_n C 0 dX9_asked_23 rfl rfl ?_
          refine r_ishl C dX9_asked_24 ?_
          refine r_nm (P := fun z => z = (1 : Int32) <<< ((i : Int32) &&& 31)) rfl (fun z_8 hz_9 => ?_)
          refine r_goto C 29 dX9_asked_25 (by decide) ?_
          refine r_ior C dX9_asked_29 ?_
          refine r_nm (P := fun z => z = (a : Int32) ||| (z_8)) rfl (fun z_10 hz_11 => ?_)
          refine r_istore_n C [(1, .int (z_10)), (2, .int (i)), (0, .ref (ad 39))] dX9_asked_30 rfl (by decide) rfl ?_
          refine r_iinc C 1 (fun z => [(2, .int (z)), (1, .int (z_10)), (0, .ref (ad 39))]) dX9_asked_31 rfl (by decide) (by decide) (by omega) (fun _ => rfl) (fun z_12 hz_13 => ?_)
          refine r_goto C 4 dX9_asked_34 (by decide) ?_
          exact At.sub [0, 1, 2] rfl (ih_4 (z_10 : Int32) (z_12 : Int32) (by omega) (fun h => absurd h (by omega)) (ask_st (i := i) (a := a) (by omega) hb hz_13 hz_11 (Or.inl ⟨c_3, hz_9⟩)) (by omega))
  exact At.sub [0, 1, 2] rfl (L_4 ((7 - (0 : Int32).toInt).toNat + 1) (0 : Int32) (0 : Int32) (by omega) (fun _ => rfl) (fun j => by rw [b_0, k_0]; exact ⟨fun h => Bool.noConfusion h, fun h => absurd h.1 (by omega)⟩) (by omega))
set_option maxHeartbeats 4000000 in
set_option maxRecDepth 100000 in
theorem c_X9_findRest (E : Ev) (ad : Nat → Nat) (σ : Sg) (p : Int32) (hn : 0 ≤ (σ 39 17).toInt ∧ (σ 39 17).toInt ≤ 7) (hA : ∀ j : Nat, bt p j = true → (j : Int) < (σ 39 17).toInt) : CtV E ad yX9_findRest cX9_findRest 7 2 [.ref (ad 39), .int p] σ (fun τ => Off [66] σ τ ∧ (∀ s : Int32, 0 < s.toInt → s.toInt ≤ p.toInt → sb s p → RB p (τ 66) s)) := by
  have k_m1 : (-1 : Int32).toInt = -1 := by decide
  have k_0 : (0 : Int32).toInt = 0 := by decide
  have k_1 : (1 : Int32).toInt = 1 := by decide
  have k_7 : (7 : Int32).toInt = 7 := by decide
  have k_1000 : (1000 : Int32).toInt = 1000 := by decide
  have hp := b_lt7 (x := p) (fun j h => by have t := hA j h; omega)
  refine ctv_of RX9 rfl (by decide +kernel) [(0, .ref (ad 39)), (1, .int (p))] rfl (Nat.le_of_ble_eq_true rfl) (fun G C T => ?_)
  refine r_iload_n C 1 dX9_findRest_0 rfl rfl ?_
  refine r_istore_n C [(2, .int (p)), (0, .ref (ad 39)), (1, .int (p))] dX9_findRest_1 rfl (by decide) rfl ?_
  have L_2 : ∀ (n : Nat), ∀ (τ1 : Sg) (d : Int32), (0 ≤ d.toInt ∧ d.toInt ≤ p.toInt) → (Off [66] σ τ1) → (∀ s : Int32, d.toInt < s.toInt → s.toInt ≤ p.toInt → sb s p → RB p (τ1 66) s) → d.toInt < (n : Int) → At E ad G 7 2 [(2, .int (d)), (0, .ref (ad 39)), (1, .int (p))] [] τ1 := by
    intro n
    induction n with
    | zero =>
      intro τ1 d hd ho hR hm
      exact absurd hm (by omega)
    | succ n ih =>
      intro τ1 d hd ho hR hm
      have ih_2 := ih
      clear ih
      refine r_iload_n C 0 dX9_findRest_2 rfl rfl ?_
      refine r_if_le C 153 dX9_findRest_3 (by decide) (fun c_1 => ?_) (fun c_1 => ?_)
      · -- to 153
        exact r_vret C T dX9_findRest_153 (⟨ho, fun s h1 h2 h3 => hR s (by omega) h2 h3⟩)
      · -- to 6
        refine r_iconst C (0) dX9_findRest_6 (by decide) ?_
        refine r_istore_n C [(3, .int (0)), (2, .int (d)), (0, .ref (ad 39)), (1, .int (p))] dX9_findRest_7 rfl (by decide) rfl ?_
        have L_8 : ∀ (n : Nat), ∀ (τ2 : Sg) (i : Int32), (0 ≤ i.toInt ∧ i.toInt ≤ 7) → (Off [66] σ τ2) → (∀ s : Int32, d.toInt < s.toInt → s.toInt ≤ p.toInt → sb s p → RB p (τ2 66) s) → (∀ w : Nat, w < 7 → (w : Int) < i.toInt → sb d p → bt d w = true → 0 ≤ (τ2 66 (7 * d.toInt + (w : Int)).toNat).toInt ∧ (τ2 66 (7 * d.toInt + (w : Int)).toNat).toInt ≤ 12 * (1 + (cn (df p d) 7 : Int))) → 7 - i.toInt < (n : Int) → At E ad G 7 8 [(3, .int (i)), (2, .int (d)), (0, .ref (ad 39)), (1, .int (p))] [] τ2 := by
          intro n
          induction n with
          | zero =>
            intro τ2 i hi ho2 hR2 hD hm
            exact absurd hm (by omega)
          | succ n ih =>
            intro τ2 i hi ho2 hR2 hD hm
            have ih_8 := ih
            clear ih
            have e17 : (τ2 39 17).toInt = (σ 39 17).toInt := by rw [ho2 39 (by decide)]
            refine r_iload_n C 0 dX9_findRest_8 rfl rfl ?_
            refine r_aload_n C 2 dX9_findRest_9 rfl rfl ?_
            refine r_get C (k := 39) (v := .int (τ2 39 17)) f_X9_113 (by decide) rfl rfl dX9_findRest_10 ?_
            refine r_icmp_ge C 147 dX9_findRest_13 (by decide) (fun c_2 => ?_) (fun c_2 => ?_)
            · -- to 147
              refine r_iinc C 1 (fun z => [(2, .int (z)), (3, .int (i)), (0, .ref (ad 39)), (1, .int (p))]) dX9_findRest_147 rfl (by decide) (by decide) (by omega) (fun _ => rfl) (fun z_3 hz_4 => ?_)
              refine r_goto C 2 dX9_findRest_150 (by decide) ?_
              exact At.sub [0, 2, 3] rfl (ih_2 τ2 (z_3 : Int32) (by omega) ho2 (fun s h1 h2 h3 => by
                  by_cases es : s.toInt = d.toInt
                  · have es := ta_inj es
                    rw [es] at h3 ⊢
                    exact fun w h4 h5 => hD w h4 (by have t := hA w (h3 w h5); omega) h3 h5
                  · exact hR2 s (by omega) h2 h3) (by omega))
            · -- to 16
              refine r_iload_n C 1 dX9_findRest_16 rfl rfl ?_
              refine r_iload_n C 3 dX9_findRest_17 rfl rfl ?_
              refine r_iconst C (-1) dX9_findRest_18 (by decide) ?_
              refine r_ixor C dX9_findRest_19 ?_
              refine r_nm (P := fun z => z = (p : Int32) ^^^ ((-1))) rfl (fun z_5 hz_6 => ?_)
              refine r_iand C dX9_findRest_20 ?_
              refine r_nm (P := fun z => z = (d : Int32) &&& (z_5)) rfl (fun z_7 hz_8 => ?_)
              refine r_if_ne C 141 dX9_findRest_21 (by decide) (fun c_9 => ?_) (fun c_9 => ?_)
              · -- to 141
                refine r_iinc C 0 (fun z => [(3, .int (z)), (2, .int (d)), (0, .ref (ad 39)), (1, .int (p))]) dX9_findRest_141 rfl (by decide) (by decide) (by omega) (fun _ => rfl) (fun z_10 hz_11 => ?_)
                refine r_goto C 8 dX9_findRest_144 (by decide) ?_
                exact At.sub [0, 1, 2, 3] rfl (ih_8 τ2 (z_10 : Int32) (by omega) ho2 hR2 (fun w h1 h2 h3 h4 => by
                    have t := df_z h3
                    unfold df at t
                    rw [← hz_6, ← hz_8] at t
                    exact absurd (by rw [t]; rfl) c_9) (by omega))
              · -- to 24
                refine r_iload_n C 1 dX9_findRest_24 rfl rfl ?_
                refine r_iload_n C 0 dX9_findRest_25 rfl rfl ?_
                refine r_callS C [.int (d), .int (i)] [] (c_X9_has E ad τ2  (d) (i) ) ls_X9_125 (by decide) (by decide) rfl rfl (Nat.le_of_ble_eq_true rfl) dX9_findRest_26 (fun r_12 τ_13 h_14 => ?_)
                obtain ⟨eh_14, h_14⟩ := h_14
                obtain rfl := eh_14.symm
                refine r_if_ne C 35 dX9_findRest_29 (by decide) (fun c_15 => ?_) (fun c_15 => ?_)
                · -- to 35
                  have bi : bt d i.toInt.toNat = true := (has_bt (by omega)).mp (by omega)
                  have sd : sb d p := sb_of (show (df d p).toInt = 0 from by unfold df; rw [← hz_6, ← hz_8]; exact c_9)
                  refine r_iload_n C 1 dX9_findRest_35 rfl rfl ?_
                  have L_57 : ∀ (n : Nat), ∀ (e : Int32) (k : Int32), (0 ≤ k.toInt ∧ k.toInt ≤ 7) → (0 ≤ e.toInt ∧ e.toInt ≤ 1000) → (d.toInt = p.toInt → e.toInt ≤ 12) → (∀ o : Nat, (o : Int) < k.toInt → bt (df p d) o = true → e.toInt ≤ 12 * (1 + (cn (df p d) 7 : Int))) → 7 - k.toInt < (n : Int) → At E ad G 7 57 [(3, .int (i)), (2, .int (d)), (0, .ref (ad 39)), (1, .int (p)), (4, .int (e)), (5, .int (k))] [] τ2 := by
                    intro n
                    induction n with
                    | zero =>
                      intro e k hk he hE1 hE2 hm
                      exact absurd hm (by omega)
                    | succ n ih =>
                      intro e k hk he hE1 hE2 hm
                      have ih_57 := ih
                      clear ih
                      refine r_iload C 5 dX9_findRest_57 rfl ?_
                      refine r_aload_n C 2 dX9_findRest_59 rfl rfl ?_
                      refine r_get C (k := 39) (v := .int (τ2 39 17)) f_X9_113 (by decide) rfl rfl dX9_findRest_60 ?_
                      refine r_icmp_ge C 128 dX9_findRest_63 (by decide) (fun c_16 => ?_) (fun c_16 => ?_)
                      · -- to 128
                        have be : 0 ≤ e.toInt ∧ e.toInt ≤ 12 * (1 + (cn (df p d) 7 : Int)) := by
                            by_cases hdp : d.toInt = p.toInt
                            · have t := hE1 hdp; omega
                            · obtain ⟨j, hj⟩ := sb_ex sd (fun q => hdp (by rw [q]))
                              have hj2 := hA j (df_in hj).1
                              have t := hE2 j (by omega) hj
                              omega
                        refine r_aload_n C 2 dX9_findRest_128 rfl rfl ?_
                        refine r_get C (k := 39) (v := .ref (ad 66)) f_X9_89 (by decide) rfl rfl dX9_findRest_129 ?_
                        refine r_bipush C (7) dX9_findRest_132 (by decide) ?_
                        refine r_iload_n C 1 dX9_findRest_134 rfl rfl ?_
                        refine r_imul C dX9_findRest_135 ?_
                        refine r_nm (P := fun z => z.toInt = 7 * (d : Int32).toInt ∧ z = (7) * (d)) ⟨ta_mulL k_7 (by omega), rfl⟩ (fun z_17 hz_18 => ?_)
                        refine r_iload_n C 0 dX9_findRest_136 rfl rfl ?_
                        refine r_iadd C dX9_findRest_137 ?_
                        refine r_nm (P := fun z => z.toInt = (z_17 : Int32).toInt + (i : Int32).toInt ∧ z = (z_17) + (i)) ⟨ta_add (by omega), rfl⟩ (fun z_19 hz_20 => ?_)
                        refine r_iload C 4 dX9_findRest_138 rfl ?_
                        refine r_iast C (k := 66) (by decide) (fun _ => rfl) (by omega) dX9_findRest_140 ?_
                        refine r_iinc C 0 (fun z => [(3, .int (z)), (2, .int (d)), (0, .ref (ad 39)), (1, .int (p)), (4, .int (e)), (5, .int (k))]) dX9_findRest_141 rfl (by decide) (by decide) (by omega) (fun _ => rfl) (fun z_21 hz_22 => ?_)
                        refine r_goto C 8 dX9_findRest_144 (by decide) ?_
                        exact At.sub [0, 1, 2, 3] rfl (ih_8 (sUp τ2 66 ((z_19 : Int32).toInt.toNat) (e)) (z_21 : Int32) (by omega) (ho2.up (by decide))  (fun s h1 h2 h3 w h4 h5 => by rw [sUp_eq, pk_un (by omega)]; exact hR2 s h1 h2 h3 w h4 h5)  (fun w h1 h2 h3 h4 => by
                            rw [sUp_eq]
                            by_cases ew : (w : Int) = i.toInt
                            · rw [show (7 * d.toInt + (w : Int)).toNat = (z_19 : Int32).toInt.toNat from by omega, pk_us]; exact be
                            · rw [pk_un (by omega)]; exact hD w h1 (by omega) h3 h4)  (by omega))
                      · -- to 66
                        refine r_iload_n C 3 dX9_findRest_66 rfl rfl ?_
                        refine r_iload_n C 1 dX9_findRest_67 rfl rfl ?_
                        refine r_iconst C (-1) dX9_findRest_68 (by decide) ?_
                        refine r_ixor C dX9_findRest_69 ?_
                        refine r_nm (P := fun z => z = (d : Int32) ^^^ ((-1))) rfl (fun z_23 hz_24 => ?_)
                        refine r_iand C dX9_findRest_70 ?_
                        refine r_nm (P := fun z => z = (p : Int32) &&& (z_23)) rfl (fun z_25 hz_26 => ?_)
                        refine r_iload C 5 dX9_findRest_71 rfl ?_
                        refine r_callS C [.int (z_25), .int (k)] [] (c_X9_has E ad τ2  (z_25) (k) ) ls_X9_125 (by decide) (by decide) rfl rfl (Nat.le_of_ble_eq_true rfl) dX9_findRest_73 (fun r_27 τ_28 h_29 => ?_)
                        obtain ⟨eh_29, h_29⟩ := h_29
                        obtain rfl := eh_29.symm
                        refine r_if_eq C 122 dX9_findRest_76 (by decide) (fun c_30 => ?_) (fun c_30 => ?_)
                        · -- to 122
                          refine r_iinc C 5 (fun z => [(5, .int (z)), (3, .int (i)), (2, .int (d)), (0, .ref (ad 39)), (1, .int (p)), (4, .int (e))]) dX9_findRest_122 rfl (by decide) (by decide) (by omega) (fun _ => rfl) (fun z_31 hz_32 => ?_)
                          refine r_goto C 57 dX9_findRest_125 (by decide) ?_
                          exact At.sub [1, 2, 3, 4, 5, 0] rfl (ih_57 (e : Int32) (z_31 : Int32) (by omega) (by omega) (fun h => by have t := hE1 h; omega) (fun o h1 h2 => by
                              by_cases eo : (o : Int) = k.toInt
                              · have t := (has_bt (p := z_25) (q := k) (by omega)).mpr (by rw [hz_26, hz_24, show k.toInt.toNat = o from by omega]; exact h2)
                                exact absurd t (by omega)
                              · exact hE2 o (by omega) h2) (by omega))
                        · -- to 79
                          have bk : bt (df p d) k.toInt.toNat = true := by
                              have t := (has_bt (p := z_25) (q := k) (by omega)).mp (by omega)
                              rw [hz_26, hz_24] at t; exact t
                          have ds := df_step (A := p) (s := d) (o := k) (by omega) bk sd
                          have og := or_gt (s := d) (o := k) (by omega) (by omega) (df_in bk).2
                          refine r_aload_n C 2 dX9_findRest_79 rfl rfl ?_
                          refine r_iload_n C 0 dX9_findRest_80 rfl rfl ?_
                          refine r_iload C 5 dX9_findRest_81 rfl ?_
                          refine r_callV C (k := 39) [.int (i), .int (k)] [] (c_X9_moves E ad τ2  (i) (k) (by omega) (by omega)) lv_X9_328 (by decide) rfl rfl (by decide) (by decide) rfl rfl (Nat.le_of_ble_eq_true rfl) dX9_findRest_83 (fun r_33 τ_34 h_35 => ?_)
                          obtain ⟨eh_35, h_35⟩ := h_35
                          obtain rfl := eh_35.symm
                          refine r_aload_n C 2 dX9_findRest_86 rfl rfl ?_
                          refine r_get C (k := 39) (v := .ref (ad 66)) f_X9_89 (by decide) rfl rfl dX9_findRest_87 ?_
                          refine r_bipush C (7) dX9_findRest_90 (by decide) ?_
                          refine r_iload_n C 1 dX9_findRest_92 rfl rfl ?_
                          refine r_iconst C (1) dX9_findRest_93 (by decide) ?_
                          refine r_iload C 5 dX9_findRest_94 rfl ?_
                          refine r_ishl C dX9_findRest_96 ?_
                          refine r_nm (P := fun z => z = (1 : Int32) <<< ((k : Int32) &&& 31)) rfl (fun z_36 hz_37 => ?_)
                          refine r_ior C dX9_findRest_97 ?_
                          refine r_nm (P := fun z => z = d ||| ((1 : Int32) <<< (k &&& 31)) ∧ d.toInt < z.toInt ∧ z.toInt ≤ 127) (by rw [hz_37]; exact ⟨rfl, og⟩) (fun z_38 hz_39 => ?_)
                          refine r_imul C dX9_findRest_98 ?_
                          refine r_nm (P := fun z => z.toInt = 7 * (z_38 : Int32).toInt ∧ z = (7) * (z_38)) ⟨ta_mulL k_7 (by omega), rfl⟩ (fun z_40 hz_41 => ?_)
                          refine r_iload C 5 dX9_findRest_99 rfl ?_
                          refine r_iadd C dX9_findRest_101 ?_
                          refine r_nm (P := fun z => z.toInt = (z_40 : Int32).toInt + (k : Int32).toInt ∧ z = (z_40) + (k)) ⟨ta_add (by omega), rfl⟩ (fun z_42 hz_43 => ?_)
                          refine r_iald C (k := 66) (by decide) rfl (by omega) (τ2 66 ((z_42 : Int32).toInt.toNat)) rfl dX9_findRest_102 ?_
                          have sp1 : sb z_38 p := by rw [hz_39.1]; exact ds.1
                          have hb := hR2 z_38 (by omega) (sb_le sp1 hp.1).2 sp1 k.toInt.toNat (by omega) (by rw [hz_39.1]; exact ds.2.1)
                          rw [show (7 * (z_38 : Int32).toInt + (k.toInt.toNat : Int)).toNat = (z_42 : Int32).toInt.toNat from by omega] at hb
                          have hc := ds.2.2 (by omega)
                          rw [← hz_39.1] at hc
                          have hl := cn_le (df p z_38) 7
                          refine r_iadd C dX9_findRest_103 ?_
                          refine r_nm (P := fun z => z.toInt = (r_33 : Int32).toInt + (τ2 66 ((z_42 : Int32).toInt.toNat) : Int32).toInt ∧ z = (r_33) + (τ2 66 ((z_42 : Int32).toInt.toNat))) ⟨ta_add (by omega), rfl⟩ (fun z_45 hz_46 => ?_)
                          refine r_istore C [(6, .int (z_45)), (3, .int (i)), (2, .int (d)), (0, .ref (ad 39)), (1, .int (p)), (4, .int (e)), (5, .int (k))] dX9_findRest_104 (by decide) rfl ?_
                          refine r_iload C 0 dX9_findRest_106 rfl ?_
                          refine r_iload C 5 dX9_findRest_108 rfl ?_
                          refine r_icmp_ge C 118 dX9_findRest_110 (by decide) (fun c_47 => ?_) (fun c_47 => ?_)
                          · -- to 118
                            refine r_iload C 5 dX9_findRest_118 rfl ?_
                            refine r_istore C [(4, .int (e)), (6, .int (z_45)), (3, .int (i)), (2, .int (d)), (0, .ref (ad 39)), (1, .int (p)), (5, .int (k))] dX9_findRest_120 (by decide) rfl ?_
                            refine r_iinc C 6 (fun z => [(5, .int (z)), (4, .int (e)), (6, .int (z_45)), (3, .int (i)), (2, .int (d)), (0, .ref (ad 39)), (1, .int (p))]) dX9_findRest_122 rfl (by decide) (by decide) (by omega) (fun _ => rfl) (fun z_48 hz_49 => ?_)
                            refine r_goto C 57 dX9_findRest_125 (by decide) ?_
                            exact At.sub [3, 4, 5, 6, 1, 0] rfl (ih_57 (e : Int32) (z_48 : Int32) (by omega) (by omega) (fun h => by have t := hE1 h; omega) (fun _ _ _ => by have t := hz_46; omega) (by omega))
                          · -- to 113
                            refine r_iload C 0 dX9_findRest_113 rfl ?_
                            refine r_goto C 120 dX9_findRest_115 (by decide) ?_
                            refine r_istore C [(4, .int (z_45)), (6, .int (z_45)), (3, .int (i)), (2, .int (d)), (0, .ref (ad 39)), (1, .int (p)), (5, .int (k))] dX9_findRest_120 (by decide) rfl ?_
                            refine r_iinc C 6 (fun z => [(5, .int (z)), (4, .int (z_45)), (6, .int (z_45)), (3, .int (i)), (2, .int (d)), (0, .ref (ad 39)), (1, .int (p))]) dX9_findRest_122 rfl (by decide) (by decide) (by omega) (fun _ => rfl) (fun z_50 hz_51 => ?_)
                            refine r_goto C 57 dX9_findRest_125 (by decide) ?_
                            exact At.sub [3, 4, 5, 6, 1, 0] rfl (ih_57 (z_45 : Int32) (z_50 : Int32) (by omega) (by omega) (fun h => by have t := hE1 h; omega) (fun _ _ _ => by have t := hz_46; omega) (by omega))
                  refine r_iload_n C 3 dX9_findRest_36 rfl rfl ?_
                  refine r_icmp_ne C 49 dX9_findRest_37 (by decide) (fun c_52 => ?_) (fun c_52 => ?_)
                  · -- to 49
                    refine r_sipush C (1000) dX9_findRest_49 (by decide) ?_
                    refine r_istore C [(4, .int (1000)), (3, .int (i)), (2, .int (d)), (0, .ref (ad 39)), (1, .int (p))] dX9_findRest_52 (by decide) rfl ?_
                    refine r_iconst C (0) dX9_findRest_54 (by decide) ?_
                    refine r_istore C [(5, .int (0)), (4, .int (1000)), (3, .int (i)), (2, .int (d)), (0, .ref (ad 39)), (1, .int (p))] dX9_findRest_55 (by decide) rfl ?_
                    exact At.sub [2, 3, 4, 5, 1, 0] rfl (L_57 ((7 - (0 : Int32).toInt).toNat + 1) (1000 : Int32) (0 : Int32) (by omega) (by omega) (fun h => by omega) (fun o h => absurd h (by omega)) (by omega))
                  · -- to 40
                    refine r_aload_n C 2 dX9_findRest_40 rfl rfl ?_
                    refine r_iload_n C 0 dX9_findRest_41 rfl rfl ?_
                    refine r_iconst C (-1) dX9_findRest_42 (by decide) ?_
                    refine r_callV C (k := 39) [.int (i), .int ((-1))] [] (c_X9_moves E ad τ2  (i) ((-1)) (by omega) (by omega)) lv_X9_328 (by decide) rfl rfl (by decide) (by decide) rfl rfl (Nat.le_of_ble_eq_true rfl) dX9_findRest_43 (fun r_53 τ_54 h_55 => ?_)
                    obtain ⟨eh_55, h_55⟩ := h_55
                    obtain rfl := eh_55.symm
                    refine r_goto C 52 dX9_findRest_46 (by decide) ?_
                    refine r_istore C [(4, .int (r_53)), (3, .int (i)), (2, .int (d)), (0, .ref (ad 39)), (1, .int (p))] dX9_findRest_52 (by decide) rfl ?_
                    refine r_iconst C (0) dX9_findRest_54 (by decide) ?_
                    refine r_istore C [(5, .int (0)), (4, .int (r_53)), (3, .int (i)), (2, .int (d)), (0, .ref (ad 39)), (1, .int (p))] dX9_findRest_55 (by decide) rfl ?_
                    exact At.sub [2, 3, 4, 5, 1, 0] rfl (L_57 ((7 - (0 : Int32).toInt).toNat + 1) (r_53 : Int32) (0 : Int32) (by omega) (by omega) (fun h => by omega) (fun o h => absurd h (by omega)) (by omega))
                · -- to 32
                  refine r_goto C 141 dX9_findRest_32 (by decide) ?_
                  refine r_iinc C 0 (fun z => [(3, .int (z)), (2, .int (d)), (0, .ref (ad 39)), (1, .int (p))]) dX9_findRest_141 rfl (by decide) (by decide) (by omega) (fun _ => rfl) (fun z_56 hz_57 => ?_)
                  refine r_goto C 8 dX9_findRest_144 (by decide) ?_
                  exact At.sub [0, 1, 2, 3] rfl (ih_8 τ2 (z_56 : Int32) (by omega) ho2 hR2 (fun w h1 h2 h3 h4 => by
                      by_cases ew : (w : Int) = i.toInt
                      · have t := (has_bt (p := d) (q := i) (by omega)).mpr (by rw [show i.toInt.toNat = w from by omega]; exact h4)
                        exact absurd t (by have t2 := h_14; omega)
                      · exact hD w h1 (by omega) h3 h4) (by omega))
        exact At.sub [0, 1, 2, 3] rfl (L_8 ((7 - (0 : Int32).toInt).toNat + 1) τ1 (0 : Int32) (by omega) ho hR (fun w _ h => absurd h (by omega)) (by omega))
  exact At.sub [0, 1, 2] rfl (L_2 (((p : Int32).toInt).toNat + 1) σ (p : Int32) (by omega) Off.rf (fun s h1 h2 _ => absurd h1 (by omega)) (by omega))
set_option maxHeartbeats 4000000 in
set_option maxRecDepth 100000 in
theorem c_X9_order (E : Ev) (ad : Nat → Nat) (σ : Sg)  (hM : IM σ) : Ct E ad yX9_order cX9_order 10 (some .int) 4 [.ref (ad 39)] σ (fun r τ => Off [39, 66, 67, 68, 69] σ τ ∧ (∀ j : Nat, j ≠ 39 ∧ j ≠ 40 ∧ j ≠ 42 ∧ j ≠ 44 ∧ j ≠ 46 → τ 39 j = σ 39 j) ∧ (0 ≤ (τ 39 39).toInt ∧ (τ 39 39).toInt ≤ 7) ∧ (∃ x : Int32, (∀ j : Nat, bt x j = true ↔ ((j : Int) < (σ 39 17).toInt ∧ (σ 57 j).toInt = 0)) ∧ (τ 39 44).toInt = (tri (cn x 7) : Int)) ∧ ((σ 39 17).toInt = 0 → r.toInt = 0)) := by
  have k_m1 : (-1 : Int32).toInt = -1 := by decide
  have k_0 : (0 : Int32).toInt = 0 := by decide
  have k_1 : (1 : Int32).toInt = 1 := by decide
  have k_2 : (2 : Int32).toInt = 2 := by decide
  have k_3 : (3 : Int32).toInt = 3 := by decide
  have k_7 : (7 : Int32).toInt = 7 := by decide
  have k_1000 : (1000 : Int32).toInt = 1000 := by decide
  have hJ := hM
  unfold IM at hJ
  obtain ⟨n0, n1, n8, n17, n29, n39, n44, c40, c41, c42, c54, c58⟩ := hJ
  refine ct_of RX9 rfl (by decide +kernel) [(0, .ref (ad 39))] rfl (Nat.le_of_ble_eq_true rfl) (fun G C T => ?_)
  refine r_aload_n C 0 dX9_order_0 rfl rfl ?_
  refine r_callV C (k := 39) [] [] (c_X9_asked E ad σ   hM) lv_X9_331 (by decide) rfl rfl (by decide) (by decide) rfl rfl (Nat.le_of_ble_eq_true rfl) dX9_order_1 (fun r_1 τ_2 h_3 => ?_)
  obtain ⟨eh_3, h_3⟩ := h_3
  obtain rfl := eh_3.symm
  refine r_istore_n C [(1, .int (r_1)), (0, .ref (ad 39))] dX9_order_4 rfl (by decide) rfl ?_
  refine r_aload_n C 1 dX9_order_5 rfl rfl ?_
  refine r_aload_n C 1 dX9_order_6 rfl rfl ?_
  refine r_callV C (k := 39) [] [.ref (ad 39)] (c_X9_closedNow E ad σ   hM) lv_X9_133 (by decide) rfl rfl (by decide) (by decide) rfl rfl (Nat.le_of_ble_eq_true rfl) dX9_order_7 (fun r_4 τ_5 h_6 => ?_)
  obtain ⟨eh_6, h_6⟩ := h_6
  obtain rfl := eh_6.symm
  refine r_put C (k := 39) pf_X9_325 (by decide) (fun _ => rfl) (fun _ => Nat.le_of_ble_eq_true rfl) (fun _ _ => rfl) dX9_order_10 ?_
  refine r_aload_n C 1 dX9_order_13 rfl rfl ?_
  refine r_iload_n C 0 dX9_order_14 rfl rfl ?_
  refine r_callVv C (k := 39) [.int (r_1)] [] (c_X9_findRest E ad (sUp σ 39 46 (r_4))  (r_1) (show 0 ≤ (σ 39 17).toInt ∧ (σ 39 17).toInt ≤ 7 from n17) (fun j h => ((h_3.2 j).mp h).1)) lv_X9_334 (by decide) rfl rfl (by decide) (by decide) rfl rfl (Nat.le_of_ble_eq_true rfl) dX9_order_15 (fun τ_8 h_9 => ?_)
  refine r_aload_n C 1 dX9_order_18 rfl rfl ?_
  refine r_iconst C (0) dX9_order_19 (by decide) ?_
  refine r_put C (k := 39) pf_X9_337 (by decide) (fun _ => rfl) (fun _ => Nat.le_of_ble_eq_true rfl) (fun _ _ => rfl) dX9_order_20 ?_
  refine r_aload_n C 1 dX9_order_23 rfl rfl ?_
  refine r_iconst C (0) dX9_order_24 (by decide) ?_
  refine r_put C (k := 39) pf_X9_340 (by decide) (fun _ => rfl) (fun _ => Nat.le_of_ble_eq_true rfl) (fun _ _ => rfl) dX9_order_25 ?_
  refine r_aload_n C 1 dX9_order_28 rfl rfl ?_
  refine r_iconst C (1) dX9_order_29 (by decide) ?_
  refine r_putz C (k := 39) pf_X9_343 (by decide) (by first | exact Or.inl rfl | exact Or.inr rfl | assumption) (fun _ => rfl) (fun _ => Nat.le_of_ble_eq_true rfl) (fun _ _ => rfl) dX9_order_30 ?_
  obtain ⟨s_33, es_33⟩ : ∃ t : Sg, t = (sUp (sUp (sUp τ_8 39 39 (0)) 39 42 (0)) 39 40 (1)) := ⟨_, rfl⟩
  rw [← es_33]
  have es_33_39_17 : (s_33 39 17).toInt = (τ_8 39 17 : Int32).toInt := by rw [es_33] <;> rfl
  have es_33_39_39 : (s_33 39 39).toInt = (0 : Int32).toInt := by rw [es_33] <;> rfl
  have es_33_39_42 : (s_33 39 42).toInt = (0 : Int32).toInt := by rw [es_33] <;> rfl
  have os_33 : Off [39] τ_8 s_33 := by rw [es_33]; exact (((Off.rf.up (by decide)).up (by decide)).up (by decide))
  have e17a : (s_33 39 17).toInt = (σ 39 17).toInt := by rw [es_33_39_17, h_9.1 39 (by decide)]; rfl
  have hA1 : ∀ j : Nat, bt r_1 j = true → (j : Int) < (σ 39 17).toInt := fun j h => ((h_3.2 j).mp h).1
  have hA7 := b_lt7 (x := r_1) (fun j h => by have t := hA1 j h; omega)
  have hn7 := cn_le r_1 7
  refine r_iconst C (0) dX9_order_33 (by decide) ?_
  refine r_istore_n C [(2, .int (0)), (1, .int (r_1)), (0, .ref (ad 39))] dX9_order_34 rfl (by decide) rfl ?_
  refine r_iconst C (-1) dX9_order_35 (by decide) ?_
  refine r_istore_n C [(3, .int ((-1))), (2, .int (0)), (1, .int (r_1)), (0, .ref (ad 39))] dX9_order_36 rfl (by decide) rfl ?_
  refine r_iconst C (0) dX9_order_37 (by decide) ?_
  refine r_istore C [(4, .int (0)), (3, .int ((-1))), (2, .int (0)), (1, .int (r_1)), (0, .ref (ad 39))] dX9_order_38 (by decide) rfl ?_
  refine r_iconst C (0) dX9_order_40 (by decide) ?_
  refine r_istore C [(5, .int (0)), (4, .int (0)), (3, .int ((-1))), (2, .int (0)), (1, .int (r_1)), (0, .ref (ad 39))] dX9_order_41 (by decide) rfl ?_
  have L_43 : ∀ (n : Nat), ∀ (τ1 : Sg) (D : Int32) (l : Int32) (g : Int32) (c : Int32), (Off [39, 67, 68] s_33 τ1) → ((∀ j : Nat, j ≠ 39 ∧ j ≠ 42 → τ1 39 j = s_33 39 j)) → (sb D r_1) → (l.toInt < 7) → ((τ1 39 39).toInt + (cn (df r_1 D) 7 : Int) = (cn r_1 7 : Int) ∧ 0 ≤ (τ1 39 39).toInt) → ((τ1 39 42).toInt + (tri (cn (df r_1 D) 7) : Int) = (tri (cn r_1 7) : Int) ∧ 0 ≤ (τ1 39 42).toInt) → (0 ≤ g.toInt ∧ g.toInt ≤ 12 * (τ1 39 39).toInt) → ((σ 39 17).toInt = 0 → c.toInt = 0) → (cn (df r_1 D) 7 : Int) < (n : Int) → At E ad G 10 43 [(5, .int (c)), (4, .int (g)), (3, .int (l)), (2, .int (D)), (1, .int (r_1)), (0, .ref (ad 39))] [] τ1 := by
    intro n
    induction n with
    | zero =>
      intro τ1 D l g c ho hk hsb hl ht hp hg hc hm
      exact absurd hm (by omega)
    | succ n ih =>
      intro τ1 D l g c ho hk hsb hl ht hp hg hc hm
      have ih_43 := ih
      clear ih
      refine r_iload_n C 3 dX9_order_43 rfl rfl ?_
      refine r_iload_n C 4 dX9_order_44 rfl rfl ?_
      refine r_icmp_eq C 254 dX9_order_45 (by decide) (fun c_10 => ?_) (fun c_10 => ?_)
      · -- to 254
        refine r_aload_n C 5 dX9_order_254 rfl rfl ?_
        refine r_aload_n C 5 dX9_order_255 rfl rfl ?_
        refine r_get C (k := 39) (v := .int (τ1 39 42)) f_X9_340 (by decide) rfl rfl dX9_order_256 ?_
        refine r_put C (k := 39) pf_X9_347 (by decide) (fun _ => rfl) (fun _ => Nat.le_of_ble_eq_true rfl) (fun _ _ => rfl) dX9_order_259 ?_
        obtain ⟨s_262, es_262⟩ : ∃ t : Sg, t = (sUp τ1 39 44 (τ1 39 42)) := ⟨_, rfl⟩
        rw [← es_262]
        have es_262_39_42 : (s_262 39 42).toInt = (τ1 39 42 : Int32).toInt := by rw [es_262] <;> rfl
        have es_262_39_44 : (s_262 39 44).toInt = (τ1 39 42 : Int32).toInt := by rw [es_262] <;> rfl
        have es_262_39_39 : (s_262 39 39).toInt = (τ1 39 39 : Int32).toInt := by rw [es_262] <;> rfl
        have os_262 : Off [39] τ1 s_262 := by rw [es_262]; exact (Off.rf.up (by decide))
        have ht3 := tri_7 hn7
        have eD : D = r_1 := ta_inj c_10
        have hz0 : cn (df r_1 D) 7 = 0 := by rw [eD]; exact cn_zero 7 (fun j => by rw [df_bt]; cases bt r_1 j <;> rfl)
        have ht0 : tri (cn (df r_1 D) 7) = 0 := by rw [hz0]; rfl
        refine r_iconst C (0) dX9_order_262 (by decide) ?_
        refine r_istore C [(6, .int (0)), (5, .int (c)), (4, .int (g)), (3, .int (l)), (2, .int (D)), (1, .int (r_1)), (0, .ref (ad 39))] dX9_order_263 (by decide) rfl ?_
        have L_265 : ∀ (n : Nat), ∀ (τ3 : Sg) (k : Int32), (0 ≤ k.toInt ∧ k.toInt ≤ 84) → (Off [69] s_262 τ3) → 84 - k.toInt < (n : Int) → At E ad G 10 265 [(6, .int (k)), (5, .int (c)), (0, .ref (ad 39))] [] τ3 := by
          intro n
          induction n with
          | zero =>
            intro τ3 k hk3 ho3 hm
            exact absurd hm (by omega)
          | succ n ih =>
            intro τ3 k hk3 ho3 hm
            have ih_265 := ih
            clear ih
            have e42 : (τ3 39 42).toInt = (s_262 39 42).toInt := by rw [ho3 39 (by decide)]
            refine r_iload C 0 dX9_order_265 rfl ?_
            refine r_iconst C (3) dX9_order_267 (by decide) ?_
            refine r_aload_n C 2 dX9_order_268 rfl rfl ?_
            refine r_get C (k := 39) (v := .int (τ3 39 42)) f_X9_340 (by decide) rfl rfl dX9_order_269 ?_
            refine r_imul C dX9_order_272 ?_
            refine r_nm (P := fun z => z.toInt = 3 * (τ3 39 42 : Int32).toInt ∧ z = (3) * (τ3 39 42)) ⟨ta_mulL k_3 (by omega), rfl⟩ (fun z_11 hz_12 => ?_)
            refine r_icmp_ge C 296 dX9_order_273 (by decide) (fun c_13 => ?_) (fun c_13 => ?_)
            · -- to 296
              refine r_iload C 1 dX9_order_296 rfl ?_
              exact r_iret C T dX9_order_298 (⟨fun k hk4 => by
                  have q1 : τ3 k = s_262 k := ho3 k (fun q => hk4 (by revert q; simp; omega))
                  have q2 : s_262 k = τ1 k := os_262 k (fun q => hk4 (by revert q; simp; omega))
                  have q3 : τ1 k = s_33 k := ho k (fun q => hk4 (by revert q; simp; omega))
                  have q4 : s_33 k = τ_8 k := os_33 k (fun q => hk4 (by revert q; simp; omega))
                  have q5 : τ_8 k = (sUp σ 39 46 r_4) k := h_9.1 k (fun q => hk4 (by revert q; simp; omega))
                  have q6 : (sUp σ 39 46 r_4) k = σ k := sUp_ne (fun q => hk4 (by rw [q]; simp))
                  rw [q1, q2, q3, q4, q5, q6], fun j hj => by
                  rw [ho3 39 (by decide), es_262, sUp_eq, pk_un (by omega), hk j (by omega), es_33, sUp_eq, pk_un (by omega), sUp_eq, pk_un (by omega), sUp_eq, pk_un (by omega), h_9.1 39 (by decide), sUp_eq, pk_un (by omega)], by
                  rw [ho3 39 (by decide)]; omega, ⟨r_1, h_3.2, by
                  rw [ho3 39 (by decide)]; omega⟩, hc⟩)
            · -- to 276
              refine r_aload_n C 2 dX9_order_276 rfl rfl ?_
              refine r_get C (k := 39) (v := .ref (ad 69)) f_X9_98 (by decide) rfl rfl dX9_order_277 ?_
              refine r_iload C 0 dX9_order_280 rfl ?_
              refine r_aload_n C 2 dX9_order_282 rfl rfl ?_
              refine r_get C (k := 39) (v := .ref (ad 68)) f_X9_95 (by decide) rfl rfl dX9_order_283 ?_
              refine r_iload C 0 dX9_order_286 rfl ?_
              refine r_iald C (k := 68) (by decide) rfl (by omega) (τ3 68 ((k : Int32).toInt.toNat)) rfl dX9_order_288 ?_
              refine r_iast C (k := 69) (by decide) (fun _ => rfl) (by omega) dX9_order_289 ?_
              refine r_iinc C 0 (fun z => [(6, .int (z)), (5, .int (c)), (0, .ref (ad 39))]) dX9_order_290 rfl (by decide) (by decide) (by omega) (fun _ => rfl) (fun z_15 hz_16 => ?_)
              refine r_goto C 265 dX9_order_293 (by decide) ?_
              exact At.sub [0, 1, 2] rfl (ih_265 (sUp τ3 69 ((k : Int32).toInt.toNat) (τ3 68 ((k : Int32).toInt.toNat))) (z_15 : Int32) (by omega) (ho3.up (by decide)) (by omega))
        exact At.sub [0, 1, 6] rfl (L_265 ((84 - (0 : Int32).toInt).toNat + 1) s_262 (0 : Int32) (by omega) Off.rf (by omega))
      · -- to 48
        have hne : D ≠ r_1 := fun q => c_10 (by rw [q])
        refine r_iconst C (-1) dX9_order_48 (by decide) ?_
        refine r_istore C [(6, .int ((-1))), (5, .int (c)), (4, .int (g)), (3, .int (l)), (2, .int (D)), (1, .int (r_1)), (0, .ref (ad 39))] dX9_order_49 (by decide) rfl ?_
        refine r_sipush C (1000) dX9_order_51 (by decide) ?_
        refine r_istore C [(7, .int (1000)), (6, .int ((-1))), (5, .int (c)), (4, .int (g)), (3, .int (l)), (2, .int (D)), (1, .int (r_1)), (0, .ref (ad 39))] dX9_order_54 (by decide) rfl ?_
        refine r_iconst C (0) dX9_order_56 (by decide) ?_
        refine r_istore C [(8, .int (0)), (7, .int (1000)), (6, .int ((-1))), (5, .int (c)), (4, .int (g)), (3, .int (l)), (2, .int (D)), (1, .int (r_1)), (0, .ref (ad 39))] dX9_order_57 (by decide) rfl ?_
        have L_59 : ∀ (n : Nat), ∀ (τ2 : Sg) (b : Int32) (e : Int32) (i : Int32), (0 ≤ i.toInt ∧ i.toInt ≤ 7) → (Off [39, 68] τ1 τ2) → (∀ j : Nat, j ≠ 42 → τ2 39 j = τ1 39 j) → ((τ2 39 42).toInt = (τ1 39 42).toInt + (cn (df r_1 D) i.toInt.toNat : Int)) → (b.toInt < 7 ∧ -1 ≤ b.toInt ∧ (0 ≤ b.toInt → bt (df r_1 D) b.toInt.toNat = true)) → (b.toInt = -1 → e.toInt = 1000) → (∀ j : Nat, (j : Int) < i.toInt → bt (df r_1 D) j = true → 0 ≤ b.toInt) → 7 - i.toInt < (n : Int) → At E ad G 10 59 [(8, .int (i)), (7, .int (e)), (6, .int (b)), (5, .int (c)), (4, .int (g)), (3, .int (l)), (2, .int (D)), (1, .int (r_1)), (0, .ref (ad 39))] [] τ2 := by
          intro n
          induction n with
          | zero =>
            intro τ2 b e i hi ho2 hk2 hq hb he hx hm
            exact absurd hm (by omega)
          | succ n ih =>
            intro τ2 b e i hi ho2 hk2 hq hb he hx hm
            have ih_59 := ih
            clear ih
            have e17 : (τ2 39 17).toInt = (σ 39 17).toInt := by rw [hk2 17 (by decide), hk 17 (by decide)]; exact e17a
            have e66 : τ2 66 = τ_8 66 := by rw [ho2 66 (by decide), ho 66 (by decide), os_33 66 (by decide)]
            have e39 : (τ2 39 39).toInt = (τ1 39 39).toInt := by rw [hk2 39 (by decide)]
            have hD7 := sb_le hsb hA7.1
            refine r_iload C 0 dX9_order_59 rfl ?_
            refine r_aload_n C 8 dX9_order_61 rfl rfl ?_
            refine r_get C (k := 39) (v := .int (τ2 39 17)) f_X9_113 (by decide) rfl rfl dX9_order_62 ?_
            refine r_icmp_ge C 204 dX9_order_65 (by decide) (fun c_17 => ?_) (fun c_17 => ?_)
            · -- to 204
              have hbp : 0 ≤ b.toInt := by
                  obtain ⟨j, hj⟩ := sb_ex hsb hne
                  have hj2 := hA1 j (df_in hj).1
                  exact hx j (by omega) hj
              have bb := hb.2.2 hbp
              have ds := df_step (A := r_1) (s := D) (o := b) (by omega) bb hsb
              have hc1 := ds.2.2 (by omega)
              have htp := cn_top (x := df r_1 D) (i := i.toInt.toNat) (k := 7) (by omega) (fun j hj => by have t := hA1 j (df_in hj).1; omega)
              refine r_iload C 1 dX9_order_204 rfl ?_
              refine r_istore C [(5, .int (e)), (8, .int (i)), (7, .int (e)), (6, .int (b)), (4, .int (g)), (3, .int (l)), (2, .int (D)), (1, .int (r_1)), (0, .ref (ad 39))] dX9_order_206 (by decide) rfl ?_
              refine r_iload C 4 dX9_order_208 rfl ?_
              refine r_aload_n C 8 dX9_order_210 rfl rfl ?_
              refine r_iload_n C 5 dX9_order_211 rfl rfl ?_
              refine r_iload C 3 dX9_order_212 rfl ?_
              refine r_callV C (k := 39) [.int (l), .int (b)] [.int (g)] (c_X9_moves E ad τ2  (l) (b) (by omega) (by omega)) lv_X9_328 (by decide) rfl rfl (by decide) (by decide) rfl rfl (Nat.le_of_ble_eq_true rfl) dX9_order_214 (fun r_18 τ_19 h_20 => ?_)
              obtain ⟨eh_20, h_20⟩ := h_20
              obtain rfl := eh_20.symm
              refine r_iadd C dX9_order_217 ?_
              refine r_nm (P := fun z => z.toInt = (g : Int32).toInt + (r_18 : Int32).toInt ∧ z = (g) + (r_18)) ⟨ta_add (by omega), rfl⟩ (fun z_21 hz_22 => ?_)
              refine r_istore C [(4, .int (z_21)), (5, .int (e)), (8, .int (i)), (7, .int (e)), (6, .int (b)), (3, .int (l)), (2, .int (D)), (1, .int (r_1)), (0, .ref (ad 39))] dX9_order_218 (by decide) rfl ?_
              refine r_aload_n C 8 dX9_order_220 rfl rfl ?_
              refine r_get C (k := 39) (v := .ref (ad 67)) f_X9_92 (by decide) rfl rfl dX9_order_221 ?_
              refine r_aload_n C 8 dX9_order_224 rfl rfl ?_
              refine r_get C (k := 39) (v := .int (τ2 39 39)) f_X9_337 (by decide) rfl rfl dX9_order_225 ?_
              refine r_iload C 4 dX9_order_228 rfl ?_
              refine r_iast C (k := 67) (by decide) (fun _ => rfl) (by omega) dX9_order_230 ?_
              refine r_aload_n C 8 dX9_order_231 rfl rfl ?_
              refine r_dup C dX9_order_232 rfl ?_
              refine r_get C (k := 39) (v := .int (τ2 39 39)) f_X9_337 (by decide) rfl rfl dX9_order_233 ?_
              refine r_iconst C (1) dX9_order_236 (by decide) ?_
              refine r_iadd C dX9_order_237 ?_
              refine r_nm (P := fun z => z.toInt = (τ2 39 39 : Int32).toInt + (1 : Int32).toInt ∧ z = (τ2 39 39) + (1)) ⟨ta_add (by omega), rfl⟩ (fun z_23 hz_24 => ?_)
              refine r_put C (k := 39) pf_X9_337 (by decide) (fun _ => rfl) (fun _ => Nat.le_of_ble_eq_true rfl) (fun _ _ => rfl) dX9_order_238 ?_
              refine r_iload_n C 6 dX9_order_241 rfl rfl ?_
              refine r_iconst C (1) dX9_order_242 (by decide) ?_
              refine r_iload C 4 dX9_order_243 rfl ?_
              refine r_ishl C dX9_order_245 ?_
              refine r_nm (P := fun z => z = (1 : Int32) <<< ((b : Int32) &&& 31)) rfl (fun z_25 hz_26 => ?_)
              refine r_ior C dX9_order_246 ?_
              refine r_nm (P := fun z => z = D ||| ((1 : Int32) <<< (b &&& 31))) (by rw [hz_26]) (fun z_27 hz_28 => ?_)
              refine r_istore_n C [(2, .int (z_27)), (4, .int (z_21)), (5, .int (e)), (8, .int (i)), (7, .int (e)), (6, .int (b)), (3, .int (l)), (1, .int (r_1)), (0, .ref (ad 39))] dX9_order_247 rfl (by decide) rfl ?_
              refine r_iload C 5 dX9_order_248 rfl ?_
              refine r_istore_n C [(3, .int (b)), (2, .int (z_27)), (4, .int (z_21)), (5, .int (e)), (8, .int (i)), (7, .int (e)), (6, .int (b)), (1, .int (r_1)), (0, .ref (ad 39))] dX9_order_250 rfl (by decide) rfl ?_
              have htr := tri_s (cn (df r_1 (D ||| ((1 : Int32) <<< (b &&& 31)))) 7)
              have hcz : cn (df r_1 z_27) 7 + 1 = cn (df r_1 D) 7 := by rw [hz_28]; exact hc1
              refine r_goto C 43 dX9_order_251 (by decide) ?_
              exact At.sub [3, 2, 0, 1, 7, 8] rfl (ih_43 (sUp (sUp τ2 67 ((τ2 39 39 : Int32).toInt.toNat) (b)) 39 39 (z_23)) (z_27 : Int32) (b : Int32) (z_21 : Int32) (e : Int32) (((ho.tr (ho2.to (by decide)) (fun _ h => h)).up (by decide)).up (by decide)) (fun j hj => (if_neg hj.1).trans ((hk2 j hj.2).trans (hk j hj))) (by rw [hz_28]; exact ds.1) (by omega) (show (z_23 : Int32).toInt + (cn (df r_1 z_27) 7 : Int) = (cn r_1 7 : Int) ∧ 0 ≤ (z_23 : Int32).toInt by rw [hz_28]; omega) (show (τ2 39 42).toInt + (tri (cn (df r_1 z_27) 7) : Int) = (tri (cn r_1 7) : Int) ∧ 0 ≤ (τ2 39 42).toInt by rw [hz_28]; rw [hc1] at htr; rw [htp] at hq; omega) (show 0 ≤ (z_21 : Int32).toInt ∧ (z_21 : Int32).toInt ≤ 12 * (z_23 : Int32).toInt by omega) (fun h => by have t := hA1 b.toInt.toNat (df_in bb).1; omega) (by omega))
            · -- to 68
              refine r_iload_n C 7 dX9_order_68 rfl rfl ?_
              refine r_iload_n C 6 dX9_order_69 rfl rfl ?_
              refine r_iconst C (-1) dX9_order_70 (by decide) ?_
              refine r_ixor C dX9_order_71 ?_
              refine r_nm (P := fun z => z = (D : Int32) ^^^ ((-1))) rfl (fun z_29 hz_30 => ?_)
              refine r_iand C dX9_order_72 ?_
              refine r_nm (P := fun z => z = (r_1 : Int32) &&& (z_29)) rfl (fun z_31 hz_32 => ?_)
              refine r_iload C 0 dX9_order_73 rfl ?_
              refine r_callS C [.int (z_31), .int (i)] [] (c_X9_has E ad τ2  (z_31) (i) ) ls_X9_125 (by decide) (by decide) rfl rfl (Nat.le_of_ble_eq_true rfl) dX9_order_75 (fun r_33 τ_34 h_35 => ?_)
              obtain ⟨eh_35, h_35⟩ := h_35
              obtain rfl := eh_35.symm
              refine r_if_eq C 198 dX9_order_78 (by decide) (fun c_36 => ?_) (fun c_36 => ?_)
              · -- to 198
                refine r_iinc C 0 (fun z => [(8, .int (z)), (7, .int (e)), (6, .int (b)), (5, .int (c)), (4, .int (g)), (3, .int (l)), (2, .int (D)), (1, .int (r_1)), (0, .ref (ad 39))]) dX9_order_198 rfl (by decide) (by decide) (by omega) (fun _ => rfl) (fun z_37 hz_38 => ?_)
                refine r_goto C 59 dX9_order_201 (by decide) ?_
                exact At.sub [0, 1, 2, 3, 4, 5, 6, 7, 8] rfl (ih_59 τ2 (b : Int32) (e : Int32) (z_37 : Int32) (by omega) ho2 hk2 (by rw [cn_st hz_38 (by omega), if_neg (fun q => by have t := (has_bt (p := z_31) (q := i) (by omega)).mpr (by rw [hz_32, hz_30]; exact q); omega)]; omega) hb he (fun j h1 h2 => by
                    by_cases eo : (j : Int) = i.toInt
                    · have t := (has_bt (p := z_31) (q := i) (by omega)).mpr (by rw [hz_32, hz_30, show i.toInt.toNat = j from by omega]; exact h2)
                      exact absurd t (by omega)
                    · exact hx j (by omega) h2) (by omega))
              · -- to 81
                have bk : bt (df r_1 D) i.toInt.toNat = true := by
                    have t := (has_bt (p := z_31) (q := i) (by omega)).mp (by omega)
                    rw [hz_32, hz_30] at t; exact t
                have ds := df_step (A := r_1) (s := D) (o := i) (by omega) bk hsb
                have og := or_gt (s := D) (o := i) (by omega) (by omega) (df_in bk).2
                have hci := cn_in (df r_1 D) (show i.toInt.toNat < 7 by omega) bk
                have ht2 := tri_ge (cn (df r_1 D) 7)
                have ht3 := tri_7 hn7
                refine r_iload C 4 dX9_order_81 rfl ?_
                refine r_aload_n C 8 dX9_order_83 rfl rfl ?_
                refine r_iload_n C 5 dX9_order_84 rfl rfl ?_
                refine r_iload C 0 dX9_order_85 rfl ?_
                refine r_callV C (k := 39) [.int (l), .int (i)] [.int (g)] (c_X9_moves E ad τ2  (l) (i) (by omega) (by omega)) lv_X9_328 (by decide) rfl rfl (by decide) (by decide) rfl rfl (Nat.le_of_ble_eq_true rfl) dX9_order_87 (fun r_39 τ_40 h_41 => ?_)
                obtain ⟨eh_41, h_41⟩ := h_41
                obtain rfl := eh_41.symm
                refine r_iadd C dX9_order_90 ?_
                refine r_nm (P := fun z => z.toInt = (g : Int32).toInt + (r_39 : Int32).toInt ∧ z = (g) + (r_39)) ⟨ta_add (by omega), rfl⟩ (fun z_42 hz_43 => ?_)
                refine r_aload_n C 8 dX9_order_91 rfl rfl ?_
                refine r_get C (k := 39) (v := .ref (ad 66)) f_X9_89 (by decide) rfl rfl dX9_order_92 ?_
                refine r_bipush C (7) dX9_order_95 (by decide) ?_
                refine r_iload_n C 6 dX9_order_97 rfl rfl ?_
                refine r_iconst C (1) dX9_order_98 (by decide) ?_
                refine r_iload C 0 dX9_order_99 rfl ?_
                refine r_ishl C dX9_order_101 ?_
                refine r_nm (P := fun z => z = (1 : Int32) <<< ((i : Int32) &&& 31)) rfl (fun z_44 hz_45 => ?_)
                refine r_ior C dX9_order_102 ?_
                refine r_nm (P := fun z => z = D ||| ((1 : Int32) <<< (i &&& 31)) ∧ D.toInt < z.toInt ∧ z.toInt ≤ 127) (by rw [hz_45]; exact ⟨rfl, og⟩) (fun z_46 hz_47 => ?_)
                refine r_imul C dX9_order_103 ?_
                refine r_nm (P := fun z => z.toInt = 7 * (z_46 : Int32).toInt ∧ z = (7) * (z_46)) ⟨ta_mulL k_7 (by omega), rfl⟩ (fun z_48 hz_49 => ?_)
                refine r_iload C 0 dX9_order_104 rfl ?_
                refine r_iadd C dX9_order_106 ?_
                refine r_nm (P := fun z => z.toInt = (z_48 : Int32).toInt + (i : Int32).toInt ∧ z = (z_48) + (i)) ⟨ta_add (by omega), rfl⟩ (fun z_50 hz_51 => ?_)
                refine r_iald C (k := 66) (by decide) rfl (by omega) (τ2 66 ((z_50 : Int32).toInt.toNat)) rfl dX9_order_107 ?_
                have sp1 : sb z_46 r_1 := by rw [hz_47.1]; exact ds.1
                have hb1 := h_9.2 z_46 (by omega) (sb_le sp1 hA7.1).2 sp1 i.toInt.toNat (by omega) (by rw [hz_47.1]; exact ds.2.1)
                rw [show (7 * (z_46 : Int32).toInt + (i.toInt.toNat : Int)).toNat = (z_50 : Int32).toInt.toNat from by omega, ← e66] at hb1
                have hc1 := ds.2.2 (by omega)
                rw [← hz_47.1] at hc1
                refine r_iadd C dX9_order_108 ?_
                refine r_nm (P := fun z => z.toInt = (z_42 : Int32).toInt + (τ2 66 ((z_50 : Int32).toInt.toNat) : Int32).toInt ∧ z = (z_42) + (τ2 66 ((z_50 : Int32).toInt.toNat))) ⟨ta_add (by omega), rfl⟩ (fun z_53 hz_54 => ?_)
                refine r_istore C [(9, .int (z_53)), (8, .int (i)), (7, .int (e)), (6, .int (b)), (5, .int (c)), (4, .int (g)), (3, .int (l)), (2, .int (D)), (1, .int (r_1)), (0, .ref (ad 39))] dX9_order_109 (by decide) rfl ?_
                refine r_aload_n C 9 dX9_order_111 rfl rfl ?_
                refine r_get C (k := 39) (v := .ref (ad 68)) f_X9_95 (by decide) rfl rfl dX9_order_112 ?_
                refine r_iconst C (3) dX9_order_115 (by decide) ?_
                refine r_aload_n C 9 dX9_order_116 rfl rfl ?_
                refine r_get C (k := 39) (v := .int (τ2 39 42)) f_X9_340 (by decide) rfl rfl dX9_order_117 ?_
                refine r_imul C dX9_order_120 ?_
                refine r_nm (P := fun z => z.toInt = 3 * (τ2 39 42 : Int32).toInt ∧ z = (3) * (τ2 39 42)) ⟨ta_mulL k_3 (by omega), rfl⟩ (fun z_55 hz_56 => ?_)
                refine r_aload_n C 9 dX9_order_121 rfl rfl ?_
                refine r_get C (k := 39) (v := .int (τ2 39 39)) f_X9_337 (by decide) rfl rfl dX9_order_122 ?_
                refine r_iast C (k := 68) (by decide) (fun _ => rfl) (by omega) dX9_order_125 ?_
                refine r_aload_n C 9 dX9_order_126 rfl rfl ?_
                refine r_get C (k := 39) (v := .ref (ad 68)) f_X9_95 (by decide) rfl rfl dX9_order_127 ?_
                refine r_iconst C (3) dX9_order_130 (by decide) ?_
                refine r_aload_n C 9 dX9_order_131 rfl rfl ?_
                refine r_get C (k := 39) (v := .int (τ2 39 42)) f_X9_340 (by decide) rfl rfl dX9_order_132 ?_
                refine r_imul C dX9_order_135 ?_
                refine r_nm (P := fun z => z.toInt = 3 * (τ2 39 42 : Int32).toInt ∧ z = (3) * (τ2 39 42)) ⟨ta_mulL k_3 (by omega), rfl⟩ (fun z_57 hz_58 => ?_)
                refine r_iconst C (1) dX9_order_136 (by decide) ?_
                refine r_iadd C dX9_order_137 ?_
                refine r_nm (P := fun z => z.toInt = (z_57 : Int32).toInt + (1 : Int32).toInt ∧ z = (z_57) + (1)) ⟨ta_add (by omega), rfl⟩ (fun z_59 hz_60 => ?_)
                refine r_iload C 1 dX9_order_138 rfl ?_
                refine r_iast C (k := 68) (by decide) (fun _ => rfl) (by omega) dX9_order_140 ?_
                refine r_aload_n C 9 dX9_order_141 rfl rfl ?_
                refine r_get C (k := 39) (v := .ref (ad 68)) f_X9_95 (by decide) rfl rfl dX9_order_142 ?_
                refine r_iconst C (3) dX9_order_145 (by decide) ?_
                refine r_aload_n C 9 dX9_order_146 rfl rfl ?_
                refine r_get C (k := 39) (v := .int (τ2 39 42)) f_X9_340 (by decide) rfl rfl dX9_order_147 ?_
                refine r_imul C dX9_order_150 ?_
                refine r_nm (P := fun z => z.toInt = 3 * (τ2 39 42 : Int32).toInt ∧ z = (3) * (τ2 39 42)) ⟨ta_mulL k_3 (by omega), rfl⟩ (fun z_61 hz_62 => ?_)
                refine r_iconst C (2) dX9_order_151 (by decide) ?_
                refine r_iadd C dX9_order_152 ?_
                refine r_nm (P := fun z => z.toInt = (z_61 : Int32).toInt + (2 : Int32).toInt ∧ z = (z_61) + (2)) ⟨ta_add (by omega), rfl⟩ (fun z_63 hz_64 => ?_)
                refine r_iload C 0 dX9_order_153 rfl ?_
                refine r_iast C (k := 68) (by decide) (fun _ => rfl) (by omega) dX9_order_155 ?_
                refine r_aload_n C 9 dX9_order_156 rfl rfl ?_
                refine r_dup C dX9_order_157 rfl ?_
                refine r_get C (k := 39) (v := .int (τ2 39 42)) f_X9_340 (by decide) rfl rfl dX9_order_158 ?_
                refine r_iconst C (1) dX9_order_161 (by decide) ?_
                refine r_iadd C dX9_order_162 ?_
                refine r_nm (P := fun z => z.toInt = (τ2 39 42 : Int32).toInt + (1 : Int32).toInt ∧ z = (τ2 39 42) + (1)) ⟨ta_add (by omega), rfl⟩ (fun z_65 hz_66 => ?_)
                refine r_put C (k := 39) pf_X9_340 (by decide) (fun _ => rfl) (fun _ => Nat.le_of_ble_eq_true rfl) (fun _ _ => rfl) dX9_order_163 ?_
                refine r_iload C 0 dX9_order_166 rfl ?_
                refine r_iload C 2 dX9_order_168 rfl ?_
                refine r_icmp_ge C 178 dX9_order_170 (by decide) (fun c_67 => ?_) (fun c_67 => ?_)
                · -- to 178
                  refine r_iload C 3 dX9_order_178 rfl ?_
                  refine r_istore C [(6, .int (b)), (9, .int (z_53)), (8, .int (i)), (7, .int (e)), (5, .int (c)), (4, .int (g)), (3, .int (l)), (2, .int (D)), (1, .int (r_1)), (0, .ref (ad 39))] dX9_order_180 (by decide) rfl ?_
                  refine r_iload C 1 dX9_order_182 rfl ?_
                  refine r_iload C 3 dX9_order_184 rfl ?_
                  refine r_icmp_ge C 194 dX9_order_186 (by decide) (fun c_68 => ?_) (fun c_68 => ?_)
                  · -- to 194
                    refine r_iload C 3 dX9_order_194 rfl ?_
                    refine r_istore C [(7, .int (e)), (6, .int (b)), (9, .int (z_53)), (8, .int (i)), (5, .int (c)), (4, .int (g)), (3, .int (l)), (2, .int (D)), (1, .int (r_1)), (0, .ref (ad 39))] dX9_order_196 (by decide) rfl ?_
                    refine r_iinc C 3 (fun z => [(8, .int (z)), (7, .int (e)), (6, .int (b)), (9, .int (z_53)), (5, .int (c)), (4, .int (g)), (3, .int (l)), (2, .int (D)), (1, .int (r_1)), (0, .ref (ad 39))]) dX9_order_198 rfl (by decide) (by decide) (by omega) (fun _ => rfl) (fun z_69 hz_70 => ?_)
                    refine r_goto C 59 dX9_order_201 (by decide) ?_
                    exact At.sub [0, 1, 2, 4, 5, 6, 7, 8, 9] rfl (ih_59 (sUp (sUp (sUp (sUp τ2 68 ((z_55 : Int32).toInt.toNat) (τ2 39 39)) 68 ((z_59 : Int32).toInt.toNat) (i)) 68 ((z_63 : Int32).toInt.toNat) (z_53)) 39 42 (z_65)) (b : Int32) (e : Int32) (z_69 : Int32) (by omega) ((((ho2.up (by decide)).up (by decide)).up (by decide)).up (by decide))  (fun j hj => (if_neg hj).trans (hk2 j hj))  (show (z_65 : Int32).toInt = _ by rw [cn_st hz_70 (by omega), if_pos bk]; omega) (by first | exact ⟨by omega, by omega, fun _ => bk⟩ | exact hb)  (fun h => by first | omega | (have t := he h; omega))  (fun j _ _ => by omega)  (by omega))
                  · -- to 189
                    refine r_iload C 1 dX9_order_189 rfl ?_
                    refine r_goto C 196 dX9_order_191 (by decide) ?_
                    refine r_istore C [(7, .int (z_53)), (6, .int (b)), (9, .int (z_53)), (8, .int (i)), (5, .int (c)), (4, .int (g)), (3, .int (l)), (2, .int (D)), (1, .int (r_1)), (0, .ref (ad 39))] dX9_order_196 (by decide) rfl ?_
                    refine r_iinc C 3 (fun z => [(8, .int (z)), (7, .int (z_53)), (6, .int (b)), (9, .int (z_53)), (5, .int (c)), (4, .int (g)), (3, .int (l)), (2, .int (D)), (1, .int (r_1)), (0, .ref (ad 39))]) dX9_order_198 rfl (by decide) (by decide) (by omega) (fun _ => rfl) (fun z_71 hz_72 => ?_)
                    refine r_goto C 59 dX9_order_201 (by decide) ?_
                    exact At.sub [0, 1, 2, 4, 5, 6, 7, 8, 9] rfl (ih_59 (sUp (sUp (sUp (sUp τ2 68 ((z_55 : Int32).toInt.toNat) (τ2 39 39)) 68 ((z_59 : Int32).toInt.toNat) (i)) 68 ((z_63 : Int32).toInt.toNat) (z_53)) 39 42 (z_65)) (b : Int32) (z_53 : Int32) (z_71 : Int32) (by omega) ((((ho2.up (by decide)).up (by decide)).up (by decide)).up (by decide))  (fun j hj => (if_neg hj).trans (hk2 j hj))  (show (z_65 : Int32).toInt = _ by rw [cn_st hz_72 (by omega), if_pos bk]; omega) (by first | exact ⟨by omega, by omega, fun _ => bk⟩ | exact hb)  (fun h => by first | omega | (have t := he h; omega))  (fun j _ _ => by omega)  (by omega))
                · -- to 173
                  refine r_iload C 1 dX9_order_173 rfl ?_
                  refine r_goto C 180 dX9_order_175 (by decide) ?_
                  refine r_istore C [(6, .int (i)), (9, .int (z_53)), (8, .int (i)), (7, .int (e)), (5, .int (c)), (4, .int (g)), (3, .int (l)), (2, .int (D)), (1, .int (r_1)), (0, .ref (ad 39))] dX9_order_180 (by decide) rfl ?_
                  refine r_iload C 1 dX9_order_182 rfl ?_
                  refine r_iload C 3 dX9_order_184 rfl ?_
                  refine r_icmp_ge C 194 dX9_order_186 (by decide) (fun c_73 => ?_) (fun c_73 => ?_)
                  · -- to 194
                    refine r_iload C 3 dX9_order_194 rfl ?_
                    refine r_istore C [(7, .int (e)), (6, .int (i)), (9, .int (z_53)), (8, .int (i)), (5, .int (c)), (4, .int (g)), (3, .int (l)), (2, .int (D)), (1, .int (r_1)), (0, .ref (ad 39))] dX9_order_196 (by decide) rfl ?_
                    refine r_iinc C 3 (fun z => [(8, .int (z)), (7, .int (e)), (6, .int (i)), (9, .int (z_53)), (5, .int (c)), (4, .int (g)), (3, .int (l)), (2, .int (D)), (1, .int (r_1)), (0, .ref (ad 39))]) dX9_order_198 rfl (by decide) (by decide) (by omega) (fun _ => rfl) (fun z_74 hz_75 => ?_)
                    refine r_goto C 59 dX9_order_201 (by decide) ?_
                    exact At.sub [0, 1, 2, 4, 5, 6, 7, 8, 9] rfl (ih_59 (sUp (sUp (sUp (sUp τ2 68 ((z_55 : Int32).toInt.toNat) (τ2 39 39)) 68 ((z_59 : Int32).toInt.toNat) (i)) 68 ((z_63 : Int32).toInt.toNat) (z_53)) 39 42 (z_65)) (i : Int32) (e : Int32) (z_74 : Int32) (by omega) ((((ho2.up (by decide)).up (by decide)).up (by decide)).up (by decide))  (fun j hj => (if_neg hj).trans (hk2 j hj))  (show (z_65 : Int32).toInt = _ by rw [cn_st hz_75 (by omega), if_pos bk]; omega) (by first | exact ⟨by omega, by omega, fun _ => bk⟩ | exact hb)  (fun h => by first | omega | (have t := he h; omega))  (fun j _ _ => by omega)  (by omega))
                  · -- to 189
                    refine r_iload C 1 dX9_order_189 rfl ?_
                    refine r_goto C 196 dX9_order_191 (by decide) ?_
                    refine r_istore C [(7, .int (z_53)), (6, .int (i)), (9, .int (z_53)), (8, .int (i)), (5, .int (c)), (4, .int (g)), (3, .int (l)), (2, .int (D)), (1, .int (r_1)), (0, .ref (ad 39))] dX9_order_196 (by decide) rfl ?_
                    refine r_iinc C 3 (fun z => [(8, .int (z)), (7, .int (z_53)), (6, .int (i)), (9, .int (z_53)), (5, .int (c)), (4, .int (g)), (3, .int (l)), (2, .int (D)), (1, .int (r_1)), (0, .ref (ad 39))]) dX9_order_198 rfl (by decide) (by decide) (by omega) (fun _ => rfl) (fun z_76 hz_77 => ?_)
                    refine r_goto C 59 dX9_order_201 (by decide) ?_
                    exact At.sub [0, 1, 2, 4, 5, 6, 7, 8, 9] rfl (ih_59 (sUp (sUp (sUp (sUp τ2 68 ((z_55 : Int32).toInt.toNat) (τ2 39 39)) 68 ((z_59 : Int32).toInt.toNat) (i)) 68 ((z_63 : Int32).toInt.toNat) (z_53)) 39 42 (z_65)) (i : Int32) (z_53 : Int32) (z_76 : Int32) (by omega) ((((ho2.up (by decide)).up (by decide)).up (by decide)).up (by decide))  (fun j hj => (if_neg hj).trans (hk2 j hj))  (show (z_65 : Int32).toInt = _ by rw [cn_st hz_77 (by omega), if_pos bk]; omega) (by first | exact ⟨by omega, by omega, fun _ => bk⟩ | exact hb)  (fun h => by first | omega | (have t := he h; omega))  (fun j _ _ => by omega)  (by omega))
        exact At.sub [0, 1, 2, 3, 4, 5, 6, 7, 8] rfl (L_59 ((7 - (0 : Int32).toInt).toNat + 1) τ1 ((-1) : Int32) (1000 : Int32) (0 : Int32) (by omega) Off.rf (fun _ _ => rfl) (by rw [k_0]; exact (Int.add_zero _).symm) (by refine ⟨by omega, by omega, fun h => absurd h (by omega)⟩) (fun _ => k_1000) (fun j h => absurd h (by omega)) (by omega))
  exact At.sub [0, 1, 2, 3, 4, 5] rfl (L_43 (((cn (df r_1 (0 : Int32)) 7 : Int)).toNat + 1) s_33 (0 : Int32) ((-1) : Int32) (0 : Int32) (0 : Int32) Off.rf (fun _ _ => rfl) (sb_0 _) (by omega) (by rw [df_0]; have e : (s_33 39 39).toInt = 0 := es_33_39_39.trans k_0; omega) (by rw [df_0]; have e : (s_33 39 42).toInt = 0 := es_33_39_42.trans k_0; omega) (by have e : (s_33 39 39).toInt = 0 := es_33_39_39.trans k_0; omega) (fun _ => k_0) (by omega))
