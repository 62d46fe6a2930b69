def sl (i : Nat) : Nat := slen.getD i 0
def ch (i j : Nat) : Int32 := (sbyt.getD i []).getD j 0
theorem sl_le : ∀ i, i < 6 → sl i ≤ 31 := by decide
theorem ofN {n : Nat} (h : n ≤ 1000) : (Int32.ofNat n).toInt = (n : Int) := nI_toInt (by omega)
theorem ch_ok : ∀ i, i < 6 → ∀ j, j < sl i → ((ch i j &&& 255).toUInt32 % 65536).toInt32 = ch i j := by decide +kernel
theorem ch_nar : ∀ i, i < 6 → ∀ j, j < sl i → narrow .char (.int (ch i j)) = .int (ch i j) := by decide +kernel
/-- the place where a word begins -/
def stt (i j : Nat) : Prop := j = 0 ∨ (ch i (j - 1)).toInt = 32
theorem stt_no : ∀ i, i < 6 → ∀ j, j ≤ sl i → (j = 0 ∨ (ch i (j - 1)).toInt = 32) → j < sl i ∧ (ch i j).toInt ≠ 32 := by decide +kernel
set_option maxHeartbeats 4000000 in
theorem c_J3_n (E : Ev) (ad : Nat → Nat) (σ : Sg) (p q : Int32) (h : 0 ≤ p.toInt ∧ p.toInt < q.toInt) : Ct E ad yJ3_checkIndex_8e157 cJ3_checkIndex_8e157 3 (some .int) 0 [.int p, .int q, .null] σ (fun r τ => τ = σ) := by
  refine ct_of RJ3 rfl (by decide +kernel) [(0, .int p), (1, .int q), (2, .null)] rfl (Nat.le_of_ble_eq_true rfl) (fun G C T => ?_)
  refine r_iload_n C 0 dJ3_checkIndex_8e157_0 rfl rfl ?_
  refine r_if_lt C 9 dJ3_checkIndex_8e157_1 (by decide) (fun c => absurd c (by omega)) (fun c => ?_)
  refine r_iload_n C 0 dJ3_checkIndex_8e157_4 rfl rfl ?_
  refine r_iload_n C 1 dJ3_checkIndex_8e157_5 rfl rfl ?_
  refine r_icmp_lt C 16 dJ3_checkIndex_8e157_6 (by decide) (fun c => ?_) (fun c => absurd c (by omega))
  refine r_iload_n C 0 dJ3_checkIndex_8e157_16 rfl rfl ?_
  exact r_iret C T dJ3_checkIndex_8e157_17 rfl
set_option maxHeartbeats 4000000 in
theorem c_J3_r (E : Ev) (ad : Nat → Nat) (σ : Sg) (p q : Int32) (t : Nat) (h : 0 ≤ p.toInt ∧ p.toInt < q.toInt) : Ct E ad yJ3_checkIndex_8e157 cJ3_checkIndex_8e157 3 (some .int) 0 [.int p, .int q, .ref t] σ (fun r τ => τ = σ) := by
  refine ct_of RJ3 rfl (by decide +kernel) [(0, .int p), (1, .int q), (2, .ref t)] rfl (Nat.le_of_ble_eq_true rfl) (fun G C T => ?_)
  refine r_iload_n C 0 dJ3_checkIndex_8e157_0 rfl rfl ?_
  refine r_if_lt C 9 dJ3_checkIndex_8e157_1 (by decide) (fun c => absurd c (by omega)) (fun c => ?_)
  refine r_iload_n C 0 dJ3_checkIndex_8e157_4 rfl rfl ?_
  refine r_iload_n C 1 dJ3_checkIndex_8e157_5 rfl rfl ?_
  refine r_icmp_lt C 16 dJ3_checkIndex_8e157_6 (by decide) (fun c => ?_) (fun c => absurd c (by omega))
  refine r_iload_n C 0 dJ3_checkIndex_8e157_16 rfl rfl ?_
  exact r_iret C T dJ3_checkIndex_8e157_17 rfl
set_option maxHeartbeats 4000000 in
set_option maxRecDepth 100000 in
theorem c_J0_checkIndex_df160 (E : Ev) (ad : Nat → Nat) (σ : Sg) (p : Int32) (q : Int32) (h : 0 ≤ p.toInt ∧ p.toInt < q.toInt) : CtV E ad yJ0_checkIndex_df160 cJ0_checkIndex_df160 2 1 [.int p, .int q] σ (fun τ => τ = σ) := by
  refine ctv_of RJ0 rfl (by decide +kernel) [(0, .int (p)), (1, .int (q))] rfl (Nat.le_of_ble_eq_true rfl) (fun G C T => ?_)
  refine r_iload_n C 0 dJ0_checkIndex_df160_0 rfl rfl ?_
  refine r_iload_n C 1 dJ0_checkIndex_df160_1 rfl rfl ?_
  rcases C.f.2.2.2.1 with hz | ⟨t, hz⟩
  · -- n
    refine r_gets C hz wf_J0_1053 dJ0_checkIndex_df160_2 ?_
    refine r_callS C [.int (p), .int (q), .null] [] (c_J3_n E ad σ (p) (q) (by omega)) ls_J0_1059 (by decide) (by decide) rfl rfl (Nat.le_of_ble_eq_true rfl) dJ0_checkIndex_df160_5 (fun r τ h => ?_)
    obtain rfl := h.symm
    refine r_pop C dJ0_checkIndex_df160_8 rfl ?_
    exact r_vret C T dJ0_checkIndex_df160_9 rfl
  · -- r
    refine r_gets C hz wf_J0_1053 dJ0_checkIndex_df160_2 ?_
    refine r_callS C [.int (p), .int (q), .ref t] [] (c_J3_r E ad σ (p) (q) t (by omega)) ls_J0_1059 (by decide) (by decide) rfl rfl (Nat.le_of_ble_eq_true rfl) dJ0_checkIndex_df160_5 (fun r τ h => ?_)
    obtain rfl := h.symm
    refine r_pop C dJ0_checkIndex_df160_8 rfl ?_
    exact r_vret C T dJ0_checkIndex_df160_9 rfl
set_option maxHeartbeats 4000000 in
set_option maxRecDepth 100000 in
theorem c_J0_coder_7d493 (E : Ev) (ad : Nat → Nat) (σ : Sg) (s : Nat) (hs : s < 6) : Ct E ad yJ0_coder_7d493 cJ0_coder_7d493 1 (some .byte) 0 [.ref (ad (100 + s))] σ (fun r τ => τ = σ ∧ r = 0) := by
  have k_1 : (1 : Int32).toInt = 1 := by decide
  refine ct_of RJ0 rfl (by decide +kernel) [(0, .ref (ad (100 + s)))] rfl (Nat.le_of_ble_eq_true rfl) (fun G C T => ?_)
  refine r_gets C C.f.2.2.1 wf_J0_38 dJ0_coder_7d493_0 ?_
  refine r_if_eq C 13 dJ0_coder_7d493_3 (by decide) (fun c_1 => absurd c_1 (by decide)) (fun c_1 => ?_)
  refine r_aload_n C 0 dJ0_coder_7d493_6 rfl rfl ?_
  refine r_scod C (i := s) hs wf_J0_15 dJ0_coder_7d493_7 ?_
  refine r_goto C 14 dJ0_coder_7d493_10 (by decide) ?_
  exact r_xret C T dJ0_coder_7d493_14 (by decide) (⟨rfl, rfl⟩)
set_option maxHeartbeats 4000000 in
set_option maxRecDepth 100000 in
theorem c_J0_isLatin1_aae02 (E : Ev) (ad : Nat → Nat) (σ : Sg) (s : Nat) (hs : s < 6) : Ct E ad yJ0_isLatin1_aae02 cJ0_isLatin1_aae02 1 (some .boolean) 0 [.ref (ad (100 + s))] σ (fun r τ => τ = σ ∧ r.toInt = 1) := by
  have k_0 : (0 : Int32).toInt = 0 := by decide
  have k_1 : (1 : Int32).toInt = 1 := by decide
  refine ct_of RJ0 rfl (by decide +kernel) [(0, .ref (ad (100 + s)))] rfl (Nat.le_of_ble_eq_true rfl) (fun G C T => ?_)
  refine r_gets C C.f.2.2.1 wf_J0_38 dJ0_isLatin1_aae02_0 ?_
  refine r_if_eq C 17 dJ0_isLatin1_aae02_3 (by decide) (fun c_1 => absurd c_1 (by decide)) (fun c_1 => ?_)
  refine r_aload_n C 0 dJ0_isLatin1_aae02_6 rfl rfl ?_
  refine r_scod C (i := s) hs wf_J0_15 dJ0_isLatin1_aae02_7 ?_
  refine r_if_ne C 17 dJ0_isLatin1_aae02_10 (by decide) (fun c_2 => absurd c_2 (by decide)) (fun c_2 => ?_)
  refine r_iconst C (1) dJ0_isLatin1_aae02_13 (by decide) ?_
  refine r_goto C 18 dJ0_isLatin1_aae02_14 (by decide) ?_
  exact r_zret C T dJ0_isLatin1_aae02_18 (by omega) (⟨rfl, by omega⟩)
set_option maxHeartbeats 4000000 in
set_option maxRecDepth 100000 in
theorem c_J0_length_8abf5 (E : Ev) (ad : Nat → Nat) (σ : Sg) (s : Nat) (hs : s < 6) : Ct E ad yJ0_length_8abf5 cJ0_length_8abf5 1 (some .int) 1 [.ref (ad (100 + s))] σ (fun r τ => τ = σ ∧ r.toInt = (sl s : Int)) := by
  refine ct_of RJ0 rfl (by decide +kernel) [(0, .ref (ad (100 + s)))] rfl (Nat.le_of_ble_eq_true rfl) (fun G C T => ?_)
  refine r_aload_n C 0 dJ0_length_8abf5_0 rfl rfl ?_
  refine r_sval C (i := s) hs wf_J0_9 dJ0_length_8abf5_1 ?_
  refine r_tlen C (i := s) hs dJ0_length_8abf5_4 ?_
  refine r_aload_n C 0 dJ0_length_8abf5_5 rfl rfl ?_
  refine r_callT C (i := s) [] [.int (Int32.ofNat (slen.getD (s) 0))] hs (c_J0_coder_7d493 E ad σ (s)  hs ) lv_J0_335 rfl (by decide) (by decide) rfl rfl (Nat.le_of_ble_eq_true rfl) dJ0_length_8abf5_6 (fun r_1 τ_2 h_3 => ?_)
  obtain ⟨eh_3, h_3⟩ := h_3
  obtain rfl := eh_3.symm
  refine r_ishr C dJ0_length_8abf5_9 ?_
  refine r_nm (P := fun z => z = (Int32.ofNat (slen.getD (s) 0) : Int32) >>> ((r_1 : Int32) &&& 31)) rfl (fun z_4 hz_5 => ?_)
  exact r_iret C T dJ0_length_8abf5_10 (⟨rfl, by have := sl_le s hs; rw [hz_5, h_3]; unfold sl at this ⊢; rw [← ofN (n := slen.getD s 0) (by omega)]; congr 1; exact Int32.shiftRight_zero⟩)
set_option maxHeartbeats 4000000 in
set_option maxRecDepth 100000 in
theorem c_J1_charAt_3b067 (E : Ev) (ad : Nat → Nat) (σ : Sg) (s : Nat) (p : Int32) (hs : s < 6) (hp : 0 ≤ p.toInt ∧ p.toInt < (slen.getD s 0 : Nat)) : Ct E ad yJ1_charAt_3b067 cJ1_charAt_3b067 2 (some .char) 2 [.ref (ad (200 + s)), .int p] σ (fun r τ => τ = σ ∧ r = ch s p.toInt.toNat) := by
  have k_255 : (255 : Int32).toInt = 255 := by decide
  refine ct_of RJ1 rfl (by decide +kernel) [(0, .ref (ad (200 + s))), (1, .int (p))] rfl (Nat.le_of_ble_eq_true rfl) (fun G C T => ?_)
  refine r_iload_n C 1 dJ1_charAt_3b067_0 rfl rfl ?_
  refine r_aload_n C 0 dJ1_charAt_3b067_1 rfl rfl ?_
  refine r_tlen C (i := s) hs dJ1_charAt_3b067_2 ?_
  refine r_callSv C [.int (p), .int (Int32.ofNat (slen.getD (s) 0))] [] (c_J0_checkIndex_df160 E ad σ (p) (Int32.ofNat (slen.getD (s) 0)) (by rw [ofN (by have := sl_le s hs; unfold sl at this; omega)]; exact hp)) ls_J1_9 (by decide) (by decide) rfl rfl (Nat.le_of_ble_eq_true rfl) dJ1_charAt_3b067_3 (fun τ h => ?_)
  obtain rfl := h.symm
  refine r_aload_n C 0 dJ1_charAt_3b067_6 rfl rfl ?_
  refine r_iload_n C 1 dJ1_charAt_3b067_7 rfl rfl ?_
  refine r_tb C (i := s) hs (by exact hp) dJ1_charAt_3b067_8 ?_
  refine r_sipush C (255) dJ1_charAt_3b067_9 (by decide) ?_
  refine r_iand C dJ1_charAt_3b067_12 ?_
  refine r_nm (P := fun z => z = ((sbyt.getD (s) []).getD (p : Int32).toInt.toNat 0 : Int32) &&& (255)) rfl (fun z_1 hz_2 => ?_)
  refine r_i2c C dJ1_charAt_3b067_13 ?_
  refine r_nm (P := fun z => z = ((z_1 : Int32).toUInt32 % 65536).toInt32) rfl (fun z_3 hz_4 => ?_)
  exact r_xret C T dJ1_charAt_3b067_14 (by rw [hz_4, hz_2]; have e := ch_ok s hs p.toInt.toNat (by unfold sl; omega); unfold ch at e; rw [e]; exact ch_nar s hs _ (by unfold sl; omega)) (⟨rfl, by rw [hz_4, hz_2]; exact ch_ok s hs p.toInt.toNat (by unfold sl; omega)⟩)
set_option maxHeartbeats 4000000 in
set_option maxRecDepth 100000 in
theorem c_J0_charAt_5068e (E : Ev) (ad : Nat → Nat) (σ : Sg) (s : Nat) (p : Int32) (hs : s < 6) (hp : 0 ≤ p.toInt ∧ p.toInt < (sl s : Int)) : Ct E ad yJ0_charAt_5068e cJ0_charAt_5068e 2 (some .char) 3 [.ref (ad (100 + s)), .int p] σ (fun r τ => τ = σ ∧ r = ch s p.toInt.toNat) := by
  refine ct_of RJ0 rfl (by decide +kernel) [(0, .ref (ad (100 + s))), (1, .int (p))] rfl (Nat.le_of_ble_eq_true rfl) (fun G C T => ?_)
  refine r_aload_n C 0 dJ0_charAt_5068e_0 rfl rfl ?_
  refine r_callT C (i := s) [] [] hs (c_J0_isLatin1_aae02 E ad σ (s)  hs ) lv_J0_492 rfl (by decide) (by decide) rfl rfl (Nat.le_of_ble_eq_true rfl) dJ0_charAt_5068e_1 (fun r_1 τ_2 h_3 => ?_)
  obtain ⟨eh_3, h_3⟩ := h_3
  obtain rfl := eh_3.symm
  refine r_if_eq C 16 dJ0_charAt_5068e_4 (by decide) (fun c_4 => absurd c_4 (by omega)) (fun c_4 => ?_)
  refine r_aload_n C 0 dJ0_charAt_5068e_7 rfl rfl ?_
  refine r_sval C (i := s) hs wf_J0_9 dJ0_charAt_5068e_8 ?_
  refine r_iload_n C 1 dJ0_charAt_5068e_11 rfl rfl ?_
  refine r_callS C [.ref (ad (200 + s)), .int (p)] [] (c_J1_charAt_3b067 E ad σ  (s) (p) hs hp) ls_J0_495 (by decide) (by decide) rfl rfl (Nat.le_of_ble_eq_true rfl) dJ0_charAt_5068e_12 (fun r_5 τ_6 h_7 => ?_)
  obtain ⟨eh_7, h_7⟩ := h_7
  obtain rfl := eh_7.symm
  exact r_xret C T dJ0_charAt_5068e_15 (by rw [h_7]; exact ch_nar s hs _ (by omega)) (⟨rfl, h_7⟩)
set_option maxHeartbeats 4000000 in
set_option maxRecDepth 100000 in
theorem c_X7_isLetter (E : Ev) (ad : Nat → Nat) (σ : Sg) (p : Int32) (hl : (σ 27 1).toInt ≤ 60) (hp : 0 ≤ p.toInt) : Ct E ad yX7_isLetter cX7_isLetter 2 (some .boolean) 0 [.ref (ad 27), .int p] σ (fun r τ => τ = σ ∧ (r.toInt = 0 ∨ r.toInt = 1)) := by
  have k_0 : (0 : Int32).toInt = 0 := by decide
  have k_1 : (1 : Int32).toInt = 1 := by decide
  have k_97 : (97 : Int32).toInt = 97 := by decide
  have k_122 : (122 : Int32).toInt = 122 := by decide
  refine ct_of RX7 rfl (by decide +kernel) [(0, .ref (ad 27)), (1, .int (p))] rfl (Nat.le_of_ble_eq_true rfl) (fun G C T => ?_)
  refine r_iload_n C 1 dX7_isLetter_0 rfl rfl ?_
  refine r_aload_n C 0 dX7_isLetter_1 rfl rfl ?_
  refine r_get C (k := 27) (v := .int (σ 27 1)) f_X7_15 (by decide) rfl rfl dX7_isLetter_2 ?_
  refine r_icmp_ge C 34 dX7_isLetter_5 (by decide) (fun c_1 => ?_) (fun c_1 => ?_)
  · -- to 34
    refine r_iconst C (0) dX7_isLetter_34 (by decide) ?_
    exact r_zret C T dX7_isLetter_35 (by omega) (⟨rfl, by omega⟩)
  · -- to 8
    refine r_aload_n C 0 dX7_isLetter_8 rfl rfl ?_
    refine r_get C (k := 27) (v := .ref (ad 28)) f_X7_9 (by decide) rfl rfl dX7_isLetter_9 ?_
    refine r_iload_n C 1 dX7_isLetter_12 rfl rfl ?_
    refine r_iald C (k := 28) (by decide) rfl (by omega) (σ 28 ((p : Int32).toInt.toNat)) rfl dX7_isLetter_13 ?_
    refine r_bipush C (97) dX7_isLetter_14 (by decide) ?_
    refine r_icmp_lt C 34 dX7_isLetter_16 (by decide) (fun c_3 => ?_) (fun c_3 => ?_)
    · -- to 34
      refine r_iconst C (0) dX7_isLetter_34 (by decide) ?_
      exact r_zret C T dX7_isLetter_35 (by omega) (⟨rfl, by omega⟩)
    · -- to 19
      refine r_aload_n C 0 dX7_isLetter_19 rfl rfl ?_
      refine r_get C (k := 27) (v := .ref (ad 28)) f_X7_9 (by decide) rfl rfl dX7_isLetter_20 ?_
      refine r_iload_n C 1 dX7_isLetter_23 rfl rfl ?_
      refine r_iald C (k := 28) (by decide) rfl (by omega) (σ 28 ((p : Int32).toInt.toNat)) rfl dX7_isLetter_24 ?_
      refine r_bipush C (122) dX7_isLetter_25 (by decide) ?_
      refine r_icmp_gt C 34 dX7_isLetter_27 (by decide) (fun c_5 => ?_) (fun c_5 => ?_)
      · -- to 34
        refine r_iconst C (0) dX7_isLetter_34 (by decide) ?_
        exact r_zret C T dX7_isLetter_35 (by omega) (⟨rfl, by omega⟩)
      · -- to 30
        refine r_iconst C (1) dX7_isLetter_30 (by decide) ?_
        refine r_goto C 35 dX7_isLetter_31 (by decide) ?_
        exact r_zret C T dX7_isLetter_35 (by omega) (⟨rfl, by omega⟩)
set_option maxHeartbeats 4000000 in
set_option maxRecDepth 100000 in
theorem c_X7_isDigit (E : Ev) (ad : Nat → Nat) (σ : Sg) (p : Int32) (hl : (σ 27 1).toInt ≤ 60) (hp : 0 ≤ p.toInt) : Ct E ad yX7_isDigit cX7_isDigit 2 (some .boolean) 0 [.ref (ad 27), .int p] σ (fun r τ => τ = σ ∧ (r.toInt = 0 ∨ r.toInt = 1)) := by
  have k_0 : (0 : Int32).toInt = 0 := by decide
  have k_1 : (1 : Int32).toInt = 1 := by decide
  have k_48 : (48 : Int32).toInt = 48 := by decide
  have k_57 : (57 : Int32).toInt = 57 := by decide
  refine ct_of RX7 rfl (by decide +kernel) [(0, .ref (ad 27)), (1, .int (p))] rfl (Nat.le_of_ble_eq_true rfl) (fun G C T => ?_)
  refine r_iload_n C 1 dX7_isDigit_0 rfl rfl ?_
  refine r_aload_n C 0 dX7_isDigit_1 rfl rfl ?_
  refine r_get C (k := 27) (v := .int (σ 27 1)) f_X7_15 (by decide) rfl rfl dX7_isDigit_2 ?_
  refine r_icmp_ge C 34 dX7_isDigit_5 (by decide) (fun c_1 => ?_) (fun c_1 => ?_)
  · -- to 34
    refine r_iconst C (0) dX7_isDigit_34 (by decide) ?_
    exact r_zret C T dX7_isDigit_35 (by omega) (⟨rfl, by omega⟩)
  · -- to 8
    refine r_aload_n C 0 dX7_isDigit_8 rfl rfl ?_
    refine r_get C (k := 27) (v := .ref (ad 28)) f_X7_9 (by decide) rfl rfl dX7_isDigit_9 ?_
    refine r_iload_n C 1 dX7_isDigit_12 rfl rfl ?_
    refine r_iald C (k := 28) (by decide) rfl (by omega) (σ 28 ((p : Int32).toInt.toNat)) rfl dX7_isDigit_13 ?_
    refine r_bipush C (48) dX7_isDigit_14 (by decide) ?_
    refine r_icmp_lt C 34 dX7_isDigit_16 (by decide) (fun c_3 => ?_) (fun c_3 => ?_)
    · -- to 34
      refine r_iconst C (0) dX7_isDigit_34 (by decide) ?_
      exact r_zret C T dX7_isDigit_35 (by omega) (⟨rfl, by omega⟩)
    · -- to 19
      refine r_aload_n C 0 dX7_isDigit_19 rfl rfl ?_
      refine r_get C (k := 27) (v := .ref (ad 28)) f_X7_9 (by decide) rfl rfl dX7_isDigit_20 ?_
      refine r_iload_n C 1 dX7_isDigit_23 rfl rfl ?_
      refine r_iald C (k := 28) (by decide) rfl (by omega) (σ 28 ((p : Int32).toInt.toNat)) rfl dX7_isDigit_24 ?_
      refine r_bipush C (57) dX7_isDigit_25 (by decide) ?_
      refine r_icmp_gt C 34 dX7_isDigit_27 (by decide) (fun c_5 => ?_) (fun c_5 => ?_)
      · -- to 34
        refine r_iconst C (0) dX7_isDigit_34 (by decide) ?_
        exact r_zret C T dX7_isDigit_35 (by omega) (⟨rfl, by omega⟩)
      · -- to 30
        refine r_iconst C (1) dX7_isDigit_30 (by decide) ?_
        refine r_goto C 35 dX7_isDigit_31 (by decide) ?_
        exact r_zret C T dX7_isDigit_35 (by omega) (⟨rfl, by omega⟩)
set_option maxHeartbeats 4000000 in
set_option maxRecDepth 100000 in
theorem c_X7_isParted (E : Ev) (ad : Nat → Nat) (σ : Sg)  (hf : 0 ≤ (σ 27 6).toInt ∧ (σ 27 6).toInt ≤ 60) : Ct E ad yX7_isParted cX7_isParted 1 (some .boolean) 0 [.ref (ad 27)] σ (fun r τ => τ = σ ∧ (r.toInt = 0 ∨ r.toInt = 1) ∧ ((σ 27 6).toInt = 0 → r.toInt = 1)) := by
  have k_0 : (0 : Int32).toInt = 0 := by decide
  have k_1 : (1 : Int32).toInt = 1 := by decide
  have k_32 : (32 : Int32).toInt = 32 := by decide
  refine ct_of RX7 rfl (by decide +kernel) [(0, .ref (ad 27))] rfl (Nat.le_of_ble_eq_true rfl) (fun G C T => ?_)
  refine r_aload_n C 0 dX7_isParted_0 rfl rfl ?_
  refine r_get C (k := 27) (v := .int (σ 27 6)) f_X7_31 (by decide) rfl rfl dX7_isParted_1 ?_
  refine r_if_eq C 23 dX7_isParted_4 (by decide) (fun c_1 => ?_) (fun c_1 => ?_)
  · -- to 23
    refine r_iconst C (1) dX7_isParted_23 (by decide) ?_
    refine r_goto C 28 dX7_isParted_24 (by decide) ?_
    exact r_zret C T dX7_isParted_28 (by omega) (⟨rfl, by omega, by omega⟩)
  · -- to 7
    refine r_aload_n C 0 dX7_isParted_7 rfl rfl ?_
    refine r_get C (k := 27) (v := .ref (ad 28)) f_X7_9 (by decide) rfl rfl dX7_isParted_8 ?_
    refine r_aload_n C 0 dX7_isParted_11 rfl rfl ?_
    refine r_get C (k := 27) (v := .int (σ 27 6)) f_X7_31 (by decide) rfl rfl dX7_isParted_12 ?_
    refine r_iconst C (1) dX7_isParted_15 (by decide) ?_
    refine r_isub C dX7_isParted_16 ?_
    refine r_nm (P := fun z => z.toInt = (σ 27 6 : Int32).toInt - (1 : Int32).toInt ∧ z = (σ 27 6) - (1)) ⟨ta_sub (by omega), rfl⟩ (fun z_2 hz_3 => ?_)
    refine r_iald C (k := 28) (by decide) rfl (by omega) (σ 28 ((z_2 : Int32).toInt.toNat)) rfl dX7_isParted_17 ?_
    refine r_bipush C (32) dX7_isParted_18 (by decide) ?_
    refine r_icmp_ne C 27 dX7_isParted_20 (by decide) (fun c_5 => ?_) (fun c_5 => ?_)
    · -- to 27
      refine r_iconst C (0) dX7_isParted_27 (by decide) ?_
      exact r_zret C T dX7_isParted_28 (by omega) (⟨rfl, by omega, by omega⟩)
    · -- to 23
      refine r_iconst C (1) dX7_isParted_23 (by decide) ?_
      refine r_goto C 28 dX7_isParted_24 (by decide) ?_
      exact r_zret C T dX7_isParted_28 (by omega) (⟨rfl, by omega, by omega⟩)
set_option maxHeartbeats 4000000 in
set_option maxRecDepth 100000 in
theorem c_X7_blame (E : Ev) (ad : Nat → Nat) (σ : Sg)   : CtV E ad yX7_blame cX7_blame 1 0 [.ref (ad 27)] σ (fun τ => Off [27] σ τ ∧ (τ 27 2).toInt = (σ 27 2).toInt ∧ (τ 27 1).toInt = (σ 27 1).toInt ∧ (τ 27 7).toInt = (σ 27 7).toInt ∧ ((σ 27 8).toInt = -3 → (τ 27 8).toInt = (σ 27 6).toInt) ∧ ((σ 27 8).toInt ≠ -3 → (τ 27 8).toInt = (σ 27 8).toInt)) := by
  have k_m3 : (-3 : Int32).toInt = -3 := by decide
  refine ctv_of RX7 rfl (by decide +kernel) [(0, .ref (ad 27))] rfl (Nat.le_of_ble_eq_true rfl) (fun G C T => ?_)
  refine r_aload_n C 0 dX7_blame_0 rfl rfl ?_
  refine r_get C (k := 27) (v := .int (σ 27 8)) f_X7_37 (by decide) rfl rfl dX7_blame_1 ?_
  refine r_bipush C (-3) dX7_blame_4 (by decide) ?_
  refine r_icmp_ne C 17 dX7_blame_6 (by decide) (fun c_1 => ?_) (fun c_1 => ?_)
  · -- to 17
    exact r_vret C T dX7_blame_17 (⟨Off.rf, rfl, rfl, rfl, fun h => absurd h (by omega), fun _ => rfl⟩)
  · -- to 9
    have tt := k_m3
    refine r_aload_n C 0 dX7_blame_9 rfl rfl ?_
    refine r_aload_n C 0 dX7_blame_10 rfl rfl ?_
    refine r_get C (k := 27) (v := .int (σ 27 6)) f_X7_31 (by decide) rfl rfl dX7_blame_11 ?_
    refine r_put C (k := 27) pf_X7_37 (by decide) (fun _ => rfl) (fun _ => Nat.le_of_ble_eq_true rfl) (fun _ _ => rfl) dX7_blame_14 ?_
    exact r_vret C T dX7_blame_17 (⟨Off.rf.up (by decide), rfl, rfl, rfl, fun _ => rfl, fun h => absurd h (by omega)⟩)
set_option maxHeartbeats 4000000 in
set_option maxRecDepth 100000 in
theorem c_X7_findPiece (E : Ev) (ad : Nat → Nat) (σ : Sg)  (he : 0 ≤ (σ 27 7).toInt ∧ (σ 27 7).toInt ≤ (σ 27 1).toInt ∧ (σ 27 1).toInt ≤ 60) : CtV E ad yX7_findPiece cX7_findPiece 2 1 [.ref (ad 27)] σ (fun τ => Off [27] σ τ ∧ (τ 27 1).toInt = (σ 27 1).toInt ∧ (τ 27 8).toInt = (σ 27 8).toInt ∧ (τ 27 2).toInt = (σ 27 2).toInt ∧ 0 ≤ (τ 27 6).toInt ∧ (τ 27 6).toInt ≤ (τ 27 7).toInt ∧ (τ 27 7).toInt ≤ (σ 27 1).toInt) := by
  have k_32 : (32 : Int32).toInt = 32 := by decide
  refine ctv_of RX7 rfl (by decide +kernel) [(0, .ref (ad 27))] rfl (Nat.le_of_ble_eq_true rfl) (fun G C T => ?_)
  refine r_aload_n C 0 dX7_findPiece_0 rfl rfl ?_
  refine r_get C (k := 27) (v := .int (σ 27 7)) f_X7_34 (by decide) rfl rfl dX7_findPiece_1 ?_
  refine r_istore_n C [(1, .int (σ 27 7)), (0, .ref (ad 27))] dX7_findPiece_4 rfl (by decide) rfl ?_
  have L_5 : ∀ (n : Nat), ∀ (f : Int32), (0 ≤ f.toInt ∧ f.toInt ≤ (σ 27 1).toInt) → 61 - f.toInt < (n : Int) → At E ad G 2 5 [(1, .int (f)), (0, .ref (ad 27))] [] σ := by
    intro n
    induction n with
    | zero =>
      intro f hf hm
      exact absurd hm (by omega)
    | succ n ih =>
      intro f hf hm
      have ih_5 := ih
      clear ih
      refine r_iload_n C 0 dX7_findPiece_5 rfl rfl ?_
      refine r_aload_n C 1 dX7_findPiece_6 rfl rfl ?_
      refine r_get C (k := 27) (v := .int (σ 27 1)) f_X7_15 (by decide) rfl rfl dX7_findPiece_7 ?_
      refine r_icmp_ge C 30 dX7_findPiece_10 (by decide) (fun c_1 => ?_) (fun c_1 => ?_)
      · -- to 30
        refine r_aload_n C 1 dX7_findPiece_30 rfl rfl ?_
        refine r_iload_n C 0 dX7_findPiece_31 rfl rfl ?_
        refine r_put C (k := 27) pf_X7_31 (by decide) (fun _ => rfl) (fun _ => Nat.le_of_ble_eq_true rfl) (fun _ _ => rfl) dX7_findPiece_32 ?_
        refine r_aload_n C 1 dX7_findPiece_35 rfl rfl ?_
        refine r_iload_n C 0 dX7_findPiece_36 rfl rfl ?_
        refine r_callV C (k := 27) [.int (f)] [] (c_X7_isLetter E ad (sUp σ 27 6 (f))  (f) (by show (σ 27 1).toInt ≤ 60; omega) (by omega)) lv_X7_85 (by decide) rfl rfl (by decide) (by decide) rfl rfl (Nat.le_of_ble_eq_true rfl) dX7_findPiece_37 (fun r_2 τ_3 h_4 => ?_)
        obtain ⟨eh_4, h_4⟩ := h_4
        obtain rfl := eh_4.symm
        refine r_if_eq C 65 dX7_findPiece_40 (by decide) (fun c_5 => ?_) (fun c_5 => ?_)
        · -- to 65
          refine r_aload_n C 1 dX7_findPiece_65 rfl rfl ?_
          refine r_iload_n C 0 dX7_findPiece_66 rfl rfl ?_
          refine r_callV C (k := 27) [.int (f)] [] (c_X7_isDigit E ad (sUp σ 27 6 (f))  (f) (by show (σ 27 1).toInt ≤ 60; omega) (by omega)) lv_X7_89 (by decide) rfl rfl (by decide) (by decide) rfl rfl (Nat.le_of_ble_eq_true rfl) dX7_findPiece_67 (fun r_6 τ_7 h_8 => ?_)
          obtain ⟨eh_8, h_8⟩ := h_8
          obtain rfl := eh_8.symm
          refine r_if_eq C 95 dX7_findPiece_70 (by decide) (fun c_9 => ?_) (fun c_9 => ?_)
          · -- to 95
            refine r_iload_n C 0 dX7_findPiece_95 rfl rfl ?_
            refine r_aload_n C 1 dX7_findPiece_96 rfl rfl ?_
            refine r_get C (k := 27) (v := .int (σ 27 1)) f_X7_15 (by decide) rfl rfl dX7_findPiece_97 ?_
            refine r_icmp_ge C 106 dX7_findPiece_100 (by decide) (fun c_10 => ?_) (fun c_10 => ?_)
            · -- to 106
              refine r_aload_n C 1 dX7_findPiece_106 rfl rfl ?_
              refine r_iload_n C 0 dX7_findPiece_107 rfl rfl ?_
              refine r_put C (k := 27) pf_X7_34 (by decide) (fun _ => rfl) (fun _ => Nat.le_of_ble_eq_true rfl) (fun _ _ => rfl) dX7_findPiece_108 ?_
              exact r_vret C T dX7_findPiece_111 (⟨(Off.rf.up (by decide)).up (by decide), rfl, rfl, rfl, (show 0 ≤ f.toInt by omega), (show f.toInt ≤ (f : Int32).toInt by omega), (show (f : Int32).toInt ≤ (σ 27 1).toInt by omega)⟩)
            · -- to 103
              refine r_iinc C 0 (fun z => [(1, .int (z)), (0, .ref (ad 27))]) dX7_findPiece_103 rfl (by decide) (by decide) (by omega) (fun _ => rfl) (fun z_11 hz_12 => ?_)
              refine r_aload_n C 1 dX7_findPiece_106 rfl rfl ?_
              refine r_iload_n C 0 dX7_findPiece_107 rfl rfl ?_
              refine r_put C (k := 27) pf_X7_34 (by decide) (fun _ => rfl) (fun _ => Nat.le_of_ble_eq_true rfl) (fun _ _ => rfl) dX7_findPiece_108 ?_
              exact r_vret C T dX7_findPiece_111 (⟨(Off.rf.up (by decide)).up (by decide), rfl, rfl, rfl, (show 0 ≤ f.toInt by omega), (show f.toInt ≤ (z_11 : Int32).toInt by omega), (show (z_11 : Int32).toInt ≤ (σ 27 1).toInt by omega)⟩)
          · -- to 73
            have L_73 : ∀ (n : Nat), ∀ (a : Int32), (f.toInt ≤ a.toInt ∧ a.toInt ≤ (σ 27 1).toInt) → 61 - a.toInt < (n : Int) → At E ad G 2 73 [(1, .int (a)), (0, .ref (ad 27))] [] (sUp σ 27 6 (f)) := by
              intro n
              induction n with
              | zero =>
                intro a ha hm
                exact absurd hm (by omega)
              | succ n ih =>
                intro a ha hm
                have ih_73 := ih
                clear ih
                refine r_iload_n C 0 dX7_findPiece_73 rfl rfl ?_
                refine r_aload_n C 1 dX7_findPiece_74 rfl rfl ?_
                refine r_get C (k := 27) (v := .int (σ 27 1)) f_X7_15 (by decide) rfl rfl dX7_findPiece_75 ?_
                refine r_icmp_ge C 106 dX7_findPiece_78 (by decide) (fun c_13 => ?_) (fun c_13 => ?_)
                · -- to 106
                  refine r_aload_n C 1 dX7_findPiece_106 rfl rfl ?_
                  refine r_iload_n C 0 dX7_findPiece_107 rfl rfl ?_
                  refine r_put C (k := 27) pf_X7_34 (by decide) (fun _ => rfl) (fun _ => Nat.le_of_ble_eq_true rfl) (fun _ _ => rfl) dX7_findPiece_108 ?_
                  exact r_vret C T dX7_findPiece_111 (⟨(Off.rf.up (by decide)).up (by decide), rfl, rfl, rfl, (show 0 ≤ f.toInt by omega), (show f.toInt ≤ (a : Int32).toInt by omega), (show (a : Int32).toInt ≤ (σ 27 1).toInt by omega)⟩)
                · -- to 81
                  refine r_aload_n C 1 dX7_findPiece_81 rfl rfl ?_
                  refine r_iload_n C 0 dX7_findPiece_82 rfl rfl ?_
                  refine r_callV C (k := 27) [.int (a)] [] (c_X7_isDigit E ad (sUp σ 27 6 (f))  (a) (by show (σ 27 1).toInt ≤ 60; omega) (by omega)) lv_X7_89 (by decide) rfl rfl (by decide) (by decide) rfl rfl (Nat.le_of_ble_eq_true rfl) dX7_findPiece_83 (fun r_14 τ_15 h_16 => ?_)
                  obtain ⟨eh_16, h_16⟩ := h_16
                  obtain rfl := eh_16.symm
                  refine r_if_eq C 106 dX7_findPiece_86 (by decide) (fun c_17 => ?_) (fun c_17 => ?_)
                  · -- to 106
                    refine r_aload_n C 1 dX7_findPiece_106 rfl rfl ?_
                    refine r_iload_n C 0 dX7_findPiece_107 rfl rfl ?_
                    refine r_put C (k := 27) pf_X7_34 (by decide) (fun _ => rfl) (fun _ => Nat.le_of_ble_eq_true rfl) (fun _ _ => rfl) dX7_findPiece_108 ?_
                    exact r_vret C T dX7_findPiece_111 (⟨(Off.rf.up (by decide)).up (by decide), rfl, rfl, rfl, (show 0 ≤ f.toInt by omega), (show f.toInt ≤ (a : Int32).toInt by omega), (show (a : Int32).toInt ≤ (σ 27 1).toInt by omega)⟩)
                  · -- to 89
                    refine r_iinc C 0 (fun z => [(1, .int (z)), (0, .ref (ad 27))]) dX7_findPiece_89 rfl (by decide) (by decide) (by omega) (fun _ => rfl) (fun z_18 hz_19 => ?_)
                    refine r_goto C 73 dX7_findPiece_92 (by decide) ?_
                    exact At.sub [0, 1] rfl (ih_73 (z_18 : Int32) (by omega) (by omega))
            exact At.sub [0, 1] rfl (L_73 ((61 - (f : Int32).toInt).toNat + 1) (f : Int32) (by omega) (by omega))
        · -- to 43
          have L_43 : ∀ (n : Nat), ∀ (a : Int32), (f.toInt ≤ a.toInt ∧ a.toInt ≤ (σ 27 1).toInt) → 61 - a.toInt < (n : Int) → At E ad G 2 43 [(1, .int (a)), (0, .ref (ad 27))] [] (sUp σ 27 6 (f)) := by
            intro n
            induction n with
            | zero =>
              intro a ha hm
              exact absurd hm (by omega)
            | succ n ih =>
              intro a ha hm
              have ih_43 := ih
              clear ih
              refine r_iload_n C 0 dX7_findPiece_43 rfl rfl ?_
              refine r_aload_n C 1 dX7_findPiece_44 rfl rfl ?_
              refine r_get C (k := 27) (v := .int (σ 27 1)) f_X7_15 (by decide) rfl rfl dX7_findPiece_45 ?_
              refine r_icmp_ge C 106 dX7_findPiece_48 (by decide) (fun c_20 => ?_) (fun c_20 => ?_)
              · -- to 106
                refine r_aload_n C 1 dX7_findPiece_106 rfl rfl ?_
                refine r_iload_n C 0 dX7_findPiece_107 rfl rfl ?_
                refine r_put C (k := 27) pf_X7_34 (by decide) (fun _ => rfl) (fun _ => Nat.le_of_ble_eq_true rfl) (fun _ _ => rfl) dX7_findPiece_108 ?_
                exact r_vret C T dX7_findPiece_111 (⟨(Off.rf.up (by decide)).up (by decide), rfl, rfl, rfl, (show 0 ≤ f.toInt by omega), (show f.toInt ≤ (a : Int32).toInt by omega), (show (a : Int32).toInt ≤ (σ 27 1).toInt by omega)⟩)
              · -- to 51
                refine r_aload_n C 1 dX7_findPiece_51 rfl rfl ?_
                refine r_iload_n C 0 dX7_findPiece_52 rfl rfl ?_
                refine r_callV C (k := 27) [.int (a)] [] (c_X7_isLetter E ad (sUp σ 27 6 (f))  (a) (by show (σ 27 1).toInt ≤ 60; omega) (by omega)) lv_X7_85 (by decide) rfl rfl (by decide) (by decide) rfl rfl (Nat.le_of_ble_eq_true rfl) dX7_findPiece_53 (fun r_21 τ_22 h_23 => ?_)
                obtain ⟨eh_23, h_23⟩ := h_23
                obtain rfl := eh_23.symm
                refine r_if_eq C 106 dX7_findPiece_56 (by decide) (fun c_24 => ?_) (fun c_24 => ?_)
                · -- to 106
                  refine r_aload_n C 1 dX7_findPiece_106 rfl rfl ?_
                  refine r_iload_n C 0 dX7_findPiece_107 rfl rfl ?_
                  refine r_put C (k := 27) pf_X7_34 (by decide) (fun _ => rfl) (fun _ => Nat.le_of_ble_eq_true rfl) (fun _ _ => rfl) dX7_findPiece_108 ?_
                  exact r_vret C T dX7_findPiece_111 (⟨(Off.rf.up (by decide)).up (by decide), rfl, rfl, rfl, (show 0 ≤ f.toInt by omega), (show f.toInt ≤ (a : Int32).toInt by omega), (show (a : Int32).toInt ≤ (σ 27 1).toInt by omega)⟩)
                · -- to 59
                  refine r_iinc C 0 (fun z => [(1, .int (z)), (0, .ref (ad 27))]) dX7_findPiece_59 rfl (by decide) (by decide) (by omega) (fun _ => rfl) (fun z_25 hz_26 => ?_)
                  refine r_goto C 43 dX7_findPiece_62 (by decide) ?_
                  exact At.sub [0, 1] rfl (ih_43 (z_25 : Int32) (by omega) (by omega))
          exact At.sub [0, 1] rfl (L_43 ((61 - (f : Int32).toInt).toNat + 1) (f : Int32) (by omega) (by omega))
      · -- to 13
        refine r_aload_n C 1 dX7_findPiece_13 rfl rfl ?_
        refine r_get C (k := 27) (v := .ref (ad 28)) f_X7_9 (by decide) rfl rfl dX7_findPiece_14 ?_
        refine r_iload_n C 0 dX7_findPiece_17 rfl rfl ?_
        refine r_iald C (k := 28) (by decide) rfl (by omega) (σ 28 ((f : Int32).toInt.toNat)) rfl dX7_findPiece_18 ?_
        refine r_bipush C (32) dX7_findPiece_19 (by decide) ?_
        refine r_icmp_ne C 30 dX7_findPiece_21 (by decide) (fun c_28 => ?_) (fun c_28 => ?_)
        · -- to 30
          refine r_aload_n C 1 dX7_findPiece_30 rfl rfl ?_
          refine r_iload_n C 0 dX7_findPiece_31 rfl rfl ?_
          refine r_put C (k := 27) pf_X7_31 (by decide) (fun _ => rfl) (fun _ => Nat.le_of_ble_eq_true rfl) (fun _ _ => rfl) dX7_findPiece_32 ?_
          refine r_aload_n C 1 dX7_findPiece_35 rfl rfl ?_
          refine r_iload_n C 0 dX7_findPiece_36 rfl rfl ?_
          refine r_callV C (k := 27) [.int (f)] [] (c_X7_isLetter E ad (sUp σ 27 6 (f))  (f) (by show (σ 27 1).toInt ≤ 60; omega) (by omega)) lv_X7_85 (by decide) rfl rfl (by decide) (by decide) rfl rfl (Nat.le_of_ble_eq_true rfl) dX7_findPiece_37 (fun r_29 τ_30 h_31 => ?_)
          obtain ⟨eh_31, h_31⟩ := h_31
          obtain rfl := eh_31.symm
          refine r_if_eq C 65 dX7_findPiece_40 (by decide) (fun c_32 => ?_) (fun c_32 => ?_)
          · -- to 65
            refine r_aload_n C 1 dX7_findPiece_65 rfl rfl ?_
            refine r_iload_n C 0 dX7_findPiece_66 rfl rfl ?_
            refine r_callV C (k := 27) [.int (f)] [] (c_X7_isDigit E ad (sUp σ 27 6 (f))  (f) (by show (σ 27 1).toInt ≤ 60; omega) (by omega)) lv_X7_89 (by decide) rfl rfl (by decide) (by decide) rfl rfl (Nat.le_of_ble_eq_true rfl) dX7_findPiece_67 (fun r_33 τ_34 h_35 => ?_)
            obtain ⟨eh_35, h_35⟩ := h_35
            obtain rfl := eh_35.symm
            refine r_if_eq C 95 dX7_findPiece_70 (by decide) (fun c_36 => ?_) (fun c_36 => ?_)
            · -- to 95
              refine r_iload_n C 0 dX7_findPiece_95 rfl rfl ?_
              refine r_aload_n C 1 dX7_findPiece_96 rfl rfl ?_
              refine r_get C (k := 27) (v := .int (σ 27 1)) f_X7_15 (by decide) rfl rfl dX7_findPiece_97 ?_
              refine r_icmp_ge C 106 dX7_findPiece_100 (by decide) (fun c_37 => ?_) (fun c_37 => ?_)
              · -- to 106
                refine r_aload_n C 1 dX7_findPiece_106 rfl rfl ?_
                refine r_iload_n C 0 dX7_findPiece_107 rfl rfl ?_
                refine r_put C (k := 27) pf_X7_34 (by decide) (fun _ => rfl) (fun _ => Nat.le_of_ble_eq_true rfl) (fun _ _ => rfl) dX7_findPiece_108 ?_
                exact r_vret C T dX7_findPiece_111 (⟨(Off.rf.up (by decide)).up (by decide), rfl, rfl, rfl, (show 0 ≤ f.toInt by omega), (show f.toInt ≤ (f : Int32).toInt by omega), (show (f : Int32).toInt ≤ (σ 27 1).toInt by omega)⟩)
              · -- to 103
                refine r_iinc C 0 (fun z => [(1, .int (z)), (0, .ref (ad 27))]) dX7_findPiece_103 rfl (by decide) (by decide) (by omega) (fun _ => rfl) (fun z_38 hz_39 => ?_)
                refine r_aload_n C 1 dX7_findPiece_106 rfl rfl ?_
                refine r_iload_n C 0 dX7_findPiece_107 rfl rfl ?_
                refine r_put C (k := 27) pf_X7_34 (by decide) (fun _ => rfl) (fun _ => Nat.le_of_ble_eq_true rfl) (fun _ _ => rfl) dX7_findPiece_108 ?_
                exact r_vret C T dX7_findPiece_111 (⟨(Off.rf.up (by decide)).up (by decide), rfl, rfl, rfl, (show 0 ≤ f.toInt by omega), (show f.toInt ≤ (z_38 : Int32).toInt by omega), (show (z_38 : Int32).toInt ≤ (σ 27 1).toInt by omega)⟩)
            · -- to 73
              have L_73 : ∀ (n : Nat), ∀ (a : Int32), (f.toInt ≤ a.toInt ∧ a.toInt ≤ (σ 27 1).toInt) → 61 - a.toInt < (n : Int) → At E ad G 2 73 [(1, .int (a)), (0, .ref (ad 27))] [] (sUp σ 27 6 (f)) := by
                intro n
                induction n with
                | zero =>
                  intro a ha hm
                  exact absurd hm (by omega)
                | succ n ih =>
                  intro a ha hm
                  have ih_73 := ih
                  clear ih
                  refine r_iload_n C 0 dX7_findPiece_73 rfl rfl ?_
                  refine r_aload_n C 1 dX7_findPiece_74 rfl rfl ?_
                  refine r_get C (k := 27) (v := .int (σ 27 1)) f_X7_15 (by decide) rfl rfl dX7_findPiece_75 ?_
                  refine r_icmp_ge C 106 dX7_findPiece_78 (by decide) (fun c_40 => ?_) (fun c_40 => ?_)
                  · -- to 106
                    refine r_aload_n C 1 dX7_findPiece_106 rfl rfl ?_
                    refine r_iload_n C 0 dX7_findPiece_107 rfl rfl ?_
                    refine r_put C (k := 27) pf_X7_34 (by decide) (fun _ => rfl) (fun _ => Nat.le_of_ble_eq_true rfl) (fun _ _ => rfl) dX7_findPiece_108 ?_
                    exact r_vret C T dX7_findPiece_111 (⟨(Off.rf.up (by decide)).up (by decide), rfl, rfl, rfl, (show 0 ≤ f.toInt by omega), (show f.toInt ≤ (a : Int32).toInt by omega), (show (a : Int32).toInt ≤ (σ 27 1).toInt by omega)⟩)
                  · -- to 81
                    refine r_aload_n C 1 dX7_findPiece_81 rfl rfl ?_
                    refine r_iload_n C 0 dX7_findPiece_82 rfl rfl ?_
                    refine r_callV C (k := 27) [.int (a)] [] (c_X7_isDigit E ad (sUp σ 27 6 (f))  (a) (by show (σ 27 1).toInt ≤ 60; omega) (by omega)) lv_X7_89 (by decide) rfl rfl (by decide) (by decide) rfl rfl (Nat.le_of_ble_eq_true rfl) dX7_findPiece_83 (fun r_41 τ_42 h_43 => ?_)
                    obtain ⟨eh_43, h_43⟩ := h_43
                    obtain rfl := eh_43.symm
                    refine r_if_eq C 106 dX7_findPiece_86 (by decide) (fun c_44 => ?_) (fun c_44 => ?_)
                    · -- to 106
                      refine r_aload_n C 1 dX7_findPiece_106 rfl rfl ?_
                      refine r_iload_n C 0 dX7_findPiece_107 rfl rfl ?_
                      refine r_put C (k := 27) pf_X7_34 (by decide) (fun _ => rfl) (fun _ => Nat.le_of_ble_eq_true rfl) (fun _ _ => rfl) dX7_findPiece_108 ?_
                      exact r_vret C T dX7_findPiece_111 (⟨(Off.rf.up (by decide)).up (by decide), rfl, rfl, rfl, (show 0 ≤ f.toInt by omega), (show f.toInt ≤ (a : Int32).toInt by omega), (show (a : Int32).toInt ≤ (σ 27 1).toInt by omega)⟩)
                    · -- to 89
                      refine r_iinc C 0 (fun z => [(1, .int (z)), (0, .ref (ad 27))]) dX7_findPiece_89 rfl (by decide) (by decide) (by omega) (fun _ => rfl) (fun z_45 hz_46 => ?_)
                      refine r_goto C 73 dX7_findPiece_92 (by decide) ?_
                      exact At.sub [0, 1] rfl (ih_73 (z_45 : Int32) (by omega) (by omega))
              exact At.sub [0, 1] rfl (L_73 ((61 - (f : Int32).toInt).toNat + 1) (f : Int32) (by omega) (by omega))
          · -- to 43
            have L_43 : ∀ (n : Nat), ∀ (a : Int32), (f.toInt ≤ a.toInt ∧ a.toInt ≤ (σ 27 1).toInt) → 61 - a.toInt < (n : Int) → At E ad G 2 43 [(1, .int (a)), (0, .ref (ad 27))] [] (sUp σ 27 6 (f)) := by
              intro n
              induction n with
              | zero =>
                intro a ha hm
                exact absurd hm (by omega)
              | succ n ih =>
                intro a ha hm
                have ih_43 := ih
                clear ih
                refine r_iload_n C 0 dX7_findPiece_43 rfl rfl ?_
                refine r_aload_n C 1 dX7_findPiece_44 rfl rfl ?_
                refine r_get C (k := 27) (v := .int (σ 27 1)) f_X7_15 (by decide) rfl rfl dX7_findPiece_45 ?_
                refine r_icmp_ge C 106 dX7_findPiece_48 (by decide) (fun c_47 => ?_) (fun c_47 => ?_)
                · -- to 106
                  refine r_aload_n C 1 dX7_findPiece_106 rfl rfl ?_
                  refine r_iload_n C 0 dX7_findPiece_107 rfl rfl ?_
                  refine r_put C (k := 27) pf_X7_34 (by decide) (fun _ => rfl) (fun _ => Nat.le_of_ble_eq_true rfl) (fun _ _ => rfl) dX7_findPiece_108 ?_
                  exact r_vret C T dX7_findPiece_111 (⟨(Off.rf.up (by decide)).up (by decide), rfl, rfl, rfl, (show 0 ≤ f.toInt by omega), (show f.toInt ≤ (a : Int32).toInt by omega), (show (a : Int32).toInt ≤ (σ 27 1).toInt by omega)⟩)
                · -- to 51
                  refine r_aload_n C 1 dX7_findPiece_51 rfl rfl ?_
                  refine r_iload_n C 0 dX7_findPiece_52 rfl rfl ?_
                  refine r_callV C (k := 27) [.int (a)] [] (c_X7_isLetter E ad (sUp σ 27 6 (f))  (a) (by show (σ 27 1).toInt ≤ 60; omega) (by omega)) lv_X7_85 (by decide) rfl rfl (by decide) (by decide) rfl rfl (Nat.le_of_ble_eq_true rfl) dX7_findPiece_53 (fun r_48 τ_49 h_50 => ?_)
                  obtain ⟨eh_50, h_50⟩ := h_50
                  obtain rfl := eh_50.symm
                  refine r_if_eq C 106 dX7_findPiece_56 (by decide) (fun c_51 => ?_) (fun c_51 => ?_)
                  · -- to 106
                    refine r_aload_n C 1 dX7_findPiece_106 rfl rfl ?_
                    refine r_iload_n C 0 dX7_findPiece_107 rfl rfl ?_
                    refine r_put C (k := 27) pf_X7_34 (by decide) (fun _ => rfl) (fun _ => Nat.le_of_ble_eq_true rfl) (fun _ _ => rfl) dX7_findPiece_108 ?_
                    exact r_vret C T dX7_findPiece_111 (⟨(Off.rf.up (by decide)).up (by decide), rfl, rfl, rfl, (show 0 ≤ f.toInt by omega), (show f.toInt ≤ (a : Int32).toInt by omega), (show (a : Int32).toInt ≤ (σ 27 1).toInt by omega)⟩)
                  · -- to 59
                    refine r_iinc C 0 (fun z => [(1, .int (z)), (0, .ref (ad 27))]) dX7_findPiece_59 rfl (by decide) (by decide) (by omega) (fun _ => rfl) (fun z_52 hz_53 => ?_)
                    refine r_goto C 43 dX7_findPiece_62 (by decide) ?_
                    exact At.sub [0, 1] rfl (ih_43 (z_52 : Int32) (by omega) (by omega))
            exact At.sub [0, 1] rfl (L_43 ((61 - (f : Int32).toInt).toNat + 1) (f : Int32) (by omega) (by omega))
        · -- to 24
          refine r_iinc C 0 (fun z => [(1, .int (z)), (0, .ref (ad 27))]) dX7_findPiece_24 rfl (by decide) (by decide) (by omega) (fun _ => rfl) (fun z_54 hz_55 => ?_)
          refine r_goto C 5 dX7_findPiece_27 (by decide) ?_
          exact At.sub [0, 1] rfl (ih_5 (z_54 : Int32) (by omega) (by omega))
  exact At.sub [0, 1] rfl (L_5 ((61 - (σ 27 7 : Int32).toInt).toNat + 1) (σ 27 7 : Int32) (by omega) (by omega))
set_option maxHeartbeats 4000000 in
set_option maxRecDepth 100000 in
theorem c_X7_numberOfPiece (E : Ev) (ad : Nat → Nat) (σ : Sg)  (he : 0 ≤ (σ 27 6).toInt ∧ (σ 27 6).toInt ≤ (σ 27 7).toInt ∧ (σ 27 7).toInt ≤ (σ 27 1).toInt ∧ (σ 27 1).toInt ≤ 60) : Ct E ad yX7_numberOfPiece cX7_numberOfPiece 3 (some .int) 1 [.ref (ad 27)] σ (fun r τ => τ = σ ∧ True) := by
  have k_m3 : (-3 : Int32).toInt = -3 := by decide
  have k_0 : (0 : Int32).toInt = 0 := by decide
  have k_3 : (3 : Int32).toInt = 3 := by decide
  have k_10 : (10 : Int32).toInt = 10 := by decide
  have k_48 : (48 : Int32).toInt = 48 := by decide
  refine ct_of RX7 rfl (by decide +kernel) [(0, .ref (ad 27))] rfl (Nat.le_of_ble_eq_true rfl) (fun G C T => ?_)
  refine r_aload_n C 0 dX7_numberOfPiece_0 rfl rfl ?_
  refine r_aload_n C 0 dX7_numberOfPiece_1 rfl rfl ?_
  refine r_get C (k := 27) (v := .int (σ 27 6)) f_X7_31 (by decide) rfl rfl dX7_numberOfPiece_2 ?_
  refine r_callV C (k := 27) [.int (σ 27 6)] [] (c_X7_isDigit E ad σ  (σ 27 6) (by omega) (by omega)) lv_X7_89 (by decide) rfl rfl (by decide) (by decide) rfl rfl (Nat.le_of_ble_eq_true rfl) dX7_numberOfPiece_5 (fun r_1 τ_2 h_3 => ?_)
  obtain ⟨eh_3, h_3⟩ := h_3
  obtain rfl := eh_3.symm
  refine r_if_eq C 24 dX7_numberOfPiece_8 (by decide) (fun c_4 => ?_) (fun c_4 => ?_)
  · -- to 24
    refine r_bipush C (-3) dX7_numberOfPiece_24 (by decide) ?_
    exact r_iret C T dX7_numberOfPiece_26 (⟨rfl, trivial⟩)
  · -- to 11
    refine r_aload_n C 0 dX7_numberOfPiece_11 rfl rfl ?_
    refine r_get C (k := 27) (v := .int (σ 27 7)) f_X7_34 (by decide) rfl rfl dX7_numberOfPiece_12 ?_
    refine r_aload_n C 0 dX7_numberOfPiece_15 rfl rfl ?_
    refine r_get C (k := 27) (v := .int (σ 27 6)) f_X7_31 (by decide) rfl rfl dX7_numberOfPiece_16 ?_
    refine r_isub C dX7_numberOfPiece_19 ?_
    refine r_nm (P := fun z => z = (σ 27 7) - (σ 27 6)) rfl (fun z_5 hz_6 => ?_)
    refine r_iconst C (3) dX7_numberOfPiece_20 (by decide) ?_
    refine r_icmp_le C 27 dX7_numberOfPiece_21 (by decide) (fun c_7 => ?_) (fun c_7 => ?_)
    · -- to 27
      refine r_iconst C (0) dX7_numberOfPiece_27 (by decide) ?_
      refine r_istore_n C [(1, .int (0)), (0, .ref (ad 27))] dX7_numberOfPiece_28 rfl (by decide) rfl ?_
      refine r_aload_n C 1 dX7_numberOfPiece_29 rfl rfl ?_
      refine r_get C (k := 27) (v := .int (σ 27 6)) f_X7_31 (by decide) rfl rfl dX7_numberOfPiece_30 ?_
      refine r_istore_n C [(2, .int (σ 27 6)), (1, .int (0)), (0, .ref (ad 27))] dX7_numberOfPiece_33 rfl (by decide) rfl ?_
      have L_34 : ∀ (n : Nat), ∀ (a : Int32) (i : Int32), (0 ≤ i.toInt ∧ i.toInt ≤ 60) → 60 - i.toInt < (n : Int) → At E ad G 3 34 [(2, .int (i)), (1, .int (a)), (0, .ref (ad 27))] [] σ := by
        intro n
        induction n with
        | zero =>
          intro a i hi hm
          exact absurd hm (by omega)
        | succ n ih =>
          intro a i hi hm
          have ih_34 := ih
          clear ih
          refine r_iload_n C 0 dX7_numberOfPiece_34 rfl rfl ?_
          refine r_aload_n C 2 dX7_numberOfPiece_35 rfl rfl ?_
          refine r_get C (k := 27) (v := .int (σ 27 7)) f_X7_34 (by decide) rfl rfl dX7_numberOfPiece_36 ?_
          refine r_icmp_ge C 63 dX7_numberOfPiece_39 (by decide) (fun c_8 => ?_) (fun c_8 => ?_)
          · -- to 63
            refine r_iload_n C 1 dX7_numberOfPiece_63 rfl rfl ?_
            exact r_iret C T dX7_numberOfPiece_64 (⟨rfl, trivial⟩)
          · -- to 42
            refine r_bipush C (10) dX7_numberOfPiece_42 (by decide) ?_
            refine r_iload_n C 1 dX7_numberOfPiece_44 rfl rfl ?_
            refine r_imul C dX7_numberOfPiece_45 ?_
            refine r_nm (P := fun z => z = (10) * (a)) rfl (fun z_9 hz_10 => ?_)
            refine r_aload_n C 2 dX7_numberOfPiece_46 rfl rfl ?_
            refine r_get C (k := 27) (v := .ref (ad 28)) f_X7_9 (by decide) rfl rfl dX7_numberOfPiece_47 ?_
            refine r_iload_n C 0 dX7_numberOfPiece_50 rfl rfl ?_
            refine r_iald C (k := 28) (by decide) rfl (by omega) (σ 28 ((i : Int32).toInt.toNat)) rfl dX7_numberOfPiece_51 ?_
            refine r_iadd C dX7_numberOfPiece_52 ?_
            refine r_nm (P := fun z => z = (z_9) + (σ 28 ((i : Int32).toInt.toNat))) rfl (fun z_12 hz_13 => ?_)
            refine r_bipush C (48) dX7_numberOfPiece_53 (by decide) ?_
            refine r_isub C dX7_numberOfPiece_55 ?_
            refine r_nm (P := fun z => z = (z_12) - (48)) rfl (fun z_14 hz_15 => ?_)
            refine r_istore_n C [(1, .int (z_14)), (2, .int (i)), (0, .ref (ad 27))] dX7_numberOfPiece_56 rfl (by decide) rfl ?_
            refine r_iinc C 1 (fun z => [(2, .int (z)), (1, .int (z_14)), (0, .ref (ad 27))]) dX7_numberOfPiece_57 rfl (by decide) (by decide) (by omega) (fun _ => rfl) (fun z_16 hz_17 => ?_)
            refine r_goto C 34 dX7_numberOfPiece_60 (by decide) ?_
            exact At.sub [0, 1, 2] rfl (ih_34 (z_14 : Int32) (z_16 : Int32) (by omega) (by omega))
      exact At.sub [0, 1, 2] rfl (L_34 ((60 - (σ 27 6 : Int32).toInt).toNat + 1) (0 : Int32) (σ 27 6 : Int32) (by omega) (by omega))
    · -- to 24
      refine r_bipush C (-3) dX7_numberOfPiece_24 (by decide) ?_
      exact r_iret C T dX7_numberOfPiece_26 (⟨rfl, trivial⟩)
set_option maxHeartbeats 4000000 in
set_option maxRecDepth 100000 in
theorem c_X7_placeAmong (E : Ev) (ad : Nat → Nat) (σ : Sg) (s : Nat) (he : 0 ≤ (σ 27 6).toInt ∧ (σ 27 6).toInt ≤ (σ 27 7).toInt ∧ (σ 27 7).toInt ≤ (σ 27 1).toInt ∧ (σ 27 1).toInt ≤ 60) (hs : s < 6) : Ct E ad yX7_placeAmong cX7_placeAmong 6 (some .int) 4 [.ref (ad 27), .ref (ad (100 + s))] σ (fun r τ => τ = σ ∧ ((σ 27 6).toInt = (σ 27 7).toInt → r.toInt = -3)) := by
  have k_m3 : (-3 : Int32).toInt = -3 := by decide
  have k_0 : (0 : Int32).toInt = 0 := by decide
  have k_1 : (1 : Int32).toInt = 1 := by decide
  have k_32 : (32 : Int32).toInt = 32 := by decide
  have hsl := sl_le s hs
  refine ct_of RX7 rfl (by decide +kernel) [(0, .ref (ad 27)), (1, .ref (ad (100 + s)))] rfl (Nat.le_of_ble_eq_true rfl) (fun G C T => ?_)
  refine r_iconst C (0) dX7_placeAmong_0 (by decide) ?_
  refine r_istore_n C [(2, .int (0)), (0, .ref (ad 27)), (1, .ref (ad (100 + s)))] dX7_placeAmong_1 rfl (by decide) rfl ?_
  refine r_aload_n C 1 dX7_placeAmong_2 rfl rfl ?_
  refine r_get C (k := 27) (v := .int (σ 27 6)) f_X7_31 (by decide) rfl rfl dX7_placeAmong_3 ?_
  refine r_istore_n C [(3, .int (σ 27 6)), (2, .int (0)), (0, .ref (ad 27)), (1, .ref (ad (100 + s)))] dX7_placeAmong_6 rfl (by decide) rfl ?_
  refine r_iconst C (1) dX7_placeAmong_7 (by decide) ?_
  refine r_istore C [(4, .int (1)), (3, .int (σ 27 6)), (2, .int (0)), (0, .ref (ad 27)), (1, .ref (ad (100 + s)))] dX7_placeAmong_8 (by decide) rfl ?_
  refine r_iconst C (0) dX7_placeAmong_10 (by decide) ?_
  refine r_istore C [(5, .int (0)), (4, .int (1)), (3, .int (σ 27 6)), (2, .int (0)), (0, .ref (ad 27)), (1, .ref (ad (100 + s)))] dX7_placeAmong_11 (by decide) rfl ?_
  have L_13 : ∀ (n : Nat), ∀ (a : Int32) (b : Int32) (c : Int32) (i : Int32), (0 ≤ i.toInt ∧ i.toInt ≤ (sl s : Int) + 1) → (0 ≤ a.toInt ∧ a.toInt ≤ i.toInt) → (0 ≤ b.toInt ∧ b.toInt ≤ 60 + i.toInt) → ((σ 27 6).toInt = (σ 27 7).toInt → c.toInt ≠ 0 → b.toInt = (σ 27 6).toInt ∧ (i.toInt ≤ (sl s : Int) → (i.toInt.toNat = 0 ∨ (ch s (i.toInt.toNat - 1)).toInt = 32))) → (sl s : Int) + 1 - i.toInt < (n : Int) → At E ad G 6 13 [(5, .int (i)), (4, .int (c)), (3, .int (b)), (2, .int (a)), (0, .ref (ad 27)), (1, .ref (ad (100 + s)))] [] σ := by
    intro n
    induction n with
    | zero =>
      intro a b c i hi ha hb hw hm
      exact absurd hm (by omega)
    | succ n ih =>
      intro a b c i hi ha hb hw hm
      have ih_13 := ih
      clear ih
      refine r_iload C 0 dX7_placeAmong_13 rfl ?_
      refine r_aload_n C 5 dX7_placeAmong_15 rfl rfl ?_
      refine r_callT C (i := s) [] [.int (i)] hs (c_J0_length_8abf5 E ad σ (s)  hs ) lv_X7_92 rfl (by decide) (by decide) rfl rfl (Nat.le_of_ble_eq_true rfl) dX7_placeAmong_16 (fun r_1 τ_2 h_3 => ?_)
      obtain ⟨eh_3, h_3⟩ := h_3
      obtain rfl := eh_3.symm
      refine r_icmp_gt C 115 dX7_placeAmong_19 (by decide) (fun c_4 => ?_) (fun c_4 => ?_)
      · -- to 115
        refine r_bipush C (-3) dX7_placeAmong_115 (by decide) ?_
        exact r_iret C T dX7_placeAmong_117 (⟨rfl, fun _ => k_m3⟩)
      · -- to 22
        have L_109 : ∀ (a2 : Int32) (b2 : Int32) (c2 : Int32), (0 ≤ a2.toInt ∧ a2.toInt ≤ i.toInt + 1) → (0 ≤ b2.toInt ∧ b2.toInt ≤ 61 + i.toInt) → ((σ 27 6).toInt = (σ 27 7).toInt → c2.toInt ≠ 0 → b2.toInt = (σ 27 6).toInt ∧ (i.toInt + 1 ≤ (sl s : Int) → (ch s i.toInt.toNat).toInt = 32)) → At E ad G 6 109 [(5, .int (i)), (4, .int (c2)), (3, .int (b2)), (2, .int (a2)), (0, .ref (ad 27)), (1, .ref (ad (100 + s)))] [] σ := by
          intro a2 b2 c2 ha2 hb2 hw2
          refine r_iinc C 0 (fun z => [(5, .int (z)), (4, .int (c2)), (3, .int (b2)), (2, .int (a2)), (0, .ref (ad 27)), (1, .ref (ad (100 + s)))]) dX7_placeAmong_109 rfl (by decide) (by decide) (by omega) (fun _ => rfl) (fun z_5 hz_6 => ?_)
          refine r_goto C 13 dX7_placeAmong_112 (by decide) ?_
          exact At.sub [0, 1, 2, 3, 4, 5] rfl (ih_13 (a2 : Int32) (b2 : Int32) (c2 : Int32) (z_5 : Int32) (by omega) (by omega) (by omega) (fun h h2 => ⟨(hw2 h h2).1, fun h3 => Or.inr (by rw [hz_6, show (i.toInt + 1).toNat - 1 = i.toInt.toNat by omega]; exact (hw2 h h2).2 (by omega))⟩) (by omega))
        refine r_iload C 0 dX7_placeAmong_22 rfl ?_
        refine r_aload_n C 5 dX7_placeAmong_24 rfl rfl ?_
        refine r_callT C (i := s) [] [.int (i)] hs (c_J0_length_8abf5 E ad σ (s)  hs ) lv_X7_92 rfl (by decide) (by decide) rfl rfl (Nat.le_of_ble_eq_true rfl) dX7_placeAmong_25 (fun r_7 τ_8 h_9 => ?_)
        obtain ⟨eh_9, h_9⟩ := h_9
        obtain rfl := eh_9.symm
        refine r_icmp_ge C 83 dX7_placeAmong_28 (by decide) (fun c_10 => ?_) (fun c_10 => ?_)
        · -- to 83
          refine r_iload C 1 dX7_placeAmong_83 rfl ?_
          refine r_if_eq C 98 dX7_placeAmong_85 (by decide) (fun c_11 => ?_) (fun c_11 => ?_)
          · -- to 98
            refine r_iinc C 3 (fun z => [(2, .int (z)), (5, .int (i)), (4, .int (c)), (3, .int (b)), (0, .ref (ad 27)), (1, .ref (ad (100 + s)))]) dX7_placeAmong_98 rfl (by decide) (by decide) (by omega) (fun _ => rfl) (fun z_12 hz_13 => ?_)
            refine r_aload_n C 4 dX7_placeAmong_101 rfl rfl ?_
            refine r_get C (k := 27) (v := .int (σ 27 6)) f_X7_31 (by decide) rfl rfl dX7_placeAmong_102 ?_
            refine r_istore_n C [(3, .int (σ 27 6)), (2, .int (z_12)), (5, .int (i)), (4, .int (c)), (0, .ref (ad 27)), (1, .ref (ad (100 + s)))] dX7_placeAmong_105 rfl (by decide) rfl ?_
            refine r_iconst C (1) dX7_placeAmong_106 (by decide) ?_
            refine r_istore C [(4, .int (1)), (3, .int (σ 27 6)), (2, .int (z_12)), (5, .int (i)), (0, .ref (ad 27)), (1, .ref (ad (100 + s)))] dX7_placeAmong_107 (by decide) rfl ?_
            exact At.sub [3, 0, 1, 2, 4, 5] rfl (L_109 (z_12 : Int32) (σ 27 6 : Int32) (1 : Int32) (by omega) (by omega) (fun h h2 => ⟨rfl, fun _ => by omega⟩))
          · -- to 88
            refine r_iload_n C 2 dX7_placeAmong_88 rfl rfl ?_
            refine r_aload_n C 4 dX7_placeAmong_89 rfl rfl ?_
            refine r_get C (k := 27) (v := .int (σ 27 7)) f_X7_34 (by decide) rfl rfl dX7_placeAmong_90 ?_
            refine r_icmp_ne C 98 dX7_placeAmong_93 (by decide) (fun c_14 => ?_) (fun c_14 => ?_)
            · -- to 98
              refine r_iinc C 3 (fun z => [(2, .int (z)), (5, .int (i)), (4, .int (c)), (3, .int (b)), (0, .ref (ad 27)), (1, .ref (ad (100 + s)))]) dX7_placeAmong_98 rfl (by decide) (by decide) (by omega) (fun _ => rfl) (fun z_15 hz_16 => ?_)
              refine r_aload_n C 4 dX7_placeAmong_101 rfl rfl ?_
              refine r_get C (k := 27) (v := .int (σ 27 6)) f_X7_31 (by decide) rfl rfl dX7_placeAmong_102 ?_
              refine r_istore_n C [(3, .int (σ 27 6)), (2, .int (z_15)), (5, .int (i)), (4, .int (c)), (0, .ref (ad 27)), (1, .ref (ad (100 + s)))] dX7_placeAmong_105 rfl (by decide) rfl ?_
              refine r_iconst C (1) dX7_placeAmong_106 (by decide) ?_
              refine r_istore C [(4, .int (1)), (3, .int (σ 27 6)), (2, .int (z_15)), (5, .int (i)), (0, .ref (ad 27)), (1, .ref (ad (100 + s)))] dX7_placeAmong_107 (by decide) rfl ?_
              exact At.sub [3, 0, 1, 2, 4, 5] rfl (L_109 (z_15 : Int32) (σ 27 6 : Int32) (1 : Int32) (by omega) (by omega) (fun h h2 => ⟨rfl, fun _ => by omega⟩))
            · -- to 96
              refine r_iload_n C 3 dX7_placeAmong_96 rfl rfl ?_
              exact r_iret C T dX7_placeAmong_97 (⟨rfl, fun h => absurd ((hw h (by omega)).2 (by omega)) (fun t => by have t2 := stt_no s hs i.toInt.toNat (by omega) t; omega)⟩)
        · -- to 31
          refine r_aload_n C 5 dX7_placeAmong_31 rfl rfl ?_
          refine r_iload C 0 dX7_placeAmong_32 rfl ?_
          refine r_callT C (i := s) [.int (i)] [] hs (c_J0_charAt_5068e E ad σ (s) (i) hs (by omega)) lv_X7_96 rfl (by decide) (by decide) rfl rfl (Nat.le_of_ble_eq_true rfl) dX7_placeAmong_34 (fun r_17 τ_18 h_19 => ?_)
          obtain ⟨eh_19, h_19⟩ := h_19
          obtain rfl := eh_19.symm
          refine r_bipush C (32) dX7_placeAmong_37 (by decide) ?_
          refine r_icmp_eq C 83 dX7_placeAmong_39 (by decide) (fun c_20 => ?_) (fun c_20 => ?_)
          · -- to 83
            refine r_iload C 1 dX7_placeAmong_83 rfl ?_
            refine r_if_eq C 98 dX7_placeAmong_85 (by decide) (fun c_21 => ?_) (fun c_21 => ?_)
            · -- to 98
              refine r_iinc C 3 (fun z => [(2, .int (z)), (5, .int (i)), (4, .int (c)), (3, .int (b)), (0, .ref (ad 27)), (1, .ref (ad (100 + s)))]) dX7_placeAmong_98 rfl (by decide) (by decide) (by omega) (fun _ => rfl) (fun z_22 hz_23 => ?_)
              refine r_aload_n C 4 dX7_placeAmong_101 rfl rfl ?_
              refine r_get C (k := 27) (v := .int (σ 27 6)) f_X7_31 (by decide) rfl rfl dX7_placeAmong_102 ?_
              refine r_istore_n C [(3, .int (σ 27 6)), (2, .int (z_22)), (5, .int (i)), (4, .int (c)), (0, .ref (ad 27)), (1, .ref (ad (100 + s)))] dX7_placeAmong_105 rfl (by decide) rfl ?_
              refine r_iconst C (1) dX7_placeAmong_106 (by decide) ?_
              refine r_istore C [(4, .int (1)), (3, .int (σ 27 6)), (2, .int (z_22)), (5, .int (i)), (0, .ref (ad 27)), (1, .ref (ad (100 + s)))] dX7_placeAmong_107 (by decide) rfl ?_
              exact At.sub [3, 0, 1, 2, 4, 5] rfl (L_109 (z_22 : Int32) (σ 27 6 : Int32) (1 : Int32) (by omega) (by omega) (fun h h2 => ⟨rfl, fun _ => by first | omega | (rw [h_19] at c_20; omega)⟩))
            · -- to 88
              refine r_iload_n C 2 dX7_placeAmong_88 rfl rfl ?_
              refine r_aload_n C 4 dX7_placeAmong_89 rfl rfl ?_
              refine r_get C (k := 27) (v := .int (σ 27 7)) f_X7_34 (by decide) rfl rfl dX7_placeAmong_90 ?_
              refine r_icmp_ne C 98 dX7_placeAmong_93 (by decide) (fun c_24 => ?_) (fun c_24 => ?_)
              · -- to 98
                refine r_iinc C 3 (fun z => [(2, .int (z)), (5, .int (i)), (4, .int (c)), (3, .int (b)), (0, .ref (ad 27)), (1, .ref (ad (100 + s)))]) dX7_placeAmong_98 rfl (by decide) (by decide) (by omega) (fun _ => rfl) (fun z_25 hz_26 => ?_)
                refine r_aload_n C 4 dX7_placeAmong_101 rfl rfl ?_
                refine r_get C (k := 27) (v := .int (σ 27 6)) f_X7_31 (by decide) rfl rfl dX7_placeAmong_102 ?_
                refine r_istore_n C [(3, .int (σ 27 6)), (2, .int (z_25)), (5, .int (i)), (4, .int (c)), (0, .ref (ad 27)), (1, .ref (ad (100 + s)))] dX7_placeAmong_105 rfl (by decide) rfl ?_
                refine r_iconst C (1) dX7_placeAmong_106 (by decide) ?_
                refine r_istore C [(4, .int (1)), (3, .int (σ 27 6)), (2, .int (z_25)), (5, .int (i)), (0, .ref (ad 27)), (1, .ref (ad (100 + s)))] dX7_placeAmong_107 (by decide) rfl ?_
                exact At.sub [3, 0, 1, 2, 4, 5] rfl (L_109 (z_25 : Int32) (σ 27 6 : Int32) (1 : Int32) (by omega) (by omega) (fun h h2 => ⟨rfl, fun _ => by first | omega | (rw [h_19] at c_20; omega)⟩))
              · -- to 96
                refine r_iload_n C 3 dX7_placeAmong_96 rfl rfl ?_
                exact r_iret C T dX7_placeAmong_97 (⟨rfl, fun h => absurd ((hw h (by omega)).2 (by omega)) (fun t => by have t2 := stt_no s hs i.toInt.toNat (by omega) t; rw [h_19] at c_20; omega)⟩)
          · -- to 42
            refine r_iload C 1 dX7_placeAmong_42 rfl ?_
            refine r_if_eq C 74 dX7_placeAmong_44 (by decide) (fun c_27 => ?_) (fun c_27 => ?_)
            · -- to 74
              refine r_iconst C (0) dX7_placeAmong_74 (by decide) ?_
              refine r_istore C [(4, .int (0)), (5, .int (i)), (3, .int (b)), (2, .int (a)), (0, .ref (ad 27)), (1, .ref (ad (100 + s)))] dX7_placeAmong_75 (by decide) rfl ?_
              refine r_iinc C 2 (fun z => [(3, .int (z)), (4, .int (0)), (5, .int (i)), (2, .int (a)), (0, .ref (ad 27)), (1, .ref (ad (100 + s)))]) dX7_placeAmong_77 rfl (by decide) (by decide) (by omega) (fun _ => rfl) (fun z_28 hz_29 => ?_)
              refine r_goto C 109 dX7_placeAmong_80 (by decide) ?_
              exact At.sub [2, 1, 0, 3, 4, 5] rfl (L_109 (a : Int32) (z_28 : Int32) (0 : Int32) (by omega) (by omega) (fun h h2 => absurd h2 (by first | omega | (have t := (hw h (by omega)).1; omega))))
            · -- to 47
              refine r_iload_n C 2 dX7_placeAmong_47 rfl rfl ?_
              refine r_aload_n C 4 dX7_placeAmong_48 rfl rfl ?_
              refine r_get C (k := 27) (v := .int (σ 27 7)) f_X7_34 (by decide) rfl rfl dX7_placeAmong_49 ?_
              refine r_icmp_ge C 74 dX7_placeAmong_52 (by decide) (fun c_30 => ?_) (fun c_30 => ?_)
              · -- to 74
                refine r_iconst C (0) dX7_placeAmong_74 (by decide) ?_
                refine r_istore C [(4, .int (0)), (5, .int (i)), (3, .int (b)), (2, .int (a)), (0, .ref (ad 27)), (1, .ref (ad (100 + s)))] dX7_placeAmong_75 (by decide) rfl ?_
                refine r_iinc C 2 (fun z => [(3, .int (z)), (4, .int (0)), (5, .int (i)), (2, .int (a)), (0, .ref (ad 27)), (1, .ref (ad (100 + s)))]) dX7_placeAmong_77 rfl (by decide) (by decide) (by omega) (fun _ => rfl) (fun z_31 hz_32 => ?_)
                refine r_goto C 109 dX7_placeAmong_80 (by decide) ?_
                exact At.sub [2, 1, 0, 3, 4, 5] rfl (L_109 (a : Int32) (z_31 : Int32) (0 : Int32) (by omega) (by omega) (fun h h2 => absurd h2 (by first | omega | (have t := (hw h (by omega)).1; omega))))
              · -- to 55
                refine r_aload_n C 4 dX7_placeAmong_55 rfl rfl ?_
                refine r_get C (k := 27) (v := .ref (ad 28)) f_X7_9 (by decide) rfl rfl dX7_placeAmong_56 ?_
                refine r_iload_n C 2 dX7_placeAmong_59 rfl rfl ?_
                refine r_iald C (k := 28) (by decide) rfl (by omega) (σ 28 ((b : Int32).toInt.toNat)) rfl dX7_placeAmong_60 ?_
                refine r_aload_n C 5 dX7_placeAmong_61 rfl rfl ?_
                refine r_iload C 0 dX7_placeAmong_62 rfl ?_
                refine r_callT C (i := s) [.int (i)] [.int (σ 28 ((b : Int32).toInt.toNat))] hs (c_J0_charAt_5068e E ad σ (s) (i) hs (by omega)) lv_X7_96 rfl (by decide) (by decide) rfl rfl (Nat.le_of_ble_eq_true rfl) dX7_placeAmong_64 (fun r_34 τ_35 h_36 => ?_)
                obtain ⟨eh_36, h_36⟩ := h_36
                obtain rfl := eh_36.symm
                refine r_icmp_ne C 74 dX7_placeAmong_67 (by decide) (fun c_37 => ?_) (fun c_37 => ?_)
                · -- to 74
                  refine r_iconst C (0) dX7_placeAmong_74 (by decide) ?_
                  refine r_istore C [(4, .int (0)), (5, .int (i)), (3, .int (b)), (2, .int (a)), (0, .ref (ad 27)), (1, .ref (ad (100 + s)))] dX7_placeAmong_75 (by decide) rfl ?_
                  refine r_iinc C 2 (fun z => [(3, .int (z)), (4, .int (0)), (5, .int (i)), (2, .int (a)), (0, .ref (ad 27)), (1, .ref (ad (100 + s)))]) dX7_placeAmong_77 rfl (by decide) (by decide) (by omega) (fun _ => rfl) (fun z_38 hz_39 => ?_)
                  refine r_goto C 109 dX7_placeAmong_80 (by decide) ?_
                  exact At.sub [2, 1, 0, 3, 4, 5] rfl (L_109 (a : Int32) (z_38 : Int32) (0 : Int32) (by omega) (by omega) (fun h h2 => absurd h2 (by first | omega | (have t := (hw h (by omega)).1; omega))))
                · -- to 70
                  refine r_iconst C (1) dX7_placeAmong_70 (by decide) ?_
                  refine r_goto C 75 dX7_placeAmong_71 (by decide) ?_
                  refine r_istore C [(4, .int (1)), (5, .int (i)), (3, .int (b)), (2, .int (a)), (0, .ref (ad 27)), (1, .ref (ad (100 + s)))] dX7_placeAmong_75 (by decide) rfl ?_
                  refine r_iinc C 2 (fun z => [(3, .int (z)), (4, .int (1)), (5, .int (i)), (2, .int (a)), (0, .ref (ad 27)), (1, .ref (ad (100 + s)))]) dX7_placeAmong_77 rfl (by decide) (by decide) (by omega) (fun _ => rfl) (fun z_40 hz_41 => ?_)
                  refine r_goto C 109 dX7_placeAmong_80 (by decide) ?_
                  exact At.sub [2, 1, 0, 3, 4, 5] rfl (L_109 (a : Int32) (z_40 : Int32) (1 : Int32) (by omega) (by omega) (fun h h2 => absurd h2 (by first | omega | (have t := (hw h (by omega)).1; omega))))
  exact At.sub [0, 1, 2, 3, 4, 5] rfl (L_13 (((sl s : Int) + 1 - (0 : Int32).toInt).toNat + 1) (0 : Int32) (σ 27 6 : Int32) (1 : Int32) (0 : Int32) (by omega) (by omega) (by omega) (fun h h2 => ⟨rfl, fun _ => Or.inl (by rw [k_0]; rfl)⟩) (by omega))
set_option maxHeartbeats 4000000 in
set_option maxRecDepth 100000 in
theorem c_X7_readOneOf (E : Ev) (ad : Nat → Nat) (σ : Sg) (s : Nat) (he : 0 ≤ (σ 27 7).toInt ∧ (σ 27 7).toInt ≤ (σ 27 1).toInt ∧ (σ 27 1).toInt ≤ 60) (hs : s < 6) : Ct E ad yX7_readOneOf cX7_readOneOf 3 (some .int) 5 [.ref (ad 27), .ref (ad (100 + s))] σ (fun r τ => Off [27] σ τ ∧ (τ 27 1).toInt = (σ 27 1).toInt ∧ 0 ≤ (τ 27 7).toInt ∧ (τ 27 7).toInt ≤ (σ 27 1).toInt ∧ (τ 27 2).toInt = (σ 27 2).toInt ∧ ((σ 27 8).toInt ≠ -3 → r.toInt = -3 ∧ (τ 27 8).toInt = (σ 27 8).toInt) ∧ ((σ 27 8).toInt = -3 → (σ 27 1).toInt = 0 → r.toInt = -3 ∧ (τ 27 8).toInt = 0)) := by
  have k_m3 : (-3 : Int32).toInt = -3 := by decide
  refine ct_of RX7 rfl (by decide +kernel) [(0, .ref (ad 27)), (1, .ref (ad (100 + s)))] rfl (Nat.le_of_ble_eq_true rfl) (fun G C T => ?_)
  refine r_aload_n C 0 dX7_readOneOf_0 rfl rfl ?_
  refine r_get C (k := 27) (v := .int (σ 27 8)) f_X7_37 (by decide) rfl rfl dX7_readOneOf_1 ?_
  refine r_bipush C (-3) dX7_readOneOf_4 (by decide) ?_
  refine r_icmp_eq C 12 dX7_readOneOf_6 (by decide) (fun c_1 => ?_) (fun c_1 => ?_)
  · -- to 12
    refine r_aload_n C 0 dX7_readOneOf_12 rfl rfl ?_
    refine r_callVv C (k := 27) [] [] (c_X7_findPiece E ad σ   (by omega)) lv_X7_68 (by decide) rfl rfl (by decide) (by decide) rfl rfl (Nat.le_of_ble_eq_true rfl) dX7_readOneOf_13 (fun τ_3 h_4 => ?_)
    have L_33 : ∀ (a : Int32), ((σ 27 1).toInt = 0 → a.toInt = -3) → At E ad G 3 33 [(0, .ref (ad 27)), (1, .ref (ad (100 + s)))] [.int (a)] τ_3 := by
      intro a hn
      refine r_istore_n C [(2, .int (a)), (0, .ref (ad 27)), (1, .ref (ad (100 + s)))] dX7_readOneOf_33 rfl (by decide) rfl ?_
      refine r_iload_n C 0 dX7_readOneOf_34 rfl rfl ?_
      refine r_bipush C (-3) dX7_readOneOf_35 (by decide) ?_
      refine r_icmp_ne C 44 dX7_readOneOf_37 (by decide) (fun c_5 => ?_) (fun c_5 => ?_)
      · -- to 44
        refine r_iload_n C 0 dX7_readOneOf_44 rfl rfl ?_
        exact r_iret C T dX7_readOneOf_45 (⟨h_4.1, by omega, by omega, by omega, by omega, fun h => absurd c_1 (by omega), fun h1 h2 => absurd (hn h2) (by omega)⟩)
      · -- to 40
        refine r_aload_n C 1 dX7_readOneOf_40 rfl rfl ?_
        refine r_callVv C (k := 27) [] [] (c_X7_blame E ad τ_3   ) lv_X7_71 (by decide) rfl rfl (by decide) (by decide) rfl rfl (Nat.le_of_ble_eq_true rfl) dX7_readOneOf_41 (fun τ_7 h_8 => ?_)
        refine r_iload_n C 0 dX7_readOneOf_44 rfl rfl ?_
        exact r_iret C T dX7_readOneOf_45 (⟨h_4.1.tr h_8.1 (fun _ h => h), by omega, by omega, by omega, by omega, fun h => absurd c_1 (by omega), fun h1 h2 => ⟨hn h2, by omega⟩⟩)
    refine r_aload_n C 0 dX7_readOneOf_16 rfl rfl ?_
    refine r_callV C (k := 27) [] [] (c_X7_isParted E ad τ_3   (by omega)) lv_X7_74 (by decide) rfl rfl (by decide) (by decide) rfl rfl (Nat.le_of_ble_eq_true rfl) dX7_readOneOf_17 (fun r_9 τ_10 h_11 => ?_)
    obtain ⟨eh_11, h_11⟩ := h_11
    obtain rfl := eh_11.symm
    refine r_if_eq C 31 dX7_readOneOf_20 (by decide) (fun c_12 => ?_) (fun c_12 => ?_)
    · -- to 31
      refine r_bipush C (-3) dX7_readOneOf_31 (by decide) ?_
      exact At.sub [0, 1] rfl (L_33 ((-3) : Int32) (fun _ => k_m3))
    · -- to 23
      refine r_aload_n C 0 dX7_readOneOf_23 rfl rfl ?_
      refine r_aload_n C 1 dX7_readOneOf_24 rfl rfl ?_
      refine r_callV C (k := 27) [.ref (ad (100 + s))] [] (c_X7_placeAmong E ad τ_3  (s) (by omega) hs) lv_X7_78 (by decide) rfl rfl (by decide) (by decide) rfl rfl (Nat.le_of_ble_eq_true rfl) dX7_readOneOf_25 (fun r_13 τ_14 h_15 => ?_)
      obtain ⟨eh_15, h_15⟩ := h_15
      obtain rfl := eh_15.symm
      refine r_goto C 33 dX7_readOneOf_28 (by decide) ?_
      exact At.sub [0, 1] rfl (L_33 (r_13 : Int32) (fun h => h_15 (by omega)))
  · -- to 9
    refine r_bipush C (-3) dX7_readOneOf_9 (by decide) ?_
    exact r_iret C T dX7_readOneOf_11 (⟨Off.rf, rfl, by omega, by omega, rfl, fun _ => ⟨k_m3, rfl⟩, fun h => absurd h (by omega)⟩)
set_option maxHeartbeats 4000000 in
set_option maxRecDepth 100000 in
theorem c_X7_readNumber (E : Ev) (ad : Nat → Nat) (σ : Sg) (p : Int32) (q : Int32) (he : 0 ≤ (σ 27 7).toInt ∧ (σ 27 7).toInt ≤ (σ 27 1).toInt ∧ (σ 27 1).toInt ≤ 60) : Ct E ad yX7_readNumber cX7_readNumber 4 (some .int) 2 [.ref (ad 27), .int p, .int q] σ (fun r τ => Off [27] σ τ ∧ (τ 27 1).toInt = (σ 27 1).toInt ∧ 0 ≤ (τ 27 7).toInt ∧ (τ 27 7).toInt ≤ (σ 27 1).toInt ∧ ((σ 27 8).toInt ≠ -3 → (τ 27 8).toInt = (σ 27 8).toInt)) := by
  have k_m3 : (-3 : Int32).toInt = -3 := by decide
  refine ct_of RX7 rfl (by decide +kernel) [(0, .ref (ad 27)), (1, .int (p)), (2, .int (q))] rfl (Nat.le_of_ble_eq_true rfl) (fun G C T => ?_)
  refine r_aload_n C 0 dX7_readNumber_0 rfl rfl ?_
  refine r_get C (k := 27) (v := .int (σ 27 8)) f_X7_37 (by decide) rfl rfl dX7_readNumber_1 ?_
  refine r_bipush C (-3) dX7_readNumber_4 (by decide) ?_
  refine r_icmp_eq C 12 dX7_readNumber_6 (by decide) (fun c_1 => ?_) (fun c_1 => ?_)
  · -- to 12
    refine r_aload_n C 0 dX7_readNumber_12 rfl rfl ?_
    refine r_callVv C (k := 27) [] [] (c_X7_findPiece E ad σ   (by omega)) lv_X7_68 (by decide) rfl rfl (by decide) (by decide) rfl rfl (Nat.le_of_ble_eq_true rfl) dX7_readNumber_13 (fun τ_3 h_4 => ?_)
    have L_32 : ∀ (a : Int32), At E ad G 4 32 [(0, .ref (ad 27)), (1, .int (p)), (2, .int (q))] [.int (a)] τ_3 := by
      intro a
      refine r_istore_n C [(3, .int (a)), (0, .ref (ad 27)), (1, .int (p)), (2, .int (q))] dX7_readNumber_32 rfl (by decide) rfl ?_
      have L_47 : ∀ (τ2 : Sg) , (Off [27] σ τ2) → ((τ2 27 1).toInt = (σ 27 1).toInt ∧ 0 ≤ (τ2 27 7).toInt ∧ (τ2 27 7).toInt ≤ (σ 27 1).toInt) → At E ad G 4 47 [(3, .int (a)), (0, .ref (ad 27)), (1, .int (p)), (2, .int (q))] [] τ2 := by
        intro τ2 ho2 hn2
        refine r_iload_n C 0 dX7_readNumber_47 rfl rfl ?_
        exact r_iret C T dX7_readNumber_48 (⟨ho2, by omega, by omega, by omega, fun h => absurd c_1 (by omega)⟩)
      have L_43 : At E ad G 4 43 [(3, .int (a)), (0, .ref (ad 27)), (1, .int (p)), (2, .int (q))] [] τ_3 := by
        refine r_aload_n C 1 dX7_readNumber_43 rfl rfl ?_
        refine r_callVv C (k := 27) [] [] (c_X7_blame E ad τ_3   ) lv_X7_71 (by decide) rfl rfl (by decide) (by decide) rfl rfl (Nat.le_of_ble_eq_true rfl) dX7_readNumber_44 (fun τ_6 h_7 => ?_)
        exact At.sub [0, 1, 2, 3] rfl (L_47 τ_6 (h_4.1.tr h_7.1 (fun _ h => h)) (by omega))
      refine r_iload_n C 0 dX7_readNumber_33 rfl rfl ?_
      refine r_iload_n C 2 dX7_readNumber_34 rfl rfl ?_
      refine r_icmp_lt C 43 dX7_readNumber_35 (by decide) (fun c_8 => ?_) (fun c_8 => ?_)
      · -- to 43
        exact At.sub [0, 1, 2, 3] rfl (L_43  )
      · -- to 38
        refine r_iload_n C 0 dX7_readNumber_38 rfl rfl ?_
        refine r_iload_n C 3 dX7_readNumber_39 rfl rfl ?_
        refine r_icmp_le C 47 dX7_readNumber_40 (by decide) (fun c_9 => ?_) (fun c_9 => ?_)
        · -- to 47
          exact At.sub [0, 1, 2, 3] rfl (L_47 τ_3 h_4.1 (by omega))
        · -- to 43
          exact At.sub [0, 1, 2, 3] rfl (L_43  )
    refine r_aload_n C 0 dX7_readNumber_16 rfl rfl ?_
    refine r_callV C (k := 27) [] [] (c_X7_isParted E ad τ_3   (by omega)) lv_X7_74 (by decide) rfl rfl (by decide) (by decide) rfl rfl (Nat.le_of_ble_eq_true rfl) dX7_readNumber_17 (fun r_10 τ_11 h_12 => ?_)
    obtain ⟨eh_12, h_12⟩ := h_12
    obtain rfl := eh_12.symm
    refine r_if_eq C 30 dX7_readNumber_20 (by decide) (fun c_13 => ?_) (fun c_13 => ?_)
    · -- to 30
      refine r_bipush C (-3) dX7_readNumber_30 (by decide) ?_
      exact At.sub [0, 1, 2] rfl (L_32 ((-3) : Int32) )
    · -- to 23
      refine r_aload_n C 0 dX7_readNumber_23 rfl rfl ?_
      refine r_callV C (k := 27) [] [] (c_X7_numberOfPiece E ad τ_3   (by omega)) lv_X7_81 (by decide) rfl rfl (by decide) (by decide) rfl rfl (Nat.le_of_ble_eq_true rfl) dX7_readNumber_24 (fun r_14 τ_15 h_16 => ?_)
      obtain ⟨eh_16, h_16⟩ := h_16
      obtain rfl := eh_16.symm
      refine r_goto C 32 dX7_readNumber_27 (by decide) ?_
      exact At.sub [0, 1, 2] rfl (L_32 (r_14 : Int32) )
  · -- to 9
    refine r_bipush C (-3) dX7_readNumber_9 (by decide) ?_
    exact r_iret C T dX7_readNumber_11 (⟨Off.rf, rfl, by omega, by omega, fun _ => rfl⟩)
set_option maxHeartbeats 4000000 in
set_option maxRecDepth 100000 in
theorem c_X7_readEnd (E : Ev) (ad : Nat → Nat) (σ : Sg)  (he : 0 ≤ (σ 27 7).toInt ∧ (σ 27 7).toInt ≤ (σ 27 1).toInt ∧ (σ 27 1).toInt ≤ 60) : CtV E ad yX7_readEnd cX7_readEnd 1 2 [.ref (ad 27)] σ (fun τ => Off [27] σ τ ∧ (τ 27 1).toInt = (σ 27 1).toInt ∧ ((σ 27 8).toInt ≠ -3 → (τ 27 8).toInt = (σ 27 8).toInt)) := by
  have k_m3 : (-3 : Int32).toInt = -3 := by decide
  refine ctv_of RX7 rfl (by decide +kernel) [(0, .ref (ad 27))] rfl (Nat.le_of_ble_eq_true rfl) (fun G C T => ?_)
  refine r_aload_n C 0 dX7_readEnd_0 rfl rfl ?_
  refine r_get C (k := 27) (v := .int (σ 27 8)) f_X7_37 (by decide) rfl rfl dX7_readEnd_1 ?_
  refine r_bipush C (-3) dX7_readEnd_4 (by decide) ?_
  refine r_icmp_ne C 28 dX7_readEnd_6 (by decide) (fun c_1 => ?_) (fun c_1 => ?_)
  · -- to 28
    exact r_vret C T dX7_readEnd_28 (⟨Off.rf, rfl, fun _ => rfl⟩)
  · -- to 9
    refine r_aload_n C 0 dX7_readEnd_9 rfl rfl ?_
    refine r_callVv C (k := 27) [] [] (c_X7_findPiece E ad σ   (by omega)) lv_X7_68 (by decide) rfl rfl (by decide) (by decide) rfl rfl (Nat.le_of_ble_eq_true rfl) dX7_readEnd_10 (fun τ_3 h_4 => ?_)
    refine r_aload_n C 0 dX7_readEnd_13 rfl rfl ?_
    refine r_get C (k := 27) (v := .int (τ_3 27 6)) f_X7_31 (by decide) rfl rfl dX7_readEnd_14 ?_
    refine r_aload_n C 0 dX7_readEnd_17 rfl rfl ?_
    refine r_get C (k := 27) (v := .int (τ_3 27 1)) f_X7_15 (by decide) rfl rfl dX7_readEnd_18 ?_
    refine r_icmp_ge C 28 dX7_readEnd_21 (by decide) (fun c_5 => ?_) (fun c_5 => ?_)
    · -- to 28
      exact r_vret C T dX7_readEnd_28 (⟨h_4.1, by omega, fun h => absurd c_1 (by omega)⟩)
    · -- to 24
      refine r_aload_n C 0 dX7_readEnd_24 rfl rfl ?_
      refine r_callVv C (k := 27) [] [] (c_X7_blame E ad τ_3   ) lv_X7_71 (by decide) rfl rfl (by decide) (by decide) rfl rfl (Nat.le_of_ble_eq_true rfl) dX7_readEnd_25 (fun τ_7 h_8 => ?_)
      exact r_vret C T dX7_readEnd_28 (⟨h_4.1.tr h_8.1 (fun _ h => h), by omega, fun h => absurd c_1 (by omega)⟩)
set_option maxHeartbeats 4000000 in
set_option maxRecDepth 100000 in
theorem c_X7_readRest (E : Ev) (ad : Nat → Nat) (σ : Sg)  (he : 0 ≤ (σ 27 7).toInt ∧ (σ 27 7).toInt ≤ (σ 27 1).toInt ∧ (σ 27 1).toInt ≤ 60) : CtV E ad yX7_readRest cX7_readRest 1 6 [.ref (ad 27)] σ (fun τ => Off [27] σ τ ∧ (τ 27 1).toInt = (σ 27 1).toInt ∧ 0 ≤ (τ 27 7).toInt ∧ (τ 27 7).toInt ≤ (σ 27 1).toInt ∧ ((σ 27 2).toInt < 0 → (τ 27 8).toInt = (σ 27 8).toInt)) := by
  have k_0 : (0 : Int32).toInt = 0 := by decide
  have k_1 : (1 : Int32).toInt = 1 := by decide
  have k_9 : (9 : Int32).toInt = 9 := by decide
  have k_12 : (12 : Int32).toInt = 12 := by decide
  have k_23 : (23 : Int32).toInt = 23 := by decide
  have k_24 : (24 : Int32).toInt = 24 := by decide
  have k_48 : (48 : Int32).toInt = 48 := by decide
  refine ctv_of RX7 rfl (by decide +kernel) [(0, .ref (ad 27))] rfl (Nat.le_of_ble_eq_true rfl) (fun G C T => ?_)
  refine r_aload_n C 0 dX7_readRest_0 rfl rfl ?_
  refine r_get C (k := 27) (v := .int (σ 27 2)) f_X7_19 (by decide) rfl rfl dX7_readRest_1 ?_
  rcases (show ((σ 27 2 : Int32).toInt < 0 ∨ 5 < (σ 27 2 : Int32).toInt) ∨ (σ 27 2 : Int32).toInt = 0 ∨ (σ 27 2 : Int32).toInt = 1 ∨ (σ 27 2 : Int32).toInt = 2 ∨ (σ 27 2 : Int32).toInt = 3 ∨ (σ 27 2 : Int32).toInt = 4 ∨ (σ 27 2 : Int32).toInt = 5 by omega) with sw_1 | sw_1 | sw_1 | sw_1 | sw_1 | sw_1 | sw_1
  · -- case None
    refine r_tblOut C 156 dX7_readRest_4 sw_1 (by decide) ?_
    obtain ⟨s_156, es_156⟩ : ∃ t : Sg, t = σ := ⟨_, rfl⟩
    rw [← es_156]
    have es_156_27_1 : (s_156 27 1).toInt = (σ 27 1 : Int32).toInt := by rw [es_156] <;> rfl
    have es_156_27_7 : (s_156 27 7).toInt = (σ 27 7 : Int32).toInt := by rw [es_156] <;> rfl
    have es_156_27_8 : (s_156 27 8).toInt = (σ 27 8 : Int32).toInt := by rw [es_156] <;> rfl
    have os_156 : Off [27] σ s_156 := by rw [es_156]; exact Off.rf
    exact r_vret C T dX7_readRest_156 (⟨os_156, by omega, by omega, by omega, fun _ => by omega⟩)
  · -- case 0
    refine r_tblIn C (0) 44 dX7_readRest_4 sw_1 (by decide) (by decide) rfl (by decide) ?_
    refine r_aload_n C 0 dX7_readRest_44 rfl rfl ?_
    refine r_ldcS C 3 (by decide) dX7_readRest_45 ?_
    refine r_callV C (k := 27) [.ref (ad (100 + 3))] [] (c_X7_readOneOf E ad σ  (3) (by omega) (by decide)) lv_X7_44 (by decide) rfl rfl (by decide) (by decide) rfl rfl (Nat.le_of_ble_eq_true rfl) dX7_readRest_47 (fun r_2 τ_3 h_4 => ?_)
    refine r_pop C dX7_readRest_50 rfl ?_
    refine r_aload_n C 0 dX7_readRest_51 rfl rfl ?_
    refine r_aload_n C 0 dX7_readRest_52 rfl rfl ?_
    refine r_iconst C (1) dX7_readRest_53 (by decide) ?_
    refine r_bipush C (48) dX7_readRest_54 (by decide) ?_
    refine r_callV C (k := 27) [.int (1), .int (48)] [.ref (ad 27)] (c_X7_readNumber E ad τ_3  (1) (48) (by omega)) lv_X7_60 (by decide) rfl rfl (by decide) (by decide) rfl rfl (Nat.le_of_ble_eq_true rfl) dX7_readRest_56 (fun r_5 τ_6 h_7 => ?_)
    refine r_put C (k := 27) pf_X7_25 (by decide) (fun _ => rfl) (fun _ => Nat.le_of_ble_eq_true rfl) (fun _ _ => rfl) dX7_readRest_59 ?_
    refine r_goto C 156 dX7_readRest_62 (by decide) ?_
    obtain ⟨s_156, es_156⟩ : ∃ t : Sg, t = (sUp τ_6 27 4 (r_5)) := ⟨_, rfl⟩
    rw [← es_156]
    have es_156_27_1 : (s_156 27 1).toInt = (τ_6 27 1 : Int32).toInt := by rw [es_156] <;> rfl
    have es_156_27_7 : (s_156 27 7).toInt = (τ_6 27 7 : Int32).toInt := by rw [es_156] <;> rfl
    have es_156_27_8 : (s_156 27 8).toInt = (τ_6 27 8 : Int32).toInt := by rw [es_156] <;> rfl
    have os_156 : Off [27] τ_6 s_156 := by rw [es_156]; exact (Off.rf.up (by decide))
    exact r_vret C T dX7_readRest_156 (⟨((h_4.1.tr h_7.1 (fun _ h => h)).tr os_156 (fun _ h => h)), by omega, by omega, by omega, fun h => absurd h (by omega)⟩)
  · -- case 1
    refine r_tblIn C (1) 65 dX7_readRest_4 sw_1 (by decide) (by decide) rfl (by decide) ?_
    refine r_aload_n C 0 dX7_readRest_65 rfl rfl ?_
    refine r_aload_n C 0 dX7_readRest_66 rfl rfl ?_
    refine r_ldcS C 2 (by decide) dX7_readRest_67 ?_
    refine r_callV C (k := 27) [.ref (ad (100 + 2))] [.ref (ad 27)] (c_X7_readOneOf E ad σ  (2) (by omega) (by decide)) lv_X7_44 (by decide) rfl rfl (by decide) (by decide) rfl rfl (Nat.le_of_ble_eq_true rfl) dX7_readRest_69 (fun r_8 τ_9 h_10 => ?_)
    refine r_put C (k := 27) pf_X7_25 (by decide) (fun _ => rfl) (fun _ => Nat.le_of_ble_eq_true rfl) (fun _ _ => rfl) dX7_readRest_72 ?_
    obtain ⟨s_75, es_75⟩ : ∃ t : Sg, t = (sUp τ_9 27 4 (r_8)) := ⟨_, rfl⟩
    rw [← es_75]
    have es_75_27_1 : (s_75 27 1).toInt = (τ_9 27 1 : Int32).toInt := by rw [es_75] <;> rfl
    have es_75_27_7 : (s_75 27 7).toInt = (τ_9 27 7 : Int32).toInt := by rw [es_75] <;> rfl
    have es_75_27_8 : (s_75 27 8).toInt = (τ_9 27 8 : Int32).toInt := by rw [es_75] <;> rfl
    have os_75 : Off [27] τ_9 s_75 := by rw [es_75]; exact (Off.rf.up (by decide))
    refine r_aload_n C 0 dX7_readRest_75 rfl rfl ?_
    refine r_ldcS C 4 (by decide) dX7_readRest_76 ?_
    refine r_callV C (k := 27) [.ref (ad (100 + 4))] [] (c_X7_readOneOf E ad s_75  (4) (by omega) (by decide)) lv_X7_44 (by decide) rfl rfl (by decide) (by decide) rfl rfl (Nat.le_of_ble_eq_true rfl) dX7_readRest_78 (fun r_11 τ_12 h_13 => ?_)
    refine r_pop C dX7_readRest_81 rfl ?_
    refine r_aload_n C 0 dX7_readRest_82 rfl rfl ?_
    refine r_aload_n C 0 dX7_readRest_83 rfl rfl ?_
    refine r_iconst C (0) dX7_readRest_84 (by decide) ?_
    refine r_bipush C (9) dX7_readRest_85 (by decide) ?_
    refine r_callV C (k := 27) [.int (0), .int (9)] [.ref (ad 27)] (c_X7_readNumber E ad τ_12  (0) (9) (by omega)) lv_X7_60 (by decide) rfl rfl (by decide) (by decide) rfl rfl (Nat.le_of_ble_eq_true rfl) dX7_readRest_87 (fun r_14 τ_15 h_16 => ?_)
    refine r_put C (k := 27) pf_X7_28 (by decide) (fun _ => rfl) (fun _ => Nat.le_of_ble_eq_true rfl) (fun _ _ => rfl) dX7_readRest_90 ?_
    refine r_goto C 156 dX7_readRest_93 (by decide) ?_
    obtain ⟨s_156, es_156⟩ : ∃ t : Sg, t = (sUp τ_15 27 5 (r_14)) := ⟨_, rfl⟩
    rw [← es_156]
    have es_156_27_1 : (s_156 27 1).toInt = (τ_15 27 1 : Int32).toInt := by rw [es_156] <;> rfl
    have es_156_27_7 : (s_156 27 7).toInt = (τ_15 27 7 : Int32).toInt := by rw [es_156] <;> rfl
    have es_156_27_8 : (s_156 27 8).toInt = (τ_15 27 8 : Int32).toInt := by rw [es_156] <;> rfl
    have os_156 : Off [27] τ_15 s_156 := by rw [es_156]; exact (Off.rf.up (by decide))
    exact r_vret C T dX7_readRest_156 (⟨((((h_10.1.tr os_75 (fun _ h => h)).tr h_13.1 (fun _ h => h)).tr h_16.1 (fun _ h => h)).tr os_156 (fun _ h => h)), by omega, by omega, by omega, fun h => absurd h (by omega)⟩)
  · -- case 2
    refine r_tblIn C (2) 156 dX7_readRest_4 sw_1 (by decide) (by decide) rfl (by decide) ?_
    obtain ⟨s_156, es_156⟩ : ∃ t : Sg, t = σ := ⟨_, rfl⟩
    rw [← es_156]
    have es_156_27_1 : (s_156 27 1).toInt = (σ 27 1 : Int32).toInt := by rw [es_156] <;> rfl
    have es_156_27_7 : (s_156 27 7).toInt = (σ 27 7 : Int32).toInt := by rw [es_156] <;> rfl
    have es_156_27_8 : (s_156 27 8).toInt = (σ 27 8 : Int32).toInt := by rw [es_156] <;> rfl
    have os_156 : Off [27] σ s_156 := by rw [es_156]; exact Off.rf
    exact r_vret C T dX7_readRest_156 (⟨os_156, by omega, by omega, by omega, fun _ => by omega⟩)
  · -- case 3
    refine r_tblIn C (3) 96 dX7_readRest_4 sw_1 (by decide) (by decide) rfl (by decide) ?_
    refine r_aload_n C 0 dX7_readRest_96 rfl rfl ?_
    refine r_aload_n C 0 dX7_readRest_97 rfl rfl ?_
    refine r_iconst C (1) dX7_readRest_98 (by decide) ?_
    refine r_bipush C (12) dX7_readRest_99 (by decide) ?_
    refine r_callV C (k := 27) [.int (1), .int (12)] [.ref (ad 27)] (c_X7_readNumber E ad σ  (1) (12) (by omega)) lv_X7_60 (by decide) rfl rfl (by decide) (by decide) rfl rfl (Nat.le_of_ble_eq_true rfl) dX7_readRest_101 (fun r_17 τ_18 h_19 => ?_)
    refine r_put C (k := 27) pf_X7_25 (by decide) (fun _ => rfl) (fun _ => Nat.le_of_ble_eq_true rfl) (fun _ _ => rfl) dX7_readRest_104 ?_
    refine r_goto C 156 dX7_readRest_107 (by decide) ?_
    obtain ⟨s_156, es_156⟩ : ∃ t : Sg, t = (sUp τ_18 27 4 (r_17)) := ⟨_, rfl⟩
    rw [← es_156]
    have es_156_27_1 : (s_156 27 1).toInt = (τ_18 27 1 : Int32).toInt := by rw [es_156] <;> rfl
    have es_156_27_7 : (s_156 27 7).toInt = (τ_18 27 7 : Int32).toInt := by rw [es_156] <;> rfl
    have es_156_27_8 : (s_156 27 8).toInt = (τ_18 27 8 : Int32).toInt := by rw [es_156] <;> rfl
    have os_156 : Off [27] τ_18 s_156 := by rw [es_156]; exact (Off.rf.up (by decide))
    exact r_vret C T dX7_readRest_156 (⟨(h_19.1.tr os_156 (fun _ h => h)), by omega, by omega, by omega, fun h => absurd h (by omega)⟩)
  · -- case 4
    refine r_tblIn C (4) 110 dX7_readRest_4 sw_1 (by decide) (by decide) rfl (by decide) ?_
    refine r_aload_n C 0 dX7_readRest_110 rfl rfl ?_
    refine r_aload_n C 0 dX7_readRest_111 rfl rfl ?_
    refine r_iconst C (0) dX7_readRest_112 (by decide) ?_
    refine r_bipush C (23) dX7_readRest_113 (by decide) ?_
    refine r_callV C (k := 27) [.int (0), .int (23)] [.ref (ad 27)] (c_X7_readNumber E ad σ  (0) (23) (by omega)) lv_X7_60 (by decide) rfl rfl (by decide) (by decide) rfl rfl (Nat.le_of_ble_eq_true rfl) dX7_readRest_115 (fun r_20 τ_21 h_22 => ?_)
    refine r_put C (k := 27) pf_X7_25 (by decide) (fun _ => rfl) (fun _ => Nat.le_of_ble_eq_true rfl) (fun _ _ => rfl) dX7_readRest_118 ?_
    obtain ⟨s_121, es_121⟩ : ∃ t : Sg, t = (sUp τ_21 27 4 (r_20)) := ⟨_, rfl⟩
    rw [← es_121]
    have es_121_27_1 : (s_121 27 1).toInt = (τ_21 27 1 : Int32).toInt := by rw [es_121] <;> rfl
    have es_121_27_7 : (s_121 27 7).toInt = (τ_21 27 7 : Int32).toInt := by rw [es_121] <;> rfl
    have es_121_27_8 : (s_121 27 8).toInt = (τ_21 27 8 : Int32).toInt := by rw [es_121] <;> rfl
    have os_121 : Off [27] τ_21 s_121 := by rw [es_121]; exact (Off.rf.up (by decide))
    refine r_aload_n C 0 dX7_readRest_121 rfl rfl ?_
    refine r_ldcS C 5 (by decide) dX7_readRest_122 ?_
    refine r_callV C (k := 27) [.ref (ad (100 + 5))] [] (c_X7_readOneOf E ad s_121  (5) (by omega) (by decide)) lv_X7_44 (by decide) rfl rfl (by decide) (by decide) rfl rfl (Nat.le_of_ble_eq_true rfl) dX7_readRest_124 (fun r_23 τ_24 h_25 => ?_)
    refine r_pop C dX7_readRest_127 rfl ?_
    refine r_aload_n C 0 dX7_readRest_128 rfl rfl ?_
    refine r_aload_n C 0 dX7_readRest_129 rfl rfl ?_
    refine r_iconst C (0) dX7_readRest_130 (by decide) ?_
    refine r_bipush C (23) dX7_readRest_131 (by decide) ?_
    refine r_callV C (k := 27) [.int (0), .int (23)] [.ref (ad 27)] (c_X7_readNumber E ad τ_24  (0) (23) (by omega)) lv_X7_60 (by decide) rfl rfl (by decide) (by decide) rfl rfl (Nat.le_of_ble_eq_true rfl) dX7_readRest_133 (fun r_26 τ_27 h_28 => ?_)
    refine r_put C (k := 27) pf_X7_28 (by decide) (fun _ => rfl) (fun _ => Nat.le_of_ble_eq_true rfl) (fun _ _ => rfl) dX7_readRest_136 ?_
    refine r_goto C 156 dX7_readRest_139 (by decide) ?_
    obtain ⟨s_156, es_156⟩ : ∃ t : Sg, t = (sUp τ_27 27 5 (r_26)) := ⟨_, rfl⟩
    rw [← es_156]
    have es_156_27_1 : (s_156 27 1).toInt = (τ_27 27 1 : Int32).toInt := by rw [es_156] <;> rfl
    have es_156_27_7 : (s_156 27 7).toInt = (τ_27 27 7 : Int32).toInt := by rw [es_156] <;> rfl
    have es_156_27_8 : (s_156 27 8).toInt = (τ_27 27 8 : Int32).toInt := by rw [es_156] <;> rfl
    have os_156 : Off [27] τ_27 s_156 := by rw [es_156]; exact (Off.rf.up (by decide))
    exact r_vret C T dX7_readRest_156 (⟨((((h_22.1.tr os_121 (fun _ h => h)).tr h_25.1 (fun _ h => h)).tr h_28.1 (fun _ h => h)).tr os_156 (fun _ h => h)), by omega, by omega, by omega, fun h => absurd h (by omega)⟩)
  · -- case 5
    refine r_tblIn C (5) 142 dX7_readRest_4 sw_1 (by decide) (by decide) rfl (by decide) ?_
    refine r_aload_n C 0 dX7_readRest_142 rfl rfl ?_
    refine r_aload_n C 0 dX7_readRest_143 rfl rfl ?_
    refine r_iconst C (1) dX7_readRest_144 (by decide) ?_
    refine r_bipush C (24) dX7_readRest_145 (by decide) ?_
    refine r_callV C (k := 27) [.int (1), .int (24)] [.ref (ad 27)] (c_X7_readNumber E ad σ  (1) (24) (by omega)) lv_X7_60 (by decide) rfl rfl (by decide) (by decide) rfl rfl (Nat.le_of_ble_eq_true rfl) dX7_readRest_147 (fun r_29 τ_30 h_31 => ?_)
    refine r_put C (k := 27) pf_X7_25 (by decide) (fun _ => rfl) (fun _ => Nat.le_of_ble_eq_true rfl) (fun _ _ => rfl) dX7_readRest_150 ?_
    refine r_goto C 156 dX7_readRest_153 (by decide) ?_
    obtain ⟨s_156, es_156⟩ : ∃ t : Sg, t = (sUp τ_30 27 4 (r_29)) := ⟨_, rfl⟩
    rw [← es_156]
    have es_156_27_1 : (s_156 27 1).toInt = (τ_30 27 1 : Int32).toInt := by rw [es_156] <;> rfl
    have es_156_27_7 : (s_156 27 7).toInt = (τ_30 27 7 : Int32).toInt := by rw [es_156] <;> rfl
    have es_156_27_8 : (s_156 27 8).toInt = (τ_30 27 8 : Int32).toInt := by rw [es_156] <;> rfl
    have os_156 : Off [27] τ_30 s_156 := by rw [es_156]; exact (Off.rf.up (by decide))
    exact r_vret C T dX7_readRest_156 (⟨(h_31.1.tr os_156 (fun _ h => h)), by omega, by omega, by omega, fun h => absurd h (by omega)⟩)
set_option maxHeartbeats 4000000 in
set_option maxRecDepth 100000 in
theorem c_X7_readRule (E : Ev) (ad : Nat → Nat) (σ : Sg)  (hl : 0 ≤ (σ 27 1).toInt ∧ (σ 27 1).toInt ≤ 60) : Ct E ad yX7_readRule cX7_readRule 1 (some .int) 7 [.ref (ad 27)] σ (fun r τ => Off [27] σ τ ∧ (τ 27 1).toInt = (σ 27 1).toInt ∧ ((σ 27 1).toInt = 0 → r.toInt = 0)) := by
  have k_m3 : (-3 : Int32).toInt = -3 := by decide
  have k_0 : (0 : Int32).toInt = 0 := by decide
  have k_2 : (2 : Int32).toInt = 2 := by decide
  refine ct_of RX7 rfl (by decide +kernel) [(0, .ref (ad 27))] rfl (Nat.le_of_ble_eq_true rfl) (fun G C T => ?_)
  refine r_aload_n C 0 dX7_readRule_0 rfl rfl ?_
  refine r_iconst C (0) dX7_readRule_1 (by decide) ?_
  refine r_put C (k := 27) pf_X7_34 (by decide) (fun _ => rfl) (fun _ => Nat.le_of_ble_eq_true rfl) (fun _ _ => rfl) dX7_readRule_2 ?_
  refine r_aload_n C 0 dX7_readRule_5 rfl rfl ?_
  refine r_bipush C (-3) dX7_readRule_6 (by decide) ?_
  refine r_put C (k := 27) pf_X7_37 (by decide) (fun _ => rfl) (fun _ => Nat.le_of_ble_eq_true rfl) (fun _ _ => rfl) dX7_readRule_8 ?_
  refine r_aload_n C 0 dX7_readRule_11 rfl rfl ?_
  refine r_bipush C (-3) dX7_readRule_12 (by decide) ?_
  refine r_put C (k := 27) pf_X7_25 (by decide) (fun _ => rfl) (fun _ => Nat.le_of_ble_eq_true rfl) (fun _ _ => rfl) dX7_readRule_14 ?_
  refine r_aload_n C 0 dX7_readRule_17 rfl rfl ?_
  refine r_bipush C (-3) dX7_readRule_18 (by decide) ?_
  refine r_put C (k := 27) pf_X7_28 (by decide) (fun _ => rfl) (fun _ => Nat.le_of_ble_eq_true rfl) (fun _ _ => rfl) dX7_readRule_20 ?_
  obtain ⟨s_23, es_23⟩ : ∃ t : Sg, t = (sUp (sUp (sUp (sUp σ 27 7 (0)) 27 8 ((-3))) 27 4 ((-3))) 27 5 ((-3))) := ⟨_, rfl⟩
  rw [← es_23]
  have es_23_27_1 : (s_23 27 1).toInt = (σ 27 1 : Int32).toInt := by rw [es_23] <;> rfl
  have es_23_27_7 : (s_23 27 7).toInt = (0 : Int32).toInt := by rw [es_23] <;> rfl
  have es_23_27_8 : (s_23 27 8).toInt = ((-3) : Int32).toInt := by rw [es_23] <;> rfl
  have os_23 : Off [27] σ s_23 := by rw [es_23]; exact ((((Off.rf.up (by decide)).up (by decide)).up (by decide)).up (by decide))
  refine r_aload_n C 0 dX7_readRule_23 rfl rfl ?_
  refine r_aload_n C 0 dX7_readRule_24 rfl rfl ?_
  refine r_ldcS C 0 (by decide) dX7_readRule_25 ?_
  refine r_callV C (k := 27) [.ref (ad (100 + 0))] [.ref (ad 27)] (c_X7_readOneOf E ad s_23  (0) (by omega) (by decide)) lv_X7_44 (by decide) rfl rfl (by decide) (by decide) rfl rfl (Nat.le_of_ble_eq_true rfl) dX7_readRule_27 (fun r_1 τ_2 h_3 => ?_)
  refine r_put C (k := 27) pf_X7_19 (by decide) (fun _ => rfl) (fun _ => Nat.le_of_ble_eq_true rfl) (fun _ _ => rfl) dX7_readRule_30 ?_
  obtain ⟨s_33, es_33⟩ : ∃ t : Sg, t = (sUp τ_2 27 2 (r_1)) := ⟨_, rfl⟩
  rw [← es_33]
  have es_33_27_1 : (s_33 27 1).toInt = (τ_2 27 1 : Int32).toInt := by rw [es_33] <;> rfl
  have es_33_27_7 : (s_33 27 7).toInt = (τ_2 27 7 : Int32).toInt := by rw [es_33] <;> rfl
  have es_33_27_8 : (s_33 27 8).toInt = (τ_2 27 8 : Int32).toInt := by rw [es_33] <;> rfl
  have es_33_27_2 : (s_33 27 2).toInt = (r_1 : Int32).toInt := by rw [es_33] <;> rfl
  have os_33 : Off [27] τ_2 s_33 := by rw [es_33]; exact (Off.rf.up (by decide))
  refine r_aload_n C 0 dX7_readRule_33 rfl rfl ?_
  refine r_aload_n C 0 dX7_readRule_34 rfl rfl ?_
  refine r_aload_n C 0 dX7_readRule_35 rfl rfl ?_
  refine r_get C (k := 27) (v := .int (s_33 27 2)) f_X7_19 (by decide) rfl rfl dX7_readRule_36 ?_
  refine r_iconst C (2) dX7_readRule_39 (by decide) ?_
  refine r_icmp_ne C 48 dX7_readRule_40 (by decide) (fun c_4 => ?_) (fun c_4 => ?_)
  · -- to 48
    refine r_ldcS C 2 (by decide) dX7_readRule_48 ?_
    refine r_callV C (k := 27) [.ref (ad (100 + 2))] [.ref (ad 27)] (c_X7_readOneOf E ad s_33  (2) (by omega) (by decide)) lv_X7_44 (by decide) rfl rfl (by decide) (by decide) rfl rfl (Nat.le_of_ble_eq_true rfl) dX7_readRule_50 (fun r_5 τ_6 h_7 => ?_)
    refine r_put C (k := 27) pf_X7_22 (by decide) (fun _ => rfl) (fun _ => Nat.le_of_ble_eq_true rfl) (fun _ _ => rfl) dX7_readRule_53 ?_
    obtain ⟨s_56, es_56⟩ : ∃ t : Sg, t = (sUp τ_6 27 3 (r_5)) := ⟨_, rfl⟩
    rw [← es_56]
    have es_56_27_1 : (s_56 27 1).toInt = (τ_6 27 1 : Int32).toInt := by rw [es_56] <;> rfl
    have es_56_27_7 : (s_56 27 7).toInt = (τ_6 27 7 : Int32).toInt := by rw [es_56] <;> rfl
    have es_56_27_8 : (s_56 27 8).toInt = (τ_6 27 8 : Int32).toInt := by rw [es_56] <;> rfl
    have es_56_27_2 : (s_56 27 2).toInt = (τ_6 27 2 : Int32).toInt := by rw [es_56] <;> rfl
    have os_56 : Off [27] τ_6 s_56 := by rw [es_56]; exact (Off.rf.up (by decide))
    refine r_aload_n C 0 dX7_readRule_56 rfl rfl ?_
    refine r_callVv C (k := 27) [] [] (c_X7_readRest E ad s_56   (by omega)) lv_X7_52 (by decide) rfl rfl (by decide) (by decide) rfl rfl (Nat.le_of_ble_eq_true rfl) dX7_readRule_57 (fun τ_9 h_10 => ?_)
    refine r_aload_n C 0 dX7_readRule_60 rfl rfl ?_
    refine r_callVv C (k := 27) [] [] (c_X7_readEnd E ad τ_9   (by omega)) lv_X7_55 (by decide) rfl rfl (by decide) (by decide) rfl rfl (Nat.le_of_ble_eq_true rfl) dX7_readRule_61 (fun τ_12 h_13 => ?_)
    refine r_aload_n C 0 dX7_readRule_64 rfl rfl ?_
    refine r_get C (k := 27) (v := .int (τ_12 27 8)) f_X7_37 (by decide) rfl rfl dX7_readRule_65 ?_
    exact r_iret C T dX7_readRule_68 (⟨((((((os_23.tr h_3.1 (fun _ h => h)).tr os_33 (fun _ h => h)).tr h_7.1 (fun _ h => h)).tr os_56 (fun _ h => h)).tr h_10.1 (fun _ h => h)).tr h_13.1 (fun _ h => h)), by omega, fun h => by omega⟩)
  · -- to 43
    refine r_ldcS C 1 (by decide) dX7_readRule_43 ?_
    refine r_goto C 50 dX7_readRule_45 (by decide) ?_
    refine r_callV C (k := 27) [.ref (ad (100 + 1))] [.ref (ad 27)] (c_X7_readOneOf E ad s_33  (1) (by omega) (by decide)) lv_X7_44 (by decide) rfl rfl (by decide) (by decide) rfl rfl (Nat.le_of_ble_eq_true rfl) dX7_readRule_50 (fun r_14 τ_15 h_16 => ?_)
    refine r_put C (k := 27) pf_X7_22 (by decide) (fun _ => rfl) (fun _ => Nat.le_of_ble_eq_true rfl) (fun _ _ => rfl) dX7_readRule_53 ?_
    obtain ⟨s_56, es_56⟩ : ∃ t : Sg, t = (sUp τ_15 27 3 (r_14)) := ⟨_, rfl⟩
    rw [← es_56]
    have es_56_27_1 : (s_56 27 1).toInt = (τ_15 27 1 : Int32).toInt := by rw [es_56] <;> rfl
    have es_56_27_7 : (s_56 27 7).toInt = (τ_15 27 7 : Int32).toInt := by rw [es_56] <;> rfl
    have es_56_27_8 : (s_56 27 8).toInt = (τ_15 27 8 : Int32).toInt := by rw [es_56] <;> rfl
    have es_56_27_2 : (s_56 27 2).toInt = (τ_15 27 2 : Int32).toInt := by rw [es_56] <;> rfl
    have os_56 : Off [27] τ_15 s_56 := by rw [es_56]; exact (Off.rf.up (by decide))
    refine r_aload_n C 0 dX7_readRule_56 rfl rfl ?_
    refine r_callVv C (k := 27) [] [] (c_X7_readRest E ad s_56   (by omega)) lv_X7_52 (by decide) rfl rfl (by decide) (by decide) rfl rfl (Nat.le_of_ble_eq_true rfl) dX7_readRule_57 (fun τ_18 h_19 => ?_)
    refine r_aload_n C 0 dX7_readRule_60 rfl rfl ?_
    refine r_callVv C (k := 27) [] [] (c_X7_readEnd E ad τ_18   (by omega)) lv_X7_55 (by decide) rfl rfl (by decide) (by decide) rfl rfl (Nat.le_of_ble_eq_true rfl) dX7_readRule_61 (fun τ_21 h_22 => ?_)
    refine r_aload_n C 0 dX7_readRule_64 rfl rfl ?_
    refine r_get C (k := 27) (v := .int (τ_21 27 8)) f_X7_37 (by decide) rfl rfl dX7_readRule_65 ?_
    exact r_iret C T dX7_readRule_68 (⟨((((((os_23.tr h_3.1 (fun _ h => h)).tr os_33 (fun _ h => h)).tr h_16.1 (fun _ h => h)).tr os_56 (fun _ h => h)).tr h_19.1 (fun _ h => h)).tr h_22.1 (fun _ h => h)), by omega, fun h => by omega⟩)
set_option maxHeartbeats 4000000 in
set_option maxRecDepth 100000 in
theorem c_X7_takeBytes (E : Ev) (ad : Nat → Nat) (σ : Sg) (b : Int64) (g : Int32) (hn : 0 ≤ (σ 27 1).toInt ∧ 0 ≤ g.toInt ∧ g.toInt ≤ 8 ∧ (σ 27 1).toInt + g.toInt ≤ 60) : CtV E ad yX7_takeBytes cX7_takeBytes 5 0 [.ref (ad 27), .long b, .int g] σ (fun τ => Off [27, 28] σ τ ∧ (τ 27 1).toInt = (σ 27 1).toInt + g.toInt) := by
  have k_0 : (0 : Int32).toInt = 0 := by decide
  have k_1 : (1 : Int32).toInt = 1 := by decide
  have k_8 : (8 : Int32).toInt = 8 := by decide
  have k_60 : (60 : Int32).toInt = 60 := by decide
  refine ctv_of RX7 rfl (by decide +kernel) [(0, .ref (ad 27)), (1, .long (b)), (3, .int (g))] rfl (Nat.le_of_ble_eq_true rfl) (fun G C T => ?_)
  refine r_iconst C (0) dX7_takeBytes_0 (by decide) ?_
  refine r_istore C [(4, .int (0)), (0, .ref (ad 27)), (1, .long (b)), (3, .int (g))] dX7_takeBytes_1 (by decide) rfl ?_
  have L_3 : ∀ (n : Nat), ∀ (τ1 : Sg) (i : Int32), (0 ≤ i.toInt ∧ i.toInt ≤ g.toInt) → (Off [27, 28] σ τ1) → ((τ1 27 1).toInt = (σ 27 1).toInt + i.toInt) → 8 - i.toInt < (n : Int) → At E ad G 5 3 [(4, .int (i)), (0, .ref (ad 27)), (1, .long (b)), (3, .int (g))] [] τ1 := by
    intro n
    induction n with
    | zero =>
      intro τ1 i hi ho hz hm
      exact absurd hm (by omega)
    | succ n ih =>
      intro τ1 i hi ho hz hm
      have ih_3 := ih
      clear ih
      refine r_iload C 0 dX7_takeBytes_3 rfl ?_
      refine r_iload_n C 3 dX7_takeBytes_5 rfl rfl ?_
      refine r_icmp_ge C 55 dX7_takeBytes_6 (by decide) (fun c_1 => ?_) (fun c_1 => ?_)
      · -- to 55
        exact r_vret C T dX7_takeBytes_55 (⟨ho, by omega⟩)
      · -- to 9
        refine r_aload_n C 1 dX7_takeBytes_9 rfl rfl ?_
        refine r_get C (k := 27) (v := .int (τ1 27 1)) f_X7_15 (by decide) rfl rfl dX7_takeBytes_10 ?_
        refine r_bipush C (60) dX7_takeBytes_13 (by decide) ?_
        refine r_icmp_ge C 55 dX7_takeBytes_15 (by decide) (fun c_2 => absurd c_2 (by omega)) (fun c_2 => ?_)
        refine r_aload_n C 1 dX7_takeBytes_18 rfl rfl ?_
        refine r_get C (k := 27) (v := .ref (ad 28)) f_X7_9 (by decide) rfl rfl dX7_takeBytes_19 ?_
        refine r_aload_n C 1 dX7_takeBytes_22 rfl rfl ?_
        refine r_get C (k := 27) (v := .int (τ1 27 1)) f_X7_15 (by decide) rfl rfl dX7_takeBytes_23 ?_
        refine r_lload_n C 2 dX7_takeBytes_26 rfl rfl ?_
        refine r_bipush C (8) dX7_takeBytes_27 (by decide) ?_
        refine r_iload C 0 dX7_takeBytes_29 rfl ?_
        refine r_imul C dX7_takeBytes_31 ?_
        refine r_nm (P := fun z => z = (8) * (i)) rfl (fun z_3 hz_4 => ?_)
        refine r_lushr C dX7_takeBytes_32 ?_
        refine r_ldc2 C (255) kc_X7_40 dX7_takeBytes_33 ?_
        refine r_land C dX7_takeBytes_36 ?_
        refine r_l2i C dX7_takeBytes_37 ?_
        refine r_nm (P := fun z => z = ((((b : Int64).toUInt64 >>> ((z_3 : Int32).toInt64.toUInt64 &&& Int64.toUInt64 63)).toInt64 : Int64) &&& (255) : Int64).toInt32) rfl (fun z_5 hz_6 => ?_)
        refine r_iast C (k := 28) (by decide) (fun _ => rfl) (by omega) dX7_takeBytes_38 ?_
        refine r_aload_n C 1 dX7_takeBytes_39 rfl rfl ?_
        refine r_dup C dX7_takeBytes_40 rfl ?_
        refine r_get C (k := 27) (v := .int (τ1 27 1)) f_X7_15 (by decide) rfl rfl dX7_takeBytes_41 ?_
        refine r_iconst C (1) dX7_takeBytes_44 (by decide) ?_
        refine r_iadd C dX7_takeBytes_45 ?_
        refine r_nm (P := fun z => z.toInt = (τ1 27 1 : Int32).toInt + (1 : Int32).toInt ∧ z = (τ1 27 1) + (1)) ⟨ta_add (by omega), rfl⟩ (fun z_7 hz_8 => ?_)
        refine r_put C (k := 27) pf_X7_15 (by decide) (fun _ => rfl) (fun _ => Nat.le_of_ble_eq_true rfl) (fun _ _ => rfl) dX7_takeBytes_46 ?_
        refine r_iinc C 0 (fun z => [(4, .int (z)), (0, .ref (ad 27)), (1, .long (b)), (3, .int (g))]) dX7_takeBytes_49 rfl (by decide) (by decide) (by omega) (fun _ => rfl) (fun z_9 hz_10 => ?_)
        refine r_goto C 3 dX7_takeBytes_52 (by decide) ?_
        exact At.sub [0, 1, 2, 3] rfl (ih_3 (sUp (sUp τ1 28 ((τ1 27 1 : Int32).toInt.toNat) (z_5)) 27 1 (z_7)) (z_9 : Int32) (by omega) ((ho.up (by decide)).up (by decide)) (show (z_7 : Int32).toInt = _ by omega) (by omega))
  exact At.sub [0, 1, 2, 3] rfl (L_3 ((8 - (0 : Int32).toInt).toNat + 1) σ (0 : Int32) (by omega) Off.rf (by omega) (by omega))
set_option maxHeartbeats 4000000 in
set_option maxRecDepth 100000 in
theorem c_X7_wipe (E : Ev) (ad : Nat → Nat) (σ : Sg)   : CtV E ad yX7_wipe cX7_wipe 1 0 [.ref (ad 27)] σ (fun τ => τ = sUp σ 27 1 0) := by
  have k_0 : (0 : Int32).toInt = 0 := by decide
  refine ctv_of RX7 rfl (by decide +kernel) [(0, .ref (ad 27))] rfl (Nat.le_of_ble_eq_true rfl) (fun G C T => ?_)
  refine r_aload_n C 0 dX7_wipe_0 rfl rfl ?_
  refine r_iconst C (0) dX7_wipe_1 (by decide) ?_
  refine r_put C (k := 27) pf_X7_15 (by decide) (fun _ => rfl) (fun _ => Nat.le_of_ble_eq_true rfl) (fun _ _ => rfl) dX7_wipe_2 ?_
  exact r_vret C T dX7_wipe_5 (rfl)
