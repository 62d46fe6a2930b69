theorem Off.st {S : List Nat} {σ τ : Sg} {k : Nat} {f : Nat → Int32} (h : Off S σ τ) (hk : k ∈ S) : Off S σ (sSet τ k f) := fun i hi => (if_neg (fun e => hi (by rw [e]; exact hk))).trans (h i hi)
/-- what the reader may change: the fields 31 to 37 of the reference's object -/
def KT (σ τ : Sg) : Prop := Off [39] σ τ ∧ ∀ j, j < 31 ∨ 38 ≤ j → τ 39 j = σ 39 j
theorem KT.rf {σ : Sg} : KT σ σ := ⟨Off.rf, fun _ _ => rfl⟩
theorem KT.tr {σ τ υ : Sg} (h : KT σ τ) (g : KT τ υ) : KT σ υ := ⟨h.1.tr g.1 (fun _ h => h), fun j hj => (g.2 j hj).trans (h.2 j hj)⟩
theorem KT.up {σ τ : Sg} {j : Nat} {v : Int32} (h : KT σ τ) (hj : 31 ≤ j ∧ j ≤ 37) : KT σ (sUp τ 39 j v) := ⟨h.1.up (by decide), fun i hi => by rw [sUp_eq]; exact (if_neg (by omega)).trans (h.2 i hi)⟩
theorem ta_shl12 {s : Int32} (h : 0 ≤ s.toInt ∧ s.toInt ≤ 12) : (1 ≤ ((1 : Int32) <<< (s &&& 31)).toInt ∧ ((1 : Int32) <<< (s &&& 31)).toInt ≤ 4096) ∧ (s.toInt = 0 → ((1 : Int32) <<< (s &&& 31)).toInt = 1) := by
  have key : ∀ n, n < 13 → (1 ≤ ((1 : Int32) <<< (nI n &&& 31)).toInt ∧ ((1 : Int32) <<< (nI n &&& 31)).toInt ≤ 4096) ∧ ((nI n).toInt = 0 → ((1 : Int32) <<< (nI n &&& 31)).toInt = 1) := by decide +kernel
  obtain ⟨n, hn, rfl⟩ : ∃ n : Nat, n < 13 ∧ s = nI n := ⟨s.toInt.toNat, by omega, ta_inj (by rw [nI_toInt (by omega)]; omega)⟩
  exact key n hn
set_option maxHeartbeats 4000000 in
set_option maxRecDepth 100000 in
theorem c_X9_isInForce (E : Ev) (ad : Nat → Nat) (σ : Sg) (p : Int32) (q : Int32) (hp : 0 ≤ p.toInt ∧ p.toInt < 12) : Ct E ad yX9_isInForce cX9_isInForce 3 (some .boolean) 0 [.ref (ad 39), .int p, .int q] σ (fun r τ => τ = σ ∧ (r.toInt = 0 ∨ r.toInt = 1)) := by
  have k_0 : (0 : Int32).toInt = 0 := by decide
  have k_1 : (1 : Int32).toInt = 1 := by decide
  refine ct_of RX9 rfl (by decide +kernel) [(0, .ref (ad 39)), (1, .int (p)), (2, .int (q))] rfl (Nat.le_of_ble_eq_true rfl) (fun G C T => ?_)
  refine r_aload_n C 0 dX9_isInForce_0 rfl rfl ?_
  refine r_get C (k := 39) (v := .ref (ad 50)) f_X9_41 (by decide) rfl rfl dX9_isInForce_1 ?_
  refine r_iload_n C 1 dX9_isInForce_4 rfl rfl ?_
  refine r_iald C (k := 50) (by decide) rfl (by omega) (σ 50 ((p : Int32).toInt.toNat)) rfl dX9_isInForce_5 ?_
  refine r_iload_n C 2 dX9_isInForce_6 rfl rfl ?_
  refine r_icmp_gt C 33 dX9_isInForce_7 (by decide) (fun c_2 => ?_) (fun c_2 => ?_)
  · -- to 33
    refine r_iconst C (0) dX9_isInForce_33 (by decide) ?_
    exact r_zret C T dX9_isInForce_34 (by omega) (⟨rfl, by omega⟩)
  · -- to 10
    refine r_aload_n C 0 dX9_isInForce_10 rfl rfl ?_
    refine r_get C (k := 39) (v := .ref (ad 51)) f_X9_44 (by decide) rfl rfl dX9_isInForce_11 ?_
    refine r_iload_n C 1 dX9_isInForce_14 rfl rfl ?_
    refine r_iald C (k := 51) (by decide) rfl (by omega) (σ 51 ((p : Int32).toInt.toNat)) rfl dX9_isInForce_15 ?_
    refine r_if_lt C 29 dX9_isInForce_16 (by decide) (fun c_4 => ?_) (fun c_4 => ?_)
    · -- to 29
      refine r_iconst C (1) dX9_isInForce_29 (by decide) ?_
      refine r_goto C 34 dX9_isInForce_30 (by decide) ?_
      exact r_zret C T dX9_isInForce_34 (by omega) (⟨rfl, by omega⟩)
    · -- to 19
      refine r_iload_n C 2 dX9_isInForce_19 rfl rfl ?_
      refine r_aload_n C 0 dX9_isInForce_20 rfl rfl ?_
      refine r_get C (k := 39) (v := .ref (ad 51)) f_X9_44 (by decide) rfl rfl dX9_isInForce_21 ?_
      refine r_iload_n C 1 dX9_isInForce_24 rfl rfl ?_
      refine r_iald C (k := 51) (by decide) rfl (by omega) (σ 51 ((p : Int32).toInt.toNat)) rfl dX9_isInForce_25 ?_
      refine r_icmp_ge C 33 dX9_isInForce_26 (by decide) (fun c_6 => ?_) (fun c_6 => ?_)
      · -- to 33
        refine r_iconst C (0) dX9_isInForce_33 (by decide) ?_
        exact r_zret C T dX9_isInForce_34 (by omega) (⟨rfl, by omega⟩)
      · -- to 29
        refine r_iconst C (1) dX9_isInForce_29 (by decide) ?_
        refine r_goto C 34 dX9_isInForce_30 (by decide) ?_
        exact r_zret C T dX9_isInForce_34 (by omega) (⟨rfl, by omega⟩)
set_option maxHeartbeats 4000000 in
set_option maxRecDepth 100000 in
theorem c_X9_wanted (E : Ev) (ad : Nat → Nat) (σ : Sg) (p : Int32) (q : Int32) (hM : IM σ) : Ct E ad yX9_wanted cX9_wanted 5 (some .int) 1 [.ref (ad 39), .int p, .int q] σ (fun r τ => τ = σ ∧ True) := by
  have k_0 : (0 : Int32).toInt = 0 := by decide
  have k_1 : (1 : Int32).toInt = 1 := by decide
  have k_2 : (2 : Int32).toInt = 2 := by decide
  have hJ := hM
  unfold IM at hJ
  obtain ⟨n0, n1, n8, n17, n29, n39, n44, c40, c41, c42, c54, c58⟩ := hJ
  refine ct_of RX9 rfl (by decide +kernel) [(0, .ref (ad 39)), (1, .int (p)), (2, .int (q))] rfl (Nat.le_of_ble_eq_true rfl) (fun G C T => ?_)
  refine r_iconst C (1) dX9_wanted_0 (by decide) ?_
  refine r_istore_n C [(3, .int (1)), (0, .ref (ad 39)), (1, .int (p)), (2, .int (q))] dX9_wanted_1 rfl (by decide) rfl ?_
  refine r_iconst C (0) dX9_wanted_2 (by decide) ?_
  refine r_istore C [(4, .int (0)), (3, .int (1)), (0, .ref (ad 39)), (1, .int (p)), (2, .int (q))] dX9_wanted_3 (by decide) rfl ?_
  have L_5 : ∀ (n : Nat), ∀ (a : Int32) (i : Int32), (0 ≤ i.toInt ∧ i.toInt ≤ 12) → 12 - i.toInt < (n : Int) → At E ad G 5 5 [(4, .int (i)), (3, .int (a)), (0, .ref (ad 39)), (1, .int (p)), (2, .int (q))] [] σ := by
    intro n
    induction n with
    | zero =>
      intro a i hi hm
      exact absurd hm (by omega)
    | succ n ih =>
      intro a i hi hm
      have ih_5 := ih
      clear ih
      refine r_iload C 0 dX9_wanted_5 rfl ?_
      refine r_aload_n C 2 dX9_wanted_7 rfl rfl ?_
      refine r_get C (k := 39) (v := .int (σ 39 8)) f_X9_140 (by decide) rfl rfl dX9_wanted_8 ?_
      refine r_icmp_ge C 58 dX9_wanted_11 (by decide) (fun c_1 => ?_) (fun c_1 => ?_)
      · -- to 58
        refine r_iload_n C 1 dX9_wanted_58 rfl rfl ?_
        exact r_iret C T dX9_wanted_59 (⟨rfl, trivial⟩)
      · -- to 14
        refine r_aload_n C 2 dX9_wanted_14 rfl rfl ?_
        refine r_get C (k := 39) (v := .ref (ad 46)) f_X9_29 (by decide) rfl rfl dX9_wanted_15 ?_
        refine r_iload C 0 dX9_wanted_18 rfl ?_
        refine r_iald C (k := 46) (by decide) rfl (by omega) (σ 46 ((i : Int32).toInt.toNat)) rfl dX9_wanted_20 ?_
        refine r_iconst C (2) dX9_wanted_21 (by decide) ?_
        refine r_icmp_ne C 50 dX9_wanted_22 (by decide) (fun c_3 => ?_) (fun c_3 => ?_)
        · -- to 50
          refine r_iload_n C 1 dX9_wanted_50 rfl rfl ?_
          refine r_istore_n C [(3, .int (a)), (4, .int (i)), (0, .ref (ad 39)), (1, .int (p)), (2, .int (q))] dX9_wanted_51 rfl (by decide) rfl ?_
          refine r_iinc C 1 (fun z => [(4, .int (z)), (3, .int (a)), (0, .ref (ad 39)), (1, .int (p)), (2, .int (q))]) dX9_wanted_52 rfl (by decide) (by decide) (by omega) (fun _ => rfl) (fun z_4 hz_5 => ?_)
          refine r_goto C 5 dX9_wanted_55 (by decide) ?_
          exact At.sub [0, 1, 2, 3, 4] rfl (ih_5 (a : Int32) (z_4 : Int32) (by omega) (by omega))
        · -- to 25
          refine r_aload_n C 2 dX9_wanted_25 rfl rfl ?_
          refine r_get C (k := 39) (v := .ref (ad 47)) f_X9_32 (by decide) rfl rfl dX9_wanted_26 ?_
          refine r_iload C 0 dX9_wanted_29 rfl ?_
          refine r_iald C (k := 47) (by decide) rfl (by omega) (σ 47 ((i : Int32).toInt.toNat)) rfl dX9_wanted_31 ?_
          refine r_iload_n C 3 dX9_wanted_32 rfl rfl ?_
          refine r_icmp_ne C 50 dX9_wanted_33 (by decide) (fun c_7 => ?_) (fun c_7 => ?_)
          · -- to 50
            refine r_iload_n C 1 dX9_wanted_50 rfl rfl ?_
            refine r_istore_n C [(3, .int (a)), (4, .int (i)), (0, .ref (ad 39)), (1, .int (p)), (2, .int (q))] dX9_wanted_51 rfl (by decide) rfl ?_
            refine r_iinc C 1 (fun z => [(4, .int (z)), (3, .int (a)), (0, .ref (ad 39)), (1, .int (p)), (2, .int (q))]) dX9_wanted_52 rfl (by decide) (by decide) (by omega) (fun _ => rfl) (fun z_8 hz_9 => ?_)
            refine r_goto C 5 dX9_wanted_55 (by decide) ?_
            exact At.sub [0, 1, 2, 3, 4] rfl (ih_5 (a : Int32) (z_8 : Int32) (by omega) (by omega))
          · -- to 36
            refine r_aload_n C 2 dX9_wanted_36 rfl rfl ?_
            refine r_iload C 0 dX9_wanted_37 rfl ?_
            refine r_iload_n C 4 dX9_wanted_39 rfl rfl ?_
            refine r_callV C (k := 39) [.int (i), .int (q)] [] (c_X9_isInForce E ad σ  (i) (q) (by omega)) lv_X9_143 (by decide) rfl rfl (by decide) (by decide) rfl rfl (Nat.le_of_ble_eq_true rfl) dX9_wanted_40 (fun r_10 τ_11 h_12 => ?_)
            obtain ⟨eh_12, h_12⟩ := h_12
            obtain rfl := eh_12.symm
            refine r_if_eq C 50 dX9_wanted_43 (by decide) (fun c_13 => ?_) (fun c_13 => ?_)
            · -- to 50
              refine r_iload_n C 1 dX9_wanted_50 rfl rfl ?_
              refine r_istore_n C [(3, .int (a)), (4, .int (i)), (0, .ref (ad 39)), (1, .int (p)), (2, .int (q))] dX9_wanted_51 rfl (by decide) rfl ?_
              refine r_iinc C 1 (fun z => [(4, .int (z)), (3, .int (a)), (0, .ref (ad 39)), (1, .int (p)), (2, .int (q))]) dX9_wanted_52 rfl (by decide) (by decide) (by omega) (fun _ => rfl) (fun z_14 hz_15 => ?_)
              refine r_goto C 5 dX9_wanted_55 (by decide) ?_
              exact At.sub [0, 1, 2, 3, 4] rfl (ih_5 (a : Int32) (z_14 : Int32) (by omega) (by omega))
            · -- to 46
              refine r_iconst C (2) dX9_wanted_46 (by decide) ?_
              refine r_goto C 51 dX9_wanted_47 (by decide) ?_
              refine r_istore_n C [(3, .int (2)), (4, .int (i)), (0, .ref (ad 39)), (1, .int (p)), (2, .int (q))] dX9_wanted_51 rfl (by decide) rfl ?_
              refine r_iinc C 1 (fun z => [(4, .int (z)), (3, .int (2)), (0, .ref (ad 39)), (1, .int (p)), (2, .int (q))]) dX9_wanted_52 rfl (by decide) (by decide) (by omega) (fun _ => rfl) (fun z_16 hz_17 => ?_)
              refine r_goto C 5 dX9_wanted_55 (by decide) ?_
              exact At.sub [0, 1, 2, 3, 4] rfl (ih_5 (2 : Int32) (z_16 : Int32) (by omega) (by omega))
  exact At.sub [0, 1, 2, 3, 4] rfl (L_5 ((12 - (0 : Int32).toInt).toNat + 1) (1 : Int32) (0 : Int32) (by omega) (by omega))
set_option maxHeartbeats 4000000 in
set_option maxRecDepth 100000 in
theorem c_X9_isSafe (E : Ev) (ad : Nat → Nat) (σ : Sg) (p : Int32) (q : Int32) (u : Int32) (v : Int32) (hM : IM σ) : Ct E ad yX9_isSafe cX9_isSafe 9 (some .boolean) 2 [.ref (ad 39), .int p, .int q, .int u, .int v] σ (fun r τ => ∃ g, τ = sSet σ 65 g ∧ ((r.toInt = 0 ∨ r.toInt = 1) ∧ ((∀ j, σ 45 j = 0) → r.toInt = 1))) := by
  have k_0 : (0 : Int32).toInt = 0 := by decide
  have k_1 : (1 : Int32).toInt = 1 := by decide
  have k_3 : (3 : Int32).toInt = 3 := by decide
  have k_10 : (10 : Int32).toInt = 10 := by decide
  have hJ := hM
  unfold IM at hJ
  obtain ⟨n0, n1, n8, n17, n29, n39, n44, c40, c41, c42, c54, c58⟩ := hJ
  refine ct_of RX9 rfl (by decide +kernel) [(0, .ref (ad 39)), (1, .int (p)), (2, .int (q)), (3, .int (u)), (4, .int (v))] rfl (Nat.le_of_ble_eq_true rfl) (fun G C T => ?_)
  refine r_aload_n C 0 dX9_isSafe_0 rfl rfl ?_
  refine r_iload_n C 1 dX9_isSafe_1 rfl rfl ?_
  refine r_iload_n C 2 dX9_isSafe_2 rfl rfl ?_
  refine r_iload C 4 dX9_isSafe_3 rfl ?_
  refine r_iconst C (0) dX9_isSafe_5 (by decide) ?_
  refine r_callVv C (k := 39) [.int (p), .int (q), .int (v), .int (0)] [] (c_X9_reach E ad σ  (p) (q) (v) (0) hM) lv_X9_146 (by decide) rfl rfl (by decide) (by decide) rfl rfl (Nat.le_of_ble_eq_true rfl) dX9_isSafe_6 (fun τ_2 h_3 => ?_)
  obtain ⟨g_4, eh_3, h_3⟩ := h_3
  subst eh_3
  refine r_iconst C (1) dX9_isSafe_9 (by decide) ?_
  refine r_istore C [(5, .int (1)), (0, .ref (ad 39)), (1, .int (p)), (2, .int (q)), (3, .int (u)), (4, .int (v))] dX9_isSafe_10 (by decide) rfl ?_
  refine r_iconst C (0) dX9_isSafe_12 (by decide) ?_
  refine r_istore C [(6, .int (0)), (5, .int (1)), (0, .ref (ad 39)), (1, .int (p)), (2, .int (q)), (3, .int (u)), (4, .int (v))] dX9_isSafe_13 (by decide) rfl ?_
  have L_15 : ∀ (n : Nat), ∀ (a : Int32) (i : Int32), (0 ≤ i.toInt ∧ i.toInt ≤ 3) → (a.toInt = 0 ∨ a.toInt = 1) → ((∀ j, σ 45 j = 0) → a.toInt = 1) → 3 - i.toInt < (n : Int) → At E ad G 9 15 [(6, .int (i)), (5, .int (a)), (0, .ref (ad 39)), (1, .int (p)), (2, .int (q)), (3, .int (u)), (4, .int (v))] [] (sSet σ 65 g_4) := by
    intro n
    induction n with
    | zero =>
      intro a i hi ha hf hm
      exact absurd hm (by omega)
    | succ n ih =>
      intro a i hi ha hf hm
      have ih_15 := ih
      clear ih
      refine r_iload C 0 dX9_isSafe_15 rfl ?_
      refine r_iconst C (3) dX9_isSafe_17 (by decide) ?_
      refine r_icmp_ge C 97 dX9_isSafe_18 (by decide) (fun c_5 => ?_) (fun c_5 => ?_)
      · -- to 97
        refine r_iload C 1 dX9_isSafe_97 rfl ?_
        exact r_zret C T dX9_isSafe_99 (by omega) (⟨g_4, rfl, ha, hf⟩)
      · -- to 21
        refine r_aload_n C 2 dX9_isSafe_21 rfl rfl ?_
        refine r_iload C 0 dX9_isSafe_22 rfl ?_
        refine r_iload_n C 5 dX9_isSafe_24 rfl rfl ?_
        refine r_callV C (k := 39) [.int (i), .int (u)] [] (c_X9_wanted E ad (sSet σ 65 g_4)  (i) (u) hM) lv_X9_150 (by decide) rfl rfl (by decide) (by decide) rfl rfl (Nat.le_of_ble_eq_true rfl) dX9_isSafe_25 (fun r_6 τ_7 h_8 => ?_)
        obtain ⟨eh_8, h_8⟩ := h_8
        obtain rfl := eh_8.symm
        refine r_istore C [(7, .int (r_6)), (6, .int (i)), (5, .int (a)), (0, .ref (ad 39)), (1, .int (p)), (2, .int (q)), (3, .int (u)), (4, .int (v))] dX9_isSafe_28 (by decide) rfl ?_
        refine r_iconst C (0) dX9_isSafe_30 (by decide) ?_
        refine r_istore C [(8, .int (0)), (7, .int (r_6)), (6, .int (i)), (5, .int (a)), (0, .ref (ad 39)), (1, .int (p)), (2, .int (q)), (3, .int (u)), (4, .int (v))] dX9_isSafe_31 (by decide) rfl ?_
        have L_33 : ∀ (n : Nat), ∀ (b : Int32) (j : Int32), (0 ≤ j.toInt ∧ j.toInt ≤ 10) → (b.toInt = 0 ∨ b.toInt = 1) → ((∀ j, σ 45 j = 0) → b.toInt = 1) → 10 - j.toInt < (n : Int) → At E ad G 9 33 [(8, .int (j)), (7, .int (r_6)), (6, .int (i)), (5, .int (b)), (0, .ref (ad 39)), (1, .int (p)), (2, .int (q)), (3, .int (u)), (4, .int (v))] [] (sSet σ 65 g_4) := by
          intro n
          induction n with
          | zero =>
            intro b j hj hb hg hm
            exact absurd hm (by omega)
          | succ n ih =>
            intro b j hj hb hg hm
            have ih_33 := ih
            clear ih
            refine r_iload C 0 dX9_isSafe_33 rfl ?_
            refine r_bipush C (10) dX9_isSafe_35 (by decide) ?_
            refine r_icmp_ge C 91 dX9_isSafe_37 (by decide) (fun c_9 => ?_) (fun c_9 => ?_)
            · -- to 91
              refine r_iinc C 2 (fun z => [(6, .int (z)), (8, .int (j)), (7, .int (r_6)), (5, .int (b)), (0, .ref (ad 39)), (1, .int (p)), (2, .int (q)), (3, .int (u)), (4, .int (v))]) dX9_isSafe_91 rfl (by decide) (by decide) (by omega) (fun _ => rfl) (fun z_10 hz_11 => ?_)
              refine r_goto C 15 dX9_isSafe_94 (by decide) ?_
              exact At.sub [0, 3, 4, 5, 6, 7, 8] rfl (ih_15 (b : Int32) (z_10 : Int32) (by omega) hb hg (by omega))
            · -- to 40
              have L_83 : ∀ (c : Int32), (c.toInt = 0 ∨ c.toInt = 1) → ((∀ j, σ 45 j = 0) → b.toInt = 1 → c.toInt = 1) → At E ad G 9 83 [(8, .int (j)), (7, .int (r_6)), (6, .int (i)), (5, .int (b)), (0, .ref (ad 39)), (1, .int (p)), (2, .int (q)), (3, .int (u)), (4, .int (v))] [.int (c)] (sSet σ 65 g_4) := by
                intro c hc hd
                refine r_istore C [(5, .int (c)), (8, .int (j)), (7, .int (r_6)), (6, .int (i)), (0, .ref (ad 39)), (1, .int (p)), (2, .int (q)), (3, .int (u)), (4, .int (v))] dX9_isSafe_83 (by decide) rfl ?_
                refine r_iinc C 1 (fun z => [(8, .int (z)), (5, .int (c)), (7, .int (r_6)), (6, .int (i)), (0, .ref (ad 39)), (1, .int (p)), (2, .int (q)), (3, .int (u)), (4, .int (v))]) dX9_isSafe_85 rfl (by decide) (by decide) (by omega) (fun _ => rfl) (fun z_12 hz_13 => ?_)
                refine r_goto C 33 dX9_isSafe_88 (by decide) ?_
                exact At.sub [0, 2, 3, 1, 4, 5, 6, 7, 8] rfl (ih_33 (c : Int32) (z_12 : Int32) (by omega) hc (fun h => hd h (hg h)) (by omega))
              refine r_iload C 3 dX9_isSafe_40 rfl ?_
              refine r_if_eq C 82 dX9_isSafe_42 (by decide) (fun c_14 => ?_) (fun c_14 => ?_)
              · -- to 82
                refine r_iconst C (0) dX9_isSafe_82 (by decide) ?_
                exact At.sub [0, 1, 2, 3, 4, 5, 6, 7, 8] rfl (L_83 (0 : Int32) (by omega) (fun h h2 => absurd h2 (by omega)))
              · -- to 45
                refine r_aload_n C 4 dX9_isSafe_45 rfl rfl ?_
                refine r_get C (k := 39) (v := .ref (ad 45)) f_X9_26 (by decide) rfl rfl dX9_isSafe_46 ?_
                refine r_iconst C (3) dX9_isSafe_49 (by decide) ?_
                refine r_iload C 0 dX9_isSafe_50 rfl ?_
                refine r_imul C dX9_isSafe_52 ?_
                refine r_nm (P := fun z => z.toInt = 3 * (j : Int32).toInt ∧ z = (3) * (j)) ⟨ta_mulL k_3 (by omega), rfl⟩ (fun z_15 hz_16 => ?_)
                refine r_iload C 2 dX9_isSafe_53 rfl ?_
                refine r_iadd C dX9_isSafe_55 ?_
                refine r_nm (P := fun z => z.toInt = (z_15 : Int32).toInt + (i : Int32).toInt ∧ z = (z_15) + (i)) ⟨ta_add (by omega), rfl⟩ (fun z_17 hz_18 => ?_)
                refine r_zald C (k := 45) (by decide) rfl (by omega) (σ 45 ((z_17 : Int32).toInt.toNat)) rfl dX9_isSafe_56 ?_
                refine r_if_eq C 78 dX9_isSafe_57 (by decide) (fun c_20 => ?_) (fun c_20 => ?_)
                · -- to 78
                  refine r_iconst C (1) dX9_isSafe_78 (by decide) ?_
                  refine r_goto C 83 dX9_isSafe_79 (by decide) ?_
                  exact At.sub [0, 1, 2, 3, 4, 5, 6, 7, 8] rfl (L_83 (1 : Int32) (by omega) (fun _ _ => k_1))
                · -- to 60
                  refine r_aload_n C 4 dX9_isSafe_60 rfl rfl ?_
                  refine r_get C (k := 39) (v := .ref (ad 65)) f_X9_86 (by decide) rfl rfl dX9_isSafe_61 ?_
                  refine r_iload C 0 dX9_isSafe_64 rfl ?_
                  refine r_iald C (k := 65) (by decide) rfl (by omega) (g_4 ((j : Int32).toInt.toNat)) rfl dX9_isSafe_66 ?_
                  refine r_iload C 1 dX9_isSafe_67 rfl ?_
                  refine r_icmp_lt C 82 dX9_isSafe_69 (by decide) (fun c_22 => ?_) (fun c_22 => ?_)
                  · -- to 82
                    refine r_iconst C (0) dX9_isSafe_82 (by decide) ?_
                    exact At.sub [0, 1, 2, 3, 4, 5, 6, 7, 8] rfl (L_83 (0 : Int32) (by omega) (fun h h2 => absurd (by rw [h]; rfl) c_20))
                  · -- to 72
                    refine r_iload C 0 dX9_isSafe_72 rfl ?_
                    refine r_iload_n C 5 dX9_isSafe_74 rfl rfl ?_
                    refine r_icmp_eq C 82 dX9_isSafe_75 (by decide) (fun c_23 => ?_) (fun c_23 => ?_)
                    · -- to 82
                      refine r_iconst C (0) dX9_isSafe_82 (by decide) ?_
                      exact At.sub [0, 1, 2, 3, 4, 5, 6, 7, 8] rfl (L_83 (0 : Int32) (by omega) (fun h h2 => absurd (by rw [h]; rfl) c_20))
                    · -- to 78
                      refine r_iconst C (1) dX9_isSafe_78 (by decide) ?_
                      refine r_goto C 83 dX9_isSafe_79 (by decide) ?_
                      exact At.sub [0, 1, 2, 3, 4, 5, 6, 7, 8] rfl (L_83 (1 : Int32) (by omega) (fun _ _ => k_1))
        exact At.sub [0, 1, 2, 3, 4, 5, 6, 7, 8] rfl (L_33 ((10 - (0 : Int32).toInt).toNat + 1) (a : Int32) (0 : Int32) (by omega) ha hf (by omega))
  exact At.sub [0, 1, 2, 3, 4, 5, 6] rfl (L_15 ((3 - (0 : Int32).toInt).toNat + 1) (1 : Int32) (0 : Int32) (by omega) (by omega) (fun _ => k_1) (by omega))
set_option maxHeartbeats 4000000 in
set_option maxRecDepth 100000 in
theorem c_X9_isSafeNow (E : Ev) (ad : Nat → Nat) (σ : Sg) (p : Int32) (q : Int32) (hM : IM σ) : Ct E ad yX9_isSafeNow cX9_isSafeNow 3 (some .boolean) 3 [.ref (ad 39), .int p, .int q] σ (fun r τ => ∃ g, τ = sSet σ 65 g ∧ ((r.toInt = 0 ∨ r.toInt = 1) ∧ ((∀ j, σ 45 j = 0) → r.toInt = 1))) := by
  have hJ := hM
  unfold IM at hJ
  obtain ⟨n0, n1, n8, n17, n29, n39, n44, c40, c41, c42, c54, c58⟩ := hJ
  refine ct_of RX9 rfl (by decide +kernel) [(0, .ref (ad 39)), (1, .int (p)), (2, .int (q))] rfl (Nat.le_of_ble_eq_true rfl) (fun G C T => ?_)
  refine r_aload_n C 0 dX9_isSafeNow_0 rfl rfl ?_
  refine r_iload_n C 1 dX9_isSafeNow_1 rfl rfl ?_
  refine r_iload_n C 2 dX9_isSafeNow_2 rfl rfl ?_
  refine r_aload_n C 0 dX9_isSafeNow_3 rfl rfl ?_
  refine r_get C (k := 39) (v := .int (σ 39 0)) f_X9_119 (by decide) rfl rfl dX9_isSafeNow_4 ?_
  refine r_aload_n C 0 dX9_isSafeNow_7 rfl rfl ?_
  refine r_get C (k := 39) (v := .int (σ 39 0)) f_X9_119 (by decide) rfl rfl dX9_isSafeNow_8 ?_
  refine r_callV C (k := 39) [.int (p), .int (q), .int (σ 39 0), .int (σ 39 0)] [] (c_X9_isSafe E ad σ  (p) (q) (σ 39 0) (σ 39 0) hM) lv_X9_154 (by decide) rfl rfl (by decide) (by decide) rfl rfl (Nat.le_of_ble_eq_true rfl) dX9_isSafeNow_11 (fun r_1 τ_2 h_3 => ?_)
  obtain ⟨g_4, eh_3, h_3⟩ := h_3
  subst eh_3
  exact r_zret C T dX9_isSafeNow_14 (by omega) (⟨g_4, rfl, h_3⟩)
set_option maxHeartbeats 4000000 in
set_option maxRecDepth 100000 in
theorem c_X9_safe (E : Ev) (ad : Nat → Nat) (σ : Sg) (p : Int32) (hM : IM σ) : Ct E ad yX9_safe cX9_safe 2 (some .int) 4 [.ref (ad 39), .int p] σ (fun r τ => Off [65] σ τ ∧ (¬ (0 ≤ p.toInt ∧ p.toInt < 10) → r.toInt = -1) ∧ ((∀ j, σ 45 j = 0) → 0 ≤ p.toInt ∧ p.toInt < 10 → r.toInt = 1)) := by
  have k_m1 : (-1 : Int32).toInt = -1 := by decide
  have k_0 : (0 : Int32).toInt = 0 := by decide
  have k_1 : (1 : Int32).toInt = 1 := by decide
  have hJ := hM
  unfold IM at hJ
  obtain ⟨n0, n1, n8, n17, n29, n39, n44, c40, c41, c42, c54, c58⟩ := hJ
  refine ct_of RX9 rfl (by decide +kernel) [(0, .ref (ad 39)), (1, .int (p))] rfl (Nat.le_of_ble_eq_true rfl) (fun G C T => ?_)
  refine r_iload_n C 1 dX9_safe_0 rfl rfl ?_
  refine r_callS C [.int (p)] [] (c_X9_isPlace E ad σ  (p) ) ls_X9_116 (by decide) (by decide) rfl rfl (Nat.le_of_ble_eq_true rfl) dX9_safe_1 (fun r_1 τ_2 h_3 => ?_)
  obtain ⟨eh_3, h_3⟩ := h_3
  obtain rfl := eh_3.symm
  refine r_if_ne C 9 dX9_safe_4 (by decide) (fun c_4 => ?_) (fun c_4 => ?_)
  · -- to 9
    refine r_aload_n C 0 dX9_safe_9 rfl rfl ?_
    refine r_iload_n C 1 dX9_safe_10 rfl rfl ?_
    refine r_aload_n C 0 dX9_safe_11 rfl rfl ?_
    refine r_callV C (k := 39) [] [.int (p), .ref (ad 39)] (c_X9_closedNow E ad σ   hM) lv_X9_133 (by decide) rfl rfl (by decide) (by decide) rfl rfl (Nat.le_of_ble_eq_true rfl) dX9_safe_12 (fun r_5 τ_6 h_7 => ?_)
    obtain ⟨eh_7, h_7⟩ := h_7
    obtain rfl := eh_7.symm
    refine r_callV C (k := 39) [.int (p), .int (r_5)] [] (c_X9_isSafeNow E ad σ  (p) (r_5) hM) lv_X9_158 (by decide) rfl rfl (by decide) (by decide) rfl rfl (Nat.le_of_ble_eq_true rfl) dX9_safe_15 (fun r_8 τ_9 h_10 => ?_)
    obtain ⟨g_11, eh_10, h_10⟩ := h_10
    subst eh_10
    refine r_if_eq C 25 dX9_safe_18 (by decide) (fun c_12 => ?_) (fun c_12 => ?_)
    · -- to 25
      refine r_iconst C (0) dX9_safe_25 (by decide) ?_
      exact r_iret C T dX9_safe_26 (⟨(Off.rf.st (by decide)), fun h => absurd h (by omega), fun h _ => by have t := h_10.2 h; omega⟩)
    · -- to 21
      refine r_iconst C (1) dX9_safe_21 (by decide) ?_
      refine r_goto C 26 dX9_safe_22 (by decide) ?_
      exact r_iret C T dX9_safe_26 (⟨(Off.rf.st (by decide)), fun h => absurd h (by omega), fun h _ => by have t := h_10.2 h; omega⟩)
  · -- to 7
    refine r_iconst C (-1) dX9_safe_7 (by decide) ?_
    exact r_iret C T dX9_safe_8 (⟨Off.rf, fun _ => k_m1, fun _ h => absurd h (by omega)⟩)
set_option maxHeartbeats 4000000 in
set_option maxRecDepth 100000 in
theorem c_X9_between (E : Ev) (ad : Nat → Nat) (σ : Sg) (p : Int32) (q : Int32) (u : Int32) (hM : IM σ) : Ct E ad yX9_between cX9_between 4 (some .int) 4 [.ref (ad 39), .int p, .int q, .int u] σ (fun r τ => ∃ g, τ = sSet σ 65 g ∧ ((0 ≤ r.toInt → 0 ≤ p.toInt ∧ p.toInt < 10 ∧ 0 ≤ q.toInt ∧ q.toInt < 10) ∧ (¬ (0 ≤ p.toInt ∧ p.toInt < 10 ∧ 0 ≤ q.toInt ∧ q.toInt < 10) → r.toInt = -1) ∧ ((σ 39 1).toInt = 0 → (0 ≤ p.toInt ∧ p.toInt < 10 ∧ 0 ≤ q.toInt ∧ q.toInt < 10) → ((p.toInt = q.toInt → r.toInt = 0) ∧ (p.toInt ≠ q.toInt → r.toInt = -3))) ∧ (u.toInt ≠ 0 → (∀ k : Nat, (k : Int) < (σ 39 1).toInt → (σ 43 k).toInt ≤ (σ 39 0).toInt) → (0 ≤ p.toInt ∧ p.toInt < 10 ∧ 0 ≤ q.toInt ∧ q.toInt < 10) → (DF (σ 39 1).toInt (σ 40) (σ 41) g p.toInt ∧ (∀ j, j < 10 → 0 ≤ (g j).toInt ∧ (g j).toInt ≤ 1000) ∧ r.toInt = if (g q.toInt.toNat).toInt = 1000 then -3 else (g q.toInt.toNat).toInt)))) := by
  have k_m3 : (-3 : Int32).toInt = -3 := by decide
  have k_m1 : (-1 : Int32).toInt = -1 := by decide
  have k_1000 : (1000 : Int32).toInt = 1000 := by decide
  have hJ := hM
  unfold IM at hJ
  obtain ⟨n0, n1, n8, n17, n29, n39, n44, c40, c41, c42, c54, c58⟩ := hJ
  refine ct_of RX9 rfl (by decide +kernel) [(0, .ref (ad 39)), (1, .int (p)), (2, .int (q)), (3, .int (u))] rfl (Nat.le_of_ble_eq_true rfl) (fun G C T => ?_)
  refine r_iload_n C 1 dX9_between_0 rfl rfl ?_
  refine r_callS C [.int (p)] [] (c_X9_isPlace E ad σ  (p) ) ls_X9_116 (by decide) (by decide) rfl rfl (Nat.le_of_ble_eq_true rfl) dX9_between_1 (fun r_1 τ_2 h_3 => ?_)
  obtain ⟨eh_3, h_3⟩ := h_3
  obtain rfl := eh_3.symm
  refine r_if_eq C 14 dX9_between_4 (by decide) (fun c_4 => ?_) (fun c_4 => ?_)
  · -- to 14
    refine r_iconst C (-1) dX9_between_14 (by decide) ?_
    exact r_iret C T dX9_between_15 (⟨_, sSet0 σ 65, fun h => absurd h (by omega), fun _ => k_m1, fun _ h => absurd h (by omega), fun _ _ h => absurd h (by omega)⟩)
  · -- to 7
    refine r_iload_n C 2 dX9_between_7 rfl rfl ?_
    refine r_callS C [.int (q)] [] (c_X9_isPlace E ad σ  (q) ) ls_X9_116 (by decide) (by decide) rfl rfl (Nat.le_of_ble_eq_true rfl) dX9_between_8 (fun r_5 τ_6 h_7 => ?_)
    obtain ⟨eh_7, h_7⟩ := h_7
    obtain rfl := eh_7.symm
    refine r_if_ne C 16 dX9_between_11 (by decide) (fun c_8 => ?_) (fun c_8 => ?_)
    · -- to 16
      refine r_aload_n C 0 dX9_between_16 rfl rfl ?_
      refine r_iload_n C 1 dX9_between_17 rfl rfl ?_
      refine r_aload_n C 0 dX9_between_18 rfl rfl ?_
      refine r_callV C (k := 39) [] [.int (p), .ref (ad 39)] (c_X9_closedNow E ad σ   hM) lv_X9_133 (by decide) rfl rfl (by decide) (by decide) rfl rfl (Nat.le_of_ble_eq_true rfl) dX9_between_19 (fun r_9 τ_10 h_11 => ?_)
      obtain ⟨eh_11, h_11⟩ := h_11
      obtain rfl := eh_11.symm
      refine r_aload_n C 0 dX9_between_22 rfl rfl ?_
      refine r_get C (k := 39) (v := .int (σ 39 0)) f_X9_119 (by decide) rfl rfl dX9_between_23 ?_
      refine r_iload_n C 3 dX9_between_26 rfl rfl ?_
      refine r_callVv C (k := 39) [.int (p), .int (r_9), .int (σ 39 0), .int (u)] [] (c_X9_reach E ad σ  (p) (r_9) (σ 39 0) (u) hM) lv_X9_146 (by decide) rfl rfl (by decide) (by decide) rfl rfl (Nat.le_of_ble_eq_true rfl) dX9_between_27 (fun τ_13 h_14 => ?_)
      obtain ⟨g_15, eh_14, h_14⟩ := h_14
      subst eh_14
      refine r_aload_n C 0 dX9_between_30 rfl rfl ?_
      refine r_get C (k := 39) (v := .ref (ad 65)) f_X9_86 (by decide) rfl rfl dX9_between_31 ?_
      refine r_iload_n C 2 dX9_between_34 rfl rfl ?_
      refine r_iald C (k := 65) (by decide) rfl (by omega) (g_15 ((q : Int32).toInt.toNat)) rfl dX9_between_35 ?_
      refine r_sipush C (1000) dX9_between_36 (by decide) ?_
      refine r_icmp_ne C 47 dX9_between_39 (by decide) (fun c_17 => ?_) (fun c_17 => ?_)
      · -- to 47
        refine r_aload_n C 0 dX9_between_47 rfl rfl ?_
        refine r_get C (k := 39) (v := .ref (ad 65)) f_X9_86 (by decide) rfl rfl dX9_between_48 ?_
        refine r_iload_n C 2 dX9_between_51 rfl rfl ?_
        refine r_iald C (k := 65) (by decide) rfl (by omega) (g_15 ((q : Int32).toInt.toNat)) rfl dX9_between_52 ?_
        exact r_iret C T dX9_between_53 (⟨g_15, rfl, fun _ => by omega, fun h => absurd h (by omega), fun h h2 => by have t := h_14.2.1 h (q : Int32).toInt.toNat (by omega); split at t <;> omega, fun h1 h2 h3 => ⟨h_14.2.2 ⟨h1, by omega, h2⟩, h_14.1, by split <;> omega⟩⟩)
      · -- to 42
        refine r_bipush C (-3) dX9_between_42 (by decide) ?_
        refine r_goto C 53 dX9_between_44 (by decide) ?_
        exact r_iret C T dX9_between_53 (⟨g_15, rfl, fun _ => by omega, fun h => absurd h (by omega), fun h h2 => by have t := h_14.2.1 h (q : Int32).toInt.toNat (by omega); split at t <;> omega, fun h1 h2 h3 => ⟨h_14.2.2 ⟨h1, by omega, h2⟩, h_14.1, by split <;> omega⟩⟩)
    · -- to 14
      refine r_iconst C (-1) dX9_between_14 (by decide) ?_
      exact r_iret C T dX9_between_15 (⟨_, sSet0 σ 65, fun h => absurd h (by omega), fun _ => k_m1, fun _ h => absurd h (by omega), fun _ _ h => absurd h (by omega)⟩)
set_option maxHeartbeats 4000000 in
set_option maxRecDepth 100000 in
theorem c_X9_barriers (E : Ev) (ad : Nat → Nat) (σ : Sg) (p : Int32) (q : Int32) (hM : IM σ) : Ct E ad yX9_barriers cX9_barriers 3 (some .int) 5 [.ref (ad 39), .int p, .int q] σ (fun r τ => Off [65] σ τ ∧ (¬ (0 ≤ p.toInt ∧ p.toInt < 10 ∧ 0 ≤ q.toInt ∧ q.toInt < 10) → r.toInt = -1) ∧ ((σ 39 1).toInt = 0 → (0 ≤ p.toInt ∧ p.toInt < 10 ∧ 0 ≤ q.toInt ∧ q.toInt < 10) → ((p.toInt = q.toInt → r.toInt = 0) ∧ (p.toInt ≠ q.toInt → r.toInt = -3)))) := by
  have k_0 : (0 : Int32).toInt = 0 := by decide
  have hJ := hM
  unfold IM at hJ
  obtain ⟨n0, n1, n8, n17, n29, n39, n44, c40, c41, c42, c54, c58⟩ := hJ
  refine ct_of RX9 rfl (by decide +kernel) [(0, .ref (ad 39)), (1, .int (p)), (2, .int (q))] rfl (Nat.le_of_ble_eq_true rfl) (fun G C T => ?_)
  refine r_aload_n C 0 dX9_barriers_0 rfl rfl ?_
  refine r_iload_n C 1 dX9_barriers_1 rfl rfl ?_
  refine r_iload_n C 2 dX9_barriers_2 rfl rfl ?_
  refine r_iconst C (0) dX9_barriers_3 (by decide) ?_
  refine r_callV C (k := 39) [.int (p), .int (q), .int (0)] [] (c_X9_between E ad σ  (p) (q) (0) hM) lv_X9_161 (by decide) rfl rfl (by decide) (by decide) rfl rfl (Nat.le_of_ble_eq_true rfl) dX9_barriers_4 (fun r_1 τ_2 h_3 => ?_)
  obtain ⟨g_4, eh_3, h_3⟩ := h_3
  subst eh_3
  exact r_iret C T dX9_barriers_7 (⟨(Off.rf.st (by decide)), h_3.2.1, h_3.2.2.1⟩)
set_option maxHeartbeats 4000000 in
set_option maxRecDepth 100000 in
theorem c_X9_apart (E : Ev) (ad : Nat → Nat) (σ : Sg) (p : Int32) (q : Int32) (hM : IM σ) : Ct E ad yX9_apart cX9_apart 3 (some .int) 5 [.ref (ad 39), .int p, .int q] σ (fun r τ => Off [65] σ τ ∧ (¬ (0 ≤ p.toInt ∧ p.toInt < 10 ∧ 0 ≤ q.toInt ∧ q.toInt < 10) → r.toInt = -1) ∧ ((σ 39 1).toInt = 0 → (0 ≤ p.toInt ∧ p.toInt < 10 ∧ 0 ≤ q.toInt ∧ q.toInt < 10) → ((p.toInt = q.toInt → r.toInt = 0) ∧ (p.toInt ≠ q.toInt → r.toInt = -3))) ∧ ((∀ k : Nat, (k : Int) < (σ 39 1).toInt → (σ 43 k).toInt ≤ (σ 39 0).toInt) → (0 ≤ p.toInt ∧ p.toInt < 10 ∧ 0 ≤ q.toInt ∧ q.toInt < 10) → ∃ g : Nat → Int32, (DF (σ 39 1).toInt (σ 40) (σ 41) g p.toInt ∧ (∀ j, j < 10 → 0 ≤ (g j).toInt ∧ (g j).toInt ≤ 1000) ∧ r.toInt = if (g q.toInt.toNat).toInt = 1000 then -3 else (g q.toInt.toNat).toInt))) := by
  have k_1 : (1 : Int32).toInt = 1 := by decide
  have hJ := hM
  unfold IM at hJ
  obtain ⟨n0, n1, n8, n17, n29, n39, n44, c40, c41, c42, c54, c58⟩ := hJ
  refine ct_of RX9 rfl (by decide +kernel) [(0, .ref (ad 39)), (1, .int (p)), (2, .int (q))] rfl (Nat.le_of_ble_eq_true rfl) (fun G C T => ?_)
  refine r_aload_n C 0 dX9_apart_0 rfl rfl ?_
  refine r_iload_n C 1 dX9_apart_1 rfl rfl ?_
  refine r_iload_n C 2 dX9_apart_2 rfl rfl ?_
  refine r_iconst C (1) dX9_apart_3 (by decide) ?_
  refine r_callV C (k := 39) [.int (p), .int (q), .int (1)] [] (c_X9_between E ad σ  (p) (q) (1) hM) lv_X9_161 (by decide) rfl rfl (by decide) (by decide) rfl rfl (Nat.le_of_ble_eq_true rfl) dX9_apart_4 (fun r_1 τ_2 h_3 => ?_)
  obtain ⟨g_4, eh_3, h_3⟩ := h_3
  subst eh_3
  exact r_iret C T dX9_apart_7 (⟨(Off.rf.st (by decide)), h_3.2.1, h_3.2.2.1, fun h2 h3 => ⟨g_4, h_3.2.2.2 (by decide) h2 h3⟩⟩)
set_option maxHeartbeats 4000000 in
set_option maxRecDepth 100000 in
theorem c_X9_liveNow (E : Ev) (ad : Nat → Nat) (σ : Sg)  (hM : IM σ) : Ct E ad yX9_liveNow cX9_liveNow 3 (some .int) 0 [.ref (ad 39)] σ (fun r τ => τ = σ ∧ True) := by
  have k_0 : (0 : Int32).toInt = 0 := by decide
  have k_1 : (1 : Int32).toInt = 1 := by decide
  have k_3 : (3 : Int32).toInt = 3 := by decide
  have hJ := hM
  unfold IM at hJ
  obtain ⟨n0, n1, n8, n17, n29, n39, n44, c40, c41, c42, c54, c58⟩ := hJ
  refine ct_of RX9 rfl (by decide +kernel) [(0, .ref (ad 39))] rfl (Nat.le_of_ble_eq_true rfl) (fun G C T => ?_)
  refine r_iconst C (0) dX9_liveNow_0 (by decide) ?_
  refine r_istore_n C [(1, .int (0)), (0, .ref (ad 39))] dX9_liveNow_1 rfl (by decide) rfl ?_
  refine r_iconst C (0) dX9_liveNow_2 (by decide) ?_
  refine r_istore_n C [(2, .int (0)), (1, .int (0)), (0, .ref (ad 39))] dX9_liveNow_3 rfl (by decide) rfl ?_
  have L_4 : ∀ (n : Nat), ∀ (a : Int32) (i : Int32), (0 ≤ i.toInt ∧ i.toInt ≤ 7) → 7 - i.toInt < (n : Int) → At E ad G 3 4 [(2, .int (i)), (1, .int (a)), (0, .ref (ad 39))] [] σ := by
    intro n
    induction n with
    | zero =>
      intro a i hi hm
      exact absurd hm (by omega)
    | succ n ih =>
      intro a i hi hm
      have ih_4 := ih
      clear ih
      refine r_iload_n C 0 dX9_liveNow_4 rfl rfl ?_
      refine r_aload_n C 2 dX9_liveNow_5 rfl rfl ?_
      refine r_get C (k := 39) (v := .int (σ 39 17)) f_X9_113 (by decide) rfl rfl dX9_liveNow_6 ?_
      refine r_icmp_ge C 38 dX9_liveNow_9 (by decide) (fun c_1 => ?_) (fun c_1 => ?_)
      · -- to 38
        refine r_iload_n C 1 dX9_liveNow_38 rfl rfl ?_
        exact r_iret C T dX9_liveNow_39 (⟨rfl, trivial⟩)
      · -- to 12
        refine r_iload_n C 1 dX9_liveNow_12 rfl rfl ?_
        refine r_aload_n C 2 dX9_liveNow_13 rfl rfl ?_
        refine r_get C (k := 39) (v := .ref (ad 57)) f_X9_62 (by decide) rfl rfl dX9_liveNow_14 ?_
        refine r_iload_n C 0 dX9_liveNow_17 rfl rfl ?_
        refine r_iald C (k := 57) (by decide) rfl (by omega) (σ 57 ((i : Int32).toInt.toNat)) rfl dX9_liveNow_18 ?_
        refine r_iconst C (3) dX9_liveNow_19 (by decide) ?_
        refine r_icmp_ne C 29 dX9_liveNow_20 (by decide) (fun c_3 => ?_) (fun c_3 => ?_)
        · -- to 29
          refine r_iconst C (0) dX9_liveNow_29 (by decide) ?_
          refine r_ior C dX9_liveNow_30 ?_
          refine r_nm (P := fun z => z = (a : Int32) ||| (0)) rfl (fun z_4 hz_5 => ?_)
          refine r_istore_n C [(1, .int (z_4)), (2, .int (i)), (0, .ref (ad 39))] dX9_liveNow_31 rfl (by decide) rfl ?_
          refine r_iinc C 1 (fun z => [(2, .int (z)), (1, .int (z_4)), (0, .ref (ad 39))]) dX9_liveNow_32 rfl (by decide) (by decide) (by omega) (fun _ => rfl) (fun z_6 hz_7 => ?_)
          refine r_goto C 4 dX9_liveNow_35 (by decide) ?_
          exact At.sub [0, 1, 2] rfl (ih_4 (z_4 : Int32) (z_6 : Int32) (by omega) (by omega))
        · -- to 23
          refine r_iconst C (1) dX9_liveNow_23 (by decide) ?_
          refine r_iload_n C 0 dX9_liveNow_24 rfl rfl ?_
          refine r_ishl C dX9_liveNow_25 ?_
          refine r_nm (P := fun z => z = (1 : Int32) <<< ((i : Int32) &&& 31)) rfl (fun z_8 hz_9 => ?_)
          refine r_goto C 30 dX9_liveNow_26 (by decide) ?_
          refine r_ior C dX9_liveNow_30 ?_
          refine r_nm (P := fun z => z = (a : Int32) ||| (z_8)) rfl (fun z_10 hz_11 => ?_)
          refine r_istore_n C [(1, .int (z_10)), (2, .int (i)), (0, .ref (ad 39))] dX9_liveNow_31 rfl (by decide) rfl ?_
          refine r_iinc C 1 (fun z => [(2, .int (z)), (1, .int (z_10)), (0, .ref (ad 39))]) dX9_liveNow_32 rfl (by decide) (by decide) (by omega) (fun _ => rfl) (fun z_12 hz_13 => ?_)
          refine r_goto C 4 dX9_liveNow_35 (by decide) ?_
          exact At.sub [0, 1, 2] rfl (ih_4 (z_10 : Int32) (z_12 : Int32) (by omega) (by omega))
  exact At.sub [0, 1, 2] rfl (L_4 ((7 - (0 : Int32).toInt).toNat + 1) (0 : Int32) (0 : Int32) (by omega) (by omega))
set_option maxHeartbeats 4000000 in
set_option maxRecDepth 100000 in
theorem c_X9_go (E : Ev) (ad : Nat → Nat) (σ : Sg) (p : Int32) (hM : IM σ) : Ct E ad yX9_go cX9_go 3 (some .int) 4 [.ref (ad 39), .int p] σ (fun r τ => (¬ (1 ≤ p.toInt ∧ p.toInt ≤ 48 ∧ (σ 39 0).toInt + p.toInt ≤ 300) ∧ r.toInt = -1 ∧ τ = σ) ∨ ((1 ≤ p.toInt ∧ p.toInt ≤ 48 ∧ (σ 39 0).toInt + p.toInt ≤ 300) ∧ r.toInt = (σ 39 0).toInt + p.toInt ∧ Off [39, 62, 63] σ τ ∧ (τ 39 0).toInt = (σ 39 0).toInt + p.toInt ∧ ∀ j, j ≠ 0 → τ 39 j = σ 39 j)) := by
  have k_m1 : (-1 : Int32).toInt = -1 := by decide
  have k_0 : (0 : Int32).toInt = 0 := by decide
  have k_1 : (1 : Int32).toInt = 1 := by decide
  have k_48 : (48 : Int32).toInt = 48 := by decide
  have k_300 : (300 : Int32).toInt = 300 := by decide
  have hJ := hM
  unfold IM at hJ
  obtain ⟨n0, n1, n8, n17, n29, n39, n44, c40, c41, c42, c54, c58⟩ := hJ
  refine ct_of RX9 rfl (by decide +kernel) [(0, .ref (ad 39)), (1, .int (p))] rfl (Nat.le_of_ble_eq_true rfl) (fun G C T => ?_)
  refine r_iload_n C 1 dX9_go_0 rfl rfl ?_
  refine r_iconst C (1) dX9_go_1 (by decide) ?_
  refine r_bipush C (48) dX9_go_2 (by decide) ?_
  refine r_callS C [.int (p), .int (1), .int (48)] [] (c_X9_in E ad σ  (p) (1) (48) ) ls_X9_105 (by decide) (by decide) rfl rfl (Nat.le_of_ble_eq_true rfl) dX9_go_4 (fun r_1 τ_2 h_3 => ?_)
  obtain ⟨eh_3, h_3⟩ := h_3
  obtain rfl := eh_3.symm
  refine r_if_eq C 22 dX9_go_7 (by decide) (fun c_4 => ?_) (fun c_4 => ?_)
  · -- to 22
    refine r_iconst C (-1) dX9_go_22 (by decide) ?_
    exact r_iret C T dX9_go_23 (Or.inl ⟨by omega, k_m1, rfl⟩)
  · -- to 10
    refine r_aload_n C 0 dX9_go_10 rfl rfl ?_
    refine r_get C (k := 39) (v := .int (σ 39 0)) f_X9_119 (by decide) rfl rfl dX9_go_11 ?_
    refine r_iload_n C 1 dX9_go_14 rfl rfl ?_
    refine r_iadd C dX9_go_15 ?_
    refine r_nm (P := fun z => z.toInt = (σ 39 0 : Int32).toInt + (p : Int32).toInt ∧ z = (σ 39 0) + (p)) ⟨ta_add (by omega), rfl⟩ (fun z_5 hz_6 => ?_)
    refine r_sipush C (300) dX9_go_16 (by decide) ?_
    refine r_icmp_le C 24 dX9_go_19 (by decide) (fun c_7 => ?_) (fun c_7 => ?_)
    · -- to 24
      refine r_iconst C (0) dX9_go_24 (by decide) ?_
      refine r_istore_n C [(2, .int (0)), (0, .ref (ad 39)), (1, .int (p))] dX9_go_25 rfl (by decide) rfl ?_
      have L_26 : ∀ (n : Nat), ∀ (τ1 : Sg) (i : Int32), (0 ≤ i.toInt ∧ i.toInt ≤ p.toInt) → (Off [39, 62, 63] σ τ1) → ((τ1 39 0).toInt = (σ 39 0).toInt + i.toInt) → (∀ j, j ≠ 0 → τ1 39 j = σ 39 j) → 48 - i.toInt < (n : Int) → At E ad G 3 26 [(2, .int (i)), (0, .ref (ad 39)), (1, .int (p))] [] τ1 := by
        intro n
        induction n with
        | zero =>
          intro τ1 i hi ho hz hk hm
          exact absurd hm (by omega)
        | succ n ih =>
          intro τ1 i hi ho hz hk hm
          have ih_26 := ih
          clear ih
          refine r_iload_n C 0 dX9_go_26 rfl rfl ?_
          refine r_iload_n C 2 dX9_go_27 rfl rfl ?_
          refine r_icmp_ge C 73 dX9_go_28 (by decide) (fun c_8 => ?_) (fun c_8 => ?_)
          · -- to 73
            refine r_aload_n C 1 dX9_go_73 rfl rfl ?_
            refine r_get C (k := 39) (v := .int (τ1 39 0)) f_X9_119 (by decide) rfl rfl dX9_go_74 ?_
            exact r_iret C T dX9_go_77 (Or.inr ⟨by omega, by omega, ho, by omega, hk⟩)
          · -- to 31
            have hM1 : IM τ1 := IM_keep hM ho (by decide) (by rw [hk 1 (by decide), hk 8 (by decide), hk 17 (by decide), hk 29 (by decide), hk 39 (by decide), hk 44 (by decide)]; exact ⟨by omega, n1, n8, n17, n29, n39, n44⟩)
            refine r_aload_n C 1 dX9_go_31 rfl rfl ?_
            refine r_get C (k := 39) (v := .ref (ad 62)) f_X9_77 (by decide) rfl rfl dX9_go_32 ?_
            refine r_aload_n C 1 dX9_go_35 rfl rfl ?_
            refine r_get C (k := 39) (v := .int (τ1 39 0)) f_X9_119 (by decide) rfl rfl dX9_go_36 ?_
            refine r_aload_n C 1 dX9_go_39 rfl rfl ?_
            refine r_callV C (k := 39) [] [.int (τ1 39 0), .ref (ad 62)] (c_X9_closedNow E ad τ1   hM1) lv_X9_133 (by decide) rfl rfl (by decide) (by decide) rfl rfl (Nat.le_of_ble_eq_true rfl) dX9_go_40 (fun r_9 τ_10 h_11 => ?_)
            obtain ⟨eh_11, h_11⟩ := h_11
            obtain rfl := eh_11.symm
            refine r_iast C (k := 62) (by decide) (fun _ => rfl) (by omega) dX9_go_43 ?_
            refine r_aload_n C 1 dX9_go_44 rfl rfl ?_
            refine r_get C (k := 39) (v := .ref (ad 63)) f_X9_80 (by decide) rfl rfl dX9_go_45 ?_
            refine r_aload_n C 1 dX9_go_48 rfl rfl ?_
            refine r_get C (k := 39) (v := .int (τ1 39 0)) f_X9_119 (by decide) rfl rfl dX9_go_49 ?_
            refine r_aload_n C 1 dX9_go_52 rfl rfl ?_
            refine r_callV C (k := 39) [] [.int (τ1 39 0), .ref (ad 63)] (c_X9_liveNow E ad (sUp τ1 62 ((τ1 39 0 : Int32).toInt.toNat) (r_9))   hM1) lv_X9_165 (by decide) rfl rfl (by decide) (by decide) rfl rfl (Nat.le_of_ble_eq_true rfl) dX9_go_53 (fun r_12 τ_13 h_14 => ?_)
            obtain ⟨eh_14, h_14⟩ := h_14
            obtain rfl := eh_14.symm
            refine r_iast C (k := 63) (by decide) (fun _ => rfl) (by omega) dX9_go_56 ?_
            refine r_aload_n C 1 dX9_go_57 rfl rfl ?_
            refine r_dup C dX9_go_58 rfl ?_
            refine r_get C (k := 39) (v := .int (τ1 39 0)) f_X9_119 (by decide) rfl rfl dX9_go_59 ?_
            refine r_iconst C (1) dX9_go_62 (by decide) ?_
            refine r_iadd C dX9_go_63 ?_
            refine r_nm (P := fun z => z.toInt = (τ1 39 0 : Int32).toInt + (1 : Int32).toInt ∧ z = (τ1 39 0) + (1)) ⟨ta_add (by omega), rfl⟩ (fun z_15 hz_16 => ?_)
            refine r_put C (k := 39) pf_X9_119 (by decide) (fun _ => rfl) (fun _ => Nat.le_of_ble_eq_true rfl) (fun _ _ => rfl) dX9_go_64 ?_
            refine r_iinc C 0 (fun z => [(2, .int (z)), (0, .ref (ad 39)), (1, .int (p))]) dX9_go_67 rfl (by decide) (by decide) (by omega) (fun _ => rfl) (fun z_17 hz_18 => ?_)
            refine r_goto C 26 dX9_go_70 (by decide) ?_
            exact At.sub [0, 1, 2] rfl (ih_26 (sUp (sUp (sUp τ1 62 ((τ1 39 0 : Int32).toInt.toNat) (r_9)) 63 ((τ1 39 0 : Int32).toInt.toNat) (r_12)) 39 0 (z_15)) (z_17 : Int32) (by omega) (((ho.up (by decide)).up (by decide)).up (by decide)) (show (z_15 : Int32).toInt = _ by omega) (fun j hj => (if_neg hj).trans (hk j hj)) (by omega))
      exact At.sub [0, 1, 2] rfl (L_26 ((48 - (0 : Int32).toInt).toNat + 1) σ (0 : Int32) (by omega) Off.rf (by omega) (fun _ _ => rfl) (by omega))
    · -- to 22
      refine r_iconst C (-1) dX9_go_22 (by decide) ?_
      exact r_iret C T dX9_go_23 (Or.inl ⟨by omega, k_m1, rfl⟩)
set_option maxHeartbeats 4000000 in
set_option maxRecDepth 100000 in
theorem c_X9_feed (E : Ev) (ad : Nat → Nat) (σ : Sg) (b : Int64) (m : Int32) (hM : IM σ) : Ct E ad yX9_feed cX9_feed 5 (some .int) 1 [.ref (ad 39), .long b, .int m] σ (fun r τ => (¬ (1 ≤ m.toInt ∧ m.toInt ≤ 8) ∧ r.toInt = -1 ∧ τ = σ) ∨ ((1 ≤ m.toInt ∧ m.toInt ≤ 8) ∧ 60 < (σ 39 29).toInt + m.toInt ∧ r.toInt = -2 ∧ τ = σ) ∨ ((1 ≤ m.toInt ∧ m.toInt ≤ 8) ∧ (σ 39 29).toInt + m.toInt ≤ 60 ∧ r.toInt = (σ 39 29).toInt + m.toInt ∧ Off [39, 64] σ τ ∧ (τ 39 29).toInt = (σ 39 29).toInt + m.toInt ∧ ∀ j, j ≠ 29 → τ 39 j = σ 39 j)) := by
  have k_m2 : (-2 : Int32).toInt = -2 := by decide
  have k_m1 : (-1 : Int32).toInt = -1 := by decide
  have k_0 : (0 : Int32).toInt = 0 := by decide
  have k_1 : (1 : Int32).toInt = 1 := by decide
  have k_8 : (8 : Int32).toInt = 8 := by decide
  have k_60 : (60 : Int32).toInt = 60 := by decide
  have hJ := hM
  unfold IM at hJ
  obtain ⟨n0, n1, n8, n17, n29, n39, n44, c40, c41, c42, c54, c58⟩ := hJ
  refine ct_of RX9 rfl (by decide +kernel) [(0, .ref (ad 39)), (1, .long (b)), (3, .int (m))] rfl (Nat.le_of_ble_eq_true rfl) (fun G C T => ?_)
  refine r_iload_n C 2 dX9_feed_0 rfl rfl ?_
  refine r_iconst C (1) dX9_feed_1 (by decide) ?_
  refine r_bipush C (8) dX9_feed_2 (by decide) ?_
  refine r_callS C [.int (m), .int (1), .int (8)] [] (c_X9_in E ad σ  (m) (1) (8) ) ls_X9_105 (by decide) (by decide) rfl rfl (Nat.le_of_ble_eq_true rfl) dX9_feed_4 (fun r_1 τ_2 h_3 => ?_)
  obtain ⟨eh_3, h_3⟩ := h_3
  obtain rfl := eh_3.symm
  refine r_if_ne C 12 dX9_feed_7 (by decide) (fun c_4 => ?_) (fun c_4 => ?_)
  · -- to 12
    refine r_aload_n C 0 dX9_feed_12 rfl rfl ?_
    refine r_get C (k := 39) (v := .int (σ 39 29)) f_X9_168 (by decide) rfl rfl dX9_feed_13 ?_
    refine r_iload_n C 2 dX9_feed_16 rfl rfl ?_
    refine r_iadd C dX9_feed_17 ?_
    refine r_nm (P := fun z => z.toInt = (σ 39 29 : Int32).toInt + (m : Int32).toInt ∧ z = (σ 39 29) + (m)) ⟨ta_add (by omega), rfl⟩ (fun z_5 hz_6 => ?_)
    refine r_bipush C (60) dX9_feed_18 (by decide) ?_
    refine r_icmp_le C 26 dX9_feed_20 (by decide) (fun c_7 => ?_) (fun c_7 => ?_)
    · -- to 26
      refine r_iconst C (0) dX9_feed_26 (by decide) ?_
      refine r_istore C [(4, .int (0)), (0, .ref (ad 39)), (1, .long (b)), (3, .int (m))] dX9_feed_27 (by decide) rfl ?_
      have L_29 : ∀ (n : Nat), ∀ (τ1 : Sg) (i : Int32), (0 ≤ i.toInt ∧ i.toInt ≤ m.toInt) → (Off [39, 64] σ τ1) → ((τ1 39 29).toInt = (σ 39 29).toInt + i.toInt) → (∀ j, j ≠ 29 → τ1 39 j = σ 39 j) → 8 - i.toInt < (n : Int) → At E ad G 5 29 [(4, .int (i)), (0, .ref (ad 39)), (1, .long (b)), (3, .int (m))] [] τ1 := by
        intro n
        induction n with
        | zero =>
          intro τ1 i hi ho hz hk hm
          exact absurd hm (by omega)
        | succ n ih =>
          intro τ1 i hi ho hz hk hm
          have ih_29 := ih
          clear ih
          refine r_iload C 0 dX9_feed_29 rfl ?_
          refine r_iload_n C 3 dX9_feed_31 rfl rfl ?_
          refine r_icmp_ge C 72 dX9_feed_32 (by decide) (fun c_8 => ?_) (fun c_8 => ?_)
          · -- to 72
            refine r_aload_n C 1 dX9_feed_72 rfl rfl ?_
            refine r_get C (k := 39) (v := .int (τ1 39 29)) f_X9_168 (by decide) rfl rfl dX9_feed_73 ?_
            exact r_iret C T dX9_feed_76 (Or.inr (Or.inr ⟨by omega, by omega, by omega, ho, by omega, hk⟩))
          · -- to 35
            refine r_aload_n C 1 dX9_feed_35 rfl rfl ?_
            refine r_get C (k := 39) (v := .ref (ad 64)) f_X9_83 (by decide) rfl rfl dX9_feed_36 ?_
            refine r_aload_n C 1 dX9_feed_39 rfl rfl ?_
            refine r_get C (k := 39) (v := .int (τ1 39 29)) f_X9_168 (by decide) rfl rfl dX9_feed_40 ?_
            refine r_lload_n C 2 dX9_feed_43 rfl rfl ?_
            refine r_bipush C (8) dX9_feed_44 (by decide) ?_
            refine r_iload C 0 dX9_feed_46 rfl ?_
            refine r_imul C dX9_feed_48 ?_
            refine r_nm (P := fun z => z = (8) * (i)) rfl (fun z_9 hz_10 => ?_)
            refine r_lshr C dX9_feed_49 ?_
            refine r_ldc2 C (255) kc_X9_171 dX9_feed_50 ?_
            refine r_land C dX9_feed_53 ?_
            refine r_l2i C dX9_feed_54 ?_
            refine r_nm (P := fun z => z = (((b : Int64) >>> ((z_9 : Int32).toInt64 &&& 63) : Int64) &&& (255) : Int64).toInt32) rfl (fun z_11 hz_12 => ?_)
            refine r_iast C (k := 64) (by decide) (fun _ => rfl) (by omega) dX9_feed_55 ?_
            refine r_aload_n C 1 dX9_feed_56 rfl rfl ?_
            refine r_dup C dX9_feed_57 rfl ?_
            refine r_get C (k := 39) (v := .int (τ1 39 29)) f_X9_168 (by decide) rfl rfl dX9_feed_58 ?_
            refine r_iconst C (1) dX9_feed_61 (by decide) ?_
            refine r_iadd C dX9_feed_62 ?_
            refine r_nm (P := fun z => z.toInt = (τ1 39 29 : Int32).toInt + (1 : Int32).toInt ∧ z = (τ1 39 29) + (1)) ⟨ta_add (by omega), rfl⟩ (fun z_13 hz_14 => ?_)
            refine r_put C (k := 39) pf_X9_168 (by decide) (fun _ => rfl) (fun _ => Nat.le_of_ble_eq_true rfl) (fun _ _ => rfl) dX9_feed_63 ?_
            refine r_iinc C 0 (fun z => [(4, .int (z)), (0, .ref (ad 39)), (1, .long (b)), (3, .int (m))]) dX9_feed_66 rfl (by decide) (by decide) (by omega) (fun _ => rfl) (fun z_15 hz_16 => ?_)
            refine r_goto C 29 dX9_feed_69 (by decide) ?_
            exact At.sub [0, 1, 2, 3] rfl (ih_29 (sUp (sUp τ1 64 ((τ1 39 29 : Int32).toInt.toNat) (z_11)) 39 29 (z_13)) (z_15 : Int32) (by omega) ((ho.up (by decide)).up (by decide)) (show (z_13 : Int32).toInt = _ by omega) (fun j hj => (if_neg hj).trans (hk j hj)) (by omega))
      exact At.sub [0, 1, 2, 3] rfl (L_29 ((8 - (0 : Int32).toInt).toNat + 1) σ (0 : Int32) (by omega) Off.rf (by omega) (fun _ _ => rfl) (by omega))
    · -- to 23
      refine r_bipush C (-2) dX9_feed_23 (by decide) ?_
      exact r_iret C T dX9_feed_25 (Or.inr (Or.inl ⟨by omega, by omega, k_m2, rfl⟩))
  · -- to 10
    refine r_iconst C (-1) dX9_feed_10 (by decide) ?_
    exact r_iret C T dX9_feed_11 (Or.inl ⟨by omega, k_m1, rfl⟩)
set_option maxHeartbeats 4000000 in
set_option maxRecDepth 100000 in
theorem c_X9_isDigit (E : Ev) (ad : Nat → Nat) (σ : Sg) (p : Int32) (hl : (σ 39 29).toInt ≤ 60) (hp : 0 ≤ p.toInt) : Ct E ad yX9_isDigit cX9_isDigit 2 (some .boolean) 1 [.ref (ad 39), .int p] σ (fun r τ => τ = σ ∧ (r.toInt = 0 ∨ r.toInt = 1) ∧ (r.toInt = 1 → p.toInt < (σ 39 29).toInt)) := by
  have k_0 : (0 : Int32).toInt = 0 := by decide
  have k_1 : (1 : Int32).toInt = 1 := by decide
  have k_48 : (48 : Int32).toInt = 48 := by decide
  have k_57 : (57 : Int32).toInt = 57 := by decide
  refine ct_of RX9 rfl (by decide +kernel) [(0, .ref (ad 39)), (1, .int (p))] rfl (Nat.le_of_ble_eq_true rfl) (fun G C T => ?_)
  refine r_iload_n C 1 dX9_isDigit_0 rfl rfl ?_
  refine r_aload_n C 0 dX9_isDigit_1 rfl rfl ?_
  refine r_get C (k := 39) (v := .int (σ 39 29)) f_X9_168 (by decide) rfl rfl dX9_isDigit_2 ?_
  refine r_icmp_ge C 28 dX9_isDigit_5 (by decide) (fun c_1 => ?_) (fun c_1 => ?_)
  · -- to 28
    refine r_iconst C (0) dX9_isDigit_28 (by decide) ?_
    exact r_zret C T dX9_isDigit_29 (by omega) (⟨rfl, by omega, by omega⟩)
  · -- to 8
    refine r_aload_n C 0 dX9_isDigit_8 rfl rfl ?_
    refine r_get C (k := 39) (v := .ref (ad 64)) f_X9_83 (by decide) rfl rfl dX9_isDigit_9 ?_
    refine r_iload_n C 1 dX9_isDigit_12 rfl rfl ?_
    refine r_iald C (k := 64) (by decide) rfl (by omega) (σ 64 ((p : Int32).toInt.toNat)) rfl dX9_isDigit_13 ?_
    refine r_bipush C (48) dX9_isDigit_14 (by decide) ?_
    refine r_bipush C (57) dX9_isDigit_16 (by decide) ?_
    refine r_callS C [.int (σ 64 ((p : Int32).toInt.toNat)), .int (48), .int (57)] [] (c_X9_in E ad σ  (σ 64 ((p : Int32).toInt.toNat)) (48) (57) ) ls_X9_105 (by decide) (by decide) rfl rfl (Nat.le_of_ble_eq_true rfl) dX9_isDigit_18 (fun r_3 τ_4 h_5 => ?_)
    obtain ⟨eh_5, h_5⟩ := h_5
    obtain rfl := eh_5.symm
    refine r_if_eq C 28 dX9_isDigit_21 (by decide) (fun c_6 => ?_) (fun c_6 => ?_)
    · -- to 28
      refine r_iconst C (0) dX9_isDigit_28 (by decide) ?_
      exact r_zret C T dX9_isDigit_29 (by omega) (⟨rfl, by omega, by omega⟩)
    · -- to 24
      refine r_iconst C (1) dX9_isDigit_24 (by decide) ?_
      refine r_goto C 29 dX9_isDigit_25 (by decide) ?_
      exact r_zret C T dX9_isDigit_29 (by omega) (⟨rfl, by omega, by omega⟩)
set_option maxHeartbeats 4000000 in
set_option maxRecDepth 100000 in
theorem c_X9_isLetter (E : Ev) (ad : Nat → Nat) (σ : Sg) (p : Int32) (hl : (σ 39 29).toInt ≤ 60) (hp : 0 ≤ p.toInt) : Ct E ad yX9_isLetter cX9_isLetter 2 (some .boolean) 1 [.ref (ad 39), .int p] σ (fun r τ => τ = σ ∧ (r.toInt = 0 ∨ r.toInt = 1) ∧ (r.toInt = 1 → p.toInt < (σ 39 29).toInt)) := by
  have k_0 : (0 : Int32).toInt = 0 := by decide
  have k_1 : (1 : Int32).toInt = 1 := by decide
  have k_97 : (97 : Int32).toInt = 97 := by decide
  have k_122 : (122 : Int32).toInt = 122 := by decide
  refine ct_of RX9 rfl (by decide +kernel) [(0, .ref (ad 39)), (1, .int (p))] rfl (Nat.le_of_ble_eq_true rfl) (fun G C T => ?_)
  refine r_iload_n C 1 dX9_isLetter_0 rfl rfl ?_
  refine r_aload_n C 0 dX9_isLetter_1 rfl rfl ?_
  refine r_get C (k := 39) (v := .int (σ 39 29)) f_X9_168 (by decide) rfl rfl dX9_isLetter_2 ?_
  refine r_icmp_ge C 28 dX9_isLetter_5 (by decide) (fun c_1 => ?_) (fun c_1 => ?_)
  · -- to 28
    refine r_iconst C (0) dX9_isLetter_28 (by decide) ?_
    exact r_zret C T dX9_isLetter_29 (by omega) (⟨rfl, by omega, by omega⟩)
  · -- to 8
    refine r_aload_n C 0 dX9_isLetter_8 rfl rfl ?_
    refine r_get C (k := 39) (v := .ref (ad 64)) f_X9_83 (by decide) rfl rfl dX9_isLetter_9 ?_
    refine r_iload_n C 1 dX9_isLetter_12 rfl rfl ?_
    refine r_iald C (k := 64) (by decide) rfl (by omega) (σ 64 ((p : Int32).toInt.toNat)) rfl dX9_isLetter_13 ?_
    refine r_bipush C (97) dX9_isLetter_14 (by decide) ?_
    refine r_bipush C (122) dX9_isLetter_16 (by decide) ?_
    refine r_callS C [.int (σ 64 ((p : Int32).toInt.toNat)), .int (97), .int (122)] [] (c_X9_in E ad σ  (σ 64 ((p : Int32).toInt.toNat)) (97) (122) ) ls_X9_105 (by decide) (by decide) rfl rfl (Nat.le_of_ble_eq_true rfl) dX9_isLetter_18 (fun r_3 τ_4 h_5 => ?_)
    obtain ⟨eh_5, h_5⟩ := h_5
    obtain rfl := eh_5.symm
    refine r_if_eq C 28 dX9_isLetter_21 (by decide) (fun c_6 => ?_) (fun c_6 => ?_)
    · -- to 28
      refine r_iconst C (0) dX9_isLetter_28 (by decide) ?_
      exact r_zret C T dX9_isLetter_29 (by omega) (⟨rfl, by omega, by omega⟩)
    · -- to 24
      refine r_iconst C (1) dX9_isLetter_24 (by decide) ?_
      refine r_goto C 29 dX9_isLetter_25 (by decide) ?_
      exact r_zret C T dX9_isLetter_29 (by omega) (⟨rfl, by omega, by omega⟩)
set_option maxHeartbeats 4000000 in
set_option maxRecDepth 100000 in
theorem c_X9_next (E : Ev) (ad : Nat → Nat) (σ : Sg)  (he : 0 ≤ (σ 39 32).toInt ∧ (σ 39 32).toInt ≤ (σ 39 29).toInt ∧ (σ 39 29).toInt ≤ 60) : CtV E ad yX9_next cX9_next 3 2 [.ref (ad 39)] σ (fun τ => KT σ τ ∧ (τ 39 33).toInt = (σ 39 33).toInt ∧ (τ 39 34).toInt = (σ 39 34).toInt ∧ 0 ≤ (τ 39 31).toInt ∧ (τ 39 31).toInt ≤ (τ 39 32).toInt ∧ (τ 39 32).toInt ≤ (σ 39 29).toInt) := by
  have k_1 : (1 : Int32).toInt = 1 := by decide
  have k_32 : (32 : Int32).toInt = 32 := by decide
  refine ctv_of RX9 rfl (by decide +kernel) [(0, .ref (ad 39))] rfl (Nat.le_of_ble_eq_true rfl) (fun G C T => ?_)
  refine r_aload_n C 0 dX9_next_0 rfl rfl ?_
  refine r_aload_n C 0 dX9_next_1 rfl rfl ?_
  refine r_get C (k := 39) (v := .int (σ 39 32)) f_X9_173 (by decide) rfl rfl dX9_next_2 ?_
  refine r_put C (k := 39) pf_X9_176 (by decide) (fun _ => rfl) (fun _ => Nat.le_of_ble_eq_true rfl) (fun _ _ => rfl) dX9_next_5 ?_
  have L_8 : ∀ (n : Nat), ∀ (f : Int32), (0 ≤ f.toInt ∧ f.toInt ≤ (σ 39 29).toInt) → 61 - f.toInt < (n : Int) → At E ad G 3 8 [(0, .ref (ad 39))] [] (sUp σ 39 31 (f)) := by
    intro n
    induction n with
    | zero =>
      intro f hf hm
      exact absurd hm (by omega)
    | succ n ih =>
      intro f hf hm
      have ih_8 := ih
      clear ih
      have L_46 : At E ad G 3 46 [(0, .ref (ad 39))] [] (sUp σ 39 31 (f)) := by
        have L_71 : ∀ (e : Int32), (f.toInt ≤ e.toInt ∧ e.toInt ≤ (σ 39 29).toInt) → At E ad G 3 71 [(0, .ref (ad 39))] [.int (e), .ref (ad 39)] (sUp σ 39 31 (f)) := by
          intro e hee
          refine r_put C (k := 39) pf_X9_173 (by decide) (fun _ => rfl) (fun _ => Nat.le_of_ble_eq_true rfl) (fun _ _ => rfl) dX9_next_71 ?_
          refine r_aload_n C 0 dX9_next_74 rfl rfl ?_
          refine r_aload_n C 0 dX9_next_75 rfl rfl ?_
          refine r_get C (k := 39) (v := .int (f)) f_X9_176 (by decide) rfl rfl dX9_next_76 ?_
          refine r_callV C (k := 39) [.int (f)] [] (c_X9_isLetter E ad (sUp (sUp σ 39 31 (f)) 39 32 (e))  (f) (by show (σ 39 29).toInt ≤ 60; omega) (by omega)) lv_X9_179 (by decide) rfl rfl (by decide) (by decide) rfl rfl (Nat.le_of_ble_eq_true rfl) dX9_next_79 (fun r_1 τ_2 h_3 => ?_)
          obtain ⟨eh_3, h_3⟩ := h_3
          obtain rfl := eh_3.symm
          refine r_istore_n C [(1, .int (r_1)), (0, .ref (ad 39))] dX9_next_82 rfl (by decide) rfl ?_
          refine r_aload_n C 1 dX9_next_83 rfl rfl ?_
          refine r_aload_n C 1 dX9_next_84 rfl rfl ?_
          refine r_get C (k := 39) (v := .int (f)) f_X9_176 (by decide) rfl rfl dX9_next_85 ?_
          refine r_callV C (k := 39) [.int (f)] [] (c_X9_isDigit E ad (sUp (sUp σ 39 31 (f)) 39 32 (e))  (f) (by show (σ 39 29).toInt ≤ 60; omega) (by omega)) lv_X9_182 (by decide) rfl rfl (by decide) (by decide) rfl rfl (Nat.le_of_ble_eq_true rfl) dX9_next_88 (fun r_4 τ_5 h_6 => ?_)
          obtain ⟨eh_6, h_6⟩ := h_6
          obtain rfl := eh_6.symm
          refine r_istore_n C [(2, .int (r_4)), (1, .int (r_1)), (0, .ref (ad 39))] dX9_next_91 rfl (by decide) rfl ?_
          have L_92 : ∀ (n : Nat), ∀ (e2 : Int32), (f.toInt ≤ e2.toInt ∧ e2.toInt ≤ (σ 39 29).toInt) → 61 - e2.toInt < (n : Int) → At E ad G 3 92 [(2, .int (r_4)), (1, .int (r_1)), (0, .ref (ad 39))] [] (sUp (sUp σ 39 31 (f)) 39 32 (e2)) := by
            intro n
            induction n with
            | zero =>
              intro e2 he2 hm
              exact absurd hm (by omega)
            | succ n ih =>
              intro e2 he2 hm
              have ih_92 := ih
              clear ih
              have L_122 : (e2.toInt < (σ 39 29).toInt) → At E ad G 3 122 [(2, .int (r_4)), (1, .int (r_1)), (0, .ref (ad 39))] [] (sUp (sUp σ 39 31 (f)) 39 32 (e2)) := by
                intro hlt
                refine r_aload_n C 2 dX9_next_122 rfl rfl ?_
                refine r_dup C dX9_next_123 rfl ?_
                refine r_get C (k := 39) (v := .int (e2)) f_X9_173 (by decide) rfl rfl dX9_next_124 ?_
                refine r_iconst C (1) dX9_next_127 (by decide) ?_
                refine r_iadd C dX9_next_128 ?_
                refine r_nm (P := fun z => z.toInt = (e2 : Int32).toInt + (1 : Int32).toInt ∧ z = (e2) + (1)) ⟨ta_add (by omega), rfl⟩ (fun z_7 hz_8 => ?_)
                refine r_put C (k := 39) pf_X9_173 (by decide) (fun _ => rfl) (fun _ => Nat.le_of_ble_eq_true rfl) (fun _ _ => rfl) dX9_next_129 ?_
                rw [sUp2]
                refine r_goto C 92 dX9_next_132 (by decide) ?_
                exact At.sub [0, 1, 2] rfl (ih_92 (z_7 : Int32) (by omega) (by omega))
              refine r_iload_n C 1 dX9_next_92 rfl rfl ?_
              refine r_if_eq C 107 dX9_next_93 (by decide) (fun c_9 => ?_) (fun c_9 => ?_)
              · -- to 107
                refine r_iload_n C 0 dX9_next_107 rfl rfl ?_
                refine r_if_eq C 135 dX9_next_108 (by decide) (fun c_10 => ?_) (fun c_10 => ?_)
                · -- to 135
                  exact r_vret C T dX9_next_135 (⟨(KT.rf.up (by decide)).up (by decide), rfl, rfl, (show 0 ≤ f.toInt by omega), (show f.toInt ≤ e2.toInt by omega), (show e2.toInt ≤ _ by omega)⟩)
                · -- to 111
                  refine r_aload_n C 2 dX9_next_111 rfl rfl ?_
                  refine r_aload_n C 2 dX9_next_112 rfl rfl ?_
                  refine r_get C (k := 39) (v := .int (e2)) f_X9_173 (by decide) rfl rfl dX9_next_113 ?_
                  refine r_callV C (k := 39) [.int (e2)] [] (c_X9_isDigit E ad (sUp (sUp σ 39 31 (f)) 39 32 (e2))  (e2) (by show (σ 39 29).toInt ≤ 60; omega) (by omega)) lv_X9_182 (by decide) rfl rfl (by decide) (by decide) rfl rfl (Nat.le_of_ble_eq_true rfl) dX9_next_116 (fun r_11 τ_12 h_13 => ?_)
                  obtain ⟨eh_13, h_13⟩ := h_13
                  obtain rfl := eh_13.symm
                  refine r_if_eq C 135 dX9_next_119 (by decide) (fun c_14 => ?_) (fun c_14 => ?_)
                  · -- to 135
                    exact r_vret C T dX9_next_135 (⟨(KT.rf.up (by decide)).up (by decide), rfl, rfl, (show 0 ≤ f.toInt by omega), (show f.toInt ≤ e2.toInt by omega), (show e2.toInt ≤ _ by omega)⟩)
                  · -- to 122
                    exact At.sub [0, 1, 2] rfl (L_122  (show e2.toInt < (σ 39 29).toInt from h_13.2 (by omega)))
              · -- to 96
                refine r_aload_n C 2 dX9_next_96 rfl rfl ?_
                refine r_aload_n C 2 dX9_next_97 rfl rfl ?_
                refine r_get C (k := 39) (v := .int (e2)) f_X9_173 (by decide) rfl rfl dX9_next_98 ?_
                refine r_callV C (k := 39) [.int (e2)] [] (c_X9_isLetter E ad (sUp (sUp σ 39 31 (f)) 39 32 (e2))  (e2) (by show (σ 39 29).toInt ≤ 60; omega) (by omega)) lv_X9_179 (by decide) rfl rfl (by decide) (by decide) rfl rfl (Nat.le_of_ble_eq_true rfl) dX9_next_101 (fun r_15 τ_16 h_17 => ?_)
                obtain ⟨eh_17, h_17⟩ := h_17
                obtain rfl := eh_17.symm
                refine r_if_ne C 122 dX9_next_104 (by decide) (fun c_18 => ?_) (fun c_18 => ?_)
                · -- to 122
                  exact At.sub [0, 1, 2] rfl (L_122  (show e2.toInt < (σ 39 29).toInt from h_17.2 (by omega)))
                · -- to 107
                  refine r_iload_n C 0 dX9_next_107 rfl rfl ?_
                  refine r_if_eq C 135 dX9_next_108 (by decide) (fun c_19 => ?_) (fun c_19 => ?_)
                  · -- to 135
                    exact r_vret C T dX9_next_135 (⟨(KT.rf.up (by decide)).up (by decide), rfl, rfl, (show 0 ≤ f.toInt by omega), (show f.toInt ≤ e2.toInt by omega), (show e2.toInt ≤ _ by omega)⟩)
                  · -- to 111
                    refine r_aload_n C 2 dX9_next_111 rfl rfl ?_
                    refine r_aload_n C 2 dX9_next_112 rfl rfl ?_
                    refine r_get C (k := 39) (v := .int (e2)) f_X9_173 (by decide) rfl rfl dX9_next_113 ?_
                    refine r_callV C (k := 39) [.int (e2)] [] (c_X9_isDigit E ad (sUp (sUp σ 39 31 (f)) 39 32 (e2))  (e2) (by show (σ 39 29).toInt ≤ 60; omega) (by omega)) lv_X9_182 (by decide) rfl rfl (by decide) (by decide) rfl rfl (Nat.le_of_ble_eq_true rfl) dX9_next_116 (fun r_20 τ_21 h_22 => ?_)
                    obtain ⟨eh_22, h_22⟩ := h_22
                    obtain rfl := eh_22.symm
                    refine r_if_eq C 135 dX9_next_119 (by decide) (fun c_23 => ?_) (fun c_23 => ?_)
                    · -- to 135
                      exact r_vret C T dX9_next_135 (⟨(KT.rf.up (by decide)).up (by decide), rfl, rfl, (show 0 ≤ f.toInt by omega), (show f.toInt ≤ e2.toInt by omega), (show e2.toInt ≤ _ by omega)⟩)
                    · -- to 122
                      exact At.sub [0, 1, 2] rfl (L_122  (show e2.toInt < (σ 39 29).toInt from h_22.2 (by omega)))
          exact At.sub [0, 1, 2] rfl (L_92 ((61 - (e : Int32).toInt).toNat + 1) (e : Int32) (by omega) (by omega))
        refine r_aload_n C 0 dX9_next_46 rfl rfl ?_
        refine r_aload_n C 0 dX9_next_47 rfl rfl ?_
        refine r_get C (k := 39) (v := .int (f)) f_X9_176 (by decide) rfl rfl dX9_next_48 ?_
        refine r_aload_n C 0 dX9_next_51 rfl rfl ?_
        refine r_get C (k := 39) (v := .int (σ 39 29)) f_X9_168 (by decide) rfl rfl dX9_next_52 ?_
        refine r_icmp_ge C 67 dX9_next_55 (by decide) (fun c_24 => ?_) (fun c_24 => ?_)
        · -- to 67
          refine r_aload_n C 0 dX9_next_67 rfl rfl ?_
          refine r_get C (k := 39) (v := .int (f)) f_X9_176 (by decide) rfl rfl dX9_next_68 ?_
          exact At.sub [0] rfl (L_71 (f : Int32) (by omega))
        · -- to 58
          refine r_aload_n C 0 dX9_next_58 rfl rfl ?_
          refine r_get C (k := 39) (v := .int (f)) f_X9_176 (by decide) rfl rfl dX9_next_59 ?_
          refine r_iconst C (1) dX9_next_62 (by decide) ?_
          refine r_iadd C dX9_next_63 ?_
          refine r_nm (P := fun z => z.toInt = (f : Int32).toInt + (1 : Int32).toInt ∧ z = (f) + (1)) ⟨ta_add (by omega), rfl⟩ (fun z_25 hz_26 => ?_)
          refine r_goto C 71 dX9_next_64 (by decide) ?_
          exact At.sub [0] rfl (L_71 (z_25 : Int32) (by omega))
      refine r_aload_n C 0 dX9_next_8 rfl rfl ?_
      refine r_get C (k := 39) (v := .int (f)) f_X9_176 (by decide) rfl rfl dX9_next_9 ?_
      refine r_aload_n C 0 dX9_next_12 rfl rfl ?_
      refine r_get C (k := 39) (v := .int (σ 39 29)) f_X9_168 (by decide) rfl rfl dX9_next_13 ?_
      refine r_icmp_ge C 46 dX9_next_16 (by decide) (fun c_27 => ?_) (fun c_27 => ?_)
      · -- to 46
        exact At.sub [0] rfl (L_46  )
      · -- to 19
        refine r_aload_n C 0 dX9_next_19 rfl rfl ?_
        refine r_get C (k := 39) (v := .ref (ad 64)) f_X9_83 (by decide) rfl rfl dX9_next_20 ?_
        refine r_aload_n C 0 dX9_next_23 rfl rfl ?_
        refine r_get C (k := 39) (v := .int (f)) f_X9_176 (by decide) rfl rfl dX9_next_24 ?_
        refine r_iald C (k := 64) (by decide) rfl (by omega) (σ 64 ((f : Int32).toInt.toNat)) rfl dX9_next_27 ?_
        refine r_bipush C (32) dX9_next_28 (by decide) ?_
        refine r_icmp_ne C 46 dX9_next_30 (by decide) (fun c_29 => ?_) (fun c_29 => ?_)
        · -- to 46
          exact At.sub [0] rfl (L_46  )
        · -- to 33
          refine r_aload_n C 0 dX9_next_33 rfl rfl ?_
          refine r_dup C dX9_next_34 rfl ?_
          refine r_get C (k := 39) (v := .int (f)) f_X9_176 (by decide) rfl rfl dX9_next_35 ?_
          refine r_iconst C (1) dX9_next_38 (by decide) ?_
          refine r_iadd C dX9_next_39 ?_
          refine r_nm (P := fun z => z.toInt = (f : Int32).toInt + (1 : Int32).toInt ∧ z = (f) + (1)) ⟨ta_add (by omega), rfl⟩ (fun z_30 hz_31 => ?_)
          refine r_put C (k := 39) pf_X9_176 (by decide) (fun _ => rfl) (fun _ => Nat.le_of_ble_eq_true rfl) (fun _ _ => rfl) dX9_next_40 ?_
          rw [sUp2]
          refine r_goto C 8 dX9_next_43 (by decide) ?_
          exact At.sub [0] rfl (ih_8 (z_30 : Int32) (by omega) (by omega))
  exact At.sub [0] rfl (L_8 ((61 - (σ 39 32 : Int32).toInt).toNat + 1) (σ 39 32 : Int32) (by omega) (by omega))
set_option maxHeartbeats 4000000 in
set_option maxRecDepth 100000 in
theorem c_X9_isWord (E : Ev) (ad : Nat → Nat) (σ : Sg) (b : Int64) (m : Int32) (he : 0 ≤ (σ 39 31).toInt ∧ (σ 39 31).toInt ≤ (σ 39 32).toInt ∧ (σ 39 32).toInt ≤ (σ 39 29).toInt ∧ (σ 39 29).toInt ≤ 60) (hm2 : 1 ≤ m.toInt ∧ m.toInt ≤ 6) : Ct E ad yX9_isWord cX9_isWord 6 (some .boolean) 0 [.ref (ad 39), .long b, .int m] σ (fun r τ => τ = σ ∧ (r.toInt = 0 ∨ r.toInt = 1) ∧ ((σ 39 31).toInt = (σ 39 32).toInt → r.toInt = 0)) := by
  have k_0 : (0 : Int32).toInt = 0 := by decide
  have k_1 : (1 : Int32).toInt = 1 := by decide
  have k_8 : (8 : Int32).toInt = 8 := by decide
  refine ct_of RX9 rfl (by decide +kernel) [(0, .ref (ad 39)), (1, .long (b)), (3, .int (m))] rfl (Nat.le_of_ble_eq_true rfl) (fun G C T => ?_)
  refine r_aload_n C 0 dX9_isWord_0 rfl rfl ?_
  refine r_get C (k := 39) (v := .int (σ 39 32)) f_X9_173 (by decide) rfl rfl dX9_isWord_1 ?_
  refine r_aload_n C 0 dX9_isWord_4 rfl rfl ?_
  refine r_get C (k := 39) (v := .int (σ 39 31)) f_X9_176 (by decide) rfl rfl dX9_isWord_5 ?_
  refine r_isub C dX9_isWord_8 ?_
  refine r_nm (P := fun z => z.toInt = (σ 39 32 : Int32).toInt - (σ 39 31 : Int32).toInt ∧ z = (σ 39 32) - (σ 39 31)) ⟨ta_sub (by omega), rfl⟩ (fun z_1 hz_2 => ?_)
  have L_18 : ∀ (c : Int32), ((c.toInt = 0 ∨ c.toInt = 1) ∧ (c.toInt = 1 → (σ 39 32).toInt - (σ 39 31).toInt = m.toInt)) → At E ad G 6 18 [(0, .ref (ad 39)), (1, .long (b)), (3, .int (m))] [.int (c)] σ := by
    intro c hc
    refine r_istore C [(4, .int (c)), (0, .ref (ad 39)), (1, .long (b)), (3, .int (m))] dX9_isWord_18 (by decide) rfl ?_
    refine r_iconst C (0) dX9_isWord_20 (by decide) ?_
    refine r_istore C [(5, .int (0)), (4, .int (c)), (0, .ref (ad 39)), (1, .long (b)), (3, .int (m))] dX9_isWord_21 (by decide) rfl ?_
    have L_23 : ∀ (n : Nat), ∀ (a : Int32) (i : Int32), (0 ≤ i.toInt ∧ i.toInt ≤ m.toInt) → ((a.toInt = 0 ∨ a.toInt = 1) ∧ (a.toInt = 1 → (σ 39 32).toInt - (σ 39 31).toInt = m.toInt)) → 6 - i.toInt < (n : Int) → At E ad G 6 23 [(5, .int (i)), (4, .int (a)), (0, .ref (ad 39)), (1, .long (b)), (3, .int (m))] [] σ := by
      intro n
      induction n with
      | zero =>
        intro a i hi ha hm
        exact absurd hm (by omega)
      | succ n ih =>
        intro a i hi ha hm
        have ih_23 := ih
        clear ih
        refine r_iload C 0 dX9_isWord_23 rfl ?_
        refine r_iload_n C 4 dX9_isWord_25 rfl rfl ?_
        refine r_icmp_ge C 78 dX9_isWord_26 (by decide) (fun c_3 => ?_) (fun c_3 => ?_)
        · -- to 78
          refine r_iload C 1 dX9_isWord_78 rfl ?_
          exact r_zret C T dX9_isWord_80 (by omega) (⟨rfl, by omega, fun h => by omega⟩)
        · -- to 29
          refine r_iload C 1 dX9_isWord_29 rfl ?_
          refine r_if_eq C 78 dX9_isWord_31 (by decide) (fun c_4 => ?_) (fun c_4 => ?_)
          · -- to 78
            refine r_iload C 1 dX9_isWord_78 rfl ?_
            exact r_zret C T dX9_isWord_80 (by omega) (⟨rfl, by omega, fun h => by omega⟩)
          · -- to 34
            refine r_aload_n C 2 dX9_isWord_34 rfl rfl ?_
            refine r_get C (k := 39) (v := .ref (ad 64)) f_X9_83 (by decide) rfl rfl dX9_isWord_35 ?_
            refine r_aload_n C 2 dX9_isWord_38 rfl rfl ?_
            refine r_get C (k := 39) (v := .int (σ 39 31)) f_X9_176 (by decide) rfl rfl dX9_isWord_39 ?_
            refine r_iload C 0 dX9_isWord_42 rfl ?_
            refine r_iadd C dX9_isWord_44 ?_
            refine r_nm (P := fun z => z.toInt = (σ 39 31 : Int32).toInt + (i : Int32).toInt ∧ z = (σ 39 31) + (i)) ⟨ta_add (by omega), rfl⟩ (fun z_5 hz_6 => ?_)
            refine r_iald C (k := 64) (by decide) rfl (by omega) (σ 64 ((z_5 : Int32).toInt.toNat)) rfl dX9_isWord_45 ?_
            refine r_lload_n C 3 dX9_isWord_46 rfl rfl ?_
            refine r_bipush C (8) dX9_isWord_47 (by decide) ?_
            refine r_iload_n C 4 dX9_isWord_49 rfl rfl ?_
            refine r_iconst C (1) dX9_isWord_50 (by decide) ?_
            refine r_isub C dX9_isWord_51 ?_
            refine r_nm (P := fun z => z = (m) - (1)) rfl (fun z_8 hz_9 => ?_)
            refine r_iload C 0 dX9_isWord_52 rfl ?_
            refine r_isub C dX9_isWord_54 ?_
            refine r_nm (P := fun z => z = (z_8) - (i)) rfl (fun z_10 hz_11 => ?_)
            refine r_imul C dX9_isWord_55 ?_
            refine r_nm (P := fun z => z = (8) * (z_10)) rfl (fun z_12 hz_13 => ?_)
            refine r_lshr C dX9_isWord_56 ?_
            refine r_ldc2 C (255) kc_X9_171 dX9_isWord_57 ?_
            refine r_land C dX9_isWord_60 ?_
            refine r_l2i C dX9_isWord_61 ?_
            refine r_nm (P := fun z => z = (((b : Int64) >>> ((z_12 : Int32).toInt64 &&& 63) : Int64) &&& (255) : Int64).toInt32) rfl (fun z_14 hz_15 => ?_)
            refine r_icmp_ne C 69 dX9_isWord_62 (by decide) (fun c_16 => ?_) (fun c_16 => ?_)
            · -- to 69
              refine r_iconst C (0) dX9_isWord_69 (by decide) ?_
              refine r_istore C [(4, .int (0)), (5, .int (i)), (0, .ref (ad 39)), (1, .long (b)), (3, .int (m))] dX9_isWord_70 (by decide) rfl ?_
              refine r_iinc C 1 (fun z => [(5, .int (z)), (4, .int (0)), (0, .ref (ad 39)), (1, .long (b)), (3, .int (m))]) dX9_isWord_72 rfl (by decide) (by decide) (by omega) (fun _ => rfl) (fun z_17 hz_18 => ?_)
              refine r_goto C 23 dX9_isWord_75 (by decide) ?_
              exact At.sub [0, 1, 2, 3, 4] rfl (ih_23 (0 : Int32) (z_17 : Int32) (by omega) (by omega) (by omega))
            · -- to 65
              refine r_iconst C (1) dX9_isWord_65 (by decide) ?_
              refine r_goto C 70 dX9_isWord_66 (by decide) ?_
              refine r_istore C [(4, .int (1)), (5, .int (i)), (0, .ref (ad 39)), (1, .long (b)), (3, .int (m))] dX9_isWord_70 (by decide) rfl ?_
              refine r_iinc C 1 (fun z => [(5, .int (z)), (4, .int (1)), (0, .ref (ad 39)), (1, .long (b)), (3, .int (m))]) dX9_isWord_72 rfl (by decide) (by decide) (by omega) (fun _ => rfl) (fun z_19 hz_20 => ?_)
              refine r_goto C 23 dX9_isWord_75 (by decide) ?_
              exact At.sub [0, 1, 2, 3, 4] rfl (ih_23 (1 : Int32) (z_19 : Int32) (by omega) (by omega) (by omega))
    exact At.sub [0, 1, 2, 3, 4] rfl (L_23 ((6 - (0 : Int32).toInt).toNat + 1) (c : Int32) (0 : Int32) (by omega) (by omega) (by omega))
  refine r_iload_n C 2 dX9_isWord_9 rfl rfl ?_
  refine r_icmp_ne C 17 dX9_isWord_10 (by decide) (fun c_21 => ?_) (fun c_21 => ?_)
  · -- to 17
    refine r_iconst C (0) dX9_isWord_17 (by decide) ?_
    exact At.sub [0, 1, 2] rfl (L_18 (0 : Int32) (by omega))
  · -- to 13
    refine r_iconst C (1) dX9_isWord_13 (by decide) ?_
    refine r_goto C 18 dX9_isWord_14 (by decide) ?_
    exact At.sub [0, 1, 2] rfl (L_18 (1 : Int32) (by omega))
set_option maxHeartbeats 4000000 in
set_option maxRecDepth 100000 in
theorem c_X9_bad (E : Ev) (ad : Nat → Nat) (σ : Sg)   : CtV E ad yX9_bad cX9_bad 1 0 [.ref (ad 39)] σ (fun τ => KT σ τ ∧ (τ 39 34).toInt = (σ 39 34).toInt ∧ (τ 39 31).toInt = (σ 39 31).toInt ∧ (τ 39 32).toInt = (σ 39 32).toInt ∧ ((σ 39 33).toInt < 0 → (τ 39 33).toInt = (σ 39 31).toInt) ∧ (0 ≤ (σ 39 33).toInt → (τ 39 33).toInt = (σ 39 33).toInt)) := by
  refine ctv_of RX9 rfl (by decide +kernel) [(0, .ref (ad 39))] rfl (Nat.le_of_ble_eq_true rfl) (fun G C T => ?_)
  refine r_aload_n C 0 dX9_bad_0 rfl rfl ?_
  refine r_aload_n C 0 dX9_bad_1 rfl rfl ?_
  refine r_get C (k := 39) (v := .int (σ 39 33)) f_X9_185 (by decide) rfl rfl dX9_bad_2 ?_
  refine r_if_ge C 15 dX9_bad_5 (by decide) (fun c_1 => ?_) (fun c_1 => ?_)
  · -- to 15
    refine r_aload_n C 0 dX9_bad_15 rfl rfl ?_
    refine r_get C (k := 39) (v := .int (σ 39 33)) f_X9_185 (by decide) rfl rfl dX9_bad_16 ?_
    refine r_put C (k := 39) pf_X9_185 (by decide) (fun _ => rfl) (fun _ => Nat.le_of_ble_eq_true rfl) (fun _ _ => rfl) dX9_bad_19 ?_
    exact r_vret C T dX9_bad_22 (⟨KT.rf.up (by decide), rfl, rfl, rfl, fun h => by first | rfl | exact absurd h (by omega), fun h => by first | rfl | exact absurd h (by omega)⟩)
  · -- to 8
    refine r_aload_n C 0 dX9_bad_8 rfl rfl ?_
    refine r_get C (k := 39) (v := .int (σ 39 31)) f_X9_176 (by decide) rfl rfl dX9_bad_9 ?_
    refine r_goto C 19 dX9_bad_12 (by decide) ?_
    refine r_put C (k := 39) pf_X9_185 (by decide) (fun _ => rfl) (fun _ => Nat.le_of_ble_eq_true rfl) (fun _ _ => rfl) dX9_bad_19 ?_
    exact r_vret C T dX9_bad_22 (⟨KT.rf.up (by decide), rfl, rfl, rfl, fun h => by first | rfl | exact absurd h (by omega), fun h => by first | rfl | exact absurd h (by omega)⟩)
set_option maxHeartbeats 4000000 in
set_option maxRecDepth 100000 in
theorem c_X9_word (E : Ev) (ad : Nat → Nat) (σ : Sg) (b : Int64) (m : Int32) (he : 0 ≤ (σ 39 31).toInt ∧ (σ 39 31).toInt ≤ (σ 39 32).toInt ∧ (σ 39 32).toInt ≤ (σ 39 29).toInt ∧ (σ 39 29).toInt ≤ 60) (hm2 : 1 ≤ m.toInt ∧ m.toInt ≤ 6) : CtV E ad yX9_word cX9_word 4 3 [.ref (ad 39), .long b, .int m] σ (fun τ => KT σ τ ∧ (τ 39 34).toInt = (σ 39 34).toInt ∧ 0 ≤ (τ 39 31).toInt ∧ (τ 39 31).toInt ≤ (τ 39 32).toInt ∧ (τ 39 32).toInt ≤ (σ 39 29).toInt) := by
  refine ctv_of RX9 rfl (by decide +kernel) [(0, .ref (ad 39)), (1, .long (b)), (3, .int (m))] rfl (Nat.le_of_ble_eq_true rfl) (fun G C T => ?_)
  refine r_aload_n C 0 dX9_word_0 rfl rfl ?_
  refine r_lload_n C 1 dX9_word_1 rfl rfl ?_
  refine r_iload_n C 2 dX9_word_2 rfl rfl ?_
  refine r_callV C (k := 39) [.long (b), .int (m)] [] (c_X9_isWord E ad σ  (b) (m) (by omega) (by omega)) lv_X9_188 (by decide) rfl rfl (by decide) (by decide) rfl rfl (Nat.le_of_ble_eq_true rfl) dX9_word_3 (fun r_1 τ_2 h_3 => ?_)
  obtain ⟨eh_3, h_3⟩ := h_3
  obtain rfl := eh_3.symm
  refine r_if_ne C 13 dX9_word_6 (by decide) (fun c_4 => ?_) (fun c_4 => ?_)
  · -- to 13
    refine r_aload_n C 0 dX9_word_13 rfl rfl ?_
    refine r_callVv C (k := 39) [] [] (c_X9_next E ad σ   (by omega)) lv_X9_195 (by decide) rfl rfl (by decide) (by decide) rfl rfl (Nat.le_of_ble_eq_true rfl) dX9_word_14 (fun τ_6 h_7 => ?_)
    exact r_vret C T dX9_word_17 (⟨h_7.1, by omega, by omega, by omega, by omega⟩)
  · -- to 9
    refine r_aload_n C 0 dX9_word_9 rfl rfl ?_
    refine r_callVv C (k := 39) [] [] (c_X9_bad E ad σ   ) lv_X9_192 (by decide) rfl rfl (by decide) (by decide) rfl rfl (Nat.le_of_ble_eq_true rfl) dX9_word_10 (fun τ_9 h_10 => ?_)
    have e29 : (τ_9 39 29).toInt = (σ 39 29).toInt := by rw [h_10.1.2 29 (by omega)]
    refine r_aload_n C 0 dX9_word_13 rfl rfl ?_
    refine r_callVv C (k := 39) [] [] (c_X9_next E ad τ_9   (by omega)) lv_X9_195 (by decide) rfl rfl (by decide) (by decide) rfl rfl (Nat.le_of_ble_eq_true rfl) dX9_word_14 (fun τ_12 h_13 => ?_)
    exact r_vret C T dX9_word_17 (⟨h_10.1.tr h_13.1, by omega, by omega, by omega, by omega⟩)
set_option maxHeartbeats 4000000 in
set_option maxRecDepth 100000 in
theorem c_X9_sort (E : Ev) (ad : Nat → Nat) (σ : Sg)  (he : 0 ≤ (σ 39 31).toInt ∧ (σ 39 31).toInt ≤ (σ 39 32).toInt ∧ (σ 39 32).toInt ≤ (σ 39 29).toInt ∧ (σ 39 29).toInt ≤ 60) : Ct E ad yX9_sort cX9_sort 2 (some .int) 3 [.ref (ad 39)] σ (fun r τ => KT σ τ ∧ (τ 39 34).toInt = (σ 39 34).toInt ∧ 0 ≤ (τ 39 31).toInt ∧ (τ 39 31).toInt ≤ (τ 39 32).toInt ∧ (τ 39 32).toInt ≤ (σ 39 29).toInt) := by
  have k_m1 : (-1 : Int32).toInt = -1 := by decide
  have k_0 : (0 : Int32).toInt = 0 := by decide
  have k_1 : (1 : Int32).toInt = 1 := by decide
  have k_2 : (2 : Int32).toInt = 2 := by decide
  have k_3 : (3 : Int32).toInt = 3 := by decide
  have k_4 : (4 : Int32).toInt = 4 := by decide
  have k_6 : (6 : Int32).toInt = 6 := by decide
  refine ct_of RX9 rfl (by decide +kernel) [(0, .ref (ad 39))] rfl (Nat.le_of_ble_eq_true rfl) (fun G C T => ?_)
  have L_47 : ∀ (a : Int32), At E ad G 2 47 [(0, .ref (ad 39))] [.int (a)] σ := by
    intro a
    refine r_istore_n C [(1, .int (a)), (0, .ref (ad 39))] dX9_sort_47 rfl (by decide) rfl ?_
    refine r_iload_n C 0 dX9_sort_48 rfl rfl ?_
    refine r_if_ge C 56 dX9_sort_49 (by decide) (fun c_1 => ?_) (fun c_1 => ?_)
    · -- to 56
      refine r_aload_n C 1 dX9_sort_56 rfl rfl ?_
      refine r_callVv C (k := 39) [] [] (c_X9_next E ad σ   (by omega)) lv_X9_195 (by decide) rfl rfl (by decide) (by decide) rfl rfl (Nat.le_of_ble_eq_true rfl) dX9_sort_57 (fun τ_3 h_4 => ?_)
      refine r_iload_n C 0 dX9_sort_60 rfl rfl ?_
      exact r_iret C T dX9_sort_61 (⟨h_4.1, by omega, by omega, by omega, by omega⟩)
    · -- to 52
      refine r_aload_n C 1 dX9_sort_52 rfl rfl ?_
      refine r_callVv C (k := 39) [] [] (c_X9_bad E ad σ   ) lv_X9_192 (by decide) rfl rfl (by decide) (by decide) rfl rfl (Nat.le_of_ble_eq_true rfl) dX9_sort_53 (fun τ_6 h_7 => ?_)
      have e29 : (τ_6 39 29).toInt = (σ 39 29).toInt := by rw [h_7.1.2 29 (by omega)]
      refine r_aload_n C 1 dX9_sort_56 rfl rfl ?_
      refine r_callVv C (k := 39) [] [] (c_X9_next E ad τ_6   (by omega)) lv_X9_195 (by decide) rfl rfl (by decide) (by decide) rfl rfl (Nat.le_of_ble_eq_true rfl) dX9_sort_57 (fun τ_9 h_10 => ?_)
      refine r_iload_n C 0 dX9_sort_60 rfl rfl ?_
      exact r_iret C T dX9_sort_61 (⟨h_7.1.tr h_10.1, by omega, by omega, by omega, by omega⟩)
  refine r_aload_n C 0 dX9_sort_0 rfl rfl ?_
  refine r_ldc2 C (1668246628) kc_X9_198 dX9_sort_1 ?_
  refine r_iconst C (4) dX9_sort_4 (by decide) ?_
  refine r_callV C (k := 39) [.long (1668246628), .int (4)] [] (c_X9_isWord E ad σ  (1668246628) (4) (by omega) (by omega)) lv_X9_188 (by decide) rfl rfl (by decide) (by decide) rfl rfl (Nat.le_of_ble_eq_true rfl) dX9_sort_5 (fun r_11 τ_12 h_13 => ?_)
  obtain ⟨eh_13, h_13⟩ := h_13
  obtain rfl := eh_13.symm
  refine r_if_eq C 15 dX9_sort_8 (by decide) (fun c_14 => ?_) (fun c_14 => ?_)
  · -- to 15
    refine r_aload_n C 0 dX9_sort_15 rfl rfl ?_
    refine r_ldc2 C (6844276) kc_X9_200 dX9_sort_16 ?_
    refine r_iconst C (3) dX9_sort_19 (by decide) ?_
    refine r_callV C (k := 39) [.long (6844276), .int (3)] [] (c_X9_isWord E ad σ  (6844276) (3) (by omega) (by omega)) lv_X9_188 (by decide) rfl rfl (by decide) (by decide) rfl rfl (Nat.le_of_ble_eq_true rfl) dX9_sort_20 (fun r_15 τ_16 h_17 => ?_)
    obtain ⟨eh_17, h_17⟩ := h_17
    obtain rfl := eh_17.symm
    refine r_if_eq C 30 dX9_sort_23 (by decide) (fun c_18 => ?_) (fun c_18 => ?_)
    · -- to 30
      refine r_aload_n C 0 dX9_sort_30 rfl rfl ?_
      refine r_ldc2 C (130178100716908) kc_X9_202 dX9_sort_31 ?_
      refine r_bipush C (6) dX9_sort_34 (by decide) ?_
      refine r_callV C (k := 39) [.long (130178100716908), .int (6)] [] (c_X9_isWord E ad σ  (130178100716908) (6) (by omega) (by omega)) lv_X9_188 (by decide) rfl rfl (by decide) (by decide) rfl rfl (Nat.le_of_ble_eq_true rfl) dX9_sort_36 (fun r_19 τ_20 h_21 => ?_)
      obtain ⟨eh_21, h_21⟩ := h_21
      obtain rfl := eh_21.symm
      refine r_if_eq C 46 dX9_sort_39 (by decide) (fun c_22 => ?_) (fun c_22 => ?_)
      · -- to 46
        refine r_iconst C (-1) dX9_sort_46 (by decide) ?_
        exact At.sub [0] rfl (L_47 ((-1) : Int32) )
      · -- to 42
        refine r_iconst C (2) dX9_sort_42 (by decide) ?_
        refine r_goto C 47 dX9_sort_43 (by decide) ?_
        exact At.sub [0] rfl (L_47 (2 : Int32) )
    · -- to 26
      refine r_iconst C (1) dX9_sort_26 (by decide) ?_
      refine r_goto C 47 dX9_sort_27 (by decide) ?_
      exact At.sub [0] rfl (L_47 (1 : Int32) )
  · -- to 11
    refine r_iconst C (0) dX9_sort_11 (by decide) ?_
    refine r_goto C 47 dX9_sort_12 (by decide) ?_
    exact At.sub [0] rfl (L_47 (0 : Int32) )
set_option maxHeartbeats 4000000 in
set_option maxRecDepth 100000 in
theorem c_X9_hazard (E : Ev) (ad : Nat → Nat) (σ : Sg)  (he : 0 ≤ (σ 39 31).toInt ∧ (σ 39 31).toInt ≤ (σ 39 32).toInt ∧ (σ 39 32).toInt ≤ (σ 39 29).toInt ∧ (σ 39 29).toInt ≤ 60) : Ct E ad yX9_hazard cX9_hazard 2 (some .int) 3 [.ref (ad 39)] σ (fun r τ => KT σ τ ∧ (τ 39 34).toInt = (σ 39 34).toInt ∧ 0 ≤ (τ 39 31).toInt ∧ (τ 39 31).toInt ≤ (τ 39 32).toInt ∧ (τ 39 32).toInt ≤ (σ 39 29).toInt) := by
  have k_m1 : (-1 : Int32).toInt = -1 := by decide
  have k_0 : (0 : Int32).toInt = 0 := by decide
  have k_1 : (1 : Int32).toInt = 1 := by decide
  have k_2 : (2 : Int32).toInt = 2 := by decide
  have k_3 : (3 : Int32).toInt = 3 := by decide
  have k_5 : (5 : Int32).toInt = 5 := by decide
  refine ct_of RX9 rfl (by decide +kernel) [(0, .ref (ad 39))] rfl (Nat.le_of_ble_eq_true rfl) (fun G C T => ?_)
  have L_46 : ∀ (a : Int32), At E ad G 2 46 [(0, .ref (ad 39))] [.int (a)] σ := by
    intro a
    refine r_istore_n C [(1, .int (a)), (0, .ref (ad 39))] dX9_hazard_46 rfl (by decide) rfl ?_
    refine r_iload_n C 0 dX9_hazard_47 rfl rfl ?_
    refine r_if_ge C 55 dX9_hazard_48 (by decide) (fun c_1 => ?_) (fun c_1 => ?_)
    · -- to 55
      refine r_aload_n C 1 dX9_hazard_55 rfl rfl ?_
      refine r_callVv C (k := 39) [] [] (c_X9_next E ad σ   (by omega)) lv_X9_195 (by decide) rfl rfl (by decide) (by decide) rfl rfl (Nat.le_of_ble_eq_true rfl) dX9_hazard_56 (fun τ_3 h_4 => ?_)
      refine r_iload_n C 0 dX9_hazard_59 rfl rfl ?_
      exact r_iret C T dX9_hazard_60 (⟨h_4.1, by omega, by omega, by omega, by omega⟩)
    · -- to 51
      refine r_aload_n C 1 dX9_hazard_51 rfl rfl ?_
      refine r_callVv C (k := 39) [] [] (c_X9_bad E ad σ   ) lv_X9_192 (by decide) rfl rfl (by decide) (by decide) rfl rfl (Nat.le_of_ble_eq_true rfl) dX9_hazard_52 (fun τ_6 h_7 => ?_)
      have e29 : (τ_6 39 29).toInt = (σ 39 29).toInt := by rw [h_7.1.2 29 (by omega)]
      refine r_aload_n C 1 dX9_hazard_55 rfl rfl ?_
      refine r_callVv C (k := 39) [] [] (c_X9_next E ad τ_6   (by omega)) lv_X9_195 (by decide) rfl rfl (by decide) (by decide) rfl rfl (Nat.le_of_ble_eq_true rfl) dX9_hazard_56 (fun τ_9 h_10 => ?_)
      refine r_iload_n C 0 dX9_hazard_59 rfl rfl ?_
      exact r_iret C T dX9_hazard_60 (⟨h_7.1.tr h_10.1, by omega, by omega, by omega, by omega⟩)
  refine r_aload_n C 0 dX9_hazard_0 rfl rfl ?_
  refine r_ldc2 C (6775155) kc_X9_204 dX9_hazard_1 ?_
  refine r_iconst C (3) dX9_hazard_4 (by decide) ?_
  refine r_callV C (k := 39) [.long (6775155), .int (3)] [] (c_X9_isWord E ad σ  (6775155) (3) (by omega) (by omega)) lv_X9_188 (by decide) rfl rfl (by decide) (by decide) rfl rfl (Nat.le_of_ble_eq_true rfl) dX9_hazard_5 (fun r_11 τ_12 h_13 => ?_)
  obtain ⟨eh_13, h_13⟩ := h_13
  obtain rfl := eh_13.symm
  refine r_if_eq C 15 dX9_hazard_8 (by decide) (fun c_14 => ?_) (fun c_14 => ?_)
  · -- to 15
    refine r_aload_n C 0 dX9_hazard_15 rfl rfl ?_
    refine r_ldc2 C (495874040173) kc_X9_206 dX9_hazard_16 ?_
    refine r_iconst C (5) dX9_hazard_19 (by decide) ?_
    refine r_callV C (k := 39) [.long (495874040173), .int (5)] [] (c_X9_isWord E ad σ  (495874040173) (5) (by omega) (by omega)) lv_X9_188 (by decide) rfl rfl (by decide) (by decide) rfl rfl (Nat.le_of_ble_eq_true rfl) dX9_hazard_20 (fun r_15 τ_16 h_17 => ?_)
    obtain ⟨eh_17, h_17⟩ := h_17
    obtain rfl := eh_17.symm
    refine r_if_eq C 30 dX9_hazard_23 (by decide) (fun c_18 => ?_) (fun c_18 => ?_)
    · -- to 30
      refine r_aload_n C 0 dX9_hazard_30 rfl rfl ?_
      refine r_ldc2 C (482906432882) kc_X9_208 dX9_hazard_31 ?_
      refine r_iconst C (5) dX9_hazard_34 (by decide) ?_
      refine r_callV C (k := 39) [.long (482906432882), .int (5)] [] (c_X9_isWord E ad σ  (482906432882) (5) (by omega) (by omega)) lv_X9_188 (by decide) rfl rfl (by decide) (by decide) rfl rfl (Nat.le_of_ble_eq_true rfl) dX9_hazard_35 (fun r_19 τ_20 h_21 => ?_)
      obtain ⟨eh_21, h_21⟩ := h_21
      obtain rfl := eh_21.symm
      refine r_if_eq C 45 dX9_hazard_38 (by decide) (fun c_22 => ?_) (fun c_22 => ?_)
      · -- to 45
        refine r_iconst C (-1) dX9_hazard_45 (by decide) ?_
        exact At.sub [0] rfl (L_46 ((-1) : Int32) )
      · -- to 41
        refine r_iconst C (2) dX9_hazard_41 (by decide) ?_
        refine r_goto C 46 dX9_hazard_42 (by decide) ?_
        exact At.sub [0] rfl (L_46 (2 : Int32) )
    · -- to 26
      refine r_iconst C (1) dX9_hazard_26 (by decide) ?_
      refine r_goto C 46 dX9_hazard_27 (by decide) ?_
      exact At.sub [0] rfl (L_46 (1 : Int32) )
  · -- to 11
    refine r_iconst C (0) dX9_hazard_11 (by decide) ?_
    refine r_goto C 46 dX9_hazard_12 (by decide) ?_
    exact At.sub [0] rfl (L_46 (0 : Int32) )
set_option maxHeartbeats 4000000 in
set_option maxRecDepth 100000 in
theorem c_X9_number (E : Ev) (ad : Nat → Nat) (σ : Sg) (p : Int32) (q : Int32) (he : 0 ≤ (σ 39 31).toInt ∧ (σ 39 31).toInt ≤ (σ 39 32).toInt ∧ (σ 39 32).toInt ≤ (σ 39 29).toInt ∧ (σ 39 29).toInt ≤ 60) : Ct E ad yX9_number cX9_number 6 (some .int) 3 [.ref (ad 39), .int p, .int q] σ (fun r τ => KT σ τ ∧ (τ 39 34).toInt = (σ 39 34).toInt ∧ 0 ≤ (τ 39 31).toInt ∧ (τ 39 31).toInt ≤ (τ 39 32).toInt ∧ (τ 39 32).toInt ≤ (σ 39 29).toInt) := by
  have k_0 : (0 : Int32).toInt = 0 := by decide
  have k_1 : (1 : Int32).toInt = 1 := by decide
  have k_3 : (3 : Int32).toInt = 3 := by decide
  have k_10 : (10 : Int32).toInt = 10 := by decide
  have k_48 : (48 : Int32).toInt = 48 := by decide
  refine ct_of RX9 rfl (by decide +kernel) [(0, .ref (ad 39)), (1, .int (p)), (2, .int (q))] rfl (Nat.le_of_ble_eq_true rfl) (fun G C T => ?_)
  refine r_iconst C (0) dX9_number_0 (by decide) ?_
  refine r_istore_n C [(3, .int (0)), (0, .ref (ad 39)), (1, .int (p)), (2, .int (q))] dX9_number_1 rfl (by decide) rfl ?_
  have L_31 : ∀ (c : Int32), At E ad G 6 31 [(3, .int (0)), (0, .ref (ad 39)), (1, .int (p)), (2, .int (q))] [.int (c)] σ := by
    intro c
    refine r_istore C [(4, .int (c)), (3, .int (0)), (0, .ref (ad 39)), (1, .int (p)), (2, .int (q))] dX9_number_31 (by decide) rfl ?_
    refine r_aload_n C 2 dX9_number_33 rfl rfl ?_
    refine r_get C (k := 39) (v := .int (σ 39 31)) f_X9_176 (by decide) rfl rfl dX9_number_34 ?_
    refine r_istore C [(5, .int (σ 39 31)), (4, .int (c)), (3, .int (0)), (0, .ref (ad 39)), (1, .int (p)), (2, .int (q))] dX9_number_37 (by decide) rfl ?_
    have L_39 : ∀ (n : Nat), ∀ (a : Int32) (i : Int32), (0 ≤ i.toInt ∧ i.toInt ≤ 60) → 60 - i.toInt < (n : Int) → At E ad G 6 39 [(5, .int (i)), (4, .int (c)), (3, .int (a)), (0, .ref (ad 39)), (1, .int (p)), (2, .int (q))] [] σ := by
      intro n
      induction n with
      | zero =>
        intro a i hi hm
        exact absurd hm (by omega)
      | succ n ih =>
        intro a i hi hm
        have ih_39 := ih
        clear ih
        refine r_iload C 0 dX9_number_39 rfl ?_
        refine r_aload_n C 3 dX9_number_41 rfl rfl ?_
        refine r_get C (k := 39) (v := .int (σ 39 32)) f_X9_173 (by decide) rfl rfl dX9_number_42 ?_
        refine r_icmp_ge C 75 dX9_number_45 (by decide) (fun c_1 => ?_) (fun c_1 => ?_)
        · -- to 75
          have L_89 : At E ad G 6 89 [(5, .int (i)), (4, .int (c)), (3, .int (a)), (0, .ref (ad 39)), (1, .int (p)), (2, .int (q))] [] σ := by
            refine r_aload_n C 3 dX9_number_89 rfl rfl ?_
            refine r_callVv C (k := 39) [] [] (c_X9_bad E ad σ   ) lv_X9_192 (by decide) rfl rfl (by decide) (by decide) rfl rfl (Nat.le_of_ble_eq_true rfl) dX9_number_90 (fun τ_3 h_4 => ?_)
            have e29 : (τ_3 39 29).toInt = (σ 39 29).toInt := by rw [h_4.1.2 29 (by omega)]
            refine r_aload_n C 3 dX9_number_93 rfl rfl ?_
            refine r_callVv C (k := 39) [] [] (c_X9_next E ad τ_3   (by omega)) lv_X9_195 (by decide) rfl rfl (by decide) (by decide) rfl rfl (Nat.le_of_ble_eq_true rfl) dX9_number_94 (fun τ_6 h_7 => ?_)
            refine r_iload_n C 2 dX9_number_97 rfl rfl ?_
            exact r_iret C T dX9_number_98 (⟨h_4.1.tr h_7.1, by omega, by omega, by omega, by omega⟩)
          refine r_iload C 1 dX9_number_75 rfl ?_
          refine r_if_eq C 89 dX9_number_77 (by decide) (fun c_8 => ?_) (fun c_8 => ?_)
          · -- to 89
            exact At.sub [0, 1, 2, 3, 4, 5] rfl (L_89  )
          · -- to 80
            refine r_iload_n C 2 dX9_number_80 rfl rfl ?_
            refine r_iload_n C 4 dX9_number_81 rfl rfl ?_
            refine r_iload_n C 5 dX9_number_82 rfl rfl ?_
            refine r_callS C [.int (a), .int (p), .int (q)] [] (c_X9_in E ad σ  (a) (p) (q) ) ls_X9_105 (by decide) (by decide) rfl rfl (Nat.le_of_ble_eq_true rfl) dX9_number_83 (fun r_9 τ_10 h_11 => ?_)
            obtain ⟨eh_11, h_11⟩ := h_11
            obtain rfl := eh_11.symm
            refine r_if_ne C 93 dX9_number_86 (by decide) (fun c_12 => ?_) (fun c_12 => ?_)
            · -- to 93
              refine r_aload_n C 3 dX9_number_93 rfl rfl ?_
              refine r_callVv C (k := 39) [] [] (c_X9_next E ad σ   (by omega)) lv_X9_195 (by decide) rfl rfl (by decide) (by decide) rfl rfl (Nat.le_of_ble_eq_true rfl) dX9_number_94 (fun τ_14 h_15 => ?_)
              refine r_iload_n C 2 dX9_number_97 rfl rfl ?_
              exact r_iret C T dX9_number_98 (⟨h_15.1, by omega, by omega, by omega, by omega⟩)
            · -- to 89
              exact At.sub [0, 1, 2, 3, 4, 5] rfl (L_89  )
        · -- to 48
          refine r_iload C 1 dX9_number_48 rfl ?_
          refine r_if_eq C 75 dX9_number_50 (by decide) (fun c_16 => ?_) (fun c_16 => ?_)
          · -- to 75
            have L_89 : At E ad G 6 89 [(5, .int (i)), (4, .int (c)), (3, .int (a)), (0, .ref (ad 39)), (1, .int (p)), (2, .int (q))] [] σ := by
              refine r_aload_n C 3 dX9_number_89 rfl rfl ?_
              refine r_callVv C (k := 39) [] [] (c_X9_bad E ad σ   ) lv_X9_192 (by decide) rfl rfl (by decide) (by decide) rfl rfl (Nat.le_of_ble_eq_true rfl) dX9_number_90 (fun τ_18 h_19 => ?_)
              have e29 : (τ_18 39 29).toInt = (σ 39 29).toInt := by rw [h_19.1.2 29 (by omega)]
              refine r_aload_n C 3 dX9_number_93 rfl rfl ?_
              refine r_callVv C (k := 39) [] [] (c_X9_next E ad τ_18   (by omega)) lv_X9_195 (by decide) rfl rfl (by decide) (by decide) rfl rfl (Nat.le_of_ble_eq_true rfl) dX9_number_94 (fun τ_21 h_22 => ?_)
              refine r_iload_n C 2 dX9_number_97 rfl rfl ?_
              exact r_iret C T dX9_number_98 (⟨h_19.1.tr h_22.1, by omega, by omega, by omega, by omega⟩)
            refine r_iload C 1 dX9_number_75 rfl ?_
            refine r_if_eq C 89 dX9_number_77 (by decide) (fun c_23 => ?_) (fun c_23 => ?_)
            · -- to 89
              exact At.sub [0, 1, 2, 3, 4, 5] rfl (L_89  )
            · -- to 80
              refine r_iload_n C 2 dX9_number_80 rfl rfl ?_
              refine r_iload_n C 4 dX9_number_81 rfl rfl ?_
              refine r_iload_n C 5 dX9_number_82 rfl rfl ?_
              refine r_callS C [.int (a), .int (p), .int (q)] [] (c_X9_in E ad σ  (a) (p) (q) ) ls_X9_105 (by decide) (by decide) rfl rfl (Nat.le_of_ble_eq_true rfl) dX9_number_83 (fun r_24 τ_25 h_26 => ?_)
              obtain ⟨eh_26, h_26⟩ := h_26
              obtain rfl := eh_26.symm
              refine r_if_ne C 93 dX9_number_86 (by decide) (fun c_27 => ?_) (fun c_27 => ?_)
              · -- to 93
                refine r_aload_n C 3 dX9_number_93 rfl rfl ?_
                refine r_callVv C (k := 39) [] [] (c_X9_next E ad σ   (by omega)) lv_X9_195 (by decide) rfl rfl (by decide) (by decide) rfl rfl (Nat.le_of_ble_eq_true rfl) dX9_number_94 (fun τ_29 h_30 => ?_)
                refine r_iload_n C 2 dX9_number_97 rfl rfl ?_
                exact r_iret C T dX9_number_98 (⟨h_30.1, by omega, by omega, by omega, by omega⟩)
              · -- to 89
                exact At.sub [0, 1, 2, 3, 4, 5] rfl (L_89  )
          · -- to 53
            refine r_bipush C (10) dX9_number_53 (by decide) ?_
            refine r_iload_n C 2 dX9_number_55 rfl rfl ?_
            refine r_imul C dX9_number_56 ?_
            refine r_nm (P := fun z => z = (10) * (a)) rfl (fun z_31 hz_32 => ?_)
            refine r_aload_n C 3 dX9_number_57 rfl rfl ?_
            refine r_get C (k := 39) (v := .ref (ad 64)) f_X9_83 (by decide) rfl rfl dX9_number_58 ?_
            refine r_iload C 0 dX9_number_61 rfl ?_
            refine r_iald C (k := 64) (by decide) rfl (by omega) (σ 64 ((i : Int32).toInt.toNat)) rfl dX9_number_63 ?_
            refine r_iadd C dX9_number_64 ?_
            refine r_nm (P := fun z => z = (z_31) + (σ 64 ((i : Int32).toInt.toNat))) rfl (fun z_34 hz_35 => ?_)
            refine r_bipush C (48) dX9_number_65 (by decide) ?_
            refine r_isub C dX9_number_67 ?_
            refine r_nm (P := fun z => z = (z_34) - (48)) rfl (fun z_36 hz_37 => ?_)
            refine r_istore_n C [(3, .int (z_36)), (5, .int (i)), (4, .int (c)), (0, .ref (ad 39)), (1, .int (p)), (2, .int (q))] dX9_number_68 rfl (by decide) rfl ?_
            refine r_iinc C 1 (fun z => [(5, .int (z)), (3, .int (z_36)), (4, .int (c)), (0, .ref (ad 39)), (1, .int (p)), (2, .int (q))]) dX9_number_69 rfl (by decide) (by decide) (by omega) (fun _ => rfl) (fun z_38 hz_39 => ?_)
            refine r_goto C 39 dX9_number_72 (by decide) ?_
            exact At.sub [0, 2, 1, 3, 4, 5] rfl (ih_39 (z_36 : Int32) (z_38 : Int32) (by omega) (by omega))
    exact At.sub [0, 1, 2, 3, 4, 5] rfl (L_39 ((60 - (σ 39 31 : Int32).toInt).toNat + 1) (0 : Int32) (σ 39 31 : Int32) (by omega) (by omega))
  refine r_aload_n C 1 dX9_number_2 rfl rfl ?_
  refine r_aload_n C 1 dX9_number_3 rfl rfl ?_
  refine r_get C (k := 39) (v := .int (σ 39 31)) f_X9_176 (by decide) rfl rfl dX9_number_4 ?_
  refine r_callV C (k := 39) [.int (σ 39 31)] [] (c_X9_isDigit E ad σ  (σ 39 31) (by omega) (by omega)) lv_X9_182 (by decide) rfl rfl (by decide) (by decide) rfl rfl (Nat.le_of_ble_eq_true rfl) dX9_number_7 (fun r_40 τ_41 h_42 => ?_)
  obtain ⟨eh_42, h_42⟩ := h_42
  obtain rfl := eh_42.symm
  refine r_if_eq C 30 dX9_number_10 (by decide) (fun c_43 => ?_) (fun c_43 => ?_)
  · -- to 30
    refine r_iconst C (0) dX9_number_30 (by decide) ?_
    exact At.sub [0, 1, 2, 3] rfl (L_31 (0 : Int32) )
  · -- to 13
    refine r_aload_n C 1 dX9_number_13 rfl rfl ?_
    refine r_get C (k := 39) (v := .int (σ 39 32)) f_X9_173 (by decide) rfl rfl dX9_number_14 ?_
    refine r_aload_n C 1 dX9_number_17 rfl rfl ?_
    refine r_get C (k := 39) (v := .int (σ 39 31)) f_X9_176 (by decide) rfl rfl dX9_number_18 ?_
    refine r_isub C dX9_number_21 ?_
    refine r_nm (P := fun z => z.toInt = (σ 39 32 : Int32).toInt - (σ 39 31 : Int32).toInt ∧ z = (σ 39 32) - (σ 39 31)) ⟨ta_sub (by omega), rfl⟩ (fun z_44 hz_45 => ?_)
    refine r_iconst C (3) dX9_number_22 (by decide) ?_
    refine r_icmp_gt C 30 dX9_number_23 (by decide) (fun c_46 => ?_) (fun c_46 => ?_)
    · -- to 30
      refine r_iconst C (0) dX9_number_30 (by decide) ?_
      exact At.sub [0, 1, 2, 3] rfl (L_31 (0 : Int32) )
    · -- to 26
      refine r_iconst C (1) dX9_number_26 (by decide) ?_
      refine r_goto C 31 dX9_number_27 (by decide) ?_
      exact At.sub [0, 1, 2, 3] rfl (L_31 (1 : Int32) )
set_option maxHeartbeats 4000000 in
set_option maxRecDepth 100000 in
theorem c_X9_kind (E : Ev) (ad : Nat → Nat) (σ : Sg)  (he : 0 ≤ (σ 39 31).toInt ∧ (σ 39 31).toInt ≤ (σ 39 32).toInt ∧ (σ 39 32).toInt ≤ (σ 39 29).toInt ∧ (σ 39 29).toInt ≤ 60) : Ct E ad yX9_kind cX9_kind 1 (some .int) 1 [.ref (ad 39)] σ (fun r τ => τ = σ ∧ ((σ 39 31).toInt = (σ 39 32).toInt → r.toInt = -1)) := by
  have k_m1 : (-1 : Int32).toInt = -1 := by decide
  have k_0 : (0 : Int32).toInt = 0 := by decide
  have k_1 : (1 : Int32).toInt = 1 := by decide
  have k_2 : (2 : Int32).toInt = 2 := by decide
  have k_3 : (3 : Int32).toInt = 3 := by decide
  have k_4 : (4 : Int32).toInt = 4 := by decide
  have k_5 : (5 : Int32).toInt = 5 := by decide
  have k_6 : (6 : Int32).toInt = 6 := by decide
  refine ct_of RX9 rfl (by decide +kernel) [(0, .ref (ad 39))] rfl (Nat.le_of_ble_eq_true rfl) (fun G C T => ?_)
  refine r_aload_n C 0 dX9_kind_0 rfl rfl ?_
  refine r_ldc2 C (1852138852) kc_X9_210 dX9_kind_1 ?_
  refine r_iconst C (4) dX9_kind_4 (by decide) ?_
  refine r_callV C (k := 39) [.long (1852138852), .int (4)] [] (c_X9_isWord E ad σ  (1852138852) (4) (by omega) (by omega)) lv_X9_188 (by decide) rfl rfl (by decide) (by decide) rfl rfl (Nat.le_of_ble_eq_true rfl) dX9_kind_5 (fun r_1 τ_2 h_3 => ?_)
  obtain ⟨eh_3, h_3⟩ := h_3
  obtain rfl := eh_3.symm
  refine r_if_eq C 13 dX9_kind_8 (by decide) (fun c_4 => ?_) (fun c_4 => ?_)
  · -- to 13
    refine r_aload_n C 0 dX9_kind_13 rfl rfl ?_
    refine r_ldc2 C (6447474) kc_X9_212 dX9_kind_14 ?_
    refine r_iconst C (3) dX9_kind_17 (by decide) ?_
    refine r_callV C (k := 39) [.long (6447474), .int (3)] [] (c_X9_isWord E ad σ  (6447474) (3) (by omega) (by omega)) lv_X9_188 (by decide) rfl rfl (by decide) (by decide) rfl rfl (Nat.le_of_ble_eq_true rfl) dX9_kind_18 (fun r_5 τ_6 h_7 => ?_)
    obtain ⟨eh_7, h_7⟩ := h_7
    obtain rfl := eh_7.symm
    refine r_if_eq C 26 dX9_kind_21 (by decide) (fun c_8 => ?_) (fun c_8 => ?_)
    · -- to 26
      refine r_aload_n C 0 dX9_kind_26 rfl rfl ?_
      refine r_ldc2 C (110429873532005) kc_X9_214 dX9_kind_27 ?_
      refine r_bipush C (6) dX9_kind_30 (by decide) ?_
      refine r_callV C (k := 39) [.long (110429873532005), .int (6)] [] (c_X9_isWord E ad σ  (110429873532005) (6) (by omega) (by omega)) lv_X9_188 (by decide) rfl rfl (by decide) (by decide) rfl rfl (Nat.le_of_ble_eq_true rfl) dX9_kind_32 (fun r_9 τ_10 h_11 => ?_)
      obtain ⟨eh_11, h_11⟩ := h_11
      obtain rfl := eh_11.symm
      refine r_if_eq C 40 dX9_kind_35 (by decide) (fun c_12 => ?_) (fun c_12 => ?_)
      · -- to 40
        refine r_aload_n C 0 dX9_kind_40 rfl rfl ?_
        refine r_ldc2 C (7169390) kc_X9_216 dX9_kind_41 ?_
        refine r_iconst C (3) dX9_kind_44 (by decide) ?_
        refine r_callV C (k := 39) [.long (7169390), .int (3)] [] (c_X9_isWord E ad σ  (7169390) (3) (by omega) (by omega)) lv_X9_188 (by decide) rfl rfl (by decide) (by decide) rfl rfl (Nat.le_of_ble_eq_true rfl) dX9_kind_45 (fun r_13 τ_14 h_15 => ?_)
        obtain ⟨eh_15, h_15⟩ := h_15
        obtain rfl := eh_15.symm
        refine r_if_eq C 53 dX9_kind_48 (by decide) (fun c_16 => ?_) (fun c_16 => ?_)
        · -- to 53
          refine r_aload_n C 0 dX9_kind_53 rfl rfl ?_
          refine r_ldc2 C (448546566771) kc_X9_218 dX9_kind_54 ?_
          refine r_iconst C (5) dX9_kind_57 (by decide) ?_
          refine r_callV C (k := 39) [.long (448546566771), .int (5)] [] (c_X9_isWord E ad σ  (448546566771) (5) (by omega) (by omega)) lv_X9_188 (by decide) rfl rfl (by decide) (by decide) rfl rfl (Nat.le_of_ble_eq_true rfl) dX9_kind_58 (fun r_17 τ_18 h_19 => ?_)
          obtain ⟨eh_19, h_19⟩ := h_19
          obtain rfl := eh_19.symm
          refine r_if_eq C 66 dX9_kind_61 (by decide) (fun c_20 => ?_) (fun c_20 => ?_)
          · -- to 66
            refine r_aload_n C 0 dX9_kind_66 rfl rfl ?_
            refine r_ldc2 C (512736125800) kc_X9_220 dX9_kind_67 ?_
            refine r_iconst C (5) dX9_kind_70 (by decide) ?_
            refine r_callV C (k := 39) [.long (512736125800), .int (5)] [] (c_X9_isWord E ad σ  (512736125800) (5) (by omega) (by omega)) lv_X9_188 (by decide) rfl rfl (by decide) (by decide) rfl rfl (Nat.le_of_ble_eq_true rfl) dX9_kind_71 (fun r_21 τ_22 h_23 => ?_)
            obtain ⟨eh_23, h_23⟩ := h_23
            obtain rfl := eh_23.symm
            refine r_if_eq C 81 dX9_kind_74 (by decide) (fun c_24 => ?_) (fun c_24 => ?_)
            · -- to 81
              refine r_iconst C (-1) dX9_kind_81 (by decide) ?_
              exact r_iret C T dX9_kind_82 (⟨rfl, fun h => by omega⟩)
            · -- to 77
              refine r_iconst C (5) dX9_kind_77 (by decide) ?_
              refine r_goto C 82 dX9_kind_78 (by decide) ?_
              exact r_iret C T dX9_kind_82 (⟨rfl, fun h => by omega⟩)
          · -- to 64
            refine r_iconst C (4) dX9_kind_64 (by decide) ?_
            exact r_iret C T dX9_kind_65 (⟨rfl, fun h => by omega⟩)
        · -- to 51
          refine r_iconst C (3) dX9_kind_51 (by decide) ?_
          exact r_iret C T dX9_kind_52 (⟨rfl, fun h => by omega⟩)
      · -- to 38
        refine r_iconst C (2) dX9_kind_38 (by decide) ?_
        exact r_iret C T dX9_kind_39 (⟨rfl, fun h => by omega⟩)
    · -- to 24
      refine r_iconst C (1) dX9_kind_24 (by decide) ?_
      exact r_iret C T dX9_kind_25 (⟨rfl, fun h => by omega⟩)
  · -- to 11
    refine r_iconst C (0) dX9_kind_11 (by decide) ?_
    exact r_iret C T dX9_kind_12 (⟨rfl, fun h => by omega⟩)
set_option maxHeartbeats 4000000 in
set_option maxRecDepth 100000 in
theorem c_X9_readRule (E : Ev) (ad : Nat → Nat) (σ : Sg)  (hl : 0 ≤ (σ 39 29).toInt ∧ (σ 39 29).toInt ≤ 60) : CtV E ad yX9_readRule cX9_readRule 1 4 [.ref (ad 39)] σ (fun τ => KT σ τ ∧ ((σ 39 29).toInt = 0 → (τ 39 33).toInt = 0)) := by
  have k_m3 : (-3 : Int32).toInt = -3 := by decide
  have k_m1 : (-1 : Int32).toInt = -1 := by decide
  have k_0 : (0 : Int32).toInt = 0 := by decide
  have k_1 : (1 : Int32).toInt = 1 := by decide
  have k_2 : (2 : Int32).toInt = 2 := by decide
  have k_4 : (4 : Int32).toInt = 4 := by decide
  have k_6 : (6 : Int32).toInt = 6 := by decide
  have k_9 : (9 : Int32).toInt = 9 := by decide
  have k_12 : (12 : Int32).toInt = 12 := by decide
  have k_23 : (23 : Int32).toInt = 23 := by decide
  have k_24 : (24 : Int32).toInt = 24 := by decide
  have k_48 : (48 : Int32).toInt = 48 := by decide
  refine ctv_of RX9 rfl (by decide +kernel) [(0, .ref (ad 39))] rfl (Nat.le_of_ble_eq_true rfl) (fun G C T => ?_)
  refine r_aload_n C 0 dX9_readRule_0 rfl rfl ?_
  refine r_iconst C (0) dX9_readRule_1 (by decide) ?_
  refine r_put C (k := 39) pf_X9_173 (by decide) (fun _ => rfl) (fun _ => Nat.le_of_ble_eq_true rfl) (fun _ _ => rfl) dX9_readRule_2 ?_
  refine r_aload_n C 0 dX9_readRule_5 rfl rfl ?_
  refine r_iconst C (-1) dX9_readRule_6 (by decide) ?_
  refine r_put C (k := 39) pf_X9_185 (by decide) (fun _ => rfl) (fun _ => Nat.le_of_ble_eq_true rfl) (fun _ _ => rfl) dX9_readRule_7 ?_
  refine r_aload_n C 0 dX9_readRule_10 rfl rfl ?_
  refine r_bipush C (-3) dX9_readRule_11 (by decide) ?_
  refine r_put C (k := 39) pf_X9_222 (by decide) (fun _ => rfl) (fun _ => Nat.le_of_ble_eq_true rfl) (fun _ _ => rfl) dX9_readRule_13 ?_
  refine r_aload_n C 0 dX9_readRule_16 rfl rfl ?_
  refine r_bipush C (-3) dX9_readRule_17 (by decide) ?_
  refine r_put C (k := 39) pf_X9_225 (by decide) (fun _ => rfl) (fun _ => Nat.le_of_ble_eq_true rfl) (fun _ _ => rfl) dX9_readRule_19 ?_
  obtain ⟨s_22, es_22⟩ : ∃ t : Sg, t = (sUp (sUp (sUp (sUp σ 39 32 (0)) 39 33 ((-1))) 39 36 ((-3))) 39 37 ((-3))) := ⟨_, rfl⟩
  rw [← es_22]
  have es_22_39_29 : (s_22 39 29).toInt = (σ 39 29 : Int32).toInt := by rw [es_22] <;> rfl
  have es_22_39_31 : (s_22 39 31).toInt = (σ 39 31 : Int32).toInt := by rw [es_22] <;> rfl
  have es_22_39_32 : (s_22 39 32).toInt = (0 : Int32).toInt := by rw [es_22] <;> rfl
  have es_22_39_33 : (s_22 39 33).toInt = ((-1) : Int32).toInt := by rw [es_22] <;> rfl
  have es_22_39_34 : (s_22 39 34).toInt = (σ 39 34 : Int32).toInt := by rw [es_22] <;> rfl
  have os_22 : Off [39] σ s_22 := by rw [es_22]; exact ((((Off.rf.up (by decide)).up (by decide)).up (by decide)).up (by decide))
  have ks_22 : KT σ s_22 := by rw [es_22]; exact ((((KT.rf.up (by decide)).up (by decide)).up (by decide)).up (by decide))
  refine r_aload_n C 0 dX9_readRule_22 rfl rfl ?_
  refine r_callVv C (k := 39) [] [] (c_X9_next E ad s_22   (by omega)) lv_X9_195 (by decide) rfl rfl (by decide) (by decide) rfl rfl (Nat.le_of_ble_eq_true rfl) dX9_readRule_23 (fun τ_2 h_3 => ?_)
  have e29_23 : (τ_2 39 29).toInt = (s_22 39 29).toInt := by rw [h_3.1.2 29 (by omega)]
  refine r_aload_n C 0 dX9_readRule_26 rfl rfl ?_
  refine r_aload_n C 0 dX9_readRule_27 rfl rfl ?_
  refine r_callV C (k := 39) [] [.ref (ad 39)] (c_X9_kind E ad τ_2   (by omega)) lv_X9_228 (by decide) rfl rfl (by decide) (by decide) rfl rfl (Nat.le_of_ble_eq_true rfl) dX9_readRule_28 (fun r_4 τ_5 h_6 => ?_)
  obtain ⟨eh_6, h_6⟩ := h_6
  obtain rfl := eh_6.symm
  refine r_put C (k := 39) pf_X9_231 (by decide) (fun _ => rfl) (fun _ => Nat.le_of_ble_eq_true rfl) (fun _ _ => rfl) dX9_readRule_31 ?_
  obtain ⟨s_34, es_34⟩ : ∃ t : Sg, t = (sUp τ_2 39 34 (r_4)) := ⟨_, rfl⟩
  rw [← es_34]
  have es_34_39_29 : (s_34 39 29).toInt = (τ_2 39 29 : Int32).toInt := by rw [es_34] <;> rfl
  have es_34_39_31 : (s_34 39 31).toInt = (τ_2 39 31 : Int32).toInt := by rw [es_34] <;> rfl
  have es_34_39_32 : (s_34 39 32).toInt = (τ_2 39 32 : Int32).toInt := by rw [es_34] <;> rfl
  have es_34_39_33 : (s_34 39 33).toInt = (τ_2 39 33 : Int32).toInt := by rw [es_34] <;> rfl
  have es_34_39_34 : (s_34 39 34).toInt = (r_4 : Int32).toInt := by rw [es_34] <;> rfl
  have os_34 : Off [39] τ_2 s_34 := by rw [es_34]; exact (Off.rf.up (by decide))
  have ks_34 : KT τ_2 s_34 := by rw [es_34]; exact (KT.rf.up (by decide))
  refine r_aload_n C 0 dX9_readRule_34 rfl rfl ?_
  refine r_get C (k := 39) (v := .int (s_34 39 34)) f_X9_231 (by decide) rfl rfl dX9_readRule_35 ?_
  refine r_if_ge C 46 dX9_readRule_38 (by decide) (fun c_7 => ?_) (fun c_7 => ?_)
  · -- to 46
    refine r_aload_n C 0 dX9_readRule_46 rfl rfl ?_
    refine r_callVv C (k := 39) [] [] (c_X9_next E ad s_34   (by omega)) lv_X9_195 (by decide) rfl rfl (by decide) (by decide) rfl rfl (Nat.le_of_ble_eq_true rfl) dX9_readRule_47 (fun τ_9 h_10 => ?_)
    have e29_47 : (τ_9 39 29).toInt = (s_34 39 29).toInt := by rw [h_10.1.2 29 (by omega)]
    have L_70 : ∀ (τ7 : Sg) (a : Int32), (KT σ τ7) → ((τ7 39 29).toInt = (σ 39 29).toInt ∧ (0 ≤ (τ7 39 31).toInt ∧ (τ7 39 31).toInt ≤ (τ7 39 32).toInt ∧ (τ7 39 32).toInt ≤ (σ 39 29).toInt)) → At E ad G 1 70 [(0, .ref (ad 39))] [.int (a), .ref (ad 39)] τ7 := by
      intro τ7 a k7 e7
      refine r_put C (k := 39) pf_X9_240 (by decide) (fun _ => rfl) (fun _ => Nat.le_of_ble_eq_true rfl) (fun _ _ => rfl) dX9_readRule_70 ?_
      obtain ⟨s_73, es_73⟩ : ∃ t : Sg, t = (sUp τ7 39 35 (a)) := ⟨_, rfl⟩
      rw [← es_73]
      have es_73_39_29 : (s_73 39 29).toInt = (τ7 39 29 : Int32).toInt := by rw [es_73] <;> rfl
      have es_73_39_31 : (s_73 39 31).toInt = (τ7 39 31 : Int32).toInt := by rw [es_73] <;> rfl
      have es_73_39_32 : (s_73 39 32).toInt = (τ7 39 32 : Int32).toInt := by rw [es_73] <;> rfl
      have es_73_39_33 : (s_73 39 33).toInt = (τ7 39 33 : Int32).toInt := by rw [es_73] <;> rfl
      have es_73_39_34 : (s_73 39 34).toInt = (τ7 39 34 : Int32).toInt := by rw [es_73] <;> rfl
      have os_73 : Off [39] τ7 s_73 := by rw [es_73]; exact (Off.rf.up (by decide))
      have ks_73 : KT τ7 s_73 := by rw [es_73]; exact (KT.rf.up (by decide))
      refine r_aload_n C 0 dX9_readRule_73 rfl rfl ?_
      refine r_get C (k := 39) (v := .int (s_73 39 34)) f_X9_231 (by decide) rfl rfl dX9_readRule_74 ?_
      have L_230 : ∀ (τ8 : Sg) , (KT σ τ8) → ((τ8 39 29).toInt = (σ 39 29).toInt) → At E ad G 1 230 [(0, .ref (ad 39))] [] τ8 := by
        intro τ8 k8 e8
        refine r_aload_n C 0 dX9_readRule_230 rfl rfl ?_
        refine r_get C (k := 39) (v := .int (τ8 39 31)) f_X9_176 (by decide) rfl rfl dX9_readRule_231 ?_
        refine r_aload_n C 0 dX9_readRule_234 rfl rfl ?_
        refine r_get C (k := 39) (v := .int (τ8 39 29)) f_X9_168 (by decide) rfl rfl dX9_readRule_235 ?_
        refine r_icmp_ge C 245 dX9_readRule_238 (by decide) (fun c_11 => ?_) (fun c_11 => ?_)
        · -- to 245
          exact r_vret C T dX9_readRule_245 (⟨k8, fun h => absurd (h_6 (by omega)) (by omega)⟩)
        · -- to 241
          refine r_aload_n C 0 dX9_readRule_241 rfl rfl ?_
          refine r_callVv C (k := 39) [] [] (c_X9_bad E ad τ8   ) lv_X9_192 (by decide) rfl rfl (by decide) (by decide) rfl rfl (Nat.le_of_ble_eq_true rfl) dX9_readRule_242 (fun τ_13 h_14 => ?_)
          have e29_242 : (τ_13 39 29).toInt = (τ8 39 29).toInt := by rw [h_14.1.2 29 (by omega)]
          exact r_vret C T dX9_readRule_245 (⟨k8.tr h_14.1, fun h => absurd (h_6 (by omega)) (by omega)⟩)
      rcases (show ((s_73 39 34 : Int32).toInt < 0 ∨ 5 < (s_73 39 34 : Int32).toInt) ∨ (s_73 39 34 : Int32).toInt = 0 ∨ (s_73 39 34 : Int32).toInt = 1 ∨ (s_73 39 34 : Int32).toInt = 2 ∨ (s_73 39 34 : Int32).toInt = 3 ∨ (s_73 39 34 : Int32).toInt = 4 ∨ (s_73 39 34 : Int32).toInt = 5 by omega) with sw_15 | sw_15 | sw_15 | sw_15 | sw_15 | sw_15 | sw_15
      · -- case None
        refine r_tblOut C 230 dX9_readRule_77 sw_15 (by decide) ?_
        exact At.sub [0] rfl (L_230 s_73 (k7.tr ks_73) (by omega))
      · -- case 0
        refine r_tblIn C (0) 116 dX9_readRule_77 sw_15 (by decide) (by decide) rfl (by decide) ?_
        refine r_aload_n C 0 dX9_readRule_116 rfl rfl ?_
        refine r_ldc2 C (1952805748) kc_X9_243 dX9_readRule_117 ?_
        refine r_iconst C (4) dX9_readRule_120 (by decide) ?_
        refine r_callVv C (k := 39) [.long (1952805748), .int (4)] [] (c_X9_word E ad s_73  (1952805748) (4) (by omega) (by omega)) lv_X9_245 (by decide) rfl rfl (by decide) (by decide) rfl rfl (Nat.le_of_ble_eq_true rfl) dX9_readRule_121 (fun τ_17 h_18 => ?_)
        have e29_121 : (τ_17 39 29).toInt = (s_73 39 29).toInt := by rw [h_18.1.2 29 (by omega)]
        refine r_aload_n C 0 dX9_readRule_124 rfl rfl ?_
        refine r_aload_n C 0 dX9_readRule_125 rfl rfl ?_
        refine r_iconst C (1) dX9_readRule_126 (by decide) ?_
        refine r_bipush C (48) dX9_readRule_127 (by decide) ?_
        refine r_callV C (k := 39) [.int (1), .int (48)] [.ref (ad 39)] (c_X9_number E ad τ_17  (1) (48) (by omega)) lv_X9_249 (by decide) rfl rfl (by decide) (by decide) rfl rfl (Nat.le_of_ble_eq_true rfl) dX9_readRule_129 (fun r_19 τ_20 h_21 => ?_)
        have e29_129 : (τ_20 39 29).toInt = (τ_17 39 29).toInt := by rw [h_21.1.2 29 (by omega)]
        refine r_put C (k := 39) pf_X9_222 (by decide) (fun _ => rfl) (fun _ => Nat.le_of_ble_eq_true rfl) (fun _ _ => rfl) dX9_readRule_132 ?_
        refine r_goto C 230 dX9_readRule_135 (by decide) ?_
        exact At.sub [0] rfl (L_230 (sUp τ_20 39 36 (r_19)) (((((k7.tr ks_73).tr h_18.1).tr h_21.1)).up (by decide)) (by show (τ_20 39 29).toInt = _; omega))
      · -- case 1
        refine r_tblIn C (1) 138 dX9_readRule_77 sw_15 (by decide) (by decide) rfl (by decide) ?_
        refine r_aload_n C 0 dX9_readRule_138 rfl rfl ?_
        refine r_aload_n C 0 dX9_readRule_139 rfl rfl ?_
        refine r_callV C (k := 39) [] [.ref (ad 39)] (c_X9_sort E ad s_73   (by omega)) lv_X9_237 (by decide) rfl rfl (by decide) (by decide) rfl rfl (Nat.le_of_ble_eq_true rfl) dX9_readRule_140 (fun r_22 τ_23 h_24 => ?_)
        have e29_140 : (τ_23 39 29).toInt = (s_73 39 29).toInt := by rw [h_24.1.2 29 (by omega)]
        refine r_put C (k := 39) pf_X9_222 (by decide) (fun _ => rfl) (fun _ => Nat.le_of_ble_eq_true rfl) (fun _ _ => rfl) dX9_readRule_143 ?_
        obtain ⟨s_146, es_146⟩ : ∃ t : Sg, t = (sUp τ_23 39 36 (r_22)) := ⟨_, rfl⟩
        rw [← es_146]
        have es_146_39_29 : (s_146 39 29).toInt = (τ_23 39 29 : Int32).toInt := by rw [es_146] <;> rfl
        have es_146_39_31 : (s_146 39 31).toInt = (τ_23 39 31 : Int32).toInt := by rw [es_146] <;> rfl
        have es_146_39_32 : (s_146 39 32).toInt = (τ_23 39 32 : Int32).toInt := by rw [es_146] <;> rfl
        have es_146_39_33 : (s_146 39 33).toInt = (τ_23 39 33 : Int32).toInt := by rw [es_146] <;> rfl
        have es_146_39_34 : (s_146 39 34).toInt = (τ_23 39 34 : Int32).toInt := by rw [es_146] <;> rfl
        have os_146 : Off [39] τ_23 s_146 := by rw [es_146]; exact (Off.rf.up (by decide))
        have ks_146 : KT τ_23 s_146 := by rw [es_146]; exact (KT.rf.up (by decide))
        refine r_aload_n C 0 dX9_readRule_146 rfl rfl ?_
        refine r_ldc2 C (131294808271214) kc_X9_252 dX9_readRule_147 ?_
        refine r_bipush C (6) dX9_readRule_150 (by decide) ?_
        refine r_callVv C (k := 39) [.long (131294808271214), .int (6)] [] (c_X9_word E ad s_146  (131294808271214) (6) (by omega) (by omega)) lv_X9_245 (by decide) rfl rfl (by decide) (by decide) rfl rfl (Nat.le_of_ble_eq_true rfl) dX9_readRule_152 (fun τ_26 h_27 => ?_)
        have e29_152 : (τ_26 39 29).toInt = (s_146 39 29).toInt := by rw [h_27.1.2 29 (by omega)]
        refine r_aload_n C 0 dX9_readRule_155 rfl rfl ?_
        refine r_aload_n C 0 dX9_readRule_156 rfl rfl ?_
        refine r_iconst C (0) dX9_readRule_157 (by decide) ?_
        refine r_bipush C (9) dX9_readRule_158 (by decide) ?_
        refine r_callV C (k := 39) [.int (0), .int (9)] [.ref (ad 39)] (c_X9_number E ad τ_26  (0) (9) (by omega)) lv_X9_249 (by decide) rfl rfl (by decide) (by decide) rfl rfl (Nat.le_of_ble_eq_true rfl) dX9_readRule_160 (fun r_28 τ_29 h_30 => ?_)
        have e29_160 : (τ_29 39 29).toInt = (τ_26 39 29).toInt := by rw [h_30.1.2 29 (by omega)]
        refine r_put C (k := 39) pf_X9_225 (by decide) (fun _ => rfl) (fun _ => Nat.le_of_ble_eq_true rfl) (fun _ _ => rfl) dX9_readRule_163 ?_
        refine r_goto C 230 dX9_readRule_166 (by decide) ?_
        exact At.sub [0] rfl (L_230 (sUp τ_29 39 37 (r_28)) ((((((k7.tr ks_73).tr h_24.1).tr ks_146).tr h_27.1).tr h_30.1).up (by decide)) (by show (τ_29 39 29).toInt = _; omega))
      · -- case 2
        refine r_tblIn C (2) 230 dX9_readRule_77 sw_15 (by decide) (by decide) rfl (by decide) ?_
        exact At.sub [0] rfl (L_230 s_73 (k7.tr ks_73) (by omega))
      · -- case 3
        refine r_tblIn C (3) 169 dX9_readRule_77 sw_15 (by decide) (by decide) rfl (by decide) ?_
        refine r_aload_n C 0 dX9_readRule_169 rfl rfl ?_
        refine r_aload_n C 0 dX9_readRule_170 rfl rfl ?_
        refine r_iconst C (1) dX9_readRule_171 (by decide) ?_
        refine r_bipush C (12) dX9_readRule_172 (by decide) ?_
        refine r_callV C (k := 39) [.int (1), .int (12)] [.ref (ad 39)] (c_X9_number E ad s_73  (1) (12) (by omega)) lv_X9_249 (by decide) rfl rfl (by decide) (by decide) rfl rfl (Nat.le_of_ble_eq_true rfl) dX9_readRule_174 (fun r_31 τ_32 h_33 => ?_)
        have e29_174 : (τ_32 39 29).toInt = (s_73 39 29).toInt := by rw [h_33.1.2 29 (by omega)]
        refine r_put C (k := 39) pf_X9_222 (by decide) (fun _ => rfl) (fun _ => Nat.le_of_ble_eq_true rfl) (fun _ _ => rfl) dX9_readRule_177 ?_
        refine r_goto C 230 dX9_readRule_180 (by decide) ?_
        exact At.sub [0] rfl (L_230 (sUp τ_32 39 36 (r_31)) (((k7.tr ks_73).tr h_33.1).up (by decide)) (by show (τ_32 39 29).toInt = _; omega))
      · -- case 4
        refine r_tblIn C (4) 183 dX9_readRule_77 sw_15 (by decide) (by decide) rfl (by decide) ?_
        refine r_aload_n C 0 dX9_readRule_183 rfl rfl ?_
        refine r_aload_n C 0 dX9_readRule_184 rfl rfl ?_
        refine r_iconst C (0) dX9_readRule_185 (by decide) ?_
        refine r_bipush C (23) dX9_readRule_186 (by decide) ?_
        refine r_callV C (k := 39) [.int (0), .int (23)] [.ref (ad 39)] (c_X9_number E ad s_73  (0) (23) (by omega)) lv_X9_249 (by decide) rfl rfl (by decide) (by decide) rfl rfl (Nat.le_of_ble_eq_true rfl) dX9_readRule_188 (fun r_34 τ_35 h_36 => ?_)
        have e29_188 : (τ_35 39 29).toInt = (s_73 39 29).toInt := by rw [h_36.1.2 29 (by omega)]
        refine r_put C (k := 39) pf_X9_222 (by decide) (fun _ => rfl) (fun _ => Nat.le_of_ble_eq_true rfl) (fun _ _ => rfl) dX9_readRule_191 ?_
        obtain ⟨s_194, es_194⟩ : ∃ t : Sg, t = (sUp τ_35 39 36 (r_34)) := ⟨_, rfl⟩
        rw [← es_194]
        have es_194_39_29 : (s_194 39 29).toInt = (τ_35 39 29 : Int32).toInt := by rw [es_194] <;> rfl
        have es_194_39_31 : (s_194 39 31).toInt = (τ_35 39 31 : Int32).toInt := by rw [es_194] <;> rfl
        have es_194_39_32 : (s_194 39 32).toInt = (τ_35 39 32 : Int32).toInt := by rw [es_194] <;> rfl
        have es_194_39_33 : (s_194 39 33).toInt = (τ_35 39 33 : Int32).toInt := by rw [es_194] <;> rfl
        have es_194_39_34 : (s_194 39 34).toInt = (τ_35 39 34 : Int32).toInt := by rw [es_194] <;> rfl
        have os_194 : Off [39] τ_35 s_194 := by rw [es_194]; exact (Off.rf.up (by decide))
        have ks_194 : KT τ_35 s_194 := by rw [es_194]; exact (KT.rf.up (by decide))
        refine r_aload_n C 0 dX9_readRule_194 rfl rfl ?_
        refine r_ldc2 C (29807) kc_X9_254 dX9_readRule_195 ?_
        refine r_iconst C (2) dX9_readRule_198 (by decide) ?_
        refine r_callVv C (k := 39) [.long (29807), .int (2)] [] (c_X9_word E ad s_194  (29807) (2) (by omega) (by omega)) lv_X9_245 (by decide) rfl rfl (by decide) (by decide) rfl rfl (Nat.le_of_ble_eq_true rfl) dX9_readRule_199 (fun τ_38 h_39 => ?_)
        have e29_199 : (τ_38 39 29).toInt = (s_194 39 29).toInt := by rw [h_39.1.2 29 (by omega)]
        refine r_aload_n C 0 dX9_readRule_202 rfl rfl ?_
        refine r_aload_n C 0 dX9_readRule_203 rfl rfl ?_
        refine r_iconst C (0) dX9_readRule_204 (by decide) ?_
        refine r_bipush C (23) dX9_readRule_205 (by decide) ?_
        refine r_callV C (k := 39) [.int (0), .int (23)] [.ref (ad 39)] (c_X9_number E ad τ_38  (0) (23) (by omega)) lv_X9_249 (by decide) rfl rfl (by decide) (by decide) rfl rfl (Nat.le_of_ble_eq_true rfl) dX9_readRule_207 (fun r_40 τ_41 h_42 => ?_)
        have e29_207 : (τ_41 39 29).toInt = (τ_38 39 29).toInt := by rw [h_42.1.2 29 (by omega)]
        refine r_put C (k := 39) pf_X9_225 (by decide) (fun _ => rfl) (fun _ => Nat.le_of_ble_eq_true rfl) (fun _ _ => rfl) dX9_readRule_210 ?_
        refine r_goto C 230 dX9_readRule_213 (by decide) ?_
        exact At.sub [0] rfl (L_230 (sUp τ_41 39 37 (r_40)) ((((((k7.tr ks_73).tr h_36.1).tr ks_194).tr h_39.1).tr h_42.1).up (by decide)) (by show (τ_41 39 29).toInt = _; omega))
      · -- case 5
        refine r_tblIn C (5) 216 dX9_readRule_77 sw_15 (by decide) (by decide) rfl (by decide) ?_
        refine r_aload_n C 0 dX9_readRule_216 rfl rfl ?_
        refine r_aload_n C 0 dX9_readRule_217 rfl rfl ?_
        refine r_iconst C (1) dX9_readRule_218 (by decide) ?_
        refine r_bipush C (24) dX9_readRule_219 (by decide) ?_
        refine r_callV C (k := 39) [.int (1), .int (24)] [.ref (ad 39)] (c_X9_number E ad s_73  (1) (24) (by omega)) lv_X9_249 (by decide) rfl rfl (by decide) (by decide) rfl rfl (Nat.le_of_ble_eq_true rfl) dX9_readRule_221 (fun r_43 τ_44 h_45 => ?_)
        have e29_221 : (τ_44 39 29).toInt = (s_73 39 29).toInt := by rw [h_45.1.2 29 (by omega)]
        refine r_put C (k := 39) pf_X9_222 (by decide) (fun _ => rfl) (fun _ => Nat.le_of_ble_eq_true rfl) (fun _ _ => rfl) dX9_readRule_224 ?_
        refine r_goto C 230 dX9_readRule_227 (by decide) ?_
        exact At.sub [0] rfl (L_230 (sUp τ_44 39 36 (r_43)) (((k7.tr ks_73).tr h_45.1).up (by decide)) (by show (τ_44 39 29).toInt = _; omega))
    refine r_aload_n C 0 dX9_readRule_50 rfl rfl ?_
    refine r_aload_n C 0 dX9_readRule_51 rfl rfl ?_
    refine r_get C (k := 39) (v := .int (τ_9 39 34)) f_X9_231 (by decide) rfl rfl dX9_readRule_52 ?_
    refine r_iconst C (2) dX9_readRule_55 (by decide) ?_
    refine r_icmp_ne C 66 dX9_readRule_56 (by decide) (fun c_46 => ?_) (fun c_46 => ?_)
    · -- to 66
      refine r_aload_n C 0 dX9_readRule_66 rfl rfl ?_
      refine r_callV C (k := 39) [] [.ref (ad 39)] (c_X9_sort E ad τ_9   (by omega)) lv_X9_237 (by decide) rfl rfl (by decide) (by decide) rfl rfl (Nat.le_of_ble_eq_true rfl) dX9_readRule_67 (fun r_47 τ_48 h_49 => ?_)
      have e29_67 : (τ_48 39 29).toInt = (τ_9 39 29).toInt := by rw [h_49.1.2 29 (by omega)]
      exact At.sub [0] rfl (L_70 τ_48 (r_47 : Int32) ((((ks_22.tr h_3.1).tr ks_34).tr h_10.1).tr h_49.1) (by omega))
    · -- to 59
      refine r_aload_n C 0 dX9_readRule_59 rfl rfl ?_
      refine r_callV C (k := 39) [] [.ref (ad 39)] (c_X9_hazard E ad τ_9   (by omega)) lv_X9_234 (by decide) rfl rfl (by decide) (by decide) rfl rfl (Nat.le_of_ble_eq_true rfl) dX9_readRule_60 (fun r_50 τ_51 h_52 => ?_)
      have e29_60 : (τ_51 39 29).toInt = (τ_9 39 29).toInt := by rw [h_52.1.2 29 (by omega)]
      refine r_goto C 70 dX9_readRule_63 (by decide) ?_
      exact At.sub [0] rfl (L_70 τ_51 (r_50 : Int32) ((((ks_22.tr h_3.1).tr ks_34).tr h_10.1).tr h_52.1) (by omega))
  · -- to 41
    refine r_aload_n C 0 dX9_readRule_41 rfl rfl ?_
    refine r_callVv C (k := 39) [] [] (c_X9_bad E ad s_34   ) lv_X9_192 (by decide) rfl rfl (by decide) (by decide) rfl rfl (Nat.le_of_ble_eq_true rfl) dX9_readRule_42 (fun τ_54 h_55 => ?_)
    have e29_42 : (τ_54 39 29).toInt = (s_34 39 29).toInt := by rw [h_55.1.2 29 (by omega)]
    exact r_vret C T dX9_readRule_45 (⟨(((ks_22.tr h_3.1).tr ks_34).tr h_55.1), fun h => by omega⟩)
