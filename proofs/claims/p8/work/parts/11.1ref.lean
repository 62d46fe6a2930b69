/-! WHAT HOLDS BETWEEN CALLS, of the reference's cells -/
def IM (σ : Sg) : Prop := (0 ≤ (σ 39 0).toInt ∧ (σ 39 0).toInt ≤ 300) ∧ (0 ≤ (σ 39 1).toInt ∧ (σ 39 1).toInt ≤ 12) ∧ (0 ≤ (σ 39 8).toInt ∧ (σ 39 8).toInt ≤ 12) ∧ (0 ≤ (σ 39 17).toInt ∧ (σ 39 17).toInt ≤ 7) ∧ (0 ≤ (σ 39 29).toInt ∧ (σ 39 29).toInt ≤ 60) ∧ (0 ≤ (σ 39 39).toInt ∧ (σ 39 39).toInt ≤ 7) ∧ (0 ≤ (σ 39 44).toInt ∧ (σ 39 44).toInt ≤ 28) ∧
  (∀ j, j < 12 → 0 ≤ (σ 40 j).toInt ∧ (σ 40 j).toInt ≤ 9) ∧ (∀ j, j < 12 → 0 ≤ (σ 41 j).toInt ∧ (σ 41 j).toInt ≤ 9) ∧ (∀ j, j < 12 → 0 ≤ (σ 42 j).toInt ∧ (σ 42 j).toInt ≤ 2) ∧ (∀ j, j < 7 → 0 ≤ (σ 54 j).toInt ∧ (σ 54 j).toInt ≤ 9) ∧ (∀ j, j < 7 → (σ 58 j).toInt ≤ 7)
theorem sUp2 {σ : Sg} {k j : Nat} {a b : Int32} : sUp (sUp σ k j a) k j b = sUp σ k j b := by
  funext i l
  unfold sUp upd
  by_cases h : i = k <;> by_cases h2 : l = j <;> simp [h, h2]
theorem sUp0 (σ : Sg) (k j : Nat) : σ = sUp σ k j (σ k j) := by
  funext i l
  unfold sUp upd
  by_cases h : i = k <;> by_cases h2 : l = j <;> simp [h, h2]
theorem sSet2 {σ : Sg} {k : Nat} {f g : Nat → Int32} : sSet (sSet σ k f) k g = sSet σ k g := by
  funext i
  unfold sSet
  by_cases h : i = k <;> simp [h]
theorem sSet0 (σ : Sg) (k : Nat) : σ = sSet σ k (σ k) := by
  funext i
  unfold sSet
  by_cases h : i = k <;> simp [h]
theorem off65 {σ τ : Sg} (h : Off [65] σ τ) : τ = sSet σ 65 (τ 65) := by
  funext i
  unfold sSet
  by_cases e : i = 65
  · simp [e]
  · rw [if_neg e]; exact h i (by simp [e])
theorem and1 (x : Int32) : 0 ≤ (x &&& 1).toInt ∧ (x &&& 1).toInt ≤ 1 := by
  have h := vp_in_iff.mp (pk_andIn x (m := 1) 1 (by decide) (by decide))
  omega
def fs10 (f : Nat → Int32) : Int := (f 0).toInt + (f 1).toInt + (f 2).toInt + (f 3).toInt + (f 4).toInt + (f 5).toInt + (f 6).toInt + (f 7).toInt + (f 8).toInt + (f 9).toInt
theorem fs_upd {f : Nat → Int32} {j : Nat} {v : Int32} (h : j < 10) : fs10 (upd f j v) = fs10 f - (f j).toInt + v.toInt := by
  rcases (show j = 0 ∨ j = 1 ∨ j = 2 ∨ j = 3 ∨ j = 4 ∨ j = 5 ∨ j = 6 ∨ j = 7 ∨ j = 8 ∨ j = 9 by omega) with rfl | rfl | rfl | rfl | rfl | rfl | rfl | rfl | rfl | rfl <;> simp [fs10, upd] <;> omega
theorem fs_nn {f : Nat → Int32} (h : ∀ j, j < 10 → 0 ≤ (f j).toInt ∧ (f j).toInt ≤ 1000) : 0 ≤ fs10 f := by
  have h0 := h 0 (by omega); have h1 := h 1 (by omega); have h2 := h 2 (by omega); have h3 := h 3 (by omega); have h4 := h 4 (by omega); have h5 := h 5 (by omega); have h6 := h 6 (by omega); have h7 := h 7 (by omega); have h8 := h 8 (by omega); have h9 := h 9 (by omega)
  unfold fs10
  omega
theorem bd_upd {f : Nat → Int32} {j : Nat} {v : Int32} (h : ∀ j, j < 10 → 0 ≤ (f j).toInt ∧ (f j).toInt ≤ 1000) (hv : 0 ≤ v.toInt ∧ v.toInt ≤ 1000) : ∀ i, i < 10 → 0 ≤ (upd f j v i).toInt ∧ (upd f j v i).toInt ≤ 1000 := by
  intro i hi
  unfold upd
  split
  · exact hv
  · exact h i hi
theorem IM_keep {S : List Nat} {σ τ : Sg} (hM : IM σ) (hO : Off S σ τ) (hS : ∀ k ∈ [40, 41, 42, 54, 58], k ∉ S) (hn : (0 ≤ (τ 39 0).toInt ∧ (τ 39 0).toInt ≤ 300) ∧ (0 ≤ (τ 39 1).toInt ∧ (τ 39 1).toInt ≤ 12) ∧ (0 ≤ (τ 39 8).toInt ∧ (τ 39 8).toInt ≤ 12) ∧ (0 ≤ (τ 39 17).toInt ∧ (τ 39 17).toInt ≤ 7) ∧ (0 ≤ (τ 39 29).toInt ∧ (τ 39 29).toInt ≤ 60) ∧ (0 ≤ (τ 39 39).toInt ∧ (τ 39 39).toInt ≤ 7) ∧ (0 ≤ (τ 39 44).toInt ∧ (τ 39 44).toInt ≤ 28)) : IM τ := by
  obtain ⟨n0, n1, n8, n17, n29, n39, n44, c40, c41, c42, c54, c58⟩ := hM
  obtain ⟨m0, m1, m2, m3, m4, m5, m6⟩ := hn
  refine ⟨m0, m1, m2, m3, m4, m5, m6, ?_, ?_, ?_, ?_, ?_⟩
  · rw [hO 40 (hS 40 (by decide))]; exact c40
  · rw [hO 41 (hS 41 (by decide))]; exact c41
  · rw [hO 42 (hS 42 (by decide))]; exact c42
  · rw [hO 54 (hS 54 (by decide))]; exact c54
  · rw [hO 58 (hS 58 (by decide))]; exact c58
theorem IM_off {S : List Nat} {σ τ : Sg} (hM : IM σ) (hO : Off S σ τ) (hS : ∀ k ∈ [39, 40, 41, 42, 54, 58], k ∉ S) : IM τ := by
  have hJ := hM
  obtain ⟨n0, n1, n8, n17, n29, n39, n44, -⟩ := hJ
  refine IM_keep hM hO (fun k hk => hS k (by simp at hk ⊢; omega)) ?_
  rw [hO 39 (hS 39 (by decide))]
  exact ⟨n0, n1, n8, n17, n29, n39, n44⟩
set_option maxHeartbeats 4000000 in
set_option maxRecDepth 100000 in
theorem c_X9_in (E : Ev) (ad : Nat → Nat) (σ : Sg) (p : Int32) (q : Int32) (u : Int32)  : Ct E ad yX9_in cX9_in 3 (some .boolean) 0 [.int p, .int q, .int u] σ (fun r τ => τ = σ ∧ ((r.toInt = 1 ∧ q.toInt ≤ p.toInt ∧ p.toInt ≤ u.toInt) ∨ (r.toInt = 0 ∧ ¬ (q.toInt ≤ p.toInt ∧ p.toInt ≤ u.toInt)))) := by
  have k_0 : (0 : Int32).toInt = 0 := by decide
  have k_1 : (1 : Int32).toInt = 1 := by decide
  refine ct_of RX9 rfl (by decide +kernel) [(0, .int (p)), (1, .int (q)), (2, .int (u))] rfl (Nat.le_of_ble_eq_true rfl) (fun G C T => ?_)
  refine r_iload_n C 0 dX9_in_0 rfl rfl ?_
  refine r_iload_n C 1 dX9_in_1 rfl rfl ?_
  refine r_icmp_lt C 14 dX9_in_2 (by decide) (fun c_1 => ?_) (fun c_1 => ?_)
  · -- to 14
    refine r_iconst C (0) dX9_in_14 (by decide) ?_
    exact r_zret C T dX9_in_15 (by omega) (⟨rfl, by omega⟩)
  · -- to 5
    refine r_iload_n C 0 dX9_in_5 rfl rfl ?_
    refine r_iload_n C 2 dX9_in_6 rfl rfl ?_
    refine r_icmp_gt C 14 dX9_in_7 (by decide) (fun c_2 => ?_) (fun c_2 => ?_)
    · -- to 14
      refine r_iconst C (0) dX9_in_14 (by decide) ?_
      exact r_zret C T dX9_in_15 (by omega) (⟨rfl, by omega⟩)
    · -- to 10
      refine r_iconst C (1) dX9_in_10 (by decide) ?_
      refine r_goto C 15 dX9_in_11 (by decide) ?_
      exact r_zret C T dX9_in_15 (by omega) (⟨rfl, by omega⟩)
set_option maxHeartbeats 4000000 in
set_option maxRecDepth 100000 in
theorem c_X9_has (E : Ev) (ad : Nat → Nat) (σ : Sg) (p : Int32) (q : Int32)  : Ct E ad yX9_has cX9_has 2 (some .boolean) 0 [.int p, .int q] σ (fun r τ => τ = σ ∧ ((r.toInt = 1 ∧ ((p >>> (q &&& 31)) &&& 1).toInt = 1) ∨ (r.toInt = 0 ∧ ¬ (((p >>> (q &&& 31)) &&& 1).toInt = 1)))) := by
  have k_0 : (0 : Int32).toInt = 0 := by decide
  have k_1 : (1 : Int32).toInt = 1 := by decide
  refine ct_of RX9 rfl (by decide +kernel) [(0, .int (p)), (1, .int (q))] rfl (Nat.le_of_ble_eq_true rfl) (fun G C T => ?_)
  refine r_iload_n C 0 dX9_has_0 rfl rfl ?_
  refine r_iload_n C 1 dX9_has_1 rfl rfl ?_
  refine r_ishr C dX9_has_2 ?_
  refine r_nm (P := fun z => z = (p : Int32) >>> ((q : Int32) &&& 31)) rfl (fun z_1 hz_2 => ?_)
  refine r_iconst C (1) dX9_has_3 (by decide) ?_
  refine r_iand C dX9_has_4 ?_
  refine r_nm (P := fun z => z = (z_1 : Int32) &&& (1)) rfl (fun z_3 hz_4 => ?_)
  refine r_iconst C (1) dX9_has_5 (by decide) ?_
  refine r_icmp_ne C 13 dX9_has_6 (by decide) (fun c_5 => ?_) (fun c_5 => ?_)
  · -- to 13
    refine r_iconst C (0) dX9_has_13 (by decide) ?_
    exact r_zret C T dX9_has_14 (by omega) (⟨rfl, by rw [hz_4, hz_2] at c_5; omega⟩)
  · -- to 9
    refine r_iconst C (1) dX9_has_9 (by decide) ?_
    refine r_goto C 14 dX9_has_10 (by decide) ?_
    exact r_zret C T dX9_has_14 (by omega) (⟨rfl, by rw [hz_4, hz_2] at c_5; omega⟩)
set_option maxHeartbeats 4000000 in
set_option maxRecDepth 100000 in
theorem c_X9_ones (E : Ev) (ad : Nat → Nat) (σ : Sg) (p : Int32)  : Ct E ad yX9_ones cX9_ones 3 (some .int) 0 [.int p] σ (fun r τ => τ = σ ∧ (0 ≤ r.toInt ∧ r.toInt ≤ 12) ∧ (p = 0 → r.toInt = 0)) := by
  have k_0 : (0 : Int32).toInt = 0 := by decide
  have k_1 : (1 : Int32).toInt = 1 := by decide
  have k_12 : (12 : Int32).toInt = 12 := by decide
  refine ct_of RX9 rfl (by decide +kernel) [(0, .int (p))] rfl (Nat.le_of_ble_eq_true rfl) (fun G C T => ?_)
  refine r_iconst C (0) dX9_ones_0 (by decide) ?_
  refine r_istore_n C [(1, .int (0)), (0, .int (p))] dX9_ones_1 rfl (by decide) rfl ?_
  refine r_iconst C (0) dX9_ones_2 (by decide) ?_
  refine r_istore_n C [(2, .int (0)), (1, .int (0)), (0, .int (p))] dX9_ones_3 rfl (by decide) rfl ?_
  have L_4 : ∀ (n : Nat), ∀ (a : Int32) (i : Int32), (0 ≤ i.toInt ∧ i.toInt ≤ 12) → (0 ≤ a.toInt ∧ a.toInt ≤ i.toInt) → (p = 0 → a.toInt = 0) → 12 - i.toInt < (n : Int) → At E ad G 3 4 [(2, .int (i)), (1, .int (a)), (0, .int (p))] [] σ := by
    intro n
    induction n with
    | zero =>
      intro a i hi hb hf hm
      exact absurd hm (by omega)
    | succ n ih =>
      intro a i hi hb hf hm
      have ih_4 := ih
      clear ih
      refine r_iload_n C 0 dX9_ones_4 rfl rfl ?_
      refine r_bipush C (12) dX9_ones_5 (by decide) ?_
      refine r_icmp_ge C 24 dX9_ones_7 (by decide) (fun c_1 => ?_) (fun c_1 => ?_)
      · -- to 24
        refine r_iload_n C 1 dX9_ones_24 rfl rfl ?_
        exact r_iret C T dX9_ones_25 (⟨rfl, by omega, hf⟩)
      · -- to 10
        refine r_iload_n C 1 dX9_ones_10 rfl rfl ?_
        refine r_iload_n C 2 dX9_ones_11 rfl rfl ?_
        refine r_iload_n C 0 dX9_ones_12 rfl rfl ?_
        refine r_ishr C dX9_ones_13 ?_
        refine r_nm (P := fun z => z = (p : Int32) >>> ((i : Int32) &&& 31)) rfl (fun z_2 hz_3 => ?_)
        refine r_iconst C (1) dX9_ones_14 (by decide) ?_
        refine r_iand C dX9_ones_15 ?_
        refine r_nm (P := fun z => (0 ≤ z.toInt ∧ z.toInt ≤ 1) ∧ (p = 0 → z.toInt = 0)) (⟨and1 _, fun h => by subst h; simp [hz_3]⟩) (fun z_4 hz_5 => ?_)
        refine r_iadd C dX9_ones_16 ?_
        refine r_nm (P := fun z => z.toInt = (a : Int32).toInt + (z_4 : Int32).toInt ∧ z = (a) + (z_4)) ⟨ta_add (by omega), rfl⟩ (fun z_6 hz_7 => ?_)
        refine r_istore_n C [(1, .int (z_6)), (2, .int (i)), (0, .int (p))] dX9_ones_17 rfl (by decide) rfl ?_
        refine r_iinc C 1 (fun z => [(2, .int (z)), (1, .int (z_6)), (0, .int (p))]) dX9_ones_18 rfl (by decide) (by decide) (by omega) (fun _ => rfl) (fun z_8 hz_9 => ?_)
        refine r_goto C 4 dX9_ones_21 (by decide) ?_
        exact At.sub [0, 1, 2] rfl (ih_4 (z_6 : Int32) (z_8 : Int32) (by omega) (by omega) (fun h => by have t1 := hf h; have t2 := hz_5.2 h; omega) (by omega))
  exact At.sub [0, 1, 2] rfl (L_4 ((12 - (0 : Int32).toInt).toNat + 1) (0 : Int32) (0 : Int32) (by omega) (by omega) (fun _ => k_0) (by omega))
set_option maxHeartbeats 4000000 in
set_option maxRecDepth 100000 in
theorem c_X9_isPipe (E : Ev) (ad : Nat → Nat) (σ : Sg) (p : Int32) (hM : IM σ) : Ct E ad yX9_isPipe cX9_isPipe 2 (some .boolean) 1 [.ref (ad 39), .int p] σ (fun r τ => τ = σ ∧ ((r.toInt = 1 ∧ 0 ≤ p.toInt ∧ p.toInt < (σ 39 1).toInt) ∨ (r.toInt = 0 ∧ ¬ (0 ≤ p.toInt ∧ p.toInt < (σ 39 1).toInt)))) := by
  have k_0 : (0 : Int32).toInt = 0 := by decide
  have k_1 : (1 : Int32).toInt = 1 := by decide
  have hJ := hM
  unfold IM at hJ
  obtain ⟨n0, n1, n8, n17, n29, n39, n44, c40, c41, c42, c54, c58⟩ := hJ
  refine ct_of RX9 rfl (by decide +kernel) [(0, .ref (ad 39)), (1, .int (p))] rfl (Nat.le_of_ble_eq_true rfl) (fun G C T => ?_)
  refine r_iload_n C 1 dX9_isPipe_0 rfl rfl ?_
  refine r_iconst C (0) dX9_isPipe_1 (by decide) ?_
  refine r_aload_n C 0 dX9_isPipe_2 rfl rfl ?_
  refine r_get C (k := 39) (v := .int (σ 39 1)) f_X9_101 (by decide) rfl rfl dX9_isPipe_3 ?_
  refine r_iconst C (1) dX9_isPipe_6 (by decide) ?_
  refine r_isub C dX9_isPipe_7 ?_
  refine r_nm (P := fun z => z.toInt = (σ 39 1 : Int32).toInt - (1 : Int32).toInt ∧ z = (σ 39 1) - (1)) ⟨ta_sub (by omega), rfl⟩ (fun z_1 hz_2 => ?_)
  refine r_callS C [.int (p), .int (0), .int (z_1)] [] (c_X9_in E ad σ  (p) (0) (z_1) ) ls_X9_105 (by decide) (by decide) rfl rfl (Nat.le_of_ble_eq_true rfl) dX9_isPipe_8 (fun r_3 τ_4 h_5 => ?_)
  obtain ⟨eh_5, h_5⟩ := h_5
  obtain rfl := eh_5.symm
  exact r_zret C T dX9_isPipe_11 (by omega) (⟨rfl, by omega⟩)
set_option maxHeartbeats 4000000 in
set_option maxRecDepth 100000 in
theorem c_X9_isPlace (E : Ev) (ad : Nat → Nat) (σ : Sg) (p : Int32)  : Ct E ad yX9_isPlace cX9_isPlace 1 (some .boolean) 1 [.int p] σ (fun r τ => τ = σ ∧ ((r.toInt = 1 ∧ 0 ≤ p.toInt ∧ p.toInt < 10) ∨ (r.toInt = 0 ∧ ¬ (0 ≤ p.toInt ∧ p.toInt < 10)))) := by
  have k_0 : (0 : Int32).toInt = 0 := by decide
  have k_9 : (9 : Int32).toInt = 9 := by decide
  refine ct_of RX9 rfl (by decide +kernel) [(0, .int (p))] rfl (Nat.le_of_ble_eq_true rfl) (fun G C T => ?_)
  refine r_iload_n C 0 dX9_isPlace_0 rfl rfl ?_
  refine r_iconst C (0) dX9_isPlace_1 (by decide) ?_
  refine r_bipush C (9) dX9_isPlace_2 (by decide) ?_
  refine r_callS C [.int (p), .int (0), .int (9)] [] (c_X9_in E ad σ  (p) (0) (9) ) ls_X9_105 (by decide) (by decide) rfl rfl (Nat.le_of_ble_eq_true rfl) dX9_isPlace_4 (fun r_1 τ_2 h_3 => ?_)
  obtain ⟨eh_3, h_3⟩ := h_3
  obtain rfl := eh_3.symm
  exact r_zret C T dX9_isPlace_7 (by omega) (⟨rfl, by omega⟩)
set_option maxHeartbeats 4000000 in
set_option maxRecDepth 100000 in
theorem c_X9_isMan (E : Ev) (ad : Nat → Nat) (σ : Sg) (p : Int32)  : Ct E ad yX9_isMan cX9_isMan 1 (some .boolean) 1 [.int p] σ (fun r τ => τ = σ ∧ ((r.toInt = 1 ∧ 0 ≤ p.toInt ∧ p.toInt < 8) ∨ (r.toInt = 0 ∧ ¬ (0 ≤ p.toInt ∧ p.toInt < 8)))) := by
  have k_0 : (0 : Int32).toInt = 0 := by decide
  have k_7 : (7 : Int32).toInt = 7 := by decide
  refine ct_of RX9 rfl (by decide +kernel) [(0, .int (p))] rfl (Nat.le_of_ble_eq_true rfl) (fun G C T => ?_)
  refine r_iload_n C 0 dX9_isMan_0 rfl rfl ?_
  refine r_iconst C (0) dX9_isMan_1 (by decide) ?_
  refine r_bipush C (7) dX9_isMan_2 (by decide) ?_
  refine r_callS C [.int (p), .int (0), .int (7)] [] (c_X9_in E ad σ  (p) (0) (7) ) ls_X9_105 (by decide) (by decide) rfl rfl (Nat.le_of_ble_eq_true rfl) dX9_isMan_4 (fun r_1 τ_2 h_3 => ?_)
  obtain ⟨eh_3, h_3⟩ := h_3
  obtain rfl := eh_3.symm
  exact r_zret C T dX9_isMan_7 (by omega) (⟨rfl, by omega⟩)
set_option maxHeartbeats 4000000 in
set_option maxRecDepth 100000 in
theorem c_X9_isPermit (E : Ev) (ad : Nat → Nat) (σ : Sg) (p : Int32) (hM : IM σ) : Ct E ad yX9_isPermit cX9_isPermit 2 (some .boolean) 1 [.ref (ad 39), .int p] σ (fun r τ => τ = σ ∧ ((r.toInt = 1 ∧ 0 ≤ p.toInt ∧ p.toInt < (σ 39 17).toInt) ∨ (r.toInt = 0 ∧ ¬ (0 ≤ p.toInt ∧ p.toInt < (σ 39 17).toInt)))) := by
  have k_0 : (0 : Int32).toInt = 0 := by decide
  have k_1 : (1 : Int32).toInt = 1 := by decide
  have hJ := hM
  unfold IM at hJ
  obtain ⟨n0, n1, n8, n17, n29, n39, n44, c40, c41, c42, c54, c58⟩ := hJ
  refine ct_of RX9 rfl (by decide +kernel) [(0, .ref (ad 39)), (1, .int (p))] rfl (Nat.le_of_ble_eq_true rfl) (fun G C T => ?_)
  refine r_iload_n C 1 dX9_isPermit_0 rfl rfl ?_
  refine r_iconst C (0) dX9_isPermit_1 (by decide) ?_
  refine r_aload_n C 0 dX9_isPermit_2 rfl rfl ?_
  refine r_get C (k := 39) (v := .int (σ 39 17)) f_X9_113 (by decide) rfl rfl dX9_isPermit_3 ?_
  refine r_iconst C (1) dX9_isPermit_6 (by decide) ?_
  refine r_isub C dX9_isPermit_7 ?_
  refine r_nm (P := fun z => z.toInt = (σ 39 17 : Int32).toInt - (1 : Int32).toInt ∧ z = (σ 39 17) - (1)) ⟨ta_sub (by omega), rfl⟩ (fun z_1 hz_2 => ?_)
  refine r_callS C [.int (p), .int (0), .int (z_1)] [] (c_X9_in E ad σ  (p) (0) (z_1) ) ls_X9_105 (by decide) (by decide) rfl rfl (Nat.le_of_ble_eq_true rfl) dX9_isPermit_8 (fun r_3 τ_4 h_5 => ?_)
  obtain ⟨eh_5, h_5⟩ := h_5
  obtain rfl := eh_5.symm
  exact r_zret C T dX9_isPermit_11 (by omega) (⟨rfl, by omega⟩)
set_option maxHeartbeats 4000000 in
set_option maxRecDepth 100000 in
theorem c_X9_isRule (E : Ev) (ad : Nat → Nat) (σ : Sg) (p : Int32) (hM : IM σ) : Ct E ad yX9_isRule cX9_isRule 2 (some .boolean) 1 [.ref (ad 39), .int p] σ (fun r τ => τ = σ ∧ ((r.toInt = 1 ∧ 0 ≤ p.toInt ∧ p.toInt < (σ 39 8).toInt) ∨ (r.toInt = 0 ∧ ¬ (0 ≤ p.toInt ∧ p.toInt < (σ 39 8).toInt)))) := by
  have k_0 : (0 : Int32).toInt = 0 := by decide
  have k_1 : (1 : Int32).toInt = 1 := by decide
  have hJ := hM
  unfold IM at hJ
  obtain ⟨n0, n1, n8, n17, n29, n39, n44, c40, c41, c42, c54, c58⟩ := hJ
  refine ct_of RX9 rfl (by decide +kernel) [(0, .ref (ad 39)), (1, .int (p))] rfl (Nat.le_of_ble_eq_true rfl) (fun G C T => ?_)
  refine r_iload_n C 1 dX9_isRule_0 rfl rfl ?_
  refine r_iconst C (0) dX9_isRule_1 (by decide) ?_
  refine r_aload_n C 0 dX9_isRule_2 rfl rfl ?_
  refine r_get C (k := 39) (v := .int (σ 39 8)) f_X9_140 (by decide) rfl rfl dX9_isRule_3 ?_
  refine r_iconst C (1) dX9_isRule_6 (by decide) ?_
  refine r_isub C dX9_isRule_7 ?_
  refine r_nm (P := fun z => z.toInt = (σ 39 8 : Int32).toInt - (1 : Int32).toInt ∧ z = (σ 39 8) - (1)) ⟨ta_sub (by omega), rfl⟩ (fun z_1 hz_2 => ?_)
  refine r_callS C [.int (p), .int (0), .int (z_1)] [] (c_X9_in E ad σ  (p) (0) (z_1) ) ls_X9_105 (by decide) (by decide) rfl rfl (Nat.le_of_ble_eq_true rfl) dX9_isRule_8 (fun r_3 τ_4 h_5 => ?_)
  obtain ⟨eh_5, h_5⟩ := h_5
  obtain rfl := eh_5.symm
  exact r_zret C T dX9_isRule_11 (by omega) (⟨rfl, by omega⟩)
set_option maxHeartbeats 4000000 in
set_option maxRecDepth 100000 in
theorem c_X9_isFitting (E : Ev) (ad : Nat → Nat) (σ : Sg) (p : Int32) (hM : IM σ) : Ct E ad yX9_isFitting cX9_isFitting 2 (some .boolean) 2 [.ref (ad 39), .int p] σ (fun r τ => τ = σ ∧ ((r.toInt = 1 ∧ 0 ≤ p.toInt ∧ p.toInt < (σ 39 1).toInt ∧ (σ 42 p.toInt.toNat).toInt < 2) ∨ (r.toInt = 0 ∧ ¬ (0 ≤ p.toInt ∧ p.toInt < (σ 39 1).toInt ∧ (σ 42 p.toInt.toNat).toInt < 2)))) := by
  have k_0 : (0 : Int32).toInt = 0 := by decide
  have k_1 : (1 : Int32).toInt = 1 := by decide
  have k_2 : (2 : Int32).toInt = 2 := by decide
  have hJ := hM
  unfold IM at hJ
  obtain ⟨n0, n1, n8, n17, n29, n39, n44, c40, c41, c42, c54, c58⟩ := hJ
  refine ct_of RX9 rfl (by decide +kernel) [(0, .ref (ad 39)), (1, .int (p))] rfl (Nat.le_of_ble_eq_true rfl) (fun G C T => ?_)
  refine r_aload_n C 0 dX9_isFitting_0 rfl rfl ?_
  refine r_iload_n C 1 dX9_isFitting_1 rfl rfl ?_
  refine r_callV C (k := 39) [.int (p)] [] (c_X9_isPipe E ad σ  (p) hM) lv_X9_109 (by decide) rfl rfl (by decide) (by decide) rfl rfl (Nat.le_of_ble_eq_true rfl) dX9_isFitting_2 (fun r_1 τ_2 h_3 => ?_)
  obtain ⟨eh_3, h_3⟩ := h_3
  obtain rfl := eh_3.symm
  refine r_if_eq C 22 dX9_isFitting_5 (by decide) (fun c_4 => ?_) (fun c_4 => ?_)
  · -- to 22
    refine r_iconst C (0) dX9_isFitting_22 (by decide) ?_
    exact r_zret C T dX9_isFitting_23 (by omega) (⟨rfl, by omega⟩)
  · -- to 8
    refine r_aload_n C 0 dX9_isFitting_8 rfl rfl ?_
    refine r_get C (k := 39) (v := .ref (ad 42)) f_X9_16 (by decide) rfl rfl dX9_isFitting_9 ?_
    refine r_iload_n C 1 dX9_isFitting_12 rfl rfl ?_
    refine r_iald C (k := 42) (by decide) rfl (by omega) (σ 42 ((p : Int32).toInt.toNat)) rfl dX9_isFitting_13 ?_
    refine r_iconst C (2) dX9_isFitting_14 (by decide) ?_
    refine r_icmp_ge C 22 dX9_isFitting_15 (by decide) (fun c_6 => ?_) (fun c_6 => ?_)
    · -- to 22
      refine r_iconst C (0) dX9_isFitting_22 (by decide) ?_
      exact r_zret C T dX9_isFitting_23 (by omega) (⟨rfl, by omega⟩)
    · -- to 18
      refine r_iconst C (1) dX9_isFitting_18 (by decide) ?_
      refine r_goto C 23 dX9_isFitting_19 (by decide) ?_
      exact r_zret C T dX9_isFitting_23 (by omega) (⟨rfl, by omega⟩)
set_option maxHeartbeats 4000000 in
set_option maxRecDepth 100000 in
theorem c_X9_pipe (E : Ev) (ad : Nat → Nat) (σ : Sg) (p : Int32) (q : Int32) (u : Int32) (hM : IM σ) : Ct E ad yX9_pipe cX9_pipe 4 (some .int) 2 [.ref (ad 39), .int p, .int q, .int u] σ (fun r τ => (¬ (0 ≤ p.toInt ∧ p.toInt < 10 ∧ 0 ≤ q.toInt ∧ q.toInt < 10 ∧ p.toInt ≠ q.toInt ∧ 0 ≤ u.toInt ∧ u.toInt ≤ 2) ∧ r.toInt = -1 ∧ τ = σ) ∨ ((0 ≤ p.toInt ∧ p.toInt < 10 ∧ 0 ≤ q.toInt ∧ q.toInt < 10 ∧ p.toInt ≠ q.toInt ∧ 0 ≤ u.toInt ∧ u.toInt ≤ 2) ∧ 12 ≤ (σ 39 1).toInt ∧ r.toInt = -2 ∧ τ = σ) ∨ ((0 ≤ p.toInt ∧ p.toInt < 10 ∧ 0 ≤ q.toInt ∧ q.toInt < 10 ∧ p.toInt ≠ q.toInt ∧ 0 ≤ u.toInt ∧ u.toInt ≤ 2) ∧ (σ 39 1).toInt < 12 ∧ r.toInt = (σ 39 1).toInt ∧ Off [39, 40, 41, 42, 43, 44] σ τ ∧ (τ 39 1).toInt = (σ 39 1).toInt + 1 ∧ (∀ j, j ≠ 1 → τ 39 j = σ 39 j) ∧ τ 40 = upd (σ 40) (σ 39 1).toInt.toNat p ∧ τ 41 = upd (σ 41) (σ 39 1).toInt.toNat q ∧ τ 42 = upd (σ 42) (σ 39 1).toInt.toNat u ∧ τ 43 = upd (σ 43) (σ 39 1).toInt.toNat (σ 39 0))) := by
  have k_m2 : (-2 : Int32).toInt = -2 := by decide
  have k_m1 : (-1 : Int32).toInt = -1 := by decide
  have k_0 : (0 : Int32).toInt = 0 := by decide
  have k_1 : (1 : Int32).toInt = 1 := by decide
  have k_2 : (2 : Int32).toInt = 2 := by decide
  have k_12 : (12 : Int32).toInt = 12 := by decide
  have hJ := hM
  unfold IM at hJ
  obtain ⟨n0, n1, n8, n17, n29, n39, n44, c40, c41, c42, c54, c58⟩ := hJ
  refine ct_of RX9 rfl (by decide +kernel) [(0, .ref (ad 39)), (1, .int (p)), (2, .int (q)), (3, .int (u))] rfl (Nat.le_of_ble_eq_true rfl) (fun G C T => ?_)
  have L_28 : (¬ (0 ≤ p.toInt ∧ p.toInt < 10 ∧ 0 ≤ q.toInt ∧ q.toInt < 10 ∧ p.toInt ≠ q.toInt ∧ 0 ≤ u.toInt ∧ u.toInt ≤ 2)) → At E ad G 4 28 [(0, .ref (ad 39)), (1, .int (p)), (2, .int (q)), (3, .int (u))] [] σ := by
    intro hnv
    refine r_iconst C (-1) dX9_pipe_28 (by decide) ?_
    exact r_iret C T dX9_pipe_29 (Or.inl ⟨hnv, k_m1, rfl⟩)
  refine r_iload_n C 1 dX9_pipe_0 rfl rfl ?_
  refine r_callS C [.int (p)] [] (c_X9_isPlace E ad σ  (p) ) ls_X9_116 (by decide) (by decide) rfl rfl (Nat.le_of_ble_eq_true rfl) dX9_pipe_1 (fun r_1 τ_2 h_3 => ?_)
  obtain ⟨eh_3, h_3⟩ := h_3
  obtain rfl := eh_3.symm
  refine r_if_eq C 28 dX9_pipe_4 (by decide) (fun c_4 => ?_) (fun c_4 => ?_)
  · -- to 28
    exact At.sub [0, 1, 2, 3] rfl (L_28  (by omega))
  · -- to 7
    refine r_iload_n C 2 dX9_pipe_7 rfl rfl ?_
    refine r_callS C [.int (q)] [] (c_X9_isPlace E ad σ  (q) ) ls_X9_116 (by decide) (by decide) rfl rfl (Nat.le_of_ble_eq_true rfl) dX9_pipe_8 (fun r_5 τ_6 h_7 => ?_)
    obtain ⟨eh_7, h_7⟩ := h_7
    obtain rfl := eh_7.symm
    refine r_if_eq C 28 dX9_pipe_11 (by decide) (fun c_8 => ?_) (fun c_8 => ?_)
    · -- to 28
      exact At.sub [0, 1, 2, 3] rfl (L_28  (by omega))
    · -- to 14
      refine r_iload_n C 1 dX9_pipe_14 rfl rfl ?_
      refine r_iload_n C 2 dX9_pipe_15 rfl rfl ?_
      refine r_icmp_eq C 28 dX9_pipe_16 (by decide) (fun c_9 => ?_) (fun c_9 => ?_)
      · -- to 28
        exact At.sub [0, 1, 2, 3] rfl (L_28  (by omega))
      · -- to 19
        refine r_iload_n C 3 dX9_pipe_19 rfl rfl ?_
        refine r_iconst C (0) dX9_pipe_20 (by decide) ?_
        refine r_iconst C (2) dX9_pipe_21 (by decide) ?_
        refine r_callS C [.int (u), .int (0), .int (2)] [] (c_X9_in E ad σ  (u) (0) (2) ) ls_X9_105 (by decide) (by decide) rfl rfl (Nat.le_of_ble_eq_true rfl) dX9_pipe_22 (fun r_10 τ_11 h_12 => ?_)
        obtain ⟨eh_12, h_12⟩ := h_12
        obtain rfl := eh_12.symm
        refine r_if_ne C 30 dX9_pipe_25 (by decide) (fun c_13 => ?_) (fun c_13 => ?_)
        · -- to 30
          refine r_aload_n C 0 dX9_pipe_30 rfl rfl ?_
          refine r_get C (k := 39) (v := .int (σ 39 1)) f_X9_101 (by decide) rfl rfl dX9_pipe_31 ?_
          refine r_bipush C (12) dX9_pipe_34 (by decide) ?_
          refine r_icmp_ne C 42 dX9_pipe_36 (by decide) (fun c_14 => ?_) (fun c_14 => ?_)
          · -- to 42
            refine r_aload_n C 0 dX9_pipe_42 rfl rfl ?_
            refine r_get C (k := 39) (v := .ref (ad 40)) f_X9_7 (by decide) rfl rfl dX9_pipe_43 ?_
            refine r_aload_n C 0 dX9_pipe_46 rfl rfl ?_
            refine r_get C (k := 39) (v := .int (σ 39 1)) f_X9_101 (by decide) rfl rfl dX9_pipe_47 ?_
            refine r_iload_n C 1 dX9_pipe_50 rfl rfl ?_
            refine r_iast C (k := 40) (by decide) (fun _ => rfl) (by omega) dX9_pipe_51 ?_
            refine r_aload_n C 0 dX9_pipe_52 rfl rfl ?_
            refine r_get C (k := 39) (v := .ref (ad 41)) f_X9_13 (by decide) rfl rfl dX9_pipe_53 ?_
            refine r_aload_n C 0 dX9_pipe_56 rfl rfl ?_
            refine r_get C (k := 39) (v := .int (σ 39 1)) f_X9_101 (by decide) rfl rfl dX9_pipe_57 ?_
            refine r_iload_n C 2 dX9_pipe_60 rfl rfl ?_
            refine r_iast C (k := 41) (by decide) (fun _ => rfl) (by omega) dX9_pipe_61 ?_
            refine r_aload_n C 0 dX9_pipe_62 rfl rfl ?_
            refine r_get C (k := 39) (v := .ref (ad 42)) f_X9_16 (by decide) rfl rfl dX9_pipe_63 ?_
            refine r_aload_n C 0 dX9_pipe_66 rfl rfl ?_
            refine r_get C (k := 39) (v := .int (σ 39 1)) f_X9_101 (by decide) rfl rfl dX9_pipe_67 ?_
            refine r_iload_n C 3 dX9_pipe_70 rfl rfl ?_
            refine r_iast C (k := 42) (by decide) (fun _ => rfl) (by omega) dX9_pipe_71 ?_
            refine r_aload_n C 0 dX9_pipe_72 rfl rfl ?_
            refine r_get C (k := 39) (v := .ref (ad 43)) f_X9_19 (by decide) rfl rfl dX9_pipe_73 ?_
            refine r_aload_n C 0 dX9_pipe_76 rfl rfl ?_
            refine r_get C (k := 39) (v := .int (σ 39 1)) f_X9_101 (by decide) rfl rfl dX9_pipe_77 ?_
            refine r_aload_n C 0 dX9_pipe_80 rfl rfl ?_
            refine r_get C (k := 39) (v := .int (σ 39 0)) f_X9_119 (by decide) rfl rfl dX9_pipe_81 ?_
            refine r_iast C (k := 43) (by decide) (fun _ => rfl) (by omega) dX9_pipe_84 ?_
            refine r_aload_n C 0 dX9_pipe_85 rfl rfl ?_
            refine r_get C (k := 39) (v := .ref (ad 44)) f_X9_22 (by decide) rfl rfl dX9_pipe_86 ?_
            refine r_aload_n C 0 dX9_pipe_89 rfl rfl ?_
            refine r_get C (k := 39) (v := .int (σ 39 1)) f_X9_101 (by decide) rfl rfl dX9_pipe_90 ?_
            refine r_iconst C (0) dX9_pipe_93 (by decide) ?_
            refine r_zast C (k := 44) (by decide) (fun _ => rfl) (by omega) (by omega) dX9_pipe_94 ?_
            refine r_aload_n C 0 dX9_pipe_95 rfl rfl ?_
            refine r_dup C dX9_pipe_96 rfl ?_
            refine r_get C (k := 39) (v := .int (σ 39 1)) f_X9_101 (by decide) rfl rfl dX9_pipe_97 ?_
            refine r_iconst C (1) dX9_pipe_100 (by decide) ?_
            refine r_iadd C dX9_pipe_101 ?_
            refine r_nm (P := fun z => z.toInt = (σ 39 1 : Int32).toInt + (1 : Int32).toInt ∧ z = (σ 39 1) + (1)) ⟨ta_add (by omega), rfl⟩ (fun z_15 hz_16 => ?_)
            refine r_put C (k := 39) pf_X9_101 (by decide) (fun _ => rfl) (fun _ => Nat.le_of_ble_eq_true rfl) (fun _ _ => rfl) dX9_pipe_102 ?_
            refine r_aload_n C 0 dX9_pipe_105 rfl rfl ?_
            refine r_get C (k := 39) (v := .int (z_15)) f_X9_101 (by decide) rfl rfl dX9_pipe_106 ?_
            refine r_iconst C (1) dX9_pipe_109 (by decide) ?_
            refine r_isub C dX9_pipe_110 ?_
            refine r_nm (P := fun z => z.toInt = (z_15 : Int32).toInt - (1 : Int32).toInt ∧ z = (z_15) - (1)) ⟨ta_sub (by omega), rfl⟩ (fun z_17 hz_18 => ?_)
            exact r_iret C T dX9_pipe_111 (Or.inr (Or.inr ⟨by omega, by omega, by omega, ((((((Off.rf.up (by decide)).up (by decide)).up (by decide)).up (by decide)).up (by decide)).up (by decide)), (show (z_15 : Int32).toInt = _ by omega), fun j hj => if_neg hj, rfl, rfl, rfl, rfl⟩))
          · -- to 39
            refine r_bipush C (-2) dX9_pipe_39 (by decide) ?_
            exact r_iret C T dX9_pipe_41 (Or.inr (Or.inl ⟨by omega, by omega, k_m2, rfl⟩))
        · -- to 28
          exact At.sub [0, 1, 2, 3] rfl (L_28  (by omega))
set_option maxHeartbeats 4000000 in
set_option maxRecDepth 100000 in
theorem c_X9_hasLocks (E : Ev) (ad : Nat → Nat) (σ : Sg) (p : Int32) (hp : 0 ≤ p.toInt ∧ p.toInt < 7) : Ct E ad yX9_hasLocks cX9_hasLocks 2 (some .boolean) 1 [.ref (ad 39), .int p] σ (fun r τ => τ = σ ∧ (r.toInt = 0 ∨ r.toInt = 1)) := by
  have k_1 : (1 : Int32).toInt = 1 := by decide
  have k_4 : (4 : Int32).toInt = 4 := by decide
  refine ct_of RX9 rfl (by decide +kernel) [(0, .ref (ad 39)), (1, .int (p))] rfl (Nat.le_of_ble_eq_true rfl) (fun G C T => ?_)
  refine r_aload_n C 0 dX9_hasLocks_0 rfl rfl ?_
  refine r_get C (k := 39) (v := .ref (ad 57)) f_X9_62 (by decide) rfl rfl dX9_hasLocks_1 ?_
  refine r_iload_n C 1 dX9_hasLocks_4 rfl rfl ?_
  refine r_iald C (k := 57) (by decide) rfl (by omega) (σ 57 ((p : Int32).toInt.toNat)) rfl dX9_hasLocks_5 ?_
  refine r_iconst C (1) dX9_hasLocks_6 (by decide) ?_
  refine r_iconst C (4) dX9_hasLocks_7 (by decide) ?_
  refine r_callS C [.int (σ 57 ((p : Int32).toInt.toNat)), .int (1), .int (4)] [] (c_X9_in E ad σ  (σ 57 ((p : Int32).toInt.toNat)) (1) (4) ) ls_X9_105 (by decide) (by decide) rfl rfl (Nat.le_of_ble_eq_true rfl) dX9_hasLocks_8 (fun r_2 τ_3 h_4 => ?_)
  obtain ⟨eh_4, h_4⟩ := h_4
  obtain rfl := eh_4.symm
  exact r_zret C T dX9_hasLocks_11 (by omega) (⟨rfl, by omega⟩)
set_option maxHeartbeats 4000000 in
set_option maxRecDepth 100000 in
theorem c_X9_locks (E : Ev) (ad : Nat → Nat) (σ : Sg) (p : Int32) (hM : IM σ) : Ct E ad yX9_locks cX9_locks 4 (some .int) 2 [.ref (ad 39), .int p] σ (fun r τ => τ = σ ∧ True) := by
  have k_0 : (0 : Int32).toInt = 0 := by decide
  have k_1 : (1 : Int32).toInt = 1 := by decide
  have hJ := hM
  unfold IM at hJ
  obtain ⟨n0, n1, n8, n17, n29, n39, n44, c40, c41, c42, c54, c58⟩ := hJ
  refine ct_of RX9 rfl (by decide +kernel) [(0, .ref (ad 39)), (1, .int (p))] rfl (Nat.le_of_ble_eq_true rfl) (fun G C T => ?_)
  refine r_iconst C (0) dX9_locks_0 (by decide) ?_
  refine r_istore_n C [(2, .int (0)), (0, .ref (ad 39)), (1, .int (p))] dX9_locks_1 rfl (by decide) rfl ?_
  refine r_iconst C (0) dX9_locks_2 (by decide) ?_
  refine r_istore_n C [(3, .int (0)), (2, .int (0)), (0, .ref (ad 39)), (1, .int (p))] dX9_locks_3 rfl (by decide) rfl ?_
  have L_4 : ∀ (n : Nat), ∀ (a : Int32) (i : Int32), (0 ≤ i.toInt ∧ i.toInt ≤ 7) → 7 - i.toInt < (n : Int) → At E ad G 4 4 [(3, .int (i)), (2, .int (a)), (0, .ref (ad 39)), (1, .int (p))] [] σ := by
    intro n
    induction n with
    | zero =>
      intro a i hi hm
      exact absurd hm (by omega)
    | succ n ih =>
      intro a i hi hm
      have ih_4 := ih
      clear ih
      refine r_iload_n C 0 dX9_locks_4 rfl rfl ?_
      refine r_aload_n C 2 dX9_locks_5 rfl rfl ?_
      refine r_get C (k := 39) (v := .int (σ 39 17)) f_X9_113 (by decide) rfl rfl dX9_locks_6 ?_
      refine r_icmp_ge C 47 dX9_locks_9 (by decide) (fun c_1 => ?_) (fun c_1 => ?_)
      · -- to 47
        refine r_iload_n C 1 dX9_locks_47 rfl rfl ?_
        exact r_iret C T dX9_locks_48 (⟨rfl, trivial⟩)
      · -- to 12
        refine r_iload_n C 1 dX9_locks_12 rfl rfl ?_
        refine r_aload_n C 2 dX9_locks_13 rfl rfl ?_
        refine r_iload_n C 0 dX9_locks_14 rfl rfl ?_
        refine r_callV C (k := 39) [.int (i)] [.int (a)] (c_X9_hasLocks E ad σ  (i) (by omega)) lv_X9_122 (by decide) rfl rfl (by decide) (by decide) rfl rfl (Nat.le_of_ble_eq_true rfl) dX9_locks_15 (fun r_2 τ_3 h_4 => ?_)
        obtain ⟨eh_4, h_4⟩ := h_4
        obtain rfl := eh_4.symm
        refine r_if_eq C 38 dX9_locks_18 (by decide) (fun c_5 => ?_) (fun c_5 => ?_)
        · -- to 38
          refine r_iconst C (0) dX9_locks_38 (by decide) ?_
          refine r_iadd C dX9_locks_39 ?_
          refine r_nm (P := fun z => z = (a) + (0)) rfl (fun z_6 hz_7 => ?_)
          refine r_istore_n C [(2, .int (z_6)), (3, .int (i)), (0, .ref (ad 39)), (1, .int (p))] dX9_locks_40 rfl (by decide) rfl ?_
          refine r_iinc C 1 (fun z => [(3, .int (z)), (2, .int (z_6)), (0, .ref (ad 39)), (1, .int (p))]) dX9_locks_41 rfl (by decide) (by decide) (by omega) (fun _ => rfl) (fun z_8 hz_9 => ?_)
          refine r_goto C 4 dX9_locks_44 (by decide) ?_
          exact At.sub [0, 1, 2, 3] rfl (ih_4 (z_6 : Int32) (z_8 : Int32) (by omega) (by omega))
        · -- to 21
          refine r_aload_n C 2 dX9_locks_21 rfl rfl ?_
          refine r_get C (k := 39) (v := .ref (ad 56)) f_X9_59 (by decide) rfl rfl dX9_locks_22 ?_
          refine r_iload_n C 0 dX9_locks_25 rfl rfl ?_
          refine r_iald C (k := 56) (by decide) rfl (by omega) (σ 56 ((i : Int32).toInt.toNat)) rfl dX9_locks_26 ?_
          refine r_iload_n C 3 dX9_locks_27 rfl rfl ?_
          refine r_callS C [.int (σ 56 ((i : Int32).toInt.toNat)), .int (p)] [.int (a)] (c_X9_has E ad σ  (σ 56 ((i : Int32).toInt.toNat)) (p) ) ls_X9_125 (by decide) (by decide) rfl rfl (Nat.le_of_ble_eq_true rfl) dX9_locks_28 (fun r_11 τ_12 h_13 => ?_)
          obtain ⟨eh_13, h_13⟩ := h_13
          obtain rfl := eh_13.symm
          refine r_if_eq C 38 dX9_locks_31 (by decide) (fun c_14 => ?_) (fun c_14 => ?_)
          · -- to 38
            refine r_iconst C (0) dX9_locks_38 (by decide) ?_
            refine r_iadd C dX9_locks_39 ?_
            refine r_nm (P := fun z => z = (a) + (0)) rfl (fun z_15 hz_16 => ?_)
            refine r_istore_n C [(2, .int (z_15)), (3, .int (i)), (0, .ref (ad 39)), (1, .int (p))] dX9_locks_40 rfl (by decide) rfl ?_
            refine r_iinc C 1 (fun z => [(3, .int (z)), (2, .int (z_15)), (0, .ref (ad 39)), (1, .int (p))]) dX9_locks_41 rfl (by decide) (by decide) (by omega) (fun _ => rfl) (fun z_17 hz_18 => ?_)
            refine r_goto C 4 dX9_locks_44 (by decide) ?_
            exact At.sub [0, 1, 2, 3] rfl (ih_4 (z_15 : Int32) (z_17 : Int32) (by omega) (by omega))
          · -- to 34
            refine r_iconst C (1) dX9_locks_34 (by decide) ?_
            refine r_goto C 39 dX9_locks_35 (by decide) ?_
            refine r_iadd C dX9_locks_39 ?_
            refine r_nm (P := fun z => z = (a) + (1)) rfl (fun z_19 hz_20 => ?_)
            refine r_istore_n C [(2, .int (z_19)), (3, .int (i)), (0, .ref (ad 39)), (1, .int (p))] dX9_locks_40 rfl (by decide) rfl ?_
            refine r_iinc C 1 (fun z => [(3, .int (z)), (2, .int (z_19)), (0, .ref (ad 39)), (1, .int (p))]) dX9_locks_41 rfl (by decide) (by decide) (by omega) (fun _ => rfl) (fun z_21 hz_22 => ?_)
            refine r_goto C 4 dX9_locks_44 (by decide) ?_
            exact At.sub [0, 1, 2, 3] rfl (ih_4 (z_19 : Int32) (z_21 : Int32) (by omega) (by omega))
  exact At.sub [0, 1, 2, 3] rfl (L_4 ((7 - (0 : Int32).toInt).toNat + 1) (0 : Int32) (0 : Int32) (by omega) (by omega))
set_option maxHeartbeats 4000000 in
set_option maxRecDepth 100000 in
theorem c_X9_closedNow (E : Ev) (ad : Nat → Nat) (σ : Sg)  (hM : IM σ) : Ct E ad yX9_closedNow cX9_closedNow 3 (some .int) 3 [.ref (ad 39)] σ (fun r τ => τ = σ ∧ ((σ 39 1).toInt = 0 → r = 0)) := by
  have k_0 : (0 : Int32).toInt = 0 := by decide
  have k_1 : (1 : Int32).toInt = 1 := by decide
  have hJ := hM
  unfold IM at hJ
  obtain ⟨n0, n1, n8, n17, n29, n39, n44, c40, c41, c42, c54, c58⟩ := hJ
  refine ct_of RX9 rfl (by decide +kernel) [(0, .ref (ad 39))] rfl (Nat.le_of_ble_eq_true rfl) (fun G C T => ?_)
  refine r_iconst C (0) dX9_closedNow_0 (by decide) ?_
  refine r_istore_n C [(1, .int (0)), (0, .ref (ad 39))] dX9_closedNow_1 rfl (by decide) rfl ?_
  refine r_iconst C (0) dX9_closedNow_2 (by decide) ?_
  refine r_istore_n C [(2, .int (0)), (1, .int (0)), (0, .ref (ad 39))] dX9_closedNow_3 rfl (by decide) rfl ?_
  have L_4 : ∀ (n : Nat), ∀ (a : Int32) (i : Int32), (0 ≤ i.toInt ∧ i.toInt ≤ 12) → ((σ 39 1).toInt = 0 → a = 0) → 12 - i.toInt < (n : Int) → At E ad G 3 4 [(2, .int (i)), (1, .int (a)), (0, .ref (ad 39))] [] σ := by
    intro n
    induction n with
    | zero =>
      intro a i hi hf hm
      exact absurd hm (by omega)
    | succ n ih =>
      intro a i hi hf hm
      have ih_4 := ih
      clear ih
      refine r_iload_n C 0 dX9_closedNow_4 rfl rfl ?_
      refine r_aload_n C 2 dX9_closedNow_5 rfl rfl ?_
      refine r_get C (k := 39) (v := .int (σ 39 1)) f_X9_101 (by decide) rfl rfl dX9_closedNow_6 ?_
      refine r_icmp_ge C 45 dX9_closedNow_9 (by decide) (fun c_1 => ?_) (fun c_1 => ?_)
      · -- to 45
        refine r_iload_n C 1 dX9_closedNow_45 rfl rfl ?_
        exact r_iret C T dX9_closedNow_46 (⟨rfl, hf⟩)
      · -- to 12
        refine r_iload_n C 1 dX9_closedNow_12 rfl rfl ?_
        refine r_aload_n C 2 dX9_closedNow_13 rfl rfl ?_
        refine r_get C (k := 39) (v := .ref (ad 44)) f_X9_22 (by decide) rfl rfl dX9_closedNow_14 ?_
        refine r_iload_n C 0 dX9_closedNow_17 rfl rfl ?_
        refine r_zald C (k := 44) (by decide) rfl (by omega) (σ 44 ((i : Int32).toInt.toNat)) rfl dX9_closedNow_18 ?_
        refine r_if_ne C 30 dX9_closedNow_19 (by decide) (fun c_3 => ?_) (fun c_3 => ?_)
        · -- to 30
          refine r_iconst C (1) dX9_closedNow_30 (by decide) ?_
          refine r_iload_n C 0 dX9_closedNow_31 rfl rfl ?_
          refine r_ishl C dX9_closedNow_32 ?_
          refine r_nm (P := fun z => z = (1 : Int32) <<< ((i : Int32) &&& 31)) rfl (fun z_4 hz_5 => ?_)
          refine r_goto C 37 dX9_closedNow_33 (by decide) ?_
          refine r_ior C dX9_closedNow_37 ?_
          refine r_nm (P := fun z => z = (a : Int32) ||| (z_4)) rfl (fun z_6 hz_7 => ?_)
          refine r_istore_n C [(1, .int (z_6)), (2, .int (i)), (0, .ref (ad 39))] dX9_closedNow_38 rfl (by decide) rfl ?_
          refine r_iinc C 1 (fun z => [(2, .int (z)), (1, .int (z_6)), (0, .ref (ad 39))]) dX9_closedNow_39 rfl (by decide) (by decide) (by omega) (fun _ => rfl) (fun z_8 hz_9 => ?_)
          refine r_goto C 4 dX9_closedNow_42 (by decide) ?_
          exact At.sub [0, 1, 2] rfl (ih_4 (z_6 : Int32) (z_8 : Int32) (by omega) (fun h => absurd h (by omega)) (by omega))
        · -- to 22
          refine r_aload_n C 2 dX9_closedNow_22 rfl rfl ?_
          refine r_iload_n C 0 dX9_closedNow_23 rfl rfl ?_
          refine r_callV C (k := 39) [.int (i)] [.int (a)] (c_X9_locks E ad σ  (i) hM) lv_X9_129 (by decide) rfl rfl (by decide) (by decide) rfl rfl (Nat.le_of_ble_eq_true rfl) dX9_closedNow_24 (fun r_10 τ_11 h_12 => ?_)
          obtain ⟨eh_12, h_12⟩ := h_12
          obtain rfl := eh_12.symm
          refine r_if_le C 36 dX9_closedNow_27 (by decide) (fun c_13 => ?_) (fun c_13 => ?_)
          · -- to 36
            refine r_iconst C (0) dX9_closedNow_36 (by decide) ?_
            refine r_ior C dX9_closedNow_37 ?_
            refine r_nm (P := fun z => z = (a : Int32) ||| (0)) rfl (fun z_14 hz_15 => ?_)
            refine r_istore_n C [(1, .int (z_14)), (2, .int (i)), (0, .ref (ad 39))] dX9_closedNow_38 rfl (by decide) rfl ?_
            refine r_iinc C 1 (fun z => [(2, .int (z)), (1, .int (z_14)), (0, .ref (ad 39))]) dX9_closedNow_39 rfl (by decide) (by decide) (by omega) (fun _ => rfl) (fun z_16 hz_17 => ?_)
            refine r_goto C 4 dX9_closedNow_42 (by decide) ?_
            exact At.sub [0, 1, 2] rfl (ih_4 (z_14 : Int32) (z_16 : Int32) (by omega) (fun h => absurd h (by omega)) (by omega))
          · -- to 30
            refine r_iconst C (1) dX9_closedNow_30 (by decide) ?_
            refine r_iload_n C 0 dX9_closedNow_31 rfl rfl ?_
            refine r_ishl C dX9_closedNow_32 ?_
            refine r_nm (P := fun z => z = (1 : Int32) <<< ((i : Int32) &&& 31)) rfl (fun z_18 hz_19 => ?_)
            refine r_goto C 37 dX9_closedNow_33 (by decide) ?_
            refine r_ior C dX9_closedNow_37 ?_
            refine r_nm (P := fun z => z = (a : Int32) ||| (z_18)) rfl (fun z_20 hz_21 => ?_)
            refine r_istore_n C [(1, .int (z_20)), (2, .int (i)), (0, .ref (ad 39))] dX9_closedNow_38 rfl (by decide) rfl ?_
            refine r_iinc C 1 (fun z => [(2, .int (z)), (1, .int (z_20)), (0, .ref (ad 39))]) dX9_closedNow_39 rfl (by decide) (by decide) (by omega) (fun _ => rfl) (fun z_22 hz_23 => ?_)
            refine r_goto C 4 dX9_closedNow_42 (by decide) ?_
            exact At.sub [0, 1, 2] rfl (ih_4 (z_20 : Int32) (z_22 : Int32) (by omega) (fun h => absurd h (by omega)) (by omega))
  exact At.sub [0, 1, 2] rfl (L_4 ((12 - (0 : Int32).toInt).toNat + 1) (0 : Int32) (0 : Int32) (by omega) (fun _ => rfl) (by omega))
set_option maxHeartbeats 4000000 in
set_option maxRecDepth 100000 in
theorem c_X9_of (E : Ev) (ad : Nat → Nat) (σ : Sg) (p : Int32) (q : Int32) (hM : IM σ) : Ct E ad yX9_of cX9_of 3 (some .int) 4 [.ref (ad 39), .int p, .int q] σ (fun r τ => τ = σ ∧ ((σ 39 1).toInt = 0 → r.toInt = -1)) := by
  have k_m1 : (-1 : Int32).toInt = -1 := by decide
  have k_0 : (0 : Int32).toInt = 0 := by decide
  have k_1 : (1 : Int32).toInt = 1 := by decide
  have k_5 : (5 : Int32).toInt = 5 := by decide
  have hJ := hM
  unfold IM at hJ
  obtain ⟨n0, n1, n8, n17, n29, n39, n44, c40, c41, c42, c54, c58⟩ := hJ
  refine ct_of RX9 rfl (by decide +kernel) [(0, .ref (ad 39)), (1, .int (p)), (2, .int (q))] rfl (Nat.le_of_ble_eq_true rfl) (fun G C T => ?_)
  refine r_aload_n C 0 dX9_of_0 rfl rfl ?_
  refine r_iload_n C 1 dX9_of_1 rfl rfl ?_
  refine r_callV C (k := 39) [.int (p)] [] (c_X9_isPipe E ad σ  (p) hM) lv_X9_109 (by decide) rfl rfl (by decide) (by decide) rfl rfl (Nat.le_of_ble_eq_true rfl) dX9_of_2 (fun r_1 τ_2 h_3 => ?_)
  obtain ⟨eh_3, h_3⟩ := h_3
  obtain rfl := eh_3.symm
  refine r_if_eq C 17 dX9_of_5 (by decide) (fun c_4 => ?_) (fun c_4 => ?_)
  · -- to 17
    refine r_iconst C (-1) dX9_of_17 (by decide) ?_
    exact r_iret C T dX9_of_18 (⟨rfl, fun h => by first | exact k_m1 | exact absurd h (by omega)⟩)
  · -- to 8
    refine r_iload_n C 2 dX9_of_8 rfl rfl ?_
    refine r_iconst C (0) dX9_of_9 (by decide) ?_
    refine r_iconst C (5) dX9_of_10 (by decide) ?_
    refine r_callS C [.int (q), .int (0), .int (5)] [] (c_X9_in E ad σ  (q) (0) (5) ) ls_X9_105 (by decide) (by decide) rfl rfl (Nat.le_of_ble_eq_true rfl) dX9_of_11 (fun r_5 τ_6 h_7 => ?_)
    obtain ⟨eh_7, h_7⟩ := h_7
    obtain rfl := eh_7.symm
    refine r_if_ne C 19 dX9_of_14 (by decide) (fun c_8 => ?_) (fun c_8 => ?_)
    · -- to 19
      refine r_iload_n C 2 dX9_of_19 rfl rfl ?_
      rcases (show ((q : Int32).toInt < 0 ∨ 4 < (q : Int32).toInt) ∨ (q : Int32).toInt = 0 ∨ (q : Int32).toInt = 1 ∨ (q : Int32).toInt = 2 ∨ (q : Int32).toInt = 3 ∨ (q : Int32).toInt = 4 by omega) with sw_9 | sw_9 | sw_9 | sw_9 | sw_9 | sw_9
      · -- case None
        refine r_tblOut C 93 dX9_of_20 sw_9 (by decide) ?_
        refine r_aload_n C 0 dX9_of_93 rfl rfl ?_
        refine r_iload_n C 1 dX9_of_94 rfl rfl ?_
        refine r_callV C (k := 39) [.int (p)] [] (c_X9_locks E ad σ  (p) hM) lv_X9_129 (by decide) rfl rfl (by decide) (by decide) rfl rfl (Nat.le_of_ble_eq_true rfl) dX9_of_95 (fun r_10 τ_11 h_12 => ?_)
        obtain ⟨eh_12, h_12⟩ := h_12
        obtain rfl := eh_12.symm
        exact r_iret C T dX9_of_98 (⟨rfl, fun h => by first | exact k_m1 | exact absurd h (by omega)⟩)
      · -- case 0
        refine r_tblIn C (0) 56 dX9_of_20 sw_9 (by decide) (by decide) rfl (by decide) ?_
        refine r_aload_n C 0 dX9_of_56 rfl rfl ?_
        refine r_get C (k := 39) (v := .ref (ad 40)) f_X9_7 (by decide) rfl rfl dX9_of_57 ?_
        refine r_iload_n C 1 dX9_of_60 rfl rfl ?_
        refine r_iald C (k := 40) (by decide) rfl (by omega) (σ 40 ((p : Int32).toInt.toNat)) rfl dX9_of_61 ?_
        exact r_iret C T dX9_of_62 (⟨rfl, fun h => by first | exact k_m1 | exact absurd h (by omega)⟩)
      · -- case 1
        refine r_tblIn C (1) 63 dX9_of_20 sw_9 (by decide) (by decide) rfl (by decide) ?_
        refine r_aload_n C 0 dX9_of_63 rfl rfl ?_
        refine r_get C (k := 39) (v := .ref (ad 41)) f_X9_13 (by decide) rfl rfl dX9_of_64 ?_
        refine r_iload_n C 1 dX9_of_67 rfl rfl ?_
        refine r_iald C (k := 41) (by decide) rfl (by omega) (σ 41 ((p : Int32).toInt.toNat)) rfl dX9_of_68 ?_
        exact r_iret C T dX9_of_69 (⟨rfl, fun h => by first | exact k_m1 | exact absurd h (by omega)⟩)
      · -- case 2
        refine r_tblIn C (2) 70 dX9_of_20 sw_9 (by decide) (by decide) rfl (by decide) ?_
        refine r_aload_n C 0 dX9_of_70 rfl rfl ?_
        refine r_get C (k := 39) (v := .ref (ad 42)) f_X9_16 (by decide) rfl rfl dX9_of_71 ?_
        refine r_iload_n C 1 dX9_of_74 rfl rfl ?_
        refine r_iald C (k := 42) (by decide) rfl (by omega) (σ 42 ((p : Int32).toInt.toNat)) rfl dX9_of_75 ?_
        exact r_iret C T dX9_of_76 (⟨rfl, fun h => by first | exact k_m1 | exact absurd h (by omega)⟩)
      · -- case 3
        refine r_tblIn C (3) 77 dX9_of_20 sw_9 (by decide) (by decide) rfl (by decide) ?_
        refine r_aload_n C 0 dX9_of_77 rfl rfl ?_
        refine r_get C (k := 39) (v := .ref (ad 43)) f_X9_19 (by decide) rfl rfl dX9_of_78 ?_
        refine r_iload_n C 1 dX9_of_81 rfl rfl ?_
        refine r_iald C (k := 43) (by decide) rfl (by omega) (σ 43 ((p : Int32).toInt.toNat)) rfl dX9_of_82 ?_
        exact r_iret C T dX9_of_83 (⟨rfl, fun h => by first | exact k_m1 | exact absurd h (by omega)⟩)
      · -- case 4
        refine r_tblIn C (4) 84 dX9_of_20 sw_9 (by decide) (by decide) rfl (by decide) ?_
        refine r_aload_n C 0 dX9_of_84 rfl rfl ?_
        refine r_callV C (k := 39) [] [] (c_X9_closedNow E ad σ   hM) lv_X9_133 (by decide) rfl rfl (by decide) (by decide) rfl rfl (Nat.le_of_ble_eq_true rfl) dX9_of_85 (fun r_17 τ_18 h_19 => ?_)
        obtain ⟨eh_19, h_19⟩ := h_19
        obtain rfl := eh_19.symm
        refine r_iload_n C 1 dX9_of_88 rfl rfl ?_
        refine r_ishr C dX9_of_89 ?_
        refine r_nm (P := fun z => z = (r_17 : Int32) >>> ((p : Int32) &&& 31)) rfl (fun z_20 hz_21 => ?_)
        refine r_iconst C (1) dX9_of_90 (by decide) ?_
        refine r_iand C dX9_of_91 ?_
        refine r_nm (P := fun z => z = (z_20 : Int32) &&& (1)) rfl (fun z_22 hz_23 => ?_)
        exact r_iret C T dX9_of_92 (⟨rfl, fun h => by first | exact k_m1 | exact absurd h (by omega)⟩)
    · -- to 17
      refine r_iconst C (-1) dX9_of_17 (by decide) ?_
      exact r_iret C T dX9_of_18 (⟨rfl, fun h => by first | exact k_m1 | exact absurd h (by omega)⟩)
set_option maxHeartbeats 4000000 in
set_option maxRecDepth 100000 in
theorem c_X9_source (E : Ev) (ad : Nat → Nat) (σ : Sg) (p : Int32) (q : Int32) (u : Int32) (hM : IM σ) (hu : u.toInt = 0 ∨ u.toInt = 1) : Ct E ad yX9_source cX9_source 6 (some .int) 2 [.ref (ad 39), .int p, .int q, .int u] σ (fun r τ => (¬ (0 ≤ p.toInt ∧ p.toInt < 10 ∧ 0 ≤ q.toInt ∧ q.toInt < 3) ∧ r.toInt = -1 ∧ τ = σ) ∨ ((0 ≤ p.toInt ∧ p.toInt < 10 ∧ 0 ≤ q.toInt ∧ q.toInt < 3) ∧ τ = sUp σ 45 (3 * p.toInt + q.toInt).toNat u ∧ ((r.toInt = 0 ∧ (σ 45 (3 * p.toInt + q.toInt).toNat).toInt = u.toInt) ∨ (r.toInt = 1 ∧ (σ 45 (3 * p.toInt + q.toInt).toNat).toInt ≠ u.toInt)))) := by
  have k_m1 : (-1 : Int32).toInt = -1 := by decide
  have k_0 : (0 : Int32).toInt = 0 := by decide
  have k_1 : (1 : Int32).toInt = 1 := by decide
  have k_2 : (2 : Int32).toInt = 2 := by decide
  have k_3 : (3 : Int32).toInt = 3 := by decide
  have hJ := hM
  unfold IM at hJ
  obtain ⟨n0, n1, n8, n17, n29, n39, n44, c40, c41, c42, c54, c58⟩ := hJ
  refine ct_of RX9 rfl (by decide +kernel) [(0, .ref (ad 39)), (1, .int (p)), (2, .int (q)), (3, .int (u))] rfl (Nat.le_of_ble_eq_true rfl) (fun G C T => ?_)
  refine r_iload_n C 1 dX9_source_0 rfl rfl ?_
  refine r_callS C [.int (p)] [] (c_X9_isPlace E ad σ  (p) ) ls_X9_116 (by decide) (by decide) rfl rfl (Nat.le_of_ble_eq_true rfl) dX9_source_1 (fun r_1 τ_2 h_3 => ?_)
  obtain ⟨eh_3, h_3⟩ := h_3
  obtain rfl := eh_3.symm
  refine r_if_eq C 16 dX9_source_4 (by decide) (fun c_4 => ?_) (fun c_4 => ?_)
  · -- to 16
    refine r_iconst C (-1) dX9_source_16 (by decide) ?_
    exact r_iret C T dX9_source_17 (Or.inl ⟨by omega, k_m1, rfl⟩)
  · -- to 7
    refine r_iload_n C 2 dX9_source_7 rfl rfl ?_
    refine r_iconst C (0) dX9_source_8 (by decide) ?_
    refine r_iconst C (2) dX9_source_9 (by decide) ?_
    refine r_callS C [.int (q), .int (0), .int (2)] [] (c_X9_in E ad σ  (q) (0) (2) ) ls_X9_105 (by decide) (by decide) rfl rfl (Nat.le_of_ble_eq_true rfl) dX9_source_10 (fun r_5 τ_6 h_7 => ?_)
    obtain ⟨eh_7, h_7⟩ := h_7
    obtain rfl := eh_7.symm
    refine r_if_ne C 18 dX9_source_13 (by decide) (fun c_8 => ?_) (fun c_8 => ?_)
    · -- to 18
      refine r_iconst C (3) dX9_source_18 (by decide) ?_
      refine r_iload_n C 1 dX9_source_19 rfl rfl ?_
      refine r_imul C dX9_source_20 ?_
      refine r_nm (P := fun z => z.toInt = 3 * (p : Int32).toInt ∧ z = (3) * (p)) ⟨ta_mulL k_3 (by omega), rfl⟩ (fun z_9 hz_10 => ?_)
      refine r_iload_n C 2 dX9_source_21 rfl rfl ?_
      refine r_iadd C dX9_source_22 ?_
      refine r_nm (P := fun z => z.toInt = (z_9 : Int32).toInt + (q : Int32).toInt ∧ z = (z_9) + (q)) ⟨ta_add (by omega), rfl⟩ (fun z_11 hz_12 => ?_)
      refine r_istore C [(4, .int (z_11)), (0, .ref (ad 39)), (1, .int (p)), (2, .int (q)), (3, .int (u))] dX9_source_23 (by decide) rfl ?_
      refine r_aload_n C 1 dX9_source_25 rfl rfl ?_
      refine r_get C (k := 39) (v := .ref (ad 45)) f_X9_26 (by decide) rfl rfl dX9_source_26 ?_
      refine r_iload C 0 dX9_source_29 rfl ?_
      refine r_zald C (k := 45) (by decide) rfl (by omega) (σ 45 ((z_11 : Int32).toInt.toNat)) rfl dX9_source_31 ?_
      refine r_istore C [(5, .int (σ 45 ((z_11 : Int32).toInt.toNat))), (4, .int (z_11)), (0, .ref (ad 39)), (1, .int (p)), (2, .int (q)), (3, .int (u))] dX9_source_32 (by decide) rfl ?_
      refine r_aload_n C 2 dX9_source_34 rfl rfl ?_
      refine r_get C (k := 39) (v := .ref (ad 45)) f_X9_26 (by decide) rfl rfl dX9_source_35 ?_
      refine r_iload C 1 dX9_source_38 rfl ?_
      refine r_iload_n C 5 dX9_source_40 rfl rfl ?_
      refine r_zast C (k := 45) (by decide) (fun _ => rfl) (by omega) (by omega) dX9_source_41 ?_
      have ek : (z_11 : Int32).toInt.toNat = (3 * p.toInt + q.toInt).toNat := by omega
      refine r_iload C 0 dX9_source_42 rfl ?_
      refine r_iload_n C 5 dX9_source_44 rfl rfl ?_
      refine r_icmp_ne C 52 dX9_source_45 (by decide) (fun c_14 => ?_) (fun c_14 => ?_)
      · -- to 52
        refine r_iconst C (1) dX9_source_52 (by decide) ?_
        exact r_iret C T dX9_source_53 (Or.inr ⟨by omega, by rw [ek], by rw [ek] at c_14; omega⟩)
      · -- to 48
        refine r_iconst C (0) dX9_source_48 (by decide) ?_
        refine r_goto C 53 dX9_source_49 (by decide) ?_
        exact r_iret C T dX9_source_53 (Or.inr ⟨by omega, by rw [ek], by rw [ek] at c_14; omega⟩)
    · -- to 16
      refine r_iconst C (-1) dX9_source_16 (by decide) ?_
      exact r_iret C T dX9_source_17 (Or.inl ⟨by omega, k_m1, rfl⟩)
set_option maxHeartbeats 4000000 in
set_option maxRecDepth 100000 in
theorem c_X9_turn (E : Ev) (ad : Nat → Nat) (σ : Sg) (p : Int32) (q : Int32) (hM : IM σ) (hq : q.toInt = 0 ∨ q.toInt = 1) : Ct E ad yX9_turn cX9_turn 4 (some .int) 3 [.ref (ad 39), .int p, .int q] σ (fun r τ => Off [44] σ τ ∧ ((σ 39 1).toInt = 0 → r.toInt = -1)) := by
  have k_m5 : (-5 : Int32).toInt = -5 := by decide
  have k_m1 : (-1 : Int32).toInt = -1 := by decide
  have k_0 : (0 : Int32).toInt = 0 := by decide
  have k_1 : (1 : Int32).toInt = 1 := by decide
  have hJ := hM
  unfold IM at hJ
  obtain ⟨n0, n1, n8, n17, n29, n39, n44, c40, c41, c42, c54, c58⟩ := hJ
  refine ct_of RX9 rfl (by decide +kernel) [(0, .ref (ad 39)), (1, .int (p)), (2, .int (q))] rfl (Nat.le_of_ble_eq_true rfl) (fun G C T => ?_)
  refine r_aload_n C 0 dX9_turn_0 rfl rfl ?_
  refine r_iload_n C 1 dX9_turn_1 rfl rfl ?_
  refine r_callV C (k := 39) [.int (p)] [] (c_X9_isFitting E ad σ  (p) hM) lv_X9_137 (by decide) rfl rfl (by decide) (by decide) rfl rfl (Nat.le_of_ble_eq_true rfl) dX9_turn_2 (fun r_1 τ_2 h_3 => ?_)
  obtain ⟨eh_3, h_3⟩ := h_3
  obtain rfl := eh_3.symm
  refine r_if_ne C 10 dX9_turn_5 (by decide) (fun c_4 => ?_) (fun c_4 => ?_)
  · -- to 10
    refine r_iload_n C 2 dX9_turn_10 rfl rfl ?_
    refine r_if_ne C 25 dX9_turn_11 (by decide) (fun c_5 => ?_) (fun c_5 => ?_)
    · -- to 25
      refine r_aload_n C 0 dX9_turn_25 rfl rfl ?_
      refine r_get C (k := 39) (v := .ref (ad 44)) f_X9_22 (by decide) rfl rfl dX9_turn_26 ?_
      refine r_iload_n C 1 dX9_turn_29 rfl rfl ?_
      refine r_zald C (k := 44) (by decide) rfl (by omega) (σ 44 ((p : Int32).toInt.toNat)) rfl dX9_turn_30 ?_
      refine r_istore_n C [(3, .int (σ 44 ((p : Int32).toInt.toNat))), (0, .ref (ad 39)), (1, .int (p)), (2, .int (q))] dX9_turn_31 rfl (by decide) rfl ?_
      refine r_aload_n C 1 dX9_turn_32 rfl rfl ?_
      refine r_get C (k := 39) (v := .ref (ad 44)) f_X9_22 (by decide) rfl rfl dX9_turn_33 ?_
      refine r_iload_n C 2 dX9_turn_36 rfl rfl ?_
      refine r_iload_n C 3 dX9_turn_37 rfl rfl ?_
      refine r_zast C (k := 44) (by decide) (fun _ => rfl) (by omega) (by omega) dX9_turn_38 ?_
      refine r_iload_n C 0 dX9_turn_39 rfl rfl ?_
      refine r_iload_n C 3 dX9_turn_40 rfl rfl ?_
      refine r_icmp_ne C 48 dX9_turn_41 (by decide) (fun c_7 => ?_) (fun c_7 => ?_)
      · -- to 48
        refine r_iconst C (1) dX9_turn_48 (by decide) ?_
        exact r_iret C T dX9_turn_49 (⟨Off.rf.up (by decide), fun h => absurd h (by omega)⟩)
      · -- to 44
        refine r_iconst C (0) dX9_turn_44 (by decide) ?_
        refine r_goto C 49 dX9_turn_45 (by decide) ?_
        exact r_iret C T dX9_turn_49 (⟨Off.rf.up (by decide), fun h => absurd h (by omega)⟩)
    · -- to 14
      refine r_aload_n C 0 dX9_turn_14 rfl rfl ?_
      refine r_iload_n C 1 dX9_turn_15 rfl rfl ?_
      refine r_callV C (k := 39) [.int (p)] [] (c_X9_locks E ad σ  (p) hM) lv_X9_129 (by decide) rfl rfl (by decide) (by decide) rfl rfl (Nat.le_of_ble_eq_true rfl) dX9_turn_16 (fun r_8 τ_9 h_10 => ?_)
      obtain ⟨eh_10, h_10⟩ := h_10
      obtain rfl := eh_10.symm
      refine r_if_le C 25 dX9_turn_19 (by decide) (fun c_11 => ?_) (fun c_11 => ?_)
      · -- to 25
        refine r_aload_n C 0 dX9_turn_25 rfl rfl ?_
        refine r_get C (k := 39) (v := .ref (ad 44)) f_X9_22 (by decide) rfl rfl dX9_turn_26 ?_
        refine r_iload_n C 1 dX9_turn_29 rfl rfl ?_
        refine r_zald C (k := 44) (by decide) rfl (by omega) (σ 44 ((p : Int32).toInt.toNat)) rfl dX9_turn_30 ?_
        refine r_istore_n C [(3, .int (σ 44 ((p : Int32).toInt.toNat))), (0, .ref (ad 39)), (1, .int (p)), (2, .int (q))] dX9_turn_31 rfl (by decide) rfl ?_
        refine r_aload_n C 1 dX9_turn_32 rfl rfl ?_
        refine r_get C (k := 39) (v := .ref (ad 44)) f_X9_22 (by decide) rfl rfl dX9_turn_33 ?_
        refine r_iload_n C 2 dX9_turn_36 rfl rfl ?_
        refine r_iload_n C 3 dX9_turn_37 rfl rfl ?_
        refine r_zast C (k := 44) (by decide) (fun _ => rfl) (by omega) (by omega) dX9_turn_38 ?_
        refine r_iload_n C 0 dX9_turn_39 rfl rfl ?_
        refine r_iload_n C 3 dX9_turn_40 rfl rfl ?_
        refine r_icmp_ne C 48 dX9_turn_41 (by decide) (fun c_13 => ?_) (fun c_13 => ?_)
        · -- to 48
          refine r_iconst C (1) dX9_turn_48 (by decide) ?_
          exact r_iret C T dX9_turn_49 (⟨Off.rf.up (by decide), fun h => absurd h (by omega)⟩)
        · -- to 44
          refine r_iconst C (0) dX9_turn_44 (by decide) ?_
          refine r_goto C 49 dX9_turn_45 (by decide) ?_
          exact r_iret C T dX9_turn_49 (⟨Off.rf.up (by decide), fun h => absurd h (by omega)⟩)
      · -- to 22
        refine r_bipush C (-5) dX9_turn_22 (by decide) ?_
        exact r_iret C T dX9_turn_24 (⟨Off.rf, fun h => absurd h (by omega)⟩)
  · -- to 8
    refine r_iconst C (-1) dX9_turn_8 (by decide) ?_
    exact r_iret C T dX9_turn_9 (⟨Off.rf, fun _ => k_m1⟩)
set_option maxHeartbeats 4000000 in
set_option maxRecDepth 100000 in
theorem c_X9_reach (E : Ev) (ad : Nat → Nat) (σ : Sg) (p : Int32) (q : Int32) (u : Int32) (v : Int32) (hM : IM σ) : CtV E ad yX9_reach cX9_reach 8 1 [.ref (ad 39), .int p, .int q, .int u, .int v] σ (fun τ => ∃ g, τ = sSet σ 65 g ∧ (∀ j, j < 10 → 0 ≤ (g j).toInt ∧ (g j).toInt ≤ 1000) ∧ ((σ 39 1).toInt = 0 → ∀ j, j < 10 → (g j).toInt = if (j : Int) = p.toInt then 0 else 1000) ∧ ((v.toInt ≠ 0 ∧ (0 ≤ p.toInt ∧ p.toInt < 10) ∧ ∀ k : Nat, (k : Int) < (σ 39 1).toInt → (σ 43 k).toInt ≤ u.toInt) → DF (σ 39 1).toInt (σ 40) (σ 41) g p.toInt)) := by
  have k_0 : (0 : Int32).toInt = 0 := by decide
  have k_1 : (1 : Int32).toInt = 1 := by decide
  have k_10 : (10 : Int32).toInt = 10 := by decide
  have k_1000 : (1000 : Int32).toInt = 1000 := by decide
  have hJ := hM
  unfold IM at hJ
  obtain ⟨n0, n1, n8, n17, n29, n39, n44, c40, c41, c42, c54, c58⟩ := hJ
  refine ctv_of RX9 rfl (by decide +kernel) [(0, .ref (ad 39)), (1, .int (p)), (2, .int (q)), (3, .int (u)), (4, .int (v))] rfl (Nat.le_of_ble_eq_true rfl) (fun G C T => ?_)
  refine r_iconst C (0) dX9_reach_0 (by decide) ?_
  refine r_istore C [(5, .int (0)), (0, .ref (ad 39)), (1, .int (p)), (2, .int (q)), (3, .int (u)), (4, .int (v))] dX9_reach_1 (by decide) rfl ?_
  have L_3 : ∀ (n : Nat), ∀ (τ1 : Sg) (i : Int32), (0 ≤ i.toInt ∧ i.toInt ≤ 10) → (Off [65] σ τ1) → (∀ j : Nat, (j : Int) < i.toInt → (τ1 65 j).toInt = if (j : Int) = p.toInt then 0 else 1000) → 10 - i.toInt < (n : Int) → At E ad G 8 3 [(5, .int (i)), (0, .ref (ad 39)), (1, .int (p)), (2, .int (q)), (3, .int (u)), (4, .int (v))] [] τ1 := by
    intro n
    induction n with
    | zero =>
      intro τ1 i hi hoτ1 h1 hm
      exact absurd hm (by omega)
    | succ n ih =>
      intro τ1 i hi hoτ1 h1 hm
      have ih_3 := ih
      clear ih
      refine r_iload C 0 dX9_reach_3 rfl ?_
      refine r_bipush C (10) dX9_reach_5 (by decide) ?_
      refine r_icmp_ge C 36 dX9_reach_7 (by decide) (fun c_1 => ?_) (fun c_1 => ?_)
      · -- to 36
        refine r_iconst C (1) dX9_reach_36 (by decide) ?_
        refine r_istore C [(5, .int (1)), (0, .ref (ad 39)), (1, .int (p)), (2, .int (q)), (3, .int (u)), (4, .int (v))] dX9_reach_37 (by decide) rfl ?_
        have L_39 : ∀ (n : Nat), ∀ (τ2 : Sg) (m : Int32), (Off [65] σ τ2) → (∀ j, j < 10 → 0 ≤ (τ2 65 j).toInt ∧ (τ2 65 j).toInt ≤ 1000) → (0 ≤ fs10 (τ2 65) ∧ 0 ≤ m.toInt ∧ m.toInt ≤ 1) → ((σ 39 1).toInt = 0 → ∀ j, j < 10 → (τ2 65 j).toInt = if (j : Int) = p.toInt then 0 else 1000) → ((v.toInt ≠ 0 ∧ (0 ≤ p.toInt ∧ p.toInt < 10) ∧ ∀ k : Nat, (k : Int) < (σ 39 1).toInt → (σ 43 k).toInt ≤ u.toInt) → AC (σ 39 1).toInt (σ 40) (σ 41) (τ2 65) p.toInt) → ((v.toInt ≠ 0 ∧ (0 ≤ p.toInt ∧ p.toInt < 10) ∧ ∀ k : Nat, (k : Int) < (σ 39 1).toInt → (σ 43 k).toInt ≤ u.toInt) → m.toInt = 0 → ∀ k : Nat, (k : Int) < (σ 39 1).toInt → FX (σ 40) (σ 41) (τ2 65) k) → fs10 (τ2 65) + m.toInt < (n : Int) → At E ad G 8 39 [(5, .int (m)), (0, .ref (ad 39)), (1, .int (p)), (2, .int (q)), (3, .int (u)), (4, .int (v))] [] τ2 := by
          intro n
          induction n with
          | zero =>
            intro τ2 m hoτ2 hbτ2 hs2 hfτ2 haτ2 hxτ2 hm
            exact absurd hm (by omega)
          | succ n ih =>
            intro τ2 m hoτ2 hbτ2 hs2 hfτ2 haτ2 hxτ2 hm
            have ih_39 := ih
            clear ih
            refine r_iload C 0 dX9_reach_39 rfl ?_
            refine r_if_eq C 243 dX9_reach_41 (by decide) (fun c_2 => ?_) (fun c_2 => ?_)
            · -- to 243
              exact r_vret C T dX9_reach_243 (⟨τ2 65, off65 hoτ2, hbτ2, hfτ2, fun hh => ⟨haτ2 hh, hxτ2 hh c_2⟩⟩)
            · -- to 44
              refine r_iconst C (0) dX9_reach_44 (by decide) ?_
              refine r_istore C [(5, .int (0)), (0, .ref (ad 39)), (1, .int (p)), (2, .int (q)), (3, .int (u)), (4, .int (v))] dX9_reach_45 (by decide) rfl ?_
              refine r_iconst C (0) dX9_reach_47 (by decide) ?_
              refine r_istore C [(6, .int (0)), (5, .int (0)), (0, .ref (ad 39)), (1, .int (p)), (2, .int (q)), (3, .int (u)), (4, .int (v))] dX9_reach_48 (by decide) rfl ?_
              have L_50 : ∀ (n : Nat), ∀ (τ3 : Sg) (m3 : Int32) (i : Int32), (0 ≤ i.toInt ∧ i.toInt ≤ 12) → (Off [65] σ τ3) → (∀ j, j < 10 → 0 ≤ (τ3 65 j).toInt ∧ (τ3 65 j).toInt ≤ 1000) → (0 ≤ m3.toInt ∧ m3.toInt ≤ 1) → (fs10 (τ3 65) + m3.toInt ≤ fs10 (τ2 65)) → ((σ 39 1).toInt = 0 → ∀ j, j < 10 → (τ3 65 j).toInt = if (j : Int) = p.toInt then 0 else 1000) → ((v.toInt ≠ 0 ∧ (0 ≤ p.toInt ∧ p.toInt < 10) ∧ ∀ k : Nat, (k : Int) < (σ 39 1).toInt → (σ 43 k).toInt ≤ u.toInt) → AC (σ 39 1).toInt (σ 40) (σ 41) (τ3 65) p.toInt) → ((v.toInt ≠ 0 ∧ (0 ≤ p.toInt ∧ p.toInt < 10) ∧ ∀ k : Nat, (k : Int) < (σ 39 1).toInt → (σ 43 k).toInt ≤ u.toInt) → m3.toInt = 0 → ∀ k : Nat, (k : Int) < i.toInt → FX (σ 40) (σ 41) (τ3 65) k) → 12 - i.toInt < (n : Int) → At E ad G 8 50 [(6, .int (i)), (5, .int (m3)), (0, .ref (ad 39)), (1, .int (p)), (2, .int (q)), (3, .int (u)), (4, .int (v))] [] τ3 := by
                intro n
                induction n with
                | zero =>
                  intro τ3 m3 i hi hoτ3 hbτ3 hmτ3 hnτ3 hfτ3 haτ3 hxτ3 hm
                  exact absurd hm (by omega)
                | succ n ih =>
                  intro τ3 m3 i hi hoτ3 hbτ3 hmτ3 hnτ3 hfτ3 haτ3 hxτ3 hm
                  have ih_50 := ih
                  clear ih
                  have e1 : (τ3 39 1).toInt = (σ 39 1).toInt := by rw [hoτ3 39 (by decide)]
                  refine r_iload C 0 dX9_reach_50 rfl ?_
                  refine r_aload_n C 2 dX9_reach_52 rfl rfl ?_
                  refine r_get C (k := 39) (v := .int (τ3 39 1)) f_X9_101 (by decide) rfl rfl dX9_reach_53 ?_
                  refine r_icmp_ge C 240 dX9_reach_56 (by decide) (fun c_3 => ?_) (fun c_3 => ?_)
                  · -- to 240
                    refine r_goto C 39 dX9_reach_240 (by decide) ?_
                    exact At.sub [1, 2, 3, 4, 5, 6] rfl (ih_39 τ3 (m3 : Int32) hoτ3 hbτ3 ⟨fs_nn hbτ3, hmτ3⟩ hfτ3 haτ3 (fun hh hm0 k hk => hxτ3 hh hm0 k (by omega)) (by omega))
                  · -- to 59
                    have L_90 : ∀ (b : Int32), (0 ≤ b.toInt ∧ b.toInt ≤ 3) → (v.toInt ≠ 0 → b.toInt = 1) → At E ad G 8 90 [(6, .int (i)), (5, .int (m3)), (0, .ref (ad 39)), (1, .int (p)), (2, .int (q)), (3, .int (u)), (4, .int (v))] [.int (b)] τ3 := by
                      intro b hb90 hb1
                      refine r_istore C [(7, .int (b)), (6, .int (i)), (5, .int (m3)), (0, .ref (ad 39)), (1, .int (p)), (2, .int (q)), (3, .int (u)), (4, .int (v))] dX9_reach_90 (by decide) rfl ?_
                      have L_163 : ∀ (τ4 : Sg) (m4 : Int32), (Off [65] σ τ4) → (∀ j, j < 10 → 0 ≤ (τ4 65 j).toInt ∧ (τ4 65 j).toInt ≤ 1000) → (0 ≤ m4.toInt ∧ m4.toInt ≤ 1) → (fs10 (τ4 65) + m4.toInt ≤ fs10 (τ2 65)) → ((σ 39 1).toInt = 0 → ∀ j, j < 10 → (τ4 65 j).toInt = if (j : Int) = p.toInt then 0 else 1000) → ((v.toInt ≠ 0 ∧ (0 ≤ p.toInt ∧ p.toInt < 10) ∧ ∀ k : Nat, (k : Int) < (σ 39 1).toInt → (σ 43 k).toInt ≤ u.toInt) → AC (σ 39 1).toInt (σ 40) (σ 41) (τ4 65) p.toInt) → ((v.toInt ≠ 0 ∧ (0 ≤ p.toInt ∧ p.toInt < 10) ∧ ∀ k : Nat, (k : Int) < (σ 39 1).toInt → (σ 43 k).toInt ≤ u.toInt) → m4.toInt = 0 → (∀ k : Nat, (k : Int) < i.toInt → FX (σ 40) (σ 41) (τ4 65) k) ∧ (τ4 65 (σ 41 i.toInt.toNat).toInt.toNat).toInt ≤ (τ4 65 (σ 40 i.toInt.toNat).toInt.toNat).toInt + 1) → At E ad G 8 163 [(7, .int (b)), (6, .int (i)), (5, .int (m4)), (0, .ref (ad 39)), (1, .int (p)), (2, .int (q)), (3, .int (u)), (4, .int (v))] [] τ4 := by
                        intro τ4 m4 hoτ4 hbτ4 hmτ4 hnτ4 hfτ4 haτ4 hxτ4
                        have L_234 : ∀ (τ5 : Sg) (m5 : Int32), (Off [65] σ τ5) → (∀ j, j < 10 → 0 ≤ (τ5 65 j).toInt ∧ (τ5 65 j).toInt ≤ 1000) → (0 ≤ m5.toInt ∧ m5.toInt ≤ 1) → (fs10 (τ5 65) + m5.toInt ≤ fs10 (τ2 65)) → ((σ 39 1).toInt = 0 → ∀ j, j < 10 → (τ5 65 j).toInt = if (j : Int) = p.toInt then 0 else 1000) → ((v.toInt ≠ 0 ∧ (0 ≤ p.toInt ∧ p.toInt < 10) ∧ ∀ k : Nat, (k : Int) < (σ 39 1).toInt → (σ 43 k).toInt ≤ u.toInt) → AC (σ 39 1).toInt (σ 40) (σ 41) (τ5 65) p.toInt) → ((v.toInt ≠ 0 ∧ (0 ≤ p.toInt ∧ p.toInt < 10) ∧ ∀ k : Nat, (k : Int) < (σ 39 1).toInt → (σ 43 k).toInt ≤ u.toInt) → m5.toInt = 0 → (∀ k : Nat, (k : Int) < i.toInt → FX (σ 40) (σ 41) (τ5 65) k) ∧ FX (σ 40) (σ 41) (τ5 65) i.toInt.toNat) → At E ad G 8 234 [(7, .int (b)), (6, .int (i)), (5, .int (m5)), (0, .ref (ad 39)), (1, .int (p)), (2, .int (q)), (3, .int (u)), (4, .int (v))] [] τ5 := by
                          intro τ5 m5 hoτ5 hbτ5 hmτ5 hnτ5 hfτ5 haτ5 hxτ5
                          refine r_iinc C 1 (fun z => [(6, .int (z)), (7, .int (b)), (5, .int (m5)), (0, .ref (ad 39)), (1, .int (p)), (2, .int (q)), (3, .int (u)), (4, .int (v))]) dX9_reach_234 rfl (by decide) (by decide) (by omega) (fun _ => rfl) (fun z_4 hz_5 => ?_)
                          refine r_goto C 50 dX9_reach_237 (by decide) ?_
                          exact At.sub [0, 2, 3, 4, 5, 6, 7] rfl (ih_50 τ5 (m5 : Int32) (z_4 : Int32) (by omega) hoτ5 hbτ5 hmτ5 hnτ5 hfτ5 haτ5 (fun hh hm0 k hk => by
                              have t := hxτ5 hh hm0
                              by_cases e : k = i.toInt.toNat
                              · rw [e]; exact t.2
                              · exact t.1 k (by omega)) (by omega))
                        refine r_aload_n C 3 dX9_reach_163 rfl rfl ?_
                        refine r_get C (k := 39) (v := .ref (ad 43)) f_X9_19 (by decide) rfl rfl dX9_reach_164 ?_
                        refine r_iload C 1 dX9_reach_167 rfl ?_
                        refine r_iald C (k := 43) (by decide) rfl (by omega) (τ4 43 ((i : Int32).toInt.toNat)) rfl dX9_reach_169 ?_
                        refine r_iload_n C 6 dX9_reach_170 rfl rfl ?_
                        refine r_icmp_gt C 234 dX9_reach_171 (by decide) (fun c_7 => ?_) (fun c_7 => ?_)
                        · -- to 234
                          exact At.sub [0, 1, 2, 3, 4, 5, 6, 7] rfl (L_234 τ4 (m4 : Int32) hoτ4 hbτ4 hmτ4 hnτ4 hfτ4 haτ4 (fun hh => absurd (hh.2.2 i.toInt.toNat (by omega)) (by rw [← hoτ4 43 (by decide)]; omega)))
                        · -- to 174
                          refine r_aload_n C 3 dX9_reach_174 rfl rfl ?_
                          refine r_get C (k := 39) (v := .ref (ad 65)) f_X9_86 (by decide) rfl rfl dX9_reach_175 ?_
                          refine r_aload_n C 3 dX9_reach_178 rfl rfl ?_
                          refine r_get C (k := 39) (v := .ref (ad 41)) f_X9_13 (by decide) rfl rfl dX9_reach_179 ?_
                          refine r_iload C 1 dX9_reach_182 rfl ?_
                          refine r_iald C (k := 41) (by decide) rfl (by omega) (τ4 41 ((i : Int32).toInt.toNat)) rfl dX9_reach_184 ?_
                          have q_8 := c41 ((i : Int32).toInt.toNat) (by omega)
                          rw [← hoτ4 41 (by decide)] at q_8
                          refine r_iald C (k := 65) (by decide) rfl (by omega) (τ4 65 ((τ4 41 ((i : Int32).toInt.toNat) : Int32).toInt.toNat)) rfl dX9_reach_185 ?_
                          have q_9 := hbτ4 ((τ4 41 ((i : Int32).toInt.toNat) : Int32).toInt.toNat) (by omega)
                          refine r_iload C 0 dX9_reach_186 rfl ?_
                          refine r_iadd C dX9_reach_188 ?_
                          refine r_nm (P := fun z => z.toInt = (τ4 65 ((τ4 41 ((i : Int32).toInt.toNat) : Int32).toInt.toNat) : Int32).toInt + (b : Int32).toInt ∧ z = (τ4 65 ((τ4 41 ((i : Int32).toInt.toNat) : Int32).toInt.toNat)) + (b)) ⟨ta_add (by omega), rfl⟩ (fun z_10 hz_11 => ?_)
                          refine r_aload_n C 3 dX9_reach_189 rfl rfl ?_
                          refine r_get C (k := 39) (v := .ref (ad 65)) f_X9_86 (by decide) rfl rfl dX9_reach_190 ?_
                          refine r_aload_n C 3 dX9_reach_193 rfl rfl ?_
                          refine r_get C (k := 39) (v := .ref (ad 40)) f_X9_7 (by decide) rfl rfl dX9_reach_194 ?_
                          refine r_iload C 1 dX9_reach_197 rfl ?_
                          refine r_iald C (k := 40) (by decide) rfl (by omega) (τ4 40 ((i : Int32).toInt.toNat)) rfl dX9_reach_199 ?_
                          have q_12 := c40 ((i : Int32).toInt.toNat) (by omega)
                          rw [← hoτ4 40 (by decide)] at q_12
                          refine r_iald C (k := 65) (by decide) rfl (by omega) (τ4 65 ((τ4 40 ((i : Int32).toInt.toNat) : Int32).toInt.toNat)) rfl dX9_reach_200 ?_
                          have q_13 := hbτ4 ((τ4 40 ((i : Int32).toInt.toNat) : Int32).toInt.toNat) (by omega)
                          refine r_icmp_ge C 234 dX9_reach_201 (by decide) (fun c_14 => ?_) (fun c_14 => ?_)
                          · -- to 234
                            exact At.sub [0, 1, 2, 3, 4, 5, 6, 7] rfl (L_234 τ4 (m4 : Int32) hoτ4 hbτ4 hmτ4 hnτ4 hfτ4 haτ4 (fun hh hm0 => ⟨(hxτ4 hh hm0).1, (hxτ4 hh hm0).2, by have t := hb1 hh.1; rw [← hoτ4 40 (by decide), ← hoτ4 41 (by decide)]; omega⟩))
                          · -- to 204
                            refine r_aload_n C 3 dX9_reach_204 rfl rfl ?_
                            refine r_get C (k := 39) (v := .ref (ad 65)) f_X9_86 (by decide) rfl rfl dX9_reach_205 ?_
                            refine r_aload_n C 3 dX9_reach_208 rfl rfl ?_
                            refine r_get C (k := 39) (v := .ref (ad 40)) f_X9_7 (by decide) rfl rfl dX9_reach_209 ?_
                            refine r_iload C 1 dX9_reach_212 rfl ?_
                            refine r_iald C (k := 40) (by decide) rfl (by omega) (τ4 40 ((i : Int32).toInt.toNat)) rfl dX9_reach_214 ?_
                            have q_15 := c40 ((i : Int32).toInt.toNat) (by omega)
                            rw [← hoτ4 40 (by decide)] at q_15
                            refine r_aload_n C 3 dX9_reach_215 rfl rfl ?_
                            refine r_get C (k := 39) (v := .ref (ad 65)) f_X9_86 (by decide) rfl rfl dX9_reach_216 ?_
                            refine r_aload_n C 3 dX9_reach_219 rfl rfl ?_
                            refine r_get C (k := 39) (v := .ref (ad 41)) f_X9_13 (by decide) rfl rfl dX9_reach_220 ?_
                            refine r_iload C 1 dX9_reach_223 rfl ?_
                            refine r_iald C (k := 41) (by decide) rfl (by omega) (τ4 41 ((i : Int32).toInt.toNat)) rfl dX9_reach_225 ?_
                            have q_16 := c41 ((i : Int32).toInt.toNat) (by omega)
                            rw [← hoτ4 41 (by decide)] at q_16
                            refine r_iald C (k := 65) (by decide) rfl (by omega) (τ4 65 ((τ4 41 ((i : Int32).toInt.toNat) : Int32).toInt.toNat)) rfl dX9_reach_226 ?_
                            have q_17 := hbτ4 ((τ4 41 ((i : Int32).toInt.toNat) : Int32).toInt.toNat) (by omega)
                            refine r_iload C 0 dX9_reach_227 rfl ?_
                            refine r_iadd C dX9_reach_229 ?_
                            refine r_nm (P := fun z => z.toInt = (τ4 65 ((τ4 41 ((i : Int32).toInt.toNat) : Int32).toInt.toNat) : Int32).toInt + (b : Int32).toInt ∧ z = (τ4 65 ((τ4 41 ((i : Int32).toInt.toNat) : Int32).toInt.toNat)) + (b)) ⟨ta_add (by omega), rfl⟩ (fun z_18 hz_19 => ?_)
                            refine r_iast C (k := 65) (by decide) (fun _ => rfl) (by omega) dX9_reach_230 ?_
                            refine r_iconst C (1) dX9_reach_231 (by decide) ?_
                            refine r_istore C [(5, .int (1)), (7, .int (b)), (6, .int (i)), (0, .ref (ad 39)), (1, .int (p)), (2, .int (q)), (3, .int (u)), (4, .int (v))] dX9_reach_232 (by decide) rfl ?_
                            exact At.sub [1, 2, 0, 3, 4, 5, 6, 7] rfl (L_234 (sUp τ4 65 ((τ4 40 ((i : Int32).toInt.toNat) : Int32).toInt.toNat) (z_18)) (1 : Int32) (hoτ4.up (by decide)) (by intro j hj; rw [sUp_eq]; exact bd_upd hbτ4 (by omega) j hj) (by omega) (by rw [sUp_eq, fs_upd (by omega)]; omega) (fun h => absurd h (by omega)) (fun hh => by
                                have t1 := hb1 hh.1
                                rw [sUp_eq]
                                exact AC_up (k := i.toInt.toNat) (y := (τ4 41 i.toInt.toNat).toInt.toNat) (haτ4 hh) (by omega) hh.2.1 (by omega) (Or.inr ⟨by rw [← hoτ4 41 (by decide)]; omega, by rw [← hoτ4 40 (by decide)]; omega⟩) (by omega) (by omega)) (fun _ h => absurd h (by omega)))
                      refine r_aload_n C 3 dX9_reach_92 rfl rfl ?_
                      refine r_get C (k := 39) (v := .ref (ad 43)) f_X9_19 (by decide) rfl rfl dX9_reach_93 ?_
                      refine r_iload C 1 dX9_reach_96 rfl ?_
                      refine r_iald C (k := 43) (by decide) rfl (by omega) (τ3 43 ((i : Int32).toInt.toNat)) rfl dX9_reach_98 ?_
                      refine r_iload_n C 6 dX9_reach_99 rfl rfl ?_
                      refine r_icmp_gt C 163 dX9_reach_100 (by decide) (fun c_21 => ?_) (fun c_21 => ?_)
                      · -- to 163
                        exact At.sub [0, 1, 2, 3, 4, 5, 6, 7] rfl (L_163 τ3 (m3 : Int32) hoτ3 hbτ3 hmτ3 hnτ3 hfτ3 haτ3 (fun hh => absurd (hh.2.2 i.toInt.toNat (by omega)) (by rw [← hoτ3 43 (by decide)]; omega)))
                      · -- to 103
                        refine r_aload_n C 3 dX9_reach_103 rfl rfl ?_
                        refine r_get C (k := 39) (v := .ref (ad 65)) f_X9_86 (by decide) rfl rfl dX9_reach_104 ?_
                        refine r_aload_n C 3 dX9_reach_107 rfl rfl ?_
                        refine r_get C (k := 39) (v := .ref (ad 40)) f_X9_7 (by decide) rfl rfl dX9_reach_108 ?_
                        refine r_iload C 1 dX9_reach_111 rfl ?_
                        refine r_iald C (k := 40) (by decide) rfl (by omega) (τ3 40 ((i : Int32).toInt.toNat)) rfl dX9_reach_113 ?_
                        have q_22 := c40 ((i : Int32).toInt.toNat) (by omega)
                        rw [← hoτ3 40 (by decide)] at q_22
                        refine r_iald C (k := 65) (by decide) rfl (by omega) (τ3 65 ((τ3 40 ((i : Int32).toInt.toNat) : Int32).toInt.toNat)) rfl dX9_reach_114 ?_
                        have q_23 := hbτ3 ((τ3 40 ((i : Int32).toInt.toNat) : Int32).toInt.toNat) (by omega)
                        refine r_iload C 0 dX9_reach_115 rfl ?_
                        refine r_iadd C dX9_reach_117 ?_
                        refine r_nm (P := fun z => z.toInt = (τ3 65 ((τ3 40 ((i : Int32).toInt.toNat) : Int32).toInt.toNat) : Int32).toInt + (b : Int32).toInt ∧ z = (τ3 65 ((τ3 40 ((i : Int32).toInt.toNat) : Int32).toInt.toNat)) + (b)) ⟨ta_add (by omega), rfl⟩ (fun z_24 hz_25 => ?_)
                        refine r_aload_n C 3 dX9_reach_118 rfl rfl ?_
                        refine r_get C (k := 39) (v := .ref (ad 65)) f_X9_86 (by decide) rfl rfl dX9_reach_119 ?_
                        refine r_aload_n C 3 dX9_reach_122 rfl rfl ?_
                        refine r_get C (k := 39) (v := .ref (ad 41)) f_X9_13 (by decide) rfl rfl dX9_reach_123 ?_
                        refine r_iload C 1 dX9_reach_126 rfl ?_
                        refine r_iald C (k := 41) (by decide) rfl (by omega) (τ3 41 ((i : Int32).toInt.toNat)) rfl dX9_reach_128 ?_
                        have q_26 := c41 ((i : Int32).toInt.toNat) (by omega)
                        rw [← hoτ3 41 (by decide)] at q_26
                        refine r_iald C (k := 65) (by decide) rfl (by omega) (τ3 65 ((τ3 41 ((i : Int32).toInt.toNat) : Int32).toInt.toNat)) rfl dX9_reach_129 ?_
                        have q_27 := hbτ3 ((τ3 41 ((i : Int32).toInt.toNat) : Int32).toInt.toNat) (by omega)
                        refine r_icmp_ge C 163 dX9_reach_130 (by decide) (fun c_28 => ?_) (fun c_28 => ?_)
                        · -- to 163
                          exact At.sub [0, 1, 2, 3, 4, 5, 6, 7] rfl (L_163 τ3 (m3 : Int32) hoτ3 hbτ3 hmτ3 hnτ3 hfτ3 haτ3 (fun hh hm0 => ⟨hxτ3 hh hm0, by have t := hb1 hh.1; rw [← hoτ3 40 (by decide), ← hoτ3 41 (by decide)]; omega⟩))
                        · -- to 133
                          refine r_aload_n C 3 dX9_reach_133 rfl rfl ?_
                          refine r_get C (k := 39) (v := .ref (ad 65)) f_X9_86 (by decide) rfl rfl dX9_reach_134 ?_
                          refine r_aload_n C 3 dX9_reach_137 rfl rfl ?_
                          refine r_get C (k := 39) (v := .ref (ad 41)) f_X9_13 (by decide) rfl rfl dX9_reach_138 ?_
                          refine r_iload C 1 dX9_reach_141 rfl ?_
                          refine r_iald C (k := 41) (by decide) rfl (by omega) (τ3 41 ((i : Int32).toInt.toNat)) rfl dX9_reach_143 ?_
                          have q_29 := c41 ((i : Int32).toInt.toNat) (by omega)
                          rw [← hoτ3 41 (by decide)] at q_29
                          refine r_aload_n C 3 dX9_reach_144 rfl rfl ?_
                          refine r_get C (k := 39) (v := .ref (ad 65)) f_X9_86 (by decide) rfl rfl dX9_reach_145 ?_
                          refine r_aload_n C 3 dX9_reach_148 rfl rfl ?_
                          refine r_get C (k := 39) (v := .ref (ad 40)) f_X9_7 (by decide) rfl rfl dX9_reach_149 ?_
                          refine r_iload C 1 dX9_reach_152 rfl ?_
                          refine r_iald C (k := 40) (by decide) rfl (by omega) (τ3 40 ((i : Int32).toInt.toNat)) rfl dX9_reach_154 ?_
                          have q_30 := c40 ((i : Int32).toInt.toNat) (by omega)
                          rw [← hoτ3 40 (by decide)] at q_30
                          refine r_iald C (k := 65) (by decide) rfl (by omega) (τ3 65 ((τ3 40 ((i : Int32).toInt.toNat) : Int32).toInt.toNat)) rfl dX9_reach_155 ?_
                          have q_31 := hbτ3 ((τ3 40 ((i : Int32).toInt.toNat) : Int32).toInt.toNat) (by omega)
                          refine r_iload C 0 dX9_reach_156 rfl ?_
                          refine r_iadd C dX9_reach_158 ?_
                          refine r_nm (P := fun z => z.toInt = (τ3 65 ((τ3 40 ((i : Int32).toInt.toNat) : Int32).toInt.toNat) : Int32).toInt + (b : Int32).toInt ∧ z = (τ3 65 ((τ3 40 ((i : Int32).toInt.toNat) : Int32).toInt.toNat)) + (b)) ⟨ta_add (by omega), rfl⟩ (fun z_32 hz_33 => ?_)
                          refine r_iast C (k := 65) (by decide) (fun _ => rfl) (by omega) dX9_reach_159 ?_
                          refine r_iconst C (1) dX9_reach_160 (by decide) ?_
                          refine r_istore C [(5, .int (1)), (7, .int (b)), (6, .int (i)), (0, .ref (ad 39)), (1, .int (p)), (2, .int (q)), (3, .int (u)), (4, .int (v))] dX9_reach_161 (by decide) rfl ?_
                          exact At.sub [1, 2, 0, 3, 4, 5, 6, 7] rfl (L_163 (sUp τ3 65 ((τ3 41 ((i : Int32).toInt.toNat) : Int32).toInt.toNat) (z_32)) (1 : Int32) (hoτ3.up (by decide)) (by intro j hj; rw [sUp_eq]; exact bd_upd hbτ3 (by omega) j hj) (by omega) (by rw [sUp_eq, fs_upd (by omega)]; omega) (fun h => absurd h (by omega)) (fun hh => by
                              have t1 := hb1 hh.1
                              rw [sUp_eq]
                              exact AC_up (k := i.toInt.toNat) (y := (τ3 40 i.toInt.toNat).toInt.toNat) (haτ3 hh) (by omega) hh.2.1 (by omega) (Or.inl ⟨by rw [← hoτ3 40 (by decide)]; omega, by rw [← hoτ3 41 (by decide)]; omega⟩) (by omega) (by omega)) (fun _ h => absurd h (by omega)))
                    refine r_iload C 6 dX9_reach_59 rfl ?_
                    refine r_if_eq C 68 dX9_reach_61 (by decide) (fun c_34 => ?_) (fun c_34 => ?_)
                    · -- to 68
                      refine r_iload_n C 4 dX9_reach_68 rfl rfl ?_
                      refine r_iload C 0 dX9_reach_69 rfl ?_
                      refine r_callS C [.int (q), .int (i)] [] (c_X9_has E ad τ3  (q) (i) ) ls_X9_125 (by decide) (by decide) rfl rfl (Nat.le_of_ble_eq_true rfl) dX9_reach_71 (fun r_35 τ_36 h_37 => ?_)
                      obtain ⟨eh_37, h_37⟩ := h_37
                      obtain rfl := eh_37.symm
                      refine r_if_eq C 89 dX9_reach_74 (by decide) (fun c_38 => ?_) (fun c_38 => ?_)
                      · -- to 89
                        refine r_iconst C (0) dX9_reach_89 (by decide) ?_
                        exact At.sub [0, 1, 2, 3, 4, 5, 6] rfl (L_90 (0 : Int32) (by omega) (by omega))
                      · -- to 77
                        refine r_iconst C (1) dX9_reach_77 (by decide) ?_
                        refine r_aload_n C 2 dX9_reach_78 rfl rfl ?_
                        refine r_get C (k := 39) (v := .ref (ad 42)) f_X9_16 (by decide) rfl rfl dX9_reach_79 ?_
                        refine r_iload C 0 dX9_reach_82 rfl ?_
                        refine r_iald C (k := 42) (by decide) rfl (by omega) (τ3 42 ((i : Int32).toInt.toNat)) rfl dX9_reach_84 ?_
                        have q_39 := c42 ((i : Int32).toInt.toNat) (by omega)
                        rw [← hoτ3 42 (by decide)] at q_39
                        refine r_iadd C dX9_reach_85 ?_
                        refine r_nm (P := fun z => z.toInt = (1 : Int32).toInt + (τ3 42 ((i : Int32).toInt.toNat) : Int32).toInt ∧ z = (1) + (τ3 42 ((i : Int32).toInt.toNat))) ⟨ta_add (by omega), rfl⟩ (fun z_40 hz_41 => ?_)
                        refine r_goto C 90 dX9_reach_86 (by decide) ?_
                        exact At.sub [0, 1, 2, 3, 4, 5, 6] rfl (L_90 (z_40 : Int32) (by omega) (by omega))
                    · -- to 64
                      refine r_iconst C (1) dX9_reach_64 (by decide) ?_
                      refine r_goto C 90 dX9_reach_65 (by decide) ?_
                      exact At.sub [0, 1, 2, 3, 4, 5, 6] rfl (L_90 (1 : Int32) (by omega) (by omega))
              exact At.sub [0, 1, 2, 3, 4, 5, 6] rfl (L_50 ((12 - (0 : Int32).toInt).toNat + 1) τ2 (0 : Int32) (0 : Int32) (by omega) hoτ2 hbτ2 (by omega) (by omega) hfτ2 haτ2 (fun _ _ k hk => absurd hk (by omega)) (by omega))
        exact At.sub [0, 1, 2, 3, 4, 5] rfl (L_39 ((fs10 (τ1 65) + (1 : Int32).toInt).toNat + 1) τ1 (1 : Int32) hoτ1 (fun j hj => by have t := h1 j (by omega); split at t <;> omega) ⟨fs_nn (fun j hj => by have t := h1 j (by omega); split at t <;> omega), by omega⟩ (fun _ j hj => h1 j (by omega)) (fun hh => AC_ini hh.2.1 (fun j hj => h1 j (by omega))) (fun _ h => absurd h (by omega)) (by omega))
      · -- to 10
        refine r_aload_n C 1 dX9_reach_10 rfl rfl ?_
        refine r_get C (k := 39) (v := .ref (ad 65)) f_X9_86 (by decide) rfl rfl dX9_reach_11 ?_
        refine r_iload C 0 dX9_reach_14 rfl ?_
        refine r_iload C 0 dX9_reach_16 rfl ?_
        refine r_iload_n C 2 dX9_reach_18 rfl rfl ?_
        refine r_icmp_ne C 26 dX9_reach_19 (by decide) (fun c_42 => ?_) (fun c_42 => ?_)
        · -- to 26
          refine r_sipush C (1000) dX9_reach_26 (by decide) ?_
          refine r_iast C (k := 65) (by decide) (fun _ => rfl) (by omega) dX9_reach_29 ?_
          refine r_iinc C 0 (fun z => [(5, .int (z)), (0, .ref (ad 39)), (1, .int (p)), (2, .int (q)), (3, .int (u)), (4, .int (v))]) dX9_reach_30 rfl (by decide) (by decide) (by omega) (fun _ => rfl) (fun z_43 hz_44 => ?_)
          refine r_goto C 3 dX9_reach_33 (by decide) ?_
          exact At.sub [0, 1, 2, 3, 4, 5] rfl (ih_3 (sUp τ1 65 ((i : Int32).toInt.toNat) (1000)) (z_43 : Int32) (by omega) (hoτ1.up (by decide)) (by intro j hj; rw [sUp_eq]; unfold upd; split; (rename_i e; split <;> omega); (exact h1 j (by omega))) (by omega))
        · -- to 22
          refine r_iconst C (0) dX9_reach_22 (by decide) ?_
          refine r_goto C 29 dX9_reach_23 (by decide) ?_
          refine r_iast C (k := 65) (by decide) (fun _ => rfl) (by omega) dX9_reach_29 ?_
          refine r_iinc C 0 (fun z => [(5, .int (z)), (0, .ref (ad 39)), (1, .int (p)), (2, .int (q)), (3, .int (u)), (4, .int (v))]) dX9_reach_30 rfl (by decide) (by decide) (by omega) (fun _ => rfl) (fun z_45 hz_46 => ?_)
          refine r_goto C 3 dX9_reach_33 (by decide) ?_
          exact At.sub [0, 1, 2, 3, 4, 5] rfl (ih_3 (sUp τ1 65 ((i : Int32).toInt.toNat) (0)) (z_45 : Int32) (by omega) (hoτ1.up (by decide)) (by intro j hj; rw [sUp_eq]; unfold upd; split; (rename_i e; split <;> omega); (exact h1 j (by omega))) (by omega))
  exact At.sub [0, 1, 2, 3, 4, 5] rfl (L_3 ((10 - (0 : Int32).toInt).toNat + 1) σ (0 : Int32) (by omega) Off.rf (fun j hj => absurd hj (by omega)) (by omega))
