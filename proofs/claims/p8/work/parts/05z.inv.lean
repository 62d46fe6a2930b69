/-! plain facts -/
theorem and63 (x : Int32) : 0 ≤ (x &&& 63).toInt ∧ (x &&& 63).toInt ≤ 63 := by
  have h := vp_in_iff.mp (pk_andIn x (m := 63) 6 (by decide) (by decide))
  omega
theorem ta_nn {x : Int32} (h : 0 ≤ x.toInt) : x.toInt = (x.toBitVec.toNat : Int) := by
  have h1 : x.toInt = x.toBitVec.toInt := rfl
  have h2 := BitVec.toInt_eq_toNat_cond x.toBitVec
  have h3 := x.toBitVec.isLt
  rw [h1, h2] at h ⊢
  split at h <;> split <;> omega
theorem ta_nat {x : Int32} (h : x.toBitVec.toNat < 2147483648) : x.toInt = (x.toBitVec.toNat : Int) := by
  have h1 : x.toInt = x.toBitVec.toInt := rfl
  rw [h1, BitVec.toInt_eq_toNat_of_lt (by omega)]
theorem ta_and {x y : Int32} (h : 0 ≤ x.toInt) : 0 ≤ (x &&& y).toInt ∧ (x &&& y).toInt ≤ x.toInt := by
  have hx := ta_nn h
  have e : (x &&& y).toBitVec.toNat ≤ x.toBitVec.toNat := by
    rw [Int32.toBitVec_and, BitVec.toNat_and]
    exact Nat.and_le_left
  have hl := ta_hi x
  rw [ta_nat (by omega)]
  omega
theorem ta_and127 {x y : Int32} (h : 0 ≤ x.toInt ∧ x.toInt ≤ 127) : 0 ≤ (x &&& y).toInt ∧ (x &&& y).toInt ≤ 127 := by
  have t := ta_and (x := x) (y := y) h.1
  omega
theorem ta_shl1 {s : Int32} (h : 0 ≤ s.toInt) (h2 : s.toInt ≤ 12) : ((1 : Int32) <<< (s &&& 31)).toInt = 2 ^ s.toInt.toNat := by
  have key : ∀ n, n < 13 → ((1 : Int32) <<< (nI n &&& 31)).toInt = 2 ^ n := by decide
  obtain ⟨n, hn, rfl⟩ : ∃ n : Nat, n < 13 ∧ s = nI n := ⟨s.toInt.toNat, by omega, ta_inj (by rw [nI_toInt (by omega)]; omega)⟩
  rw [key n hn, nI_toInt (by omega)]
  simp
theorem ta_shl7 {s : Int32} (h : 0 ≤ s.toInt) (h2 : s.toInt ≤ 7) : 1 ≤ ((1 : Int32) <<< (s &&& 31)).toInt ∧ ((1 : Int32) <<< (s &&& 31)).toInt ≤ 128 := by
  have key : ∀ n, n < 8 → 1 ≤ ((1 : Int32) <<< (nI n &&& 31)).toInt ∧ ((1 : Int32) <<< (nI n &&& 31)).toInt ≤ 128 := by decide
  obtain ⟨n, hn, rfl⟩ : ∃ n : Nat, n < 8 ∧ s = nI n := ⟨s.toInt.toNat, by omega, ta_inj (by rw [nI_toInt (by omega)]; omega)⟩
  exact key n hn
/-- a bit at its own place, and at another -/
theorem ta_bit {p q : Int32} (hp : 0 ≤ p.toInt ∧ p.toInt < 12) (hq : 0 ≤ q.toInt ∧ q.toInt < 12) : ((((1 : Int32) <<< (p &&& 31)) >>> (q &&& 31)) &&& 1).toInt = if p.toInt = q.toInt then 1 else 0 := by
  have key : ∀ a, a < 12 → ∀ b, b < 12 → ((((1 : Int32) <<< (nI a &&& 31)) >>> (nI b &&& 31)) &&& 1).toInt = if (nI a).toInt = (nI b).toInt then 1 else 0 := by decide +kernel
  obtain ⟨n, hn, rfl⟩ : ∃ n : Nat, n < 12 ∧ p = nI n := ⟨p.toInt.toNat, by omega, ta_inj (by rw [nI_toInt (by omega)]; omega)⟩
  obtain ⟨m, hm, rfl⟩ : ∃ n : Nat, n < 12 ∧ q = nI n := ⟨q.toInt.toNat, by omega, ta_inj (by rw [nI_toInt (by omega)]; omega)⟩
  exact key n hn m hm
theorem ta_on {p : Int32} (hp : 0 ≤ p.toInt ∧ p.toInt < 8) : (((255 : Int32) >>> (p &&& 31)) &&& 1).toInt = 1 := by
  have key : ∀ a, a < 8 → (((255 : Int32) >>> (nI a &&& 31)) &&& 1).toInt = 1 := by decide +kernel
  obtain ⟨n, hn, rfl⟩ : ∃ n : Nat, n < 8 ∧ p = nI n := ⟨p.toInt.toNat, by omega, ta_inj (by rw [nI_toInt (by omega)]; omega)⟩
  exact key n hn
def bcF (p : Int32) : Int32 :=
  let a := p - (((p.toUInt32 >>> ((1 : Int32).toUInt32 &&& Int32.toUInt32 31)).toInt32) &&& 1431655765)
  let b := (a &&& 858993459) + (((a.toUInt32 >>> ((2 : Int32).toUInt32 &&& Int32.toUInt32 31)).toInt32) &&& 858993459)
  let c := (b + ((b.toUInt32 >>> ((4 : Int32).toUInt32 &&& Int32.toUInt32 31)).toInt32)) &&& 252645135
  let d := c + ((c.toUInt32 >>> ((8 : Int32).toUInt32 &&& Int32.toUInt32 31)).toInt32)
  let e := d + ((d.toUInt32 >>> ((16 : Int32).toUInt32 &&& Int32.toUInt32 31)).toInt32)
  e &&& 63
def Off (S : List Nat) (σ τ : Sg) : Prop := ∀ k, k ∉ S → τ k = σ k
theorem Off.rf {S : List Nat} {σ : Sg} : Off S σ σ := fun _ _ => rfl
theorem Off.tr {S T : List Nat} {σ τ υ : Sg} (h : Off S σ τ) (g : Off T τ υ) (hs : ∀ k ∈ S, k ∈ T) : Off T σ υ := fun k hk => (g k hk).trans (h k (fun q => hk (hs k q)))
theorem Off.up {S : List Nat} {σ τ : Sg} {k j : Nat} {v : Int32} (h : Off S σ τ) (hk : k ∈ S) : Off S σ (sUp τ k j v) := fun i hi => (sUp_ne (fun e => hi (by rw [e]; exact hk))).trans (h i hi)
theorem Off.to {S T : List Nat} {σ τ : Sg} (h : Off S σ τ) (hs : ∀ k ∈ S, k ∈ T) : Off T σ τ := fun k hk => h k (fun q => hk (hs k q))
/-! WHAT HOLDS BETWEEN CALLS, of the class's cells -/
def IC (σ : Sg) : Prop := (0 ≤ (σ 2 6).toInt ∧ (σ 2 6).toInt ≤ 12) ∧ (0 ≤ (σ 9 6).toInt ∧ (σ 9 6).toInt ≤ 12) ∧ (0 ≤ (σ 16 8).toInt ∧ (σ 16 8).toInt ≤ 7) ∧ (0 ≤ (σ 0 8).toInt ∧ (σ 0 8).toInt ≤ 300) ∧ (0 ≤ (σ 27 1).toInt ∧ (σ 27 1).toInt ≤ 60) ∧ (0 ≤ (σ 32 3).toInt ∧ (σ 32 3).toInt ≤ 7) ∧ (0 ≤ (σ 32 5).toInt ∧ (σ 32 5).toInt ≤ 28)
