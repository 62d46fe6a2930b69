def bt (x : Int32) (i : Nat) : Bool := x.toBitVec.getLsbD i
theorem b_ext {x y : Int32} (h : ∀ i, i < 32 → bt x i = bt y i) : x = y := Int32.toBitVec_inj.mp (BitVec.eq_of_getLsbD_eq (fun i hi => h i hi))
theorem b_or (x y : Int32) (i : Nat) : bt (x ||| y) i = (bt x i || bt y i) := by unfold bt; rw [Int32.toBitVec_or, BitVec.getLsbD_or]
theorem b_and (x y : Int32) (i : Nat) : bt (x &&& y) i = (bt x i && bt y i) := by unfold bt; rw [Int32.toBitVec_and, BitVec.getLsbD_and]
theorem b_xor (x y : Int32) (i : Nat) : bt (x ^^^ y) i = (bt x i ^^ bt y i) := by unfold bt; rw [Int32.toBitVec_xor, BitVec.getLsbD_xor]
theorem b_big {x : Int32} {i : Nat} (h : 32 ≤ i) : bt x i = false := BitVec.getLsbD_of_ge _ _ h
theorem b_255 (i : Nat) : bt 255 i = decide (i < 8) := by
  rcases Nat.lt_or_ge i 32 with h | h
  · exact (by decide +kernel : ∀ i, i < 32 → bt 255 i = decide (i < 8)) i h
  · rw [b_big h, decide_eq_false (by omega)]
theorem b_65535 (i : Nat) : bt 65535 i = decide (i < 16) := by
  rcases Nat.lt_or_ge i 32 with h | h
  · exact (by decide +kernel : ∀ i, i < 32 → bt 65535 i = decide (i < 16)) i h
  · rw [b_big h, decide_eq_false (by omega)]
theorem b_m1 : ∀ i, i < 32 → bt (-1) i = true := by decide +kernel
theorem b_0 (i : Nat) : bt 0 i = false := BitVec.getLsbD_zero
theorem s_l : ∀ n, n < 32 → ((nI n &&& 31).toBitVec.smod 32).toNat = n := by decide +kernel
theorem s_u : ∀ n, n < 32 → (((nI n).toUInt32 &&& Int32.toUInt32 31).toBitVec % 32).toNat = n := by decide +kernel
theorem b_shl (n : Nat) (hn : n < 32) (x : Int32) {i : Nat} (hi : i < 32) : bt (x <<< (nI n &&& 31)) i = (decide (n ≤ i) && bt x (i - n)) := by
  unfold bt
  rw [Int32.toBitVec_shiftLeft]
  show (x.toBitVec <<< ((nI n &&& 31).toBitVec.smod 32).toNat).getLsbD i = _
  rw [s_l n hn, BitVec.getLsbD_shiftLeft]
  rcases Nat.lt_or_ge i n with h | h
  · simp [h, Nat.not_le.mpr h]
  · simp [hi, h, Nat.not_lt.mpr h]
theorem b_ushr (n : Nat) (hn : n < 32) (x : Int32) (i : Nat) : bt ((x.toUInt32 >>> ((nI n).toUInt32 &&& Int32.toUInt32 31)).toInt32) i = bt x (n + i) := by
  show (x.toUInt32 >>> ((nI n).toUInt32 &&& Int32.toUInt32 31)).toBitVec.getLsbD i = x.toUInt32.toBitVec.getLsbD (n + i)
  rw [UInt32.toBitVec_shiftRight]
  show (x.toUInt32.toBitVec >>> (((nI n).toUInt32 &&& Int32.toUInt32 31).toBitVec % 32).toNat).getLsbD i = _
  rw [s_u n hn, BitVec.getLsbD_ushiftRight]
theorem b_sshr (n : Nat) (hn : n < 32) (x : Int32) {i : Nat} (hi : i < 32) : bt (x >>> (nI n &&& 31)) i = if n + i < 32 then bt x (n + i) else bt x 31 := by
  unfold bt
  rw [Int32.toBitVec_shiftRight]
  show (x.toBitVec.sshiftRight ((nI n &&& 31).toBitVec.smod 32).toNat).getLsbD i = _
  rw [s_l n hn, BitVec.getLsbD_sshiftRight, BitVec.msb_eq_getLsbD_last]
  simp [hi]
theorem b_shl8 (x : Int32) {i : Nat} (hi : i < 32) : bt (x <<< ((8 : Int32) &&& 31)) i = (decide (8 ≤ i) && bt x (i - 8)) := b_shl 8 (by omega) x hi
theorem b_shl16 (x : Int32) {i : Nat} (hi : i < 32) : bt (x <<< ((16 : Int32) &&& 31)) i = (decide (16 ≤ i) && bt x (i - 16)) := b_shl 16 (by omega) x hi
theorem b_shl24 (x : Int32) {i : Nat} (hi : i < 32) : bt (x <<< ((24 : Int32) &&& 31)) i = (decide (24 ≤ i) && bt x (i - 24)) := b_shl 24 (by omega) x hi
theorem b_sshr8 (x : Int32) {i : Nat} (hi : i < 32) : bt (x >>> ((8 : Int32) &&& 31)) i = if 8 + i < 32 then bt x (8 + i) else bt x 31 := b_sshr 8 (by omega) x hi
/-! SETS OF BITS -/
theorem b_nI {x : Int32} {n : Nat} (h : x.toInt = (n : Int)) (hn : n < 2147483648) : x = nI n := ta_inj (by rw [nI_toInt (by omega)]; exact h)
theorem has_bt {p q : Int32} (h : 0 ≤ q.toInt ∧ q.toInt < 32) : ((p >>> (q &&& 31)) &&& 1).toInt = 1 ↔ bt p q.toInt.toNat = true := by
  obtain ⟨n, hn, rfl⟩ : ∃ n : Nat, n < 32 ∧ q = nI n := ⟨q.toInt.toNat, by omega, b_nI (by omega) (by omega)⟩
  have e0 : (nI n).toInt.toNat = n := by rw [nI_toInt (by omega)]; omega
  rw [e0]
  have e1 : bt (p >>> (nI n &&& 31)) 0 = bt p n := by
    rw [b_sshr n hn p (by omega : 0 < 32)]
    simp [hn]
  rw [← e1]
  generalize p >>> (nI n &&& 31) = y
  have k1 : ∀ i, i < 32 → bt 1 i = decide (i = 0) := by decide +kernel
  by_cases hb : bt y 0 = true
  · have e : (y &&& 1) = 1 := b_ext (fun i hi => by
      rw [b_and, k1 i hi]
      by_cases h0 : i = 0
      · subst h0; simp [hb]
      · simp [h0])
    rw [e]; simp [hb]
  · have e : (y &&& 1) = 0 := b_ext (fun i hi => by
      rw [b_and, k1 i hi, b_0]
      by_cases h0 : i = 0
      · subst h0; simp at hb; simp [hb]
      · simp [h0])
    rw [e]; simp [hb]
theorem bt_one {o : Int32} (h : 0 ≤ o.toInt ∧ o.toInt < 32) (j : Nat) : bt ((1 : Int32) <<< (o &&& 31)) j = decide (j = o.toInt.toNat) := by
  obtain ⟨n, hn, rfl⟩ : ∃ n : Nat, n < 32 ∧ o = nI n := ⟨o.toInt.toNat, by omega, b_nI (by omega) (by omega)⟩
  have e0 : (nI n).toInt.toNat = n := by rw [nI_toInt (by omega)]; omega
  rw [e0]
  by_cases hj : j < 32
  · rw [b_shl n hn 1 hj]
    have k1 : ∀ i, i < 32 → bt 1 i = decide (i = 0) := by decide +kernel
    rw [k1 (j - n) (by omega)]
    by_cases h1 : n ≤ j
    · by_cases h2 : j = n
      · subst h2; simp
      · simp [h1, h2]; omega
    · simp [h1]; omega
  · rw [b_big (by omega)]
    simp; omega
/-- the set difference as the code takes it -/
def df (A s : Int32) : Int32 := A &&& (s ^^^ (-1))
theorem df_bt (A s : Int32) (j : Nat) : bt (df A s) j = (bt A j && !bt s j) := by
  unfold df
  by_cases hj : j < 32
  · rw [b_and, b_xor, b_m1 j hj]; simp
  · rw [b_big (by omega), b_big (by omega)]; simp
def sb (s A : Int32) : Prop := ∀ j, bt s j = true → bt A j = true
theorem sb_of {s A : Int32} (h : (df s A).toInt = 0) : sb s A := fun j hj => by
  have e : df s A = 0 := ta_inj h
  have e2 := df_bt s A j
  rw [e, b_0, hj] at e2
  cases hA : bt A j
  · rw [hA] at e2; simp at e2
  · rfl
theorem sb_eq {s A : Int32} (h : sb s A) (hn : ∀ j, bt (df A s) j = false) : s = A := b_ext (fun j _ => by
  have e := hn j
  rw [df_bt] at e
  cases hA : bt A j
  · cases hs : bt s j
    · rfl
    · exact absurd (h j hs) (by rw [hA]; simp)
  · rw [hA] at e; simpa using e)
theorem sb_ex {s A : Int32} (h : sb s A) (hn : s ≠ A) : ∃ j, bt (df A s) j = true := by
  refine Classical.byContradiction (fun hx => hn (sb_eq h (fun j => ?_)))
  cases hb : bt (df A s) j
  · rfl
  · exact absurd ⟨j, hb⟩ hx
theorem b_lt7 {x : Int32} (h : ∀ j, bt x j = true → j < 7) : 0 ≤ x.toInt ∧ x.toInt ≤ 127 := by
  have e : x &&& 127 = x := b_ext (fun i hi => by
    have k : ∀ i, i < 32 → bt 127 i = decide (i < 7) := by decide +kernel
    rw [b_and, k i hi]
    by_cases h7 : i < 7
    · simp [h7]
    · simp [h7]
      cases hb : bt x i
      · rfl
      · exact absurd (h i hb) h7)
  have t := vp_in_iff.mp (pk_andIn x (m := 127) 7 (by decide) (by decide))
  rw [e] at t
  omega
def cn (x : Int32) : Nat → Nat
  | 0 => 0
  | i + 1 => cn x i + (if bt x i = true then 1 else 0)
theorem cn_le (x : Int32) (i : Nat) : cn x i ≤ i := by
  induction i with
  | zero => exact Nat.le_refl 0
  | succ i ih => simp only [cn]; split <;> omega
theorem cn_mono (x : Int32) {i k : Nat} (h : i ≤ k) : cn x i ≤ cn x k := by
  induction k with
  | zero => rw [show i = 0 by omega]; exact Nat.le_refl _
  | succ k ih =>
    by_cases e : i = k + 1
    · rw [e]; exact Nat.le_refl _
    · have t := ih (by omega)
      simp only [cn]; omega
theorem cn_in (x : Int32) {i k : Nat} (h : i < k) (hb : bt x i = true) : cn x i + 1 ≤ cn x k := by
  have t := cn_mono x (show i + 1 ≤ k by omega)
  simp only [cn, hb, if_true] at t
  exact t
theorem cn_zero {x : Int32} (i : Nat) (h : ∀ j, bt x j = false) : cn x i = 0 := by
  induction i with
  | zero => rfl
  | succ i ih => simp only [cn, ih, h i]; simp
theorem cn_clear {x y : Int32} {o : Nat} (hx : bt x o = true) (hy : bt y o = false) (hr : ∀ j, j ≠ o → bt y j = bt x j) (i : Nat) : cn y i + (if o < i then 1 else 0) = cn x i := by
  induction i with
  | zero => simp [cn]
  | succ i ih =>
    simp only [cn]
    by_cases e : i = o
    · subst e
      simp [hx, hy] at ih ⊢
      exact ih
    · rw [hr i e]
      by_cases h1 : o < i
      · rw [if_pos h1] at ih
        rw [if_pos (show o < i + 1 by omega)]
        omega
      · rw [if_neg h1] at ih
        rw [if_neg (show ¬ o < i + 1 by omega)]
        omega
theorem cn_top {x : Int32} {i k : Nat} (h : i ≤ k) (hb : ∀ j, bt x j = true → j < i) : cn x i = cn x k := by
  induction k with
  | zero => rw [show i = 0 by omega]
  | succ k ih =>
    by_cases e : i = k + 1
    · rw [e]
    · have t := ih (by omega)
      have hk : ¬ bt x k = true := fun q => absurd (hb k q) (by omega)
      simp only [cn, hk]
      simpa using t
/-- one more of the set A into s -/
theorem df_step {A s : Int32} {o : Int32} (ho : 0 ≤ o.toInt ∧ o.toInt < 32) (hb : bt (df A s) o.toInt.toNat = true) (hs : sb s A) : sb (s ||| ((1 : Int32) <<< (o &&& 31))) A ∧ bt (s ||| ((1 : Int32) <<< (o &&& 31))) o.toInt.toNat = true ∧ (o.toInt.toNat < 7 → cn (df A (s ||| ((1 : Int32) <<< (o &&& 31)))) 7 + 1 = cn (df A s) 7) := by
  have hA : bt A o.toInt.toNat = true := by rw [df_bt] at hb; simp at hb; exact hb.1
  refine ⟨fun j hj => ?_, ?_, fun h7 => ?_⟩
  · rw [b_or, bt_one ho] at hj
    by_cases e : j = o.toInt.toNat
    · rw [e]; exact hA
    · rw [decide_eq_false e, Bool.or_false] at hj; exact hs j hj
  · rw [b_or, bt_one ho]; simp
  · have t := cn_clear (x := df A s) (y := df A (s ||| ((1 : Int32) <<< (o &&& 31)))) hb (by rw [df_bt, b_or, bt_one ho]; simp) (fun j hj => by rw [df_bt, df_bt, b_or, bt_one ho, decide_eq_false hj, Bool.or_false]) 7
    rw [if_pos h7] at t
    exact t
theorem or_gt {s o : Int32} (hs : 0 ≤ s.toInt ∧ s.toInt ≤ 127) (ho : 0 ≤ o.toInt ∧ o.toInt < 7) (hb : bt s o.toInt.toNat = false) : s.toInt < (s ||| ((1 : Int32) <<< (o &&& 31))).toInt ∧ (s ||| ((1 : Int32) <<< (o &&& 31))).toInt ≤ 127 := by
  have key : ∀ n, n < 128 → ∀ k, k < 7 → bt (nI n) k = false → (nI n).toInt < (nI n ||| ((1 : Int32) <<< (nI k &&& 31))).toInt ∧ (nI n ||| ((1 : Int32) <<< (nI k &&& 31))).toInt ≤ 127 := by decide +kernel
  obtain ⟨n, hn, rfl⟩ : ∃ n : Nat, n < 128 ∧ s = nI n := ⟨s.toInt.toNat, by omega, b_nI (by omega) (by omega)⟩
  obtain ⟨k, hk, rfl⟩ : ∃ n : Nat, n < 7 ∧ o = nI n := ⟨o.toInt.toNat, by omega, b_nI (by omega) (by omega)⟩
  have e0 : (nI k).toInt.toNat = k := by rw [nI_toInt (by omega)]; omega
  rw [e0] at hb
  exact key n hn k hk hb
def tri (n : Nat) : Nat := n * (n + 1) / 2
theorem tri_s (n : Nat) : tri (n + 1) = tri n + (n + 1) := by
  unfold tri
  have e : (n + 1) * (n + 1 + 1) = n * (n + 1) + 2 * (n + 1) := by
    rw [Nat.mul_comm (n + 1) (n + 1 + 1), Nat.add_mul (n + 1) 1 (n + 1), Nat.add_mul n 1 (n + 1)]; omega
  rw [e]; omega
theorem tri_7 {n : Nat} (h : n ≤ 7) : tri n ≤ 28 := by
  have key : ∀ n, n < 8 → tri n ≤ 28 := by decide
  exact key n (by omega)
theorem tri_ge (n : Nat) : n ≤ tri n := by
  cases n with
  | zero => exact Nat.zero_le _
  | succ n => rw [tri_s]; omega
theorem df_in {A s : Int32} {j : Nat} (h : bt (df A s) j = true) : bt A j = true ∧ bt s j = false := by
  rw [df_bt] at h
  cases hA : bt A j
  · rw [hA] at h; simp at h
  · cases hs : bt s j
    · exact ⟨rfl, rfl⟩
    · rw [hA, hs] at h; simp at h
theorem df_mk {A s : Int32} {j : Nat} (hA : bt A j = true) (hs : bt s j = false) : bt (df A s) j = true := by rw [df_bt, hA, hs]; rfl
theorem df_z {s A : Int32} (h : sb s A) : df s A = 0 := b_ext (fun j _ => by
  rw [b_0]
  cases hb : bt (df s A) j
  · rfl
  · have t := df_in hb
    have u := h j t.1
    rw [u] at t
    exact absurd t.2 (by simp))
theorem df_0 (A : Int32) : df A 0 = A := b_ext (fun j _ => by rw [df_bt, b_0]; simp)
theorem sb_0 (A : Int32) : sb 0 A := fun j h => by rw [b_0] at h; cases h
theorem sb_le {s A : Int32} (hs : sb s A) (hA : 0 ≤ A.toInt) : 0 ≤ s.toInt ∧ s.toInt ≤ A.toInt := by
  have e : A &&& s = s := b_ext (fun j _ => by
    rw [b_and]
    cases hb : bt s j
    · simp
    · rw [hs j hb]; rfl)
  have t := ta_and (x := A) (y := s) hA
  rw [e] at t
  exact t
theorem cn_st {x : Int32} {i z : Int32} (hz : z.toInt = i.toInt + 1) (hi : 0 ≤ i.toInt) : cn x z.toInt.toNat = cn x i.toInt.toNat + (if bt x i.toInt.toNat = true then 1 else 0) := by
  rw [show z.toInt.toNat = i.toInt.toNat + 1 by omega]
  rfl
theorem ask_st {a i z x a2 : Int32} {f : Nat → Int32} (hi : 0 ≤ i.toInt ∧ i.toInt < 7) (h : ∀ j, bt a j = true ↔ ((j : Int) < i.toInt ∧ (f j).toInt = 0)) (hz : z.toInt = i.toInt + 1) (ha2 : a2 = a ||| x) (hx : ((f i.toInt.toNat).toInt = 0 ∧ x = (1 : Int32) <<< (i &&& 31)) ∨ ((f i.toInt.toNat).toInt ≠ 0 ∧ x = 0)) : ∀ j, bt a2 j = true ↔ ((j : Int) < z.toInt ∧ (f j).toInt = 0) := by
  intro j
  rw [ha2, b_or]
  rcases hx with ⟨h0, rfl⟩ | ⟨h0, rfl⟩
  · rw [bt_one (by omega)]
    by_cases e : j = i.toInt.toNat
    · rw [decide_eq_true e, Bool.or_true]
      refine ⟨fun _ => ⟨by omega, by rw [e]; exact h0⟩, fun _ => rfl⟩
    · rw [decide_eq_false e, Bool.or_false, h j]
      exact ⟨fun q => ⟨by omega, q.2⟩, fun q => ⟨by omega, q.2⟩⟩
  · rw [b_0, Bool.or_false, h j]
    refine ⟨fun q => ⟨by omega, q.2⟩, fun q => ⟨?_, q.2⟩⟩
    by_cases e : j = i.toInt.toNat
    · exact absurd (by rw [← e]; exact q.2) h0
    · omega
/-- what the rest of an order may cost -/
def RB (A : Int32) (f : Nat → Int32) (s : Int32) : Prop := ∀ w : Nat, w < 7 → bt s w = true → 0 ≤ (f (7 * s.toInt + (w : Int)).toNat).toInt ∧ (f (7 * s.toInt + (w : Int)).toNat).toInt ≤ 12 * (1 + (cn (df A s) 7 : Int))
