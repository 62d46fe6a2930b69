def bt (x : Int32) (i : Nat) : Bool := x.toBitVec.getLsbD i
theorem b_ext {x y : Int32} (h : ∀ i, i < 32 → bt x i = bt y i) : x = y := Int32.toBitVec_inj.mp (BitVec.eq_of_getLsbD_eq (fun i hi => h i hi))
theorem b_or (x y : Int32) (i : Nat) : bt (x ||| y) i = (bt x i || bt y i) := by unfold bt; rw [Int32.toBitVec_or, BitVec.getLsbD_or]
theorem b_and (x y : Int32) (i : Nat) : bt (x &&& y) i = (bt x i && bt y i) := by unfold bt; rw [Int32.toBitVec_and, BitVec.getLsbD_and]
theorem b_xor (x y : Int32) (i : Nat) : bt (x ^^^ y) i = (bt x i ^^ bt y i) := by unfold bt; rw [Int32.toBitVec_xor, BitVec.getLsbD_xor]
theorem b_big {x : Int32} {i : Nat} (h : 32 ≤ i) : bt x i = false := BitVec.getLsbD_of_ge _ _ h
theorem b_255 (i : Nat) : bt 255 i = decide (i < 8) := by
  rcases Nat.lt_or_ge i 32 with h | h
  · exact (by decide +kernel : ∀ i, i < 32 → bt 255 i = decide (i < 8)) i h
  · rw [b_big h, decide_eq_false (by omega)]
theorem b_65535 (i : Nat) : bt 65535 i = decide (i < 16) := by
  rcases Nat.lt_or_ge i 32 with h | h
  · exact (by decide +kernel : ∀ i, i < 32 → bt 65535 i = decide (i < 16)) i h
  · rw [b_big h, decide_eq_false (by omega)]
theorem b_m1 : ∀ i, i < 32 → bt (-1) i = true := by decide +kernel
theorem b_0 (i : Nat) : bt 0 i = false := BitVec.getLsbD_zero
theorem s_l : ∀ n, n < 32 → ((nI n &&& 31).toBitVec.smod 32).toNat = n := by decide +kernel
theorem s_u : ∀ n, n < 32 → (((nI n).toUInt32 &&& Int32.toUInt32 31).toBitVec % 32).toNat = n := by decide +kernel
theorem b_shl (n : Nat) (hn : n < 32) (x : Int32) {i : Nat} (hi : i < 32) : bt (x <<< (nI n &&& 31)) i = (decide (n ≤ i) && bt x (i - n)) := by
  unfold bt
  rw [Int32.toBitVec_shiftLeft]
  show (x.toBitVec <<< ((nI n &&& 31).toBitVec.smod 32).toNat).getLsbD i = _
  rw [s_l n hn, BitVec.getLsbD_shiftLeft]
  rcases Nat.lt_or_ge i n with h | h
  · simp [h, Nat.not_le.mpr h]
  · simp [hi, h, Nat.not_lt.mpr h]
theorem b_ushr (n : Nat) (hn : n < 32) (x : Int32) (i : Nat) : bt ((x.toUInt32 >>> ((nI n).toUInt32 &&& Int32.toUInt32 31)).toInt32) i = bt x (n + i) := by
  show (x.toUInt32 >>> ((nI n).toUInt32 &&& Int32.toUInt32 31)).toBitVec.getLsbD i = x.toUInt32.toBitVec.getLsbD (n + i)
  rw [UInt32.toBitVec_shiftRight]
  show (x.toUInt32.toBitVec >>> (((nI n).toUInt32 &&& Int32.toUInt32 31).toBitVec % 32).toNat).getLsbD i = _
  rw [s_u n hn, BitVec.getLsbD_ushiftRight]
theorem b_sshr (n : Nat) (hn : n < 32) (x : Int32) {i : Nat} (hi : i < 32) : bt (x >>> (nI n &&& 31)) i = if n + i < 32 then bt x (n + i) else bt x 31 := by
  unfold bt
  rw [Int32.toBitVec_shiftRight]
  show (x.toBitVec.sshiftRight ((nI n &&& 31).toBitVec.smod 32).toNat).getLsbD i = _
  rw [s_l n hn, BitVec.getLsbD_sshiftRight, BitVec.msb_eq_getLsbD_last]
  simp [hi]
theorem b_shl8 (x : Int32) {i : Nat} (hi : i < 32) : bt (x <<< ((8 : Int32) &&& 31)) i = (decide (8 ≤ i) && bt x (i - 8)) := b_shl 8 (by omega) x hi
theorem b_shl16 (x : Int32) {i : Nat} (hi : i < 32) : bt (x <<< ((16 : Int32) &&& 31)) i = (decide (16 ≤ i) && bt x (i - 16)) := b_shl 16 (by omega) x hi
theorem b_shl24 (x : Int32) {i : Nat} (hi : i < 32) : bt (x <<< ((24 : Int32) &&& 31)) i = (decide (24 ≤ i) && bt x (i - 24)) := b_shl 24 (by omega) x hi
theorem b_sshr8 (x : Int32) {i : Nat} (hi : i < 32) : bt (x >>> ((8 : Int32) &&& 31)) i = if 8 + i < 32 then bt x (8 + i) else bt x 31 := b_sshr 8 (by omega) x hi
/-! SETS OF BITS -/
theorem b_nI {x : Int32} {n : Nat} (h : x.toInt = (n : Int)) (hn : n < 2147483648) : x = nI n := ta_inj (by rw [nI_toInt (by omega)]; exact h)
theorem has_bt {p q : Int32} (h : 0 ≤ q.toInt ∧ q.toInt < 32) : ((p >>> (q &&& 31)) &&& 1).toInt = 1 ↔ bt p q.toInt.toNat = true := by
  obtain ⟨n, hn, rfl⟩ : ∃ n : Nat, n < 32 ∧ q = nI n := ⟨q.toInt.toNat, by omega, b_nI (by omega) (by omega)⟩
  have e0 : (nI n).toInt.toNat = n := by rw [nI_toInt (by omega)]; omega
  rw [e0]
  have e1 : bt (p >>> (nI n &&& 31)) 0 = bt p n := by
    rw [b_sshr n hn p (by omega : 0 < 32)]
    simp [hn]
  rw [← e1]
  generalize p >>> (nI n &&& 31) = y
  have k1 : ∀ i, i < 32 → bt 1 i = decide (i = 0) := by decide +kernel
  by_cases hb : bt y 0 = true
  · have e : (y &&& 1) = 1 := b_ext (fun i hi => by
      rw [b_and, k1 i hi]
      by_cases h0 : i = 0
      · subst h0; simp [hb]
      · simp [h0])
    rw [e]; simp [hb]
  · have e : (y &&& 1) = 0 := b_ext (fun i hi => by
      rw [b_and, k1 i hi, b_0]
      by_cases h0 : i = 0
      · subst h0; simp at hb; simp [hb]
      · simp [h0])
    rw [e]; simp [hb]
theorem bt_one {o : Int32} (h : 0 ≤ o.toInt ∧ o.toInt < 32) (j : Nat) : bt ((1 : Int32) <<< (o &&& 31)) j = decide (j = o.toInt.toNat) := by
  obtain ⟨n, hn, rfl⟩ : ∃ n : Nat, n < 32 ∧ o = nI n := ⟨o.toInt.toNat, by omega, b_nI (by omega) (by omega)⟩
  have e0 : (nI n).toInt.toNat = n := by rw [nI_toInt (by omega)]; omega
  rw [e0]
  by_cases hj : j < 32
  · rw [b_shl n hn 1 hj]
    have k1 : ∀ i, i < 32 → bt 1 i = decide (i = 0) := by decide +kernel
    rw [k1 (j - n) (by omega)]
    by_cases h1 : n ≤ j
    · by_cases h2 : j = n
      · subst h2; simp
      · simp [h1, h2]; omega
    · simp [h1]; omega
  · rw [b_big (by omega)]
    simp; omega
/-- the set difference as the code takes it -/
def df (A s : Int32) : Int32 := A &&& (s ^^^ (-1))
theorem df_bt (A s : Int32) (j : Nat) : bt (df A s) j = (bt A j && !bt s j) := by
  unfold df
  by_cases hj : j < 32
  · rw [b_and, b_xor, b_m1 j hj]; simp
  · rw [b_big (by omega), b_big (by omega)]; simp
def sb (s A : Int32) : Prop := ∀ j, bt s j = true → bt A j = true
theorem sb_of {s A : Int32} (h : (df s A).toInt = 0) : sb s A := fun j hj => by
  have e : df s A = 0 := ta_inj h
  have e2 := df_bt s A j
  rw [e, b_0, hj] at e2
  cases hA : bt A j
  · rw [hA] at e2; simp at e2
  · rfl
theorem sb_eq {s A : Int32} (h : sb s A) (hn : ∀ j, bt (df A s) j = false) : s = A := b_ext (fun j _ => by
  have e := hn j
  rw [df_bt] at e
  cases hA : bt A j
  · cases hs : bt s j
    · rfl
    · exact absurd (h j hs) (by rw [hA]; simp)
  · rw [hA] at e; simpa using e)
theorem sb_ex {s A : Int32} (h : sb s A) (hn : s ≠ A) : ∃ j, bt (df A s) j = true := by
  refine Classical.byContradiction (fun hx => hn (sb_eq h (fun j => ?_)))
  cases hb : bt (df A s) j
  · rfl
  · exact absurd ⟨j, hb⟩ hx
theorem b_lt7 {x : Int32} (h : ∀ j, bt x j = true → j < 7) : 0 ≤ x.toInt ∧ x.toInt ≤ 127 := by
  have e : x &&& 127 = x := b_ext (fun i hi => by
    have k : ∀ i, i < 32 → bt 127 i = decide (i < 7) := by decide +kernel
    rw [b_and, k i hi]
    by_cases h7 : i < 7
    · simp [h7]
    · simp [h7]
      cases hb : bt x i
      · rfl
      · exact absurd (h i hb) h7)
  have t := vp_in_iff.mp (pk_andIn x (m := 127) 7 (by decide) (by decide))
  rw [e] at t
  omega
def cn (x : Int32) : Nat → Nat
  | 0 => 0
  | i + 1 => cn x i + (if bt x i = true then 1 else 0)
theorem cn_le (x : Int32) (i : Nat) : cn x i ≤ i := by
  induction i with
  | zero => exact Nat.le_refl 0
  | succ i ih => simp only [cn]; split <;> omega
theorem cn_mono (x : Int32) {i k : Nat} (h : i ≤ k) : cn x i ≤ cn x k := by
  induction k with
  | zero => rw [show i = 0 by omega]; exact Nat.le_refl _
  | succ k ih =>
    by_cases e : i = k + 1
    · rw [e]; exact Nat.le_refl _
    · have t := ih (by omega)
      simp only [cn]; omega
theorem cn_in (x : Int32) {i k : Nat} (h : i < k) (hb : bt x i = true) : cn x i + 1 ≤ cn x k := by
  have t := cn_mono x (show i + 1 ≤ k by omega)
  simp only [cn, hb, if_true] at t
  exact t
theorem cn_zero {x : Int32} (i : Nat) (h : ∀ j, bt x j = false) : cn x i = 0 := by
  induction i with
  | zero => rfl
  | succ i ih => simp only [cn, ih, h i]; simp
theorem cn_clear {x y : Int32} {o : Nat} (hx : bt x o = true) (hy : bt y o = false) (hr : ∀ j, j ≠ o → bt y j = bt x j) (i : Nat) : cn y i + (if o < i then 1 else 0) = cn x i := by
  induction i with
  | zero => simp [cn]
  | succ i ih =>
    simp only [cn]
    by_cases e : i = o
    · subst e
      simp [hx, hy] at ih ⊢
      exact ih
    · rw [hr i e]
      by_cases h1 : o < i
      · rw [if_pos h1] at ih
        rw [if_pos (show o < i + 1 by omega)]
        omega
      · rw [if_neg h1] at ih
        rw [if_neg (show ¬ o < i + 1 by omega)]
        omega
theorem cn_top {x : Int32} {i k : Nat} (h : i ≤ k) (hb : ∀ j, bt x j = true → j < i) : cn x i = cn x k := by
  induction k with
  | zero => rw [show i = 0 by omega]
  | succ k ih =>
    by_cases e : i = k + 1
    · rw [e]
    · have t := ih (by omega)
      have hk : ¬ bt x k = true := fun q => absurd (hb k q) (by omega)
      simp only [cn, hk]
      simpa using t
/-- one more of the set A into s -/
theorem df_step {A s : Int32} {o : Int32} (ho : 0 ≤ o.toInt ∧ o.toInt < 32) (hb : bt (df A s) o.toInt.toNat = true) (hs : sb s A) : sb (s ||| ((1 : Int32) <<< (o &&& 31))) A ∧ bt (s ||| ((1 : Int32) <<< (o &&& 31))) o.toInt.toNat = true ∧ (o.toInt.toNat < 7 → cn (df A (s ||| ((1 : Int32) <<< (o &&& 31)))) 7 + 1 = cn (df A s) 7) := by
  have hA : bt A o.toInt.toNat = true := by rw [df_bt] at hb; simp at hb; exact hb.1
  refine ⟨fun j hj => ?_, ?_, fun h7 => ?_⟩
  · rw [b_or, bt_one ho] at hj
    by_cases e : j = o.toInt.toNat
    · rw [e]; exact hA
    · rw [decide_eq_false e, Bool.or_false] at hj; exact hs j hj
  · rw [b_or, bt_one ho]; simp
  · have t := cn_clear (x := df A s) (y := df A (s ||| ((1 : Int32) <<< (o &&& 31)))) hb (by rw [df_bt, b_or, bt_one ho]; simp) (fun j hj => by rw [df_bt, df_bt, b_or, bt_one ho, decide_eq_false hj, Bool.or_false]) 7
    rw [if_pos h7] at t
    exact t
theorem or_gt {s o : Int32} (hs : 0 ≤ s.toInt ∧ s.toInt ≤ 127) (ho : 0 ≤ o.toInt ∧ o.toInt < 7) (hb : bt s o.toInt.toNat = false) : s.toInt < (s ||| ((1 : Int32) <<< (o &&& 31))).toInt ∧ (s ||| ((1 : Int32) <<< (o &&& 31))).toInt ≤ 127 := by
  have key : ∀ n, n < 128 → ∀ k, k < 7 → bt (nI n) k = false → (nI n).toInt < (nI n ||| ((1 : Int32) <<< (nI k &&& 31))).toInt ∧ (nI n ||| ((1 : Int32) <<< (nI k &&& 31))).toInt ≤ 127 := by decide +kernel
  obtain ⟨n, hn, rfl⟩ : ∃ n : Nat, n < 128 ∧ s = nI n := ⟨s.toInt.toNat, by omega, b_nI (by omega) (by omega)⟩
  obtain ⟨k, hk, rfl⟩ : ∃ n : Nat, n < 7 ∧ o = nI n := ⟨o.toInt.toNat, by omega, b_nI (by omega) (by omega)⟩
  have e0 : (nI k).toInt.toNat = k := by rw [nI_toInt (by omega)]; omega
  rw [e0] at hb
  exact key n hn k hk hb
def tri (n : Nat) : Nat := n * (n + 1) / 2
theorem tri_s (n : Nat) : tri (n + 1) = tri n + (n + 1) := by
  unfold tri
  have e : (n + 1) * (n + 1 + 1) = n * (n + 1) + 2 * (n + 1) := by
    rw [Nat.mul_comm (n + 1) (n + 1 + 1), Nat.add_mul (n + 1) 1 (n + 1), Nat.add_mul n 1 (n + 1)]; omega
  rw [e]; omega
theorem tri_7 {n : Nat} (h : n ≤ 7) : tri n ≤ 28 := by
  have key : ∀ n, n < 8 → tri n ≤ 28 := by decide
  exact key n (by omega)
theorem tri_ge (n : Nat) : n ≤ tri n := by
  cases n with
  | zero => exact Nat.zero_le _
  | succ n => rw [tri_s]; omega
theorem df_in {A s : Int32} {j : Nat} (h : bt (df A s) j = true) : bt A j = true ∧ bt s j = false := by
  rw [df_bt] at h
  cases hA : bt A j
  · rw [hA] at h; simp at h
  · cases hs : bt s j
    · exact ⟨rfl, rfl⟩
    · rw [hA, hs] at h; simp at h
theorem df_mk {A s : Int32} {j : Nat} (hA : bt A j = true) (hs : bt s j = false) : bt (df A s) j = true := by rw [df_bt, hA, hs]; rfl
theorem df_z {s A : Int32} (h : sb s A) : df s A = 0 := b_ext (fun j _ => by
  rw [b_0]
  cases hb : bt (df s A) j
  · rfl
  · have t := df_in hb
    have u := h j t.1
    rw [u] at t
    exact absurd t.2 (by simp))
theorem df_0 (A : Int32) : df A 0 = A := b_ext (fun j _ => by rw [df_bt, b_0]; simp)
theorem sb_0 (A : Int32) : sb 0 A := fun j h => by rw [b_0] at h; cases h
theorem sb_le {s A : Int32} (hs : sb s A) (hA : 0 ≤ A.toInt) : 0 ≤ s.toInt ∧ s.toInt ≤ A.toInt := by
  have e : A &&& s = s := b_ext (fun j _ => by
    rw [b_and]
    cases hb : bt s j
    · simp
    · rw [hs j hb]; rfl)
  have t := ta_and (x := A) (y := s) hA
  rw [e] at t
  exact t
theorem cn_st {x : Int32} {i z : Int32} (hz : z.toInt = i.toInt + 1) (hi : 0 ≤ i.toInt) : cn x z.toInt.toNat = cn x i.toInt.toNat + (if bt x i.toInt.toNat = true then 1 else 0) := by
  rw [show z.toInt.toNat = i.toInt.toNat + 1 by omega]
  rfl
theorem ask_st {a i z x a2 : Int32} {f : Nat → Int32} (hi : 0 ≤ i.toInt ∧ i.toInt < 7) (h : ∀ j, bt a j = true ↔ ((j : Int) < i.toInt ∧ (f j).toInt = 0)) (hz : z.toInt = i.toInt + 1) (ha2 : a2 = a ||| x) (hx : ((f i.toInt.toNat).toInt = 0 ∧ x = (1 : Int32) <<< (i &&& 31)) ∨ ((f i.toInt.toNat).toInt ≠ 0 ∧ x = 0)) : ∀ j, bt a2 j = true ↔ ((j : Int) < z.toInt ∧ (f j).toInt = 0) := by
  intro j
  rw [ha2, b_or]
  rcases hx with ⟨h0, rfl⟩ | ⟨h0, rfl⟩
  · rw [bt_one (by omega)]
    by_cases e : j = i.toInt.toNat
    · rw [decide_eq_true e, Bool.or_true]
      refine ⟨fun _ => ⟨by omega, by rw [e]; exact h0⟩, fun _ => rfl⟩
    · rw [decide_eq_false e, Bool.or_false, h j]
      exact ⟨fun q => ⟨by omega, q.2⟩, fun q => ⟨by omega, q.2⟩⟩
  · rw [b_0, Bool.or_false, h j]
    refine ⟨fun q => ⟨by omega, q.2⟩, fun q => ⟨?_, q.2⟩⟩
    by_cases e : j = i.toInt.toNat
    · exact absurd (by rw [← e]; exact q.2) h0
    · omega
/-- what the rest of an order may cost -/
def RB (A : Int32) (f : Nat → Int32) (s : Int32) : Prop := ∀ w : Nat, w < 7 → bt s w = true → 0 ≤ (f (7 * s.toInt + (w : Int)).toNat).toInt ∧ (f (7 * s.toInt + (w : Int)).toNat).toInt ≤ 12 * (1 + (cn (df A s) 7 : Int))
/-! ROWS OF PIPES: the reference's distances -/
def FX (A B g : Nat → Int32) (k : Nat) : Prop := (g (B k).toInt.toNat).toInt ≤ (g (A k).toInt.toNat).toInt + 1 ∧ (g (A k).toInt.toNat).toInt ≤ (g (B k).toInt.toNat).toInt + 1
def AC (n : Int) (A B g : Nat → Int32) (p : Int) : Prop := (g p.toNat).toInt = 0 ∧ ∀ j : Nat, j < 10 → (g j).toInt < 1000 → (j : Int) ≠ p → ∃ k : Nat, (k : Int) < n ∧ (((A k).toInt = (j : Int) ∧ (g (B k).toInt.toNat).toInt + 1 ≤ (g j).toInt) ∨ ((B k).toInt = (j : Int) ∧ (g (A k).toInt.toNat).toInt + 1 ≤ (g j).toInt))
def DF (n : Int) (A B g : Nat → Int32) (p : Int) : Prop := AC n A B g p ∧ ∀ k : Nat, (k : Int) < n → FX A B g k
theorem AC_ini {n : Int} {A B g : Nat → Int32} {p : Int} (hp : 0 ≤ p ∧ p < 10) (h : ∀ j : Nat, j < 10 → (g j).toInt = if (j : Int) = p then 0 else 1000) : AC n A B g p := by
  refine ⟨?_, fun j hj h1 h2 => ?_⟩
  · rw [h p.toNat (by omega), if_pos (by omega)]
  · have t := h j hj
    rw [if_neg h2] at t
    omega
theorem AC_up {n : Int} {A B g : Nat → Int32} {p : Int} {x y k : Nat} {v : Int32} (h : AC n A B g p) (hn : 0 ≤ (g y).toInt) (hp : 0 ≤ p ∧ p < 10) (hk : (k : Int) < n) (he : ((A k).toInt = (y : Int) ∧ (B k).toInt = (x : Int)) ∨ ((B k).toInt = (y : Int) ∧ (A k).toInt = (x : Int))) (hv : v.toInt = (g y).toInt + 1) (hlt : v.toInt < (g x).toInt) : AC n A B (upd g x v) p := by
  have hxy : y ≠ x := fun e => by subst e; omega
  have hle : ∀ o, (upd g x v o).toInt ≤ (g o).toInt := fun o => by
    by_cases e : o = x
    · subst e; rw [pk_us]; omega
    · rw [pk_un e]; exact Int.le_refl _
  refine ⟨?_, fun j hj h1 h2 => ?_⟩
  · have hx : p.toNat ≠ x := fun e => by
      have t := h.1
      rw [e] at t
      omega
    rw [pk_un hx]; exact h.1
  · by_cases e : j = x
    · subst e
      rw [pk_us]
      refine ⟨k, hk, ?_⟩
      rcases he with ⟨a, b⟩ | ⟨a, b⟩
      · refine Or.inr ⟨b, ?_⟩
        rw [show (A k).toInt.toNat = y by omega, pk_un hxy]; omega
      · refine Or.inl ⟨b, ?_⟩
        rw [show (B k).toInt.toNat = y by omega, pk_un hxy]; omega
    · rw [pk_un e] at h1 ⊢
      obtain ⟨k', hk', hh⟩ := h.2 j hj h1 h2
      refine ⟨k', hk', ?_⟩
      rcases hh with ⟨a, b⟩ | ⟨a, b⟩
      · exact Or.inl ⟨a, by have t := hle (B k').toInt.toNat; omega⟩
      · exact Or.inr ⟨a, by have t := hle (A k').toInt.toNat; omega⟩
/-! pigeons -/
def cl (f : Nat → Int32) (s : Int) : Nat → Nat
  | 0 => 0
  | i + 1 => cl f s i + (if (f i).toInt ≤ s then 1 else 0)
theorem cl_le (f : Nat → Int32) (s : Int) (i : Nat) : cl f s i ≤ i := by
  induction i with
  | zero => exact Nat.le_refl 0
  | succ i ih => simp only [cl]; split <;> omega
theorem cl_mono (f : Nat → Int32) (s : Int) (i : Nat) : cl f s i ≤ cl f (s + 1) i := by
  induction i with
  | zero => exact Nat.le_refl 0
  | succ i ih =>
    simp only [cl]
    by_cases e : (f i).toInt ≤ s
    · rw [if_pos e, if_pos (by omega)]; omega
    · rw [if_neg e]; omega
theorem cl_more {f : Nat → Int32} {s : Int} {j : Nat} (hj : (f j).toInt = s + 1) (i : Nat) (hi : j < i) : cl f s i + 1 ≤ cl f (s + 1) i := by
  induction i with
  | zero => exact absurd hi (by omega)
  | succ i ih =>
    simp only [cl]
    by_cases e : j = i
    · subst e
      have t := cl_mono f s j
      rw [if_neg (by omega), if_pos (by omega)]; omega
    · have t := ih (by omega)
      by_cases e2 : (f i).toInt ≤ s
      · rw [if_pos e2, if_pos (by omega)]; omega
      · rw [if_neg e2]; omega
def GS (n : Int) (E A B g : Nat → Int32) (p : Int) : Prop := (∀ k : Nat, (k : Int) < n → E k = ((1 : Int32) <<< (A k &&& 31)) ||| ((1 : Int32) <<< (B k &&& 31)) ∧ (0 ≤ (A k).toInt ∧ (A k).toInt ≤ 9) ∧ (0 ≤ (B k).toInt ∧ (B k).toInt ≤ 9)) ∧ DF n A B g p ∧ (∀ j, j < 10 → 0 ≤ (g j).toInt ∧ (g j).toInt ≤ 1000) ∧ (0 ≤ p ∧ p < 10)
theorem GS_ex {n : Int} {E A B g : Nat → Int32} {p : Int} (h : GS n E A B g p) {q : Nat} (hq : q < 10) (hg : (g q).toInt < 1000) (d : Nat) (hd : (d : Int) ≤ (g q).toInt) : ∃ j, j < 10 ∧ (g j).toInt = (g q).toInt - (d : Int) := by
  induction d with
  | zero => exact ⟨q, hq, by omega⟩
  | succ d ih =>
    obtain ⟨j, hj, e⟩ := ih (by omega)
    have hjp : (j : Int) ≠ p := fun z => by
      have t := h.2.1.1.1
      rw [show p.toNat = j by omega] at t
      omega
    obtain ⟨k, hk, hh⟩ := h.2.1.1.2 j hj (by omega) hjp
    have t1 := h.1 k hk
    have t2 := h.2.1.2 k hk
    unfold FX at t2
    rcases hh with ⟨a, b⟩ | ⟨a, b⟩
    · refine ⟨(B k).toInt.toNat, by omega, ?_⟩
      rw [show (A k).toInt.toNat = j by omega] at t2
      omega
    · refine ⟨(A k).toInt.toNat, by omega, ?_⟩
      rw [show (B k).toInt.toNat = j by omega] at t2
      omega
theorem GS_cl {n : Int} {E A B g : Nat → Int32} {p : Int} (h : GS n E A B g p) {q : Nat} (hq : q < 10) (hg : (g q).toInt < 1000) (s : Nat) (hs : (s : Int) ≤ (g q).toInt) : s + 1 ≤ cl g (s : Int) 10 := by
  induction s with
  | zero =>
    obtain ⟨j, hj, e⟩ := GS_ex h hq hg (g q).toInt.toNat (by have t := h.2.2.1 q hq; omega)
    have t := cl_more (f := g) (s := -1) (j := j) (by have t := h.2.2.1 q hq; omega) 10 hj
    have e : (-1 + 1 : Int) = ((0 : Nat) : Int) := by omega
    rw [e] at t
    omega
  | succ s ih =>
    obtain ⟨j, hj, e⟩ := GS_ex h hq hg ((g q).toInt - ((s : Int) + 1)).toNat (by omega)
    have t := cl_more (f := g) (s := (s : Int)) (j := j) (by omega) 10 hj
    have t2 := ih (by omega)
    have e : ((s + 1 : Nat) : Int) = (s : Int) + 1 := by omega
    rw [e]
    omega
theorem GS_end {n : Int} {E A B g : Nat → Int32} {p : Int} (h : GS n E A B g p) {q : Nat} (hq : q < 10) (h10 : 10 ≤ (g q).toInt) : (g q).toInt = 1000 := by
  have t := h.2.2.1 q hq
  by_cases hg : (g q).toInt < 1000
  · have t2 := GS_cl h hq hg 10 (by omega)
    have t3 := cl_le g ((10 : Nat) : Int) 10
    omega
  · omega
theorem and_ne {x y : Int32} : (x &&& y).toInt ≠ 0 ↔ ∃ j, bt x j = true ∧ bt y j = true := by
  constructor
  · intro h
    refine Classical.byContradiction (fun hx => h ?_)
    have e : x &&& y = 0 := b_ext (fun j _ => by
      rw [b_0, b_and]
      cases a : bt x j
      · rfl
      · cases b : bt y j
        · rfl
        · exact absurd ⟨j, a, b⟩ hx)
    rw [e]; rfl
  · rintro ⟨j, a, b⟩ h
    have e : x &&& y = 0 := ta_inj h
    have t := b_and x y j
    rw [e, b_0, a, b] at t
    cases t
theorem E_bt {a b : Int32} (ha : 0 ≤ a.toInt ∧ a.toInt ≤ 9) (hb : 0 ≤ b.toInt ∧ b.toInt ≤ 9) (j : Nat) : bt (((1 : Int32) <<< (a &&& 31)) ||| ((1 : Int32) <<< (b &&& 31))) j = true ↔ ((j : Int) = a.toInt ∨ (j : Int) = b.toInt) := by
  rw [b_or, Bool.or_eq_true, bt_one (o := a) (by omega), bt_one (o := b) (by omega), decide_eq_true_eq, decide_eq_true_eq]
  omega
theorem GS_0 {n : Int} {E A B g : Nat → Int32} {p : Int32} (h : GS n E A B g p.toInt) : ∀ j : Nat, j < 10 → (bt ((1 : Int32) <<< (p &&& 31)) j = true ↔ (g j).toInt ≤ 0) := by
  intro j hj
  have hp := h.2.2.2
  rw [bt_one (by omega)]
  simp only [decide_eq_true_eq]
  constructor
  · intro e
    rw [e, h.2.1.1.1]
    exact Int.le_refl 0
  · intro hg
    by_cases e : j = p.toInt.toNat
    · exact e
    · obtain ⟨k, hk, hh⟩ := h.2.1.1.2 j hj (by omega) (by omega)
      have t1 := h.1 k hk
      rcases hh with ⟨a, b⟩ | ⟨a, b⟩
      · have t := h.2.2.1 (B k).toInt.toNat (by omega); omega
      · have t := h.2.2.1 (A k).toInt.toNat (by omega); omega
theorem GS_st {n : Int} {E A B g : Nat → Int32} {p : Int} {R R' q : Int32} {s : Int} (h : GS n E A B g p) (hs : 0 ≤ s ∧ s + 1 < 1000) (hR : ∀ j : Nat, j < 10 → (bt R j = true ↔ (g j).toInt ≤ s)) (hR' : ∀ j : Nat, bt R' j = true ↔ (bt R j = true ∨ ∃ k : Nat, (k : Int) < n ∧ bt q k = true ∧ (E k &&& R).toInt ≠ 0 ∧ bt (E k) j = true)) (hq : ∀ k : Nat, (k : Int) < n → bt q k = true) : ∀ j : Nat, j < 10 → (bt R' j = true ↔ (g j).toInt ≤ s + 1) := by
  intro j hj
  rw [hR' j]
  constructor
  · rintro (h1 | ⟨k, hk, _, h2, h3⟩)
    · have t := (hR j hj).mp h1; omega
    · have t1 := h.1 k hk
      have t2 := h.2.1.2 k hk
      unfold FX at t2
      rw [t1.1] at h2 h3
      obtain ⟨i, hi, hi2⟩ := and_ne.mp h2
      have a1 := (E_bt t1.2.1 t1.2.2 i).mp hi
      have a2 := (E_bt t1.2.1 t1.2.2 j).mp h3
      have a3 := (hR i (by omega)).mp hi2
      rcases a1 with a1 | a1 <;> rcases a2 with a2 | a2
      · rw [show i = j by omega] at a3; omega
      · rw [show (A k).toInt.toNat = i by omega, show (B k).toInt.toNat = j by omega] at t2; omega
      · rw [show (B k).toInt.toNat = i by omega, show (A k).toInt.toNat = j by omega] at t2; omega
      · rw [show i = j by omega] at a3; omega
  · intro hg
    by_cases e : (j : Int) = p
    · refine Or.inl ((hR j hj).mpr ?_)
      have t := h.2.1.1.1
      rw [show p.toNat = j by omega] at t
      omega
    · obtain ⟨k, hk, hh⟩ := h.2.1.1.2 j hj (by omega) e
      have t1 := h.1 k hk
      refine Or.inr ⟨k, hk, hq k hk, ?_, ?_⟩
      · rw [t1.1]
        refine and_ne.mpr ?_
        rcases hh with ⟨a, b⟩ | ⟨a, b⟩
        · exact ⟨(B k).toInt.toNat, (E_bt t1.2.1 t1.2.2 _).mpr (by omega), (hR _ (by omega)).mpr (by omega)⟩
        · exact ⟨(A k).toInt.toNat, (E_bt t1.2.1 t1.2.2 _).mpr (by omega), (hR _ (by omega)).mpr (by omega)⟩
      · rw [t1.1]
        refine (E_bt t1.2.1 t1.2.2 j).mpr ?_
        rcases hh with ⟨a, b⟩ | ⟨a, b⟩
        · exact Or.inl a.symm
        · exact Or.inr a.symm
theorem all_bt {n : Int32} (hn : 0 ≤ n.toInt ∧ n.toInt ≤ 12) {k : Nat} (hk : (k : Int) < n.toInt) : bt (((1 : Int32) <<< (n &&& 31)) - 1) k = true := by
  have key : ∀ m, m < 13 → ∀ k, k < m → bt (((1 : Int32) <<< (nI m &&& 31)) - 1) k = true := by decide +kernel
  obtain ⟨m, hm, rfl⟩ : ∃ m : Nat, m < 13 ∧ n = nI m := ⟨n.toInt.toNat, by omega, b_nI (by omega) (by omega)⟩
  rw [nI_toInt (by omega)] at hk
  exact key m hm k (by omega)
/-- what a step over pipes reaches, pipe by pipe -/
def SO (E : Nat → Int32) (p q : Int32) (i : Int) (a : Int32) : Prop := ∀ j : Nat, bt a j = true ↔ (bt p j = true ∨ ∃ k : Nat, (k : Int) < i ∧ bt q k = true ∧ (E k &&& p).toInt ≠ 0 ∧ bt (E k) j = true)
theorem SO_0 {E : Nat → Int32} {p q : Int32} : SO E p q 0 p := fun j => ⟨Or.inl, fun h => by
  rcases h with h | ⟨k, hk, _⟩
  · exact h
  · exact absurd hk (by omega)⟩
theorem SO_no {E : Nat → Int32} {p q a i z : Int32} (h : SO E p q i.toInt a) (hi : 0 ≤ i.toInt) (hz : z.toInt = i.toInt + 1) (hn : ¬ (bt q i.toInt.toNat = true ∧ (E i.toInt.toNat &&& p).toInt ≠ 0)) : SO E p q z.toInt a := fun j => by
  rw [h j]
  constructor
  · rintro (h1 | ⟨k, hk, h2⟩)
    · exact Or.inl h1
    · exact Or.inr ⟨k, by omega, h2⟩
  · rintro (h1 | ⟨k, hk, h2, h3, h4⟩)
    · exact Or.inl h1
    · by_cases e : k = i.toInt.toNat
      · subst e; exact absurd ⟨h2, h3⟩ hn
      · exact Or.inr ⟨k, by omega, h2, h3, h4⟩
theorem SO_yes {E : Nat → Int32} {p q a i z : Int32} (h : SO E p q i.toInt a) (hi : 0 ≤ i.toInt) (hz : z.toInt = i.toInt + 1) (hy : bt q i.toInt.toNat = true) (hy2 : (E i.toInt.toNat &&& p).toInt ≠ 0) : SO E p q z.toInt (a ||| E i.toInt.toNat) := fun j => by
  rw [b_or, Bool.or_eq_true, h j]
  constructor
  · rintro ((h1 | ⟨k, hk, h2⟩) | h1)
    · exact Or.inl h1
    · exact Or.inr ⟨k, by omega, h2⟩
    · exact Or.inr ⟨i.toInt.toNat, by omega, hy, hy2, h1⟩
  · rintro (h1 | ⟨k, hk, h2, h3, h4⟩)
    · exact Or.inl (Or.inl h1)
    · by_cases e : k = i.toInt.toNat
      · subst e; exact Or.inr h4
      · exact Or.inl (Or.inr ⟨k, by omega, h2, h3, h4⟩)
theorem has_ne {p q : Int32} (h : 0 ≤ q.toInt ∧ q.toInt < 32) : ((p >>> (q &&& 31)) &&& 1).toInt ≠ 0 ↔ bt p q.toInt.toNat = true := by
  have t := vp_in_iff.mp (pk_andIn (p >>> (q &&& 31)) (m := 1) 1 (by decide) (by decide))
  rw [← has_bt h]
  omega
