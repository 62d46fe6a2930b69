/-! THE LAW -/
theorem arrK {args : Array Value} {s : State} (ty : FieldType) (hty : ty = .int ∨ ty = .boolean) (h : (Cond.arrayClass ty).before args s = true) : ∃ cA : ClassId, ArrOfT s cA ty ∧ va_RA s cA ty := by
  obtain ⟨cA, kA, comp, h1, h2, h3⟩ := Cond.arrayClass_spec h
  refine ⟨cA, fun n z => ⟨fun k h => (by cases h), kA, h2, comp, h3⟩, ?_⟩
  rcases hty with rfl | rfl <;> exact h1
section LAWR
variable {E : Ev} {ad : Nat → Nat} {G : Gm} {own : String} {cc : ByteArray} {nL d pc : Nat} {L : List (Nat × Value)} {st : List Value} {σ : Sg}
theorem r_sld (C : Cx E ad G own cc nL d) {b Ln : Nat} {xs : Nat → Int32} (hX : va_X b Ln xs (gS G) (gS G).heap ∧ b < (gS G).heap.size ∧ ¬ Aw ad b) {i : Int32} (hi : 0 ≤ i.toInt ∧ i.toInt < Ln) (v : Int32) (hv : xs i.toInt.toNat = v) (hd : decode cc pc = .ok (.iaload, 1)) (K : At E ad G nL (pc + 1) L (.int v :: st) σ) : At E ad G nL pc L (.int i :: .ref b :: st) σ := fun H locs ls hP hS hl => by
  subst hv
  exact va_sld C.x C.b hX.1 hX.2.1 hX.2.2 hS (ta_in hi) hd (K H locs ls hP hS hl)
theorem r_slen (C : Cx E ad G own cc nL d) {b Ln : Nat} {xs : Nat → Int32} (hX : va_X b Ln xs (gS G) (gS G).heap ∧ b < (gS G).heap.size ∧ ¬ Aw ad b) (hd : decode cc pc = .ok (.arraylength, 1)) (K : At E ad G nL (pc + 1) L (.int (nI Ln) :: st) σ) : At E ad G nL pc L (.ref b :: st) σ := fun H locs ls hP hS hl => va_slen C.x C.b hX.1 hX.2.1 hX.2.2 hS hd (K H locs ls hP hS hl)
def LwG (ad : Nat → Nat) (G : Gm) (b : Nat) : Prop := (gN G).sig.returnType = ret ∧ (gN G).locks = false ∧ gQ G = lw_Z (gB G) #[Value.ref b] (gS G) ∧ gA G = #[Value.ref b] ∧ gR G = room_1 ∧ (∀ k, k < 70 → (gS G).heap.size ≤ ad k) ∧ gK G ≤ 600000 ∧ gZ G ≤ 7302250
theorem r_lret (C : Cx E ad G own code nL d) {b : Nat} (T : LwG ad G b) (hd : decode code pc = .ok (.ireturn, 1)) : At E ad G nL pc L [.int 1] σ := by
  intro H locs ls hP hS hl
  obtain ⟨hr, hlk, hQ, hA, hR, had, hk, hz⟩ := T
  rw [hQ, hA, hR]
  refine va_forget (fun q hq => ?_) ?_
  · obtain ⟨k, h1, h2⟩ := hS.2.2 q hq
    rw [← h2]
    exact had k h1
  · refine W.widen (k := 600000) (n := 7302250) hk hz ?_
    exact lw_ret C.x C.b hr hlk hd
end LAWR
theorem sw36 (x : Int) : (x < 0 ∨ 36 < x) ∨ ∃ n : Nat, n < 37 ∧ x = (n : Int) := by
  by_cases h : x < 0 ∨ 36 < x
  · exact Or.inl h
  · exact Or.inr ⟨x.toNat, by omega, by omega⟩
def sg0 : Sg := fun k => if k = 25 then (fun j => if j = 0 then 255 else 0) else if k = 26 then neg8 else if k = 27 then (fun j => if j = 8 then -3 else 0) else if k = 53 then neg8 else fun _ => 0
def adF (h0 : Nat) (u : Nat → Nat) (h1 : Nat) (v : Nat → Nat) (aK aV : Nat → Nat) (t : Nat) : Nat → Nat := fun k => if k = 0 then h0 else if k < 39 then u (k - 1) else if k = 39 then h1 else if k < 70 then v (k - 40) else if k < 200 then aK (k - 100) else if k < 300 then aV (k - 200) else t
set_option maxHeartbeats 4000000 in
set_option maxRecDepth 100000 in
theorem ws_eq (E : Ev) (h0 : Nat) (u : Nat → Nat) (h1 : Nat) (v aK aV : Nat → Nat) (t : Nat) : wX8 E h0 u ++ wX9 E h1 v = wl E (adF h0 u h1 v aK aV t) sg0 := rfl
/-! WHAT HOLDS BETWEEN CALLS, of both -/
def EQn (σ : Sg) : Prop := (σ 0 8).toInt = (σ 39 0).toInt ∧ (σ 2 6).toInt = (σ 39 1).toInt ∧ (σ 27 1).toInt = (σ 39 29).toInt ∧ (σ 16 8).toInt = (σ 39 17).toInt
def SRC (f g : Nat → Int32) : Prop := ∀ p h : Nat, p < 10 → h < 3 → ((g (3 * p + h)).toInt = 0 ∨ (g (3 * p + h)).toInt = 1) ∧ (bt (f h) p = true ↔ (g (3 * p + h)).toInt = 1)
def FIT (x : Int32) (n : Int) (f : Nat → Int32) : Prop := ∀ j : Nat, bt x j = true ↔ ((j : Int) < n ∧ j < 12 ∧ (f j).toInt ≠ 2)
def Rel (σ : Sg) : Prop := IC σ ∧ IM σ ∧ EQn σ ∧ SRC (σ 8) (σ 45) ∧ FIT (σ 2 7 ||| σ 2 8) (σ 39 1).toInt (σ 42)
theorem keepO {S : List Nat} {σ τ : Sg} (h : Off S σ τ) (hs : ∀ k ∈ S, k < 39) : ∀ k, 39 ≤ k → τ k = σ k := fun k hk => h k (fun q => absurd (hs k q) (by omega))
theorem IMc {σ τ : Sg} (h : ∀ k, 39 ≤ k → τ k = σ k) (hM : IM σ) : IM τ := by
  unfold IM at hM ⊢
  rw [h 39 (by omega), h 40 (by omega), h 41 (by omega), h 42 (by omega), h 54 (by omega), h 58 (by omega)]
  exact hM
theorem Rel_off {S : List Nat} {σ υ : Sg} (h : Rel σ) (ho : Off S σ υ) (hS : ∀ k ∈ [0, 2, 8, 9, 16, 27, 32, 39, 40, 41, 42, 45, 54, 58], k ∉ S) : Rel υ := by
  unfold Rel IC IM EQn at h ⊢
  rw [ho 0 (hS 0 (by decide)), ho 2 (hS 2 (by decide)), ho 8 (hS 8 (by decide)), ho 9 (hS 9 (by decide)), ho 16 (hS 16 (by decide)), ho 27 (hS 27 (by decide)), ho 32 (hS 32 (by decide)), ho 39 (hS 39 (by decide)), ho 40 (hS 40 (by decide)), ho 41 (hS 41 (by decide)), ho 42 (hS 42 (by decide)), ho 45 (hS 45 (by decide)), ho 54 (hS 54 (by decide)), ho 58 (hS 58 (by decide))]
  exact h
theorem Rel_two {S T : List Nat} {σ τ υ : Sg} (h : Rel σ) (hc : Off S σ τ) (hm : Off T τ υ) (hS : ∀ k ∈ [0, 2, 8, 9, 16, 27, 32, 39, 40, 41, 42, 45, 54, 58], k ∉ S ++ T) : Rel υ :=
  Rel_off h ((hc.to (T := S ++ T) (fun k q => List.mem_append.mpr (Or.inl q))).tr (hm.to (T := S ++ T) (fun k q => List.mem_append.mpr (Or.inr q))) (fun _ q => q)) hS
theorem Rel_turn {σ τ υ : Sg} (h : Rel σ) (hc : Off [2] σ τ) (h2 : ∀ j, j ≠ 9 → τ 2 j = σ 2 j) (hm : Off [44] τ υ) : Rel υ := by
  have t : Rel τ := by
    unfold Rel IC IM EQn at h ⊢
    rw [hc 0 (by decide), hc 8 (by decide), hc 9 (by decide), hc 16 (by decide), hc 27 (by decide), hc 32 (by decide), hc 39 (by decide), hc 40 (by decide), hc 41 (by decide), hc 42 (by decide), hc 45 (by decide), hc 54 (by decide), hc 58 (by decide), h2 6 (by decide), h2 7 (by decide), h2 8 (by decide)]
    exact h
  exact Rel_off t hm (by decide)
theorem Rel_58 {σ : Sg} {j : Nat} {v : Int32} (h : Rel σ) (hv : v.toInt ≤ 7) : Rel (sUp σ 58 j v) := by
  obtain ⟨hI, ⟨n0, n1, n8, n17, n29, n39, n44, c40, c41, c42, c54, c58⟩, hR⟩ := h
  refine ⟨hI, ⟨n0, n1, n8, n17, n29, n39, n44, c40, c41, c42, c54, fun i hi => ?_⟩, hR⟩
  rw [sUp_eq]
  unfold upd
  split
  · exact hv
  · exact c58 i hi
theorem Rel_nums {S : List Nat} {σ υ : Sg} (h : Rel σ) (ho : Off S σ υ) (hS : ∀ k ∈ [2, 8, 16, 40, 41, 42, 45, 54, 58], k ∉ S) (e1 : υ 39 1 = σ 39 1) (e17 : υ 39 17 = σ 39 17) (a0 : 0 ≤ (υ 0 8).toInt ∧ (υ 0 8).toInt ≤ 300) (b0 : (υ 0 8).toInt = (υ 39 0).toInt) (a9 : 0 ≤ (υ 9 6).toInt ∧ (υ 9 6).toInt ≤ 12) (b9 : 0 ≤ (υ 39 8).toInt ∧ (υ 39 8).toInt ≤ 12) (a27 : 0 ≤ (υ 27 1).toInt ∧ (υ 27 1).toInt ≤ 60) (b27 : (υ 27 1).toInt = (υ 39 29).toInt) (a32 : 0 ≤ (υ 32 3).toInt ∧ (υ 32 3).toInt ≤ 7) (c32 : 0 ≤ (υ 32 5).toInt ∧ (υ 32 5).toInt ≤ 28) (b39 : 0 ≤ (υ 39 39).toInt ∧ (υ 39 39).toInt ≤ 7) (b44 : 0 ≤ (υ 39 44).toInt ∧ (υ 39 44).toInt ≤ 28) : Rel υ := by
  obtain ⟨hI, ⟨n0, n1, n8, n17, n29, n39, n44, c40, c41, c42, c54, c58⟩, hE, hs, hf⟩ := h
  have q2 := ho 2 (hS 2 (by decide))
  have q16 := ho 16 (hS 16 (by decide))
  unfold IC at hI
  unfold EQn at hE
  refine ⟨⟨by rw [q2]; exact hI.1, a9, by rw [q16]; exact hI.2.2.1, a0, a27, a32, c32⟩, ⟨by omega, by rw [e1]; exact n1, b9, by rw [e17]; exact n17, by omega, b39, b44, by rw [ho 40 (hS 40 (by decide))]; exact c40, by rw [ho 41 (hS 41 (by decide))]; exact c41, by rw [ho 42 (hS 42 (by decide))]; exact c42, by rw [ho 54 (hS 54 (by decide))]; exact c54, by rw [ho 58 (hS 58 (by decide))]; exact c58⟩, ⟨b0, by rw [q2, e1]; exact hE.2.1, b27, by rw [q16, e17]; exact hE.2.2.2⟩, ?_, ?_⟩
  · rw [ho 8 (hS 8 (by decide)), ho 45 (hS 45 (by decide))]; exact hs
  · rw [q2, e1, ho 42 (hS 42 (by decide))]; exact hf
/-! pipe -/
theorem FIT_pipe {x x' n u : Int32} {N : Int} {f : Nat → Int32} (hn : 0 ≤ n.toInt ∧ n.toInt < 12) (hN : N = n.toInt) (h : FIT x N f) (hx : x' = if u.toInt = 2 then x else x ||| ((1 : Int32) <<< (n &&& 31))) : FIT x' (N + 1) (upd f n.toInt.toNat u) := by
  intro j
  have t := h j
  by_cases e : j = n.toInt.toNat
  · subst e
    rw [pk_us]
    by_cases hu : u.toInt = 2
    · rw [hx, if_pos hu, t]
      exact ⟨fun q => absurd q.1 (by omega), fun q => absurd hu q.2.2⟩
    · rw [hx, if_neg hu, b_or, bt_one (by omega)]
      simp only [decide_true, Bool.or_true, true_iff]
      exact ⟨by omega, by omega, hu⟩
  · rw [pk_un e]
    have k : bt x' j = bt x j := by
      rw [hx]
      split
      · rfl
      · rw [b_or, bt_one (by omega), decide_eq_false e, Bool.or_false]
    rw [k, t]
    exact ⟨fun q => ⟨by omega, q.2⟩, fun q => ⟨by omega, q.2⟩⟩
theorem bd_u {f : Nat → Int32} {N j : Nat} {v : Int32} {a b : Int} (h : ∀ j, j < N → a ≤ (f j).toInt ∧ (f j).toInt ≤ b) (hv : a ≤ v.toInt ∧ v.toInt ≤ b) : ∀ i, i < N → a ≤ (upd f j v i).toInt ∧ (upd f j v i).toInt ≤ b := by
  intro i hi
  unfold upd
  split
  · exact hv
  · exact h i hi
theorem Rel_pipe {σ τ υ : Sg} {p q u : Int32} (h : Rel σ) (hv : 0 ≤ p.toInt ∧ p.toInt < 10 ∧ 0 ≤ q.toInt ∧ q.toInt < 10 ∧ p.toInt ≠ q.toInt ∧ 0 ≤ u.toInt ∧ u.toInt ≤ 2) (h12 : (σ 2 6).toInt < 12) (hc : Off [2, 3, 4, 5, 6, 7] σ τ) (c6 : (τ 2 6).toInt = (σ 2 6).toInt + 1) (cf : τ 2 7 ||| τ 2 8 = (if u.toInt = 2 then σ 2 7 ||| σ 2 8 else (σ 2 7 ||| σ 2 8) ||| ((1 : Int32) <<< (σ 2 6 &&& 31)))) (hm : Off [39, 40, 41, 42, 43, 44] τ υ) (m1 : (υ 39 1).toInt = (τ 39 1).toInt + 1) (mj : ∀ j, j ≠ 1 → υ 39 j = τ 39 j) (m40 : υ 40 = upd (τ 40) (τ 39 1).toInt.toNat p) (m41 : υ 41 = upd (τ 41) (τ 39 1).toInt.toNat q) (m42 : υ 42 = upd (τ 42) (τ 39 1).toInt.toNat u) : Rel υ := by
  obtain ⟨hI, ⟨n0, n1, n8, n17, n29, n39, n44, c40, c41, c42, c54, c58⟩, hE, hs, hf⟩ := h
  unfold IC at hI
  unfold EQn at hE
  have q39 := hc 39 (by decide)
  have q2 := hm 2 (by decide)
  have k : ∀ k, k ∉ [2, 3, 4, 5, 6, 7, 39, 40, 41, 42, 43, 44] → υ k = σ k := fun k hk => (hm k (fun z => hk (by simp at z ⊢; omega))).trans (hc k (fun z => hk (by simp at z ⊢; omega)))
  have e1 : (τ 39 1).toInt = (σ 39 1).toInt := by rw [q39]
  refine ⟨⟨by rw [q2]; omega, by rw [k 9 (by decide)]; exact hI.2.1, by rw [k 16 (by decide)]; exact hI.2.2.1, by rw [k 0 (by decide)]; exact hI.2.2.2.1, by rw [k 27 (by decide)]; exact hI.2.2.2.2.1, by rw [k 32 (by decide)]; exact hI.2.2.2.2.2.1, by rw [k 32 (by decide)]; exact hI.2.2.2.2.2.2⟩,
    ⟨by rw [mj 0 (by decide), q39]; exact n0, by omega, by rw [mj 8 (by decide), q39]; exact n8, by rw [mj 17 (by decide), q39]; exact n17, by rw [mj 29 (by decide), q39]; exact n29, by rw [mj 39 (by decide), q39]; exact n39, by rw [mj 44 (by decide), q39]; exact n44, ?_, ?_, ?_, by rw [k 54 (by decide)]; exact c54, by rw [k 58 (by decide)]; exact c58⟩,
    ⟨by rw [k 0 (by decide), mj 0 (by decide), q39]; exact hE.1, by rw [q2]; omega, by rw [k 27 (by decide), mj 29 (by decide), q39]; exact hE.2.2.1, by rw [k 16 (by decide), mj 17 (by decide), q39]; exact hE.2.2.2⟩, ?_, ?_⟩
  · rw [m40, hc 40 (by decide)]; exact bd_u c40 (by omega)
  · rw [m41, hc 41 (by decide)]; exact bd_u c41 (by omega)
  · rw [m42, hc 42 (by decide)]; exact bd_u c42 (by omega)
  · rw [k 8 (by decide), k 45 (by decide)]; exact hs
  · have t := FIT_pipe (n := σ 2 6) (u := u) (by omega) hE.2.1.symm hf cf
    rw [q2, m42, hc 42 (by decide), m1, e1]
    rw [show (σ 39 1).toInt.toNat = (σ 2 6).toInt.toNat by omega]
    exact t
/-! ask -/
theorem nn31 {x : Int32} : 0 ≤ x.toInt ↔ bt x 31 = false := by
  have h1 : x.toInt = x.toBitVec.toInt := rfl
  have h2 := BitVec.msb_eq_toInt (x := x.toBitVec)
  have h3 := BitVec.msb_eq_getLsbD_last x.toBitVec
  have h4 : bt x 31 = x.toBitVec.msb := h3.symm
  rw [h4, h2, h1]
  simp
theorem ask_eq {u x n : Int32} {N : Int} {f : Nat → Int32} (hn : 0 ≤ n.toInt ∧ n.toInt ≤ 12) (hN : N = n.toInt) (hF : FIT x N f) : (u &&& (x ^^^ (-1))).toInt = 0 ↔ (0 ≤ u.toInt ∧ (u >>> (n &&& 31)).toInt = 0 ∧ ¬ (∃ j : Nat, j < 12 ∧ (j : Int) < n.toInt ∧ ((u >>> (nI j &&& 31)) &&& 1).toInt = 1 ∧ (f j).toInt = 2)) := by
  subst hN
  obtain ⟨m, hm, rfl⟩ : ∃ m : Nat, m < 13 ∧ n = nI m := ⟨n.toInt.toNat, by omega, b_nI (by omega) (by omega)⟩
  have em : (nI m).toInt = (m : Int) := nI_toInt (by omega)
  constructor
  · intro h
    have hs : sb u x := sb_of h
    have hlt : ∀ j, bt u j = true → (j : Int) < (nI m).toInt ∧ j < 12 ∧ (f j).toInt ≠ 2 := fun j hj => (hF j).mp (hs j hj)
    have hno : ∀ j, m ≤ j → bt u j = false := fun j hj => by
      cases hb : bt u j
      · rfl
      · exact absurd (hlt j hb).1 (by omega)
    refine ⟨nn31.mpr (hno 31 (by omega)), ?_, ?_⟩
    · have e : u >>> (nI m &&& 31) = 0 := b_ext (fun i hi => by
        rw [b_sshr m (by omega) u hi, b_0]
        split
        · exact hno _ (by omega)
        · exact hno 31 (by omega))
      rw [e]; rfl
    · rintro ⟨j, h1, h2, h3, h4⟩
      have e0 : (nI j).toInt.toNat = j := by rw [nI_toInt (by omega)]; omega
      have t := (has_bt (p := u) (q := nI j) (by rw [nI_toInt (by omega)]; omega)).mp h3
      rw [e0] at t
      exact (hlt j t).2.2 h4
  · rintro ⟨h1, h2, h3⟩
    have b31 := nn31.mp h1
    have e : u >>> (nI m &&& 31) = 0 := ta_inj h2
    have hno : ∀ j, m ≤ j → bt u j = false := fun j hj => by
      by_cases hj2 : j < 32
      · have t := b_sshr m (by omega) u (i := j - m) (by omega)
        rw [e, b_0, if_pos (by omega), show m + (j - m) = j by omega] at t
        exact t.symm
      · exact b_big (by omega)
    have hs : sb u x := fun j hj => by
      have hjm : j < m := by
        by_cases q : j < m
        · exact q
        · rw [hno j (by omega)] at hj; cases hj
      have e0 : (nI j).toInt.toNat = j := by rw [nI_toInt (by omega)]; omega
      refine (hF j).mpr ⟨by omega, by omega, fun h4 => h3 ⟨j, by omega, by omega, ?_, h4⟩⟩
      exact (has_bt (p := u) (q := nI j) (by rw [nI_toInt (by omega)]; omega)).mpr (by rw [e0]; exact hj)
    have t := df_z hs
    unfold df at t
    rw [t]; rfl
theorem Rel_ask {σ τ υ : Sg} {p : Int32} (h : Rel σ) (hp : 0 ≤ p.toInt ∧ p.toInt < 10) (h7 : (σ 16 8).toInt < 7) (hc : Off [16, 17, 18, 19, 20, 21, 22, 23, 24] σ τ) (c8 : (τ 16 8).toInt = (σ 16 8).toInt + 1) (hm : Off [39, 54, 55, 56, 57, 58, 59, 60, 61] τ υ) (m17 : (υ 39 17).toInt = (τ 39 17).toInt + 1) (mj : ∀ j, j ≠ 17 → υ 39 j = τ 39 j) (m54 : υ 54 = upd (τ 54) (τ 39 17).toInt.toNat p) (m58 : υ 58 = upd (τ 58) (τ 39 17).toInt.toNat (-1)) : Rel υ := by
  obtain ⟨hI, ⟨n0, n1, n8, n17, n29, n39, n44, c40, c41, c42, c54, c58⟩, hE, hs, hf⟩ := h
  unfold IC at hI
  unfold EQn at hE
  have q39 := hc 39 (by decide)
  have q16 := hm 16 (by decide)
  have k : ∀ k, k ∉ [16, 17, 18, 19, 20, 21, 22, 23, 24, 39, 54, 55, 56, 57, 58, 59, 60, 61] → υ k = σ k := fun k hk => (hm k (fun z => hk (by simp at z ⊢; omega))).trans (hc k (fun z => hk (by simp at z ⊢; omega)))
  have e17 : (τ 39 17).toInt = (σ 39 17).toInt := by rw [q39]
  refine ⟨⟨by rw [k 2 (by decide)]; exact hI.1, by rw [k 9 (by decide)]; exact hI.2.1, by rw [q16]; omega, by rw [k 0 (by decide)]; exact hI.2.2.2.1, by rw [k 27 (by decide)]; exact hI.2.2.2.2.1, by rw [k 32 (by decide)]; exact hI.2.2.2.2.2.1, by rw [k 32 (by decide)]; exact hI.2.2.2.2.2.2⟩,
    ⟨by rw [mj 0 (by decide), q39]; exact n0, by rw [mj 1 (by decide), q39]; exact n1, by rw [mj 8 (by decide), q39]; exact n8, by omega, by rw [mj 29 (by decide), q39]; exact n29, by rw [mj 39 (by decide), q39]; exact n39, by rw [mj 44 (by decide), q39]; exact n44, by rw [k 40 (by decide)]; exact c40, by rw [k 41 (by decide)]; exact c41, by rw [k 42 (by decide)]; exact c42, ?_, ?_⟩,
    ⟨by rw [k 0 (by decide), mj 0 (by decide), q39]; exact hE.1, by rw [k 2 (by decide), mj 1 (by decide), q39]; exact hE.2.1, by rw [k 27 (by decide), mj 29 (by decide), q39]; exact hE.2.2.1, by rw [q16]; omega⟩, ?_, ?_⟩
  · rw [m54, hc 54 (by decide)]; exact bd_u c54 (by omega)
  · rw [m58, hc 58 (by decide)]
    intro i hi
    unfold upd
    split
    · decide
    · exact c58 i hi
  · rw [k 8 (by decide), k 45 (by decide)]; exact hs
  · rw [k 2 (by decide), k 42 (by decide), mj 1 (by decide), q39]; exact hf
/-! source -/
theorem val_bt {x p u : Int32} (hp : 0 ≤ p.toInt ∧ p.toInt < 32) (j : Nat) : bt (if u.toInt ≠ 0 then x ||| ((1 : Int32) <<< (p &&& 31)) else x &&& (((1 : Int32) <<< (p &&& 31)) ^^^ (-1))) j = if j = p.toInt.toNat then decide (u.toInt ≠ 0) else bt x j := by
  by_cases hu : u.toInt ≠ 0
  · rw [if_pos hu, b_or, bt_one hp]
    by_cases e : j = p.toInt.toNat
    · rw [if_pos e, decide_eq_true e, Bool.or_true, decide_eq_true hu]
    · rw [if_neg e, decide_eq_false e, Bool.or_false]
  · rw [if_neg hu]
    have t := df_bt x ((1 : Int32) <<< (p &&& 31)) j
    unfold df at t
    rw [t, bt_one hp]
    by_cases e : j = p.toInt.toNat
    · rw [if_pos e, decide_eq_true e, decide_eq_false hu]; simp
    · rw [if_neg e, decide_eq_false e]; simp
theorem val_eq {x p u y : Int32} (hp : 0 ≤ p.toInt ∧ p.toInt < 32) (hu : u.toInt = 0 ∨ u.toInt = 1) (hy : y.toInt = 0 ∨ y.toInt = 1) (h : bt x p.toInt.toNat = true ↔ y.toInt = 1) : (if u.toInt ≠ 0 then x ||| ((1 : Int32) <<< (p &&& 31)) else x &&& (((1 : Int32) <<< (p &&& 31)) ^^^ (-1))).toInt = x.toInt ↔ y.toInt = u.toInt := by
  constructor
  · intro e
    have e := ta_inj e
    have t := val_bt (x := x) (u := u) hp p.toInt.toNat
    rw [e, if_pos rfl] at t
    rw [t] at h
    rcases hu with hu | hu <;> rw [hu] at h ⊢
    · simp at h; omega
    · simp at h; omega
  · intro e
    congr 1
    refine b_ext (fun j _ => ?_)
    rw [val_bt hp]
    split
    · rename_i ej
      subst ej
      cases hb : bt x p.toInt.toNat
      · have t : ¬ y.toInt = 1 := fun q => by rw [h.mpr q] at hb; cases hb
        exact decide_eq_false (by omega)
      · have t := h.mp hb
        exact decide_eq_true (by omega)
    · rfl
theorem Rel_source {σ : Sg} {p q u : Int32} (h : Rel σ) (hv : 0 ≤ p.toInt ∧ p.toInt < 10 ∧ 0 ≤ q.toInt ∧ q.toInt < 3) (hu : u.toInt = 0 ∨ u.toInt = 1) : Rel (sUp (sUp σ 8 q.toInt.toNat (if u.toInt ≠ 0 then (σ 8 q.toInt.toNat) ||| ((1 : Int32) <<< (p &&& 31)) else (σ 8 q.toInt.toNat) &&& (((1 : Int32) <<< (p &&& 31)) ^^^ (-1)))) 45 (3 * p.toInt + q.toInt).toNat u) ∧ ((if u.toInt ≠ 0 then (σ 8 q.toInt.toNat) ||| ((1 : Int32) <<< (p &&& 31)) else (σ 8 q.toInt.toNat) &&& (((1 : Int32) <<< (p &&& 31)) ^^^ (-1))).toInt = (σ 8 q.toInt.toNat).toInt ↔ (σ 45 (3 * p.toInt + q.toInt).toNat).toInt = u.toInt) := by
  obtain ⟨hI, hM, hE, hs, hf⟩ := h
  have e := hs p.toInt.toNat q.toInt.toNat (by omega) (by omega)
  rw [show 3 * p.toInt.toNat + q.toInt.toNat = (3 * p.toInt + q.toInt).toNat by omega] at e
  refine ⟨⟨hI, hM, hE, ?_, hf⟩, val_eq (by omega) hu e.1 e.2⟩
  intro a b ha hb
  show ((upd (σ 45) (3 * p.toInt + q.toInt).toNat u (3 * a + b)).toInt = 0 ∨ (upd (σ 45) (3 * p.toInt + q.toInt).toNat u (3 * a + b)).toInt = 1) ∧ (bt (upd (σ 8) q.toInt.toNat _ b) a = true ↔ (upd (σ 45) (3 * p.toInt + q.toInt).toNat u (3 * a + b)).toInt = 1)
  have e2 := hs a b ha hb
  by_cases eb : b = q.toInt.toNat
  · subst eb
    rw [pk_us, val_bt (by omega)]
    by_cases ea : a = p.toInt.toNat
    · subst ea
      rw [if_pos rfl, show 3 * p.toInt.toNat + q.toInt.toNat = (3 * p.toInt + q.toInt).toNat by omega, pk_us]
      refine ⟨hu, ?_⟩
      rcases hu with hu | hu <;> rw [hu] <;> simp
    · rw [if_neg ea, pk_un (by omega)]
      exact e2
  · rw [pk_un eb, pk_un (by omega)]
    exact e2
theorem rel0 : Rel sg0 := by
  have z : (0 : Int32).toInt = 0 := by decide
  refine ⟨?_, ?_, ?_, ?_, ?_⟩
  · simp only [IC, sg0]; decide
  · refine ⟨by decide, by decide, by decide, by decide, by decide, by decide, by decide, fun j _ => ?_, fun j _ => ?_, fun j _ => ?_, fun j _ => ?_, fun j _ => ?_⟩ <;> simp [sg0, z]
  · simp only [EQn, sg0]; decide
  · intro p h _ _
    show ((0 : Int32).toInt = 0 ∨ (0 : Int32).toInt = 1) ∧ (bt 0 p = true ↔ (0 : Int32).toInt = 1)
    rw [b_0, z]
    simp
  · intro j
    show bt ((0 : Int32) ||| 0) j = true ↔ ((j : Int) < (0 : Int32).toInt ∧ j < 12 ∧ (0 : Int32).toInt ≠ 2)
    rw [b_or, b_0, z]
    simp
    omega
/-! PIPES of both -/
def ENDS (n : Int) (E A B : Nat → Int32) : Prop := ∀ k : Nat, (k : Int) < n → E k = ((1 : Int32) <<< (A k &&& 31)) ||| ((1 : Int32) <<< (B k &&& 31))
def TOLD (n h : Int) (f : Nat → Int32) : Prop := ∀ k : Nat, (k : Int) < n → (f k).toInt ≤ h
def Rel3 (σ : Sg) : Prop := Rel σ ∧ ENDS (σ 39 1).toInt (σ 5) (σ 40) (σ 41) ∧ TOLD (σ 39 1).toInt (σ 39 0).toInt (σ 43)
theorem ENDS_up {n : Int} {E A B : Nat → Int32} {p q : Int32} {k : Nat} (h : ENDS n E A B) (hk : (k : Int) = n) : ENDS (n + 1) (upd E k (((1 : Int32) <<< (p &&& 31)) ||| ((1 : Int32) <<< (q &&& 31)))) (upd A k p) (upd B k q) := by
  intro j hj
  by_cases e : j = k
  · subst e; rw [pk_us, pk_us, pk_us]
  · rw [pk_un e, pk_un e, pk_un e]; exact h j (by omega)
theorem TOLD_up {n h : Int} {f : Nat → Int32} {v : Int32} {k : Nat} (ht : TOLD n h f) (hk : (k : Int) = n) (hv : v.toInt ≤ h) : TOLD (n + 1) h (upd f k v) := by
  intro j hj
  by_cases e : j = k
  · subst e; rw [pk_us]; exact hv
  · rw [pk_un e]; exact ht j (by omega)
theorem Rel3_off {σ υ : Sg} (h : Rel3 σ) (hR : Rel υ) (e5 : υ 5 = σ 5) (e40 : υ 40 = σ 40) (e41 : υ 41 = σ 41) (e43 : υ 43 = σ 43) (e1 : (υ 39 1).toInt = (σ 39 1).toInt) (e0 : (σ 39 0).toInt ≤ (υ 39 0).toInt) : Rel3 υ := by
  refine ⟨hR, ?_, ?_⟩
  · rw [e5, e40, e41, e1]; exact h.2.1
  · rw [e43, e1]; exact fun k hk => Int.le_trans (h.2.2 k hk) e0
theorem rel30 : Rel3 sg0 := by
  refine ⟨rel0, fun k hk => absurd hk ?_, fun k hk => absurd hk ?_⟩
  · show ¬ (k : Int) < (0 : Int32).toInt
    rw [Int32.toInt_zero]; omega
  · show ¬ (k : Int) < (0 : Int32).toInt
    rw [Int32.toInt_zero]; omega
