/-! THE LAW -/
theorem arrK {args : Array Value} {s : State} (ty : FieldType) (hty : ty = .int ∨ ty = .boolean) (h : (Cond.arrayClass ty).before args s = true) : ∃ cA : ClassId, ArrOfT s cA ty ∧ va_RA s cA ty := by
  obtain ⟨cA, kA, comp, h1, h2, h3⟩ := Cond.arrayClass_spec h
  refine ⟨cA, fun n z => ⟨fun k h => (by cases h), kA, h2, comp, h3⟩, ?_⟩
  rcases hty with rfl | rfl <;> exact h1
section LAWR
variable {E : Ev} {ad : Nat → Nat} {G : Gm} {own : String} {cc : ByteArray} {nL d pc : Nat} {L : List (Nat × Value)} {st : List Value} {σ : Sg}
theorem r_sld (C : Cx E ad G own cc nL d) {b Ln : Nat} {xs : Nat → Int32} (hX : va_X b Ln xs (gS G) (gS G).heap ∧ b < (gS G).heap.size ∧ ¬ Aw ad b) {i : Int32} (hi : 0 ≤ i.toInt ∧ i.toInt < Ln) (v : Int32) (hv : xs i.toInt.toNat = v) (hd : decode cc pc = .ok (.iaload, 1)) (K : At E ad G nL (pc + 1) L (.int v :: st) σ) : At E ad G nL pc L (.int i :: .ref b :: st) σ := fun H locs ls hP hS hl => by
  subst hv
  exact va_sld C.x C.b hX.1 hX.2.1 hX.2.2 hS (ta_in hi) hd (K H locs ls hP hS hl)
theorem r_slen (C : Cx E ad G own cc nL d) {b Ln : Nat} {xs : Nat → Int32} (hX : va_X b Ln xs (gS G) (gS G).heap ∧ b < (gS G).heap.size ∧ ¬ Aw ad b) (hd : decode cc pc = .ok (.arraylength, 1)) (K : At E ad G nL (pc + 1) L (.int (nI Ln) :: st) σ) : At E ad G nL pc L (.ref b :: st) σ := fun H locs ls hP hS hl => va_slen C.x C.b hX.1 hX.2.1 hX.2.2 hS hd (K H locs ls hP hS hl)
def LwG (ad : Nat → Nat) (G : Gm) (b : Nat) : Prop := (gN G).sig.returnType = ret ∧ (gN G).locks = false ∧ gQ G = lw_Z (gB G) #[Value.ref b] (gS G) ∧ gA G = #[Value.ref b] ∧ gR G = room_1 ∧ (∀ k, k < 70 → (gS G).heap.size ≤ ad k) ∧ gK G ≤ 600000 ∧ gZ G ≤ 7302249
theorem r_lret (C : Cx E ad G own code nL d) {b : Nat} (T : LwG ad G b) (hd : decode code pc = .ok (.ireturn, 1)) : At E ad G nL pc L [.int 1] σ := by
  intro H locs ls hP hS hl
  obtain ⟨hr, hlk, hQ, hA, hR, had, hk, hz⟩ := T
  rw [hQ, hA, hR]
  refine va_forget (fun q hq => ?_) ?_
  · obtain ⟨k, h1, h2⟩ := hS.2.2 q hq
    rw [← h2]
    exact had k h1
  · refine W.widen (k := 600000) (n := 7302249) hk hz ?_
    exact lw_ret C.x C.b hr hlk hd
end LAWR
theorem sw36 (x : Int) : (x < 0 ∨ 36 < x) ∨ ∃ n : Nat, n < 37 ∧ x = (n : Int) := by
  by_cases h : x < 0 ∨ 36 < x
  · exact Or.inl h
  · exact Or.inr ⟨x.toNat, by omega, by omega⟩
def sg0 : Sg := fun k => if k = 25 then (fun j => if j = 0 then 255 else 0) else if k = 26 then neg8 else if k = 27 then (fun j => if j = 8 then -3 else 0) else if k = 53 then neg8 else fun _ => 0
def adF (h0 : Nat) (u : Nat → Nat) (h1 : Nat) (v : Nat → Nat) (aK aV : Nat → Nat) (t : Nat) : Nat → Nat := fun k => if k = 0 then h0 else if k < 39 then u (k - 1) else if k = 39 then h1 else if k < 70 then v (k - 40) else if k < 200 then aK (k - 100) else if k < 300 then aV (k - 200) else t
set_option maxHeartbeats 4000000 in
set_option maxRecDepth 100000 in
theorem ws_eq (E : Ev) (h0 : Nat) (u : Nat → Nat) (h1 : Nat) (v aK aV : Nat → Nat) (t : Nat) : wX8 E h0 u ++ wX9 E h1 v = wl E (adF h0 u h1 v aK aV t) sg0 := rfl

def FC (σ : Sg) : Prop := (σ 0 8).toInt = 0 ∧ (σ 2 6).toInt = 0 ∧ σ 2 7 = 0 ∧ σ 2 8 = 0 ∧ σ 2 9 = 0 ∧ (∀ j, σ 8 j = 0) ∧ (σ 9 6).toInt = 0 ∧ (σ 16 8).toInt = 0 ∧ σ 25 0 = 255 ∧ (∀ j, j < 8 → (σ 26 j).toInt = -1) ∧ (σ 27 1).toInt = 0 ∧ (σ 32 3).toInt = 0 ∧ (σ 32 5).toInt = 0 ∧ σ 32 6 = 0
def FM (σ : Sg) : Prop := (σ 39 0).toInt = 0 ∧ (σ 39 1).toInt = 0 ∧ (σ 39 8).toInt = 0 ∧ (σ 39 17).toInt = 0 ∧ (σ 39 29).toInt = 0 ∧ (σ 39 39).toInt = 0 ∧ σ 39 40 = 0 ∧ (σ 39 44).toInt = 0 ∧ (∀ j, σ 45 j = 0) ∧ (∀ j, j < 8 → (σ 52 j).toInt = 0) ∧ (∀ j, j < 8 → (σ 53 j).toInt = -1)
def FR (σ : Sg) : Prop := IC σ ∧ IM σ ∧ FC σ ∧ FM σ
theorem keepO {S : List Nat} {σ τ : Sg} (h : Off S σ τ) (hs : ∀ k ∈ S, k < 39) : ∀ k, 39 ≤ k → τ k = σ k := fun k hk => h k (fun q => absurd (hs k q) (by omega))
theorem IMc {σ τ : Sg} (h : ∀ k, 39 ≤ k → τ k = σ k) (hM : IM σ) : IM τ := by
  unfold IM at hM ⊢
  rw [h 39 (by omega), h 40 (by omega), h 41 (by omega), h 42 (by omega), h 54 (by omega), h 58 (by omega)]
  exact hM
theorem FMc {σ τ : Sg} (h : ∀ k, 39 ≤ k → τ k = σ k) (hM : FM σ) : FM τ := by
  unfold FM at hM ⊢
  rw [h 39 (by omega), h 45 (by omega), h 52 (by omega), h 53 (by omega)]
  exact hM
theorem src1 {p : Int32} (h : 0 ≤ p.toInt ∧ p.toInt < 10) : ((0 : Int32) ||| ((1 : Int32) <<< (p &&& 31))).toInt ≠ 0 := by
  have key : ∀ n, n < 10 → ((0 : Int32) ||| ((1 : Int32) <<< (nI n &&& 31))).toInt ≠ 0 := by decide +kernel
  obtain ⟨n, hn, rfl⟩ : ∃ n : Nat, n < 10 ∧ p = nI n := ⟨p.toInt.toNat, by omega, ta_inj (by rw [nI_toInt (by omega)]; omega)⟩
  exact key n hn
theorem ask0 (u : Int32) : (u &&& (((0 : Int32) ||| 0) ^^^ (-1))) = u := by
  have e : (((0 : Int32) ||| 0) ^^^ (-1)) = -1 := by decide
  rw [e]
  apply Int32.toBitVec_inj.mp
  rw [Int32.toBitVec_and]
  have e2 : (-1 : Int32).toBitVec = BitVec.allOnes 32 := by decide
  rw [e2, BitVec.and_allOnes]
theorem shr0 (u x : Int32) (h : x.toInt = 0) : (u >>> (x &&& 31)) = u := by
  have e : x = 0 := ta_inj h
  subst e
  have e1 : ((0 : Int32) &&& 31) = 0 := by decide
  rw [e1]
  apply Int32.toBitVec_inj.mp
  rw [Int32.toBitVec_shiftRight]
  simp
theorem neg8_at (j : Nat) (h : j < 8) : (neg8 j).toInt = -1 := by
  rcases (show j = 0 ∨ j = 1 ∨ j = 2 ∨ j = 3 ∨ j = 4 ∨ j = 5 ∨ j = 6 ∨ j = 7 by omega) with rfl | rfl | rfl | rfl | rfl | rfl | rfl | rfl <;> decide
theorem fr0 : FR sg0 := by
  have z : (0 : Int32).toInt = 0 := by decide
  refine ⟨?_, ?_, ?_, ?_⟩
  · simp only [IC, sg0]; decide
  · refine ⟨by decide, by decide, by decide, by decide, by decide, by decide, by decide, fun j _ => ?_, fun j _ => ?_, fun j _ => ?_, fun j _ => ?_, fun j _ => ?_⟩ <;> simp [sg0, z]
  · refine ⟨by decide, by decide, by decide, by decide, by decide, fun j => by simp [sg0], by decide, by decide, by decide, fun j h => neg8_at j h, by decide, by decide, by decide, by decide⟩
  · refine ⟨by decide, by decide, by decide, by decide, by decide, by decide, by decide, by decide, fun j => by simp [sg0], fun j _ => by simp [sg0, z], fun j h => neg8_at j h⟩
