/-! THE WORLD: one list of 70 cells (the class's 0..38, the reference's 39..69) over a state σ: what cell k holds at place j -/
abbrev Sg : Type := Nat → Nat → Int32
def sUp (σ : Sg) (k j : Nat) (v : Int32) : Sg := fun a => if a = k then upd (σ a) j v else σ a
theorem sUp_ne {σ : Sg} {k j a : Nat} {v : Int32} (h : a ≠ k) : sUp σ k j v a = σ a := if_neg h
theorem sUp_eq {σ : Sg} {k j : Nat} {v : Int32} : sUp σ k j v k = upd (σ k) j v := if_pos rfl
abbrev classes : List vw_C := [(RX0, TX0, 2), (RX1, TX1, 2), (RX2, TX2, 10), (RX3, TX3, 9), (RX4, TX4, 10), (RX5, TX5, 4), (RX6, TX6, 7), (RX7, TX7, 9), (RX8, TX8, 9), (RX9, TX9, 47)]
def ent (cI cZ : ClassId) (ad : Nat → Nat) (k : Nat) (f : Nat → Int32) : va_E := match k with
  | 0 => .inr (8, [.ref (ad 1), .ref (ad 2), .ref (ad 9), .ref (ad 16), .ref (ad 25), .ref (ad 27), .ref (ad 29), .ref (ad 32), .int (f 8)])
  | 1 => .inr (5, [.ref (ad 2), .ref (ad 9), .ref (ad 16), .ref (ad 25)])
  | 2 => .inr (2, [.ref (ad 3), .ref (ad 4), .ref (ad 5), .ref (ad 6), .ref (ad 7), .ref (ad 8), .int (f 6), .int (f 7), .int (f 8), .int (f 9)])
  | 3 => .inl (cI, 12, .inl f)
  | 4 => .inl (cI, 12, .inl f)
  | 5 => .inl (cI, 12, .inl f)
  | 6 => .inl (cI, 12, .inl f)
  | 7 => .inl (cI, 12, .inl f)
  | 8 => .inl (cI, 3, .inl f)
  | 9 => .inr (6, [.ref (ad 10), .ref (ad 11), .ref (ad 12), .ref (ad 13), .ref (ad 14), .ref (ad 15), .int (f 6)])
  | 10 => .inl (cI, 12, .inl f)
  | 11 => .inl (cI, 12, .inl f)
  | 12 => .inl (cI, 12, .inl f)
  | 13 => .inl (cI, 12, .inl f)
  | 14 => .inl (cI, 12, .inl f)
  | 15 => .inl (cI, 12, .inl f)
  | 16 => .inr (3, [.ref (ad 17), .ref (ad 18), .ref (ad 19), .ref (ad 20), .ref (ad 21), .ref (ad 22), .ref (ad 23), .ref (ad 24), .int (f 8)])
  | 17 => .inl (cI, 7, .inl f)
  | 18 => .inl (cI, 7, .inl f)
  | 19 => .inl (cI, 7, .inl f)
  | 20 => .inl (cI, 7, .inl f)
  | 21 => .inl (cI, 7, .inl f)
  | 22 => .inl (cI, 7, .inl f)
  | 23 => .inl (cI, 7, .inl f)
  | 24 => .inl (cI, 7, .inl f)
  | 25 => .inr (0, [.int (f 0), .ref (ad 26)])
  | 26 => .inl (cI, 8, .inl f)
  | 27 => .inr (7, [.ref (ad 28), .int (f 1), .int (f 2), .int (f 3), .int (f 4), .int (f 5), .int (f 6), .int (f 7), .int (f 8)])
  | 28 => .inl (cI, 60, .inl f)
  | 29 => .inr (1, [.ref (ad 30), .ref (ad 31)])
  | 30 => .inl (cI, 301, .inl f)
  | 31 => .inl (cI, 301, .inl f)
  | 32 => .inr (4, [.ref (ad 33), .ref (ad 34), .ref (ad 35), .int (f 3), .int (f 4), .int (f 5), .int (f 6), .ref (ad 36), .ref (ad 37), .ref (ad 38)])
  | 33 => .inl (cI, 7, .inl f)
  | 34 => .inl (cI, 84, .inl f)
  | 35 => .inl (cI, 84, .inl f)
  | 36 => .inl (cI, 7, .inl f)
  | 37 => .inl (cI, 7, .inl f)
  | 38 => .inl (cI, 896, .inl f)
  | 39 => .inr (9, [.int (f 0), .int (f 1), .ref (ad 40), .ref (ad 41), .ref (ad 42), .ref (ad 43), .ref (ad 44), .ref (ad 45), .int (f 8), .ref (ad 46), .ref (ad 47), .ref (ad 48), .ref (ad 49), .ref (ad 50), .ref (ad 51), .ref (ad 52), .ref (ad 53), .int (f 17), .ref (ad 54), .ref (ad 55), .ref (ad 56), .ref (ad 57), .ref (ad 58), .ref (ad 59), .ref (ad 60), .ref (ad 61), .ref (ad 62), .ref (ad 63), .ref (ad 64), .int (f 29), .ref (ad 65), .int (f 31), .int (f 32), .int (f 33), .int (f 34), .int (f 35), .int (f 36), .int (f 37), .ref (ad 66), .int (f 39), .int (f 40), .ref (ad 67), .int (f 42), .ref (ad 68), .int (f 44), .ref (ad 69), .int (f 46)])
  | 40 => .inl (cI, 12, .inl f)
  | 41 => .inl (cI, 12, .inl f)
  | 42 => .inl (cI, 12, .inl f)
  | 43 => .inl (cI, 12, .inl f)
  | 44 => .inl (cZ, 12, .inl f)
  | 45 => .inl (cZ, 30, .inl f)
  | 46 => .inl (cI, 12, .inl f)
  | 47 => .inl (cI, 12, .inl f)
  | 48 => .inl (cI, 12, .inl f)
  | 49 => .inl (cI, 12, .inl f)
  | 50 => .inl (cI, 12, .inl f)
  | 51 => .inl (cI, 12, .inl f)
  | 52 => .inl (cZ, 8, .inl f)
  | 53 => .inl (cI, 8, .inl f)
  | 54 => .inl (cI, 7, .inl f)
  | 55 => .inl (cI, 7, .inl f)
  | 56 => .inl (cI, 7, .inl f)
  | 57 => .inl (cI, 7, .inl f)
  | 58 => .inl (cI, 7, .inl f)
  | 59 => .inl (cI, 7, .inl f)
  | 60 => .inl (cI, 7, .inl f)
  | 61 => .inl (cI, 7, .inl f)
  | 62 => .inl (cI, 301, .inl f)
  | 63 => .inl (cI, 301, .inl f)
  | 64 => .inl (cI, 60, .inl f)
  | 65 => .inl (cI, 10, .inl f)
  | 66 => .inl (cI, 896, .inl f)
  | 67 => .inl (cI, 7, .inl f)
  | 68 => .inl (cI, 84, .inl f)
  | 69 => .inl (cI, 84, .inl f)
  | _ => .inl (cI, 0, .inl f)
def wld (cI cZ : ClassId) (ad : Nat → Nat) (σ : Sg) : va_W := (List.range 70).map (fun k => (ad k, ent cI cZ ad k (σ k)))
theorem wld_get {cI cZ : ClassId} {ad : Nat → Nat} {σ : Sg} {k : Nat} (h : k < 70) : (wld cI cZ ad σ)[k]? = some (ad k, ent cI cZ ad k (σ k)) := by
  simp [wld, h]
theorem wld_none {cI cZ : ClassId} {ad : Nat → Nat} {σ : Sg} {k : Nat} (h : ¬ k < 70) : (wld cI cZ ad σ)[k]? = none := by
  simp [wld]; omega
theorem wld_set {cI cZ : ClassId} {ad : Nat → Nat} {σ σ' : Sg} {k : Nat} {e : va_E} (h : k < 70) (he : ent cI cZ ad k (σ' k) = e) (hn : ∀ j, j ≠ k → σ' j = σ j) : (wld cI cZ ad σ).set k (ad k, e) = wld cI cZ ad σ' := by
  apply List.ext_getElem?
  intro i
  by_cases hi : i = k
  · subst hi
    rw [List.getElem?_set_self (by simp [wld]; exact h), wld_get h, he]
  · rw [List.getElem?_set_ne (Ne.symm hi)]
    by_cases h2 : i < 70
    · rw [wld_get h2, wld_get h2, hn i hi]
    · rw [wld_none h2, wld_none h2]
def Aw (ad : Nat → Nat) : Nat → Prop := fun q => ∃ k, k < 70 ∧ ad k = q
def AdOk (ad : Nat → Nat) : Prop := ∀ i j, i < 70 → j < 70 → ad i = ad j → i = j
theorem wld_D {cI cZ : ClassId} {ad : Nat → Nat} {σ : Sg} (h : AdOk ad) : va_D (Aw ad) (wld cI cZ ad σ) := by
  have key : ∀ (k : Nat) (q : Nat × va_E), (wld cI cZ ad σ)[k]? = some q → k < 70 ∧ q.1 = ad k := by
    intro k q hq
    by_cases hk : k < 70
    · rw [wld_get hk] at hq
      cases hq
      exact ⟨hk, rfl⟩
    · rw [wld_none hk] at hq
      cases hq
  exact ⟨fun i j x y hi hj hxy => h i j (key i x hi).1 (key j y hj).1 (by rw [← (key i x hi).2, ← (key j y hj).2]; exact hxy), fun k q hk => ⟨k, (key k q hk).1, (key k q hk).2.symm⟩⟩
/-! THE WORDS -/
def lw_g : List Cond := lw_tbl.filter goodWord
theorem g_in {w : Cond} (h : w ∈ lw_tbl) (hg : goodWord w = true) : w ∈ lw_g := List.mem_filter.mpr ⟨h, hg⟩
theorem gI {ws : List Cond} (h : ∀ w ∈ ws, w ∈ lw_g) : GoodIn lw_g ws := fun w hw => ⟨h w hw, good_of_word (List.mem_filter.mp (h w hw)).2⟩
/-! WHAT LIES OUTSIDE: six texts, the switch of texts, a table of six numbers, a link -/
def slen : List Nat := [31, 15, 15, 4, 6, 2]
def sbyt : List (List Int32) := [[110, 101, 101, 100, 32, 98, 97, 114, 32, 100, 111, 117, 98, 108, 101, 32, 109, 101, 110, 32, 104, 111, 117, 114, 115, 32, 119, 97, 116, 99, 104], [103, 97, 115, 32, 115, 116, 101, 97, 109, 32, 112, 111, 119, 101, 114], [99, 111, 108, 100, 32, 104, 111, 116, 32, 118, 101, 115, 115, 101, 108], [116, 101, 115, 116], [119, 105, 116, 104, 105, 110], [116, 111]]
def sidx (i : Nat) : Nat := ([42, 48, 50, 58, 64, 66] : List Nat).getD i 0
def stx (i : Nat) : String := (["need bar double men hours watch", "gas steam power", "cold hot vessel", "test", "within", "to"] : List String).getD i ""
def gof (j : Nat) : Int32 := ([1, 30, 22, 8, 22, 8] : List Int32).getD j 0
def Fx (ad : Nat → Nat) (U : State) : Prop :=
  vk_S 6 slen sbyt (fun i => ad (100 + i)) (fun i => ad (200 + i)) (Aw ad) U U.heap ∧ (∀ i, i < 6 → vk_R RX7 (sidx i) (stx i) (ad (100 + i)) U) ∧
  va_Z "java/lang/String" "COMPACT_STRINGS" "Z" (.int 1) (Aw ad) U U.heap ∧ va_Zq "jdk/internal/util/Preconditions" "SIOOBE_FORMATTER" "Ljava/util/function/BiFunction;" (Aw ad) U U.heap ∧
  va_Z "PermitRoom$Plant" "GOES_FROM" "[I" (.ref (ad 300)) (Aw ad) U U.heap ∧ va_T .int (ad 300) 6 (fun j => .int (gof j)) (Aw ad) U U.heap ∧
  va_Nw (.methodLinkNest RX0 19 yX8_isMan "PermitRoom") U
theorem Fx.to {ad : Nat → Nat} {s U : State} (h : Fx ad s) (hW : s.WarmedH U.vm) (hq : ∀ a : Nat, a < s.heap.size → ¬ Aw ad a → U.heap[a]? = s.heap[a]?) : Fx ad U := by
  obtain ⟨h1, h2, h3, h4, h5, h6, h7⟩ := h
  exact ⟨(h1.moved hW.alike).kept hq, fun i hi => (h2 i hi).warm hW, (h3.moved hW.alike).kept hq, (h4.moved hW.alike).kept hq, (h5.moved hW.alike).kept hq, (h6.moved hW.alike).kept hq, va_Nw.warmM hW h7⟩
theorem Fx.same {ad : Nat → Nat} {s U : State} (h : Fx ad s) (hv : U.vm = s.vm) (hq : U.heap = s.heap) : Fx ad U := by
  obtain ⟨h1, h2, h3, h4, h5, h6, h7⟩ := h
  have ha : s.vm.Alike U.vm := by rw [hv]; exact Vm.Alike.refl _
  rw [Fx, hq]
  exact ⟨h1.moved ha, fun i hi => (h2 i hi).same hv, h3.moved ha, h4.moved ha, h5.moved ha, h6.moved ha, va_Nw.same rfl hv.symm h7⟩
/-! THE JUDGEMENT -/
abbrev Ev : Type := Launch × va_G × ClassId × ClassId
abbrev Gm : Type := Program × Env × Room × State × MethodId × Array Value × List Frame × Method × Code × (State → Prop) × Nat × Nat
abbrev gP (G : Gm) : Program := G.1
abbrev gE (G : Gm) : Env := G.2.1
abbrev gR (G : Gm) : Room := G.2.2.1
abbrev gS (G : Gm) : State := G.2.2.2.1
abbrev gM (G : Gm) : MethodId := G.2.2.2.2.1
abbrev gA (G : Gm) : Array Value := G.2.2.2.2.2.1
abbrev gB (G : Gm) : List Frame := G.2.2.2.2.2.2.1
abbrev gN (G : Gm) : Method := G.2.2.2.2.2.2.2.1
abbrev gC (G : Gm) : Code := G.2.2.2.2.2.2.2.2.1
abbrev gQ (G : Gm) : State → Prop := G.2.2.2.2.2.2.2.2.2.1
abbrev gK (G : Gm) : Nat := G.2.2.2.2.2.2.2.2.2.2.1
abbrev gZ (G : Gm) : Nat := G.2.2.2.2.2.2.2.2.2.2.2
abbrev tyz (E : Ev) : List (ClassId × FieldType) := [(E.2.2.1, .int), (E.2.2.2, .boolean)]
abbrev wl (E : Ev) (ad : Nat → Nat) (σ : Sg) : va_W := wld E.2.2.1 E.2.2.2 ad σ
/-- the machine, at this place with these locals and this stack, in any heap that holds the world of σ, comes to its end -/
def At (E : Ev) (ad : Nat → Nat) (G : Gm) (nL pc : Nat) (L : List (Nat × Value)) (st : List Value) (σ : Sg) : Prop :=
  ∀ (H : Heap) (locs : List Loc) (ls : Array Slot), va_P E.2.1 classes (wl E ad σ) H → va_S (Aw ad) (gS G).heap H locs → lv_has ls nL L → W (gP G) E.1 (gE G) (gR G) (gS G) (gM G) (gA G) (gB G) (gN G) (gC G) H locs (gK G) (gZ G) (gQ G) (F0 (gM G) pc ls st)

def Wd (E : Ev) (ad : Nat → Nat) (σ : Sg) (U : State) : Prop := va_P E.2.1 classes (wl E ad σ) U.heap ∧ va_K E.2.1 classes (tyz E) U ∧ AdOk ad ∧ Fx ad U
def rmD (d : Nat) : Room := { frames := d, cells := 0, slots := 0, locals := 40 * d }
/-- a walk's fixed things: the machine, the method's bytes, the words, the tables -/
def Cx (E : Ev) (ad : Nat → Nat) (G : Gm) (own : String) (cc : ByteArray) (nL d : Nat) : Prop :=
  (gP G).tables.exec = Jvm.exec ∧ (gC G).code = cc ∧ (gC G).maxLocals = nL ∧ (gS G).vm.findClass own = some (gM G).cls ∧ (∀ w ∈ lw_g, w.before (gA G) (gS G) = true) ∧ va_K E.2.1 classes (tyz E) (gS G) ∧ AdOk ad ∧ Fx ad (gS G) ∧ (d ≤ (gR G).frames ∧ 40 * d ≤ (gR G).locals) ∧ (gK G ≤ (gR G).cells ∧ gZ G ≤ (gR G).slots)
section CXP
variable {E : Ev} {ad : Nat → Nat} {G : Gm} {own : String} {cc : ByteArray} {nL d : Nat}
theorem Cx.x (C : Cx E ad G own cc nL d) : (gP G).tables.exec = Jvm.exec := C.1
theorem Cx.b (C : Cx E ad G own cc nL d) : (gC G).code = cc := C.2.1
theorem Cx.ml (C : Cx E ad G own cc nL d) : (gC G).maxLocals = nL := C.2.2.1
theorem Cx.o (C : Cx E ad G own cc nL d) : (gS G).vm.findClass own = some (gM G).cls := C.2.2.2.1
theorem Cx.t (C : Cx E ad G own cc nL d) : ∀ w ∈ lw_g, w.before (gA G) (gS G) = true := C.2.2.2.2.1
theorem Cx.k (C : Cx E ad G own cc nL d) : va_K E.2.1 classes (tyz E) (gS G) := C.2.2.2.2.2.1
theorem Cx.a (C : Cx E ad G own cc nL d) : AdOk ad := C.2.2.2.2.2.2.1
theorem Cx.f (C : Cx E ad G own cc nL d) : Fx ad (gS G) := C.2.2.2.2.2.2.2.1
theorem Cx.r (C : Cx E ad G own cc nL d) : d ≤ (gR G).frames ∧ 40 * d ≤ (gR G).locals := C.2.2.2.2.2.2.2.2.1
theorem Cx.c (C : Cx E ad G own cc nL d) : gK G ≤ (gR G).cells ∧ gZ G ≤ (gR G).slots := C.2.2.2.2.2.2.2.2.2
end CXP
/-- a method's own end -/
def Rt (ad : Nat → Nat) (G : Gm) (rt : Option FieldType) (Qc : Array Value → State → Outcome → State → Prop) : Prop :=
  (gN G).sig.returnType = rt ∧ (gN G).locks = false ∧ gQ G = MQ (gB G) Qc (gA G) (gS G) 0 0 (Aw ad) ∧ gK G = 0 ∧ gZ G = 0
/-- THE CONTRACT: from the world of σ with these arguments the method returns r in a world of σ', with post -/
def Ct (E : Ev) (ad : Nat → Nat) (y : MethodName) (yc : ByteArray) (mL : Nat) (rt : Option FieldType) (d : Nat) (As : List Value) (σ : Sg) (post : Int32 → Sg → Prop) : Prop :=
  Met E.1 y (.code y yc mL rt :: lw_g) (rmD d) (va_Pc As (Wd E ad σ)) (va_Qi post (Wd E ad) (Aw ad)) 0 0 (Aw ad)
def CtV (E : Ev) (ad : Nat → Nat) (y : MethodName) (yc : ByteArray) (mL : Nat) (d : Nat) (As : List Value) (σ : Sg) (post : Sg → Prop) : Prop :=
  Met E.1 y (.code y yc mL none :: lw_g) (rmD d) (va_Pc As (Wd E ad σ)) (va_Qv post (Wd E ad) (Aw ad)) 0 0 (Aw ad)
theorem met_of {E : Ev} {ad : Nat → Nat} {y : MethodName} {yc : ByteArray} {mL d : Nat} {rt : Option FieldType} {As : List Value} {σ : Sg} {Qc : Array Value → State → Outcome → State → Prop} (own : String) (hown : y.cls = own) (hy : plainName y.cls = true) (L0 : List (Nat × Value)) (hL0 : lv_args 0 As = L0) (hlen : (lg_sl As).length ≤ mL)
    (body : ∀ G : Gm, Cx E ad G own yc mL d → Rt ad G rt Qc → At E ad G mL 0 L0 [] σ) : Met E.1 y (.code y yc mL rt :: lw_g) (rmD d) (va_Pc As (Wd E ad σ)) Qc 0 0 (Aw ad) := by
  refine Met.ofW (cc := yc) (maxL := mL) (ret := rt) hy rfl ?_
  intro p e s m args below meth c s₁ B hml hv
  obtain ⟨rfl, hP, hK, hA, hF⟩ := hv
  have hts := atoms_spec (ws := .code y yc mL rt :: lw_g) B.pre
  have hfc : s.vm.findClass own = some m.cls := hown ▸ findClass_of_methodNamed B.named
  have key := body (p, e, rmD d, s, m, As.toArray, below, meth, c, MQ below Qc As.toArray s 0 0 (Aw ad), 0, 0) ⟨B.exec, B.bytes, hml, hfc, fun w hw => hts w (List.mem_cons_of_mem _ hw), hK, hA, hF, ⟨Nat.le_refl _, Nat.le_refl _⟩, ⟨Nat.zero_le _, Nat.zero_le _⟩⟩ ⟨B.returns, B.notSynchronized, rfl, rfl, rfl⟩
  have hl := lv_entry As (n := mL) hlen
  rw [hL0] at hl
  rw [lg_entry_eq]
  exact key s.heap [] _ hP va_S.rf hl
theorem ct_of {E : Ev} {ad : Nat → Nat} {y : MethodName} {yc : ByteArray} {mL d : Nat} {rt : Option FieldType} {As : List Value} {σ : Sg} {post : Int32 → Sg → Prop} (own : String) (hown : y.cls = own) (hy : plainName y.cls = true) (L0 : List (Nat × Value)) (hL0 : lv_args 0 As = L0) (hlen : (lg_sl As).length ≤ mL)
    (body : ∀ G : Gm, Cx E ad G own yc mL d → Rt ad G rt (va_Qi post (Wd E ad) (Aw ad)) → At E ad G mL 0 L0 [] σ) : Ct E ad y yc mL rt d As σ post := met_of own hown hy L0 hL0 hlen body
theorem ctv_of {E : Ev} {ad : Nat → Nat} {y : MethodName} {yc : ByteArray} {mL d : Nat} {As : List Value} {σ : Sg} {post : Sg → Prop} (own : String) (hown : y.cls = own) (hy : plainName y.cls = true) (L0 : List (Nat × Value)) (hL0 : lv_args 0 As = L0) (hlen : (lg_sl As).length ≤ mL)
    (body : ∀ G : Gm, Cx E ad G own yc mL d → Rt ad G none (va_Qv post (Wd E ad) (Aw ad)) → At E ad G mL 0 L0 [] σ) : CtV E ad y yc mL d As σ post := met_of own hown hy L0 hL0 hlen body
/-! links, by the tables' words -/
def LkV (own : String) (idx : Nat) (y : MethodName) (yc : ByteArray) (mL : Nat) (rt : Option FieldType) (n : Nat) : Prop :=
  (∀ w ∈ ([.methodLink own idx y, .instanceMethod y, .selects y.cls y y, .initialized y.cls, .code y yc mL rt] : List Cond), w ∈ lw_g) ∧ (y.cls ≠ "java/lang/invoke/MethodHandle" ∧ y.cls ≠ "java/lang/invoke/VarHandle" ∧ (parseMethodDescriptor y.desc).map (fun d => d.parameters.length) = some n)
def LkS (own : String) (idx : Nat) (y : MethodName) (yc : ByteArray) (mL : Nat) (rt : Option FieldType) (n : Nat) : Prop :=
  (∀ w ∈ ([.methodLink own idx y, .static y, .initialized y.cls, .code y yc mL rt] : List Cond), w ∈ lw_g) ∧ (y.cls ≠ "java/lang/invoke/MethodHandle" ∧ y.cls ≠ "java/lang/invoke/VarHandle" ∧ (parseMethodDescriptor y.desc).map (fun d => d.parameters.length) = some n)
def LkF (own : String) (idx ci j : Nat) : Prop := ∃ (C : String) (T : u_T) (N : Nat), classes[ci]? = some (C, T, N) ∧ j < N ∧ (∀ w ∈ u_ws C T N, w ∈ lw_g) ∧ Cond.fieldLink own idx (T j).1 (T j).2.1 (T j).2.2.1 ∈ lw_g
def LkP (own : String) (idx ci j : Nat) (ty : FieldType) : Prop := ∃ (C : String) (T : u_T) (N : Nat) (ty0 : Nat → FieldType), classes[ci]? = some (C, T, N) ∧ j < N ∧ (∀ w ∈ u_ws C T N, w ∈ lw_g) ∧ Cond.fieldLink own idx (T j).1 (T j).2.1 (T j).2.2.1 ∈ lw_g ∧ (T j).2.2.2 = false ∧ (∀ k, k < N → parseFieldDescriptor (T k).2.2.1 = some (ty0 k)) ∧ (∀ a, a < N → ∀ b, b < N → a ≠ b → (T a).2.1 ≠ (T b).2.1) ∧ parseFieldDescriptor (T j).2.2.1 = some ty
theorem ta_inj {x y : Int32} (h : x.toInt = y.toInt) : x = y := Int32.toInt_inj.mp h
theorem ta_lo (x : Int32) : -2147483648 ≤ x.toInt := by have := Int32.le_toInt x; simpa using this
theorem ta_hi (x : Int32) : x.toInt ≤ 2147483647 := by have := Int32.toInt_lt x; omega
theorem ta_add {x y : Int32} (h : -2147483648 ≤ x.toInt + y.toInt ∧ x.toInt + y.toInt ≤ 2147483647) : (x + y).toInt = x.toInt + y.toInt := by
  rw [Int32.toInt_add]; exact Int.bmod_eq_of_le (by omega) (by omega)
theorem ta_sub {x y : Int32} (h : -2147483648 ≤ x.toInt - y.toInt ∧ x.toInt - y.toInt ≤ 2147483647) : (x - y).toInt = x.toInt - y.toInt := by
  rw [Int32.toInt_sub]; exact Int.bmod_eq_of_le (by omega) (by omega)
theorem ta_mul {x y : Int32} (h : -2147483648 ≤ x.toInt * y.toInt ∧ x.toInt * y.toInt ≤ 2147483647) : (x * y).toInt = x.toInt * y.toInt := by
  rw [Int32.toInt_mul]; exact Int.bmod_eq_of_le (by omega) (by omega)
theorem ta_mulL {n : Int} {x y : Int32} (hx : x.toInt = n) (h : -2147483648 ≤ n * y.toInt ∧ n * y.toInt ≤ 2147483647) : (x * y).toInt = n * y.toInt := by
  rw [ta_mul (by rw [hx]; exact h), hx]
theorem ta_mulR {n : Int} {x y : Int32} (hy : y.toInt = n) (h : -2147483648 ≤ n * x.toInt ∧ n * x.toInt ≤ 2147483647) : (x * y).toInt = n * x.toInt := by
  rw [ta_mul (by rw [hy, Int.mul_comm]; exact h), hy, Int.mul_comm]
theorem ta_in {i : Int32} {n : Nat} (h : 0 ≤ i.toInt ∧ i.toInt < n) : vp_in i n := vp_in_iff.mpr h
section RULES
variable {E : Ev} {ad : Nat → Nat} {G : Gm} {own : String} {cc : ByteArray} {nL d pc : Nat} {L : List (Nat × Value)} {st : List Value} {σ : Sg}
theorem At.sub {L' : List (Nat × Value)} (ks : List Nat) (hl : lv_pick L ks = L') (K : At E ad G nL pc L' st σ) : At E ad G nL pc L st σ := fun H locs ls hP hS h => K H locs ls hP hS (lv_sub h ks hl)
theorem r_iconst (C : Cx E ad G own cc nL d) {n : Int} (v : Int32) (hd : decode cc pc = .ok (.iconst n, 1)) (hv : Int32.ofInt n = v) (K : At E ad G nL (pc + 1) L (.int v :: st) σ) : At E ad G nL pc L st σ := fun H locs ls hP hS hl => lv_iconst C.x C.b hd hv (K H locs ls hP hS hl)
theorem r_bipush (C : Cx E ad G own cc nL d) {n : Int} (v : Int32) (hd : decode cc pc = .ok (.bipush n, 2)) (hv : (Int8.ofInt n).toInt32 = v) (K : At E ad G nL (pc + 2) L (.int v :: st) σ) : At E ad G nL pc L st σ := fun H locs ls hP hS hl => lv_bipush C.x C.b hd hv (K H locs ls hP hS hl)
theorem r_sipush (C : Cx E ad G own cc nL d) {n : Int} (v : Int32) (hd : decode cc pc = .ok (.sipush n, 3)) (hv : (Int16.ofInt n).toInt32 = v) (K : At E ad G nL (pc + 3) L (.int v :: st) σ) : At E ad G nL pc L st σ := fun H locs ls hP hS hl => lv_sipush C.x C.b hd hv (K H locs ls hP hS hl)
theorem r_ldc2 (C : Cx E ad G own cc nL d) {i : Nat} (v : Int64) (hw : Cond.constantLong own i v ∈ lw_g) (hd : decode cc pc = .ok (.ldc2_w i, 3)) (K : At E ad G nL (pc + 3) L (.long v :: st) σ) : At E ad G nL pc L st σ := fun H locs ls hP hS hl => lv_ldc2 C.x C.b C.o (C.t _ hw) hd (K H locs ls hP hS hl)
theorem r_ldcw (C : Cx E ad G own cc nL d) {i : Nat} (v : Int32) (hw : Cond.constant own i v ∈ lw_g) (hd : decode cc pc = .ok (.ldc_w i, 3)) (K : At E ad G nL (pc + 3) L (.int v :: st) σ) : At E ad G nL pc L st σ := fun H locs ls hP hS hl => lv_ldcw C.x C.b C.o (C.t _ hw) hd (K H locs ls hP hS hl)
theorem r_iload_n (C : Cx E ad G own cc nL d) {k : Fin 4} {i : Nat} {x : Int32} (j : Nat) (hd : decode cc pc = .ok (.iload_n k, 1)) (hi : (k : Nat) = i) (hL : L[j]? = some (i, .int x)) (K : At E ad G nL (pc + 1) L (.int x :: st) σ) : At E ad G nL pc L st σ := fun H locs ls hP hS hl => lv_iload_n C.x C.b hd hi (lv_at hl j hL) (K H locs ls hP hS hl)
theorem r_iload (C : Cx E ad G own cc nL d) {i : Nat} {x : Int32} (j : Nat) (hd : decode cc pc = .ok (.iload i, 2)) (hL : L[j]? = some (i, .int x)) (K : At E ad G nL (pc + 2) L (.int x :: st) σ) : At E ad G nL pc L st σ := fun H locs ls hP hS hl => lv_iload C.x C.b hd (lv_at hl j hL) (K H locs ls hP hS hl)
theorem r_lload_n (C : Cx E ad G own cc nL d) {k : Fin 4} {i : Nat} {x : Int64} (j : Nat) (hd : decode cc pc = .ok (.lload_n k, 1)) (hi : (k : Nat) = i) (hL : L[j]? = some (i, .long x)) (K : At E ad G nL (pc + 1) L (.long x :: st) σ) : At E ad G nL pc L st σ := fun H locs ls hP hS hl => lv_lload_n C.x C.b hd hi (lv_at hl j hL) (K H locs ls hP hS hl)
theorem r_aload_n (C : Cx E ad G own cc nL d) {k : Fin 4} {i : Nat} {x : Nat} (j : Nat) (hd : decode cc pc = .ok (.aload_n k, 1)) (hi : (k : Nat) = i) (hL : L[j]? = some (i, .ref x)) (K : At E ad G nL (pc + 1) L (.ref x :: st) σ) : At E ad G nL pc L st σ := fun H locs ls hP hS hl => lv_aload_n C.x C.b hd hi (lv_at hl j hL) (K H locs ls hP hS hl)
theorem r_istore_n (C : Cx E ad G own cc nL d) {k : Fin 4} {i : Nat} {x : Int32} (L' : List (Nat × Value)) (hd : decode cc pc = .ok (.istore_n k, 1)) (hi : (k : Nat) = i) (hn : i < nL) (hl : (i, Value.int x) :: L.filter (fun q => !(q.1 == i) && !(q.1 + 1 == i && q.2.category == 2)) = L') (K : At E ad G nL (pc + 1) L' st σ) : At E ad G nL pc L (.int x :: st) σ := fun H locs ls hP hS h => lv_istore_n C.x C.b hd hi h hn hl (fun ls' h' => K H locs ls' hP hS h')
theorem r_istore (C : Cx E ad G own cc nL d) {i : Nat} {x : Int32} (L' : List (Nat × Value)) (hd : decode cc pc = .ok (.istore i, 2)) (hn : i < nL) (hl : (i, Value.int x) :: L.filter (fun q => !(q.1 == i) && !(q.1 + 1 == i && q.2.category == 2)) = L') (K : At E ad G nL (pc + 2) L' st σ) : At E ad G nL pc L (.int x :: st) σ := fun H locs ls hP hS h => lv_istore C.x C.b hd h hn hl (fun ls' h' => K H locs ls' hP hS h')
theorem r_iinc (C : Cx E ad G own cc nL d) {i : Nat} {n : Int} {x : Int32} (j : Nat) (L' : Int32 → List (Nat × Value)) (hd : decode cc pc = .ok (.iinc i n, 3)) (hk : L[j]? = some (i, .int x)) (hm : (Int32.ofInt n).toInt = n) (hn : i < nL) (hb : -2147483648 ≤ x.toInt + n ∧ x.toInt + n ≤ 2147483647) (hl : ∀ z : Int32, (i, Value.int z) :: L.filter (fun q => !(q.1 == i) && !(q.1 + 1 == i && q.2.category == 2)) = L' z) (K : ∀ z : Int32, z.toInt = x.toInt + n → At E ad G nL (pc + 3) (L' z) st σ) : At E ad G nL pc L st σ := fun H locs ls hP hS h => lv_iinc C.x C.b hd h hk rfl hn (hl _) (fun ls' h' => K _ (by rw [ta_add (by rw [hm]; exact hb), hm]) H locs ls' hP hS h')
theorem r_iadd (C : Cx E ad G own cc nL d) {x y : Int32} (hd : decode cc pc = .ok (.iadd, 1)) (K : At E ad G nL (pc + 1) L (.int (x + y) :: st) σ) : At E ad G nL pc L (.int y :: .int x :: st) σ := fun H locs ls hP hS hl => lv_iadd C.x C.b hd (K H locs ls hP hS hl)
theorem r_isub (C : Cx E ad G own cc nL d) {x y : Int32} (hd : decode cc pc = .ok (.isub, 1)) (K : At E ad G nL (pc + 1) L (.int (x - y) :: st) σ) : At E ad G nL pc L (.int y :: .int x :: st) σ := fun H locs ls hP hS hl => lv_isub C.x C.b hd (K H locs ls hP hS hl)
theorem r_imul (C : Cx E ad G own cc nL d) {x y : Int32} (hd : decode cc pc = .ok (.imul, 1)) (K : At E ad G nL (pc + 1) L (.int (x * y) :: st) σ) : At E ad G nL pc L (.int y :: .int x :: st) σ := fun H locs ls hP hS hl => lv_imul C.x C.b hd (K H locs ls hP hS hl)
theorem r_iand (C : Cx E ad G own cc nL d) {x y : Int32} (hd : decode cc pc = .ok (.iand, 1)) (K : At E ad G nL (pc + 1) L (.int (x &&& y) :: st) σ) : At E ad G nL pc L (.int y :: .int x :: st) σ := fun H locs ls hP hS hl => lv_iand C.x C.b hd (K H locs ls hP hS hl)
theorem r_ior (C : Cx E ad G own cc nL d) {x y : Int32} (hd : decode cc pc = .ok (.ior, 1)) (K : At E ad G nL (pc + 1) L (.int (x ||| y) :: st) σ) : At E ad G nL pc L (.int y :: .int x :: st) σ := fun H locs ls hP hS hl => lv_ior C.x C.b hd (K H locs ls hP hS hl)
theorem r_ixor (C : Cx E ad G own cc nL d) {x y : Int32} (hd : decode cc pc = .ok (.ixor, 1)) (K : At E ad G nL (pc + 1) L (.int (x ^^^ y) :: st) σ) : At E ad G nL pc L (.int y :: .int x :: st) σ := fun H locs ls hP hS hl => lv_ixor C.x C.b hd (K H locs ls hP hS hl)
theorem r_ishl (C : Cx E ad G own cc nL d) {x y : Int32} (hd : decode cc pc = .ok (.ishl, 1)) (K : At E ad G nL (pc + 1) L (.int (x <<< (y &&& 31)) :: st) σ) : At E ad G nL pc L (.int y :: .int x :: st) σ := fun H locs ls hP hS hl => lv_ishl C.x C.b hd (K H locs ls hP hS hl)
theorem r_ishr (C : Cx E ad G own cc nL d) {x y : Int32} (hd : decode cc pc = .ok (.ishr, 1)) (K : At E ad G nL (pc + 1) L (.int (x >>> (y &&& 31)) :: st) σ) : At E ad G nL pc L (.int y :: .int x :: st) σ := fun H locs ls hP hS hl => lv_ishr C.x C.b hd (K H locs ls hP hS hl)
theorem r_iushr (C : Cx E ad G own cc nL d) {x y : Int32} (hd : decode cc pc = .ok (.iushr, 1)) (K : At E ad G nL (pc + 1) L (.int ((x.toUInt32 >>> (y.toUInt32 &&& Int32.toUInt32 31)).toInt32) :: st) σ) : At E ad G nL pc L (.int y :: .int x :: st) σ := fun H locs ls hP hS hl => lv_iushr C.x C.b hd rfl (K H locs ls hP hS hl)
theorem r_ineg (C : Cx E ad G own cc nL d) {x : Int32} (hd : decode cc pc = .ok (.ineg, 1)) (K : At E ad G nL (pc + 1) L (.int (-x) :: st) σ) : At E ad G nL pc L (.int x :: st) σ := fun H locs ls hP hS hl => lv_ineg C.x C.b hd (K H locs ls hP hS hl)
theorem r_idiv (C : Cx E ad G own cc nL d) {x y : Int32} (hd : decode cc pc = .ok (.idiv, 1)) (hne : ¬ y = 0) (K : At E ad G nL (pc + 1) L (.int (x / y) :: st) σ) : At E ad G nL pc L (.int y :: .int x :: st) σ := fun H locs ls hP hS hl => lv_idiv C.x C.b hd hne (K H locs ls hP hS hl)
theorem r_irem (C : Cx E ad G own cc nL d) {x y : Int32} (hd : decode cc pc = .ok (.irem, 1)) (hne : ¬ y = 0) (K : At E ad G nL (pc + 1) L (.int (x - x / y * y) :: st) σ) : At E ad G nL pc L (.int y :: .int x :: st) σ := fun H locs ls hP hS hl => lv_irem C.x C.b hd hne (K H locs ls hP hS hl)
theorem r_i2c (C : Cx E ad G own cc nL d) {x : Int32} (hd : decode cc pc = .ok (.i2c, 1)) (K : At E ad G nL (pc + 1) L (.int ((x.toUInt32 % 65536).toInt32) :: st) σ) : At E ad G nL pc L (.int x :: st) σ := fun H locs ls hP hS hl => lv_i2c C.x C.b hd rfl (K H locs ls hP hS hl)
theorem r_l2i (C : Cx E ad G own cc nL d) {x : Int64} (hd : decode cc pc = .ok (.l2i, 1)) (K : At E ad G nL (pc + 1) L (.int x.toInt32 :: st) σ) : At E ad G nL pc L (.long x :: st) σ := fun H locs ls hP hS hl => lv_l2i C.x C.b hd rfl (K H locs ls hP hS hl)
theorem r_i2l (C : Cx E ad G own cc nL d) {x : Int32} (hd : decode cc pc = .ok (.i2l, 1)) (K : At E ad G nL (pc + 1) L (.long x.toInt64 :: st) σ) : At E ad G nL pc L (.int x :: st) σ := fun H locs ls hP hS hl => lv_i2l C.x C.b hd rfl (K H locs ls hP hS hl)
theorem r_land (C : Cx E ad G own cc nL d) {x y : Int64} (hd : decode cc pc = .ok (.land, 1)) (K : At E ad G nL (pc + 1) L (.long (x &&& y) :: st) σ) : At E ad G nL pc L (.long y :: .long x :: st) σ := fun H locs ls hP hS hl => lv_land C.x C.b hd (K H locs ls hP hS hl)
theorem r_lor (C : Cx E ad G own cc nL d) {x y : Int64} (hd : decode cc pc = .ok (.lor, 1)) (K : At E ad G nL (pc + 1) L (.long (x ||| y) :: st) σ) : At E ad G nL pc L (.long y :: .long x :: st) σ := fun H locs ls hP hS hl => lv_lor C.x C.b hd (K H locs ls hP hS hl)
theorem r_lshl (C : Cx E ad G own cc nL d) {x : Int64} {y : Int32} (hd : decode cc pc = .ok (.lshl, 1)) (K : At E ad G nL (pc + 1) L (.long (x <<< (y.toInt64 &&& 63)) :: st) σ) : At E ad G nL pc L (.int y :: .long x :: st) σ := fun H locs ls hP hS hl => lv_lshl C.x C.b hd rfl (K H locs ls hP hS hl)
theorem r_lshr (C : Cx E ad G own cc nL d) {x : Int64} {y : Int32} (hd : decode cc pc = .ok (.lshr, 1)) (K : At E ad G nL (pc + 1) L (.long (x >>> (y.toInt64 &&& 63)) :: st) σ) : At E ad G nL pc L (.int y :: .long x :: st) σ := fun H locs ls hP hS hl => lv_lshr C.x C.b hd rfl (K H locs ls hP hS hl)
theorem r_lushr (C : Cx E ad G own cc nL d) {x : Int64} {y : Int32} (hd : decode cc pc = .ok (.lushr, 1)) (K : At E ad G nL (pc + 1) L (.long ((x.toUInt64 >>> (y.toInt64.toUInt64 &&& Int64.toUInt64 63)).toInt64) :: st) σ) : At E ad G nL pc L (.int y :: .long x :: st) σ := fun H locs ls hP hS hl => lv_lushr C.x C.b hd rfl (K H locs ls hP hS hl)
theorem r_dup (C : Cx E ad G own cc nL d) {v : Value} (hd : decode cc pc = .ok (.dup, 1)) (hc : v.category = 1) (K : At E ad G nL (pc + 1) L (v :: v :: st) σ) : At E ad G nL pc L (v :: st) σ := fun H locs ls hP hS hl => lv_dup C.x C.b hd hc (K H locs ls hP hS hl)
theorem r_pop (C : Cx E ad G own cc nL d) {v : Value} (hd : decode cc pc = .ok (.pop, 1)) (hc : v.category = 1) (K : At E ad G nL (pc + 1) L st σ) : At E ad G nL pc L (v :: st) σ := fun H locs ls hP hS hl => lv_pop C.x C.b hd hc (K H locs ls hP hS hl)
theorem r_goto (C : Cx E ad G own cc nL d) {off : Int} (tgt : Nat) (hd : decode cc pc = .ok (.goto off, 3)) (ht : (pc : Int) + off = (tgt : Int)) (K : At E ad G nL tgt L st σ) : At E ad G nL pc L st σ := fun H locs ls hP hS hl => lv_goto C.x C.b hd ht (K H locs ls hP hS hl)
/-- the number on top gets a name, and what is known of it -/
theorem r_nm {x : Int32} {P : Int32 → Prop} (hx : P x) (K : ∀ z : Int32, P z → At E ad G nL pc L (.int z :: st) σ) : At E ad G nL pc L (.int x :: st) σ := K x hx
theorem r_if_eq (C : Cx E ad G own cc nL d) {x : Int32} {off : Int} (tgt : Nat) (hd : decode cc pc = .ok (.ifCond .eq off, 3)) (ht : (pc : Int) + off = (tgt : Int)) (kt : x.toInt = 0 → At E ad G nL tgt L st σ) (kf : x.toInt ≠ 0 → At E ad G nL (pc + 3) L st σ) : At E ad G nL pc L (.int x :: st) σ := fun H locs ls hP hS hl => lv_if_eq C.x C.b hd ht (fun h => kt (by rw [h]; rfl) H locs ls hP hS hl) (fun h => kf (fun q => h (ta_inj (q.trans Int32.toInt_zero.symm))) H locs ls hP hS hl)
theorem r_if_ne (C : Cx E ad G own cc nL d) {x : Int32} {off : Int} (tgt : Nat) (hd : decode cc pc = .ok (.ifCond .ne off, 3)) (ht : (pc : Int) + off = (tgt : Int)) (kt : x.toInt ≠ 0 → At E ad G nL tgt L st σ) (kf : x.toInt = 0 → At E ad G nL (pc + 3) L st σ) : At E ad G nL pc L (.int x :: st) σ := fun H locs ls hP hS hl => lv_if_ne C.x C.b hd ht (fun h => kt (fun q => h (ta_inj (q.trans Int32.toInt_zero.symm))) H locs ls hP hS hl) (fun h => kf (by rw [h]; rfl) H locs ls hP hS hl)
theorem r_if_lt (C : Cx E ad G own cc nL d) {x : Int32} {off : Int} (tgt : Nat) (hd : decode cc pc = .ok (.ifCond .lt off, 3)) (ht : (pc : Int) + off = (tgt : Int)) (kt : x.toInt < 0 → At E ad G nL tgt L st σ) (kf : 0 ≤ x.toInt → At E ad G nL (pc + 3) L st σ) : At E ad G nL pc L (.int x :: st) σ := fun H locs ls hP hS hl => lv_if_lt C.x C.b hd ht (fun h => kt (Int32.lt_iff_toInt_lt.mp h) H locs ls hP hS hl) (fun h => kf (by have := Int32.not_lt.mp h; exact Int32.le_iff_toInt_le.mp this) H locs ls hP hS hl)
theorem r_if_ge (C : Cx E ad G own cc nL d) {x : Int32} {off : Int} (tgt : Nat) (hd : decode cc pc = .ok (.ifCond .ge off, 3)) (ht : (pc : Int) + off = (tgt : Int)) (kt : 0 ≤ x.toInt → At E ad G nL tgt L st σ) (kf : x.toInt < 0 → At E ad G nL (pc + 3) L st σ) : At E ad G nL pc L (.int x :: st) σ := fun H locs ls hP hS hl => lv_if_ge C.x C.b hd ht (fun h => kt (Int32.le_iff_toInt_le.mp h) H locs ls hP hS hl) (fun h => kf (by have := Int32.not_le.mp h; exact Int32.lt_iff_toInt_lt.mp this) H locs ls hP hS hl)
theorem r_if_gt (C : Cx E ad G own cc nL d) {x : Int32} {off : Int} (tgt : Nat) (hd : decode cc pc = .ok (.ifCond .gt off, 3)) (ht : (pc : Int) + off = (tgt : Int)) (kt : 0 < x.toInt → At E ad G nL tgt L st σ) (kf : x.toInt ≤ 0 → At E ad G nL (pc + 3) L st σ) : At E ad G nL pc L (.int x :: st) σ := fun H locs ls hP hS hl => lv_if_gt C.x C.b hd ht (fun h => kt (Int32.lt_iff_toInt_lt.mp h) H locs ls hP hS hl) (fun h => kf (by have := Int32.not_lt.mp h; exact Int32.le_iff_toInt_le.mp this) H locs ls hP hS hl)
theorem r_if_le (C : Cx E ad G own cc nL d) {x : Int32} {off : Int} (tgt : Nat) (hd : decode cc pc = .ok (.ifCond .le off, 3)) (ht : (pc : Int) + off = (tgt : Int)) (kt : x.toInt ≤ 0 → At E ad G nL tgt L st σ) (kf : 0 < x.toInt → At E ad G nL (pc + 3) L st σ) : At E ad G nL pc L (.int x :: st) σ := fun H locs ls hP hS hl => lv_if_le C.x C.b hd ht (fun h => kt (Int32.le_iff_toInt_le.mp h) H locs ls hP hS hl) (fun h => kf (by have := Int32.not_le.mp h; exact Int32.lt_iff_toInt_lt.mp this) H locs ls hP hS hl)
theorem r_icmp_eq (C : Cx E ad G own cc nL d) {x y : Int32} {off : Int} (tgt : Nat) (hd : decode cc pc = .ok (.if_icmp .eq off, 3)) (ht : (pc : Int) + off = (tgt : Int)) (kt : x.toInt = y.toInt → At E ad G nL tgt L st σ) (kf : x.toInt ≠ y.toInt → At E ad G nL (pc + 3) L st σ) : At E ad G nL pc L (.int y :: .int x :: st) σ := fun H locs ls hP hS hl => lv_icmp_eq C.x C.b hd ht (fun h => kt (by rw [h]) H locs ls hP hS hl) (fun h => kf (fun q => h (ta_inj (q))) H locs ls hP hS hl)
theorem r_icmp_ne (C : Cx E ad G own cc nL d) {x y : Int32} {off : Int} (tgt : Nat) (hd : decode cc pc = .ok (.if_icmp .ne off, 3)) (ht : (pc : Int) + off = (tgt : Int)) (kt : x.toInt ≠ y.toInt → At E ad G nL tgt L st σ) (kf : x.toInt = y.toInt → At E ad G nL (pc + 3) L st σ) : At E ad G nL pc L (.int y :: .int x :: st) σ := fun H locs ls hP hS hl => lv_icmp_ne C.x C.b hd ht (fun h => kt (fun q => h (ta_inj (q))) H locs ls hP hS hl) (fun h => kf (by rw [h]) H locs ls hP hS hl)
theorem r_icmp_lt (C : Cx E ad G own cc nL d) {x y : Int32} {off : Int} (tgt : Nat) (hd : decode cc pc = .ok (.if_icmp .lt off, 3)) (ht : (pc : Int) + off = (tgt : Int)) (kt : x.toInt < y.toInt → At E ad G nL tgt L st σ) (kf : y.toInt ≤ x.toInt → At E ad G nL (pc + 3) L st σ) : At E ad G nL pc L (.int y :: .int x :: st) σ := fun H locs ls hP hS hl => lv_icmp_lt C.x C.b hd ht (fun h => kt (Int32.lt_iff_toInt_lt.mp h) H locs ls hP hS hl) (fun h => kf (by have := Int32.not_lt.mp h; exact Int32.le_iff_toInt_le.mp this) H locs ls hP hS hl)
theorem r_icmp_ge (C : Cx E ad G own cc nL d) {x y : Int32} {off : Int} (tgt : Nat) (hd : decode cc pc = .ok (.if_icmp .ge off, 3)) (ht : (pc : Int) + off = (tgt : Int)) (kt : y.toInt ≤ x.toInt → At E ad G nL tgt L st σ) (kf : x.toInt < y.toInt → At E ad G nL (pc + 3) L st σ) : At E ad G nL pc L (.int y :: .int x :: st) σ := fun H locs ls hP hS hl => lv_icmp_ge C.x C.b hd ht (fun h => kt (Int32.le_iff_toInt_le.mp h) H locs ls hP hS hl) (fun h => kf (by have := Int32.not_le.mp h; exact Int32.lt_iff_toInt_lt.mp this) H locs ls hP hS hl)
theorem r_icmp_gt (C : Cx E ad G own cc nL d) {x y : Int32} {off : Int} (tgt : Nat) (hd : decode cc pc = .ok (.if_icmp .gt off, 3)) (ht : (pc : Int) + off = (tgt : Int)) (kt : y.toInt < x.toInt → At E ad G nL tgt L st σ) (kf : x.toInt ≤ y.toInt → At E ad G nL (pc + 3) L st σ) : At E ad G nL pc L (.int y :: .int x :: st) σ := fun H locs ls hP hS hl => lv_icmp_gt C.x C.b hd ht (fun h => kt (Int32.lt_iff_toInt_lt.mp h) H locs ls hP hS hl) (fun h => kf (by have := Int32.not_lt.mp h; exact Int32.le_iff_toInt_le.mp this) H locs ls hP hS hl)
theorem r_icmp_le (C : Cx E ad G own cc nL d) {x y : Int32} {off : Int} (tgt : Nat) (hd : decode cc pc = .ok (.if_icmp .le off, 3)) (ht : (pc : Int) + off = (tgt : Int)) (kt : x.toInt ≤ y.toInt → At E ad G nL tgt L st σ) (kf : y.toInt < x.toInt → At E ad G nL (pc + 3) L st σ) : At E ad G nL pc L (.int y :: .int x :: st) σ := fun H locs ls hP hS hl => lv_icmp_le C.x C.b hd ht (fun h => kt (Int32.le_iff_toInt_le.mp h) H locs ls hP hS hl) (fun h => kf (by have := Int32.not_le.mp h; exact Int32.lt_iff_toInt_lt.mp this) H locs ls hP hS hl)
theorem r_tblOut (C : Cx E ad G own cc nL d) {dflt lo hi : Int} {offs : Array Int} {len : Nat} {x : Int32} (tgt : Nat) (hd : decode cc pc = .ok (.tableswitch dflt lo hi offs, len)) (h : x.toInt < lo ∨ hi < x.toInt) (ht : (pc : Int) + dflt = (tgt : Int)) (K : At E ad G nL tgt L st σ) : At E ad G nL pc L (.int x :: st) σ := fun H locs ls hP hS hl => lv_tableOut C.x C.b hd h ht (K H locs ls hP hS hl)
theorem r_tblIn (C : Cx E ad G own cc nL d) {dflt lo hi : Int} {offs : Array Int} {len : Nat} {x : Int32} {off : Int} (v : Int) (tgt : Nat) (hd : decode cc pc = .ok (.tableswitch dflt lo hi offs, len)) (hx : x.toInt = v) (h1 : ¬ v < lo) (h2 : ¬ hi < v) (ho : offs[(v - lo).toNat]? = some off) (ht : (pc : Int) + off = (tgt : Int)) (K : At E ad G nL tgt L st σ) : At E ad G nL pc L (.int x :: st) σ := fun H locs ls hP hS hl => lv_tableIn C.x C.b hd (by rw [hx]; exact h1) (by rw [hx]; exact h2) (by rw [hx]; exact ho) ht (K H locs ls hP hS hl)
theorem r_get (C : Cx E ad G own cc nL d) {idx ci j k : Nat} {fs : List Value} {v : Value} (g : LkF own idx ci j) (hk : k < 70) (he : ent E.2.2.1 E.2.2.2 ad k (σ k) = .inr (ci, fs)) (hv : fs[j]? = some v) (hd : decode cc pc = .ok (.getfield idx, 3)) (K : At E ad G nL (pc + 3) L (v :: st) σ) : At E ad G nL pc L (.ref (ad k) :: st) σ := by
  intro H locs ls hP hS hl
  obtain ⟨C1, T, N, g1, g2, g3, g4⟩ := g
  exact va_get (C := C1) (T := T) (N := N) C.x C.b C.t g3 C.o C.k hP k ((wld_get hk).trans (by rw [he])) g1 j g2 (C.t _ g4) (fun _ h => h) hv hd (K H locs ls hP hS hl)
theorem r_put (C : Cx E ad G own cc nL d) {idx ci j k : Nat} {fs : (Nat → Int32) → List Value} {v : Int32} (g : LkP own idx ci j .int) (hk : k < 70) (he : ∀ f, ent E.2.2.1 E.2.2.2 ad k f = .inr (ci, fs f)) (hj : ∀ f, j < (fs f).length) (hs : ∀ f v, ent E.2.2.1 E.2.2.2 ad k (upd f j v) = .inr (ci, (fs f).set j (.int v))) (hd : decode cc pc = .ok (.putfield idx, 3)) (K : At E ad G nL (pc + 3) L st (sUp σ k j v)) : At E ad G nL pc L (.int v :: .ref (ad k) :: st) σ := by
  intro H locs ls hP hS hl
  obtain ⟨C1, T, N, ty0, g1, g2, g3, g4, g5, g6, g7, g8⟩ := g
  refine va_put (C := C1) (T := T) (N := N) (ty := .int) C.x C.b C.t g3 ty0 g6 g7 C.o C.k hP (wld_D C.a) hS k ((wld_get hk).trans (by rw [he])) g1 j g2 (C.t _ g4) (fun _ h => h) g5 g8 rfl rfl (hj (σ k)) hd (fun H1 locs1 hP1 _ hS1 => K H1 locs1 ls ?_ hS1 hl)
  rw [wld_set (σ' := sUp σ k j v) hk (by rw [sUp_eq]; exact hs (σ k) v) (fun i hi => sUp_ne hi)] at hP1
  exact hP1
theorem r_putz (C : Cx E ad G own cc nL d) {idx ci j k : Nat} {fs : (Nat → Int32) → List Value} {v : Int32} (g : LkP own idx ci j .boolean) (hk : k < 70) (hv : v = 0 ∨ v = 1) (he : ∀ f, ent E.2.2.1 E.2.2.2 ad k f = .inr (ci, fs f)) (hj : ∀ f, j < (fs f).length) (hs : ∀ f v, ent E.2.2.1 E.2.2.2 ad k (upd f j v) = .inr (ci, (fs f).set j (.int v))) (hd : decode cc pc = .ok (.putfield idx, 3)) (K : At E ad G nL (pc + 3) L st (sUp σ k j v)) : At E ad G nL pc L (.int v :: .ref (ad k) :: st) σ := by
  intro H locs ls hP hS hl
  obtain ⟨C1, T, N, ty0, g1, g2, g3, g4, g5, g6, g7, g8⟩ := g
  refine va_put (C := C1) (T := T) (N := N) (ty := .boolean) C.x C.b C.t g3 ty0 g6 g7 C.o C.k hP (wld_D C.a) hS k ((wld_get hk).trans (by rw [he])) g1 j g2 (C.t _ g4) (fun _ h => h) g5 g8 (by rcases hv with rfl | rfl <;> decide) (by rcases hv with rfl | rfl <;> decide) (hj (σ k)) hd (fun H1 locs1 hP1 _ hS1 => K H1 locs1 ls ?_ hS1 hl)
  rw [wld_set (σ' := sUp σ k j v) hk (by rw [sUp_eq]; exact hs (σ k) v) (fun i hi => sUp_ne hi)] at hP1
  exact hP1
theorem r_iald (C : Cx E ad G own cc nL d) {k n : Nat} {i : Int32} (hk : k < 70) (he : ent E.2.2.1 E.2.2.2 ad k (σ k) = .inl (E.2.2.1, n, .inl (σ k))) (hi : 0 ≤ i.toInt ∧ i.toInt < n) (v : Int32) (hv : σ k i.toInt.toNat = v) (hd : decode cc pc = .ok (.iaload, 1)) (K : At E ad G nL (pc + 1) L (.int v :: st) σ) : At E ad G nL pc L (.int i :: .ref (ad k) :: st) σ := by
  intro H locs ls hP hS hl
  subst hv
  exact va_iald C.x C.b C.k hP k 0 ((wld_get hk).trans (by rw [he])) rfl (ta_in hi) hd (K H locs ls hP hS hl)
theorem r_zald (C : Cx E ad G own cc nL d) {k n : Nat} {i : Int32} (hk : k < 70) (he : ent E.2.2.1 E.2.2.2 ad k (σ k) = .inl (E.2.2.2, n, .inl (σ k))) (hi : 0 ≤ i.toInt ∧ i.toInt < n) (v : Int32) (hv : σ k i.toInt.toNat = v) (hd : decode cc pc = .ok (.baload, 1)) (K : At E ad G nL (pc + 1) L (.int v :: st) σ) : At E ad G nL pc L (.int i :: .ref (ad k) :: st) σ := by
  intro H locs ls hP hS hl
  subst hv
  exact va_zald C.x C.b C.k hP k 1 ((wld_get hk).trans (by rw [he])) rfl (ta_in hi) hd (K H locs ls hP hS hl)
theorem r_iast (C : Cx E ad G own cc nL d) {k n : Nat} {i x : Int32} (hk : k < 70) (he : ∀ f, ent E.2.2.1 E.2.2.2 ad k f = .inl (E.2.2.1, n, .inl f)) (hi : 0 ≤ i.toInt ∧ i.toInt < n) (hd : decode cc pc = .ok (.iastore, 1)) (K : At E ad G nL (pc + 1) L st (sUp σ k i.toInt.toNat x)) : At E ad G nL pc L (.int x :: .int i :: .ref (ad k) :: st) σ := by
  intro H locs ls hP hS hl
  refine va_iast C.x C.b C.k hP (wld_D C.a) hS k 0 ((wld_get hk).trans (by rw [he])) rfl (ta_in hi) hd (fun H1 locs1 hP1 _ hS1 => K H1 locs1 ls ?_ hS1 hl)
  rw [wld_set (σ' := sUp σ k i.toInt.toNat x) hk (by rw [sUp_eq, he]; rfl) (fun i hi => sUp_ne hi)] at hP1
  exact hP1
theorem r_zast (C : Cx E ad G own cc nL d) {k n : Nat} {i x : Int32} (hk : k < 70) (he : ∀ f, ent E.2.2.1 E.2.2.2 ad k f = .inl (E.2.2.2, n, .inl f)) (hx : x.toInt = 0 ∨ x.toInt = 1) (hi : 0 ≤ i.toInt ∧ i.toInt < n) (hd : decode cc pc = .ok (.bastore, 1)) (K : At E ad G nL (pc + 1) L st (sUp σ k i.toInt.toNat x)) : At E ad G nL pc L (.int x :: .int i :: .ref (ad k) :: st) σ := by
  intro H locs ls hP hS hl
  have hn : vp_nar .boolean x = x := by
    rcases hx with h | h
    · rw [show x = 0 from ta_inj h]; decide
    · rw [show x = 1 from ta_inj h]; decide
  refine va_zast C.x C.b C.k hP (wld_D C.a) hS k 1 ((wld_get hk).trans (by rw [he])) rfl (ta_in hi) hd (fun H1 locs1 hP1 _ hS1 => K H1 locs1 ls ?_ hS1 hl)
  rw [wld_set (σ' := sUp σ k i.toInt.toNat x) hk (by rw [sUp_eq, he, hn]; rfl) (fun i hi => sUp_ne hi)] at hP1
  exact hP1
theorem r_alen (C : Cx E ad G own cc nL d) {k n : Nat} (v : Int32) (hk : k < 70) (he : ent E.2.2.1 E.2.2.2 ad k (σ k) = .inl (E.2.2.1, n, .inl (σ k))) (hv : Int32.ofNat n = v) (hd : decode cc pc = .ok (.arraylength, 1)) (K : At E ad G nL (pc + 1) L (.int v :: st) σ) : At E ad G nL pc L (.ref (ad k) :: st) σ := by
  intro H locs ls hP hS hl
  exact va_alen C.x C.b C.k hP k 0 ((wld_get hk).trans (by rw [he])) rfl hv hd (K H locs ls hP hS hl)
theorem r_min (C : Cx E ad G own cc nL d) {idx : Nat} {x y : Int32} (hw : ∀ w ∈ ([Cond.methodLink own idx Lib.Math.min.name, Cond.static Lib.Math.min.name, Cond.initialized "java/lang/Math", Cond.code Lib.Math.min.name Lib.Math.min.code 2 (some .int)] : List Cond), w ∈ lw_g) (hdd : 1 ≤ d) (hr : st.length ≤ 4) (hd : decode cc pc = .ok (.invokestatic idx, 3)) (K : ∀ z : Int32, (z.toInt = x.toInt ∨ z.toInt = y.toInt) ∧ z.toInt ≤ x.toInt ∧ z.toInt ≤ y.toInt → At E ad G nL (pc + 3) L (.int z :: st) σ) : At E ad G nL pc L (.int y :: .int x :: st) σ := by
  intro H locs ls hP hS hl
  have hc : ∀ v : Value, v.category ≤ 2 := fun v => by rcases lv_cat v with h | h <;> omega
  have hsum : (st.map fun v => v.category).sum ≤ 2 * st.length := by
    clear hd K
    induction st with
    | nil => simp
    | cons a t ih => simp only [List.map_cons, List.sum_cons, List.length_cons]; have := hc a; have := ih (by simp only [List.length_cons] at hr; omega); omega
  have hR := C.r
  refine va_mmin C.x C.b (by rw [C.ml]; exact hl.1.symm) C.o (C.t _ (hw _ (by simp))) (C.t _ (hw _ (by simp))) (C.t _ (hw _ (by simp))) (C.t _ (hw _ (by simp))) (by omega) (by omega) C.c.1 C.c.2 hd (K _ ?_ H locs ls hP hS hl)
  split
  · rename_i h
    have := Int32.lt_iff_toInt_lt.mp h
    omega
  · rename_i h
    have := Int32.le_iff_toInt_le.mp (Int32.not_lt.mp h)
    omega
def sSet (σ : Sg) (k : Nat) (f : Nat → Int32) : Sg := fun a => if a = k then f else σ a
theorem r_copy (C : Cx E ad G own cc nL d) {idx k0 k1 n : Nat} {m : Int32} (h0 : k0 < 70) (h1 : k1 < 70) (e0 : ∀ f, ent E.2.2.1 E.2.2.2 ad k0 f = .inl (E.2.2.1, n, .inl f)) (e1 : ∀ f, ent E.2.2.1 E.2.2.2 ad k1 f = .inl (E.2.2.1, n, .inl f)) (hm : 0 ≤ m.toInt ∧ m.toInt ≤ n) (hw : ∀ w ∈ ([Cond.methodLink own idx arraycopyName, Cond.native arraycopyName, Cond.static arraycopyName, Cond.initialized "java/lang/System"] : List Cond), w ∈ lw_g) (hdd : 2 ≤ d) (hr : st.length ≤ 2) (hd : decode cc pc = .ok (.invokestatic idx, 3)) (K : At E ad G nL (pc + 3) L st (sSet σ k1 (va_cpy (σ k0) (σ k1) 0 0 m.toInt.toNat))) : At E ad G nL pc L (.int m :: .int 0 :: .ref (ad k1) :: .int 0 :: .ref (ad k0) :: st) σ := by
  intro H locs ls hP hS hl
  have hc : ∀ v : Value, v.category ≤ 2 := fun v => by rcases lv_cat v with h | h <;> omega
  have hsum : (st.map fun v => v.category).sum ≤ 4 := by
    match st, hr with
    | [], _ => simp
    | [a], _ => simp; have := hc a; omega
    | [a, b], _ => simp; have := hc a; have := hc b; omega
  have hR := C.r
  refine va_copyi C.x C.b (by rw [C.ml]; exact hl.1.symm) C.o (C.t _ (hw _ (by simp))) (C.t _ (hw _ (by simp))) (C.t _ (hw _ (by simp))) (C.t _ (hw _ (by simp))) C.k hP (wld_D C.a) hS k0 k1 0 0 ((wld_get h0).trans (by rw [e0])) ((wld_get h1).trans (by rw [e1])) rfl rfl rfl (sp := 0) (dp := 0) (n := m) (by decide) (by decide) (by rw [Int32.lt_iff_toInt_lt]; show ¬ m.toInt < 0; omega) (by show 0 + m.toInt.toNat ≤ n; omega) (by show 0 + m.toInt.toNat ≤ n; omega) (fun _ _ => rfl) (by omega) ?_ hd (fun H1 locs1 hP1 _ hS1 => K H1 locs1 ls ?_ hS1 hl)
  · have : nativeFrameWords "java/lang/System" "arraycopy" 5 ≤ 20 := by decide
    omega
  · rw [wld_set (σ' := sSet σ k1 (va_cpy (σ k0) (σ k1) 0 0 m.toInt.toNat)) h1 (by rw [e1]; show _ = Sum.inl (_, _, Sum.inl (va_cpy (σ k0) (σ k1) 0 0 m.toInt.toNat)); rw [show sSet σ k1 (va_cpy (σ k0) (σ k1) 0 0 m.toInt.toNat) k1 = va_cpy (σ k0) (σ k1) 0 0 m.toInt.toNat from if_pos rfl]) (fun i hi => if_neg hi)] at hP1
    exact hP1
theorem fb {E : Ev} {ad : Nat → Nat} {As : List Value} {σ : Sg} : FrameBlind (va_Pc As (Wd E ad σ)) := fun a U g mk q => by
  obtain ⟨h0, h1, h2, h3, h4⟩ := q
  exact ⟨h0, h1, va_K.moved (u := U) (U := U.calling g mk a) (Vm.Alike.refl U.vm) h2, h3, h4.same rfl rfl⟩
theorem pre_at (C : Cx E ad G own cc nL d) {As : List Value} {H : Heap} {locs : List Loc} (hP : va_P E.2.1 classes (wl E ad σ) H) (hS : va_S (Aw ad) (gS G).heap H locs) : ∀ U : State, U.heap = H → (gS G).WarmedH U.vm → va_Pc As (Wd E ad σ) As.toArray U := fun U hU hW => ⟨rfl, by rw [hU]; exact hP, va_K.moved hW.alike C.k, C.a, C.f.to hW (fun a h1 h2 => by rw [hU]; exact hS.2.1 a h1 h2)⟩
theorem room_at (C : Cx E ad G own cc nL d) {mL dy : Nat} (hd : dy + 1 ≤ d) (hm : mL ≤ 21) : (rmD dy).frames + 1 ≤ (gR G).frames ∧ 8 + (mL + 11) + (rmD dy).locals ≤ (gR G).locals := by
  obtain ⟨h1, h2⟩ := C.r
  refine ⟨?_, ?_⟩
  · show dy + 1 ≤ _
    omega
  · show 8 + (mL + 11) + 40 * dy ≤ _
    omega
theorem run_V (C : Cx E ad G own cc nL d) {y : MethodName} {yc : ByteArray} {mL dy idx n k ci N : Nat} {rt : Option FieldType} {T : u_T} {fs : List Value} {Qc : Array Value → State → Outcome → State → Prop} {As rest : List Value} {H : Heap} {locs : List Loc} {ls : Array Slot} (hM : Met E.1 y (.code y yc mL rt :: lw_g) (rmD dy) (va_Pc (.ref (ad k) :: As) (Wd E ad σ)) Qc 0 0 (Aw ad)) (lk : LkV own idx y yc mL rt n) (hk : k < 70) (he : ent E.2.2.1 E.2.2.2 ad k (σ k) = .inr (ci, fs)) (hc : classes[ci]? = some (y.cls, T, N)) (hdd : dy + 1 ≤ d) (hm : mL ≤ 21) (hn : As.length = n) (hr : (rest.map fun v => v.category).sum ≤ 8) (hd : decode cc pc = .ok (.invokevirtual idx, 3)) (hP : va_P E.2.1 classes (wl E ad σ) H) (hS : va_S (Aw ad) (gS G).heap H locs) (hl : lv_has ls nL L) :
    va_Run (gP G) E.1 (gE G) (gR G) (gS G) (gM G) (gA G) (gB G) (gN G) (gC G) H locs (gK G) (gZ G) 0 0 (F0 (gM G) pc ls (As.reverse ++ .ref (ad k) :: rest)) rest (Qc (Value.ref (ad k) :: As).toArray) (Aw ad) := by
  obtain ⟨l1, l2⟩ := lk
  have hT : GoodIn lw_g (wsV own idx y.cls y (.code y yc mL rt :: lw_g)) := gI (fun w hw => by
    unfold wsV at hw
    rcases List.mem_append.mp hw with h | h
    · simp only [List.mem_cons, List.not_mem_nil, or_false] at h
      rcases h with rfl | rfl | rfl | rfl <;> exact l1 _ (by simp)
    · rcases List.mem_cons.mp h with rfl | h
      · exact l1 _ (by simp)
      · exact h)
  exact va_runV (C := y.cls) (As := As) (rest := rest) ⟨C.x, C.b, C.ml, C.o, C.t⟩ hM (cwV n C.t hT rfl rfl rfl ⟨rfl, l2⟩ (room_at C hdd hm)) ⟨fb, va_recv C.k hP hc ((wld_get hk).trans (by rw [he])), pre_at C hP hS⟩ rfl hn hl.1 rfl (lv_room hr) hd C.c
theorem run_S (C : Cx E ad G own cc nL d) {y : MethodName} {yc : ByteArray} {mL dy idx n : Nat} {rt : Option FieldType} {Qc : Array Value → State → Outcome → State → Prop} {As rest : List Value} {H : Heap} {locs : List Loc} {ls : Array Slot} (hM : Met E.1 y (.code y yc mL rt :: lw_g) (rmD dy) (va_Pc As (Wd E ad σ)) Qc 0 0 (Aw ad)) (lk : LkS own idx y yc mL rt n) (hdd : dy + 1 ≤ d) (hm : mL ≤ 21) (hn : As.length = n) (hr : (rest.map fun v => v.category).sum ≤ 8) (hd : decode cc pc = .ok (.invokestatic idx, 3)) (hP : va_P E.2.1 classes (wl E ad σ) H) (hS : va_S (Aw ad) (gS G).heap H locs) (hl : lv_has ls nL L) :
    va_Run (gP G) E.1 (gE G) (gR G) (gS G) (gM G) (gA G) (gB G) (gN G) (gC G) H locs (gK G) (gZ G) 0 0 (F0 (gM G) pc ls (As.reverse ++ rest)) rest (Qc As.toArray) (Aw ad) := by
  obtain ⟨l1, l2⟩ := lk
  have hT : GoodIn lw_g (va_wsS own idx y (.code y yc mL rt :: lw_g)) := gI (fun w hw => by
    unfold va_wsS at hw
    rcases List.mem_append.mp hw with h | h
    · simp only [List.mem_cons, List.not_mem_nil, or_false] at h
      rcases h with rfl | rfl | rfl <;> exact l1 _ (by simp)
    · rcases List.mem_cons.mp h with rfl | h
      · exact l1 _ (by simp)
      · exact h)
  exact va_runS (As := As) (rest := rest) ⟨C.x, C.b, C.ml, C.o, C.t⟩ hM (va_cwS n C.t hT rfl rfl rfl l2 (room_at C hdd hm)) ⟨fb, pre_at C hP hS⟩ rfl hn hl.1 rfl (lv_room hr) hd C.c
theorem r_callV (C : Cx E ad G own cc nL d) {y : MethodName} {yc : ByteArray} {mL dy idx n k ci N : Nat} {rt : Option FieldType} {T : u_T} {fs : List Value} {post : Int32 → Sg → Prop} (As rest : List Value) (hM : Ct E ad y yc mL rt dy (.ref (ad k) :: As) σ post) (lk : LkV own idx y yc mL rt n) (hk : k < 70) (he : ent E.2.2.1 E.2.2.2 ad k (σ k) = .inr (ci, fs)) (hc : classes[ci]? = some (y.cls, T, N)) (hdd : dy + 1 ≤ d) (hm : mL ≤ 21) (hn : As.length = n) (hst : st = As.reverse ++ .ref (ad k) :: rest) (hr : (rest.map fun v => v.category).sum ≤ 8) (hd : decode cc pc = .ok (.invokevirtual idx, 3))
    (K : ∀ (r : Int32) (τ : Sg), post r τ → At E ad G nL (pc + 3) L (.int r :: rest) τ) : At E ad G nL pc L st σ := by
  intro H locs ls hP hS hl
  subst hst
  exact va_calli (run_V C hM lk hk he hc hdd hm hn hr hd hP hS hl) hS (fun _ _ h => h) (fun _ h => h) (fun r τ t H1 locs1 ht hvm hp hB _ _ hS1 => K r τ hp H1 locs1 ls (by have h1 := hB.1; rw [ht] at h1; exact h1) hS1 hl)
theorem r_callVv (C : Cx E ad G own cc nL d) {y : MethodName} {yc : ByteArray} {mL dy idx n k ci N : Nat} {T : u_T} {fs : List Value} {post : Sg → Prop} (As rest : List Value) (hM : CtV E ad y yc mL dy (.ref (ad k) :: As) σ post) (lk : LkV own idx y yc mL none n) (hk : k < 70) (he : ent E.2.2.1 E.2.2.2 ad k (σ k) = .inr (ci, fs)) (hc : classes[ci]? = some (y.cls, T, N)) (hdd : dy + 1 ≤ d) (hm : mL ≤ 21) (hn : As.length = n) (hst : st = As.reverse ++ .ref (ad k) :: rest) (hr : (rest.map fun v => v.category).sum ≤ 8) (hd : decode cc pc = .ok (.invokevirtual idx, 3))
    (K : ∀ (τ : Sg), post τ → At E ad G nL (pc + 3) L rest τ) : At E ad G nL pc L st σ := by
  intro H locs ls hP hS hl
  subst hst
  exact va_callv (run_V C hM lk hk he hc hdd hm hn hr hd hP hS hl) hS (fun _ _ h => h) (fun _ h => h) (fun τ t H1 locs1 ht hvm hp hB _ _ hS1 => K τ hp H1 locs1 ls (by have h1 := hB.1; rw [ht] at h1; exact h1) hS1 hl)
theorem r_callS (C : Cx E ad G own cc nL d) {y : MethodName} {yc : ByteArray} {mL dy idx n : Nat} {rt : Option FieldType} {post : Int32 → Sg → Prop} (As rest : List Value) (hM : Ct E ad y yc mL rt dy As σ post) (lk : LkS own idx y yc mL rt n) (hdd : dy + 1 ≤ d) (hm : mL ≤ 21) (hn : As.length = n) (hst : st = As.reverse ++ rest) (hr : (rest.map fun v => v.category).sum ≤ 8) (hd : decode cc pc = .ok (.invokestatic idx, 3))
    (K : ∀ (r : Int32) (τ : Sg), post r τ → At E ad G nL (pc + 3) L (.int r :: rest) τ) : At E ad G nL pc L st σ := by
  intro H locs ls hP hS hl
  subst hst
  exact va_calli (run_S C hM lk hdd hm hn hr hd hP hS hl) hS (fun _ _ h => h) (fun _ h => h) (fun r τ t H1 locs1 ht hvm hp hB _ _ hS1 => K r τ hp H1 locs1 ls (by have h1 := hB.1; rw [ht] at h1; exact h1) hS1 hl)
theorem r_callT (C : Cx E ad G own cc nL d) {y : MethodName} {yc : ByteArray} {mL dy idx n i : Nat} {rt : Option FieldType} {post : Int32 → Sg → Prop} (As rest : List Value) (hi : i < 6) (hM : Ct E ad y yc mL rt dy (.ref (ad (100 + i)) :: As) σ post) (lk : LkV own idx y yc mL rt n) (hy : y.cls = "java/lang/String") (hdd : dy + 1 ≤ d) (hm : mL ≤ 21) (hn : As.length = n) (hst : st = As.reverse ++ .ref (ad (100 + i)) :: rest) (hr : (rest.map fun v => v.category).sum ≤ 8) (hd : decode cc pc = .ok (.invokevirtual idx, 3))
    (K : ∀ (r : Int32) (τ : Sg), post r τ → At E ad G nL (pc + 3) L (.int r :: rest) τ) : At E ad G nL pc L st σ := by
  intro H locs ls hP hS hl
  subst hst
  obtain ⟨l1, l2⟩ := lk
  have hT : GoodIn lw_g (wsV own idx y.cls y (.code y yc mL rt :: lw_g)) := gI (fun w hw => by
    unfold wsV at hw
    rcases List.mem_append.mp hw with h | h
    · simp only [List.mem_cons, List.not_mem_nil, or_false] at h
      rcases h with rfl | rfl | rfl | rfl <;> exact l1 _ (by simp)
    · rcases List.mem_cons.mp h with rfl | h
      · exact l1 _ (by simp)
      · exact h)
  exact va_calli (va_runV (C := y.cls) (As := As) (rest := rest) ⟨C.x, C.b, C.ml, C.o, C.t⟩ hM (cwV n C.t hT rfl rfl rfl ⟨rfl, l2⟩ (room_at C hdd hm)) ⟨fb, by rw [hy]; exact vk_recv (i := i) C.f.1 hi hS, pre_at C hP hS⟩ rfl hn hl.1 rfl (lv_room hr) hd C.c) hS (fun _ _ h => h) (fun _ h => h) (fun r τ t H1 locs1 ht hvm hp hB _ _ hS1 => K r τ hp H1 locs1 ls (by have h1 := hB.1; rw [ht] at h1; exact h1) hS1 hl)
theorem r_callSN (C : Cx E ad G own cc nL d) {y : MethodName} {yc : ByteArray} {mL dy idx n : Nat} {rt : Option FieldType} {host : String} {post : Int32 → Sg → Prop} (As rest : List Value) (hM : Ct E ad y yc mL rt dy As σ post) (hN : va_Nw (.methodLinkNest own idx y host) (gS G)) (l1 : ∀ w ∈ ([.static y, .initialized y.cls, .code y yc mL rt] : List Cond), w ∈ lw_g) (l2 : y.cls ≠ "java/lang/invoke/MethodHandle" ∧ y.cls ≠ "java/lang/invoke/VarHandle" ∧ (parseMethodDescriptor y.desc).map (fun d => d.parameters.length) = some n) (hdd : dy + 1 ≤ d) (hm : mL ≤ 21) (hn : As.length = n) (hst : st = As.reverse ++ rest) (hr : (rest.map fun v => v.category).sum ≤ 8) (hd : decode cc pc = .ok (.invokestatic idx, 3))
    (K : ∀ (r : Int32) (τ : Sg), post r τ → At E ad G nL (pc + 3) L (.int r :: rest) τ) : At E ad G nL pc L st σ := by
  intro H locs ls hP hS hl
  subst hst
  have hT : GoodIn lw_g (.code y yc mL rt :: lw_g) := gI (fun w hw => by
    rcases List.mem_cons.mp hw with rfl | h
    · exact l1 _ (by simp)
    · exact h)
  exact va_calli (va_runSN (As := As) (rest := rest) ⟨C.x, C.b, C.ml, C.o, C.t⟩ hM ⟨va_cnB n C.t hT rfl rfl rfl hN (C.t _ (l1 _ (by simp))) l2 (room_at C hdd hm), C.t _ (l1 _ (by simp)), trivial⟩ ⟨fb, pre_at C hP hS⟩ rfl hn hl.1 rfl (lv_room hr) hd C.c) hS (fun _ _ h => h) (fun _ h => h) (fun r τ t H1 locs1 ht hvm hp hB _ _ hS1 => K r τ hp H1 locs1 ls (by have h1 := hB.1; rw [ht] at h1; exact h1) hS1 hl)
theorem r_callSv (C : Cx E ad G own cc nL d) {y : MethodName} {yc : ByteArray} {mL dy idx n : Nat} {post : Sg → Prop} (As rest : List Value) (hM : CtV E ad y yc mL dy As σ post) (lk : LkS own idx y yc mL none n) (hdd : dy + 1 ≤ d) (hm : mL ≤ 21) (hn : As.length = n) (hst : st = As.reverse ++ rest) (hr : (rest.map fun v => v.category).sum ≤ 8) (hd : decode cc pc = .ok (.invokestatic idx, 3))
    (K : ∀ (τ : Sg), post τ → At E ad G nL (pc + 3) L rest τ) : At E ad G nL pc L st σ := by
  intro H locs ls hP hS hl
  subst hst
  exact va_callv (run_S C hM lk hdd hm hn hr hd hP hS hl) hS (fun _ _ h => h) (fun _ h => h) (fun τ t H1 locs1 ht hvm hp hB _ _ hS1 => K τ hp H1 locs1 ls (by have h1 := hB.1; rw [ht] at h1; exact h1) hS1 hl)
theorem r_gets (C : Cx E ad G own cc nL d) {Cn n dd : String} {v : Value} {idx : Nat} (hZ : va_Z Cn n dd v (Aw ad) (gS G) (gS G).heap) (hw : Cond.fieldLink own idx Cn n dd ∈ lw_g) (hd : decode cc pc = .ok (.getstatic idx, 3)) (K : At E ad G nL (pc + 3) L (v :: st) σ) : At E ad G nL pc L st σ := fun H locs ls hP hS hl => va_gets C.x C.b hZ hS C.o (C.t _ hw) (fun _ h => h) hd (K H locs ls hP hS hl)
theorem r_sval (C : Cx E ad G own cc nL d) {i idx : Nat} (hi : i < 6) (hw : Cond.fieldLink own idx "java/lang/String" "value" "[B" ∈ lw_g) (hd : decode cc pc = .ok (.getfield idx, 3)) (K : At E ad G nL (pc + 3) L (.ref (ad (200 + i)) :: st) σ) : At E ad G nL pc L (.ref (ad (100 + i)) :: st) σ := fun H locs ls hP hS hl => vk_getf C.x C.b (C.f.1.1 i hi).2.2.1 hS C.o (C.t _ hw) (fun _ h => h) hd (K H locs ls hP hS hl)
theorem r_scod (C : Cx E ad G own cc nL d) {i idx : Nat} (hi : i < 6) (hw : Cond.fieldLink own idx "java/lang/String" "coder" "B" ∈ lw_g) (hd : decode cc pc = .ok (.getfield idx, 3)) (K : At E ad G nL (pc + 3) L (.int 0 :: st) σ) : At E ad G nL pc L (.ref (ad (100 + i)) :: st) σ := fun H locs ls hP hS hl => vk_getf C.x C.b (C.f.1.1 i hi).2.1 hS C.o (C.t _ hw) (fun _ h => h) hd (K H locs ls hP hS hl)
theorem r_tlen (C : Cx E ad G own cc nL d) {i : Nat} (hi : i < 6) (hd : decode cc pc = .ok (.arraylength, 1)) (K : At E ad G nL (pc + 1) L (.int (Int32.ofNat (slen.getD i 0)) :: st) σ) : At E ad G nL pc L (.ref (ad (200 + i)) :: st) σ := fun H locs ls hP hS hl => va_tlen C.x C.b (C.f.1.1 i hi).2.2.2 hS rfl hd (K H locs ls hP hS hl)
theorem r_tb (C : Cx E ad G own cc nL d) {i : Nat} {x : Int32} (hi : i < 6) (hx : 0 ≤ x.toInt ∧ x.toInt < (slen.getD i 0 : Nat)) (hd : decode cc pc = .ok (.baload, 1)) (K : At E ad G nL (pc + 1) L (.int ((sbyt.getD i []).getD x.toInt.toNat 0) :: st) σ) : At E ad G nL pc L (.int x :: .ref (ad (200 + i)) :: st) σ := fun H locs ls hP hS hl => va_tb C.x C.b (C.f.1.1 i hi).2.2.2 hS (ta_in hx) rfl hd (K H locs ls hP hS hl)
theorem r_ti (C : Cx E ad G own cc nL d) {x : Int32} (hx : 0 ≤ x.toInt ∧ x.toInt < (6 : Nat)) (hd : decode cc pc = .ok (.iaload, 1)) (K : At E ad G nL (pc + 1) L (.int (gof x.toInt.toNat) :: st) σ) : At E ad G nL pc L (.int x :: .ref (ad 300) :: st) σ := fun H locs ls hP hS hl => va_ti C.x C.b C.f.2.2.2.2.2.1 hS (ta_in hx) rfl hd (K H locs ls hP hS hl)
theorem r_ldcS (C : Cx E ad G RX7 cc nL d) (i : Nat) (hi : i < 6) (hd : decode cc pc = .ok (.ldc (sidx i), 2)) (K : At E ad G nL (pc + 2) L (.ref (ad (100 + i)) :: st) σ) : At E ad G nL pc L st σ := fun H locs ls hP hS hl => va_ldcS C.x C.b C.o (C.f.2.1 i hi) hd (K H locs ls hP hS hl)
theorem wd_end (C : Cx E ad G own cc nL d) {H : Heap} {locs : List Loc} (hP : va_P E.2.1 classes (wl E ad σ) H) (hS : va_S (Aw ad) (gS G).heap H locs) {t : State} (ht : t.heap = H) (hW : (gS G).WarmedH t.vm) : Wd E ad σ t := ⟨by rw [ht]; exact hP, va_K.moved hW.alike C.k, C.a, C.f.to hW (fun a h1 h2 => by rw [ht]; exact hS.2.1 a h1 h2)⟩
theorem r_iret (C : Cx E ad G own cc nL d) {post : Int32 → Sg → Prop} (T : Rt ad G (some .int) (va_Qi post (Wd E ad) (Aw ad))) {r : Int32} (hd : decode cc pc = .ok (.ireturn, 1)) (hp : post r σ) : At E ad G nL pc L [.int r] σ := by
  intro H locs ls hP hS hl
  obtain ⟨h1, h2, h3, h4, h5⟩ := T
  rw [h3, h4, h5]
  exact W.iret C.x C.b h1 (fun t ht hW => ⟨⟨r, σ, rfl, hp, wd_end C hP hS ht hW⟩, hS.F ht⟩) hS.2.2 hd h2
theorem r_zret (C : Cx E ad G own cc nL d) {post : Int32 → Sg → Prop} (T : Rt ad G (some .boolean) (va_Qi post (Wd E ad) (Aw ad))) {r : Int32} (hd : decode cc pc = .ok (.ireturn, 1)) (hb : r.toInt = 0 ∨ r.toInt = 1) (hp : post r σ) : At E ad G nL pc L [.int r] σ := by
  intro H locs ls hP hS hl
  obtain ⟨h1, h2, h3, h4, h5⟩ := T
  rw [h3, h4, h5]
  have hn : narrow .boolean (.int r) = .int r := by
    rcases hb with h | h
    · rw [show r = 0 from ta_inj h]; decide
    · rw [show r = 1 from ta_inj h]; decide
  exact W.zret C.x C.b h1 hn (fun t ht hW => ⟨⟨r, σ, rfl, hp, wd_end C hP hS ht hW⟩, hS.F ht⟩) hS.2.2 hd h2
theorem r_xret (C : Cx E ad G own cc nL d) {post : Int32 → Sg → Prop} {ty : FieldType} (T : Rt ad G (some ty) (va_Qi post (Wd E ad) (Aw ad))) {r : Int32} (hd : decode cc pc = .ok (.ireturn, 1)) (hn : narrow ty (.int r) = .int r) (hp : post r σ) : At E ad G nL pc L [.int r] σ := by
  intro H locs ls hP hS hl
  obtain ⟨h1, h2, h3, h4, h5⟩ := T
  rw [h3, h4, h5]
  exact W.zret C.x C.b h1 hn (fun t ht hW => ⟨⟨r, σ, rfl, hp, wd_end C hP hS ht hW⟩, hS.F ht⟩) hS.2.2 hd h2
theorem r_vret (C : Cx E ad G own cc nL d) {post : Sg → Prop} (T : Rt ad G none (va_Qv post (Wd E ad) (Aw ad))) (hd : decode cc pc = .ok (.return_, 1)) (hp : post σ) : At E ad G nL pc L [] σ := by
  intro H locs ls hP hS hl
  obtain ⟨h1, h2, h3, h4, h5⟩ := T
  rw [h3, h4, h5]
  exact W.vret C.x C.b h1 (fun t ht hW => ⟨⟨σ, rfl, hp, wd_end C hP hS ht hW⟩, hS.F ht⟩) hS.2.2 hd h2
end RULES
