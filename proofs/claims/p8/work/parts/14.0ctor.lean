/-! CONSTRUCTORS: a walk over a world that grows -/
def Nx (U : State) : Prop := va_Nw (.methodLinkNest RX8 9 yX5_init "PermitRoom") U ∧ va_Nw (.methodLinkNest RX5 11 yX2_init "PermitRoom") U ∧ va_Nw (.methodLinkNest RX5 20 yX6_init "PermitRoom") U ∧ va_Nw (.methodLinkNest RX5 27 yX3_init "PermitRoom") U ∧ va_Nw (.methodLinkNest RX8 38 yX7_init "PermitRoom") U ∧ va_Nw (.methodLinkNest RX8 45 yX1_init "PermitRoom") U ∧ va_Nw (.methodLinkNest RX8 52 yX4_init "PermitRoom") U
theorem Nx.to {s U : State} (h : Nx s) (hW : s.WarmedH U.vm) : Nx U := by
  obtain ⟨h1, h2, h3, h4, h5, h6, h7⟩ := h
  exact ⟨va_Nw.warmM hW h1, va_Nw.warmM hW h2, va_Nw.warmM hW h3, va_Nw.warmM hW h4, va_Nw.warmM hW h5, va_Nw.warmM hW h6, va_Nw.warmM hW h7⟩
theorem Nx.same {s U : State} (h : Nx s) (hv : U.vm = s.vm) : Nx U := by
  obtain ⟨h1, h2, h3, h4, h5, h6, h7⟩ := h
  exact ⟨va_Nw.same rfl hv.symm h1, va_Nw.same rfl hv.symm h2, va_Nw.same rfl hv.symm h3, va_Nw.same rfl hv.symm h4, va_Nw.same rfl hv.symm h5, va_Nw.same rfl hv.symm h6, va_Nw.same rfl hv.symm h7⟩
def AN (E : Ev) (A : Nat → Prop) (G : Gm) (nL pc : Nat) (L : List (Nat × Value)) (st : List Value) (ws : va_W) (nc ns : Nat) : Prop :=
  ∀ (H : Heap) (locs : List Loc) (ls : Array Slot), va_P E.2.1 classes ws H → va_D A ws → va_S A (gS G).heap H locs → lv_has ls nL L → W (gP G) E.1 (gE G) (gR G) (gS G) (gM G) (gA G) (gB G) (gN G) (gC G) H locs nc ns (gQ G) (F0 (gM G) pc ls st)
def rmN (d mc ms : Nat) : Room := { frames := d, cells := mc, slots := ms, locals := 40 * d }
def CN (E : Ev) (A : Nat → Prop) (G : Gm) (own : String) (cc : ByteArray) (nL : Nat) (rm : Room) : Prop :=
  (gP G).tables.exec = Jvm.exec ∧ (gC G).code = cc ∧ (gC G).maxLocals = nL ∧ (gS G).vm.findClass own = some (gM G).cls ∧ (∀ w ∈ lw_g, w.before (gA G) (gS G) = true) ∧ va_K E.2.1 classes (tyz E) (gS G) ∧ (∀ q : Nat, (gS G).heap.size ≤ q → A q) ∧ Nx (gS G) ∧ gR G = rm
/-- what a constructor does: from a fresh object h to the world w h u, for some addresses u -/
def CtI (E : Ev) (y : MethodName) (yc : ByteArray) (mL d mc ms ci : Nat) (fs0 : List Value) (w : Nat → (Nat → Nat) → va_W) : Prop :=
  ∀ (h sz : Nat), Met E.1 y (.code y yc mL none :: lw_g) (rmN d mc ms) (va_Pc [.ref h] (fun U => U.heap.size = sz ∧ va_P E.2.1 classes [(h, .inr (ci, fs0))] U.heap ∧ va_K E.2.1 classes (tyz E) U ∧ va_D (fun _ => True) [(h, .inr (ci, fs0))] ∧ Nx U))
    (va_Qv (fun _ : Nat → Nat => True) (fun u t => va_P E.2.1 classes (w h u) t.heap ∧ va_D (va_A [(h, .inr (ci, fs0))] sz) (w h u)) (va_A [(h, .inr (ci, fs0))] sz)) mc ms (va_A [(h, .inr (ci, fs0))] sz)
theorem cti_of {E : Ev} {y : MethodName} {yc : ByteArray} {mL d mc ms ci : Nat} {fs0 : List Value} {w : Nat → (Nat → Nat) → va_W} (own : String) (hown : y.cls = own) (hy : plainName y.cls = true) (hyn : y.name = "<init>") (hlen : 1 ≤ mL)
    (body : ∀ (h : Nat) (A : Nat → Prop) (G : Gm), CN E A G own yc mL (rmN d mc ms) → (gN G).name = "<init>" → ((gN G).sig.returnType = none ∧ (gN G).locks = false ∧ gQ G = MQ (gB G) (va_Qv (fun _ : Nat → Nat => True) (fun u t => va_P E.2.1 classes (w h u) t.heap ∧ va_D A (w h u)) A) (gA G) (gS G) mc ms A) → AN E A G mL 0 [(0, .ref h)] [] [(h, .inr (ci, fs0))] 0 0) : CtI E y yc mL d mc ms ci fs0 w := by
  intro h sz
  refine Met.ofW (cc := yc) (maxL := mL) (ret := none) hy rfl ?_
  intro p e s m args below meth c s₁ B hml hv
  obtain ⟨rfl, hsz, hP, hK, hD0, hN⟩ := hv
  have hts := atoms_spec (ws := .code y yc mL none :: lw_g) B.pre
  have hfc : s.vm.findClass own = some m.cls := hown ▸ findClass_of_methodNamed B.named
  have hin : meth.name = "<init>" := hyn ▸ (name_of_methodNamed B.named B.method).1
  subst hsz
  have hD := hD0.self (sz := s.heap.size)
  have key := body h (va_A [(h, .inr (ci, fs0))] s.heap.size) (p, e, rmN d mc ms, s, m, [Value.ref h].toArray, below, meth, c, MQ below _ [Value.ref h].toArray s mc ms (va_A [(h, .inr (ci, fs0))] s.heap.size), 0, 0) ⟨B.exec, B.bytes, hml, hfc, fun w hw => hts w (List.mem_cons_of_mem _ hw), hK, fun q hq => Or.inr hq, hN, rfl⟩ hin ⟨B.returns, B.notSynchronized, rfl⟩
  have hl := lv_entry [Value.ref h] (n := mL) hlen
  rw [lg_entry_eq]
  exact key s.heap [] _ hP hD va_S.rf hl
theorem nd_of {l : List Nat} (h : l.Nodup) : va_nd l = true := by
  induction l with
  | nil => rfl
  | cons a t ih =>
    rw [List.nodup_cons] at h
    simp only [va_nd, Bool.and_eq_true, decide_eq_true_eq]
    exact ⟨h.1, ih h.2⟩
section NEWR
variable {E : Ev} {A : Nat → Prop} {G : Gm} {own : String} {cc : ByteArray} {nL pc nc ns : Nat} {rm : Room} {L : List (Nat × Value)} {st : List Value} {ws : va_W}
theorem n_aload (C : CN E A G own cc nL rm) {k : Fin 4} {i x : Nat} (j : Nat) (hd : decode cc pc = .ok (.aload_n k, 1)) (hi : (k : Nat) = i) (hL : L[j]? = some (i, .ref x)) (K : AN E A G nL (pc + 1) L (.ref x :: st) ws nc ns) : AN E A G nL pc L st ws nc ns := fun H locs ls hP hD hS hl => lv_aload_n C.1 C.2.1 hd hi (lv_at hl j hL) (K H locs ls hP hD hS hl)
theorem n_iload (C : CN E A G own cc nL rm) {k : Fin 4} {i : Nat} {x : Int32} (j : Nat) (hd : decode cc pc = .ok (.iload_n k, 1)) (hi : (k : Nat) = i) (hL : L[j]? = some (i, .int x)) (K : AN E A G nL (pc + 1) L (.int x :: st) ws nc ns) : AN E A G nL pc L st ws nc ns := fun H locs ls hP hD hS hl => lv_iload_n C.1 C.2.1 hd hi (lv_at hl j hL) (K H locs ls hP hD hS hl)
theorem n_iconst (C : CN E A G own cc nL rm) {n : Int} (v : Int32) (hd : decode cc pc = .ok (.iconst n, 1)) (hv : Int32.ofInt n = v) (K : AN E A G nL (pc + 1) L (.int v :: st) ws nc ns) : AN E A G nL pc L st ws nc ns := fun H locs ls hP hD hS hl => lv_iconst C.1 C.2.1 hd hv (K H locs ls hP hD hS hl)
theorem n_bipush (C : CN E A G own cc nL rm) {n : Int} (v : Int32) (hd : decode cc pc = .ok (.bipush n, 2)) (hv : (Int8.ofInt n).toInt32 = v) (K : AN E A G nL (pc + 2) L (.int v :: st) ws nc ns) : AN E A G nL pc L st ws nc ns := fun H locs ls hP hD hS hl => lv_bipush C.1 C.2.1 hd hv (K H locs ls hP hD hS hl)
theorem n_sipush (C : CN E A G own cc nL rm) {n : Int} (v : Int32) (hd : decode cc pc = .ok (.sipush n, 3)) (hv : (Int16.ofInt n).toInt32 = v) (K : AN E A G nL (pc + 3) L (.int v :: st) ws nc ns) : AN E A G nL pc L st ws nc ns := fun H locs ls hP hD hS hl => lv_sipush C.1 C.2.1 hd hv (K H locs ls hP hD hS hl)
theorem n_dup (C : CN E A G own cc nL rm) {v : Value} (hd : decode cc pc = .ok (.dup, 1)) (hc : v.category = 1) (K : AN E A G nL (pc + 1) L (v :: v :: st) ws nc ns) : AN E A G nL pc L (v :: st) ws nc ns := fun H locs ls hP hD hS hl => lv_dup C.1 C.2.1 hd hc (K H locs ls hP hD hS hl)
theorem n_istore (C : CN E A G own cc nL rm) {k : Fin 4} {i : Nat} {x : Int32} (L' : List (Nat × Value)) (hd : decode cc pc = .ok (.istore_n k, 1)) (hi : (k : Nat) = i) (hn : i < nL) (hl : (i, Value.int x) :: L.filter (fun q => !(q.1 == i) && !(q.1 + 1 == i && q.2.category == 2)) = L') (K : AN E A G nL (pc + 1) L' st ws nc ns) : AN E A G nL pc L (.int x :: st) ws nc ns := fun H locs ls hP hD hS h => lv_istore_n C.1 C.2.1 hd hi h hn hl (fun ls' h' => K H locs ls' hP hD hS h')
theorem n_astore (C : CN E A G own cc nL rm) {k : Fin 4} {i : Nat} {x : Nat} (L' : List (Nat × Value)) (hd : decode cc pc = .ok (.astore_n k, 1)) (hi : (k : Nat) = i) (hn : i < nL) (hl : (i, Value.ref x) :: L.filter (fun q => !(q.1 == i) && !(q.1 + 1 == i && q.2.category == 2)) = L') (K : AN E A G nL (pc + 1) L' st ws nc ns) : AN E A G nL pc L (.ref x :: st) ws nc ns := fun H locs ls hP hD hS h => lv_astore_n C.1 C.2.1 hd hi h hn hl (fun ls' h' => K H locs ls' hP hD hS h')
theorem n_iinc (C : CN E A G own cc nL rm) {i : Nat} {n : Int} {x v : Int32} (j : Nat) (L' : List (Nat × Value)) (hd : decode cc pc = .ok (.iinc i n, 3)) (hk : L[j]? = some (i, .int x)) (hv : x + Int32.ofInt n = v) (hn : i < nL) (hl : (i, Value.int v) :: L.filter (fun q => !(q.1 == i) && !(q.1 + 1 == i && q.2.category == 2)) = L') (K : AN E A G nL (pc + 3) L' st ws nc ns) : AN E A G nL pc L st ws nc ns := fun H locs ls hP hD hS h => lv_iinc C.1 C.2.1 hd h hk hv hn hl (fun ls' h' => K H locs ls' hP hD hS h')
theorem n_goto (C : CN E A G own cc nL rm) {off : Int} (tgt : Nat) (hd : decode cc pc = .ok (.goto off, 3)) (ht : (pc : Int) + off = (tgt : Int)) (K : AN E A G nL tgt L st ws nc ns) : AN E A G nL pc L st ws nc ns := fun H locs ls hP hD hS hl => lv_goto C.1 C.2.1 hd ht (K H locs ls hP hD hS hl)
theorem n_geT (C : CN E A G own cc nL rm) {x y : Int32} {off : Int} (tgt : Nat) (hd : decode cc pc = .ok (.if_icmp .ge off, 3)) (ht : (pc : Int) + off = (tgt : Int)) (hc : y ≤ x) (K : AN E A G nL tgt L st ws nc ns) : AN E A G nL pc L (.int y :: .int x :: st) ws nc ns := fun H locs ls hP hD hS hl => lv_icmp_ge C.1 C.2.1 hd ht (fun _ => K H locs ls hP hD hS hl) (fun h => absurd hc h)
theorem n_geF (C : CN E A G own cc nL rm) {x y : Int32} {off : Int} {tgt : Nat} (hd : decode cc pc = .ok (.if_icmp .ge off, 3)) (ht : (pc : Int) + off = (tgt : Int)) (hc : ¬ y ≤ x) (K : AN E A G nL (pc + 3) L st ws nc ns) : AN E A G nL pc L (.int y :: .int x :: st) ws nc ns := fun H locs ls hP hD hS hl => lv_icmp_ge C.1 C.2.1 hd ht (fun h => absurd h hc) (fun _ => K H locs ls hP hD hS hl)
theorem n_obj (C : CN E A G own cc nL rm) {idx x : Nat} (h1 : Cond.methodLink own idx objectInit ∈ lw_g) (h2 : Cond.instanceMethod objectInit ∈ lw_g) (h3 : Cond.code objectInit ⟨#[0xb1]⟩ 1 none ∈ lw_g) (hst : st = []) (hf : 1 ≤ rm.frames) (hlo : 20 ≤ rm.locals) (hd : decode cc pc = .ok (.invokespecial idx, 3)) (K : AN E A G nL (pc + 3) L [] ws nc ns) : AN E A G nL pc L (.ref x :: st) ws nc ns := by
  intro H locs ls hP hD hS hl
  subst hst
  have hR : gR G = rm := C.2.2.2.2.2.2.2.2
  refine W.objInit C.1 C.2.1 C.2.2.2.1 (C.2.2.2.2.1 _ h1) (C.2.2.2.2.1 _ h2) (C.2.2.2.2.1 _ h3) rfl (by rw [C.2.2.1]; exact hl.1) rfl hd (by rw [hR]; exact hf) (by rw [hR]; show _ ≤ rm.locals; exact Nat.le_trans (Nat.le_of_ble_eq_true rfl) hlo) ?_
  refine W.eq (g2 := F0 (gM G) (pc + 3) ls []) rfl ?_
  exact K H locs ls hP hD hS hl
theorem n_newa (C : CN E A G own cc nL rm) {n : Int32} (N : Nat) (hw : Cond.arrayClass .int ∈ lw_g) (hn : ¬ n < 0) (hN : n.toNatClampNeg = N) (hb : N ≤ 1000) (hc : nc + 1 ≤ rm.cells) (hs : ns + N ≤ rm.slots) (hd : decode cc pc = .ok (.newarray .int, 2)) (K : ∀ q : Nat, AN E A G nL (pc + 2) L (.ref q :: st) (ws ++ [(q, .inl (E.2.2.1, N, .inl (fun _ => 0)))]) (nc + 1) (ns + N)) : AN E A G nL pc L (.int n :: st) ws nc ns := by
  intro H locs ls hP hD hS hl
  have hR : gR G = rm := C.2.2.2.2.2.2.2.2
  have hK := C.2.2.2.2.2.1
  refine va_newa (a0 := (N, .inl (fun _ => 0))) C.1 C.2.1 (atype := .int) (C.2.2.2.2.1 _ hw) rfl hK hP hD hS C.2.2.2.2.2.2.1 (fun cA => rfl) hn hN (by show N * 4 ≤ _; omega) (by rw [hR]; exact hc) (by rw [hR]; exact hs) hd (fun q cA H1 hK1 hP1 hD1 hS1 => ?_)
  have e1 : va_RA (gS G) cA .int := (hK1.2 2 (cA, .int) rfl).2
  have e2 : va_RA (gS G) E.2.2.1 .int := (hK.2 0 (E.2.2.1, .int) rfl).2
  have e3 : cA = E.2.2.1 := Option.some.inj (e1.symm.trans e2)
  subst e3
  exact K q H1 locs ls hP1 hD1 hS1 hl
theorem n_newz (C : CN E A G own cc nL rm) {n : Int32} (N : Nat) (hw : Cond.arrayClass .boolean ∈ lw_g) (hn : ¬ n < 0) (hN : n.toNatClampNeg = N) (hb : N ≤ 1000) (hc : nc + 1 ≤ rm.cells) (hs : ns + N ≤ rm.slots) (hd : decode cc pc = .ok (.newarray .boolean, 2)) (K : ∀ q : Nat, AN E A G nL (pc + 2) L (.ref q :: st) (ws ++ [(q, .inl (E.2.2.2, N, .inl (fun _ => 0)))]) (nc + 1) (ns + N)) : AN E A G nL pc L (.int n :: st) ws nc ns := by
  intro H locs ls hP hD hS hl
  have hR : gR G = rm := C.2.2.2.2.2.2.2.2
  have hK := C.2.2.2.2.2.1
  refine va_newa (a0 := (N, .inl (fun _ => 0))) C.1 C.2.1 (atype := .boolean) (C.2.2.2.2.1 _ hw) rfl hK hP hD hS C.2.2.2.2.2.2.1 (fun cA => rfl) hn hN (by show N * 1 ≤ _; omega) (by rw [hR]; exact hc) (by rw [hR]; exact hs) hd (fun q cA H1 hK1 hP1 hD1 hS1 => ?_)
  have e1 : va_RA (gS G) cA .boolean := (hK1.2 2 (cA, .boolean) rfl).2
  have e2 : va_RA (gS G) E.2.2.2 .boolean := (hK.2 1 (E.2.2.2, .boolean) rfl).2
  have e3 : cA = E.2.2.2 := Option.some.inj (e1.symm.trans e2)
  subst e3
  exact K q H1 locs ls hP1 hD1 hS1 hl
def LkN (own : String) (idx ci j : Nat) (fin : Bool) (ty : FieldType) : Prop := ∃ (C : String) (T : u_T) (N : Nat) (ty0 : Nat → FieldType), classes[ci]? = some (C, T, N) ∧ j < N ∧ (∀ w ∈ u_ws C T N, w ∈ lw_g) ∧ Cond.fieldLink own idx (T j).1 (T j).2.1 (T j).2.2.1 ∈ lw_g ∧ (T j).2.2.2 = fin ∧ (∀ k, k < N → parseFieldDescriptor (T k).2.2.1 = some (ty0 k)) ∧ (∀ a, a < N → ∀ b, b < N → a ≠ b → (T a).2.1 ≠ (T b).2.1) ∧ parseFieldDescriptor (T j).2.2.1 = some ty ∧ (T j).1 = own
theorem n_putF (C : CN E A G own cc nL rm) (hin : (gN G).name = "<init>") {idx ci j a : Nat} {ty : FieldType} {fs : List Value} {v : Value} (ws' : va_W) (q0 : Nat) (g : LkN own idx ci j true ty) (he : ws[q0]? = some (a, .inr (ci, fs))) (hj : j < fs.length) (hn : narrow ty v = v) (hf : fits ty v = true) (hws : ws.set q0 (a, .inr (ci, fs.set j v)) = ws') (hd : decode cc pc = .ok (.putfield idx, 3)) (K : AN E A G nL (pc + 3) L st ws' nc ns) : AN E A G nL pc L (v :: .ref a :: st) ws nc ns := by
  intro H locs ls hP hD hS hl
  obtain ⟨C1, T, N, ty0, g1, g2, g3, g4, g5, g6, g7, g8, g9⟩ := g
  subst hws
  exact va_putF (C := C1) (T := T) (N := N) (ty := ty) C.1 C.2.1 C.2.2.2.2.1 g3 ty0 g6 g7 C.2.2.2.1 C.2.2.2.2.2.1 hP hD hS q0 he g1 j g2 (C.2.2.2.2.1 _ g4) (fun _ h => h) g5 hin g9 g8 hn hf hj hd (fun H1 locs1 hP1 hD1 hS1 => K H1 locs1 ls hP1 hD1 hS1 hl)
theorem n_put (C : CN E A G own cc nL rm) {idx ci j a : Nat} {ty : FieldType} {fs : List Value} {v : Value} (ws' : va_W) (q0 : Nat) (g : LkN own idx ci j false ty) (he : ws[q0]? = some (a, .inr (ci, fs))) (hj : j < fs.length) (hn : narrow ty v = v) (hf : fits ty v = true) (hws : ws.set q0 (a, .inr (ci, fs.set j v)) = ws') (hd : decode cc pc = .ok (.putfield idx, 3)) (K : AN E A G nL (pc + 3) L st ws' nc ns) : AN E A G nL pc L (v :: .ref a :: st) ws nc ns := by
  intro H locs ls hP hD hS hl
  obtain ⟨C1, T, N, ty0, g1, g2, g3, g4, g5, g6, g7, g8, g9⟩ := g
  subst hws
  exact va_put (C := C1) (T := T) (N := N) (ty := ty) C.1 C.2.1 C.2.2.2.2.1 g3 ty0 g6 g7 C.2.2.2.1 C.2.2.2.2.2.1 hP hD hS q0 he g1 j g2 (C.2.2.2.2.1 _ g4) (fun _ h => h) g5 g8 hn hf hj hd (fun H1 locs1 hP1 hD1 hS1 => K H1 locs1 ls hP1 hD1 hS1 hl)
theorem n_get (C : CN E A G own cc nL rm) {idx ci j a : Nat} {fs : List Value} {v : Value} (q0 : Nat) (g : LkF own idx ci j) (he : ws[q0]? = some (a, .inr (ci, fs))) (hv : fs[j]? = some v) (hd : decode cc pc = .ok (.getfield idx, 3)) (K : AN E A G nL (pc + 3) L (v :: st) ws nc ns) : AN E A G nL pc L (.ref a :: st) ws nc ns := by
  intro H locs ls hP hD hS hl
  obtain ⟨C1, T, N, g1, g2, g3, g4⟩ := g
  exact va_get (C := C1) (T := T) (N := N) C.1 C.2.1 C.2.2.2.2.1 g3 C.2.2.2.1 C.2.2.2.2.2.1 hP q0 he g1 j g2 (C.2.2.2.2.1 _ g4) (fun _ h => h) hv hd (K H locs ls hP hD hS hl)
theorem n_iast (C : CN E A G own cc nL rm) {a n : Nat} {f : Nat → Int32} {i x : Int32} (ws' : va_W) (q0 : Nat) (he : ws[q0]? = some (a, .inl (E.2.2.1, n, .inl f))) (hi : vp_in i n) (hws : ws.set q0 (a, .inl (E.2.2.1, n, .inl (upd f i.toNatClampNeg x))) = ws') (hd : decode cc pc = .ok (.iastore, 1)) (K : AN E A G nL (pc + 1) L st ws' nc ns) : AN E A G nL pc L (.int x :: .int i :: .ref a :: st) ws nc ns := by
  intro H locs ls hP hD hS hl
  subst hws
  exact va_iast C.1 C.2.1 C.2.2.2.2.2.1 hP hD hS q0 0 he rfl hi hd (fun H1 locs1 hP1 hD1 hS1 => K H1 locs1 ls hP1 hD1 hS1 hl)
def LkC (own : String) (idx ci : Nat) (fs : List Value) : Prop := ∃ (C : String) (T : u_T) (N : Nat) (ty0 : Nat → FieldType), classes[ci]? = some (C, T, N) ∧ (∀ w ∈ u_ws C T N, w ∈ lw_g) ∧ (∀ k, k < N → parseFieldDescriptor (T k).2.2.1 = some (ty0 k)) ∧ (∀ w ∈ ([.classLink own idx C, .instantiable C N, .initialized C] : List Cond), w ∈ lw_g) ∧ (∀ j, j < N → defaultValue (ty0 j) = vp_V fs j) ∧ N = fs.length
theorem n_new (C : CN E A G own cc nL rm) {idx ci : Nat} {fs : List Value} (g : LkC own idx ci fs) (hc : nc + 1 ≤ rm.cells) (hs : ns + fs.length ≤ rm.slots) (hd : decode cc pc = .ok (.new idx, 3)) (K : ∀ q : Nat, AN E A G nL (pc + 3) L (.ref q :: st) (ws ++ [(q, .inr (ci, fs))]) (nc + 1) (ns + fs.length)) : AN E A G nL pc L st ws nc ns := by
  intro H locs ls hP hD hS hl
  have hR : gR G = rm := C.2.2.2.2.2.2.2.2
  obtain ⟨C1, T, N, ty0, g1, g2, g3, g4, g5, rfl⟩ := g
  exact va_new (ci := ci) (fs := fs) (C := C1) (T := T) (N := fs.length) C.1 C.2.1 C.2.2.2.2.1 g2 ty0 g3 C.2.2.2.1 (C.2.2.2.2.1 _ (g4 _ (by simp))) (C.2.2.2.2.1 _ (g4 _ (by simp))) (C.2.2.2.2.1 _ (g4 _ (by simp))) C.2.2.2.2.2.1 hP hD hS C.2.2.2.2.2.2.1 g1 g5 (by rw [hR]; exact hc) (by rw [hR]; exact hs) hd (fun q H1 hP1 hD1 hS1 => K q H1 locs ls hP1 hD1 hS1 hl)
theorem n_after {y : MethodName} {ci : Nat} {fs0 : List Value} {w : Nat → (Nat → Nat) → va_W} {q mc ms : Nat} {wr : va_W} {H : Heap} {locs : List Loc} {ls : Array Slot} {rest st0 : List Value} {a : Array Value} (C : CN E A G own cc nL rm) (hP : va_P E.2.1 classes (wr ++ [(q, .inr (ci, fs0))]) H) (hD : va_D A (wr ++ [(q, .inr (ci, fs0))])) (hS : va_S A (gS G).heap H locs) (hl : lv_has ls nL L)
    (hr : va_Run (gP G) E.1 (gE G) (gR G) (gS G) (gM G) (gA G) (gB G) (gN G) (gC G) H locs nc ns mc ms (F0 (gM G) pc ls st0) rest (va_Qv (fun _ : Nat → Nat => True) (fun u t => va_P E.2.1 classes (w q u) t.heap ∧ va_D (va_A [(q, .inr (ci, fs0))] H.size) (w q u)) (va_A [(q, .inr (ci, fs0))] H.size) a) (va_A [(q, .inr (ci, fs0))] H.size))
    (K : ∀ u : Nat → Nat, AN E A G nL (pc + 3) L rest (wr ++ w q u) (nc + mc) (ns + ms)) : W (gP G) E.1 (gE G) (gR G) (gS G) (gM G) (gA G) (gB G) (gN G) (gC G) H locs nc ns (gQ G) (F0 (gM G) pc ls st0) := by
  have hC : [wr.length].map (fun i => (wr ++ [(q, (.inr (ci, fs0) : va_E))])[i]?) = [(q, (.inr (ci, fs0) : va_E))].map some := by simp
  have hRr : (List.range wr.length).map (fun i => (wr ++ [(q, (.inr (ci, fs0) : va_E))])[i]?) = wr.map some := by
    apply List.ext_getElem?
    intro i
    by_cases hi : i < wr.length
    · simp [hi, List.getElem?_append_left hi]
    · simp [hi]
  have hFc := va_free (wc := [(q, .inr (ci, fs0))]) hD hS C.2.2.2.2.2.2.1 [wr.length] hC
  refine va_callv hr hS (fun q _ h => hFc q h) hFc (fun u t H1 locs1 ht hvm hw hB hz1 hk1 hS1 => ?_)
  obtain ⟨hP1, hD1⟩ := hB
  rw [ht] at hP1
  obtain ⟨hP2, hD2⟩ := va_join (wr := wr) (w1 := w q u) hP hD [wr.length] (List.range wr.length) hC hRr (nd_of List.nodup_range) (fun i hi => by simp at hi ⊢; omega) hk1 hFc hP1 hD1
  exact K u H1 locs1 ls hP2 hD2 hS1 hl
theorem n_pre (C : CN E A G own cc nL rm) {ci q : Nat} {fs0 : List Value} {wr : va_W} {H : Heap} (hP : va_P E.2.1 classes (wr ++ [(q, .inr (ci, fs0))]) H) (hD : va_D A (wr ++ [(q, .inr (ci, fs0))])) : PreS (gS G) H (va_Pc [.ref q] (fun U => U.heap.size = H.size ∧ va_P E.2.1 classes [(q, .inr (ci, fs0))] U.heap ∧ va_K E.2.1 classes (tyz E) U ∧ va_D (fun _ => True) [(q, .inr (ci, fs0))] ∧ Nx U)) [.ref q] := by
  have hC : [wr.length].map (fun i => (wr ++ [(q, (.inr (ci, fs0) : va_E))])[i]?) = [(q, (.inr (ci, fs0) : va_E))].map some := by simp
  have hPc : va_P E.2.1 classes [(q, .inr (ci, fs0))] H := hP.sub [wr.length] (by simp)
  have hDc : va_D A [(q, .inr (ci, fs0))] := hD.sub [wr.length] (by simp [va_nd]) hC
  exact ⟨fun a U g mk p => by
    obtain ⟨h0, h1, h2, h3, h4, h5⟩ := p
    exact ⟨h0, h1, h2, va_K.moved (u := U) (U := U.calling g mk a) (Vm.Alike.refl U.vm) h3, h4, h5.same rfl⟩, fun U hU hW => ⟨rfl, by rw [hU], by rw [hU]; exact hPc, va_K.moved hW.alike C.2.2.2.2.2.1, hDc.weaken (fun _ _ _ _ => trivial), C.2.2.2.2.2.2.2.1.to hW⟩⟩
/-- a constructor of the same package's class, by an ordinary link -/
theorem n_callI (C : CN E A G own cc nL rm) {y : MethodName} {yc : ByteArray} {mL d mc ms ci idx q : Nat} {fs0 : List Value} {w : Nat → (Nat → Nat) → va_W} {wr : va_W} {rest : List Value} (hM : CtI E y yc mL d mc ms ci fs0 w) (l1 : ∀ x ∈ ([.methodLink own idx y, .instanceMethod y, .initialized y.cls, .code y yc mL none] : List Cond), x ∈ lw_g) (l2 : y.name = "<init>" ∧ (y.cls ≠ "java/lang/invoke/MethodHandle" ∧ y.cls ≠ "java/lang/invoke/VarHandle" ∧ (parseMethodDescriptor y.desc).map (fun d => d.parameters.length) = some 0)) (hws : ws = wr ++ [(q, .inr (ci, fs0))]) (hf : d + 1 ≤ rm.frames) (hlo : 8 + (mL + 11) + 40 * d ≤ rm.locals) (hc : nc + mc ≤ rm.cells) (hs : ns + ms ≤ rm.slots) (hr : (rest.map fun v => v.category).sum ≤ 8) (hd : decode cc pc = .ok (.invokespecial idx, 3))
    (K : ∀ u : Nat → Nat, AN E A G nL (pc + 3) L rest (wr ++ w q u) (nc + mc) (ns + ms)) : AN E A G nL pc L (.ref q :: rest) ws nc ns := by
  intro H locs ls hP hD hS hl
  subst hws
  have hR : gR G = rm := C.2.2.2.2.2.2.2.2
  have hT : GoodIn lw_g (.code y yc mL none :: lw_g) := gI (fun x hx => by
    rcases List.mem_cons.mp hx with rfl | h
    · exact l1 _ (by simp)
    · exact h)
  have ht := C.2.2.2.2.1
  exact n_after (y := y) C hP hD hS hl (va_runI (As := []) (rest := rest) ⟨C.1, C.2.1, C.2.2.1, C.2.2.2.1, ht⟩ (hM q H.size) (cwI 0 ht hT rfl rfl rfl (ht _ (l1 _ (by simp))) (ht _ (l1 _ (by simp))) (ht _ (l1 _ (by simp))) l2.1 l2.2 ⟨by rw [hR]; exact hf, by rw [hR]; exact hlo⟩) (n_pre C hP hD) rfl rfl hl.1 rfl (lv_room hr) hd ⟨by rw [hR]; exact hc, by rw [hR]; exact hs⟩) K
/-- .. by a nest mate's link -/
theorem n_callN (C : CN E A G own cc nL rm) {y : MethodName} {yc : ByteArray} {mL d mc ms ci idx q : Nat} {host : String} {fs0 : List Value} {w : Nat → (Nat → Nat) → va_W} {wr : va_W} {rest : List Value} (hM : CtI E y yc mL d mc ms ci fs0 w) (hN : va_Nw (.methodLinkNest own idx y host) (gS G)) (l1 : ∀ x ∈ ([.instanceMethod y, .initialized y.cls, .code y yc mL none] : List Cond), x ∈ lw_g) (l2 : y.name = "<init>" ∧ (y.cls ≠ "java/lang/invoke/MethodHandle" ∧ y.cls ≠ "java/lang/invoke/VarHandle" ∧ (parseMethodDescriptor y.desc).map (fun d => d.parameters.length) = some 0)) (hws : ws = wr ++ [(q, .inr (ci, fs0))]) (hf : d + 1 ≤ rm.frames) (hlo : 8 + (mL + 11) + 40 * d ≤ rm.locals) (hc : nc + mc ≤ rm.cells) (hs : ns + ms ≤ rm.slots) (hr : (rest.map fun v => v.category).sum ≤ 8) (hd : decode cc pc = .ok (.invokespecial idx, 3))
    (K : ∀ u : Nat → Nat, AN E A G nL (pc + 3) L rest (wr ++ w q u) (nc + mc) (ns + ms)) : AN E A G nL pc L (.ref q :: rest) ws nc ns := by
  intro H locs ls hP hD hS hl
  subst hws
  have hR : gR G = rm := C.2.2.2.2.2.2.2.2
  have hT : GoodIn lw_g (.code y yc mL none :: lw_g) := gI (fun x hx => by
    rcases List.mem_cons.mp hx with rfl | h
    · exact l1 _ (by simp)
    · exact h)
  have ht := C.2.2.2.2.1
  exact n_after (y := y) C hP hD hS hl (va_runIN (As := []) (rest := rest) ⟨C.1, C.2.1, C.2.2.1, C.2.2.2.1, ht⟩ (hM q H.size) ⟨va_cnB 0 ht hT rfl rfl rfl hN (ht _ (l1 _ (by simp))) l2.2 ⟨by rw [hR]; exact hf, by rw [hR]; exact hlo⟩, l2.1, ht _ (l1 _ (by simp))⟩ (n_pre C hP hD) rfl rfl hl.1 rfl (lv_room hr) hd ⟨by rw [hR]; exact hc, by rw [hR]; exact hs⟩) K
theorem n_ret (C : CN E A G own cc nL rm) {w : Nat → (Nat → Nat) → va_W} {h mc ms : Nat} (T : (gN G).sig.returnType = none ∧ (gN G).locks = false ∧ gQ G = MQ (gB G) (va_Qv (fun _ : Nat → Nat => True) (fun u t => va_P E.2.1 classes (w h u) t.heap ∧ va_D A (w h u)) A) (gA G) (gS G) mc ms A) (u : Nat → Nat) (hw : w h u = ws) (hc : nc = mc) (hs : ns = ms) (hd : decode cc pc = .ok (.return_, 1)) : AN E A G nL pc L [] ws nc ns := by
  intro H locs ls hP hD hS hl
  obtain ⟨h1, h2, h3⟩ := T
  subst hw; subst hc; subst hs
  rw [h3]
  exact W.vret C.1 C.2.1 h1 (fun t ht hW => ⟨⟨u, rfl, trivial, by rw [ht]; exact hP, hD⟩, hS.F ht⟩) hS.2.2 hd h2
theorem o_newa (C : CN E A G own cc nL rm) {n : Int32} {x : Nat × va_E} {r : va_W} (N : Nat) (hw : Cond.arrayClass .int ∈ lw_g) (hn : ¬ n < 0) (hN : n.toNatClampNeg = N) (hb : N ≤ 1000) (hc : nc + 1 ≤ rm.cells) (hs : ns + N ≤ rm.slots) (hd : decode cc pc = .ok (.newarray .int, 2)) (K : ∀ q : Nat, AN E A G nL (pc + 2) L (.ref q :: st) (x :: (r ++ [(q, .inl (E.2.2.1, N, .inl (fun _ => 0)))])) (nc + 1) (ns + N)) : AN E A G nL pc L (.int n :: st) (x :: r) nc ns := n_newa C N hw hn hN hb hc hs hd K
theorem p_newa (C : CN E A G own cc nL rm) {n : Int32} {x : Nat × va_E} {r : va_W} (N : Nat) (r' : Nat → va_W) (hr : ∀ q : Nat, r ++ [(q, .inl (E.2.2.1, N, .inl (fun _ => 0)))] = r' q) (hw : Cond.arrayClass .int ∈ lw_g) (hn : ¬ n < 0) (hN : n.toNatClampNeg = N) (hb : N ≤ 1000) (hc : nc + 1 ≤ rm.cells) (hs : ns + N ≤ rm.slots) (hd : decode cc pc = .ok (.newarray .int, 2)) (K : ∀ q : Nat, AN E A G nL (pc + 2) L (.ref q :: st) (x :: r' q) (nc + 1) (ns + N)) : AN E A G nL pc L (.int n :: st) (x :: r) nc ns := o_newa C N hw hn hN hb hc hs hd (fun q => by rw [hr q]; exact K q)
theorem o_newz (C : CN E A G own cc nL rm) {n : Int32} {x : Nat × va_E} {r : va_W} (N : Nat) (hw : Cond.arrayClass .boolean ∈ lw_g) (hn : ¬ n < 0) (hN : n.toNatClampNeg = N) (hb : N ≤ 1000) (hc : nc + 1 ≤ rm.cells) (hs : ns + N ≤ rm.slots) (hd : decode cc pc = .ok (.newarray .boolean, 2)) (K : ∀ q : Nat, AN E A G nL (pc + 2) L (.ref q :: st) (x :: (r ++ [(q, .inl (E.2.2.2, N, .inl (fun _ => 0)))])) (nc + 1) (ns + N)) : AN E A G nL pc L (.int n :: st) (x :: r) nc ns := n_newz C N hw hn hN hb hc hs hd K
theorem p_newz (C : CN E A G own cc nL rm) {n : Int32} {x : Nat × va_E} {r : va_W} (N : Nat) (r' : Nat → va_W) (hr : ∀ q : Nat, r ++ [(q, .inl (E.2.2.2, N, .inl (fun _ => 0)))] = r' q) (hw : Cond.arrayClass .boolean ∈ lw_g) (hn : ¬ n < 0) (hN : n.toNatClampNeg = N) (hb : N ≤ 1000) (hc : nc + 1 ≤ rm.cells) (hs : ns + N ≤ rm.slots) (hd : decode cc pc = .ok (.newarray .boolean, 2)) (K : ∀ q : Nat, AN E A G nL (pc + 2) L (.ref q :: st) (x :: r' q) (nc + 1) (ns + N)) : AN E A G nL pc L (.int n :: st) (x :: r) nc ns := o_newz C N hw hn hN hb hc hs hd (fun q => by rw [hr q]; exact K q)
theorem o_new (C : CN E A G own cc nL rm) {idx ci : Nat} {fs : List Value} {x : Nat × va_E} {r : va_W} (g : LkC own idx ci fs) (hc : nc + 1 ≤ rm.cells) (hs : ns + fs.length ≤ rm.slots) (hd : decode cc pc = .ok (.new idx, 3)) (K : ∀ q : Nat, AN E A G nL (pc + 3) L (.ref q :: st) (x :: (r ++ [(q, .inr (ci, fs))])) (nc + 1) (ns + fs.length)) : AN E A G nL pc L st (x :: r) nc ns := n_new C g hc hs hd K
theorem o_putF (C : CN E A G own cc nL rm) (hin : (gN G).name = "<init>") {idx ci j a : Nat} {ty : FieldType} {fs : List Value} {v : Value} {r : va_W} (fs' : List Value) (g : LkN own idx ci j true ty) (hj : j < fs.length) (hn : narrow ty v = v) (hf : fits ty v = true) (hfs : fs.set j v = fs') (hd : decode cc pc = .ok (.putfield idx, 3)) (K : AN E A G nL (pc + 3) L st ((a, .inr (ci, fs')) :: r) nc ns) : AN E A G nL pc L (v :: .ref a :: st) ((a, .inr (ci, fs)) :: r) nc ns := by
  subst hfs
  exact n_putF C hin _ 0 g rfl hj hn hf rfl hd K
theorem o_put (C : CN E A G own cc nL rm) {idx ci j a : Nat} {ty : FieldType} {fs : List Value} {v : Value} {r : va_W} (fs' : List Value) (g : LkN own idx ci j false ty) (hj : j < fs.length) (hn : narrow ty v = v) (hf : fits ty v = true) (hfs : fs.set j v = fs') (hd : decode cc pc = .ok (.putfield idx, 3)) (K : AN E A G nL (pc + 3) L st ((a, .inr (ci, fs')) :: r) nc ns) : AN E A G nL pc L (v :: .ref a :: st) ((a, .inr (ci, fs)) :: r) nc ns := by
  subst hfs
  exact n_put C _ 0 g rfl hj hn hf rfl hd K
theorem o_get (C : CN E A G own cc nL rm) {idx ci j a : Nat} {fs : List Value} {v : Value} {r : va_W} (g : LkF own idx ci j) (hv : fs[j]? = some v) (hd : decode cc pc = .ok (.getfield idx, 3)) (K : AN E A G nL (pc + 3) L (v :: st) ((a, .inr (ci, fs)) :: r) nc ns) : AN E A G nL pc L (.ref a :: st) ((a, .inr (ci, fs)) :: r) nc ns := n_get C 0 g rfl hv hd K
theorem o_callI (C : CN E A G own cc nL rm) {y : MethodName} {yc : ByteArray} {mL d mc ms ci idx q : Nat} {fs0 : List Value} {w : Nat → (Nat → Nat) → va_W} {x : Nat × va_E} {wr : va_W} {rest : List Value} (hM : CtI E y yc mL d mc ms ci fs0 w) (l1 : ∀ x ∈ ([.methodLink own idx y, .instanceMethod y, .initialized y.cls, .code y yc mL none] : List Cond), x ∈ lw_g) (l2 : y.name = "<init>" ∧ (y.cls ≠ "java/lang/invoke/MethodHandle" ∧ y.cls ≠ "java/lang/invoke/VarHandle" ∧ (parseMethodDescriptor y.desc).map (fun d => d.parameters.length) = some 0)) (hf : d + 1 ≤ rm.frames) (hlo : 8 + (mL + 11) + 40 * d ≤ rm.locals) (hc : nc + mc ≤ rm.cells) (hs : ns + ms ≤ rm.slots) (hr : (rest.map fun v => v.category).sum ≤ 8) (hd : decode cc pc = .ok (.invokespecial idx, 3))
    (K : ∀ u : Nat → Nat, AN E A G nL (pc + 3) L rest (x :: (wr ++ w q u)) (nc + mc) (ns + ms)) : AN E A G nL pc L (.ref q :: rest) (x :: (wr ++ [(q, .inr (ci, fs0))])) nc ns := n_callI (wr := x :: wr) C hM l1 l2 rfl hf hlo hc hs hr hd K
theorem o_callN (C : CN E A G own cc nL rm) {y : MethodName} {yc : ByteArray} {mL d mc ms ci idx q : Nat} {host : String} {fs0 : List Value} {w : Nat → (Nat → Nat) → va_W} {x : Nat × va_E} {wr : va_W} {rest : List Value} (hM : CtI E y yc mL d mc ms ci fs0 w) (hN : va_Nw (.methodLinkNest own idx y host) (gS G)) (l1 : ∀ x ∈ ([.instanceMethod y, .initialized y.cls, .code y yc mL none] : List Cond), x ∈ lw_g) (l2 : y.name = "<init>" ∧ (y.cls ≠ "java/lang/invoke/MethodHandle" ∧ y.cls ≠ "java/lang/invoke/VarHandle" ∧ (parseMethodDescriptor y.desc).map (fun d => d.parameters.length) = some 0)) (hf : d + 1 ≤ rm.frames) (hlo : 8 + (mL + 11) + 40 * d ≤ rm.locals) (hc : nc + mc ≤ rm.cells) (hs : ns + ms ≤ rm.slots) (hr : (rest.map fun v => v.category).sum ≤ 8) (hd : decode cc pc = .ok (.invokespecial idx, 3))
    (K : ∀ u : Nat → Nat, AN E A G nL (pc + 3) L rest (x :: (wr ++ w q u)) (nc + mc) (ns + ms)) : AN E A G nL pc L (.ref q :: rest) (x :: (wr ++ [(q, .inr (ci, fs0))])) nc ns := n_callN (wr := x :: wr) C hM hN l1 l2 rfl hf hlo hc hs hr hd K
theorem n_as (ws' : va_W) (h : ws = ws') (K : AN E A G nL pc L st ws' nc ns) : AN E A G nL pc L st ws nc ns := by subst h; exact K
end NEWR
def cat (n : Nat) (f g : Nat → Nat) : Nat → Nat := fun k => if k < n then f k else g (k - n)
def neg8 : Nat → Int32 := upd (upd (upd (upd (upd (upd (upd (upd (fun _ => 0) 0 (-1)) 1 (-1)) 2 (-1)) 3 (-1)) 4 (-1)) 5 (-1)) 6 (-1)) 7 (-1)
