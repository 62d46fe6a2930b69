
set_option maxHeartbeats 4000000 in
set_option maxRecDepth 100000 in
theorem whole_start {p : Program} {e : Env} {s : State} {m : MethodId} {below : List Frame} {meth : Method} {c : Code} (l : Launch) {b L : Nat} {xs : Nat → Int32} (hL : L ≤ 2048) (C0 : lw_At p s m meth c b L xs) : W p l e room_1 s m #[Value.ref b] below meth c s.heap [] 0 0 (lw_Z below #[Value.ref b] s) (entryFrame m ([Value.ref b] : List Value).toArray 4) := by
  obtain ⟨hx, hb, hr, hml, hown, hts, hX, hbl, hlocks, hgv⟩ := id C0
  have hg : ∀ w ∈ lw_g, w.before #[Value.ref b] s = true := fun w hw => hts w (List.mem_filter.mp hw).1
  have hfl := flat_of_before _ hgv
  have hnA : ∀ a : Nat, a < s.heap.size → ¬ (fun q : Nat => s.heap.size ≤ q) a := fun a h => Nat.not_le.mpr h
  obtain ⟨c0, iS0, hKn0⟩ := u_known (C := RX0) (T := TX0) (N := 2) (n := 2) hg gX0 (hg _ w_243)
  obtain ⟨c1, iS1, hKn1⟩ := u_known (C := RX1) (T := TX1) (N := 2) (n := 2) hg gX1 (hg _ w_314)
  obtain ⟨c2, iS2, hKn2⟩ := u_known (C := RX2) (T := TX2) (N := 10) (n := 10) hg gX2 (hg _ w_110)
  obtain ⟨c3, iS3, hKn3⟩ := u_known (C := RX3) (T := TX3) (N := 9) (n := 9) hg gX3 (hg _ w_191)
  obtain ⟨c4, iS4, hKn4⟩ := u_known (C := RX4) (T := TX4) (N := 10) (n := 10) hg gX4 (hg _ w_329)
  obtain ⟨c5, iS5, hKn5⟩ := u_known (C := RX5) (T := TX5) (N := 4) (n := 4) hg gX5 (hg _ w_104)
  obtain ⟨c6, iS6, hKn6⟩ := u_known (C := RX6) (T := TX6) (N := 7) (n := 7) hg gX6 (hg _ w_154)
  obtain ⟨c7, iS7, hKn7⟩ := u_known (C := RX7) (T := TX7) (N := 9) (n := 9) hg gX7 (hg _ w_275)
  obtain ⟨c8, iS8, hKn8⟩ := u_known (C := RX8) (T := TX8) (N := 9) (n := 9) hg gX8 (hg _ w_96)
  obtain ⟨c9, iS9, hKn9⟩ := u_known (C := RX9) (T := TX9) (N := 47) (n := 47) hg gX9 (hg _ w_955)
  obtain ⟨dC, dI, hKc⟩ : ∃ (dC : Nat → ClassId) (dI : Nat → Nat → Nat), ∀ (k : Nat) (q : vw_C), classes[k]? = some q → u_Kn s q.1 q.2.1 q.2.2 (dC k) (dI k) := by
    refine ⟨fun k => if k = 0 then c0 else if k = 1 then c1 else if k = 2 then c2 else if k = 3 then c3 else if k = 4 then c4 else if k = 5 then c5 else if k = 6 then c6 else if k = 7 then c7 else if k = 8 then c8 else c9, fun k => if k = 0 then iS0 else if k = 1 then iS1 else if k = 2 then iS2 else if k = 3 then iS3 else if k = 4 then iS4 else if k = 5 then iS5 else if k = 6 then iS6 else if k = 7 then iS7 else if k = 8 then iS8 else iS9, ?_⟩
    intro k q hq
    match k, hq with
    | 0, hq => cases hq; exact hKn0
    | 1, hq => cases hq; exact hKn1
    | 2, hq => cases hq; exact hKn2
    | 3, hq => cases hq; exact hKn3
    | 4, hq => cases hq; exact hKn4
    | 5, hq => cases hq; exact hKn5
    | 6, hq => cases hq; exact hKn6
    | 7, hq => cases hq; exact hKn7
    | 8, hq => cases hq; exact hKn8
    | 9, hq => cases hq; exact hKn9
    | k + 10, hq => simp [classes] at hq
  obtain ⟨cI, aI1, aI2⟩ := arrK .int (Or.inl rfl) (hg _ w_152)
  obtain ⟨cZ, aZ1, aZ2⟩ := arrK .boolean (Or.inr rfl) (hg _ w_1102)
  have hK : va_K (dC, dI) classes [(cI, .int), (cZ, .boolean)] s := ⟨hKc, fun k q h => by
    match k, h with
    | 0, h => cases h; exact ⟨aI1, aI2⟩
    | 1, h => cases h; exact ⟨aZ1, aZ2⟩
    | k + 2, h => simp at h⟩
  obtain ⟨aK, aV, hS6, hSe⟩ := vk_Sof (args := #[Value.ref b]) (s := s) (N := 6) (tm := fun i => Term.string RX7 (sidx i)) (len := slen) (byt := sbyt) (A := fun q : Nat => s.heap.size ≤ q) (by decide)
    (fun i hi => hfl _ (by revert i; decide +kernel)) (fun i hi => hfl _ (by revert i; decide +kernel)) (fun i hi => hfl _ (by revert i; decide +kernel)) (fun i hi => hfl _ (by revert i; decide +kernel)) (fun i hi j hj => hfl _ (by revert i j; decide +kernel))
    (fun i j hi hj hij => by
      have key : ∀ i, i < 6 → ∀ j, j < 6 → i ≠ j → (Cond.not (Cond.eq (Term.string RX7 (sidx i)) (Term.string RX7 (sidx j))) ∈ flatC (Jvm.Cond.and given_1 narrow_1)) ∨ (Cond.not (Cond.eq (Term.string RX7 (sidx j)) (Term.string RX7 (sidx i))) ∈ flatC (Jvm.Cond.and given_1 narrow_1)) := by decide +kernel
      rcases key i hi j hj hij with h | h
      · exact Or.inl (hfl _ h)
      · exact Or.inr (hfl _ h)) hnA
  have hRf : ∀ i, i < 6 → vk_R RX7 (sidx i) (stx i) (aK i) s := fun i hi => vk_R.of (A := #[Value.ref b]) (hts _ (by revert i; decide +kernel)) (hSe i hi)
  obtain ⟨tg, htg, hTg⟩ := va_Tof (args := #[Value.ref b]) (s := s) (tm := Term.static "PermitRoom$Plant" "GOES_FROM" "[I") (ty := .int) (N := 6) (f := fun j => .int (gof j)) (A := fun q : Nat => s.heap.size ≤ q) (by decide) (hfl _ (by decide +kernel)) (va_eqt (hfl _ (by decide +kernel))) (fun j hj => va_eqt (hfl _ (by revert j; decide +kernel))) hnA
  have hZg := va_Zof (A := fun q : Nat => s.heap.size ≤ q) (hts (.laysStatic "PermitRoom$Plant" "GOES_FROM" "[I") (by decide +kernel)) (hts (.initialized "PermitRoom$Plant") (by decide +kernel)) htg hnA
  have hZc := va_Zof (A := fun q : Nat => s.heap.size ≤ q) (hts (.laysStatic "java/lang/String" "COMPACT_STRINGS" "Z") (by decide +kernel)) (hts (.initialized "java/lang/String") (by decide +kernel)) (va_eqi (hfl (Cond.eq (.static "java/lang/String" "COMPACT_STRINGS" "Z") (.int 1)) (by decide +kernel))) hnA
  have hZf : va_Zq "jdk/internal/util/Preconditions" "SIOOBE_FORMATTER" "Ljava/util/function/BiFunction;" (fun q : Nat => s.heap.size ≤ q) s s.heap := va_Zqof (hts (.laysStatic "jdk/internal/util/Preconditions" "SIOOBE_FORMATTER" "Ljava/util/function/BiFunction;") (by decide +kernel)) (hts (.initialized "jdk/internal/util/Preconditions") (by decide +kernel)) (hfl (Cond.isRef (.static "jdk/internal/util/Preconditions" "SIOOBE_FORMATTER" "Ljava/util/function/BiFunction;")) (by decide +kernel)) hnA
  have hNx : Nx s := ⟨va_Nw.of rfl (hts (.methodLinkNest RX8 9 yX5_init "PermitRoom") (by decide +kernel)), va_Nw.of rfl (hts (.methodLinkNest RX5 11 yX2_init "PermitRoom") (by decide +kernel)), va_Nw.of rfl (hts (.methodLinkNest RX5 20 yX6_init "PermitRoom") (by decide +kernel)), va_Nw.of rfl (hts (.methodLinkNest RX5 27 yX3_init "PermitRoom") (by decide +kernel)), va_Nw.of rfl (hts (.methodLinkNest RX8 38 yX7_init "PermitRoom") (by decide +kernel)), va_Nw.of rfl (hts (.methodLinkNest RX8 45 yX1_init "PermitRoom") (by decide +kernel)), va_Nw.of rfl (hts (.methodLinkNest RX8 52 yX4_init "PermitRoom") (by decide +kernel))⟩
  have hN19 : va_Nw (.methodLinkNest RX0 19 yX8_isMan "PermitRoom") s := va_Nw.of rfl (hts _ (by decide +kernel))
  have hl := lv_entry ([.ref b]) (n := 4) (Nat.le_of_ble_eq_true rfl)
  rw [lg_entry_eq]
  generalize (lg_sl ([.ref b]) ++ List.replicate (4 - (lg_sl ([.ref b])).length) Slot.unset).toArray = ls at hl ⊢
  have hl : lv_has ls 4 [(0, .ref b)] := hl
  have hP : va_P (dC, dI) classes [] s.heap := fun k q h => by simp at h
  have hD : va_D (fun q : Nat => s.heap.size ≤ q) [] := ⟨fun i j p q h => by simp at h, fun k q h => by simp at h⟩
  obtain ⟨E, hE⟩ : ∃ E : Ev, E = (l, (dC, dI), cI, cZ) := ⟨_, rfl⟩
  obtain ⟨G, hG⟩ : ∃ G : Gm, G = (p, e, room_1, s, m, #[Value.ref b], below, meth, c, lw_Z below #[Value.ref b] s, 0, 0) := ⟨_, rfl⟩
  have C : CN E (fun q : Nat => s.heap.size ≤ q) G RL code 4 room_1 := by subst hE; subst hG; exact ⟨hx, hb, hml, hown, hg, hK, fun _ h => h, hNx, rfl⟩
  have main : AN E (fun q : Nat => s.heap.size ≤ q) G 4 0 [(0, .ref b)] [] [] 0 0 := by
    refine n_new C kc_L_7c (Nat.le_of_ble_eq_true rfl) (Nat.le_of_ble_eq_true rfl) dL_law_0 (fun h0 => ?_)
    refine n_dup C dL_law_3 rfl ?_
    refine n_callI (wr := []) C (i_X8 E) (List.forall_mem_cons.mpr ⟨w_97, (List.forall_mem_cons.mpr ⟨w_98, (List.forall_mem_cons.mpr ⟨w_78, (List.forall_mem_cons.mpr ⟨w_99, (fun _ h => absurd h List.not_mem_nil)⟩)⟩)⟩)⟩) ⟨rfl, by decide +kernel⟩ rfl (Nat.le_of_ble_eq_true rfl) (Nat.le_of_ble_eq_true rfl) (Nat.le_of_ble_eq_true rfl) (Nat.le_of_ble_eq_true rfl) (Nat.le_of_ble_eq_true rfl) dL_law_4 (fun u => ?_)
    refine n_astore C [(1, .ref h0), (0, .ref b)] dL_law_7 rfl (by decide) rfl ?_
    refine n_new C kc_L_10c (Nat.le_of_ble_eq_true rfl) (Nat.le_of_ble_eq_true rfl) dL_law_8 (fun h1 => ?_)
    refine n_dup C dL_law_11 rfl ?_
    refine n_callI C (i_X9 E) (List.forall_mem_cons.mpr ⟨w_956, (List.forall_mem_cons.mpr ⟨w_957, (List.forall_mem_cons.mpr ⟨w_87, (List.forall_mem_cons.mpr ⟨w_958, (fun _ h => absurd h List.not_mem_nil)⟩)⟩)⟩)⟩) ⟨rfl, by decide +kernel⟩ rfl (Nat.le_of_ble_eq_true rfl) (Nat.le_of_ble_eq_true rfl) (Nat.le_of_ble_eq_true rfl) (Nat.le_of_ble_eq_true rfl) (Nat.le_of_ble_eq_true rfl) dL_law_12 (fun v => ?_)
    refine n_astore C [(2, .ref h1), (1, .ref h0), (0, .ref b)] dL_law_15 rfl (by decide) rfl ?_
    refine n_iconst C (0) dL_law_16 (by decide) ?_
    refine n_istore C [(3, .int 0), (2, .ref h1), (1, .ref h0), (0, .ref b)] dL_law_17 rfl (by decide) rfl ?_
    intro H locs ls hP hD hS hl
    rw [List.nil_append, ws_eq E h0 u h1 v aK aV tg] at hP hD
    have had : ∀ k, k < 70 → s.heap.size ≤ (adF h0 u h1 v aK aV tg) k := fun k hk => hD.2 k _ (wld_get hk)
    have hok : AdOk (adF h0 u h1 v aK aV tg) := fun i j hi hj h => hD.1 i j _ _ (wld_get hi) (wld_get hj) h
    have haw : ∀ q, Aw (adF h0 u h1 v aK aV tg) q → (fun q : Nat => s.heap.size ≤ q) q := fun q ⟨k, h1, h2⟩ => by rw [← h2]; exact had k h1
    have hsG : gS G = s := by subst hG; rfl
    have eK : ∀ i, i < 6 → (adF h0 u h1 v aK aV tg) (100 + i) = aK i := fun i hi => by
      unfold adF
      rw [if_neg (by omega), if_neg (by omega), if_neg (by omega), if_neg (by omega), if_pos (by omega)]
      congr 1; omega
    have eV : ∀ i, i < 6 → (adF h0 u h1 v aK aV tg) (200 + i) = aV i := fun i hi => by
      unfold adF
      rw [if_neg (by omega), if_neg (by omega), if_neg (by omega), if_neg (by omega), if_neg (by omega), if_pos (by omega)]
      congr 1; omega
    have hF1 : vk_S 6 slen sbyt (fun i => (adF h0 u h1 v aK aV tg) (100 + i)) (fun i => (adF h0 u h1 v aK aV tg) (200 + i)) (Aw (adF h0 u h1 v aK aV tg)) s s.heap := ⟨fun i hi => by
      have h := (hS6.narrow haw).1 i hi
      dsimp only
      rw [eK i hi, eV i hi]
      exact h, fun i j hi hj h => hS6.2 i j hi hj (by dsimp only at h; rw [eK i hi, eK j hj] at h; exact h)⟩
    have hF : Fx (adF h0 u h1 v aK aV tg) s := ⟨hF1, fun i hi => by rw [eK i hi]; exact hRf i hi, hZc.narrow haw, hZf.narrow haw, hZg.narrow haw, hTg.narrow haw, hN19⟩
    have hloc : ∀ q ∈ locs, (gS G).heap.size ≤ q.base := fun q hq => by rw [hsG]; exact hS.2.2 q hq
    refine va_forget hloc ?_
    subst hG
    refine W.widen (k := 70) (n := 4032) (Nat.le_of_ble_eq_true rfl) (Nat.le_of_ble_eq_true rfl) ?_
    exact law_loop (E := E) (ad := adF h0 u h1 v aK aV tg) (G := (p, e, room_1, s, m, #[Value.ref b], below, meth, c, lw_Z below #[Value.ref b] s, 70, 4032)) hL ⟨hx, hb, hml, hown, hg, by subst hE; exact hK, hok, hF, ⟨Nat.le_of_ble_eq_true rfl, Nat.le_of_ble_eq_true rfl⟩, ⟨Nat.le_of_ble_eq_true rfl, Nat.le_of_ble_eq_true rfl⟩⟩ ⟨hX, hbl, fun h => Nat.not_le.mpr hbl (haw b h)⟩ ⟨hr, hlocks, rfl, rfl, rfl, had, Nat.le_of_ble_eq_true rfl, Nat.le_of_ble_eq_true rfl⟩ 2052 0 0 sg0 (by decide) (by omega) rel30 (by omega) H [] ls hP ⟨hS.1, fun q h1 _ => hS.2.1 q h1 (hnA q h1), fun _ h => by cases h⟩ hl
  subst hE; subst hG
  exact main s.heap [] ls hP hD va_S.rf hl
