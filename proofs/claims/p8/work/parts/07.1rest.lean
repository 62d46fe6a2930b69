theorem ln_isMan : ∀ w ∈ ([.static yX8_isMan, .initialized yX8_isMan.cls, .code yX8_isMan cX8_isMan 1 (some .boolean)] : List Cond), w ∈ lw_g := by decide +kernel
theorem or3 (a b x : Int32) : (a ||| x) ||| (b ||| 0) = (a ||| b) ||| x := by
  rw [Int32.or_zero, Int32.or_assoc, Int32.or_comm x b, ← Int32.or_assoc]
theorem or4 (a b x : Int32) : (a ||| 0) ||| (b ||| x) = (a ||| b) ||| x := by
  rw [Int32.or_zero, ← Int32.or_assoc]
set_option maxHeartbeats 4000000 in
set_option maxRecDepth 100000 in
theorem c_X2_leastSetFrom (E : Ev) (ad : Nat → Nat) (σ : Sg) (hI : IC σ) : ∀ (m : Nat) (p : Int32) (q : Int32) (u : Int32) (v : Int32) (w : Int32), (0 ≤ v.toInt ∧ v.toInt ≤ 13) → (13 - v.toInt < (m : Int)) → Ct E ad yX2_leastSetFrom cX2_leastSetFrom 11 (some .int) (2 + m) [.ref (ad 2), .int p, .int q, .int u, .int v, .int w] σ (fun r τ => τ = σ ∧ True) := by
  intro m
  induction m with
  | zero => intro p q u v w hv hm; exact absurd hm (by omega)
  | succ m ih =>
    intro p q u v w hv hm
    have k_m2 : (-2 : Int32).toInt = -2 := by decide
    have k_1 : (1 : Int32).toInt = 1 := by decide
    have hJ := hI
    unfold IC at hJ
    refine ct_of RX2 rfl (by decide +kernel) [(0, .ref (ad 2)), (1, .int (p)), (2, .int (q)), (3, .int (u)), (4, .int (v)), (5, .int (w))] rfl (Nat.le_of_ble_eq_true rfl) (fun G C T => ?_)
    refine r_iload C 5 dX2_leastSetFrom_0 rfl ?_
    refine r_istore C [(6, .int (w)), (0, .ref (ad 2)), (1, .int (p)), (2, .int (q)), (3, .int (u)), (4, .int (v)), (5, .int (w))] dX2_leastSetFrom_2 (by decide) rfl ?_
    refine r_iload C 5 dX2_leastSetFrom_4 rfl ?_
    refine r_istore C [(7, .int (v)), (6, .int (w)), (0, .ref (ad 2)), (1, .int (p)), (2, .int (q)), (3, .int (u)), (4, .int (v)), (5, .int (w))] dX2_leastSetFrom_6 (by decide) rfl ?_
    have L_8 : ∀ (n : Nat), ∀ (a : Int32) (i : Int32), (v.toInt ≤ i.toInt ∧ i.toInt ≤ 13) → 13 - i.toInt < (n : Int) → At E ad G 11 8 [(7, .int (i)), (6, .int (a)), (0, .ref (ad 2)), (1, .int (p)), (2, .int (q)), (3, .int (u))] [] σ := by
      intro n
      induction n with
      | zero =>
        intro a i hi hm
        exact absurd hm (by omega)
      | succ n ih =>
        intro a i hi hm
        have ih_8 := ih
        clear ih
        refine r_iload C 0 dX2_leastSetFrom_8 rfl ?_
        refine r_aload_n C 2 dX2_leastSetFrom_10 rfl rfl ?_
        refine r_get C (k := 2) (v := .int (σ 2 6)) f_X2_30 (by decide) rfl rfl dX2_leastSetFrom_11 ?_
        refine r_icmp_ge C 167 dX2_leastSetFrom_14 (by decide) (fun c_1 => ?_) (fun c_1 => ?_)
        · -- to 167
          refine r_iload C 1 dX2_leastSetFrom_167 rfl ?_
          exact r_iret C T dX2_leastSetFrom_169 (⟨rfl, trivial⟩)
        · -- to 17
          refine r_aload_n C 2 dX2_leastSetFrom_17 rfl rfl ?_
          refine r_iload_n C 5 dX2_leastSetFrom_18 rfl rfl ?_
          refine r_callV C (k := 2) [.int (u)] [] (c_X2_hoursOf E ad σ  (u) ) lv_X2_81 (by decide) rfl rfl (by omega) (by decide) rfl rfl (Nat.le_of_ble_eq_true rfl) dX2_leastSetFrom_19 (fun r_2 τ_3 h_4 => ?_)
          obtain ⟨eh_4, h_4⟩ := h_4
          obtain rfl := eh_4.symm
          refine r_aload_n C 2 dX2_leastSetFrom_22 rfl rfl ?_
          refine r_iload C 1 dX2_leastSetFrom_23 rfl ?_
          refine r_callV C (k := 2) [.int (a)] [.int (r_2)] (c_X2_hoursOf E ad σ  (a) ) lv_X2_81 (by decide) rfl rfl (by omega) (by decide) rfl rfl (Nat.le_of_ble_eq_true rfl) dX2_leastSetFrom_25 (fun r_5 τ_6 h_7 => ?_)
          obtain ⟨eh_7, h_7⟩ := h_7
          obtain rfl := eh_7.symm
          refine r_icmp_ge C 167 dX2_leastSetFrom_28 (by decide) (fun c_8 => ?_) (fun c_8 => ?_)
          · -- to 167
            refine r_iload C 1 dX2_leastSetFrom_167 rfl ?_
            exact r_iret C T dX2_leastSetFrom_169 (⟨rfl, trivial⟩)
          · -- to 31
            refine r_iload_n C 5 dX2_leastSetFrom_31 rfl rfl ?_
            refine r_iconst C (1) dX2_leastSetFrom_32 (by decide) ?_
            refine r_iload C 0 dX2_leastSetFrom_33 rfl ?_
            refine r_ishl C dX2_leastSetFrom_35 ?_
            refine r_nm (P := fun z => z = (1 : Int32) <<< ((i : Int32) &&& 31)) rfl (fun z_9 hz_10 => ?_)
            refine r_aload_n C 2 dX2_leastSetFrom_36 rfl rfl ?_
            refine r_callV C (k := 2) [] [.int (z_9), .int (u)] (c_X2_allFittings E ad σ   ) lv_X2_71 (by decide) rfl rfl (by omega) (by decide) rfl rfl (Nat.le_of_ble_eq_true rfl) dX2_leastSetFrom_37 (fun r_11 τ_12 h_13 => ?_)
            obtain ⟨eh_13, h_13⟩ := h_13
            obtain rfl := eh_13.symm
            refine r_iand C dX2_leastSetFrom_40 ?_
            refine r_nm (P := fun z => z = (z_9 : Int32) &&& (r_11)) rfl (fun z_14 hz_15 => ?_)
            refine r_ior C dX2_leastSetFrom_41 ?_
            refine r_nm (P := fun z => z = (u : Int32) ||| (z_14)) rfl (fun z_16 hz_17 => ?_)
            refine r_istore C [(8, .int (z_16)), (7, .int (i)), (6, .int (a)), (0, .ref (ad 2)), (1, .int (p)), (2, .int (q)), (3, .int (u))] dX2_leastSetFrom_42 (by decide) rfl ?_
            refine r_aload_n C 3 dX2_leastSetFrom_44 rfl rfl ?_
            refine r_iload C 2 dX2_leastSetFrom_45 rfl ?_
            refine r_callV C (k := 2) [.int (a)] [] (c_X2_hoursOf E ad σ  (a) ) lv_X2_81 (by decide) rfl rfl (by omega) (by decide) rfl rfl (Nat.le_of_ble_eq_true rfl) dX2_leastSetFrom_47 (fun r_18 τ_19 h_20 => ?_)
            obtain ⟨eh_20, h_20⟩ := h_20
            obtain rfl := eh_20.symm
            refine r_aload_n C 3 dX2_leastSetFrom_50 rfl rfl ?_
            refine r_iload C 0 dX2_leastSetFrom_51 rfl ?_
            refine r_callV C (k := 2) [.int (z_16)] [.int (r_18)] (c_X2_hoursOf E ad σ  (z_16) ) lv_X2_81 (by decide) rfl rfl (by omega) (by decide) rfl rfl (Nat.le_of_ble_eq_true rfl) dX2_leastSetFrom_53 (fun r_21 τ_22 h_23 => ?_)
            obtain ⟨eh_23, h_23⟩ := h_23
            obtain rfl := eh_23.symm
            refine r_isub C dX2_leastSetFrom_56 ?_
            refine r_nm (P := fun z => z = (r_18) - (r_21)) rfl (fun z_24 hz_25 => ?_)
            refine r_istore C [(9, .int (z_24)), (8, .int (z_16)), (7, .int (i)), (6, .int (a)), (0, .ref (ad 2)), (1, .int (p)), (2, .int (q)), (3, .int (u))] dX2_leastSetFrom_57 (by decide) rfl ?_
            have L_129 : ∀ (b : Int32), At E ad G 11 129 [(7, .int (i)), (6, .int (b)), (0, .ref (ad 2)), (1, .int (p)), (2, .int (q)), (3, .int (u))] [] σ := by
              intro b
              refine r_aload_n C 2 dX2_leastSetFrom_129 rfl rfl ?_
              refine r_callV C (k := 2) [] [] (c_X2_allFittings E ad σ   ) lv_X2_71 (by decide) rfl rfl (by omega) (by decide) rfl rfl (Nat.le_of_ble_eq_true rfl) dX2_leastSetFrom_130 (fun r_26 τ_27 h_28 => ?_)
              obtain ⟨eh_28, h_28⟩ := h_28
              obtain rfl := eh_28.symm
              refine r_bipush C (-2) dX2_leastSetFrom_133 (by decide) ?_
              refine r_iload C 0 dX2_leastSetFrom_135 rfl ?_
              refine r_ishl C dX2_leastSetFrom_137 ?_
              refine r_nm (P := fun z => z = ((-2) : Int32) <<< ((i : Int32) &&& 31)) rfl (fun z_29 hz_30 => ?_)
              refine r_iand C dX2_leastSetFrom_138 ?_
              refine r_nm (P := fun z => z = (r_26 : Int32) &&& (z_29)) rfl (fun z_31 hz_32 => ?_)
              refine r_istore C [(10, .int (z_31)), (7, .int (i)), (6, .int (b)), (0, .ref (ad 2)), (1, .int (p)), (2, .int (q)), (3, .int (u))] dX2_leastSetFrom_139 (by decide) rfl ?_
              refine r_aload_n C 3 dX2_leastSetFrom_141 rfl rfl ?_
              refine r_iload_n C 4 dX2_leastSetFrom_142 rfl rfl ?_
              refine r_iload_n C 6 dX2_leastSetFrom_143 rfl rfl ?_
              refine r_iload C 0 dX2_leastSetFrom_144 rfl ?_
              refine r_ior C dX2_leastSetFrom_146 ?_
              refine r_nm (P := fun z => z = (u : Int32) ||| (z_31)) rfl (fun z_33 hz_34 => ?_)
              refine r_aload_n C 3 dX2_leastSetFrom_147 rfl rfl ?_
              refine r_callV C (k := 2) [] [.int (z_33), .int (p), .ref (ad 2)] (c_X2_allPipes E ad σ   ) lv_X2_58 (by decide) rfl rfl (by omega) (by decide) rfl rfl (Nat.le_of_ble_eq_true rfl) dX2_leastSetFrom_148 (fun r_35 τ_36 h_37 => ?_)
              obtain ⟨eh_37, h_37⟩ := h_37
              obtain rfl := eh_37.symm
              refine r_iload_n C 5 dX2_leastSetFrom_151 rfl rfl ?_
              refine r_callV C (k := 2) [.int (p), .int (z_33), .int (r_35), .int (q)] [] (c_X2_isSafe E ad σ  (p) (z_33) (r_35) (q) hI) lv_X2_67 (by decide) rfl rfl (by omega) (by decide) rfl rfl (Nat.le_of_ble_eq_true rfl) dX2_leastSetFrom_152 (fun r_38 τ_39 h_40 => ?_)
              obtain ⟨eh_40, h_40⟩ := h_40
              obtain rfl := eh_40.symm
              refine r_if_ne C 161 dX2_leastSetFrom_155 (by decide) (fun c_41 => ?_) (fun c_41 => ?_)
              · -- to 161
                refine r_iinc C 1 (fun z => [(7, .int (z)), (10, .int (z_31)), (6, .int (b)), (0, .ref (ad 2)), (1, .int (p)), (2, .int (q)), (3, .int (u))]) dX2_leastSetFrom_161 rfl (by decide) (by decide) (by omega) (fun _ => rfl) (fun z_42 hz_43 => ?_)
                refine r_goto C 8 dX2_leastSetFrom_164 (by decide) ?_
                exact At.sub [0, 2, 3, 4, 5, 6] rfl (ih_8 (b : Int32) (z_42 : Int32) (by omega) (by omega))
              · -- to 158
                refine r_goto C 167 dX2_leastSetFrom_158 (by decide) ?_
                refine r_iload C 2 dX2_leastSetFrom_167 rfl ?_
                exact r_iret C T dX2_leastSetFrom_169 (⟨rfl, trivial⟩)
            refine r_iload C 1 dX2_leastSetFrom_59 rfl ?_
            refine r_iload_n C 7 dX2_leastSetFrom_61 rfl rfl ?_
            refine r_icmp_eq C 129 dX2_leastSetFrom_62 (by decide) (fun c_44 => ?_) (fun c_44 => ?_)
            · -- to 129
              exact At.sub [2, 3, 4, 5, 6, 7] rfl (L_129 (a : Int32) )
            · -- to 65
              refine r_iload C 0 dX2_leastSetFrom_65 rfl ?_
              refine r_if_lt C 129 dX2_leastSetFrom_67 (by decide) (fun c_45 => ?_) (fun c_45 => ?_)
              · -- to 129
                exact At.sub [2, 3, 4, 5, 6, 7] rfl (L_129 (a : Int32) )
              · -- to 70
                refine r_aload_n C 4 dX2_leastSetFrom_70 rfl rfl ?_
                refine r_iload_n C 5 dX2_leastSetFrom_71 rfl rfl ?_
                refine r_iload C 1 dX2_leastSetFrom_72 rfl ?_
                refine r_aload_n C 4 dX2_leastSetFrom_74 rfl rfl ?_
                refine r_callV C (k := 2) [] [.int (z_16), .int (p), .ref (ad 2)] (c_X2_allPipes E ad σ   ) lv_X2_58 (by decide) rfl rfl (by omega) (by decide) rfl rfl (Nat.le_of_ble_eq_true rfl) dX2_leastSetFrom_75 (fun r_46 τ_47 h_48 => ?_)
                obtain ⟨eh_48, h_48⟩ := h_48
                obtain rfl := eh_48.symm
                refine r_iload_n C 6 dX2_leastSetFrom_78 rfl rfl ?_
                refine r_callV C (k := 2) [.int (p), .int (z_16), .int (r_46), .int (q)] [] (c_X2_isSafe E ad σ  (p) (z_16) (r_46) (q) hI) lv_X2_67 (by decide) rfl rfl (by omega) (by decide) rfl rfl (Nat.le_of_ble_eq_true rfl) dX2_leastSetFrom_79 (fun r_49 τ_50 h_51 => ?_)
                obtain ⟨eh_51, h_51⟩ := h_51
                obtain rfl := eh_51.symm
                refine r_if_eq C 108 dX2_leastSetFrom_82 (by decide) (fun c_52 => ?_) (fun c_52 => ?_)
                · -- to 108
                  refine r_iload C 0 dX2_leastSetFrom_108 rfl ?_
                  refine r_if_le C 129 dX2_leastSetFrom_110 (by decide) (fun c_53 => ?_) (fun c_53 => ?_)
                  · -- to 129
                    exact At.sub [2, 3, 4, 5, 6, 7] rfl (L_129 (a : Int32) )
                  · -- to 113
                    refine r_aload_n C 4 dX2_leastSetFrom_113 rfl rfl ?_
                    refine r_iload_n C 5 dX2_leastSetFrom_114 rfl rfl ?_
                    refine r_iload_n C 6 dX2_leastSetFrom_115 rfl rfl ?_
                    refine r_iload C 1 dX2_leastSetFrom_116 rfl ?_
                    refine r_iload C 2 dX2_leastSetFrom_118 rfl ?_
                    refine r_iconst C (1) dX2_leastSetFrom_120 (by decide) ?_
                    refine r_iadd C dX2_leastSetFrom_121 ?_
                    refine r_nm (P := fun z => z.toInt = (i : Int32).toInt + (1 : Int32).toInt ∧ z = (i) + (1)) ⟨ta_add (by omega), rfl⟩ (fun z_54 hz_55 => ?_)
                    refine r_iload C 3 dX2_leastSetFrom_122 rfl ?_
                    refine r_callS C [.ref (ad 2), .int (p), .int (q), .int (z_16), .int (z_54), .int (a)] [] (ih (p) (q) (z_16) (z_54) (a) (by omega) (by omega)) ls_X2_77 (by omega) (by decide) rfl rfl (Nat.le_of_ble_eq_true rfl) dX2_leastSetFrom_124 (fun r_56 τ_57 h_58 => ?_)
                    obtain ⟨eh_58, h_58⟩ := h_58
                    obtain rfl := eh_58.symm
                    refine r_istore C [(6, .int (r_56)), (9, .int (z_24)), (8, .int (z_16)), (7, .int (i)), (0, .ref (ad 2)), (1, .int (p)), (2, .int (q)), (3, .int (u))] dX2_leastSetFrom_127 (by decide) rfl ?_
                    exact At.sub [3, 0, 4, 5, 6, 7] rfl (L_129 (r_56 : Int32) )
                · -- to 85
                  refine r_aload_n C 4 dX2_leastSetFrom_85 rfl rfl ?_
                  refine r_iload C 1 dX2_leastSetFrom_86 rfl ?_
                  refine r_iload C 3 dX2_leastSetFrom_88 rfl ?_
                  refine r_callV C (k := 2) [.int (z_16), .int (a)] [] (c_X2_isBetter E ad σ  (z_16) (a) ) lv_X2_84 (by decide) rfl rfl (by omega) (by decide) rfl rfl (Nat.le_of_ble_eq_true rfl) dX2_leastSetFrom_90 (fun r_59 τ_60 h_61 => ?_)
                  obtain ⟨eh_61, h_61⟩ := h_61
                  obtain rfl := eh_61.symm
                  refine r_if_eq C 101 dX2_leastSetFrom_93 (by decide) (fun c_62 => ?_) (fun c_62 => ?_)
                  · -- to 101
                    refine r_iload C 3 dX2_leastSetFrom_101 rfl ?_
                    refine r_istore C [(6, .int (a)), (9, .int (z_24)), (8, .int (z_16)), (7, .int (i)), (0, .ref (ad 2)), (1, .int (p)), (2, .int (q)), (3, .int (u))] dX2_leastSetFrom_103 (by decide) rfl ?_
                    refine r_goto C 129 dX2_leastSetFrom_105 (by decide) ?_
                    exact At.sub [3, 0, 4, 5, 6, 7] rfl (L_129 (a : Int32) )
                  · -- to 96
                    refine r_iload C 1 dX2_leastSetFrom_96 rfl ?_
                    refine r_goto C 103 dX2_leastSetFrom_98 (by decide) ?_
                    refine r_istore C [(6, .int (z_16)), (9, .int (z_24)), (8, .int (z_16)), (7, .int (i)), (0, .ref (ad 2)), (1, .int (p)), (2, .int (q)), (3, .int (u))] dX2_leastSetFrom_103 (by decide) rfl ?_
                    refine r_goto C 129 dX2_leastSetFrom_105 (by decide) ?_
                    exact At.sub [3, 0, 4, 5, 6, 7] rfl (L_129 (z_16 : Int32) )
    exact At.sub [0, 1, 2, 3, 4, 5] rfl (L_8 ((13 - (v : Int32).toInt).toNat + 1) (w : Int32) (v : Int32) (by omega) (by omega))
set_option maxHeartbeats 4000000 in
set_option maxRecDepth 100000 in
theorem c_X2_leastSetFor (E : Ev) (ad : Nat → Nat) (σ : Sg) (p : Int32) (q : Int32) (hI : IC σ) : Ct E ad yX2_leastSetFor cX2_leastSetFor 3 (some .int) 17 [.ref (ad 2), .int p, .int q] σ (fun r τ => τ = σ ∧ ((∀ j, σ 8 j = 0) → r.toInt = 0)) := by
  have k_m3 : (-3 : Int32).toInt = -3 := by decide
  have k_0 : (0 : Int32).toInt = 0 := by decide
  have hJ := hI
  unfold IC at hJ
  refine ct_of RX2 rfl (by decide +kernel) [(0, .ref (ad 2)), (1, .int (p)), (2, .int (q))] rfl (Nat.le_of_ble_eq_true rfl) (fun G C T => ?_)
  refine r_aload_n C 0 dX2_leastSetFor_0 rfl rfl ?_
  refine r_iload_n C 1 dX2_leastSetFor_1 rfl rfl ?_
  refine r_iconst C (0) dX2_leastSetFor_2 (by decide) ?_
  refine r_aload_n C 0 dX2_leastSetFor_3 rfl rfl ?_
  refine r_callV C (k := 2) [] [.int (0), .int (p), .ref (ad 2)] (c_X2_allPipes E ad σ   ) lv_X2_58 (by decide) rfl rfl (by decide) (by decide) rfl rfl (Nat.le_of_ble_eq_true rfl) dX2_leastSetFor_4 (fun r_1 τ_2 h_3 => ?_)
  obtain ⟨eh_3, h_3⟩ := h_3
  obtain rfl := eh_3.symm
  refine r_iload_n C 2 dX2_leastSetFor_7 rfl rfl ?_
  refine r_callV C (k := 2) [.int (p), .int (0), .int (r_1), .int (q)] [] (c_X2_isSafe E ad σ  (p) (0) (r_1) (q) hI) lv_X2_67 (by decide) rfl rfl (by decide) (by decide) rfl rfl (Nat.le_of_ble_eq_true rfl) dX2_leastSetFor_8 (fun r_4 τ_5 h_6 => ?_)
  obtain ⟨eh_6, h_6⟩ := h_6
  obtain rfl := eh_6.symm
  refine r_if_eq C 16 dX2_leastSetFor_11 (by decide) (fun c_7 => ?_) (fun c_7 => ?_)
  · -- to 16
    refine r_aload_n C 0 dX2_leastSetFor_16 rfl rfl ?_
    refine r_iload_n C 1 dX2_leastSetFor_17 rfl rfl ?_
    refine r_aload_n C 0 dX2_leastSetFor_18 rfl rfl ?_
    refine r_callV C (k := 2) [] [.int (p), .ref (ad 2)] (c_X2_allFittings E ad σ   ) lv_X2_71 (by decide) rfl rfl (by decide) (by decide) rfl rfl (Nat.le_of_ble_eq_true rfl) dX2_leastSetFor_19 (fun r_8 τ_9 h_10 => ?_)
    obtain ⟨eh_10, h_10⟩ := h_10
    obtain rfl := eh_10.symm
    refine r_aload_n C 0 dX2_leastSetFor_22 rfl rfl ?_
    refine r_callV C (k := 2) [] [.int (r_8), .int (p), .ref (ad 2)] (c_X2_allPipes E ad σ   ) lv_X2_58 (by decide) rfl rfl (by decide) (by decide) rfl rfl (Nat.le_of_ble_eq_true rfl) dX2_leastSetFor_23 (fun r_11 τ_12 h_13 => ?_)
    obtain ⟨eh_13, h_13⟩ := h_13
    obtain rfl := eh_13.symm
    refine r_iload_n C 2 dX2_leastSetFor_26 rfl rfl ?_
    refine r_callV C (k := 2) [.int (p), .int (r_8), .int (r_11), .int (q)] [] (c_X2_isSafe E ad σ  (p) (r_8) (r_11) (q) hI) lv_X2_67 (by decide) rfl rfl (by decide) (by decide) rfl rfl (Nat.le_of_ble_eq_true rfl) dX2_leastSetFor_27 (fun r_14 τ_15 h_16 => ?_)
    obtain ⟨eh_16, h_16⟩ := h_16
    obtain rfl := eh_16.symm
    refine r_if_ne C 36 dX2_leastSetFor_30 (by decide) (fun c_17 => ?_) (fun c_17 => ?_)
    · -- to 36
      refine r_aload_n C 0 dX2_leastSetFor_36 rfl rfl ?_
      refine r_iload_n C 1 dX2_leastSetFor_37 rfl rfl ?_
      refine r_iload_n C 2 dX2_leastSetFor_38 rfl rfl ?_
      refine r_iconst C (0) dX2_leastSetFor_39 (by decide) ?_
      refine r_iconst C (0) dX2_leastSetFor_40 (by decide) ?_
      refine r_aload_n C 0 dX2_leastSetFor_41 rfl rfl ?_
      refine r_iload_n C 1 dX2_leastSetFor_42 rfl rfl ?_
      refine r_iload_n C 2 dX2_leastSetFor_43 rfl rfl ?_
      refine r_callV C (k := 2) [.int (p), .int (q)] [.int (0), .int (0), .int (q), .int (p), .ref (ad 2)] (c_X2_thinned E ad σ  (p) (q) hI) lv_X2_74 (by decide) rfl rfl (by decide) (by decide) rfl rfl (Nat.le_of_ble_eq_true rfl) dX2_leastSetFor_44 (fun r_18 τ_19 h_20 => ?_)
      obtain ⟨eh_20, h_20⟩ := h_20
      obtain rfl := eh_20.symm
      refine r_callS C [.ref (ad 2), .int (p), .int (q), .int (0), .int (0), .int (r_18)] [] (c_X2_leastSetFrom E ad σ hI 14 (p) (q) (0) (0) (r_18) (by omega) (by omega)) ls_X2_77 (by decide) (by decide) rfl rfl (Nat.le_of_ble_eq_true rfl) dX2_leastSetFor_47 (fun r_21 τ_22 h_23 => ?_)
      obtain ⟨eh_23, h_23⟩ := h_23
      obtain rfl := eh_23.symm
      exact r_iret C T dX2_leastSetFor_50 (⟨rfl, fun h => absurd (h_6.2 h) (by omega)⟩)
    · -- to 33
      refine r_bipush C (-3) dX2_leastSetFor_33 (by decide) ?_
      exact r_iret C T dX2_leastSetFor_35 (⟨rfl, fun h => absurd (h_6.2 h) (by omega)⟩)
  · -- to 14
    refine r_iconst C (0) dX2_leastSetFor_14 (by decide) ?_
    exact r_iret C T dX2_leastSetFor_15 (⟨rfl, fun _ => k_0⟩)
set_option maxHeartbeats 4000000 in
set_option maxRecDepth 100000 in
theorem c_X2_lay (E : Ev) (ad : Nat → Nat) (σ : Sg) (p : Int32) (q : Int32) (u : Int32) (v : Int32) (hc : 0 ≤ (σ 2 6).toInt ∧ (σ 2 6).toInt < 12) (hu : 0 ≤ u.toInt ∧ u.toInt ≤ 2) : Ct E ad yX2_lay cX2_lay 6 (some .int) 0 [.ref (ad 2), .int p, .int q, .int u, .int v] σ (fun r τ => r.toInt = (σ 2 6).toInt ∧ Off [2, 3, 4, 5, 6, 7] σ τ ∧ (τ 2 6).toInt = (σ 2 6).toInt + 1 ∧ τ 2 9 = σ 2 9 ∧ τ 3 = upd (σ 3) (σ 2 6).toInt.toNat p ∧ τ 4 = upd (σ 4) (σ 2 6).toInt.toNat q ∧ τ 5 = upd (σ 5) (σ 2 6).toInt.toNat (((1 : Int32) <<< (p &&& 31)) ||| ((1 : Int32) <<< (q &&& 31))) ∧ τ 6 = upd (σ 6) (σ 2 6).toInt.toNat u ∧ τ 2 7 ||| τ 2 8 = (if u.toInt = 2 then σ 2 7 ||| σ 2 8 else (σ 2 7 ||| σ 2 8) ||| ((1 : Int32) <<< (σ 2 6 &&& 31)))) := by
  have k_0 : (0 : Int32).toInt = 0 := by decide
  have k_1 : (1 : Int32).toInt = 1 := by decide
  refine ct_of RX2 rfl (by decide +kernel) [(0, .ref (ad 2)), (1, .int (p)), (2, .int (q)), (3, .int (u)), (4, .int (v))] rfl (Nat.le_of_ble_eq_true rfl) (fun G C T => ?_)
  refine r_aload_n C 0 dX2_lay_0 rfl rfl ?_
  refine r_get C (k := 2) (v := .int (σ 2 6)) f_X2_30 (by decide) rfl rfl dX2_lay_1 ?_
  refine r_istore C [(5, .int (σ 2 6)), (0, .ref (ad 2)), (1, .int (p)), (2, .int (q)), (3, .int (u)), (4, .int (v))] dX2_lay_4 (by decide) rfl ?_
  refine r_aload_n C 1 dX2_lay_6 rfl rfl ?_
  refine r_get C (k := 2) (v := .ref (ad 3)) f_X2_9 (by decide) rfl rfl dX2_lay_7 ?_
  refine r_iload C 0 dX2_lay_10 rfl ?_
  refine r_iload_n C 2 dX2_lay_12 rfl rfl ?_
  refine r_iast C (k := 3) (by decide) (fun _ => rfl) (by omega) dX2_lay_13 ?_
  refine r_aload_n C 1 dX2_lay_14 rfl rfl ?_
  refine r_get C (k := 2) (v := .ref (ad 4)) f_X2_15 (by decide) rfl rfl dX2_lay_15 ?_
  refine r_iload C 0 dX2_lay_18 rfl ?_
  refine r_iload_n C 3 dX2_lay_20 rfl rfl ?_
  refine r_iast C (k := 4) (by decide) (fun _ => rfl) (by omega) dX2_lay_21 ?_
  refine r_aload_n C 1 dX2_lay_22 rfl rfl ?_
  refine r_get C (k := 2) (v := .ref (ad 5)) f_X2_18 (by decide) rfl rfl dX2_lay_23 ?_
  refine r_iload C 0 dX2_lay_26 rfl ?_
  refine r_iconst C (1) dX2_lay_28 (by decide) ?_
  refine r_iload_n C 2 dX2_lay_29 rfl rfl ?_
  refine r_ishl C dX2_lay_30 ?_
  refine r_nm (P := fun z => z = (1 : Int32) <<< ((p : Int32) &&& 31)) rfl (fun z_1 hz_2 => ?_)
  refine r_iconst C (1) dX2_lay_31 (by decide) ?_
  refine r_iload_n C 3 dX2_lay_32 rfl rfl ?_
  refine r_ishl C dX2_lay_33 ?_
  refine r_nm (P := fun z => z = (1 : Int32) <<< ((q : Int32) &&& 31)) rfl (fun z_3 hz_4 => ?_)
  refine r_ior C dX2_lay_34 ?_
  refine r_nm (P := fun z => z = (z_1 : Int32) ||| (z_3)) rfl (fun z_5 hz_6 => ?_)
  refine r_iast C (k := 5) (by decide) (fun _ => rfl) (by omega) dX2_lay_35 ?_
  refine r_aload_n C 1 dX2_lay_36 rfl rfl ?_
  refine r_get C (k := 2) (v := .ref (ad 6)) f_X2_21 (by decide) rfl rfl dX2_lay_37 ?_
  refine r_iload C 0 dX2_lay_40 rfl ?_
  refine r_iload_n C 4 dX2_lay_42 rfl rfl ?_
  refine r_iast C (k := 6) (by decide) (fun _ => rfl) (by omega) dX2_lay_43 ?_
  refine r_aload_n C 1 dX2_lay_44 rfl rfl ?_
  refine r_get C (k := 2) (v := .ref (ad 7)) f_X2_24 (by decide) rfl rfl dX2_lay_45 ?_
  refine r_iload C 0 dX2_lay_48 rfl ?_
  refine r_iload C 5 dX2_lay_50 rfl ?_
  refine r_iast C (k := 7) (by decide) (fun _ => rfl) (by omega) dX2_lay_52 ?_
  refine r_aload_n C 1 dX2_lay_53 rfl rfl ?_
  refine r_dup C dX2_lay_54 rfl ?_
  refine r_get C (k := 2) (v := .int (σ 2 7)) f_X2_34 (by decide) rfl rfl dX2_lay_55 ?_
  have L_70 : ∀ (a : Int32), (a = if u.toInt = 0 then (1 : Int32) <<< (σ 2 6 &&& 31) else 0) → At E ad G 6 70 [(5, .int (σ 2 6)), (0, .ref (ad 2)), (1, .int (p)), (2, .int (q)), (3, .int (u)), (4, .int (v))] [.int (a), .int (σ 2 7), .ref (ad 2)] (sUp (sUp (sUp (sUp (sUp σ 3 ((σ 2 6 : Int32).toInt.toNat) (p)) 4 ((σ 2 6 : Int32).toInt.toNat) (q)) 5 ((σ 2 6 : Int32).toInt.toNat) (z_5)) 6 ((σ 2 6 : Int32).toInt.toNat) (u)) 7 ((σ 2 6 : Int32).toInt.toNat) (v)) := by
    intro a ha
    refine r_ior C dX2_lay_70 ?_
    refine r_nm (P := fun z => z = (σ 2 7 : Int32) ||| (a)) rfl (fun z_7 hz_8 => ?_)
    refine r_put C (k := 2) pf_X2_34 (by decide) (fun _ => rfl) (fun _ => Nat.le_of_ble_eq_true rfl) (fun _ _ => rfl) dX2_lay_71 ?_
    refine r_aload_n C 1 dX2_lay_74 rfl rfl ?_
    refine r_dup C dX2_lay_75 rfl ?_
    refine r_get C (k := 2) (v := .int (σ 2 8)) f_X2_37 (by decide) rfl rfl dX2_lay_76 ?_
    have L_92 : ∀ (b : Int32), (b = if u.toInt = 1 then (1 : Int32) <<< (σ 2 6 &&& 31) else 0) → At E ad G 6 92 [(5, .int (σ 2 6)), (0, .ref (ad 2)), (1, .int (p)), (2, .int (q)), (3, .int (u)), (4, .int (v))] [.int (b), .int (σ 2 8), .ref (ad 2)] (sUp (sUp (sUp (sUp (sUp (sUp σ 3 ((σ 2 6 : Int32).toInt.toNat) (p)) 4 ((σ 2 6 : Int32).toInt.toNat) (q)) 5 ((σ 2 6 : Int32).toInt.toNat) (z_5)) 6 ((σ 2 6 : Int32).toInt.toNat) (u)) 7 ((σ 2 6 : Int32).toInt.toNat) (v)) 2 7 (z_7)) := by
      intro b hb
      refine r_ior C dX2_lay_92 ?_
      refine r_nm (P := fun z => z = (σ 2 8 : Int32) ||| (b)) rfl (fun z_9 hz_10 => ?_)
      refine r_put C (k := 2) pf_X2_37 (by decide) (fun _ => rfl) (fun _ => Nat.le_of_ble_eq_true rfl) (fun _ _ => rfl) dX2_lay_93 ?_
      refine r_aload_n C 1 dX2_lay_96 rfl rfl ?_
      refine r_dup C dX2_lay_97 rfl ?_
      refine r_get C (k := 2) (v := .int (σ 2 6)) f_X2_30 (by decide) rfl rfl dX2_lay_98 ?_
      refine r_iconst C (1) dX2_lay_101 (by decide) ?_
      refine r_iadd C dX2_lay_102 ?_
      refine r_nm (P := fun z => z.toInt = (σ 2 6 : Int32).toInt + (1 : Int32).toInt ∧ z = (σ 2 6) + (1)) ⟨ta_add (by omega), rfl⟩ (fun z_11 hz_12 => ?_)
      refine r_put C (k := 2) pf_X2_30 (by decide) (fun _ => rfl) (fun _ => Nat.le_of_ble_eq_true rfl) (fun _ _ => rfl) dX2_lay_103 ?_
      refine r_iload C 0 dX2_lay_106 rfl ?_
      exact r_iret C T dX2_lay_108 (⟨rfl, ((((((((Off.rf.up (by decide)).up (by decide)).up (by decide)).up (by decide)).up (by decide)).up (by decide)).up (by decide)).up (by decide)), hz_12.1, rfl, rfl, rfl, by rw [hz_6, hz_2, hz_4]; rfl, rfl, by show (z_7 : Int32) ||| z_9 = _; rw [hz_8, hz_10, ha, hb]; rcases (show u.toInt = 0 ∨ u.toInt = 1 ∨ u.toInt = 2 by omega) with e | e | e <;> simp only [e] <;> first | exact or3 _ _ _ | exact or4 _ _ _ | (rw [if_neg (by omega), if_neg (by omega), if_pos rfl, Int32.or_zero, Int32.or_zero]) | simp [or3, or4]⟩)
    refine r_iload_n C 4 dX2_lay_79 rfl rfl ?_
    refine r_iconst C (1) dX2_lay_80 (by decide) ?_
    refine r_icmp_ne C 91 dX2_lay_81 (by decide) (fun c_13 => ?_) (fun c_13 => ?_)
    · -- to 91
      refine r_iconst C (0) dX2_lay_91 (by decide) ?_
      exact At.sub [0, 1, 2, 3, 4, 5] rfl (L_92 (0 : Int32) (by rw [if_neg (by omega)]))
    · -- to 84
      refine r_iconst C (1) dX2_lay_84 (by decide) ?_
      refine r_iload C 0 dX2_lay_85 rfl ?_
      refine r_ishl C dX2_lay_87 ?_
      refine r_nm (P := fun z => z = (1 : Int32) <<< ((σ 2 6 : Int32) &&& 31)) rfl (fun z_14 hz_15 => ?_)
      refine r_goto C 92 dX2_lay_88 (by decide) ?_
      exact At.sub [0, 1, 2, 3, 4, 5] rfl (L_92 (z_14 : Int32) (by rw [if_pos (by omega)]; exact hz_15))
  refine r_iload_n C 4 dX2_lay_58 rfl rfl ?_
  refine r_if_ne C 69 dX2_lay_59 (by decide) (fun c_16 => ?_) (fun c_16 => ?_)
  · -- to 69
    refine r_iconst C (0) dX2_lay_69 (by decide) ?_
    exact At.sub [0, 1, 2, 3, 4, 5] rfl (L_70 (0 : Int32) (by rw [if_neg (by omega)]))
  · -- to 62
    refine r_iconst C (1) dX2_lay_62 (by decide) ?_
    refine r_iload C 0 dX2_lay_63 rfl ?_
    refine r_ishl C dX2_lay_65 ?_
    refine r_nm (P := fun z => z = (1 : Int32) <<< ((σ 2 6 : Int32) &&& 31)) rfl (fun z_17 hz_18 => ?_)
    refine r_goto C 70 dX2_lay_66 (by decide) ?_
    exact At.sub [0, 1, 2, 3, 4, 5] rfl (L_70 (z_17 : Int32) (by rw [if_pos (by omega)]; exact hz_18))
set_option maxHeartbeats 4000000 in
set_option maxRecDepth 100000 in
theorem c_X2_tellSource (E : Ev) (ad : Nat → Nat) (σ : Sg) (p : Int32) (q : Int32) (u : Int32) (hq : 0 ≤ q.toInt ∧ q.toInt < 3) : Ct E ad yX2_tellSource cX2_tellSource 5 (some .boolean) 0 [.ref (ad 2), .int p, .int q, .int u] σ (fun r τ => τ = sUp σ 8 q.toInt.toNat (if u.toInt ≠ 0 then (σ 8 q.toInt.toNat) ||| ((1 : Int32) <<< (p &&& 31)) else (σ 8 q.toInt.toNat) &&& (((1 : Int32) <<< (p &&& 31)) ^^^ (-1))) ∧ ((r.toInt = 0 ∧ (if u.toInt ≠ 0 then (σ 8 q.toInt.toNat) ||| ((1 : Int32) <<< (p &&& 31)) else (σ 8 q.toInt.toNat) &&& (((1 : Int32) <<< (p &&& 31)) ^^^ (-1))).toInt = (σ 8 q.toInt.toNat).toInt) ∨ (r.toInt = 1 ∧ (if u.toInt ≠ 0 then (σ 8 q.toInt.toNat) ||| ((1 : Int32) <<< (p &&& 31)) else (σ 8 q.toInt.toNat) &&& (((1 : Int32) <<< (p &&& 31)) ^^^ (-1))).toInt ≠ (σ 8 q.toInt.toNat).toInt))) := by
  have k_m1 : (-1 : Int32).toInt = -1 := by decide
  have k_0 : (0 : Int32).toInt = 0 := by decide
  have k_1 : (1 : Int32).toInt = 1 := by decide
  refine ct_of RX2 rfl (by decide +kernel) [(0, .ref (ad 2)), (1, .int (p)), (2, .int (q)), (3, .int (u))] rfl (Nat.le_of_ble_eq_true rfl) (fun G C T => ?_)
  refine r_aload_n C 0 dX2_tellSource_0 rfl rfl ?_
  refine r_get C (k := 2) (v := .ref (ad 8)) f_X2_27 (by decide) rfl rfl dX2_tellSource_1 ?_
  refine r_iload_n C 2 dX2_tellSource_4 rfl rfl ?_
  refine r_iald C (k := 8) (by decide) rfl (by omega) (σ 8 ((q : Int32).toInt.toNat)) rfl dX2_tellSource_5 ?_
  refine r_istore C [(4, .int (σ 8 ((q : Int32).toInt.toNat))), (0, .ref (ad 2)), (1, .int (p)), (2, .int (q)), (3, .int (u))] dX2_tellSource_6 (by decide) rfl ?_
  refine r_aload_n C 1 dX2_tellSource_8 rfl rfl ?_
  refine r_get C (k := 2) (v := .ref (ad 8)) f_X2_27 (by decide) rfl rfl dX2_tellSource_9 ?_
  refine r_iload_n C 3 dX2_tellSource_12 rfl rfl ?_
  have L_34 : ∀ (a : Int32), (a = (if u.toInt ≠ 0 then (σ 8 q.toInt.toNat) ||| ((1 : Int32) <<< (p &&& 31)) else (σ 8 q.toInt.toNat) &&& (((1 : Int32) <<< (p &&& 31)) ^^^ (-1)))) → At E ad G 5 34 [(4, .int (σ 8 ((q : Int32).toInt.toNat))), (0, .ref (ad 2)), (1, .int (p)), (2, .int (q)), (3, .int (u))] [.int (a), .int (q), .ref (ad 8)] σ := by
    intro a ha
    refine r_iast C (k := 8) (by decide) (fun _ => rfl) (by omega) dX2_tellSource_34 ?_
    have hv : (sUp σ 8 (q : Int32).toInt.toNat (a)) 8 (q : Int32).toInt.toNat = a := by simp [sUp, upd]
    refine r_aload_n C 1 dX2_tellSource_35 rfl rfl ?_
    refine r_get C (k := 2) (v := .ref (ad 8)) f_X2_27 (by decide) rfl rfl dX2_tellSource_36 ?_
    refine r_iload_n C 3 dX2_tellSource_39 rfl rfl ?_
    refine r_iald C (k := 8) (by decide) rfl (by omega) ((sUp σ 8 ((q : Int32).toInt.toNat) (a)) 8 ((q : Int32).toInt.toNat)) rfl dX2_tellSource_40 ?_
    refine r_iload C 0 dX2_tellSource_41 rfl ?_
    refine r_icmp_eq C 50 dX2_tellSource_43 (by decide) (fun c_3 => ?_) (fun c_3 => ?_)
    · -- to 50
      refine r_iconst C (0) dX2_tellSource_50 (by decide) ?_
      exact r_zret C T dX2_tellSource_51 (by omega) (⟨by rw [ha], by rw [← ha]; rw [hv] at c_3; omega⟩)
    · -- to 46
      refine r_iconst C (1) dX2_tellSource_46 (by decide) ?_
      refine r_goto C 51 dX2_tellSource_47 (by decide) ?_
      exact r_zret C T dX2_tellSource_51 (by omega) (⟨by rw [ha], by rw [← ha]; rw [hv] at c_3; omega⟩)
  refine r_iload_n C 4 dX2_tellSource_13 rfl rfl ?_
  refine r_if_eq C 26 dX2_tellSource_14 (by decide) (fun c_4 => ?_) (fun c_4 => ?_)
  · -- to 26
    refine r_iload C 0 dX2_tellSource_26 rfl ?_
    refine r_iconst C (1) dX2_tellSource_28 (by decide) ?_
    refine r_iload_n C 2 dX2_tellSource_29 rfl rfl ?_
    refine r_ishl C dX2_tellSource_30 ?_
    refine r_nm (P := fun z => z = (1 : Int32) <<< ((p : Int32) &&& 31)) rfl (fun z_5 hz_6 => ?_)
    refine r_iconst C (-1) dX2_tellSource_31 (by decide) ?_
    refine r_ixor C dX2_tellSource_32 ?_
    refine r_nm (P := fun z => z = (z_5 : Int32) ^^^ ((-1))) rfl (fun z_7 hz_8 => ?_)
    refine r_iand C dX2_tellSource_33 ?_
    refine r_nm (P := fun z => z = (σ 8 ((q : Int32).toInt.toNat) : Int32) &&& (z_7)) rfl (fun z_9 hz_10 => ?_)
    exact At.sub [0, 1, 2, 3, 4] rfl (L_34 (z_9 : Int32) (by rw [if_neg (by omega), hz_10, hz_8, hz_6]))
  · -- to 17
    refine r_iload C 0 dX2_tellSource_17 rfl ?_
    refine r_iconst C (1) dX2_tellSource_19 (by decide) ?_
    refine r_iload_n C 2 dX2_tellSource_20 rfl rfl ?_
    refine r_ishl C dX2_tellSource_21 ?_
    refine r_nm (P := fun z => z = (1 : Int32) <<< ((p : Int32) &&& 31)) rfl (fun z_11 hz_12 => ?_)
    refine r_ior C dX2_tellSource_22 ?_
    refine r_nm (P := fun z => z = (σ 8 ((q : Int32).toInt.toNat) : Int32) ||| (z_11)) rfl (fun z_13 hz_14 => ?_)
    refine r_goto C 34 dX2_tellSource_23 (by decide) ?_
    exact At.sub [0, 1, 2, 3, 4] rfl (L_34 (z_13 : Int32) (by rw [if_pos (by omega), hz_14, hz_12]))
set_option maxHeartbeats 4000000 in
set_option maxRecDepth 100000 in
theorem c_X2_turnByHand (E : Ev) (ad : Nat → Nat) (σ : Sg) (p : Int32) (q : Int32)  : Ct E ad yX2_turnByHand cX2_turnByHand 4 (some .boolean) 0 [.ref (ad 2), .int p, .int q] σ (fun r τ => (∃ v, τ = sUp σ 2 9 v) ∧ (r.toInt = 0 ∨ r.toInt = 1)) := by
  have k_m1 : (-1 : Int32).toInt = -1 := by decide
  have k_0 : (0 : Int32).toInt = 0 := by decide
  have k_1 : (1 : Int32).toInt = 1 := by decide
  refine ct_of RX2 rfl (by decide +kernel) [(0, .ref (ad 2)), (1, .int (p)), (2, .int (q))] rfl (Nat.le_of_ble_eq_true rfl) (fun G C T => ?_)
  refine r_aload_n C 0 dX2_turnByHand_0 rfl rfl ?_
  refine r_get C (k := 2) (v := .int (σ 2 9)) f_X2_40 (by decide) rfl rfl dX2_turnByHand_1 ?_
  refine r_istore_n C [(3, .int (σ 2 9)), (0, .ref (ad 2)), (1, .int (p)), (2, .int (q))] dX2_turnByHand_4 rfl (by decide) rfl ?_
  refine r_aload_n C 1 dX2_turnByHand_5 rfl rfl ?_
  refine r_iload_n C 3 dX2_turnByHand_6 rfl rfl ?_
  refine r_if_eq C 18 dX2_turnByHand_7 (by decide) (fun c_1 => ?_) (fun c_1 => ?_)
  · -- to 18
    refine r_iload_n C 0 dX2_turnByHand_18 rfl rfl ?_
    refine r_iconst C (1) dX2_turnByHand_19 (by decide) ?_
    refine r_iload_n C 2 dX2_turnByHand_20 rfl rfl ?_
    refine r_ishl C dX2_turnByHand_21 ?_
    refine r_nm (P := fun z => z = (1 : Int32) <<< ((p : Int32) &&& 31)) rfl (fun z_2 hz_3 => ?_)
    refine r_iconst C (-1) dX2_turnByHand_22 (by decide) ?_
    refine r_ixor C dX2_turnByHand_23 ?_
    refine r_nm (P := fun z => z = (z_2 : Int32) ^^^ ((-1))) rfl (fun z_4 hz_5 => ?_)
    refine r_iand C dX2_turnByHand_24 ?_
    refine r_nm (P := fun z => z = (σ 2 9 : Int32) &&& (z_4)) rfl (fun z_6 hz_7 => ?_)
    refine r_put C (k := 2) pf_X2_40 (by decide) (fun _ => rfl) (fun _ => Nat.le_of_ble_eq_true rfl) (fun _ _ => rfl) dX2_turnByHand_25 ?_
    refine r_aload_n C 1 dX2_turnByHand_28 rfl rfl ?_
    refine r_get C (k := 2) (v := .int (z_6)) f_X2_40 (by decide) rfl rfl dX2_turnByHand_29 ?_
    refine r_iload_n C 0 dX2_turnByHand_32 rfl rfl ?_
    refine r_icmp_eq C 40 dX2_turnByHand_33 (by decide) (fun c_8 => ?_) (fun c_8 => ?_)
    · -- to 40
      refine r_iconst C (0) dX2_turnByHand_40 (by decide) ?_
      exact r_zret C T dX2_turnByHand_41 (by omega) (⟨⟨_, rfl⟩, by omega⟩)
    · -- to 36
      refine r_iconst C (1) dX2_turnByHand_36 (by decide) ?_
      refine r_goto C 41 dX2_turnByHand_37 (by decide) ?_
      exact r_zret C T dX2_turnByHand_41 (by omega) (⟨⟨_, rfl⟩, by omega⟩)
  · -- to 10
    refine r_iload_n C 0 dX2_turnByHand_10 rfl rfl ?_
    refine r_iconst C (1) dX2_turnByHand_11 (by decide) ?_
    refine r_iload_n C 2 dX2_turnByHand_12 rfl rfl ?_
    refine r_ishl C dX2_turnByHand_13 ?_
    refine r_nm (P := fun z => z = (1 : Int32) <<< ((p : Int32) &&& 31)) rfl (fun z_9 hz_10 => ?_)
    refine r_ior C dX2_turnByHand_14 ?_
    refine r_nm (P := fun z => z = (σ 2 9 : Int32) ||| (z_9)) rfl (fun z_11 hz_12 => ?_)
    refine r_goto C 25 dX2_turnByHand_15 (by decide) ?_
    refine r_put C (k := 2) pf_X2_40 (by decide) (fun _ => rfl) (fun _ => Nat.le_of_ble_eq_true rfl) (fun _ _ => rfl) dX2_turnByHand_25 ?_
    refine r_aload_n C 1 dX2_turnByHand_28 rfl rfl ?_
    refine r_get C (k := 2) (v := .int (z_11)) f_X2_40 (by decide) rfl rfl dX2_turnByHand_29 ?_
    refine r_iload_n C 0 dX2_turnByHand_32 rfl rfl ?_
    refine r_icmp_eq C 40 dX2_turnByHand_33 (by decide) (fun c_13 => ?_) (fun c_13 => ?_)
    · -- to 40
      refine r_iconst C (0) dX2_turnByHand_40 (by decide) ?_
      exact r_zret C T dX2_turnByHand_41 (by omega) (⟨⟨_, rfl⟩, by omega⟩)
    · -- to 36
      refine r_iconst C (1) dX2_turnByHand_36 (by decide) ?_
      refine r_goto C 41 dX2_turnByHand_37 (by decide) ?_
      exact r_zret C T dX2_turnByHand_41 (by omega) (⟨⟨_, rfl⟩, by omega⟩)
set_option maxHeartbeats 4000000 in
set_option maxRecDepth 100000 in
theorem c_X3_has (E : Ev) (ad : Nat → Nat) (σ : Sg) (p : Int32)  : Ct E ad yX3_has cX3_has 2 (some .boolean) 0 [.ref (ad 16), .int p] σ (fun r τ => τ = σ ∧ ((r.toInt = 1 ∧ 0 ≤ p.toInt ∧ p.toInt < (σ 16 8).toInt) ∨ (r.toInt = 0 ∧ ¬ (0 ≤ p.toInt ∧ p.toInt < (σ 16 8).toInt)))) := by
  have k_0 : (0 : Int32).toInt = 0 := by decide
  have k_1 : (1 : Int32).toInt = 1 := by decide
  refine ct_of RX3 rfl (by decide +kernel) [(0, .ref (ad 16)), (1, .int (p))] rfl (Nat.le_of_ble_eq_true rfl) (fun G C T => ?_)
  refine r_iload_n C 1 dX3_has_0 rfl rfl ?_
  refine r_if_lt C 16 dX3_has_1 (by decide) (fun c_1 => ?_) (fun c_1 => ?_)
  · -- to 16
    refine r_iconst C (0) dX3_has_16 (by decide) ?_
    exact r_zret C T dX3_has_17 (by omega) (⟨rfl, by omega⟩)
  · -- to 4
    refine r_iload_n C 1 dX3_has_4 rfl rfl ?_
    refine r_aload_n C 0 dX3_has_5 rfl rfl ?_
    refine r_get C (k := 16) (v := .int (σ 16 8)) f_X3_36 (by decide) rfl rfl dX3_has_6 ?_
    refine r_icmp_ge C 16 dX3_has_9 (by decide) (fun c_2 => ?_) (fun c_2 => ?_)
    · -- to 16
      refine r_iconst C (0) dX3_has_16 (by decide) ?_
      exact r_zret C T dX3_has_17 (by omega) (⟨rfl, by omega⟩)
    · -- to 12
      refine r_iconst C (1) dX3_has_12 (by decide) ?_
      refine r_goto C 17 dX3_has_13 (by decide) ?_
      exact r_zret C T dX3_has_17 (by omega) (⟨rfl, by omega⟩)
set_option maxHeartbeats 4000000 in
set_option maxRecDepth 100000 in
theorem c_X3_locksOf (E : Ev) (ad : Nat → Nat) (σ : Sg) (p : Int32) (hp : 0 ≤ p.toInt ∧ p.toInt < 7) : Ct E ad yX3_locksOf cX3_locksOf 2 (some .int) 0 [.ref (ad 16), .int p] σ (fun r τ => τ = σ ∧ True) := by
  have k_0 : (0 : Int32).toInt = 0 := by decide
  have k_1 : (1 : Int32).toInt = 1 := by decide
  have k_5 : (5 : Int32).toInt = 5 := by decide
  refine ct_of RX3 rfl (by decide +kernel) [(0, .ref (ad 16)), (1, .int (p))] rfl (Nat.le_of_ble_eq_true rfl) (fun G C T => ?_)
  refine r_aload_n C 0 dX3_locksOf_0 rfl rfl ?_
  refine r_get C (k := 16) (v := .ref (ad 20)) f_X3_21 (by decide) rfl rfl dX3_locksOf_1 ?_
  refine r_iload_n C 1 dX3_locksOf_4 rfl rfl ?_
  refine r_iald C (k := 20) (by decide) rfl (by omega) (σ 20 ((p : Int32).toInt.toNat)) rfl dX3_locksOf_5 ?_
  refine r_iconst C (1) dX3_locksOf_6 (by decide) ?_
  refine r_icmp_lt C 29 dX3_locksOf_7 (by decide) (fun c_2 => ?_) (fun c_2 => ?_)
  · -- to 29
    refine r_iconst C (0) dX3_locksOf_29 (by decide) ?_
    exact r_iret C T dX3_locksOf_30 (⟨rfl, trivial⟩)
  · -- to 10
    refine r_aload_n C 0 dX3_locksOf_10 rfl rfl ?_
    refine r_get C (k := 16) (v := .ref (ad 20)) f_X3_21 (by decide) rfl rfl dX3_locksOf_11 ?_
    refine r_iload_n C 1 dX3_locksOf_14 rfl rfl ?_
    refine r_iald C (k := 20) (by decide) rfl (by omega) (σ 20 ((p : Int32).toInt.toNat)) rfl dX3_locksOf_15 ?_
    refine r_iconst C (5) dX3_locksOf_16 (by decide) ?_
    refine r_icmp_ge C 29 dX3_locksOf_17 (by decide) (fun c_4 => ?_) (fun c_4 => ?_)
    · -- to 29
      refine r_iconst C (0) dX3_locksOf_29 (by decide) ?_
      exact r_iret C T dX3_locksOf_30 (⟨rfl, trivial⟩)
    · -- to 20
      refine r_aload_n C 0 dX3_locksOf_20 rfl rfl ?_
      refine r_get C (k := 16) (v := .ref (ad 19)) f_X3_18 (by decide) rfl rfl dX3_locksOf_21 ?_
      refine r_iload_n C 1 dX3_locksOf_24 rfl rfl ?_
      refine r_iald C (k := 19) (by decide) rfl (by omega) (σ 19 ((p : Int32).toInt.toNat)) rfl dX3_locksOf_25 ?_
      refine r_goto C 30 dX3_locksOf_26 (by decide) ?_
      exact r_iret C T dX3_locksOf_30 (⟨rfl, trivial⟩)
set_option maxHeartbeats 4000000 in
set_option maxRecDepth 100000 in
theorem c_X3_lockedPipes (E : Ev) (ad : Nat → Nat) (σ : Sg)  (hI : IC σ) : Ct E ad yX3_lockedPipes cX3_lockedPipes 3 (some .int) 1 [.ref (ad 16)] σ (fun r τ => τ = σ ∧ ((σ 16 8).toInt = 0 → r.toInt = 0)) := by
  have k_0 : (0 : Int32).toInt = 0 := by decide
  have hJ := hI
  unfold IC at hJ
  refine ct_of RX3 rfl (by decide +kernel) [(0, .ref (ad 16))] rfl (Nat.le_of_ble_eq_true rfl) (fun G C T => ?_)
  refine r_iconst C (0) dX3_lockedPipes_0 (by decide) ?_
  refine r_istore_n C [(1, .int (0)), (0, .ref (ad 16))] dX3_lockedPipes_1 rfl (by decide) rfl ?_
  refine r_iconst C (0) dX3_lockedPipes_2 (by decide) ?_
  refine r_istore_n C [(2, .int (0)), (1, .int (0)), (0, .ref (ad 16))] dX3_lockedPipes_3 rfl (by decide) rfl ?_
  have L_4 : ∀ (n : Nat), ∀ (a : Int32) (i : Int32), (0 ≤ i.toInt ∧ i.toInt ≤ 7) → ((σ 16 8).toInt = 0 → a.toInt = 0) → 7 - i.toInt < (n : Int) → At E ad G 3 4 [(2, .int (i)), (1, .int (a)), (0, .ref (ad 16))] [] σ := by
    intro n
    induction n with
    | zero =>
      intro a i hi hf hm
      exact absurd hm (by omega)
    | succ n ih =>
      intro a i hi hf hm
      have ih_4 := ih
      clear ih
      refine r_iload_n C 0 dX3_lockedPipes_4 rfl rfl ?_
      refine r_aload_n C 2 dX3_lockedPipes_5 rfl rfl ?_
      refine r_get C (k := 16) (v := .int (σ 16 8)) f_X3_36 (by decide) rfl rfl dX3_lockedPipes_6 ?_
      refine r_icmp_ge C 26 dX3_lockedPipes_9 (by decide) (fun c_1 => ?_) (fun c_1 => ?_)
      · -- to 26
        refine r_iload_n C 1 dX3_lockedPipes_26 rfl rfl ?_
        exact r_iret C T dX3_lockedPipes_27 (⟨rfl, hf⟩)
      · -- to 12
        refine r_iload_n C 1 dX3_lockedPipes_12 rfl rfl ?_
        refine r_aload_n C 2 dX3_lockedPipes_13 rfl rfl ?_
        refine r_iload_n C 0 dX3_lockedPipes_14 rfl rfl ?_
        refine r_callV C (k := 16) [.int (i)] [.int (a)] (c_X3_locksOf E ad σ  (i) (by omega)) lv_X3_40 (by decide) rfl rfl (by decide) (by decide) rfl rfl (Nat.le_of_ble_eq_true rfl) dX3_lockedPipes_15 (fun r_2 τ_3 h_4 => ?_)
        obtain ⟨eh_4, h_4⟩ := h_4
        obtain rfl := eh_4.symm
        refine r_ior C dX3_lockedPipes_18 ?_
        refine r_nm (P := fun z => z = (a : Int32) ||| (r_2)) rfl (fun z_5 hz_6 => ?_)
        refine r_istore_n C [(1, .int (z_5)), (2, .int (i)), (0, .ref (ad 16))] dX3_lockedPipes_19 rfl (by decide) rfl ?_
        refine r_iinc C 1 (fun z => [(2, .int (z)), (1, .int (z_5)), (0, .ref (ad 16))]) dX3_lockedPipes_20 rfl (by decide) (by decide) (by omega) (fun _ => rfl) (fun z_7 hz_8 => ?_)
        refine r_goto C 4 dX3_lockedPipes_23 (by decide) ?_
        exact At.sub [0, 1, 2] rfl (ih_4 (z_5 : Int32) (z_7 : Int32) (by omega) (fun h => absurd h (by omega)) (by omega))
  exact At.sub [0, 1, 2] rfl (L_4 ((7 - (0 : Int32).toInt).toNat + 1) (0 : Int32) (0 : Int32) (by omega) (fun _ => k_0) (by omega))
set_option maxHeartbeats 4000000 in
set_option maxRecDepth 100000 in
theorem c_X3_inState (E : Ev) (ad : Nat → Nat) (σ : Sg) (p : Int32) (hI : IC σ) : Ct E ad yX3_inState cX3_inState 4 (some .int) 0 [.ref (ad 16), .int p] σ (fun r τ => τ = σ ∧ ((σ 16 8).toInt = 0 → r.toInt = 0)) := by
  have k_0 : (0 : Int32).toInt = 0 := by decide
  have k_1 : (1 : Int32).toInt = 1 := by decide
  have hJ := hI
  unfold IC at hJ
  refine ct_of RX3 rfl (by decide +kernel) [(0, .ref (ad 16)), (1, .int (p))] rfl (Nat.le_of_ble_eq_true rfl) (fun G C T => ?_)
  refine r_iconst C (0) dX3_inState_0 (by decide) ?_
  refine r_istore_n C [(2, .int (0)), (0, .ref (ad 16)), (1, .int (p))] dX3_inState_1 rfl (by decide) rfl ?_
  refine r_iconst C (0) dX3_inState_2 (by decide) ?_
  refine r_istore_n C [(3, .int (0)), (2, .int (0)), (0, .ref (ad 16)), (1, .int (p))] dX3_inState_3 rfl (by decide) rfl ?_
  have L_4 : ∀ (n : Nat), ∀ (a : Int32) (i : Int32), (0 ≤ i.toInt ∧ i.toInt ≤ 7) → ((σ 16 8).toInt = 0 → a.toInt = 0) → 7 - i.toInt < (n : Int) → At E ad G 4 4 [(3, .int (i)), (2, .int (a)), (0, .ref (ad 16)), (1, .int (p))] [] σ := by
    intro n
    induction n with
    | zero =>
      intro a i hi hf hm
      exact absurd hm (by omega)
    | succ n ih =>
      intro a i hi hf hm
      have ih_4 := ih
      clear ih
      refine r_iload_n C 0 dX3_inState_4 rfl rfl ?_
      refine r_aload_n C 2 dX3_inState_5 rfl rfl ?_
      refine r_get C (k := 16) (v := .int (σ 16 8)) f_X3_36 (by decide) rfl rfl dX3_inState_6 ?_
      refine r_icmp_ge C 38 dX3_inState_9 (by decide) (fun c_1 => ?_) (fun c_1 => ?_)
      · -- to 38
        refine r_iload_n C 1 dX3_inState_38 rfl rfl ?_
        exact r_iret C T dX3_inState_39 (⟨rfl, hf⟩)
      · -- to 12
        refine r_iload_n C 1 dX3_inState_12 rfl rfl ?_
        refine r_aload_n C 2 dX3_inState_13 rfl rfl ?_
        refine r_get C (k := 16) (v := .ref (ad 20)) f_X3_21 (by decide) rfl rfl dX3_inState_14 ?_
        refine r_iload_n C 0 dX3_inState_17 rfl rfl ?_
        refine r_iald C (k := 20) (by decide) rfl (by omega) (σ 20 ((i : Int32).toInt.toNat)) rfl dX3_inState_18 ?_
        refine r_iload_n C 3 dX3_inState_19 rfl rfl ?_
        refine r_icmp_ne C 29 dX3_inState_20 (by decide) (fun c_3 => ?_) (fun c_3 => ?_)
        · -- to 29
          refine r_iconst C (0) dX3_inState_29 (by decide) ?_
          refine r_ior C dX3_inState_30 ?_
          refine r_nm (P := fun z => z = (a : Int32) ||| (0)) rfl (fun z_4 hz_5 => ?_)
          refine r_istore_n C [(2, .int (z_4)), (3, .int (i)), (0, .ref (ad 16)), (1, .int (p))] dX3_inState_31 rfl (by decide) rfl ?_
          refine r_iinc C 1 (fun z => [(3, .int (z)), (2, .int (z_4)), (0, .ref (ad 16)), (1, .int (p))]) dX3_inState_32 rfl (by decide) (by decide) (by omega) (fun _ => rfl) (fun z_6 hz_7 => ?_)
          refine r_goto C 4 dX3_inState_35 (by decide) ?_
          exact At.sub [0, 1, 2, 3] rfl (ih_4 (z_4 : Int32) (z_6 : Int32) (by omega) (fun h => absurd h (by omega)) (by omega))
        · -- to 23
          refine r_iconst C (1) dX3_inState_23 (by decide) ?_
          refine r_iload_n C 0 dX3_inState_24 rfl rfl ?_
          refine r_ishl C dX3_inState_25 ?_
          refine r_nm (P := fun z => z = (1 : Int32) <<< ((i : Int32) &&& 31)) rfl (fun z_8 hz_9 => ?_)
          refine r_goto C 30 dX3_inState_26 (by decide) ?_
          refine r_ior C dX3_inState_30 ?_
          refine r_nm (P := fun z => z = (a : Int32) ||| (z_8)) rfl (fun z_10 hz_11 => ?_)
          refine r_istore_n C [(2, .int (z_10)), (3, .int (i)), (0, .ref (ad 16)), (1, .int (p))] dX3_inState_31 rfl (by decide) rfl ?_
          refine r_iinc C 1 (fun z => [(3, .int (z)), (2, .int (z_10)), (0, .ref (ad 16)), (1, .int (p))]) dX3_inState_32 rfl (by decide) (by decide) (by omega) (fun _ => rfl) (fun z_12 hz_13 => ?_)
          refine r_goto C 4 dX3_inState_35 (by decide) ?_
          exact At.sub [0, 1, 2, 3] rfl (ih_4 (z_10 : Int32) (z_12 : Int32) (by omega) (fun h => absurd h (by omega)) (by omega))
  exact At.sub [0, 1, 2, 3] rfl (L_4 ((7 - (0 : Int32).toInt).toNat + 1) (0 : Int32) (0 : Int32) (by omega) (fun _ => k_0) (by omega))
set_option maxHeartbeats 4000000 in
set_option maxRecDepth 100000 in
theorem c_X3_locksOn (E : Ev) (ad : Nat → Nat) (σ : Sg) (p : Int32) (hI : IC σ) : Ct E ad yX3_locksOn cX3_locksOn 4 (some .int) 1 [.ref (ad 16), .int p] σ (fun r τ => τ = σ ∧ True) := by
  have k_0 : (0 : Int32).toInt = 0 := by decide
  have k_1 : (1 : Int32).toInt = 1 := by decide
  have hJ := hI
  unfold IC at hJ
  refine ct_of RX3 rfl (by decide +kernel) [(0, .ref (ad 16)), (1, .int (p))] rfl (Nat.le_of_ble_eq_true rfl) (fun G C T => ?_)
  refine r_iconst C (0) dX3_locksOn_0 (by decide) ?_
  refine r_istore_n C [(2, .int (0)), (0, .ref (ad 16)), (1, .int (p))] dX3_locksOn_1 rfl (by decide) rfl ?_
  refine r_iconst C (0) dX3_locksOn_2 (by decide) ?_
  refine r_istore_n C [(3, .int (0)), (2, .int (0)), (0, .ref (ad 16)), (1, .int (p))] dX3_locksOn_3 rfl (by decide) rfl ?_
  have L_4 : ∀ (n : Nat), ∀ (a : Int32) (i : Int32), (0 ≤ i.toInt ∧ i.toInt ≤ 7) → 7 - i.toInt < (n : Int) → At E ad G 4 4 [(3, .int (i)), (2, .int (a)), (0, .ref (ad 16)), (1, .int (p))] [] σ := by
    intro n
    induction n with
    | zero =>
      intro a i hi hm
      exact absurd hm (by omega)
    | succ n ih =>
      intro a i hi hm
      have ih_4 := ih
      clear ih
      refine r_iload_n C 0 dX3_locksOn_4 rfl rfl ?_
      refine r_aload_n C 2 dX3_locksOn_5 rfl rfl ?_
      refine r_get C (k := 16) (v := .int (σ 16 8)) f_X3_36 (by decide) rfl rfl dX3_locksOn_6 ?_
      refine r_icmp_ge C 30 dX3_locksOn_9 (by decide) (fun c_1 => ?_) (fun c_1 => ?_)
      · -- to 30
        refine r_iload_n C 1 dX3_locksOn_30 rfl rfl ?_
        exact r_iret C T dX3_locksOn_31 (⟨rfl, trivial⟩)
      · -- to 12
        refine r_iload_n C 1 dX3_locksOn_12 rfl rfl ?_
        refine r_aload_n C 2 dX3_locksOn_13 rfl rfl ?_
        refine r_iload_n C 0 dX3_locksOn_14 rfl rfl ?_
        refine r_callV C (k := 16) [.int (i)] [.int (a)] (c_X3_locksOf E ad σ  (i) (by omega)) lv_X3_40 (by decide) rfl rfl (by decide) (by decide) rfl rfl (Nat.le_of_ble_eq_true rfl) dX3_locksOn_15 (fun r_2 τ_3 h_4 => ?_)
        obtain ⟨eh_4, h_4⟩ := h_4
        obtain rfl := eh_4.symm
        refine r_iload_n C 3 dX3_locksOn_18 rfl rfl ?_
        refine r_ishr C dX3_locksOn_19 ?_
        refine r_nm (P := fun z => z = (r_2 : Int32) >>> ((p : Int32) &&& 31)) rfl (fun z_5 hz_6 => ?_)
        refine r_iconst C (1) dX3_locksOn_20 (by decide) ?_
        refine r_iand C dX3_locksOn_21 ?_
        refine r_nm (P := fun z => z = (z_5 : Int32) &&& (1)) rfl (fun z_7 hz_8 => ?_)
        refine r_iadd C dX3_locksOn_22 ?_
        refine r_nm (P := fun z => z = (a) + (z_7)) rfl (fun z_9 hz_10 => ?_)
        refine r_istore_n C [(2, .int (z_9)), (3, .int (i)), (0, .ref (ad 16)), (1, .int (p))] dX3_locksOn_23 rfl (by decide) rfl ?_
        refine r_iinc C 1 (fun z => [(3, .int (z)), (2, .int (z_9)), (0, .ref (ad 16)), (1, .int (p))]) dX3_locksOn_24 rfl (by decide) (by decide) (by omega) (fun _ => rfl) (fun z_11 hz_12 => ?_)
        refine r_goto C 4 dX3_locksOn_27 (by decide) ?_
        exact At.sub [0, 1, 2, 3] rfl (ih_4 (z_9 : Int32) (z_11 : Int32) (by omega) (by omega))
  exact At.sub [0, 1, 2, 3] rfl (L_4 ((7 - (0 : Int32).toInt).toNat + 1) (0 : Int32) (0 : Int32) (by omega) (by omega))
set_option maxHeartbeats 4000000 in
set_option maxRecDepth 100000 in
theorem c_X3_allLocks (E : Ev) (ad : Nat → Nat) (σ : Sg)  (hI : IC σ) : Ct E ad yX3_allLocks cX3_allLocks 3 (some .int) 1 [.ref (ad 16)] σ (fun r τ => τ = σ ∧ ((σ 16 8).toInt = 0 → r.toInt = 0)) := by
  have k_0 : (0 : Int32).toInt = 0 := by decide
  have hJ := hI
  unfold IC at hJ
  refine ct_of RX3 rfl (by decide +kernel) [(0, .ref (ad 16))] rfl (Nat.le_of_ble_eq_true rfl) (fun G C T => ?_)
  refine r_iconst C (0) dX3_allLocks_0 (by decide) ?_
  refine r_istore_n C [(1, .int (0)), (0, .ref (ad 16))] dX3_allLocks_1 rfl (by decide) rfl ?_
  refine r_iconst C (0) dX3_allLocks_2 (by decide) ?_
  refine r_istore_n C [(2, .int (0)), (1, .int (0)), (0, .ref (ad 16))] dX3_allLocks_3 rfl (by decide) rfl ?_
  have L_4 : ∀ (n : Nat), ∀ (a : Int32) (i : Int32), (0 ≤ i.toInt ∧ i.toInt ≤ 7) → ((σ 16 8).toInt = 0 → a.toInt = 0) → 7 - i.toInt < (n : Int) → At E ad G 3 4 [(2, .int (i)), (1, .int (a)), (0, .ref (ad 16))] [] σ := by
    intro n
    induction n with
    | zero =>
      intro a i hi hf hm
      exact absurd hm (by omega)
    | succ n ih =>
      intro a i hi hf hm
      have ih_4 := ih
      clear ih
      refine r_iload_n C 0 dX3_allLocks_4 rfl rfl ?_
      refine r_aload_n C 2 dX3_allLocks_5 rfl rfl ?_
      refine r_get C (k := 16) (v := .int (σ 16 8)) f_X3_36 (by decide) rfl rfl dX3_allLocks_6 ?_
      refine r_icmp_ge C 29 dX3_allLocks_9 (by decide) (fun c_1 => ?_) (fun c_1 => ?_)
      · -- to 29
        refine r_iload_n C 1 dX3_allLocks_29 rfl rfl ?_
        exact r_iret C T dX3_allLocks_30 (⟨rfl, hf⟩)
      · -- to 12
        refine r_iload_n C 1 dX3_allLocks_12 rfl rfl ?_
        refine r_aload_n C 2 dX3_allLocks_13 rfl rfl ?_
        refine r_iload_n C 0 dX3_allLocks_14 rfl rfl ?_
        refine r_callV C (k := 16) [.int (i)] [.int (a)] (c_X3_locksOf E ad σ  (i) (by omega)) lv_X3_40 (by decide) rfl rfl (by decide) (by decide) rfl rfl (Nat.le_of_ble_eq_true rfl) dX3_allLocks_15 (fun r_2 τ_3 h_4 => ?_)
        obtain ⟨eh_4, h_4⟩ := h_4
        obtain rfl := eh_4.symm
        refine r_callS C [.int (r_2)] [.int (a)] (c_J6_bitCount_0f7a4 E ad σ  (r_2) ) ls_X3_44 (by decide) (by decide) rfl rfl (Nat.le_of_ble_eq_true rfl) dX3_allLocks_18 (fun r_5 τ_6 h_7 => ?_)
        obtain ⟨eh_7, h_7⟩ := h_7
        obtain rfl := eh_7.symm
        refine r_iadd C dX3_allLocks_21 ?_
        refine r_nm (P := fun z => z = (a) + (r_5)) rfl (fun z_8 hz_9 => ?_)
        refine r_istore_n C [(1, .int (z_8)), (2, .int (i)), (0, .ref (ad 16))] dX3_allLocks_22 rfl (by decide) rfl ?_
        refine r_iinc C 1 (fun z => [(2, .int (z)), (1, .int (z_8)), (0, .ref (ad 16))]) dX3_allLocks_23 rfl (by decide) (by decide) (by omega) (fun _ => rfl) (fun z_10 hz_11 => ?_)
        refine r_goto C 4 dX3_allLocks_26 (by decide) ?_
        exact At.sub [0, 1, 2] rfl (ih_4 (z_8 : Int32) (z_10 : Int32) (by omega) (fun h => absurd h (by omega)) (by omega))
  exact At.sub [0, 1, 2] rfl (L_4 ((7 - (0 : Int32).toInt).toNat + 1) (0 : Int32) (0 : Int32) (by omega) (fun _ => k_0) (by omega))
set_option maxHeartbeats 4000000 in
set_option maxRecDepth 100000 in
theorem c_X3_write (E : Ev) (ad : Nat → Nat) (σ : Sg) (p : Int32) (q : Int32) (u : Int32) (hc : 0 ≤ (σ 16 8).toInt ∧ (σ 16 8).toInt < 7) : Ct E ad yX3_write cX3_write 5 (some .int) 0 [.ref (ad 16), .int p, .int q, .int u] σ (fun r τ => r.toInt = (σ 16 8).toInt ∧ Off [16, 17, 18, 19, 20, 21, 22, 23, 24] σ τ ∧ (τ 16 8).toInt = (σ 16 8).toInt + 1 ∧ τ 20 = upd (σ 20) (σ 16 8).toInt.toNat 0 ∧ τ 19 = upd (σ 19) (σ 16 8).toInt.toNat u) := by
  have k_m3 : (-3 : Int32).toInt = -3 := by decide
  have k_m1 : (-1 : Int32).toInt = -1 := by decide
  have k_0 : (0 : Int32).toInt = 0 := by decide
  have k_1 : (1 : Int32).toInt = 1 := by decide
  refine ct_of RX3 rfl (by decide +kernel) [(0, .ref (ad 16)), (1, .int (p)), (2, .int (q)), (3, .int (u))] rfl (Nat.le_of_ble_eq_true rfl) (fun G C T => ?_)
  refine r_aload_n C 0 dX3_write_0 rfl rfl ?_
  refine r_get C (k := 16) (v := .int (σ 16 8)) f_X3_36 (by decide) rfl rfl dX3_write_1 ?_
  refine r_istore C [(4, .int (σ 16 8)), (0, .ref (ad 16)), (1, .int (p)), (2, .int (q)), (3, .int (u))] dX3_write_4 (by decide) rfl ?_
  refine r_aload_n C 1 dX3_write_6 rfl rfl ?_
  refine r_get C (k := 16) (v := .ref (ad 17)) f_X3_9 (by decide) rfl rfl dX3_write_7 ?_
  refine r_iload C 0 dX3_write_10 rfl ?_
  refine r_iload_n C 2 dX3_write_12 rfl rfl ?_
  refine r_iast C (k := 17) (by decide) (fun _ => rfl) (by omega) dX3_write_13 ?_
  refine r_aload_n C 1 dX3_write_14 rfl rfl ?_
  refine r_get C (k := 16) (v := .ref (ad 18)) f_X3_15 (by decide) rfl rfl dX3_write_15 ?_
  refine r_iload C 0 dX3_write_18 rfl ?_
  refine r_iload_n C 3 dX3_write_20 rfl rfl ?_
  refine r_iast C (k := 18) (by decide) (fun _ => rfl) (by omega) dX3_write_21 ?_
  refine r_aload_n C 1 dX3_write_22 rfl rfl ?_
  refine r_get C (k := 16) (v := .ref (ad 19)) f_X3_18 (by decide) rfl rfl dX3_write_23 ?_
  refine r_iload C 0 dX3_write_26 rfl ?_
  refine r_iload_n C 4 dX3_write_28 rfl rfl ?_
  refine r_iast C (k := 19) (by decide) (fun _ => rfl) (by omega) dX3_write_29 ?_
  refine r_aload_n C 1 dX3_write_30 rfl rfl ?_
  refine r_get C (k := 16) (v := .ref (ad 20)) f_X3_21 (by decide) rfl rfl dX3_write_31 ?_
  refine r_iload C 0 dX3_write_34 rfl ?_
  refine r_iconst C (0) dX3_write_36 (by decide) ?_
  refine r_iast C (k := 20) (by decide) (fun _ => rfl) (by omega) dX3_write_37 ?_
  refine r_aload_n C 1 dX3_write_38 rfl rfl ?_
  refine r_get C (k := 16) (v := .ref (ad 21)) f_X3_24 (by decide) rfl rfl dX3_write_39 ?_
  refine r_iload C 0 dX3_write_42 rfl ?_
  refine r_iconst C (-1) dX3_write_44 (by decide) ?_
  refine r_iast C (k := 21) (by decide) (fun _ => rfl) (by omega) dX3_write_45 ?_
  refine r_aload_n C 1 dX3_write_46 rfl rfl ?_
  refine r_get C (k := 16) (v := .ref (ad 22)) f_X3_27 (by decide) rfl rfl dX3_write_47 ?_
  refine r_iload C 0 dX3_write_50 rfl ?_
  refine r_bipush C (-3) dX3_write_52 (by decide) ?_
  refine r_iast C (k := 22) (by decide) (fun _ => rfl) (by omega) dX3_write_54 ?_
  refine r_aload_n C 1 dX3_write_55 rfl rfl ?_
  refine r_get C (k := 16) (v := .ref (ad 23)) f_X3_30 (by decide) rfl rfl dX3_write_56 ?_
  refine r_iload C 0 dX3_write_59 rfl ?_
  refine r_bipush C (-3) dX3_write_61 (by decide) ?_
  refine r_iast C (k := 23) (by decide) (fun _ => rfl) (by omega) dX3_write_63 ?_
  refine r_aload_n C 1 dX3_write_64 rfl rfl ?_
  refine r_get C (k := 16) (v := .ref (ad 24)) f_X3_33 (by decide) rfl rfl dX3_write_65 ?_
  refine r_iload C 0 dX3_write_68 rfl ?_
  refine r_bipush C (-3) dX3_write_70 (by decide) ?_
  refine r_iast C (k := 24) (by decide) (fun _ => rfl) (by omega) dX3_write_72 ?_
  refine r_aload_n C 1 dX3_write_73 rfl rfl ?_
  refine r_dup C dX3_write_74 rfl ?_
  refine r_get C (k := 16) (v := .int (σ 16 8)) f_X3_36 (by decide) rfl rfl dX3_write_75 ?_
  refine r_iconst C (1) dX3_write_78 (by decide) ?_
  refine r_iadd C dX3_write_79 ?_
  refine r_nm (P := fun z => z.toInt = (σ 16 8 : Int32).toInt + (1 : Int32).toInt ∧ z = (σ 16 8) + (1)) ⟨ta_add (by omega), rfl⟩ (fun z_1 hz_2 => ?_)
  refine r_put C (k := 16) pf_X3_36 (by decide) (fun _ => rfl) (fun _ => Nat.le_of_ble_eq_true rfl) (fun _ _ => rfl) dX3_write_80 ?_
  refine r_iload C 0 dX3_write_83 rfl ?_
  exact r_iret C T dX3_write_85 (⟨rfl, (((((((((Off.rf.up (by decide)).up (by decide)).up (by decide)).up (by decide)).up (by decide)).up (by decide)).up (by decide)).up (by decide)).up (by decide)), hz_2.1, rfl, rfl⟩)
set_option maxHeartbeats 4000000 in
set_option maxRecDepth 100000 in
theorem c_X3_noteTest (E : Ev) (ad : Nat → Nat) (σ : Sg) (p : Int32) (q : Int32) (u : Int32) (hp : 0 ≤ p.toInt ∧ p.toInt < 7) : CtV E ad yX3_noteTest cX3_noteTest 4 0 [.ref (ad 16), .int p, .int q, .int u] σ (fun τ => Off [20, 22, 23] σ τ ∧ ∀ j, (τ 20 j).toInt = 0 ↔ (σ 20 j).toInt = 0) := by
  have k_1 : (1 : Int32).toInt = 1 := by decide
  have k_2 : (2 : Int32).toInt = 2 := by decide
  refine ctv_of RX3 rfl (by decide +kernel) [(0, .ref (ad 16)), (1, .int (p)), (2, .int (q)), (3, .int (u))] rfl (Nat.le_of_ble_eq_true rfl) (fun G C T => ?_)
  refine r_aload_n C 0 dX3_noteTest_0 rfl rfl ?_
  refine r_get C (k := 16) (v := .ref (ad 22)) f_X3_27 (by decide) rfl rfl dX3_noteTest_1 ?_
  refine r_iload_n C 1 dX3_noteTest_4 rfl rfl ?_
  refine r_iload_n C 2 dX3_noteTest_5 rfl rfl ?_
  refine r_iast C (k := 22) (by decide) (fun _ => rfl) (by omega) dX3_noteTest_6 ?_
  refine r_aload_n C 0 dX3_noteTest_7 rfl rfl ?_
  refine r_get C (k := 16) (v := .ref (ad 23)) f_X3_30 (by decide) rfl rfl dX3_noteTest_8 ?_
  refine r_iload_n C 1 dX3_noteTest_11 rfl rfl ?_
  refine r_iload_n C 3 dX3_noteTest_12 rfl rfl ?_
  refine r_iast C (k := 23) (by decide) (fun _ => rfl) (by omega) dX3_noteTest_13 ?_
  refine r_aload_n C 0 dX3_noteTest_14 rfl rfl ?_
  refine r_get C (k := 16) (v := .ref (ad 20)) f_X3_21 (by decide) rfl rfl dX3_noteTest_15 ?_
  refine r_iload_n C 1 dX3_noteTest_18 rfl rfl ?_
  refine r_iald C (k := 20) (by decide) rfl (by omega) (σ 20 ((p : Int32).toInt.toNat)) rfl dX3_noteTest_19 ?_
  refine r_iconst C (1) dX3_noteTest_20 (by decide) ?_
  refine r_icmp_ne C 31 dX3_noteTest_21 (by decide) (fun c_2 => ?_) (fun c_2 => ?_)
  · -- to 31
    exact r_vret C T dX3_noteTest_31 (⟨((Off.rf.up (by decide)).up (by decide)), fun _ => Iff.rfl⟩)
  · -- to 24
    have hs1 : ∀ j, (upd (σ 20) (p : Int32).toInt.toNat 2 j).toInt = 0 ↔ (σ 20 j).toInt = 0 := by intro j; unfold upd; by_cases e : j = (p : Int32).toInt.toNat; (rw [if_pos e, e]; omega); (rw [if_neg e])
    refine r_aload_n C 0 dX3_noteTest_24 rfl rfl ?_
    refine r_get C (k := 16) (v := .ref (ad 20)) f_X3_21 (by decide) rfl rfl dX3_noteTest_25 ?_
    refine r_iload_n C 1 dX3_noteTest_28 rfl rfl ?_
    refine r_iconst C (2) dX3_noteTest_29 (by decide) ?_
    refine r_iast C (k := 20) (by decide) (fun _ => rfl) (by omega) dX3_noteTest_30 ?_
    exact r_vret C T dX3_noteTest_31 (⟨(((Off.rf.up (by decide)).up (by decide)).up (by decide)), hs1 ⟩)
set_option maxHeartbeats 4000000 in
set_option maxRecDepth 100000 in
theorem c_X3_hasGoodTest (E : Ev) (ad : Nat → Nat) (σ : Sg) (p : Int32) (q : Int32) (u : Int32) (hp : 0 ≤ p.toInt ∧ p.toInt < 7) : Ct E ad yX3_hasGoodTest cX3_hasGoodTest 4 (some .boolean) 0 [.ref (ad 16), .int p, .int q, .int u] σ (fun r τ => τ = σ ∧ (r.toInt = 0 ∨ r.toInt = 1)) := by
  have k_m3 : (-3 : Int32).toInt = -3 := by decide
  have k_0 : (0 : Int32).toInt = 0 := by decide
  have k_1 : (1 : Int32).toInt = 1 := by decide
  have k_10 : (10 : Int32).toInt = 10 := by decide
  refine ct_of RX3 rfl (by decide +kernel) [(0, .ref (ad 16)), (1, .int (p)), (2, .int (q)), (3, .int (u))] rfl (Nat.le_of_ble_eq_true rfl) (fun G C T => ?_)
  refine r_aload_n C 0 dX3_hasGoodTest_0 rfl rfl ?_
  refine r_get C (k := 16) (v := .ref (ad 22)) f_X3_27 (by decide) rfl rfl dX3_hasGoodTest_1 ?_
  refine r_iload_n C 1 dX3_hasGoodTest_4 rfl rfl ?_
  refine r_iald C (k := 22) (by decide) rfl (by omega) (σ 22 ((p : Int32).toInt.toNat)) rfl dX3_hasGoodTest_5 ?_
  refine r_bipush C (-3) dX3_hasGoodTest_6 (by decide) ?_
  refine r_icmp_eq C 38 dX3_hasGoodTest_8 (by decide) (fun c_2 => ?_) (fun c_2 => ?_)
  · -- to 38
    refine r_iconst C (0) dX3_hasGoodTest_38 (by decide) ?_
    exact r_zret C T dX3_hasGoodTest_39 (by omega) (⟨rfl, by omega⟩)
  · -- to 11
    refine r_aload_n C 0 dX3_hasGoodTest_11 rfl rfl ?_
    refine r_get C (k := 16) (v := .ref (ad 22)) f_X3_27 (by decide) rfl rfl dX3_hasGoodTest_12 ?_
    refine r_iload_n C 1 dX3_hasGoodTest_15 rfl rfl ?_
    refine r_iald C (k := 22) (by decide) rfl (by omega) (σ 22 ((p : Int32).toInt.toNat)) rfl dX3_hasGoodTest_16 ?_
    refine r_bipush C (10) dX3_hasGoodTest_17 (by decide) ?_
    refine r_icmp_gt C 38 dX3_hasGoodTest_19 (by decide) (fun c_4 => ?_) (fun c_4 => ?_)
    · -- to 38
      refine r_iconst C (0) dX3_hasGoodTest_38 (by decide) ?_
      exact r_zret C T dX3_hasGoodTest_39 (by omega) (⟨rfl, by omega⟩)
    · -- to 22
      refine r_iload_n C 2 dX3_hasGoodTest_22 rfl rfl ?_
      refine r_aload_n C 0 dX3_hasGoodTest_23 rfl rfl ?_
      refine r_get C (k := 16) (v := .ref (ad 23)) f_X3_30 (by decide) rfl rfl dX3_hasGoodTest_24 ?_
      refine r_iload_n C 1 dX3_hasGoodTest_27 rfl rfl ?_
      refine r_iald C (k := 23) (by decide) rfl (by omega) (σ 23 ((p : Int32).toInt.toNat)) rfl dX3_hasGoodTest_28 ?_
      refine r_isub C dX3_hasGoodTest_29 ?_
      refine r_nm (P := fun z => z = (q) - (σ 23 ((p : Int32).toInt.toNat))) rfl (fun z_6 hz_7 => ?_)
      refine r_iload_n C 3 dX3_hasGoodTest_30 rfl rfl ?_
      refine r_icmp_gt C 38 dX3_hasGoodTest_31 (by decide) (fun c_8 => ?_) (fun c_8 => ?_)
      · -- to 38
        refine r_iconst C (0) dX3_hasGoodTest_38 (by decide) ?_
        exact r_zret C T dX3_hasGoodTest_39 (by omega) (⟨rfl, by omega⟩)
      · -- to 34
        refine r_iconst C (1) dX3_hasGoodTest_34 (by decide) ?_
        refine r_goto C 39 dX3_hasGoodTest_35 (by decide) ?_
        exact r_zret C T dX3_hasGoodTest_39 (by omega) (⟨rfl, by omega⟩)
set_option maxHeartbeats 4000000 in
set_option maxRecDepth 100000 in
theorem c_X3_endLive (E : Ev) (ad : Nat → Nat) (σ : Sg) (p : Int32) (q : Int32) (hp : 0 ≤ p.toInt ∧ p.toInt < 7) : CtV E ad yX3_endLive cX3_endLive 3 0 [.ref (ad 16), .int p, .int q] σ (fun τ => τ = sUp (sUp σ 20 p.toInt.toNat 4) 24 p.toInt.toNat q) := by
  have k_4 : (4 : Int32).toInt = 4 := by decide
  refine ctv_of RX3 rfl (by decide +kernel) [(0, .ref (ad 16)), (1, .int (p)), (2, .int (q))] rfl (Nat.le_of_ble_eq_true rfl) (fun G C T => ?_)
  refine r_aload_n C 0 dX3_endLive_0 rfl rfl ?_
  refine r_get C (k := 16) (v := .ref (ad 20)) f_X3_21 (by decide) rfl rfl dX3_endLive_1 ?_
  refine r_iload_n C 1 dX3_endLive_4 rfl rfl ?_
  refine r_iconst C (4) dX3_endLive_5 (by decide) ?_
  refine r_iast C (k := 20) (by decide) (fun _ => rfl) (by omega) dX3_endLive_6 ?_
  refine r_aload_n C 0 dX3_endLive_7 rfl rfl ?_
  refine r_get C (k := 16) (v := .ref (ad 24)) f_X3_33 (by decide) rfl rfl dX3_endLive_8 ?_
  refine r_iload_n C 1 dX3_endLive_11 rfl rfl ?_
  refine r_iload_n C 2 dX3_endLive_12 rfl rfl ?_
  refine r_iast C (k := 24) (by decide) (fun _ => rfl) (by omega) dX3_endLive_13 ?_
  exact r_vret C T dX3_endLive_14 (rfl)
set_option maxHeartbeats 4000000 in
set_option maxRecDepth 100000 in
theorem c_X3_endAllLive (E : Ev) (ad : Nat → Nat) (σ : Sg) (p : Int32) (hI : IC σ) : CtV E ad yX3_endAllLive cX3_endAllLive 3 1 [.ref (ad 16), .int p] σ (fun τ => Off [20, 24] σ τ ∧ ∀ j, (τ 20 j).toInt = 0 ↔ (σ 20 j).toInt = 0) := by
  have k_0 : (0 : Int32).toInt = 0 := by decide
  have k_3 : (3 : Int32).toInt = 3 := by decide
  have hJ := hI
  unfold IC at hJ
  refine ctv_of RX3 rfl (by decide +kernel) [(0, .ref (ad 16)), (1, .int (p))] rfl (Nat.le_of_ble_eq_true rfl) (fun G C T => ?_)
  refine r_iconst C (0) dX3_endAllLive_0 (by decide) ?_
  refine r_istore_n C [(2, .int (0)), (0, .ref (ad 16)), (1, .int (p))] dX3_endAllLive_1 rfl (by decide) rfl ?_
  have L_2 : ∀ (n : Nat), ∀ (τ1 : Sg) (i : Int32), (0 ≤ i.toInt ∧ i.toInt ≤ 7) → (Off [20, 24] σ τ1) → (∀ j, (τ1 20 j).toInt = 0 ↔ (σ 20 j).toInt = 0) → 7 - i.toInt < (n : Int) → At E ad G 3 2 [(2, .int (i)), (0, .ref (ad 16)), (1, .int (p))] [] τ1 := by
    intro n
    induction n with
    | zero =>
      intro τ1 i hi ho ha hm
      exact absurd hm (by omega)
    | succ n ih =>
      intro τ1 i hi ho ha hm
      have ih_2 := ih
      clear ih
      have e16 : (τ1 16 8).toInt = (σ 16 8).toInt := by rw [ho 16 (by decide)]
      refine r_iload_n C 0 dX3_endAllLive_2 rfl rfl ?_
      refine r_aload_n C 1 dX3_endAllLive_3 rfl rfl ?_
      refine r_get C (k := 16) (v := .int (τ1 16 8)) f_X3_36 (by decide) rfl rfl dX3_endAllLive_4 ?_
      refine r_icmp_ge C 32 dX3_endAllLive_7 (by decide) (fun c_1 => ?_) (fun c_1 => ?_)
      · -- to 32
        exact r_vret C T dX3_endAllLive_32 (⟨ho, ha⟩)
      · -- to 10
        refine r_aload_n C 1 dX3_endAllLive_10 rfl rfl ?_
        refine r_get C (k := 16) (v := .ref (ad 20)) f_X3_21 (by decide) rfl rfl dX3_endAllLive_11 ?_
        refine r_iload_n C 0 dX3_endAllLive_14 rfl rfl ?_
        refine r_iald C (k := 20) (by decide) rfl (by omega) (τ1 20 ((i : Int32).toInt.toNat)) rfl dX3_endAllLive_15 ?_
        refine r_iconst C (3) dX3_endAllLive_16 (by decide) ?_
        refine r_icmp_ne C 26 dX3_endAllLive_17 (by decide) (fun c_3 => ?_) (fun c_3 => ?_)
        · -- to 26
          refine r_iinc C 0 (fun z => [(2, .int (z)), (0, .ref (ad 16)), (1, .int (p))]) dX3_endAllLive_26 rfl (by decide) (by decide) (by omega) (fun _ => rfl) (fun z_4 hz_5 => ?_)
          refine r_goto C 2 dX3_endAllLive_29 (by decide) ?_
          exact At.sub [0, 1, 2] rfl (ih_2 τ1 (z_4 : Int32) (by omega) ho ha (by omega))
        · -- to 20
          refine r_aload_n C 1 dX3_endAllLive_20 rfl rfl ?_
          refine r_iload_n C 0 dX3_endAllLive_21 rfl rfl ?_
          refine r_iload_n C 2 dX3_endAllLive_22 rfl rfl ?_
          refine r_callVv C (k := 16) [.int (i), .int (p)] [] (c_X3_endLive E ad τ1  (i) (p) (by omega)) lv_X3_49 (by decide) rfl rfl (by decide) (by decide) rfl rfl (Nat.le_of_ble_eq_true rfl) dX3_endAllLive_23 (fun τ_7 h_8 => ?_)
          refine r_iinc C 0 (fun z => [(2, .int (z)), (0, .ref (ad 16)), (1, .int (p))]) dX3_endAllLive_26 rfl (by decide) (by decide) (by omega) (fun _ => rfl) (fun z_9 hz_10 => ?_)
          refine r_goto C 2 dX3_endAllLive_29 (by decide) ?_
          exact At.sub [0, 1, 2] rfl (ih_2 τ_7 (z_9 : Int32) (by omega) (by rw [h_8]; exact (ho.up (by decide)).up (by decide)) (by rw [h_8]; intro j; refine Iff.trans ?_ (ha j); show (upd (τ1 20) (i : Int32).toInt.toNat 4 j).toInt = 0 ↔ _; unfold upd; split <;> simp_all) (by omega))
  exact At.sub [0, 1, 2] rfl (L_2 ((7 - (0 : Int32).toInt).toNat + 1) σ (0 : Int32) (by omega) Off.rf (fun _ => Iff.rfl) (by omega))
set_option maxHeartbeats 4000000 in
set_option maxRecDepth 100000 in
theorem c_X3_holdsLive (E : Ev) (ad : Nat → Nat) (σ : Sg) (p : Int32) (hI : IC σ) : Ct E ad yX3_holdsLive cX3_holdsLive 3 (some .boolean) 0 [.ref (ad 16), .int p] σ (fun r τ => τ = σ ∧ (r.toInt = 0 ∨ r.toInt = 1) ∧ ((σ 16 8).toInt = 0 → r.toInt = 0)) := by
  have k_0 : (0 : Int32).toInt = 0 := by decide
  have k_1 : (1 : Int32).toInt = 1 := by decide
  have k_3 : (3 : Int32).toInt = 3 := by decide
  have hJ := hI
  unfold IC at hJ
  refine ct_of RX3 rfl (by decide +kernel) [(0, .ref (ad 16)), (1, .int (p))] rfl (Nat.le_of_ble_eq_true rfl) (fun G C T => ?_)
  refine r_iconst C (0) dX3_holdsLive_0 (by decide) ?_
  refine r_istore_n C [(2, .int (0)), (0, .ref (ad 16)), (1, .int (p))] dX3_holdsLive_1 rfl (by decide) rfl ?_
  have L_2 : ∀ (n : Nat), ∀ (i : Int32), (0 ≤ i.toInt ∧ i.toInt ≤ 7) → 7 - i.toInt < (n : Int) → At E ad G 3 2 [(2, .int (i)), (0, .ref (ad 16)), (1, .int (p))] [] σ := by
    intro n
    induction n with
    | zero =>
      intro i hi hm
      exact absurd hm (by omega)
    | succ n ih =>
      intro i hi hm
      have ih_2 := ih
      clear ih
      refine r_iload_n C 0 dX3_holdsLive_2 rfl rfl ?_
      refine r_aload_n C 1 dX3_holdsLive_3 rfl rfl ?_
      refine r_get C (k := 16) (v := .int (σ 16 8)) f_X3_36 (by decide) rfl rfl dX3_holdsLive_4 ?_
      refine r_icmp_ge C 38 dX3_holdsLive_7 (by decide) (fun c_1 => ?_) (fun c_1 => ?_)
      · -- to 38
        refine r_iconst C (0) dX3_holdsLive_38 (by decide) ?_
        exact r_zret C T dX3_holdsLive_39 (by omega) (⟨rfl, by omega, fun _ => k_0⟩)
      · -- to 10
        refine r_aload_n C 1 dX3_holdsLive_10 rfl rfl ?_
        refine r_get C (k := 16) (v := .ref (ad 20)) f_X3_21 (by decide) rfl rfl dX3_holdsLive_11 ?_
        refine r_iload_n C 0 dX3_holdsLive_14 rfl rfl ?_
        refine r_iald C (k := 20) (by decide) rfl (by omega) (σ 20 ((i : Int32).toInt.toNat)) rfl dX3_holdsLive_15 ?_
        refine r_iconst C (3) dX3_holdsLive_16 (by decide) ?_
        refine r_icmp_ne C 32 dX3_holdsLive_17 (by decide) (fun c_3 => ?_) (fun c_3 => ?_)
        · -- to 32
          refine r_iinc C 0 (fun z => [(2, .int (z)), (0, .ref (ad 16)), (1, .int (p))]) dX3_holdsLive_32 rfl (by decide) (by decide) (by omega) (fun _ => rfl) (fun z_4 hz_5 => ?_)
          refine r_goto C 2 dX3_holdsLive_35 (by decide) ?_
          exact At.sub [0, 1, 2] rfl (ih_2 (z_4 : Int32) (by omega) (by omega))
        · -- to 20
          refine r_aload_n C 1 dX3_holdsLive_20 rfl rfl ?_
          refine r_get C (k := 16) (v := .ref (ad 21)) f_X3_24 (by decide) rfl rfl dX3_holdsLive_21 ?_
          refine r_iload_n C 0 dX3_holdsLive_24 rfl rfl ?_
          refine r_iald C (k := 21) (by decide) rfl (by omega) (σ 21 ((i : Int32).toInt.toNat)) rfl dX3_holdsLive_25 ?_
          refine r_iload_n C 2 dX3_holdsLive_26 rfl rfl ?_
          refine r_icmp_ne C 32 dX3_holdsLive_27 (by decide) (fun c_7 => ?_) (fun c_7 => ?_)
          · -- to 32
            refine r_iinc C 0 (fun z => [(2, .int (z)), (0, .ref (ad 16)), (1, .int (p))]) dX3_holdsLive_32 rfl (by decide) (by decide) (by omega) (fun _ => rfl) (fun z_8 hz_9 => ?_)
            refine r_goto C 2 dX3_holdsLive_35 (by decide) ?_
            exact At.sub [0, 1, 2] rfl (ih_2 (z_8 : Int32) (by omega) (by omega))
          · -- to 30
            refine r_iconst C (1) dX3_holdsLive_30 (by decide) ?_
            exact r_zret C T dX3_holdsLive_31 (by omega) (⟨rfl, by omega, fun h => absurd h (by omega)⟩)
  exact At.sub [0, 1, 2] rfl (L_2 ((7 - (0 : Int32).toInt).toNat + 1) (0 : Int32) (by omega) (by omega))
set_option maxHeartbeats 4000000 in
set_option maxRecDepth 100000 in
theorem c_X0_isOn (E : Ev) (ad : Nat → Nat) (σ : Sg) (p : Int32)  : Ct E ad yX0_isOn cX0_isOn 2 (some .boolean) 1 [.ref (ad 25), .int p] σ (fun r τ => τ = σ ∧ (r.toInt = 0 ∨ r.toInt = 1) ∧ (σ 25 0 = 255 → 0 ≤ p.toInt ∧ p.toInt < 8 → r.toInt = 1)) := by
  have k_0 : (0 : Int32).toInt = 0 := by decide
  have k_1 : (1 : Int32).toInt = 1 := by decide
  refine ct_of RX0 rfl (by decide +kernel) [(0, .ref (ad 25)), (1, .int (p))] rfl (Nat.le_of_ble_eq_true rfl) (fun G C T => ?_)
  refine r_iload_n C 1 dX0_isOn_0 rfl rfl ?_
  refine r_callSN C (n := 1) [.int (p)] [] (c_X8_isMan E ad σ (p)) C.f.2.2.2.2.2.2 ln_isMan (by decide +kernel) (by decide) (by decide) rfl rfl (Nat.le_of_ble_eq_true rfl) dX0_isOn_1 (fun r_1 τ_2 h_3 => ?_)
  obtain ⟨eh_3, h_3⟩ := h_3
  obtain rfl := eh_3.symm
  refine r_if_eq C 22 dX0_isOn_4 (by decide) (fun c_4 => ?_) (fun c_4 => ?_)
  · -- to 22
    refine r_iconst C (0) dX0_isOn_22 (by decide) ?_
    exact r_zret C T dX0_isOn_23 (by omega) (⟨rfl, by omega, fun h hh => absurd hh (by omega)⟩)
  · -- to 7
    refine r_aload_n C 0 dX0_isOn_7 rfl rfl ?_
    refine r_get C (k := 25) (v := .int (σ 25 0)) f_X0_9 (by decide) rfl rfl dX0_isOn_8 ?_
    refine r_iload_n C 1 dX0_isOn_11 rfl rfl ?_
    refine r_ishr C dX0_isOn_12 ?_
    refine r_nm (P := fun z => z = (σ 25 0 : Int32) >>> ((p : Int32) &&& 31)) rfl (fun z_5 hz_6 => ?_)
    refine r_iconst C (1) dX0_isOn_13 (by decide) ?_
    refine r_iand C dX0_isOn_14 ?_
    refine r_nm (P := fun z => z = (z_5 : Int32) &&& (1)) rfl (fun z_7 hz_8 => ?_)
    refine r_if_eq C 22 dX0_isOn_15 (by decide) (fun c_9 => ?_) (fun c_9 => ?_)
    · -- to 22
      refine r_iconst C (0) dX0_isOn_22 (by decide) ?_
      exact r_zret C T dX0_isOn_23 (by omega) (⟨rfl, by omega, fun h hh => by first | exact k_1 | (have t := ta_on hh; rw [hz_8, hz_6, h] at c_9; omega)⟩)
    · -- to 18
      refine r_iconst C (1) dX0_isOn_18 (by decide) ?_
      refine r_goto C 23 dX0_isOn_19 (by decide) ?_
      exact r_zret C T dX0_isOn_23 (by omega) (⟨rfl, by omega, fun h hh => by first | exact k_1 | (have t := ta_on hh; rw [hz_8, hz_6, h] at c_9; omega)⟩)
set_option maxHeartbeats 4000000 in
set_option maxRecDepth 100000 in
theorem c_X0_tellShift (E : Ev) (ad : Nat → Nat) (σ : Sg) (p : Int32) (q : Int32)  : CtV E ad yX0_tellShift cX0_tellShift 3 0 [.ref (ad 25), .int p, .int q] σ (fun τ => ∃ v, τ = sUp σ 25 0 v) := by
  have k_m1 : (-1 : Int32).toInt = -1 := by decide
  have k_1 : (1 : Int32).toInt = 1 := by decide
  refine ctv_of RX0 rfl (by decide +kernel) [(0, .ref (ad 25)), (1, .int (p)), (2, .int (q))] rfl (Nat.le_of_ble_eq_true rfl) (fun G C T => ?_)
  refine r_aload_n C 0 dX0_tellShift_0 rfl rfl ?_
  refine r_iload_n C 2 dX0_tellShift_1 rfl rfl ?_
  refine r_if_eq C 16 dX0_tellShift_2 (by decide) (fun c_1 => ?_) (fun c_1 => ?_)
  · -- to 16
    refine r_aload_n C 0 dX0_tellShift_16 rfl rfl ?_
    refine r_get C (k := 25) (v := .int (σ 25 0)) f_X0_9 (by decide) rfl rfl dX0_tellShift_17 ?_
    refine r_iconst C (1) dX0_tellShift_20 (by decide) ?_
    refine r_iload_n C 1 dX0_tellShift_21 rfl rfl ?_
    refine r_ishl C dX0_tellShift_22 ?_
    refine r_nm (P := fun z => z = (1 : Int32) <<< ((p : Int32) &&& 31)) rfl (fun z_2 hz_3 => ?_)
    refine r_iconst C (-1) dX0_tellShift_23 (by decide) ?_
    refine r_ixor C dX0_tellShift_24 ?_
    refine r_nm (P := fun z => z = (z_2 : Int32) ^^^ ((-1))) rfl (fun z_4 hz_5 => ?_)
    refine r_iand C dX0_tellShift_25 ?_
    refine r_nm (P := fun z => z = (σ 25 0 : Int32) &&& (z_4)) rfl (fun z_6 hz_7 => ?_)
    refine r_put C (k := 25) pf_X0_9 (by decide) (fun _ => rfl) (fun _ => Nat.le_of_ble_eq_true rfl) (fun _ _ => rfl) dX0_tellShift_26 ?_
    exact r_vret C T dX0_tellShift_29 (⟨_, rfl⟩)
  · -- to 5
    refine r_aload_n C 0 dX0_tellShift_5 rfl rfl ?_
    refine r_get C (k := 25) (v := .int (σ 25 0)) f_X0_9 (by decide) rfl rfl dX0_tellShift_6 ?_
    refine r_iconst C (1) dX0_tellShift_9 (by decide) ?_
    refine r_iload_n C 1 dX0_tellShift_10 rfl rfl ?_
    refine r_ishl C dX0_tellShift_11 ?_
    refine r_nm (P := fun z => z = (1 : Int32) <<< ((p : Int32) &&& 31)) rfl (fun z_8 hz_9 => ?_)
    refine r_ior C dX0_tellShift_12 ?_
    refine r_nm (P := fun z => z = (σ 25 0 : Int32) ||| (z_8)) rfl (fun z_10 hz_11 => ?_)
    refine r_goto C 26 dX0_tellShift_13 (by decide) ?_
    refine r_put C (k := 25) pf_X0_9 (by decide) (fun _ => rfl) (fun _ => Nat.le_of_ble_eq_true rfl) (fun _ _ => rfl) dX0_tellShift_26 ?_
    exact r_vret C T dX0_tellShift_29 (⟨_, rfl⟩)
set_option maxHeartbeats 4000000 in
set_option maxRecDepth 100000 in
theorem c_X0_insideFor (E : Ev) (ad : Nat → Nat) (σ : Sg) (p : Int32)  : Ct E ad yX0_insideFor cX0_insideFor 4 (some .int) 0 [.ref (ad 25), .int p] σ (fun r τ => τ = σ ∧ 0 ≤ r.toInt ∧ r.toInt ≤ 8 ∧ ((∀ j, j < 8 → (σ 26 j).toInt = -1) → p.toInt = -1 → r.toInt = 8)) := by
  have k_0 : (0 : Int32).toInt = 0 := by decide
  have k_1 : (1 : Int32).toInt = 1 := by decide
  have k_8 : (8 : Int32).toInt = 8 := by decide
  refine ct_of RX0 rfl (by decide +kernel) [(0, .ref (ad 25)), (1, .int (p))] rfl (Nat.le_of_ble_eq_true rfl) (fun G C T => ?_)
  refine r_iconst C (0) dX0_insideFor_0 (by decide) ?_
  refine r_istore_n C [(2, .int (0)), (0, .ref (ad 25)), (1, .int (p))] dX0_insideFor_1 rfl (by decide) rfl ?_
  refine r_iconst C (0) dX0_insideFor_2 (by decide) ?_
  refine r_istore_n C [(3, .int (0)), (2, .int (0)), (0, .ref (ad 25)), (1, .int (p))] dX0_insideFor_3 rfl (by decide) rfl ?_
  have L_4 : ∀ (n : Nat), ∀ (a : Int32) (i : Int32), (0 ≤ i.toInt ∧ i.toInt ≤ 8) → (0 ≤ a.toInt ∧ a.toInt ≤ i.toInt) → ((∀ j, j < 8 → (σ 26 j).toInt = -1) → p.toInt = -1 → a.toInt = i.toInt) → 8 - i.toInt < (n : Int) → At E ad G 4 4 [(3, .int (i)), (2, .int (a)), (0, .ref (ad 25)), (1, .int (p))] [] σ := by
    intro n
    induction n with
    | zero =>
      intro a i hi hb hf hm
      exact absurd hm (by omega)
    | succ n ih =>
      intro a i hi hb hf hm
      have ih_4 := ih
      clear ih
      refine r_iload_n C 0 dX0_insideFor_4 rfl rfl ?_
      refine r_bipush C (8) dX0_insideFor_5 (by decide) ?_
      refine r_icmp_ge C 34 dX0_insideFor_7 (by decide) (fun c_1 => ?_) (fun c_1 => ?_)
      · -- to 34
        refine r_iload_n C 1 dX0_insideFor_34 rfl rfl ?_
        exact r_iret C T dX0_insideFor_35 (⟨rfl, by omega, by omega, fun h1 h2 => by have t := hf h1 h2; omega⟩)
      · -- to 10
        refine r_iload_n C 1 dX0_insideFor_10 rfl rfl ?_
        refine r_aload_n C 2 dX0_insideFor_11 rfl rfl ?_
        refine r_get C (k := 25) (v := .ref (ad 26)) f_X0_15 (by decide) rfl rfl dX0_insideFor_12 ?_
        refine r_iload_n C 0 dX0_insideFor_15 rfl rfl ?_
        refine r_iald C (k := 26) (by decide) rfl (by omega) (σ 26 ((i : Int32).toInt.toNat)) rfl dX0_insideFor_16 ?_
        refine r_iload_n C 3 dX0_insideFor_17 rfl rfl ?_
        refine r_icmp_ne C 25 dX0_insideFor_18 (by decide) (fun c_3 => ?_) (fun c_3 => ?_)
        · -- to 25
          refine r_iconst C (0) dX0_insideFor_25 (by decide) ?_
          refine r_iadd C dX0_insideFor_26 ?_
          refine r_nm (P := fun z => z.toInt = (a : Int32).toInt + (0 : Int32).toInt ∧ z = (a) + (0)) ⟨ta_add (by omega), rfl⟩ (fun z_4 hz_5 => ?_)
          refine r_istore_n C [(2, .int (z_4)), (3, .int (i)), (0, .ref (ad 25)), (1, .int (p))] dX0_insideFor_27 rfl (by decide) rfl ?_
          refine r_iinc C 1 (fun z => [(3, .int (z)), (2, .int (z_4)), (0, .ref (ad 25)), (1, .int (p))]) dX0_insideFor_28 rfl (by decide) (by decide) (by omega) (fun _ => rfl) (fun z_6 hz_7 => ?_)
          refine r_goto C 4 dX0_insideFor_31 (by decide) ?_
          exact At.sub [0, 1, 2, 3] rfl (ih_4 (z_4 : Int32) (z_6 : Int32) (by omega) (by omega) (fun h1 h2 => by have t := hf h1 h2; have t2 := h1 (i : Int32).toInt.toNat (by omega); omega) (by omega))
        · -- to 21
          refine r_iconst C (1) dX0_insideFor_21 (by decide) ?_
          refine r_goto C 26 dX0_insideFor_22 (by decide) ?_
          refine r_iadd C dX0_insideFor_26 ?_
          refine r_nm (P := fun z => z.toInt = (a : Int32).toInt + (1 : Int32).toInt ∧ z = (a) + (1)) ⟨ta_add (by omega), rfl⟩ (fun z_8 hz_9 => ?_)
          refine r_istore_n C [(2, .int (z_8)), (3, .int (i)), (0, .ref (ad 25)), (1, .int (p))] dX0_insideFor_27 rfl (by decide) rfl ?_
          refine r_iinc C 1 (fun z => [(3, .int (z)), (2, .int (z_8)), (0, .ref (ad 25)), (1, .int (p))]) dX0_insideFor_28 rfl (by decide) (by decide) (by omega) (fun _ => rfl) (fun z_10 hz_11 => ?_)
          refine r_goto C 4 dX0_insideFor_31 (by decide) ?_
          exact At.sub [0, 1, 2, 3] rfl (ih_4 (z_8 : Int32) (z_10 : Int32) (by omega) (by omega) (fun h1 h2 => by have t := hf h1 h2; have t2 := h1 (i : Int32).toInt.toNat (by omega); omega) (by omega))
  exact At.sub [0, 1, 2, 3] rfl (L_4 ((8 - (0 : Int32).toInt).toNat + 1) (0 : Int32) (0 : Int32) (by omega) (by omega) (fun _ _ => rfl) (by omega))
set_option maxHeartbeats 4000000 in
set_option maxRecDepth 100000 in
theorem c_X0_allInside (E : Ev) (ad : Nat → Nat) (σ : Sg)   : Ct E ad yX0_allInside cX0_allInside 1 (some .int) 1 [.ref (ad 25)] σ (fun r τ => τ = σ ∧ 0 ≤ r.toInt ∧ r.toInt ≤ 8 ∧ ((∀ j, j < 8 → (σ 26 j).toInt = -1) → r.toInt = 0)) := by
  have k_m1 : (-1 : Int32).toInt = -1 := by decide
  have k_8 : (8 : Int32).toInt = 8 := by decide
  refine ct_of RX0 rfl (by decide +kernel) [(0, .ref (ad 25))] rfl (Nat.le_of_ble_eq_true rfl) (fun G C T => ?_)
  refine r_bipush C (8) dX0_allInside_0 (by decide) ?_
  refine r_aload_n C 0 dX0_allInside_2 rfl rfl ?_
  refine r_iconst C (-1) dX0_allInside_3 (by decide) ?_
  refine r_callV C (k := 25) [.int ((-1))] [.int (8)] (c_X0_insideFor E ad σ  ((-1)) ) lv_X0_23 (by decide) rfl rfl (by decide) (by decide) rfl rfl (Nat.le_of_ble_eq_true rfl) dX0_allInside_4 (fun r_1 τ_2 h_3 => ?_)
  obtain ⟨eh_3, h_3⟩ := h_3
  obtain rfl := eh_3.symm
  refine r_isub C dX0_allInside_7 ?_
  refine r_nm (P := fun z => z.toInt = (8 : Int32).toInt - (r_1 : Int32).toInt ∧ z = (8) - (r_1)) ⟨ta_sub (by omega), rfl⟩ (fun z_4 hz_5 => ?_)
  exact r_iret C T dX0_allInside_8 (⟨rfl, by omega, by omega, fun h => by have t := h_3.2.2 h (by omega); omega⟩)
set_option maxHeartbeats 4000000 in
set_option maxRecDepth 100000 in
theorem c_X0_comeOut (E : Ev) (ad : Nat → Nat) (σ : Sg)   : Ct E ad yX0_comeOut cX0_comeOut 3 (some .int) 2 [.ref (ad 25)] σ (fun r τ => Off [26] σ τ ∧ ((∀ j, j < 8 → (σ 26 j).toInt = -1) → r.toInt = 0)) := by
  have k_m1 : (-1 : Int32).toInt = -1 := by decide
  have k_0 : (0 : Int32).toInt = 0 := by decide
  have k_8 : (8 : Int32).toInt = 8 := by decide
  refine ct_of RX0 rfl (by decide +kernel) [(0, .ref (ad 25))] rfl (Nat.le_of_ble_eq_true rfl) (fun G C T => ?_)
  refine r_aload_n C 0 dX0_comeOut_0 rfl rfl ?_
  refine r_callV C (k := 25) [] [] (c_X0_allInside E ad σ   ) lv_X0_27 (by decide) rfl rfl (by decide) (by decide) rfl rfl (Nat.le_of_ble_eq_true rfl) dX0_comeOut_1 (fun r_1 τ_2 h_3 => ?_)
  obtain ⟨eh_3, h_3⟩ := h_3
  obtain rfl := eh_3.symm
  refine r_istore_n C [(1, .int (r_1)), (0, .ref (ad 25))] dX0_comeOut_4 rfl (by decide) rfl ?_
  refine r_iconst C (0) dX0_comeOut_5 (by decide) ?_
  refine r_istore_n C [(2, .int (0)), (1, .int (r_1)), (0, .ref (ad 25))] dX0_comeOut_6 rfl (by decide) rfl ?_
  have L_7 : ∀ (n : Nat), ∀ (τ1 : Sg) (i : Int32), (0 ≤ i.toInt ∧ i.toInt ≤ 8) → (Off [26] σ τ1) → 8 - i.toInt < (n : Int) → At E ad G 3 7 [(2, .int (i)), (1, .int (r_1)), (0, .ref (ad 25))] [] τ1 := by
    intro n
    induction n with
    | zero =>
      intro τ1 i hi ho hm
      exact absurd hm (by omega)
    | succ n ih =>
      intro τ1 i hi ho hm
      have ih_7 := ih
      clear ih
      refine r_iload_n C 0 dX0_comeOut_7 rfl rfl ?_
      refine r_bipush C (8) dX0_comeOut_8 (by decide) ?_
      refine r_icmp_ge C 26 dX0_comeOut_10 (by decide) (fun c_4 => ?_) (fun c_4 => ?_)
      · -- to 26
        refine r_iload_n C 1 dX0_comeOut_26 rfl rfl ?_
        exact r_iret C T dX0_comeOut_27 (⟨ho, fun h => (h_3).2.2 h⟩)
      · -- to 13
        refine r_aload_n C 2 dX0_comeOut_13 rfl rfl ?_
        refine r_get C (k := 25) (v := .ref (ad 26)) f_X0_15 (by decide) rfl rfl dX0_comeOut_14 ?_
        refine r_iload_n C 0 dX0_comeOut_17 rfl rfl ?_
        refine r_iconst C (-1) dX0_comeOut_18 (by decide) ?_
        refine r_iast C (k := 26) (by decide) (fun _ => rfl) (by omega) dX0_comeOut_19 ?_
        refine r_iinc C 0 (fun z => [(2, .int (z)), (1, .int (r_1)), (0, .ref (ad 25))]) dX0_comeOut_20 rfl (by decide) (by decide) (by omega) (fun _ => rfl) (fun z_5 hz_6 => ?_)
        refine r_goto C 7 dX0_comeOut_23 (by decide) ?_
        exact At.sub [0, 1, 2] rfl (ih_7 (sUp τ1 26 ((i : Int32).toInt.toNat) ((-1))) (z_5 : Int32) (by omega) (ho.up (by decide)) (by omega))
  exact At.sub [0, 1, 2] rfl (L_7 ((8 - (0 : Int32).toInt).toNat + 1) σ (0 : Int32) (by omega) Off.rf (by omega))
set_option maxHeartbeats 4000000 in
set_option maxRecDepth 100000 in
theorem c_X1_keep (E : Ev) (ad : Nat → Nat) (σ : Sg) (p : Int32) (q : Int32) (u : Int32) (v : Int32) (hk : 0 ≤ p.toInt ∧ p.toInt ≤ 301 ∧ q.toInt ≤ 301) : CtV E ad yX1_keep cX1_keep 6 0 [.ref (ad 29), .int p, .int q, .int u, .int v] σ (fun τ => Off [30, 31] σ τ) := by
  refine ctv_of RX1 rfl (by decide +kernel) [(0, .ref (ad 29)), (1, .int (p)), (2, .int (q)), (3, .int (u)), (4, .int (v))] rfl (Nat.le_of_ble_eq_true rfl) (fun G C T => ?_)
  refine r_iload_n C 1 dX1_keep_0 rfl rfl ?_
  refine r_istore C [(5, .int (p)), (0, .ref (ad 29)), (1, .int (p)), (2, .int (q)), (3, .int (u)), (4, .int (v))] dX1_keep_1 (by decide) rfl ?_
  have L_3 : ∀ (n : Nat), ∀ (τ1 : Sg) (i : Int32), (0 ≤ i.toInt ∧ i.toInt ≤ 301) → (Off [30, 31] σ τ1) → 302 - i.toInt < (n : Int) → At E ad G 6 3 [(5, .int (i)), (0, .ref (ad 29)), (1, .int (p)), (2, .int (q)), (3, .int (u)), (4, .int (v))] [] τ1 := by
    intro n
    induction n with
    | zero =>
      intro τ1 i hi ho hm
      exact absurd hm (by omega)
    | succ n ih =>
      intro τ1 i hi ho hm
      have ih_3 := ih
      clear ih
      refine r_iload C 0 dX1_keep_3 rfl ?_
      refine r_iload_n C 3 dX1_keep_5 rfl rfl ?_
      refine r_icmp_ge C 32 dX1_keep_6 (by decide) (fun c_1 => ?_) (fun c_1 => ?_)
      · -- to 32
        exact r_vret C T dX1_keep_32 (ho)
      · -- to 9
        refine r_aload_n C 1 dX1_keep_9 rfl rfl ?_
        refine r_get C (k := 29) (v := .ref (ad 30)) f_X1_9 (by decide) rfl rfl dX1_keep_10 ?_
        refine r_iload C 0 dX1_keep_13 rfl ?_
        refine r_iload_n C 4 dX1_keep_15 rfl rfl ?_
        refine r_iast C (k := 30) (by decide) (fun _ => rfl) (by omega) dX1_keep_16 ?_
        refine r_aload_n C 1 dX1_keep_17 rfl rfl ?_
        refine r_get C (k := 29) (v := .ref (ad 31)) f_X1_15 (by decide) rfl rfl dX1_keep_18 ?_
        refine r_iload C 0 dX1_keep_21 rfl ?_
        refine r_iload C 5 dX1_keep_23 rfl ?_
        refine r_iast C (k := 31) (by decide) (fun _ => rfl) (by omega) dX1_keep_25 ?_
        refine r_iinc C 0 (fun z => [(5, .int (z)), (0, .ref (ad 29)), (1, .int (p)), (2, .int (q)), (3, .int (u)), (4, .int (v))]) dX1_keep_26 rfl (by decide) (by decide) (by omega) (fun _ => rfl) (fun z_2 hz_3 => ?_)
        refine r_goto C 3 dX1_keep_29 (by decide) ?_
        exact At.sub [0, 1, 2, 3, 4, 5] rfl (ih_3 (sUp (sUp τ1 30 ((i : Int32).toInt.toNat) (u)) 31 ((i : Int32).toInt.toNat) (v)) (z_2 : Int32) (by omega) ((ho.up (by decide)).up (by decide)) (by omega))
  exact At.sub [0, 1, 2, 3, 4, 5] rfl (L_3 ((302 - (p : Int32).toInt).toNat + 1) σ (p : Int32) (by omega) Off.rf (by omega))
set_option maxHeartbeats 4000000 in
set_option maxRecDepth 100000 in
theorem c_X6_has (E : Ev) (ad : Nat → Nat) (σ : Sg) (p : Int32)  : Ct E ad yX6_has cX6_has 2 (some .boolean) 0 [.ref (ad 9), .int p] σ (fun r τ => τ = σ ∧ ((r.toInt = 1 ∧ 0 ≤ p.toInt ∧ p.toInt < (σ 9 6).toInt) ∨ (r.toInt = 0 ∧ ¬ (0 ≤ p.toInt ∧ p.toInt < (σ 9 6).toInt)))) := by
  have k_0 : (0 : Int32).toInt = 0 := by decide
  have k_1 : (1 : Int32).toInt = 1 := by decide
  refine ct_of RX6 rfl (by decide +kernel) [(0, .ref (ad 9)), (1, .int (p))] rfl (Nat.le_of_ble_eq_true rfl) (fun G C T => ?_)
  refine r_iload_n C 1 dX6_has_0 rfl rfl ?_
  refine r_if_lt C 16 dX6_has_1 (by decide) (fun c_1 => ?_) (fun c_1 => ?_)
  · -- to 16
    refine r_iconst C (0) dX6_has_16 (by decide) ?_
    exact r_zret C T dX6_has_17 (by omega) (⟨rfl, by omega⟩)
  · -- to 4
    refine r_iload_n C 1 dX6_has_4 rfl rfl ?_
    refine r_aload_n C 0 dX6_has_5 rfl rfl ?_
    refine r_get C (k := 9) (v := .int (σ 9 6)) f_X6_30 (by decide) rfl rfl dX6_has_6 ?_
    refine r_icmp_ge C 16 dX6_has_9 (by decide) (fun c_2 => ?_) (fun c_2 => ?_)
    · -- to 16
      refine r_iconst C (0) dX6_has_16 (by decide) ?_
      exact r_zret C T dX6_has_17 (by omega) (⟨rfl, by omega⟩)
    · -- to 12
      refine r_iconst C (1) dX6_has_12 (by decide) ?_
      refine r_goto C 17 dX6_has_13 (by decide) ?_
      exact r_zret C T dX6_has_17 (by omega) (⟨rfl, by omega⟩)
set_option maxHeartbeats 4000000 in
set_option maxRecDepth 100000 in
theorem c_X6_write (E : Ev) (ad : Nat → Nat) (σ : Sg) (q : Int32) (hc : 0 ≤ (σ 9 6).toInt ∧ (σ 9 6).toInt < 12) : Ct E ad yX6_write cX6_write 4 (some .int) 0 [.ref (ad 9), .ref (ad 27), .int q] σ (fun r τ => Off [9, 10, 11, 12, 13, 14, 15] σ τ ∧ (τ 9 6).toInt = (σ 9 6).toInt + 1) := by
  have k_m3 : (-3 : Int32).toInt = -3 := by decide
  have k_1 : (1 : Int32).toInt = 1 := by decide
  refine ct_of RX6 rfl (by decide +kernel) [(0, .ref (ad 9)), (1, .ref (ad 27)), (2, .int (q))] rfl (Nat.le_of_ble_eq_true rfl) (fun G C T => ?_)
  refine r_aload_n C 0 dX6_write_0 rfl rfl ?_
  refine r_get C (k := 9) (v := .int (σ 9 6)) f_X6_30 (by decide) rfl rfl dX6_write_1 ?_
  refine r_istore_n C [(3, .int (σ 9 6)), (0, .ref (ad 9)), (1, .ref (ad 27)), (2, .int (q))] dX6_write_4 rfl (by decide) rfl ?_
  refine r_aload_n C 1 dX6_write_5 rfl rfl ?_
  refine r_get C (k := 9) (v := .ref (ad 10)) f_X6_9 (by decide) rfl rfl dX6_write_6 ?_
  refine r_iload_n C 0 dX6_write_9 rfl rfl ?_
  refine r_aload_n C 2 dX6_write_10 rfl rfl ?_
  refine r_get C (k := 27) (v := .int (σ 27 2)) f_X6_34 (by decide) rfl rfl dX6_write_11 ?_
  refine r_iast C (k := 10) (by decide) (fun _ => rfl) (by omega) dX6_write_14 ?_
  refine r_aload_n C 1 dX6_write_15 rfl rfl ?_
  refine r_get C (k := 9) (v := .ref (ad 11)) f_X6_15 (by decide) rfl rfl dX6_write_16 ?_
  refine r_iload_n C 0 dX6_write_19 rfl rfl ?_
  refine r_aload_n C 2 dX6_write_20 rfl rfl ?_
  refine r_get C (k := 27) (v := .int (σ 27 3)) f_X6_38 (by decide) rfl rfl dX6_write_21 ?_
  refine r_iast C (k := 11) (by decide) (fun _ => rfl) (by omega) dX6_write_24 ?_
  refine r_aload_n C 1 dX6_write_25 rfl rfl ?_
  refine r_get C (k := 9) (v := .ref (ad 12)) f_X6_18 (by decide) rfl rfl dX6_write_26 ?_
  refine r_iload_n C 0 dX6_write_29 rfl rfl ?_
  refine r_aload_n C 2 dX6_write_30 rfl rfl ?_
  refine r_get C (k := 27) (v := .int (σ 27 4)) f_X6_40 (by decide) rfl rfl dX6_write_31 ?_
  refine r_iast C (k := 12) (by decide) (fun _ => rfl) (by omega) dX6_write_34 ?_
  refine r_aload_n C 1 dX6_write_35 rfl rfl ?_
  refine r_get C (k := 9) (v := .ref (ad 13)) f_X6_21 (by decide) rfl rfl dX6_write_36 ?_
  refine r_iload_n C 0 dX6_write_39 rfl rfl ?_
  refine r_aload_n C 2 dX6_write_40 rfl rfl ?_
  refine r_get C (k := 27) (v := .int (σ 27 5)) f_X6_42 (by decide) rfl rfl dX6_write_41 ?_
  refine r_iast C (k := 13) (by decide) (fun _ => rfl) (by omega) dX6_write_44 ?_
  refine r_aload_n C 1 dX6_write_45 rfl rfl ?_
  refine r_get C (k := 9) (v := .ref (ad 14)) f_X6_24 (by decide) rfl rfl dX6_write_46 ?_
  refine r_iload_n C 0 dX6_write_49 rfl rfl ?_
  refine r_iload_n C 3 dX6_write_50 rfl rfl ?_
  refine r_iast C (k := 14) (by decide) (fun _ => rfl) (by omega) dX6_write_51 ?_
  refine r_aload_n C 1 dX6_write_52 rfl rfl ?_
  refine r_get C (k := 9) (v := .ref (ad 15)) f_X6_27 (by decide) rfl rfl dX6_write_53 ?_
  refine r_iload_n C 0 dX6_write_56 rfl rfl ?_
  refine r_bipush C (-3) dX6_write_57 (by decide) ?_
  refine r_iast C (k := 15) (by decide) (fun _ => rfl) (by omega) dX6_write_59 ?_
  refine r_aload_n C 1 dX6_write_60 rfl rfl ?_
  refine r_dup C dX6_write_61 rfl ?_
  refine r_get C (k := 9) (v := .int (σ 9 6)) f_X6_30 (by decide) rfl rfl dX6_write_62 ?_
  refine r_iconst C (1) dX6_write_65 (by decide) ?_
  refine r_iadd C dX6_write_66 ?_
  refine r_nm (P := fun z => z.toInt = (σ 9 6 : Int32).toInt + (1 : Int32).toInt ∧ z = (σ 9 6) + (1)) ⟨ta_add (by omega), rfl⟩ (fun z_1 hz_2 => ?_)
  refine r_put C (k := 9) pf_X6_30 (by decide) (fun _ => rfl) (fun _ => Nat.le_of_ble_eq_true rfl) (fun _ _ => rfl) dX6_write_67 ?_
  refine r_iload_n C 0 dX6_write_70 rfl rfl ?_
  exact r_iret C T dX6_write_71 (⟨(((((((Off.rf.up (by decide)).up (by decide)).up (by decide)).up (by decide)).up (by decide)).up (by decide)).up (by decide)), hz_2.1⟩)
set_option maxHeartbeats 4000000 in
set_option maxRecDepth 100000 in
theorem c_X6_inForce (E : Ev) (ad : Nat → Nat) (σ : Sg) (p : Int32) (q : Int32) (hp : 0 ≤ p.toInt ∧ p.toInt < 12) : Ct E ad yX6_inForce cX6_inForce 3 (some .boolean) 0 [.ref (ad 9), .int p, .int q] σ (fun r τ => τ = σ ∧ (r.toInt = 0 ∨ r.toInt = 1)) := by
  have k_m3 : (-3 : Int32).toInt = -3 := by decide
  have k_0 : (0 : Int32).toInt = 0 := by decide
  have k_1 : (1 : Int32).toInt = 1 := by decide
  refine ct_of RX6 rfl (by decide +kernel) [(0, .ref (ad 9)), (1, .int (p)), (2, .int (q))] rfl (Nat.le_of_ble_eq_true rfl) (fun G C T => ?_)
  refine r_aload_n C 0 dX6_inForce_0 rfl rfl ?_
  refine r_get C (k := 9) (v := .ref (ad 14)) f_X6_24 (by decide) rfl rfl dX6_inForce_1 ?_
  refine r_iload_n C 1 dX6_inForce_4 rfl rfl ?_
  refine r_iald C (k := 14) (by decide) rfl (by omega) (σ 14 ((p : Int32).toInt.toNat)) rfl dX6_inForce_5 ?_
  refine r_iload_n C 2 dX6_inForce_6 rfl rfl ?_
  refine r_icmp_gt C 35 dX6_inForce_7 (by decide) (fun c_2 => ?_) (fun c_2 => ?_)
  · -- to 35
    refine r_iconst C (0) dX6_inForce_35 (by decide) ?_
    exact r_zret C T dX6_inForce_36 (by omega) (⟨rfl, by omega⟩)
  · -- to 10
    refine r_aload_n C 0 dX6_inForce_10 rfl rfl ?_
    refine r_get C (k := 9) (v := .ref (ad 15)) f_X6_27 (by decide) rfl rfl dX6_inForce_11 ?_
    refine r_iload_n C 1 dX6_inForce_14 rfl rfl ?_
    refine r_iald C (k := 15) (by decide) rfl (by omega) (σ 15 ((p : Int32).toInt.toNat)) rfl dX6_inForce_15 ?_
    refine r_bipush C (-3) dX6_inForce_16 (by decide) ?_
    refine r_icmp_eq C 31 dX6_inForce_18 (by decide) (fun c_4 => ?_) (fun c_4 => ?_)
    · -- to 31
      refine r_iconst C (1) dX6_inForce_31 (by decide) ?_
      refine r_goto C 36 dX6_inForce_32 (by decide) ?_
      exact r_zret C T dX6_inForce_36 (by omega) (⟨rfl, by omega⟩)
    · -- to 21
      refine r_iload_n C 2 dX6_inForce_21 rfl rfl ?_
      refine r_aload_n C 0 dX6_inForce_22 rfl rfl ?_
      refine r_get C (k := 9) (v := .ref (ad 15)) f_X6_27 (by decide) rfl rfl dX6_inForce_23 ?_
      refine r_iload_n C 1 dX6_inForce_26 rfl rfl ?_
      refine r_iald C (k := 15) (by decide) rfl (by omega) (σ 15 ((p : Int32).toInt.toNat)) rfl dX6_inForce_27 ?_
      refine r_icmp_ge C 35 dX6_inForce_28 (by decide) (fun c_6 => ?_) (fun c_6 => ?_)
      · -- to 35
        refine r_iconst C (0) dX6_inForce_35 (by decide) ?_
        exact r_zret C T dX6_inForce_36 (by omega) (⟨rfl, by omega⟩)
      · -- to 31
        refine r_iconst C (1) dX6_inForce_31 (by decide) ?_
        refine r_goto C 36 dX6_inForce_32 (by decide) ?_
        exact r_zret C T dX6_inForce_36 (by omega) (⟨rfl, by omega⟩)
set_option maxHeartbeats 4000000 in
set_option maxRecDepth 100000 in
theorem c_X6_speaksOf (E : Ev) (ad : Nat → Nat) (σ : Sg) (p : Int32) (q : Int32) (u : Int32) (v : Int32) (hp : 0 ≤ p.toInt ∧ p.toInt < 12) : Ct E ad yX6_speaksOf cX6_speaksOf 5 (some .boolean) 1 [.ref (ad 9), .int p, .int q, .int u, .int v] σ (fun r τ => τ = σ ∧ (r.toInt = 0 ∨ r.toInt = 1)) := by
  have k_0 : (0 : Int32).toInt = 0 := by decide
  have k_1 : (1 : Int32).toInt = 1 := by decide
  refine ct_of RX6 rfl (by decide +kernel) [(0, .ref (ad 9)), (1, .int (p)), (2, .int (q)), (3, .int (u)), (4, .int (v))] rfl (Nat.le_of_ble_eq_true rfl) (fun G C T => ?_)
  refine r_aload_n C 0 dX6_speaksOf_0 rfl rfl ?_
  refine r_get C (k := 9) (v := .ref (ad 10)) f_X6_9 (by decide) rfl rfl dX6_speaksOf_1 ?_
  refine r_iload_n C 1 dX6_speaksOf_4 rfl rfl ?_
  refine r_iald C (k := 10) (by decide) rfl (by omega) (σ 10 ((p : Int32).toInt.toNat)) rfl dX6_speaksOf_5 ?_
  refine r_iload_n C 2 dX6_speaksOf_6 rfl rfl ?_
  refine r_icmp_ne C 34 dX6_speaksOf_7 (by decide) (fun c_2 => ?_) (fun c_2 => ?_)
  · -- to 34
    refine r_iconst C (0) dX6_speaksOf_34 (by decide) ?_
    exact r_zret C T dX6_speaksOf_35 (by omega) (⟨rfl, by omega⟩)
  · -- to 10
    refine r_aload_n C 0 dX6_speaksOf_10 rfl rfl ?_
    refine r_get C (k := 9) (v := .ref (ad 11)) f_X6_15 (by decide) rfl rfl dX6_speaksOf_11 ?_
    refine r_iload_n C 1 dX6_speaksOf_14 rfl rfl ?_
    refine r_iald C (k := 11) (by decide) rfl (by omega) (σ 11 ((p : Int32).toInt.toNat)) rfl dX6_speaksOf_15 ?_
    refine r_iload_n C 3 dX6_speaksOf_16 rfl rfl ?_
    refine r_icmp_ne C 34 dX6_speaksOf_17 (by decide) (fun c_4 => ?_) (fun c_4 => ?_)
    · -- to 34
      refine r_iconst C (0) dX6_speaksOf_34 (by decide) ?_
      exact r_zret C T dX6_speaksOf_35 (by omega) (⟨rfl, by omega⟩)
    · -- to 20
      refine r_aload_n C 0 dX6_speaksOf_20 rfl rfl ?_
      refine r_iload_n C 1 dX6_speaksOf_21 rfl rfl ?_
      refine r_iload C 4 dX6_speaksOf_22 rfl ?_
      refine r_callV C (k := 9) [.int (p), .int (v)] [] (c_X6_inForce E ad σ  (p) (v) (by omega)) lv_X6_44 (by decide) rfl rfl (by decide) (by decide) rfl rfl (Nat.le_of_ble_eq_true rfl) dX6_speaksOf_24 (fun r_5 τ_6 h_7 => ?_)
      obtain ⟨eh_7, h_7⟩ := h_7
      obtain rfl := eh_7.symm
      refine r_if_eq C 34 dX6_speaksOf_27 (by decide) (fun c_8 => ?_) (fun c_8 => ?_)
      · -- to 34
        refine r_iconst C (0) dX6_speaksOf_34 (by decide) ?_
        exact r_zret C T dX6_speaksOf_35 (by omega) (⟨rfl, by omega⟩)
      · -- to 30
        refine r_iconst C (1) dX6_speaksOf_30 (by decide) ?_
        refine r_goto C 35 dX6_speaksOf_31 (by decide) ?_
        exact r_zret C T dX6_speaksOf_35 (by omega) (⟨rfl, by omega⟩)
set_option maxHeartbeats 4000000 in
set_option maxRecDepth 100000 in
theorem c_X6_doubledAt (E : Ev) (ad : Nat → Nat) (σ : Sg) (p : Int32) (hI : IC σ) : Ct E ad yX6_doubledAt cX6_doubledAt 4 (some .int) 1 [.ref (ad 9), .int p] σ (fun r τ => τ = σ ∧ True) := by
  have k_0 : (0 : Int32).toInt = 0 := by decide
  have k_1 : (1 : Int32).toInt = 1 := by decide
  have k_2 : (2 : Int32).toInt = 2 := by decide
  have hJ := hI
  unfold IC at hJ
  refine ct_of RX6 rfl (by decide +kernel) [(0, .ref (ad 9)), (1, .int (p))] rfl (Nat.le_of_ble_eq_true rfl) (fun G C T => ?_)
  refine r_iconst C (0) dX6_doubledAt_0 (by decide) ?_
  refine r_istore_n C [(2, .int (0)), (0, .ref (ad 9)), (1, .int (p))] dX6_doubledAt_1 rfl (by decide) rfl ?_
  refine r_iconst C (0) dX6_doubledAt_2 (by decide) ?_
  refine r_istore_n C [(3, .int (0)), (2, .int (0)), (0, .ref (ad 9)), (1, .int (p))] dX6_doubledAt_3 rfl (by decide) rfl ?_
  have L_4 : ∀ (n : Nat), ∀ (a : Int32) (i : Int32), (0 ≤ i.toInt ∧ i.toInt ≤ 12) → 12 - i.toInt < (n : Int) → At E ad G 4 4 [(3, .int (i)), (2, .int (a)), (0, .ref (ad 9)), (1, .int (p))] [] σ := by
    intro n
    induction n with
    | zero =>
      intro a i hi hm
      exact absurd hm (by omega)
    | succ n ih =>
      intro a i hi hm
      have ih_4 := ih
      clear ih
      refine r_iload_n C 0 dX6_doubledAt_4 rfl rfl ?_
      refine r_aload_n C 2 dX6_doubledAt_5 rfl rfl ?_
      refine r_get C (k := 9) (v := .int (σ 9 6)) f_X6_30 (by decide) rfl rfl dX6_doubledAt_6 ?_
      refine r_icmp_ge C 52 dX6_doubledAt_9 (by decide) (fun c_1 => ?_) (fun c_1 => ?_)
      · -- to 52
        refine r_iload_n C 1 dX6_doubledAt_52 rfl rfl ?_
        exact r_iret C T dX6_doubledAt_53 (⟨rfl, trivial⟩)
      · -- to 12
        refine r_iload_n C 1 dX6_doubledAt_12 rfl rfl ?_
        refine r_aload_n C 2 dX6_doubledAt_13 rfl rfl ?_
        refine r_get C (k := 9) (v := .ref (ad 10)) f_X6_9 (by decide) rfl rfl dX6_doubledAt_14 ?_
        refine r_iload_n C 0 dX6_doubledAt_17 rfl rfl ?_
        refine r_iald C (k := 10) (by decide) rfl (by omega) (σ 10 ((i : Int32).toInt.toNat)) rfl dX6_doubledAt_18 ?_
        refine r_iconst C (2) dX6_doubledAt_19 (by decide) ?_
        refine r_icmp_ne C 43 dX6_doubledAt_20 (by decide) (fun c_3 => ?_) (fun c_3 => ?_)
        · -- to 43
          refine r_iconst C (0) dX6_doubledAt_43 (by decide) ?_
          refine r_ior C dX6_doubledAt_44 ?_
          refine r_nm (P := fun z => z = (a : Int32) ||| (0)) rfl (fun z_4 hz_5 => ?_)
          refine r_istore_n C [(2, .int (z_4)), (3, .int (i)), (0, .ref (ad 9)), (1, .int (p))] dX6_doubledAt_45 rfl (by decide) rfl ?_
          refine r_iinc C 1 (fun z => [(3, .int (z)), (2, .int (z_4)), (0, .ref (ad 9)), (1, .int (p))]) dX6_doubledAt_46 rfl (by decide) (by decide) (by omega) (fun _ => rfl) (fun z_6 hz_7 => ?_)
          refine r_goto C 4 dX6_doubledAt_49 (by decide) ?_
          exact At.sub [0, 1, 2, 3] rfl (ih_4 (z_4 : Int32) (z_6 : Int32) (by omega) (by omega))
        · -- to 23
          refine r_aload_n C 2 dX6_doubledAt_23 rfl rfl ?_
          refine r_iload_n C 0 dX6_doubledAt_24 rfl rfl ?_
          refine r_iload_n C 3 dX6_doubledAt_25 rfl rfl ?_
          refine r_callV C (k := 9) [.int (i), .int (p)] [.int (a)] (c_X6_inForce E ad σ  (i) (p) (by omega)) lv_X6_44 (by decide) rfl rfl (by decide) (by decide) rfl rfl (Nat.le_of_ble_eq_true rfl) dX6_doubledAt_26 (fun r_8 τ_9 h_10 => ?_)
          obtain ⟨eh_10, h_10⟩ := h_10
          obtain rfl := eh_10.symm
          refine r_if_eq C 43 dX6_doubledAt_29 (by decide) (fun c_11 => ?_) (fun c_11 => ?_)
          · -- to 43
            refine r_iconst C (0) dX6_doubledAt_43 (by decide) ?_
            refine r_ior C dX6_doubledAt_44 ?_
            refine r_nm (P := fun z => z = (a : Int32) ||| (0)) rfl (fun z_12 hz_13 => ?_)
            refine r_istore_n C [(2, .int (z_12)), (3, .int (i)), (0, .ref (ad 9)), (1, .int (p))] dX6_doubledAt_45 rfl (by decide) rfl ?_
            refine r_iinc C 1 (fun z => [(3, .int (z)), (2, .int (z_12)), (0, .ref (ad 9)), (1, .int (p))]) dX6_doubledAt_46 rfl (by decide) (by decide) (by omega) (fun _ => rfl) (fun z_14 hz_15 => ?_)
            refine r_goto C 4 dX6_doubledAt_49 (by decide) ?_
            exact At.sub [0, 1, 2, 3] rfl (ih_4 (z_12 : Int32) (z_14 : Int32) (by omega) (by omega))
          · -- to 32
            refine r_iconst C (1) dX6_doubledAt_32 (by decide) ?_
            refine r_aload_n C 2 dX6_doubledAt_33 rfl rfl ?_
            refine r_get C (k := 9) (v := .ref (ad 11)) f_X6_15 (by decide) rfl rfl dX6_doubledAt_34 ?_
            refine r_iload_n C 0 dX6_doubledAt_37 rfl rfl ?_
            refine r_iald C (k := 11) (by decide) rfl (by omega) (σ 11 ((i : Int32).toInt.toNat)) rfl dX6_doubledAt_38 ?_
            refine r_ishl C dX6_doubledAt_39 ?_
            refine r_nm (P := fun z => z = (1 : Int32) <<< ((σ 11 ((i : Int32).toInt.toNat) : Int32) &&& 31)) rfl (fun z_17 hz_18 => ?_)
            refine r_goto C 44 dX6_doubledAt_40 (by decide) ?_
            refine r_ior C dX6_doubledAt_44 ?_
            refine r_nm (P := fun z => z = (a : Int32) ||| (z_17)) rfl (fun z_19 hz_20 => ?_)
            refine r_istore_n C [(2, .int (z_19)), (3, .int (i)), (0, .ref (ad 9)), (1, .int (p))] dX6_doubledAt_45 rfl (by decide) rfl ?_
            refine r_iinc C 1 (fun z => [(3, .int (z)), (2, .int (z_19)), (0, .ref (ad 9)), (1, .int (p))]) dX6_doubledAt_46 rfl (by decide) (by decide) (by omega) (fun _ => rfl) (fun z_21 hz_22 => ?_)
            refine r_goto C 4 dX6_doubledAt_49 (by decide) ?_
            exact At.sub [0, 1, 2, 3] rfl (ih_4 (z_19 : Int32) (z_21 : Int32) (by omega) (by omega))
  exact At.sub [0, 1, 2, 3] rfl (L_4 ((12 - (0 : Int32).toInt).toNat + 1) (0 : Int32) (0 : Int32) (by omega) (by omega))
set_option maxHeartbeats 4000000 in
set_option maxRecDepth 100000 in
theorem c_X6_barsBoth (E : Ev) (ad : Nat → Nat) (σ : Sg) (p : Int32) (q : Int32) (u : Int32) (v : Int32) (hI : IC σ) : Ct E ad yX6_barsBoth cX6_barsBoth 7 (some .boolean) 1 [.ref (ad 9), .int p, .int q, .int u, .int v] σ (fun r τ => τ = σ ∧ (r.toInt = 0 ∨ r.toInt = 1)) := by
  have k_m3 : (-3 : Int32).toInt = -3 := by decide
  have k_0 : (0 : Int32).toInt = 0 := by decide
  have k_1 : (1 : Int32).toInt = 1 := by decide
  have hJ := hI
  unfold IC at hJ
  refine ct_of RX6 rfl (by decide +kernel) [(0, .ref (ad 9)), (1, .int (p)), (2, .int (q)), (3, .int (u)), (4, .int (v))] rfl (Nat.le_of_ble_eq_true rfl) (fun G C T => ?_)
  refine r_iload_n C 3 dX6_barsBoth_0 rfl rfl ?_
  refine r_bipush C (-3) dX6_barsBoth_1 (by decide) ?_
  refine r_icmp_ne C 8 dX6_barsBoth_3 (by decide) (fun c_1 => ?_) (fun c_1 => ?_)
  · -- to 8
    refine r_iconst C (0) dX6_barsBoth_8 (by decide) ?_
    refine r_istore C [(5, .int (0)), (0, .ref (ad 9)), (1, .int (p)), (2, .int (q)), (3, .int (u)), (4, .int (v))] dX6_barsBoth_9 (by decide) rfl ?_
    have L_11 : ∀ (n : Nat), ∀ (i : Int32), (0 ≤ i.toInt ∧ i.toInt ≤ 12) → 12 - i.toInt < (n : Int) → At E ad G 7 11 [(5, .int (i)), (0, .ref (ad 9)), (1, .int (p)), (2, .int (q)), (3, .int (u)), (4, .int (v))] [] σ := by
      intro n
      induction n with
      | zero =>
        intro i hi hm
        exact absurd hm (by omega)
      | succ n ih =>
        intro i hi hm
        have ih_11 := ih
        clear ih
        refine r_iload C 0 dX6_barsBoth_11 rfl ?_
        refine r_aload_n C 1 dX6_barsBoth_13 rfl rfl ?_
        refine r_get C (k := 9) (v := .int (σ 9 6)) f_X6_30 (by decide) rfl rfl dX6_barsBoth_14 ?_
        refine r_icmp_ge C 117 dX6_barsBoth_17 (by decide) (fun c_2 => ?_) (fun c_2 => ?_)
        · -- to 117
          refine r_iconst C (0) dX6_barsBoth_117 (by decide) ?_
          exact r_zret C T dX6_barsBoth_118 (by omega) (⟨rfl, by omega⟩)
        · -- to 20
          have L_69 : ∀ (b : Int32), At E ad G 7 69 [(5, .int (i)), (0, .ref (ad 9)), (1, .int (p)), (2, .int (q)), (3, .int (u)), (4, .int (v))] [.int (b)] σ := by
            intro b
            refine r_istore C [(6, .int (b)), (5, .int (i)), (0, .ref (ad 9)), (1, .int (p)), (2, .int (q)), (3, .int (u)), (4, .int (v))] dX6_barsBoth_69 (by decide) rfl ?_
            refine r_aload_n C 2 dX6_barsBoth_71 rfl rfl ?_
            refine r_get C (k := 9) (v := .ref (ad 10)) f_X6_9 (by decide) rfl rfl dX6_barsBoth_72 ?_
            refine r_iload C 1 dX6_barsBoth_75 rfl ?_
            refine r_iald C (k := 10) (by decide) rfl (by omega) (σ 10 ((i : Int32).toInt.toNat)) rfl dX6_barsBoth_77 ?_
            refine r_iconst C (1) dX6_barsBoth_78 (by decide) ?_
            refine r_icmp_ne C 111 dX6_barsBoth_79 (by decide) (fun c_4 => ?_) (fun c_4 => ?_)
            · -- to 111
              refine r_iinc C 1 (fun z => [(5, .int (z)), (6, .int (b)), (0, .ref (ad 9)), (1, .int (p)), (2, .int (q)), (3, .int (u)), (4, .int (v))]) dX6_barsBoth_111 rfl (by decide) (by decide) (by omega) (fun _ => rfl) (fun z_5 hz_6 => ?_)
              refine r_goto C 11 dX6_barsBoth_114 (by decide) ?_
              exact At.sub [0, 2, 3, 4, 5, 6] rfl (ih_11 (z_5 : Int32) (by omega) (by omega))
            · -- to 82
              refine r_iload C 0 dX6_barsBoth_82 rfl ?_
              refine r_if_eq C 111 dX6_barsBoth_84 (by decide) (fun c_7 => ?_) (fun c_7 => ?_)
              · -- to 111
                refine r_iinc C 1 (fun z => [(5, .int (z)), (6, .int (b)), (0, .ref (ad 9)), (1, .int (p)), (2, .int (q)), (3, .int (u)), (4, .int (v))]) dX6_barsBoth_111 rfl (by decide) (by decide) (by omega) (fun _ => rfl) (fun z_8 hz_9 => ?_)
                refine r_goto C 11 dX6_barsBoth_114 (by decide) ?_
                exact At.sub [0, 2, 3, 4, 5, 6] rfl (ih_11 (z_8 : Int32) (by omega) (by omega))
              · -- to 87
                refine r_iload_n C 5 dX6_barsBoth_87 rfl rfl ?_
                refine r_aload_n C 2 dX6_barsBoth_88 rfl rfl ?_
                refine r_get C (k := 9) (v := .ref (ad 13)) f_X6_21 (by decide) rfl rfl dX6_barsBoth_89 ?_
                refine r_iload C 1 dX6_barsBoth_92 rfl ?_
                refine r_iald C (k := 13) (by decide) rfl (by omega) (σ 13 ((i : Int32).toInt.toNat)) rfl dX6_barsBoth_94 ?_
                refine r_icmp_gt C 111 dX6_barsBoth_95 (by decide) (fun c_11 => ?_) (fun c_11 => ?_)
                · -- to 111
                  refine r_iinc C 1 (fun z => [(5, .int (z)), (6, .int (b)), (0, .ref (ad 9)), (1, .int (p)), (2, .int (q)), (3, .int (u)), (4, .int (v))]) dX6_barsBoth_111 rfl (by decide) (by decide) (by omega) (fun _ => rfl) (fun z_12 hz_13 => ?_)
                  refine r_goto C 11 dX6_barsBoth_114 (by decide) ?_
                  exact At.sub [0, 2, 3, 4, 5, 6] rfl (ih_11 (z_12 : Int32) (by omega) (by omega))
                · -- to 98
                  refine r_aload_n C 2 dX6_barsBoth_98 rfl rfl ?_
                  refine r_iload C 1 dX6_barsBoth_99 rfl ?_
                  refine r_iload C 6 dX6_barsBoth_101 rfl ?_
                  refine r_callV C (k := 9) [.int (i), .int (v)] [] (c_X6_inForce E ad σ  (i) (v) (by omega)) lv_X6_44 (by decide) rfl rfl (by decide) (by decide) rfl rfl (Nat.le_of_ble_eq_true rfl) dX6_barsBoth_103 (fun r_14 τ_15 h_16 => ?_)
                  obtain ⟨eh_16, h_16⟩ := h_16
                  obtain rfl := eh_16.symm
                  refine r_if_eq C 111 dX6_barsBoth_106 (by decide) (fun c_17 => ?_) (fun c_17 => ?_)
                  · -- to 111
                    refine r_iinc C 1 (fun z => [(5, .int (z)), (6, .int (b)), (0, .ref (ad 9)), (1, .int (p)), (2, .int (q)), (3, .int (u)), (4, .int (v))]) dX6_barsBoth_111 rfl (by decide) (by decide) (by omega) (fun _ => rfl) (fun z_18 hz_19 => ?_)
                    refine r_goto C 11 dX6_barsBoth_114 (by decide) ?_
                    exact At.sub [0, 2, 3, 4, 5, 6] rfl (ih_11 (z_18 : Int32) (by omega) (by omega))
                  · -- to 109
                    refine r_iconst C (1) dX6_barsBoth_109 (by decide) ?_
                    exact r_zret C T dX6_barsBoth_110 (by omega) (⟨rfl, by omega⟩)
          refine r_aload_n C 1 dX6_barsBoth_20 rfl rfl ?_
          refine r_get C (k := 9) (v := .ref (ad 11)) f_X6_15 (by decide) rfl rfl dX6_barsBoth_21 ?_
          refine r_iload C 0 dX6_barsBoth_24 rfl ?_
          refine r_iald C (k := 11) (by decide) rfl (by omega) (σ 11 ((i : Int32).toInt.toNat)) rfl dX6_barsBoth_26 ?_
          refine r_iload_n C 2 dX6_barsBoth_27 rfl rfl ?_
          refine r_icmp_ne C 42 dX6_barsBoth_28 (by decide) (fun c_21 => ?_) (fun c_21 => ?_)
          · -- to 42
            refine r_aload_n C 1 dX6_barsBoth_42 rfl rfl ?_
            refine r_get C (k := 9) (v := .ref (ad 11)) f_X6_15 (by decide) rfl rfl dX6_barsBoth_43 ?_
            refine r_iload C 0 dX6_barsBoth_46 rfl ?_
            refine r_iald C (k := 11) (by decide) rfl (by omega) (σ 11 ((i : Int32).toInt.toNat)) rfl dX6_barsBoth_48 ?_
            refine r_iload_n C 3 dX6_barsBoth_49 rfl rfl ?_
            refine r_icmp_ne C 68 dX6_barsBoth_50 (by decide) (fun c_23 => ?_) (fun c_23 => ?_)
            · -- to 68
              refine r_iconst C (0) dX6_barsBoth_68 (by decide) ?_
              exact At.sub [0, 1, 2, 3, 4, 5] rfl (L_69 (0 : Int32) )
            · -- to 53
              refine r_aload_n C 1 dX6_barsBoth_53 rfl rfl ?_
              refine r_get C (k := 9) (v := .ref (ad 12)) f_X6_18 (by decide) rfl rfl dX6_barsBoth_54 ?_
              refine r_iload C 0 dX6_barsBoth_57 rfl ?_
              refine r_iald C (k := 12) (by decide) rfl (by omega) (σ 12 ((i : Int32).toInt.toNat)) rfl dX6_barsBoth_59 ?_
              refine r_iload_n C 2 dX6_barsBoth_60 rfl rfl ?_
              refine r_icmp_ne C 68 dX6_barsBoth_61 (by decide) (fun c_25 => ?_) (fun c_25 => ?_)
              · -- to 68
                refine r_iconst C (0) dX6_barsBoth_68 (by decide) ?_
                exact At.sub [0, 1, 2, 3, 4, 5] rfl (L_69 (0 : Int32) )
              · -- to 64
                refine r_iconst C (1) dX6_barsBoth_64 (by decide) ?_
                refine r_goto C 69 dX6_barsBoth_65 (by decide) ?_
                exact At.sub [0, 1, 2, 3, 4, 5] rfl (L_69 (1 : Int32) )
          · -- to 31
            refine r_aload_n C 1 dX6_barsBoth_31 rfl rfl ?_
            refine r_get C (k := 9) (v := .ref (ad 12)) f_X6_18 (by decide) rfl rfl dX6_barsBoth_32 ?_
            refine r_iload C 0 dX6_barsBoth_35 rfl ?_
            refine r_iald C (k := 12) (by decide) rfl (by omega) (σ 12 ((i : Int32).toInt.toNat)) rfl dX6_barsBoth_37 ?_
            refine r_iload_n C 3 dX6_barsBoth_38 rfl rfl ?_
            refine r_icmp_eq C 64 dX6_barsBoth_39 (by decide) (fun c_27 => ?_) (fun c_27 => ?_)
            · -- to 64
              refine r_iconst C (1) dX6_barsBoth_64 (by decide) ?_
              refine r_goto C 69 dX6_barsBoth_65 (by decide) ?_
              exact At.sub [0, 1, 2, 3, 4, 5] rfl (L_69 (1 : Int32) )
            · -- to 42
              refine r_aload_n C 1 dX6_barsBoth_42 rfl rfl ?_
              refine r_get C (k := 9) (v := .ref (ad 11)) f_X6_15 (by decide) rfl rfl dX6_barsBoth_43 ?_
              refine r_iload C 0 dX6_barsBoth_46 rfl ?_
              refine r_iald C (k := 11) (by decide) rfl (by omega) (σ 11 ((i : Int32).toInt.toNat)) rfl dX6_barsBoth_48 ?_
              refine r_iload_n C 3 dX6_barsBoth_49 rfl rfl ?_
              refine r_icmp_ne C 68 dX6_barsBoth_50 (by decide) (fun c_29 => ?_) (fun c_29 => ?_)
              · -- to 68
                refine r_iconst C (0) dX6_barsBoth_68 (by decide) ?_
                exact At.sub [0, 1, 2, 3, 4, 5] rfl (L_69 (0 : Int32) )
              · -- to 53
                refine r_aload_n C 1 dX6_barsBoth_53 rfl rfl ?_
                refine r_get C (k := 9) (v := .ref (ad 12)) f_X6_18 (by decide) rfl rfl dX6_barsBoth_54 ?_
                refine r_iload C 0 dX6_barsBoth_57 rfl ?_
                refine r_iald C (k := 12) (by decide) rfl (by omega) (σ 12 ((i : Int32).toInt.toNat)) rfl dX6_barsBoth_59 ?_
                refine r_iload_n C 2 dX6_barsBoth_60 rfl rfl ?_
                refine r_icmp_ne C 68 dX6_barsBoth_61 (by decide) (fun c_31 => ?_) (fun c_31 => ?_)
                · -- to 68
                  refine r_iconst C (0) dX6_barsBoth_68 (by decide) ?_
                  exact At.sub [0, 1, 2, 3, 4, 5] rfl (L_69 (0 : Int32) )
                · -- to 64
                  refine r_iconst C (1) dX6_barsBoth_64 (by decide) ?_
                  refine r_goto C 69 dX6_barsBoth_65 (by decide) ?_
                  exact At.sub [0, 1, 2, 3, 4, 5] rfl (L_69 (1 : Int32) )
    exact At.sub [0, 1, 2, 3, 4, 5] rfl (L_11 ((12 - (0 : Int32).toInt).toNat + 1) (0 : Int32) (by omega) (by omega))
  · -- to 6
    refine r_iconst C (0) dX6_barsBoth_6 (by decide) ?_
    exact r_zret C T dX6_barsBoth_7 (by omega) (⟨rfl, by omega⟩)
