def wX1 (E : Ev) (h : Nat) (u : Nat → Nat) : va_W := (h, .inr (1, [.ref (u 0), .ref (u 1)])) :: [(u 0, .inl (E.2.2.1, 301, .inl (fun _ => 0))), (u 1, .inl (E.2.2.1, 301, .inl (fun _ => 0)))]
set_option maxHeartbeats 4000000 in
set_option maxRecDepth 100000 in
theorem i_X1 (E : Ev) : CtI E yX1_init cX1_init 1 1 2 602 1 [.null, .null] (wX1 E) := by
  refine cti_of RX1 rfl (by decide +kernel) rfl (by decide) (fun h A G C hin T => ?_)
  refine n_aload C 0 dX1_init_0 rfl rfl ?_
  refine n_obj C w_318 w_101 w_102 rfl (Nat.le_of_ble_eq_true rfl) (Nat.le_of_ble_eq_true rfl) dX1_init_1 ?_
  refine n_aload C 0 dX1_init_4 rfl rfl ?_
  refine n_sipush C (301) dX1_init_5 (by decide) ?_
  refine p_newa C 301 (fun q0 => [(q0, .inl (E.2.2.1, 301, .inl (fun _ => 0)))]) (fun _ => rfl) w_152 (by decide) (by decide) (by decide) (Nat.le_of_ble_eq_true rfl) (Nat.le_of_ble_eq_true rfl) dX1_init_8 (fun q0 => ?_)
  refine o_putF C hin [.ref q0, .null] kn_X1_9 (Nat.le_of_ble_eq_true rfl) rfl rfl rfl dX1_init_10 ?_
  refine n_aload C 0 dX1_init_13 rfl rfl ?_
  refine n_sipush C (301) dX1_init_14 (by decide) ?_
  refine p_newa C 301 (fun q1 => [(q0, .inl (E.2.2.1, 301, .inl (fun _ => 0))), (q1, .inl (E.2.2.1, 301, .inl (fun _ => 0)))]) (fun _ => rfl) w_152 (by decide) (by decide) (by decide) (Nat.le_of_ble_eq_true rfl) (Nat.le_of_ble_eq_true rfl) dX1_init_17 (fun q1 => ?_)
  refine o_putF C hin [.ref q0, .ref q1] kn_X1_15 (Nat.le_of_ble_eq_true rfl) rfl rfl rfl dX1_init_19 ?_
  exact n_ret C T (fun k => ([q0, q1] : List Nat).getD k 0) rfl rfl rfl dX1_init_22
def wX2 (E : Ev) (h : Nat) (u : Nat → Nat) : va_W := (h, .inr (2, [.ref (u 0), .ref (u 1), .ref (u 2), .ref (u 3), .ref (u 4), .ref (u 5), .int 0, .int 0, .int 0, .int 0])) :: [(u 0, .inl (E.2.2.1, 12, .inl (fun _ => 0))), (u 1, .inl (E.2.2.1, 12, .inl (fun _ => 0))), (u 2, .inl (E.2.2.1, 12, .inl (fun _ => 0))), (u 3, .inl (E.2.2.1, 12, .inl (fun _ => 0))), (u 4, .inl (E.2.2.1, 12, .inl (fun _ => 0))), (u 5, .inl (E.2.2.1, 3, .inl (fun _ => 0)))]
set_option maxHeartbeats 4000000 in
set_option maxRecDepth 100000 in
theorem i_X2 (E : Ev) : CtI E yX2_init cX2_init 1 1 6 63 2 [.null, .null, .null, .null, .null, .null, .int 0, .int 0, .int 0, .int 0] (wX2 E) := by
  refine cti_of RX2 rfl (by decide +kernel) rfl (by decide) (fun h A G C hin T => ?_)
  refine n_aload C 0 dX2_init_0 rfl rfl ?_
  refine n_obj C w_114 w_101 w_102 rfl (Nat.le_of_ble_eq_true rfl) (Nat.le_of_ble_eq_true rfl) dX2_init_1 ?_
  refine n_aload C 0 dX2_init_4 rfl rfl ?_
  refine n_bipush C (12) dX2_init_5 (by decide) ?_
  refine p_newa C 12 (fun q0 => [(q0, .inl (E.2.2.1, 12, .inl (fun _ => 0)))]) (fun _ => rfl) w_152 (by decide) (by decide) (by decide) (Nat.le_of_ble_eq_true rfl) (Nat.le_of_ble_eq_true rfl) dX2_init_7 (fun q0 => ?_)
  refine o_putF C hin [.ref q0, .null, .null, .null, .null, .null, .int 0, .int 0, .int 0, .int 0] kn_X2_9 (Nat.le_of_ble_eq_true rfl) rfl rfl rfl dX2_init_9 ?_
  refine n_aload C 0 dX2_init_12 rfl rfl ?_
  refine n_bipush C (12) dX2_init_13 (by decide) ?_
  refine p_newa C 12 (fun q1 => [(q0, .inl (E.2.2.1, 12, .inl (fun _ => 0))), (q1, .inl (E.2.2.1, 12, .inl (fun _ => 0)))]) (fun _ => rfl) w_152 (by decide) (by decide) (by decide) (Nat.le_of_ble_eq_true rfl) (Nat.le_of_ble_eq_true rfl) dX2_init_15 (fun q1 => ?_)
  refine o_putF C hin [.ref q0, .ref q1, .null, .null, .null, .null, .int 0, .int 0, .int 0, .int 0] kn_X2_15 (Nat.le_of_ble_eq_true rfl) rfl rfl rfl dX2_init_17 ?_
  refine n_aload C 0 dX2_init_20 rfl rfl ?_
  refine n_bipush C (12) dX2_init_21 (by decide) ?_
  refine p_newa C 12 (fun q2 => [(q0, .inl (E.2.2.1, 12, .inl (fun _ => 0))), (q1, .inl (E.2.2.1, 12, .inl (fun _ => 0))), (q2, .inl (E.2.2.1, 12, .inl (fun _ => 0)))]) (fun _ => rfl) w_152 (by decide) (by decide) (by decide) (Nat.le_of_ble_eq_true rfl) (Nat.le_of_ble_eq_true rfl) dX2_init_23 (fun q2 => ?_)
  refine o_putF C hin [.ref q0, .ref q1, .ref q2, .null, .null, .null, .int 0, .int 0, .int 0, .int 0] kn_X2_18 (Nat.le_of_ble_eq_true rfl) rfl rfl rfl dX2_init_25 ?_
  refine n_aload C 0 dX2_init_28 rfl rfl ?_
  refine n_bipush C (12) dX2_init_29 (by decide) ?_
  refine p_newa C 12 (fun q3 => [(q0, .inl (E.2.2.1, 12, .inl (fun _ => 0))), (q1, .inl (E.2.2.1, 12, .inl (fun _ => 0))), (q2, .inl (E.2.2.1, 12, .inl (fun _ => 0))), (q3, .inl (E.2.2.1, 12, .inl (fun _ => 0)))]) (fun _ => rfl) w_152 (by decide) (by decide) (by decide) (Nat.le_of_ble_eq_true rfl) (Nat.le_of_ble_eq_true rfl) dX2_init_31 (fun q3 => ?_)
  refine o_putF C hin [.ref q0, .ref q1, .ref q2, .ref q3, .null, .null, .int 0, .int 0, .int 0, .int 0] kn_X2_21 (Nat.le_of_ble_eq_true rfl) rfl rfl rfl dX2_init_33 ?_
  refine n_aload C 0 dX2_init_36 rfl rfl ?_
  refine n_bipush C (12) dX2_init_37 (by decide) ?_
  refine p_newa C 12 (fun q4 => [(q0, .inl (E.2.2.1, 12, .inl (fun _ => 0))), (q1, .inl (E.2.2.1, 12, .inl (fun _ => 0))), (q2, .inl (E.2.2.1, 12, .inl (fun _ => 0))), (q3, .inl (E.2.2.1, 12, .inl (fun _ => 0))), (q4, .inl (E.2.2.1, 12, .inl (fun _ => 0)))]) (fun _ => rfl) w_152 (by decide) (by decide) (by decide) (Nat.le_of_ble_eq_true rfl) (Nat.le_of_ble_eq_true rfl) dX2_init_39 (fun q4 => ?_)
  refine o_putF C hin [.ref q0, .ref q1, .ref q2, .ref q3, .ref q4, .null, .int 0, .int 0, .int 0, .int 0] kn_X2_24 (Nat.le_of_ble_eq_true rfl) rfl rfl rfl dX2_init_41 ?_
  refine n_aload C 0 dX2_init_44 rfl rfl ?_
  refine n_iconst C (3) dX2_init_45 (by decide) ?_
  refine p_newa C 3 (fun q5 => [(q0, .inl (E.2.2.1, 12, .inl (fun _ => 0))), (q1, .inl (E.2.2.1, 12, .inl (fun _ => 0))), (q2, .inl (E.2.2.1, 12, .inl (fun _ => 0))), (q3, .inl (E.2.2.1, 12, .inl (fun _ => 0))), (q4, .inl (E.2.2.1, 12, .inl (fun _ => 0))), (q5, .inl (E.2.2.1, 3, .inl (fun _ => 0)))]) (fun _ => rfl) w_152 (by decide) (by decide) (by decide) (Nat.le_of_ble_eq_true rfl) (Nat.le_of_ble_eq_true rfl) dX2_init_46 (fun q5 => ?_)
  refine o_putF C hin [.ref q0, .ref q1, .ref q2, .ref q3, .ref q4, .ref q5, .int 0, .int 0, .int 0, .int 0] kn_X2_27 (Nat.le_of_ble_eq_true rfl) rfl rfl rfl dX2_init_48 ?_
  refine n_aload C 0 dX2_init_51 rfl rfl ?_
  refine n_iconst C (0) dX2_init_52 (by decide) ?_
  refine o_put C [.ref q0, .ref q1, .ref q2, .ref q3, .ref q4, .ref q5, .int 0, .int 0, .int 0, .int 0] kn_X2_30 (Nat.le_of_ble_eq_true rfl) rfl rfl rfl dX2_init_53 ?_
  refine n_aload C 0 dX2_init_56 rfl rfl ?_
  refine n_iconst C (0) dX2_init_57 (by decide) ?_
  refine o_put C [.ref q0, .ref q1, .ref q2, .ref q3, .ref q4, .ref q5, .int 0, .int 0, .int 0, .int 0] kn_X2_34 (Nat.le_of_ble_eq_true rfl) rfl rfl rfl dX2_init_58 ?_
  refine n_aload C 0 dX2_init_61 rfl rfl ?_
  refine n_iconst C (0) dX2_init_62 (by decide) ?_
  refine o_put C [.ref q0, .ref q1, .ref q2, .ref q3, .ref q4, .ref q5, .int 0, .int 0, .int 0, .int 0] kn_X2_37 (Nat.le_of_ble_eq_true rfl) rfl rfl rfl dX2_init_63 ?_
  refine n_aload C 0 dX2_init_66 rfl rfl ?_
  refine n_iconst C (0) dX2_init_67 (by decide) ?_
  refine o_put C [.ref q0, .ref q1, .ref q2, .ref q3, .ref q4, .ref q5, .int 0, .int 0, .int 0, .int 0] kn_X2_40 (Nat.le_of_ble_eq_true rfl) rfl rfl rfl dX2_init_68 ?_
  exact n_ret C T (fun k => ([q0, q1, q2, q3, q4, q5] : List Nat).getD k 0) rfl rfl rfl dX2_init_71
def wX3 (E : Ev) (h : Nat) (u : Nat → Nat) : va_W := (h, .inr (3, [.ref (u 0), .ref (u 1), .ref (u 2), .ref (u 3), .ref (u 4), .ref (u 5), .ref (u 6), .ref (u 7), .int 0])) :: [(u 0, .inl (E.2.2.1, 7, .inl (fun _ => 0))), (u 1, .inl (E.2.2.1, 7, .inl (fun _ => 0))), (u 2, .inl (E.2.2.1, 7, .inl (fun _ => 0))), (u 3, .inl (E.2.2.1, 7, .inl (fun _ => 0))), (u 4, .inl (E.2.2.1, 7, .inl (fun _ => 0))), (u 5, .inl (E.2.2.1, 7, .inl (fun _ => 0))), (u 6, .inl (E.2.2.1, 7, .inl (fun _ => 0))), (u 7, .inl (E.2.2.1, 7, .inl (fun _ => 0)))]
set_option maxHeartbeats 4000000 in
set_option maxRecDepth 100000 in
theorem i_X3 (E : Ev) : CtI E yX3_init cX3_init 1 1 8 56 3 [.null, .null, .null, .null, .null, .null, .null, .null, .int 0] (wX3 E) := by
  refine cti_of RX3 rfl (by decide +kernel) rfl (by decide) (fun h A G C hin T => ?_)
  refine n_aload C 0 dX3_init_0 rfl rfl ?_
  refine n_obj C w_195 w_101 w_102 rfl (Nat.le_of_ble_eq_true rfl) (Nat.le_of_ble_eq_true rfl) dX3_init_1 ?_
  refine n_aload C 0 dX3_init_4 rfl rfl ?_
  refine n_bipush C (7) dX3_init_5 (by decide) ?_
  refine p_newa C 7 (fun q0 => [(q0, .inl (E.2.2.1, 7, .inl (fun _ => 0)))]) (fun _ => rfl) w_152 (by decide) (by decide) (by decide) (Nat.le_of_ble_eq_true rfl) (Nat.le_of_ble_eq_true rfl) dX3_init_7 (fun q0 => ?_)
  refine o_putF C hin [.ref q0, .null, .null, .null, .null, .null, .null, .null, .int 0] kn_X3_9 (Nat.le_of_ble_eq_true rfl) rfl rfl rfl dX3_init_9 ?_
  refine n_aload C 0 dX3_init_12 rfl rfl ?_
  refine n_bipush C (7) dX3_init_13 (by decide) ?_
  refine p_newa C 7 (fun q1 => [(q0, .inl (E.2.2.1, 7, .inl (fun _ => 0))), (q1, .inl (E.2.2.1, 7, .inl (fun _ => 0)))]) (fun _ => rfl) w_152 (by decide) (by decide) (by decide) (Nat.le_of_ble_eq_true rfl) (Nat.le_of_ble_eq_true rfl) dX3_init_15 (fun q1 => ?_)
  refine o_putF C hin [.ref q0, .ref q1, .null, .null, .null, .null, .null, .null, .int 0] kn_X3_15 (Nat.le_of_ble_eq_true rfl) rfl rfl rfl dX3_init_17 ?_
  refine n_aload C 0 dX3_init_20 rfl rfl ?_
  refine n_bipush C (7) dX3_init_21 (by decide) ?_
  refine p_newa C 7 (fun q2 => [(q0, .inl (E.2.2.1, 7, .inl (fun _ => 0))), (q1, .inl (E.2.2.1, 7, .inl (fun _ => 0))), (q2, .inl (E.2.2.1, 7, .inl (fun _ => 0)))]) (fun _ => rfl) w_152 (by decide) (by decide) (by decide) (Nat.le_of_ble_eq_true rfl) (Nat.le_of_ble_eq_true rfl) dX3_init_23 (fun q2 => ?_)
  refine o_putF C hin [.ref q0, .ref q1, .ref q2, .null, .null, .null, .null, .null, .int 0] kn_X3_18 (Nat.le_of_ble_eq_true rfl) rfl rfl rfl dX3_init_25 ?_
  refine n_aload C 0 dX3_init_28 rfl rfl ?_
  refine n_bipush C (7) dX3_init_29 (by decide) ?_
  refine p_newa C 7 (fun q3 => [(q0, .inl (E.2.2.1, 7, .inl (fun _ => 0))), (q1, .inl (E.2.2.1, 7, .inl (fun _ => 0))), (q2, .inl (E.2.2.1, 7, .inl (fun _ => 0))), (q3, .inl (E.2.2.1, 7, .inl (fun _ => 0)))]) (fun _ => rfl) w_152 (by decide) (by decide) (by decide) (Nat.le_of_ble_eq_true rfl) (Nat.le_of_ble_eq_true rfl) dX3_init_31 (fun q3 => ?_)
  refine o_putF C hin [.ref q0, .ref q1, .ref q2, .ref q3, .null, .null, .null, .null, .int 0] kn_X3_21 (Nat.le_of_ble_eq_true rfl) rfl rfl rfl dX3_init_33 ?_
  refine n_aload C 0 dX3_init_36 rfl rfl ?_
  refine n_bipush C (7) dX3_init_37 (by decide) ?_
  refine p_newa C 7 (fun q4 => [(q0, .inl (E.2.2.1, 7, .inl (fun _ => 0))), (q1, .inl (E.2.2.1, 7, .inl (fun _ => 0))), (q2, .inl (E.2.2.1, 7, .inl (fun _ => 0))), (q3, .inl (E.2.2.1, 7, .inl (fun _ => 0))), (q4, .inl (E.2.2.1, 7, .inl (fun _ => 0)))]) (fun _ => rfl) w_152 (by decide) (by decide) (by decide) (Nat.le_of_ble_eq_true rfl) (Nat.le_of_ble_eq_true rfl) dX3_init_39 (fun q4 => ?_)
  refine o_putF C hin [.ref q0, .ref q1, .ref q2, .ref q3, .ref q4, .null, .null, .null, .int 0] kn_X3_24 (Nat.le_of_ble_eq_true rfl) rfl rfl rfl dX3_init_41 ?_
  refine n_aload C 0 dX3_init_44 rfl rfl ?_
  refine n_bipush C (7) dX3_init_45 (by decide) ?_
  refine p_newa C 7 (fun q5 => [(q0, .inl (E.2.2.1, 7, .inl (fun _ => 0))), (q1, .inl (E.2.2.1, 7, .inl (fun _ => 0))), (q2, .inl (E.2.2.1, 7, .inl (fun _ => 0))), (q3, .inl (E.2.2.1, 7, .inl (fun _ => 0))), (q4, .inl (E.2.2.1, 7, .inl (fun _ => 0))), (q5, .inl (E.2.2.1, 7, .inl (fun _ => 0)))]) (fun _ => rfl) w_152 (by decide) (by decide) (by decide) (Nat.le_of_ble_eq_true rfl) (Nat.le_of_ble_eq_true rfl) dX3_init_47 (fun q5 => ?_)
  refine o_putF C hin [.ref q0, .ref q1, .ref q2, .ref q3, .ref q4, .ref q5, .null, .null, .int 0] kn_X3_27 (Nat.le_of_ble_eq_true rfl) rfl rfl rfl dX3_init_49 ?_
  refine n_aload C 0 dX3_init_52 rfl rfl ?_
  refine n_bipush C (7) dX3_init_53 (by decide) ?_
  refine p_newa C 7 (fun q6 => [(q0, .inl (E.2.2.1, 7, .inl (fun _ => 0))), (q1, .inl (E.2.2.1, 7, .inl (fun _ => 0))), (q2, .inl (E.2.2.1, 7, .inl (fun _ => 0))), (q3, .inl (E.2.2.1, 7, .inl (fun _ => 0))), (q4, .inl (E.2.2.1, 7, .inl (fun _ => 0))), (q5, .inl (E.2.2.1, 7, .inl (fun _ => 0))), (q6, .inl (E.2.2.1, 7, .inl (fun _ => 0)))]) (fun _ => rfl) w_152 (by decide) (by decide) (by decide) (Nat.le_of_ble_eq_true rfl) (Nat.le_of_ble_eq_true rfl) dX3_init_55 (fun q6 => ?_)
  refine o_putF C hin [.ref q0, .ref q1, .ref q2, .ref q3, .ref q4, .ref q5, .ref q6, .null, .int 0] kn_X3_30 (Nat.le_of_ble_eq_true rfl) rfl rfl rfl dX3_init_57 ?_
  refine n_aload C 0 dX3_init_60 rfl rfl ?_
  refine n_bipush C (7) dX3_init_61 (by decide) ?_
  refine p_newa C 7 (fun q7 => [(q0, .inl (E.2.2.1, 7, .inl (fun _ => 0))), (q1, .inl (E.2.2.1, 7, .inl (fun _ => 0))), (q2, .inl (E.2.2.1, 7, .inl (fun _ => 0))), (q3, .inl (E.2.2.1, 7, .inl (fun _ => 0))), (q4, .inl (E.2.2.1, 7, .inl (fun _ => 0))), (q5, .inl (E.2.2.1, 7, .inl (fun _ => 0))), (q6, .inl (E.2.2.1, 7, .inl (fun _ => 0))), (q7, .inl (E.2.2.1, 7, .inl (fun _ => 0)))]) (fun _ => rfl) w_152 (by decide) (by decide) (by decide) (Nat.le_of_ble_eq_true rfl) (Nat.le_of_ble_eq_true rfl) dX3_init_63 (fun q7 => ?_)
  refine o_putF C hin [.ref q0, .ref q1, .ref q2, .ref q3, .ref q4, .ref q5, .ref q6, .ref q7, .int 0] kn_X3_33 (Nat.le_of_ble_eq_true rfl) rfl rfl rfl dX3_init_65 ?_
  refine n_aload C 0 dX3_init_68 rfl rfl ?_
  refine n_iconst C (0) dX3_init_69 (by decide) ?_
  refine o_put C [.ref q0, .ref q1, .ref q2, .ref q3, .ref q4, .ref q5, .ref q6, .ref q7, .int 0] kn_X3_36 (Nat.le_of_ble_eq_true rfl) rfl rfl rfl dX3_init_70 ?_
  exact n_ret C T (fun k => ([q0, q1, q2, q3, q4, q5, q6, q7] : List Nat).getD k 0) rfl rfl rfl dX3_init_73
def wA0 (E : Ev) (h : Nat) (u : Nat → Nat) (f : Nat → Int32) : va_W := (h, .inr (0, [.int 255, .ref (u 0)])) :: [(u 0, .inl (E.2.2.1, 8, .inl f))]
def wX0 (E : Ev) (h : Nat) (u : Nat → Nat) : va_W := wA0 E h u neg8
set_option maxHeartbeats 4000000 in
set_option maxRecDepth 100000 in
theorem i_X0 (E : Ev) : CtI E yX0_init cX0_init 2 1 1 8 0 [.int 0, .null] (wX0 E) := by
  refine cti_of RX0 rfl (by decide +kernel) rfl (by decide) (fun h A G C hin T => ?_)
  refine n_aload C 0 dX0_init_0 rfl rfl ?_
  refine n_obj C w_247 w_101 w_102 rfl (Nat.le_of_ble_eq_true rfl) (Nat.le_of_ble_eq_true rfl) dX0_init_1 ?_
  refine n_aload C 0 dX0_init_4 rfl rfl ?_
  refine n_sipush C (255) dX0_init_5 (by decide) ?_
  refine o_put C [.int 255, .null] kn_X0_9 (Nat.le_of_ble_eq_true rfl) rfl rfl rfl dX0_init_8 ?_
  refine n_aload C 0 dX0_init_11 rfl rfl ?_
  refine n_bipush C (8) dX0_init_12 (by decide) ?_
  refine p_newa C 8 (fun q0 => [(q0, .inl (E.2.2.1, 8, .inl (fun _ => 0)))]) (fun _ => rfl) w_152 (by decide) (by decide) (by decide) (Nat.le_of_ble_eq_true rfl) (Nat.le_of_ble_eq_true rfl) dX0_init_14 (fun q0 => ?_)
  refine o_putF C hin [.int 255, .ref q0] kn_X0_15 (Nat.le_of_ble_eq_true rfl) rfl rfl rfl dX0_init_16 ?_
  refine n_as (wA0 E h (fun k => ([q0] : List Nat).getD k 0) (fun _ => 0)) rfl ?_
  refine n_iconst C (0) dX0_init_19 (by decide) ?_
  refine n_istore C [(1, .int 0), (0, .ref h)] dX0_init_20 rfl (by decide) rfl ?_
  refine n_iload C 0 dX0_init_21 rfl rfl ?_
  refine n_bipush C (8) dX0_init_22 (by decide) ?_
  refine n_geF C (tgt := 40) dX0_init_24 (by decide) (by decide) ?_
  refine n_aload C 1 dX0_init_27 rfl rfl ?_
  refine n_get C 0 f_X0_15 rfl rfl dX0_init_28 ?_
  refine n_iload C 0 dX0_init_31 rfl rfl ?_
  refine n_iconst C (-1) dX0_init_32 (by decide) ?_
  refine n_iast C (wA0 E h (fun k => ([q0] : List Nat).getD k 0) (upd (fun _ => 0) 0 (-1))) 1 rfl (ta_in (by decide)) rfl dX0_init_33 ?_
  refine n_iinc C (v := 1) 0 [(1, .int 1), (0, .ref h)] dX0_init_34 rfl (by decide) (by decide) rfl ?_
  refine n_goto C 21 dX0_init_37 (by decide) ?_
  refine n_iload C 0 dX0_init_21 rfl rfl ?_
  refine n_bipush C (8) dX0_init_22 (by decide) ?_
  refine n_geF C (tgt := 40) dX0_init_24 (by decide) (by decide) ?_
  refine n_aload C 1 dX0_init_27 rfl rfl ?_
  refine n_get C 0 f_X0_15 rfl rfl dX0_init_28 ?_
  refine n_iload C 0 dX0_init_31 rfl rfl ?_
  refine n_iconst C (-1) dX0_init_32 (by decide) ?_
  refine n_iast C (wA0 E h (fun k => ([q0] : List Nat).getD k 0) (upd (upd (fun _ => 0) 0 (-1)) 1 (-1))) 1 rfl (ta_in (by decide)) rfl dX0_init_33 ?_
  refine n_iinc C (v := 2) 0 [(1, .int 2), (0, .ref h)] dX0_init_34 rfl (by decide) (by decide) rfl ?_
  refine n_goto C 21 dX0_init_37 (by decide) ?_
  refine n_iload C 0 dX0_init_21 rfl rfl ?_
  refine n_bipush C (8) dX0_init_22 (by decide) ?_
  refine n_geF C (tgt := 40) dX0_init_24 (by decide) (by decide) ?_
  refine n_aload C 1 dX0_init_27 rfl rfl ?_
  refine n_get C 0 f_X0_15 rfl rfl dX0_init_28 ?_
  refine n_iload C 0 dX0_init_31 rfl rfl ?_
  refine n_iconst C (-1) dX0_init_32 (by decide) ?_
  refine n_iast C (wA0 E h (fun k => ([q0] : List Nat).getD k 0) (upd (upd (upd (fun _ => 0) 0 (-1)) 1 (-1)) 2 (-1))) 1 rfl (ta_in (by decide)) rfl dX0_init_33 ?_
  refine n_iinc C (v := 3) 0 [(1, .int 3), (0, .ref h)] dX0_init_34 rfl (by decide) (by decide) rfl ?_
  refine n_goto C 21 dX0_init_37 (by decide) ?_
  refine n_iload C 0 dX0_init_21 rfl rfl ?_
  refine n_bipush C (8) dX0_init_22 (by decide) ?_
  refine n_geF C (tgt := 40) dX0_init_24 (by decide) (by decide) ?_
  refine n_aload C 1 dX0_init_27 rfl rfl ?_
  refine n_get C 0 f_X0_15 rfl rfl dX0_init_28 ?_
  refine n_iload C 0 dX0_init_31 rfl rfl ?_
  refine n_iconst C (-1) dX0_init_32 (by decide) ?_
  refine n_iast C (wA0 E h (fun k => ([q0] : List Nat).getD k 0) (upd (upd (upd (upd (fun _ => 0) 0 (-1)) 1 (-1)) 2 (-1)) 3 (-1))) 1 rfl (ta_in (by decide)) rfl dX0_init_33 ?_
  refine n_iinc C (v := 4) 0 [(1, .int 4), (0, .ref h)] dX0_init_34 rfl (by decide) (by decide) rfl ?_
  refine n_goto C 21 dX0_init_37 (by decide) ?_
  refine n_iload C 0 dX0_init_21 rfl rfl ?_
  refine n_bipush C (8) dX0_init_22 (by decide) ?_
  refine n_geF C (tgt := 40) dX0_init_24 (by decide) (by decide) ?_
  refine n_aload C 1 dX0_init_27 rfl rfl ?_
  refine n_get C 0 f_X0_15 rfl rfl dX0_init_28 ?_
  refine n_iload C 0 dX0_init_31 rfl rfl ?_
  refine n_iconst C (-1) dX0_init_32 (by decide) ?_
  refine n_iast C (wA0 E h (fun k => ([q0] : List Nat).getD k 0) (upd (upd (upd (upd (upd (fun _ => 0) 0 (-1)) 1 (-1)) 2 (-1)) 3 (-1)) 4 (-1))) 1 rfl (ta_in (by decide)) rfl dX0_init_33 ?_
  refine n_iinc C (v := 5) 0 [(1, .int 5), (0, .ref h)] dX0_init_34 rfl (by decide) (by decide) rfl ?_
  refine n_goto C 21 dX0_init_37 (by decide) ?_
  refine n_iload C 0 dX0_init_21 rfl rfl ?_
  refine n_bipush C (8) dX0_init_22 (by decide) ?_
  refine n_geF C (tgt := 40) dX0_init_24 (by decide) (by decide) ?_
  refine n_aload C 1 dX0_init_27 rfl rfl ?_
  refine n_get C 0 f_X0_15 rfl rfl dX0_init_28 ?_
  refine n_iload C 0 dX0_init_31 rfl rfl ?_
  refine n_iconst C (-1) dX0_init_32 (by decide) ?_
  refine n_iast C (wA0 E h (fun k => ([q0] : List Nat).getD k 0) (upd (upd (upd (upd (upd (upd (fun _ => 0) 0 (-1)) 1 (-1)) 2 (-1)) 3 (-1)) 4 (-1)) 5 (-1))) 1 rfl (ta_in (by decide)) rfl dX0_init_33 ?_
  refine n_iinc C (v := 6) 0 [(1, .int 6), (0, .ref h)] dX0_init_34 rfl (by decide) (by decide) rfl ?_
  refine n_goto C 21 dX0_init_37 (by decide) ?_
  refine n_iload C 0 dX0_init_21 rfl rfl ?_
  refine n_bipush C (8) dX0_init_22 (by decide) ?_
  refine n_geF C (tgt := 40) dX0_init_24 (by decide) (by decide) ?_
  refine n_aload C 1 dX0_init_27 rfl rfl ?_
  refine n_get C 0 f_X0_15 rfl rfl dX0_init_28 ?_
  refine n_iload C 0 dX0_init_31 rfl rfl ?_
  refine n_iconst C (-1) dX0_init_32 (by decide) ?_
  refine n_iast C (wA0 E h (fun k => ([q0] : List Nat).getD k 0) (upd (upd (upd (upd (upd (upd (upd (fun _ => 0) 0 (-1)) 1 (-1)) 2 (-1)) 3 (-1)) 4 (-1)) 5 (-1)) 6 (-1))) 1 rfl (ta_in (by decide)) rfl dX0_init_33 ?_
  refine n_iinc C (v := 7) 0 [(1, .int 7), (0, .ref h)] dX0_init_34 rfl (by decide) (by decide) rfl ?_
  refine n_goto C 21 dX0_init_37 (by decide) ?_
  refine n_iload C 0 dX0_init_21 rfl rfl ?_
  refine n_bipush C (8) dX0_init_22 (by decide) ?_
  refine n_geF C (tgt := 40) dX0_init_24 (by decide) (by decide) ?_
  refine n_aload C 1 dX0_init_27 rfl rfl ?_
  refine n_get C 0 f_X0_15 rfl rfl dX0_init_28 ?_
  refine n_iload C 0 dX0_init_31 rfl rfl ?_
  refine n_iconst C (-1) dX0_init_32 (by decide) ?_
  refine n_iast C (wA0 E h (fun k => ([q0] : List Nat).getD k 0) (upd (upd (upd (upd (upd (upd (upd (upd (fun _ => 0) 0 (-1)) 1 (-1)) 2 (-1)) 3 (-1)) 4 (-1)) 5 (-1)) 6 (-1)) 7 (-1))) 1 rfl (ta_in (by decide)) rfl dX0_init_33 ?_
  refine n_iinc C (v := 8) 0 [(1, .int 8), (0, .ref h)] dX0_init_34 rfl (by decide) (by decide) rfl ?_
  refine n_goto C 21 dX0_init_37 (by decide) ?_
  refine n_iload C 0 dX0_init_21 rfl rfl ?_
  refine n_bipush C (8) dX0_init_22 (by decide) ?_
  refine n_geT C 40 dX0_init_24 (by decide) (by decide) ?_
  exact n_ret C T (fun k => ([q0] : List Nat).getD k 0) rfl rfl rfl dX0_init_40
def wX6 (E : Ev) (h : Nat) (u : Nat → Nat) : va_W := (h, .inr (6, [.ref (u 0), .ref (u 1), .ref (u 2), .ref (u 3), .ref (u 4), .ref (u 5), .int 0])) :: [(u 0, .inl (E.2.2.1, 12, .inl (fun _ => 0))), (u 1, .inl (E.2.2.1, 12, .inl (fun _ => 0))), (u 2, .inl (E.2.2.1, 12, .inl (fun _ => 0))), (u 3, .inl (E.2.2.1, 12, .inl (fun _ => 0))), (u 4, .inl (E.2.2.1, 12, .inl (fun _ => 0))), (u 5, .inl (E.2.2.1, 12, .inl (fun _ => 0)))]
set_option maxHeartbeats 4000000 in
set_option maxRecDepth 100000 in
theorem i_X6 (E : Ev) : CtI E yX6_init cX6_init 1 1 6 72 6 [.null, .null, .null, .null, .null, .null, .int 0] (wX6 E) := by
  refine cti_of RX6 rfl (by decide +kernel) rfl (by decide) (fun h A G C hin T => ?_)
  refine n_aload C 0 dX6_init_0 rfl rfl ?_
  refine n_obj C w_158 w_101 w_102 rfl (Nat.le_of_ble_eq_true rfl) (Nat.le_of_ble_eq_true rfl) dX6_init_1 ?_
  refine n_aload C 0 dX6_init_4 rfl rfl ?_
  refine n_bipush C (12) dX6_init_5 (by decide) ?_
  refine p_newa C 12 (fun q0 => [(q0, .inl (E.2.2.1, 12, .inl (fun _ => 0)))]) (fun _ => rfl) w_152 (by decide) (by decide) (by decide) (Nat.le_of_ble_eq_true rfl) (Nat.le_of_ble_eq_true rfl) dX6_init_7 (fun q0 => ?_)
  refine o_putF C hin [.ref q0, .null, .null, .null, .null, .null, .int 0] kn_X6_9 (Nat.le_of_ble_eq_true rfl) rfl rfl rfl dX6_init_9 ?_
  refine n_aload C 0 dX6_init_12 rfl rfl ?_
  refine n_bipush C (12) dX6_init_13 (by decide) ?_
  refine p_newa C 12 (fun q1 => [(q0, .inl (E.2.2.1, 12, .inl (fun _ => 0))), (q1, .inl (E.2.2.1, 12, .inl (fun _ => 0)))]) (fun _ => rfl) w_152 (by decide) (by decide) (by decide) (Nat.le_of_ble_eq_true rfl) (Nat.le_of_ble_eq_true rfl) dX6_init_15 (fun q1 => ?_)
  refine o_putF C hin [.ref q0, .ref q1, .null, .null, .null, .null, .int 0] kn_X6_15 (Nat.le_of_ble_eq_true rfl) rfl rfl rfl dX6_init_17 ?_
  refine n_aload C 0 dX6_init_20 rfl rfl ?_
  refine n_bipush C (12) dX6_init_21 (by decide) ?_
  refine p_newa C 12 (fun q2 => [(q0, .inl (E.2.2.1, 12, .inl (fun _ => 0))), (q1, .inl (E.2.2.1, 12, .inl (fun _ => 0))), (q2, .inl (E.2.2.1, 12, .inl (fun _ => 0)))]) (fun _ => rfl) w_152 (by decide) (by decide) (by decide) (Nat.le_of_ble_eq_true rfl) (Nat.le_of_ble_eq_true rfl) dX6_init_23 (fun q2 => ?_)
  refine o_putF C hin [.ref q0, .ref q1, .ref q2, .null, .null, .null, .int 0] kn_X6_18 (Nat.le_of_ble_eq_true rfl) rfl rfl rfl dX6_init_25 ?_
  refine n_aload C 0 dX6_init_28 rfl rfl ?_
  refine n_bipush C (12) dX6_init_29 (by decide) ?_
  refine p_newa C 12 (fun q3 => [(q0, .inl (E.2.2.1, 12, .inl (fun _ => 0))), (q1, .inl (E.2.2.1, 12, .inl (fun _ => 0))), (q2, .inl (E.2.2.1, 12, .inl (fun _ => 0))), (q3, .inl (E.2.2.1, 12, .inl (fun _ => 0)))]) (fun _ => rfl) w_152 (by decide) (by decide) (by decide) (Nat.le_of_ble_eq_true rfl) (Nat.le_of_ble_eq_true rfl) dX6_init_31 (fun q3 => ?_)
  refine o_putF C hin [.ref q0, .ref q1, .ref q2, .ref q3, .null, .null, .int 0] kn_X6_21 (Nat.le_of_ble_eq_true rfl) rfl rfl rfl dX6_init_33 ?_
  refine n_aload C 0 dX6_init_36 rfl rfl ?_
  refine n_bipush C (12) dX6_init_37 (by decide) ?_
  refine p_newa C 12 (fun q4 => [(q0, .inl (E.2.2.1, 12, .inl (fun _ => 0))), (q1, .inl (E.2.2.1, 12, .inl (fun _ => 0))), (q2, .inl (E.2.2.1, 12, .inl (fun _ => 0))), (q3, .inl (E.2.2.1, 12, .inl (fun _ => 0))), (q4, .inl (E.2.2.1, 12, .inl (fun _ => 0)))]) (fun _ => rfl) w_152 (by decide) (by decide) (by decide) (Nat.le_of_ble_eq_true rfl) (Nat.le_of_ble_eq_true rfl) dX6_init_39 (fun q4 => ?_)
  refine o_putF C hin [.ref q0, .ref q1, .ref q2, .ref q3, .ref q4, .null, .int 0] kn_X6_24 (Nat.le_of_ble_eq_true rfl) rfl rfl rfl dX6_init_41 ?_
  refine n_aload C 0 dX6_init_44 rfl rfl ?_
  refine n_bipush C (12) dX6_init_45 (by decide) ?_
  refine p_newa C 12 (fun q5 => [(q0, .inl (E.2.2.1, 12, .inl (fun _ => 0))), (q1, .inl (E.2.2.1, 12, .inl (fun _ => 0))), (q2, .inl (E.2.2.1, 12, .inl (fun _ => 0))), (q3, .inl (E.2.2.1, 12, .inl (fun _ => 0))), (q4, .inl (E.2.2.1, 12, .inl (fun _ => 0))), (q5, .inl (E.2.2.1, 12, .inl (fun _ => 0)))]) (fun _ => rfl) w_152 (by decide) (by decide) (by decide) (Nat.le_of_ble_eq_true rfl) (Nat.le_of_ble_eq_true rfl) dX6_init_47 (fun q5 => ?_)
  refine o_putF C hin [.ref q0, .ref q1, .ref q2, .ref q3, .ref q4, .ref q5, .int 0] kn_X6_27 (Nat.le_of_ble_eq_true rfl) rfl rfl rfl dX6_init_49 ?_
  refine n_aload C 0 dX6_init_52 rfl rfl ?_
  refine n_iconst C (0) dX6_init_53 (by decide) ?_
  refine o_put C [.ref q0, .ref q1, .ref q2, .ref q3, .ref q4, .ref q5, .int 0] kn_X6_30 (Nat.le_of_ble_eq_true rfl) rfl rfl rfl dX6_init_54 ?_
  exact n_ret C T (fun k => ([q0, q1, q2, q3, q4, q5] : List Nat).getD k 0) rfl rfl rfl dX6_init_57
def wX7 (E : Ev) (h : Nat) (u : Nat → Nat) : va_W := (h, .inr (7, [.ref (u 0), .int 0, .int 0, .int 0, .int 0, .int 0, .int 0, .int 0, .int (-3)])) :: [(u 0, .inl (E.2.2.1, 60, .inl (fun _ => 0)))]
set_option maxHeartbeats 4000000 in
set_option maxRecDepth 100000 in
theorem i_X7 (E : Ev) : CtI E yX7_init cX7_init 1 1 1 60 7 [.null, .int 0, .int 0, .int 0, .int 0, .int 0, .int 0, .int 0, .int 0] (wX7 E) := by
  refine cti_of RX7 rfl (by decide +kernel) rfl (by decide) (fun h A G C hin T => ?_)
  refine n_aload C 0 dX7_init_0 rfl rfl ?_
  refine n_obj C w_279 w_101 w_102 rfl (Nat.le_of_ble_eq_true rfl) (Nat.le_of_ble_eq_true rfl) dX7_init_1 ?_
  refine n_aload C 0 dX7_init_4 rfl rfl ?_
  refine n_bipush C (60) dX7_init_5 (by decide) ?_
  refine p_newa C 60 (fun q0 => [(q0, .inl (E.2.2.1, 60, .inl (fun _ => 0)))]) (fun _ => rfl) w_152 (by decide) (by decide) (by decide) (Nat.le_of_ble_eq_true rfl) (Nat.le_of_ble_eq_true rfl) dX7_init_7 (fun q0 => ?_)
  refine o_putF C hin [.ref q0, .int 0, .int 0, .int 0, .int 0, .int 0, .int 0, .int 0, .int 0] kn_X7_9 (Nat.le_of_ble_eq_true rfl) rfl rfl rfl dX7_init_9 ?_
  refine n_aload C 0 dX7_init_12 rfl rfl ?_
  refine n_iconst C (0) dX7_init_13 (by decide) ?_
  refine o_put C [.ref q0, .int 0, .int 0, .int 0, .int 0, .int 0, .int 0, .int 0, .int 0] kn_X7_15 (Nat.le_of_ble_eq_true rfl) rfl rfl rfl dX7_init_14 ?_
  refine n_aload C 0 dX7_init_17 rfl rfl ?_
  refine n_iconst C (0) dX7_init_18 (by decide) ?_
  refine o_put C [.ref q0, .int 0, .int 0, .int 0, .int 0, .int 0, .int 0, .int 0, .int 0] kn_X7_19 (Nat.le_of_ble_eq_true rfl) rfl rfl rfl dX7_init_19 ?_
  refine n_aload C 0 dX7_init_22 rfl rfl ?_
  refine n_iconst C (0) dX7_init_23 (by decide) ?_
  refine o_put C [.ref q0, .int 0, .int 0, .int 0, .int 0, .int 0, .int 0, .int 0, .int 0] kn_X7_22 (Nat.le_of_ble_eq_true rfl) rfl rfl rfl dX7_init_24 ?_
  refine n_aload C 0 dX7_init_27 rfl rfl ?_
  refine n_iconst C (0) dX7_init_28 (by decide) ?_
  refine o_put C [.ref q0, .int 0, .int 0, .int 0, .int 0, .int 0, .int 0, .int 0, .int 0] kn_X7_25 (Nat.le_of_ble_eq_true rfl) rfl rfl rfl dX7_init_29 ?_
  refine n_aload C 0 dX7_init_32 rfl rfl ?_
  refine n_iconst C (0) dX7_init_33 (by decide) ?_
  refine o_put C [.ref q0, .int 0, .int 0, .int 0, .int 0, .int 0, .int 0, .int 0, .int 0] kn_X7_28 (Nat.le_of_ble_eq_true rfl) rfl rfl rfl dX7_init_34 ?_
  refine n_aload C 0 dX7_init_37 rfl rfl ?_
  refine n_iconst C (0) dX7_init_38 (by decide) ?_
  refine o_put C [.ref q0, .int 0, .int 0, .int 0, .int 0, .int 0, .int 0, .int 0, .int 0] kn_X7_31 (Nat.le_of_ble_eq_true rfl) rfl rfl rfl dX7_init_39 ?_
  refine n_aload C 0 dX7_init_42 rfl rfl ?_
  refine n_iconst C (0) dX7_init_43 (by decide) ?_
  refine o_put C [.ref q0, .int 0, .int 0, .int 0, .int 0, .int 0, .int 0, .int 0, .int 0] kn_X7_34 (Nat.le_of_ble_eq_true rfl) rfl rfl rfl dX7_init_44 ?_
  refine n_aload C 0 dX7_init_47 rfl rfl ?_
  refine n_bipush C (-3) dX7_init_48 (by decide) ?_
  refine o_put C [.ref q0, .int 0, .int 0, .int 0, .int 0, .int 0, .int 0, .int 0, .int (-3)] kn_X7_37 (Nat.le_of_ble_eq_true rfl) rfl rfl rfl dX7_init_50 ?_
  exact n_ret C T (fun k => ([q0] : List Nat).getD k 0) rfl rfl rfl dX7_init_53
def wX4 (E : Ev) (h : Nat) (u : Nat → Nat) : va_W := (h, .inr (4, [.ref (u 0), .ref (u 1), .ref (u 2), .int 0, .int 0, .int 0, .int 0, .ref (u 3), .ref (u 4), .ref (u 5)])) :: [(u 0, .inl (E.2.2.1, 7, .inl (fun _ => 0))), (u 1, .inl (E.2.2.1, 84, .inl (fun _ => 0))), (u 2, .inl (E.2.2.1, 84, .inl (fun _ => 0))), (u 3, .inl (E.2.2.1, 7, .inl (fun _ => 0))), (u 4, .inl (E.2.2.1, 7, .inl (fun _ => 0))), (u 5, .inl (E.2.2.1, 896, .inl (fun _ => 0)))]
set_option maxHeartbeats 4000000 in
set_option maxRecDepth 100000 in
theorem i_X4 (E : Ev) : CtI E yX4_init cX4_init 1 1 6 1085 4 [.null, .null, .null, .int 0, .int 0, .int 0, .int 0, .null, .null, .null] (wX4 E) := by
  refine cti_of RX4 rfl (by decide +kernel) rfl (by decide) (fun h A G C hin T => ?_)
  refine n_aload C 0 dX4_init_0 rfl rfl ?_
  refine n_obj C w_333 w_101 w_102 rfl (Nat.le_of_ble_eq_true rfl) (Nat.le_of_ble_eq_true rfl) dX4_init_1 ?_
  refine n_aload C 0 dX4_init_4 rfl rfl ?_
  refine n_bipush C (7) dX4_init_5 (by decide) ?_
  refine p_newa C 7 (fun q0 => [(q0, .inl (E.2.2.1, 7, .inl (fun _ => 0)))]) (fun _ => rfl) w_152 (by decide) (by decide) (by decide) (Nat.le_of_ble_eq_true rfl) (Nat.le_of_ble_eq_true rfl) dX4_init_7 (fun q0 => ?_)
  refine o_putF C hin [.ref q0, .null, .null, .int 0, .int 0, .int 0, .int 0, .null, .null, .null] kn_X4_9 (Nat.le_of_ble_eq_true rfl) rfl rfl rfl dX4_init_9 ?_
  refine n_aload C 0 dX4_init_12 rfl rfl ?_
  refine n_bipush C (84) dX4_init_13 (by decide) ?_
  refine p_newa C 84 (fun q1 => [(q0, .inl (E.2.2.1, 7, .inl (fun _ => 0))), (q1, .inl (E.2.2.1, 84, .inl (fun _ => 0)))]) (fun _ => rfl) w_152 (by decide) (by decide) (by decide) (Nat.le_of_ble_eq_true rfl) (Nat.le_of_ble_eq_true rfl) dX4_init_15 (fun q1 => ?_)
  refine o_putF C hin [.ref q0, .ref q1, .null, .int 0, .int 0, .int 0, .int 0, .null, .null, .null] kn_X4_15 (Nat.le_of_ble_eq_true rfl) rfl rfl rfl dX4_init_17 ?_
  refine n_aload C 0 dX4_init_20 rfl rfl ?_
  refine n_bipush C (84) dX4_init_21 (by decide) ?_
  refine p_newa C 84 (fun q2 => [(q0, .inl (E.2.2.1, 7, .inl (fun _ => 0))), (q1, .inl (E.2.2.1, 84, .inl (fun _ => 0))), (q2, .inl (E.2.2.1, 84, .inl (fun _ => 0)))]) (fun _ => rfl) w_152 (by decide) (by decide) (by decide) (Nat.le_of_ble_eq_true rfl) (Nat.le_of_ble_eq_true rfl) dX4_init_23 (fun q2 => ?_)
  refine o_putF C hin [.ref q0, .ref q1, .ref q2, .int 0, .int 0, .int 0, .int 0, .null, .null, .null] kn_X4_18 (Nat.le_of_ble_eq_true rfl) rfl rfl rfl dX4_init_25 ?_
  refine n_aload C 0 dX4_init_28 rfl rfl ?_
  refine n_iconst C (0) dX4_init_29 (by decide) ?_
  refine o_put C [.ref q0, .ref q1, .ref q2, .int 0, .int 0, .int 0, .int 0, .null, .null, .null] kn_X4_21 (Nat.le_of_ble_eq_true rfl) rfl rfl rfl dX4_init_30 ?_
  refine n_aload C 0 dX4_init_33 rfl rfl ?_
  refine n_iconst C (0) dX4_init_34 (by decide) ?_
  refine o_put C [.ref q0, .ref q1, .ref q2, .int 0, .int 0, .int 0, .int 0, .null, .null, .null] kn_X4_25 (Nat.le_of_ble_eq_true rfl) rfl rfl rfl dX4_init_35 ?_
  refine n_aload C 0 dX4_init_38 rfl rfl ?_
  refine n_iconst C (0) dX4_init_39 (by decide) ?_
  refine o_put C [.ref q0, .ref q1, .ref q2, .int 0, .int 0, .int 0, .int 0, .null, .null, .null] kn_X4_28 (Nat.le_of_ble_eq_true rfl) rfl rfl rfl dX4_init_40 ?_
  refine n_aload C 0 dX4_init_43 rfl rfl ?_
  refine n_iconst C (0) dX4_init_44 (by decide) ?_
  refine o_put C [.ref q0, .ref q1, .ref q2, .int 0, .int 0, .int 0, .int 0, .null, .null, .null] kn_X4_31 (Nat.le_of_ble_eq_true rfl) rfl rfl rfl dX4_init_45 ?_
  refine n_aload C 0 dX4_init_48 rfl rfl ?_
  refine n_bipush C (7) dX4_init_49 (by decide) ?_
  refine p_newa C 7 (fun q3 => [(q0, .inl (E.2.2.1, 7, .inl (fun _ => 0))), (q1, .inl (E.2.2.1, 84, .inl (fun _ => 0))), (q2, .inl (E.2.2.1, 84, .inl (fun _ => 0))), (q3, .inl (E.2.2.1, 7, .inl (fun _ => 0)))]) (fun _ => rfl) w_152 (by decide) (by decide) (by decide) (Nat.le_of_ble_eq_true rfl) (Nat.le_of_ble_eq_true rfl) dX4_init_51 (fun q3 => ?_)
  refine o_putF C hin [.ref q0, .ref q1, .ref q2, .int 0, .int 0, .int 0, .int 0, .ref q3, .null, .null] kn_X4_35 (Nat.le_of_ble_eq_true rfl) rfl rfl rfl dX4_init_53 ?_
  refine n_aload C 0 dX4_init_56 rfl rfl ?_
  refine n_bipush C (7) dX4_init_57 (by decide) ?_
  refine p_newa C 7 (fun q4 => [(q0, .inl (E.2.2.1, 7, .inl (fun _ => 0))), (q1, .inl (E.2.2.1, 84, .inl (fun _ => 0))), (q2, .inl (E.2.2.1, 84, .inl (fun _ => 0))), (q3, .inl (E.2.2.1, 7, .inl (fun _ => 0))), (q4, .inl (E.2.2.1, 7, .inl (fun _ => 0)))]) (fun _ => rfl) w_152 (by decide) (by decide) (by decide) (Nat.le_of_ble_eq_true rfl) (Nat.le_of_ble_eq_true rfl) dX4_init_59 (fun q4 => ?_)
  refine o_putF C hin [.ref q0, .ref q1, .ref q2, .int 0, .int 0, .int 0, .int 0, .ref q3, .ref q4, .null] kn_X4_38 (Nat.le_of_ble_eq_true rfl) rfl rfl rfl dX4_init_61 ?_
  refine n_aload C 0 dX4_init_64 rfl rfl ?_
  refine n_sipush C (896) dX4_init_65 (by decide) ?_
  refine p_newa C 896 (fun q5 => [(q0, .inl (E.2.2.1, 7, .inl (fun _ => 0))), (q1, .inl (E.2.2.1, 84, .inl (fun _ => 0))), (q2, .inl (E.2.2.1, 84, .inl (fun _ => 0))), (q3, .inl (E.2.2.1, 7, .inl (fun _ => 0))), (q4, .inl (E.2.2.1, 7, .inl (fun _ => 0))), (q5, .inl (E.2.2.1, 896, .inl (fun _ => 0)))]) (fun _ => rfl) w_152 (by decide) (by decide) (by decide) (Nat.le_of_ble_eq_true rfl) (Nat.le_of_ble_eq_true rfl) dX4_init_68 (fun q5 => ?_)
  refine o_putF C hin [.ref q0, .ref q1, .ref q2, .int 0, .int 0, .int 0, .int 0, .ref q3, .ref q4, .ref q5] kn_X4_41 (Nat.le_of_ble_eq_true rfl) rfl rfl rfl dX4_init_70 ?_
  exact n_ret C T (fun k => ([q0, q1, q2, q3, q4, q5] : List Nat).getD k 0) rfl rfl rfl dX4_init_73
def wX5 (E : Ev) (h : Nat) (u : Nat → Nat) : va_W := (h, .inr (5, [.ref (u 0), .ref (u 7), .ref (u 14), .ref (u 23)])) :: ([] ++ wX2 E (u 0) (fun k => u (1 + k)) ++ wX6 E (u 7) (fun k => u (8 + k)) ++ wX3 E (u 14) (fun k => u (15 + k)) ++ wX0 E (u 23) (fun k => u (24 + k)))
set_option maxHeartbeats 4000000 in
set_option maxRecDepth 100000 in
theorem i_X5 (E : Ev) : CtI E yX5_init cX5_init 1 2 25 227 5 [.null, .null, .null, .null] (wX5 E) := by
  refine cti_of RX5 rfl (by decide +kernel) rfl (by decide) (fun h A G C hin T => ?_)
  refine n_aload C 0 dX5_init_0 rfl rfl ?_
  refine n_obj C w_108 w_101 w_102 rfl (Nat.le_of_ble_eq_true rfl) (Nat.le_of_ble_eq_true rfl) dX5_init_1 ?_
  refine n_aload C 0 dX5_init_4 rfl rfl ?_
  refine o_new C kc_X5_9c (Nat.le_of_ble_eq_true rfl) (Nat.le_of_ble_eq_true rfl) dX5_init_5 (fun q0 => ?_)
  refine n_dup C dX5_init_8 rfl ?_
  refine o_callN C (i_X2 E) C.2.2.2.2.2.2.2.1.2.1 (List.forall_mem_cons.mpr ⟨w_112, (List.forall_mem_cons.mpr ⟨w_80, (List.forall_mem_cons.mpr ⟨w_113, (fun _ h => absurd h List.not_mem_nil)⟩)⟩)⟩) ⟨rfl, by decide +kernel⟩ (Nat.le_of_ble_eq_true rfl) (Nat.le_of_ble_eq_true rfl) (Nat.le_of_ble_eq_true rfl) (Nat.le_of_ble_eq_true rfl) (Nat.le_of_ble_eq_true rfl) dX5_init_9 (fun u1 => ?_)
  refine o_putF C hin [.ref q0, .null, .null, .null] kn_X5_12 (Nat.le_of_ble_eq_true rfl) rfl rfl rfl dX5_init_12 ?_
  refine n_aload C 0 dX5_init_15 rfl rfl ?_
  refine o_new C kc_X5_18c (Nat.le_of_ble_eq_true rfl) (Nat.le_of_ble_eq_true rfl) dX5_init_16 (fun q2 => ?_)
  refine n_dup C dX5_init_19 rfl ?_
  refine o_callN C (i_X6 E) C.2.2.2.2.2.2.2.1.2.2.1 (List.forall_mem_cons.mpr ⟨w_156, (List.forall_mem_cons.mpr ⟨w_81, (List.forall_mem_cons.mpr ⟨w_157, (fun _ h => absurd h List.not_mem_nil)⟩)⟩)⟩) ⟨rfl, by decide +kernel⟩ (Nat.le_of_ble_eq_true rfl) (Nat.le_of_ble_eq_true rfl) (Nat.le_of_ble_eq_true rfl) (Nat.le_of_ble_eq_true rfl) (Nat.le_of_ble_eq_true rfl) dX5_init_20 (fun u3 => ?_)
  refine o_putF C hin [.ref q0, .ref q2, .null, .null] kn_X5_21 (Nat.le_of_ble_eq_true rfl) rfl rfl rfl dX5_init_23 ?_
  refine n_aload C 0 dX5_init_26 rfl rfl ?_
  refine o_new C kc_X5_25c (Nat.le_of_ble_eq_true rfl) (Nat.le_of_ble_eq_true rfl) dX5_init_27 (fun q4 => ?_)
  refine n_dup C dX5_init_30 rfl ?_
  refine o_callN C (i_X3 E) C.2.2.2.2.2.2.2.1.2.2.2.1 (List.forall_mem_cons.mpr ⟨w_193, (List.forall_mem_cons.mpr ⟨w_82, (List.forall_mem_cons.mpr ⟨w_194, (fun _ h => absurd h List.not_mem_nil)⟩)⟩)⟩) ⟨rfl, by decide +kernel⟩ (Nat.le_of_ble_eq_true rfl) (Nat.le_of_ble_eq_true rfl) (Nat.le_of_ble_eq_true rfl) (Nat.le_of_ble_eq_true rfl) (Nat.le_of_ble_eq_true rfl) dX5_init_31 (fun u5 => ?_)
  refine o_putF C hin [.ref q0, .ref q2, .ref q4, .null] kn_X5_28 (Nat.le_of_ble_eq_true rfl) rfl rfl rfl dX5_init_34 ?_
  refine n_aload C 0 dX5_init_37 rfl rfl ?_
  refine o_new C kc_X5_32c (Nat.le_of_ble_eq_true rfl) (Nat.le_of_ble_eq_true rfl) dX5_init_38 (fun q6 => ?_)
  refine n_dup C dX5_init_41 rfl ?_
  refine o_callI C (i_X0 E) (List.forall_mem_cons.mpr ⟨w_244, (List.forall_mem_cons.mpr ⟨w_245, (List.forall_mem_cons.mpr ⟨w_83, (List.forall_mem_cons.mpr ⟨w_246, (fun _ h => absurd h List.not_mem_nil)⟩)⟩)⟩)⟩) ⟨rfl, by decide +kernel⟩ (Nat.le_of_ble_eq_true rfl) (Nat.le_of_ble_eq_true rfl) (Nat.le_of_ble_eq_true rfl) (Nat.le_of_ble_eq_true rfl) (Nat.le_of_ble_eq_true rfl) dX5_init_42 (fun u7 => ?_)
  refine o_putF C hin [.ref q0, .ref q2, .ref q4, .ref q6] kn_X5_35 (Nat.le_of_ble_eq_true rfl) rfl rfl rfl dX5_init_45 ?_
  exact n_ret C T (cat 1 (fun _ => q0) (cat 6 u1 (cat 1 (fun _ => q2) (cat 6 u3 (cat 1 (fun _ => q4) (cat 8 u5 (cat 1 (fun _ => q6) (cat 1 u7 (fun _ => 0))))))))) rfl rfl rfl dX5_init_48
def wX8 (E : Ev) (h : Nat) (u : Nat → Nat) : va_W := (h, .inr (8, [.ref (u 0), .ref (u 1), .ref (u 8), .ref (u 15), .ref (u 24), .ref (u 26), .ref (u 28), .ref (u 31), .int 0])) :: ([] ++ wX5 E (u 0) (fun k => u (1 + k)) ++ wX7 E (u 26) (fun k => u (27 + k)) ++ wX1 E (u 28) (fun k => u (29 + k)) ++ wX4 E (u 31) (fun k => u (32 + k)))
set_option maxHeartbeats 4000000 in
set_option maxRecDepth 100000 in
theorem i_X8 (E : Ev) : CtI E yX8_init cX8_init 1 3 38 1999 8 [.null, .null, .null, .null, .null, .null, .null, .null, .int 0] (wX8 E) := by
  refine cti_of RX8 rfl (by decide +kernel) rfl (by decide) (fun h A G C hin T => ?_)
  refine n_aload C 0 dX8_init_0 rfl rfl ?_
  refine n_obj C w_100 w_101 w_102 rfl (Nat.le_of_ble_eq_true rfl) (Nat.le_of_ble_eq_true rfl) dX8_init_1 ?_
  refine n_aload C 0 dX8_init_4 rfl rfl ?_
  refine o_new C kc_X8_7c (Nat.le_of_ble_eq_true rfl) (Nat.le_of_ble_eq_true rfl) dX8_init_5 (fun q0 => ?_)
  refine n_dup C dX8_init_8 rfl ?_
  refine o_callN C (i_X5 E) C.2.2.2.2.2.2.2.1.1 (List.forall_mem_cons.mpr ⟨w_106, (List.forall_mem_cons.mpr ⟨w_79, (List.forall_mem_cons.mpr ⟨w_107, (fun _ h => absurd h List.not_mem_nil)⟩)⟩)⟩) ⟨rfl, by decide +kernel⟩ (Nat.le_of_ble_eq_true rfl) (Nat.le_of_ble_eq_true rfl) (Nat.le_of_ble_eq_true rfl) (Nat.le_of_ble_eq_true rfl) (Nat.le_of_ble_eq_true rfl) dX8_init_9 (fun u1 => ?_)
  refine o_putF C hin [.ref q0, .null, .null, .null, .null, .null, .null, .null, .int 0] kn_X8_10 (Nat.le_of_ble_eq_true rfl) rfl rfl rfl dX8_init_12 ?_
  refine n_aload C 0 dX8_init_15 rfl rfl ?_
  refine n_aload C 0 dX8_init_16 rfl rfl ?_
  refine o_get C f_X8_10 rfl dX8_init_17 ?_
  refine n_get C 1 f_X8_16 rfl rfl dX8_init_20 ?_
  refine o_putF C hin [.ref q0, .ref (u1 0), .null, .null, .null, .null, .null, .null, .int 0] kn_X8_20 (Nat.le_of_ble_eq_true rfl) rfl rfl rfl dX8_init_23 ?_
  refine n_aload C 0 dX8_init_26 rfl rfl ?_
  refine n_aload C 0 dX8_init_27 rfl rfl ?_
  refine o_get C f_X8_10 rfl dX8_init_28 ?_
  refine n_get C 1 f_X8_21 rfl rfl dX8_init_31 ?_
  refine o_putF C hin [.ref q0, .ref (u1 0), .ref (u1 7), .null, .null, .null, .null, .null, .int 0] kn_X8_25 (Nat.le_of_ble_eq_true rfl) rfl rfl rfl dX8_init_34 ?_
  refine n_aload C 0 dX8_init_37 rfl rfl ?_
  refine n_aload C 0 dX8_init_38 rfl rfl ?_
  refine o_get C f_X8_10 rfl dX8_init_39 ?_
  refine n_get C 1 f_X8_26 rfl rfl dX8_init_42 ?_
  refine o_putF C hin [.ref q0, .ref (u1 0), .ref (u1 7), .ref (u1 14), .null, .null, .null, .null, .int 0] kn_X8_30 (Nat.le_of_ble_eq_true rfl) rfl rfl rfl dX8_init_45 ?_
  refine n_aload C 0 dX8_init_48 rfl rfl ?_
  refine n_aload C 0 dX8_init_49 rfl rfl ?_
  refine o_get C f_X8_10 rfl dX8_init_50 ?_
  refine n_get C 1 f_X8_31 rfl rfl dX8_init_53 ?_
  refine o_putF C hin [.ref q0, .ref (u1 0), .ref (u1 7), .ref (u1 14), .ref (u1 23), .null, .null, .null, .int 0] kn_X8_35 (Nat.le_of_ble_eq_true rfl) rfl rfl rfl dX8_init_56 ?_
  refine n_aload C 0 dX8_init_59 rfl rfl ?_
  refine o_new C kc_X8_36c (Nat.le_of_ble_eq_true rfl) (Nat.le_of_ble_eq_true rfl) dX8_init_60 (fun q2 => ?_)
  refine n_dup C dX8_init_63 rfl ?_
  refine o_callN C (i_X7 E) C.2.2.2.2.2.2.2.1.2.2.2.2.1 (List.forall_mem_cons.mpr ⟨w_277, (List.forall_mem_cons.mpr ⟨w_84, (List.forall_mem_cons.mpr ⟨w_278, (fun _ h => absurd h List.not_mem_nil)⟩)⟩)⟩) ⟨rfl, by decide +kernel⟩ (Nat.le_of_ble_eq_true rfl) (Nat.le_of_ble_eq_true rfl) (Nat.le_of_ble_eq_true rfl) (Nat.le_of_ble_eq_true rfl) (Nat.le_of_ble_eq_true rfl) dX8_init_64 (fun u3 => ?_)
  refine o_putF C hin [.ref q0, .ref (u1 0), .ref (u1 7), .ref (u1 14), .ref (u1 23), .ref q2, .null, .null, .int 0] kn_X8_39 (Nat.le_of_ble_eq_true rfl) rfl rfl rfl dX8_init_67 ?_
  refine n_aload C 0 dX8_init_70 rfl rfl ?_
  refine o_new C kc_X8_43c (Nat.le_of_ble_eq_true rfl) (Nat.le_of_ble_eq_true rfl) dX8_init_71 (fun q4 => ?_)
  refine n_dup C dX8_init_74 rfl ?_
  refine o_callN C (i_X1 E) C.2.2.2.2.2.2.2.1.2.2.2.2.2.1 (List.forall_mem_cons.mpr ⟨w_316, (List.forall_mem_cons.mpr ⟨w_85, (List.forall_mem_cons.mpr ⟨w_317, (fun _ h => absurd h List.not_mem_nil)⟩)⟩)⟩) ⟨rfl, by decide +kernel⟩ (Nat.le_of_ble_eq_true rfl) (Nat.le_of_ble_eq_true rfl) (Nat.le_of_ble_eq_true rfl) (Nat.le_of_ble_eq_true rfl) (Nat.le_of_ble_eq_true rfl) dX8_init_75 (fun u5 => ?_)
  refine o_putF C hin [.ref q0, .ref (u1 0), .ref (u1 7), .ref (u1 14), .ref (u1 23), .ref q2, .ref q4, .null, .int 0] kn_X8_46 (Nat.le_of_ble_eq_true rfl) rfl rfl rfl dX8_init_78 ?_
  refine n_aload C 0 dX8_init_81 rfl rfl ?_
  refine o_new C kc_X8_50c (Nat.le_of_ble_eq_true rfl) (Nat.le_of_ble_eq_true rfl) dX8_init_82 (fun q6 => ?_)
  refine n_dup C dX8_init_85 rfl ?_
  refine o_callN C (i_X4 E) C.2.2.2.2.2.2.2.1.2.2.2.2.2.2 (List.forall_mem_cons.mpr ⟨w_331, (List.forall_mem_cons.mpr ⟨w_86, (List.forall_mem_cons.mpr ⟨w_332, (fun _ h => absurd h List.not_mem_nil)⟩)⟩)⟩) ⟨rfl, by decide +kernel⟩ (Nat.le_of_ble_eq_true rfl) (Nat.le_of_ble_eq_true rfl) (Nat.le_of_ble_eq_true rfl) (Nat.le_of_ble_eq_true rfl) (Nat.le_of_ble_eq_true rfl) dX8_init_86 (fun u7 => ?_)
  refine o_putF C hin [.ref q0, .ref (u1 0), .ref (u1 7), .ref (u1 14), .ref (u1 23), .ref q2, .ref q4, .ref q6, .int 0] kn_X8_53 (Nat.le_of_ble_eq_true rfl) rfl rfl rfl dX8_init_89 ?_
  refine n_aload C 0 dX8_init_92 rfl rfl ?_
  refine n_iconst C (0) dX8_init_93 (by decide) ?_
  refine o_put C [.ref q0, .ref (u1 0), .ref (u1 7), .ref (u1 14), .ref (u1 23), .ref q2, .ref q4, .ref q6, .int 0] kn_X8_57 (Nat.le_of_ble_eq_true rfl) rfl rfl rfl dX8_init_94 ?_
  exact n_ret C T (cat 1 (fun _ => q0) (cat 25 u1 (cat 1 (fun _ => q2) (cat 1 u3 (cat 1 (fun _ => q4) (cat 2 u5 (cat 1 (fun _ => q6) (cat 6 u7 (fun _ => 0))))))))) rfl rfl rfl dX8_init_97
def wA9 (E : Ev) (h : Nat) (u : Nat → Nat) (f : Nat → Int32) : va_W := (h, .inr (9, [.int 0, .int 0, .ref (u 0), .ref (u 1), .ref (u 2), .ref (u 3), .ref (u 4), .ref (u 5), .int 0, .ref (u 6), .ref (u 7), .ref (u 8), .ref (u 9), .ref (u 10), .ref (u 11), .ref (u 12), .ref (u 13), .int 0, .ref (u 14), .ref (u 15), .ref (u 16), .ref (u 17), .ref (u 18), .ref (u 19), .ref (u 20), .ref (u 21), .ref (u 22), .ref (u 23), .ref (u 24), .int 0, .ref (u 25), .int 0, .int 0, .int 0, .int 0, .int 0, .int 0, .int 0, .ref (u 26), .int 0, .int 0, .ref (u 27), .int 0, .ref (u 28), .int 0, .ref (u 29), .int 0])) :: [(u 0, .inl (E.2.2.1, 12, .inl (fun _ => 0))), (u 1, .inl (E.2.2.1, 12, .inl (fun _ => 0))), (u 2, .inl (E.2.2.1, 12, .inl (fun _ => 0))), (u 3, .inl (E.2.2.1, 12, .inl (fun _ => 0))), (u 4, .inl (E.2.2.2, 12, .inl (fun _ => 0))), (u 5, .inl (E.2.2.2, 30, .inl (fun _ => 0))), (u 6, .inl (E.2.2.1, 12, .inl (fun _ => 0))), (u 7, .inl (E.2.2.1, 12, .inl (fun _ => 0))), (u 8, .inl (E.2.2.1, 12, .inl (fun _ => 0))), (u 9, .inl (E.2.2.1, 12, .inl (fun _ => 0))), (u 10, .inl (E.2.2.1, 12, .inl (fun _ => 0))), (u 11, .inl (E.2.2.1, 12, .inl (fun _ => 0))), (u 12, .inl (E.2.2.2, 8, .inl (fun _ => 0))), (u 13, .inl (E.2.2.1, 8, .inl f)), (u 14, .inl (E.2.2.1, 7, .inl (fun _ => 0))), (u 15, .inl (E.2.2.1, 7, .inl (fun _ => 0))), (u 16, .inl (E.2.2.1, 7, .inl (fun _ => 0))), (u 17, .inl (E.2.2.1, 7, .inl (fun _ => 0))), (u 18, .inl (E.2.2.1, 7, .inl (fun _ => 0))), (u 19, .inl (E.2.2.1, 7, .inl (fun _ => 0))), (u 20, .inl (E.2.2.1, 7, .inl (fun _ => 0))), (u 21, .inl (E.2.2.1, 7, .inl (fun _ => 0))), (u 22, .inl (E.2.2.1, 301, .inl (fun _ => 0))), (u 23, .inl (E.2.2.1, 301, .inl (fun _ => 0))), (u 24, .inl (E.2.2.1, 60, .inl (fun _ => 0))), (u 25, .inl (E.2.2.1, 10, .inl (fun _ => 0))), (u 26, .inl (E.2.2.1, 896, .inl (fun _ => 0))), (u 27, .inl (E.2.2.1, 7, .inl (fun _ => 0))), (u 28, .inl (E.2.2.1, 84, .inl (fun _ => 0))), (u 29, .inl (E.2.2.1, 84, .inl (fun _ => 0)))]
def wX9 (E : Ev) (h : Nat) (u : Nat → Nat) : va_W := wA9 E h u neg8
set_option maxHeartbeats 4000000 in
set_option maxRecDepth 100000 in
theorem i_X9 (E : Ev) : CtI E yX9_init cX9_init 2 1 30 1977 9 [.int 0, .int 0, .null, .null, .null, .null, .null, .null, .int 0, .null, .null, .null, .null, .null, .null, .null, .null, .int 0, .null, .null, .null, .null, .null, .null, .null, .null, .null, .null, .null, .int 0, .null, .int 0, .int 0, .int 0, .int 0, .int 0, .int 0, .int 0, .null, .int 0, .int 0, .null, .int 0, .null, .int 0, .null, .int 0] (wX9 E) := by
  refine cti_of RX9 rfl (by decide +kernel) rfl (by decide) (fun h A G C hin T => ?_)
  refine n_aload C 0 dX9_init_0 rfl rfl ?_
  refine n_obj C w_959 w_101 w_102 rfl (Nat.le_of_ble_eq_true rfl) (Nat.le_of_ble_eq_true rfl) dX9_init_1 ?_
  refine n_aload C 0 dX9_init_4 rfl rfl ?_
  refine n_bipush C (12) dX9_init_5 (by decide) ?_
  refine p_newa C 12 (fun q0 => [(q0, .inl (E.2.2.1, 12, .inl (fun _ => 0)))]) (fun _ => rfl) w_152 (by decide) (by decide) (by decide) (Nat.le_of_ble_eq_true rfl) (Nat.le_of_ble_eq_true rfl) dX9_init_7 (fun q0 => ?_)
  refine o_putF C hin [.int 0, .int 0, .ref q0, .null, .null, .null, .null, .null, .int 0, .null, .null, .null, .null, .null, .null, .null, .null, .int 0, .null, .null, .null, .null, .null, .null, .null, .null, .null, .null, .null, .int 0, .null, .int 0, .int 0, .int 0, .int 0, .int 0, .int 0, .int 0, .null, .int 0, .int 0, .null, .int 0, .null, .int 0, .null, .int 0] kn_X9_7 (Nat.le_of_ble_eq_true rfl) rfl rfl rfl dX9_init_9 ?_
  refine n_aload C 0 dX9_init_12 rfl rfl ?_
  refine n_bipush C (12) dX9_init_13 (by decide) ?_
  refine p_newa C 12 (fun q1 => [(q0, .inl (E.2.2.1, 12, .inl (fun _ => 0))), (q1, .inl (E.2.2.1, 12, .inl (fun _ => 0)))]) (fun _ => rfl) w_152 (by decide) (by decide) (by decide) (Nat.le_of_ble_eq_true rfl) (Nat.le_of_ble_eq_true rfl) dX9_init_15 (fun q1 => ?_)
  refine o_putF C hin [.int 0, .int 0, .ref q0, .ref q1, .null, .null, .null, .null, .int 0, .null, .null, .null, .null, .null, .null, .null, .null, .int 0, .null, .null, .null, .null, .null, .null, .null, .null, .null, .null, .null, .int 0, .null, .int 0, .int 0, .int 0, .int 0, .int 0, .int 0, .int 0, .null, .int 0, .int 0, .null, .int 0, .null, .int 0, .null, .int 0] kn_X9_13 (Nat.le_of_ble_eq_true rfl) rfl rfl rfl dX9_init_17 ?_
  refine n_aload C 0 dX9_init_20 rfl rfl ?_
  refine n_bipush C (12) dX9_init_21 (by decide) ?_
  refine p_newa C 12 (fun q2 => [(q0, .inl (E.2.2.1, 12, .inl (fun _ => 0))), (q1, .inl (E.2.2.1, 12, .inl (fun _ => 0))), (q2, .inl (E.2.2.1, 12, .inl (fun _ => 0)))]) (fun _ => rfl) w_152 (by decide) (by decide) (by decide) (Nat.le_of_ble_eq_true rfl) (Nat.le_of_ble_eq_true rfl) dX9_init_23 (fun q2 => ?_)
  refine o_putF C hin [.int 0, .int 0, .ref q0, .ref q1, .ref q2, .null, .null, .null, .int 0, .null, .null, .null, .null, .null, .null, .null, .null, .int 0, .null, .null, .null, .null, .null, .null, .null, .null, .null, .null, .null, .int 0, .null, .int 0, .int 0, .int 0, .int 0, .int 0, .int 0, .int 0, .null, .int 0, .int 0, .null, .int 0, .null, .int 0, .null, .int 0] kn_X9_16 (Nat.le_of_ble_eq_true rfl) rfl rfl rfl dX9_init_25 ?_
  refine n_aload C 0 dX9_init_28 rfl rfl ?_
  refine n_bipush C (12) dX9_init_29 (by decide) ?_
  refine p_newa C 12 (fun q3 => [(q0, .inl (E.2.2.1, 12, .inl (fun _ => 0))), (q1, .inl (E.2.2.1, 12, .inl (fun _ => 0))), (q2, .inl (E.2.2.1, 12, .inl (fun _ => 0))), (q3, .inl (E.2.2.1, 12, .inl (fun _ => 0)))]) (fun _ => rfl) w_152 (by decide) (by decide) (by decide) (Nat.le_of_ble_eq_true rfl) (Nat.le_of_ble_eq_true rfl) dX9_init_31 (fun q3 => ?_)
  refine o_putF C hin [.int 0, .int 0, .ref q0, .ref q1, .ref q2, .ref q3, .null, .null, .int 0, .null, .null, .null, .null, .null, .null, .null, .null, .int 0, .null, .null, .null, .null, .null, .null, .null, .null, .null, .null, .null, .int 0, .null, .int 0, .int 0, .int 0, .int 0, .int 0, .int 0, .int 0, .null, .int 0, .int 0, .null, .int 0, .null, .int 0, .null, .int 0] kn_X9_19 (Nat.le_of_ble_eq_true rfl) rfl rfl rfl dX9_init_33 ?_
  refine n_aload C 0 dX9_init_36 rfl rfl ?_
  refine n_bipush C (12) dX9_init_37 (by decide) ?_
  refine p_newz C 12 (fun q4 => [(q0, .inl (E.2.2.1, 12, .inl (fun _ => 0))), (q1, .inl (E.2.2.1, 12, .inl (fun _ => 0))), (q2, .inl (E.2.2.1, 12, .inl (fun _ => 0))), (q3, .inl (E.2.2.1, 12, .inl (fun _ => 0))), (q4, .inl (E.2.2.2, 12, .inl (fun _ => 0)))]) (fun _ => rfl) w_1102 (by decide) (by decide) (by decide) (Nat.le_of_ble_eq_true rfl) (Nat.le_of_ble_eq_true rfl) dX9_init_39 (fun q4 => ?_)
  refine o_putF C hin [.int 0, .int 0, .ref q0, .ref q1, .ref q2, .ref q3, .ref q4, .null, .int 0, .null, .null, .null, .null, .null, .null, .null, .null, .int 0, .null, .null, .null, .null, .null, .null, .null, .null, .null, .null, .null, .int 0, .null, .int 0, .int 0, .int 0, .int 0, .int 0, .int 0, .int 0, .null, .int 0, .int 0, .null, .int 0, .null, .int 0, .null, .int 0] kn_X9_22 (Nat.le_of_ble_eq_true rfl) rfl rfl rfl dX9_init_41 ?_
  refine n_aload C 0 dX9_init_44 rfl rfl ?_
  refine n_bipush C (30) dX9_init_45 (by decide) ?_
  refine p_newz C 30 (fun q5 => [(q0, .inl (E.2.2.1, 12, .inl (fun _ => 0))), (q1, .inl (E.2.2.1, 12, .inl (fun _ => 0))), (q2, .inl (E.2.2.1, 12, .inl (fun _ => 0))), (q3, .inl (E.2.2.1, 12, .inl (fun _ => 0))), (q4, .inl (E.2.2.2, 12, .inl (fun _ => 0))), (q5, .inl (E.2.2.2, 30, .inl (fun _ => 0)))]) (fun _ => rfl) w_1102 (by decide) (by decide) (by decide) (Nat.le_of_ble_eq_true rfl) (Nat.le_of_ble_eq_true rfl) dX9_init_47 (fun q5 => ?_)
  refine o_putF C hin [.int 0, .int 0, .ref q0, .ref q1, .ref q2, .ref q3, .ref q4, .ref q5, .int 0, .null, .null, .null, .null, .null, .null, .null, .null, .int 0, .null, .null, .null, .null, .null, .null, .null, .null, .null, .null, .null, .int 0, .null, .int 0, .int 0, .int 0, .int 0, .int 0, .int 0, .int 0, .null, .int 0, .int 0, .null, .int 0, .null, .int 0, .null, .int 0] kn_X9_26 (Nat.le_of_ble_eq_true rfl) rfl rfl rfl dX9_init_49 ?_
  refine n_aload C 0 dX9_init_52 rfl rfl ?_
  refine n_bipush C (12) dX9_init_53 (by decide) ?_
  refine p_newa C 12 (fun q6 => [(q0, .inl (E.2.2.1, 12, .inl (fun _ => 0))), (q1, .inl (E.2.2.1, 12, .inl (fun _ => 0))), (q2, .inl (E.2.2.1, 12, .inl (fun _ => 0))), (q3, .inl (E.2.2.1, 12, .inl (fun _ => 0))), (q4, .inl (E.2.2.2, 12, .inl (fun _ => 0))), (q5, .inl (E.2.2.2, 30, .inl (fun _ => 0))), (q6, .inl (E.2.2.1, 12, .inl (fun _ => 0)))]) (fun _ => rfl) w_152 (by decide) (by decide) (by decide) (Nat.le_of_ble_eq_true rfl) (Nat.le_of_ble_eq_true rfl) dX9_init_55 (fun q6 => ?_)
  refine o_putF C hin [.int 0, .int 0, .ref q0, .ref q1, .ref q2, .ref q3, .ref q4, .ref q5, .int 0, .ref q6, .null, .null, .null, .null, .null, .null, .null, .int 0, .null, .null, .null, .null, .null, .null, .null, .null, .null, .null, .null, .int 0, .null, .int 0, .int 0, .int 0, .int 0, .int 0, .int 0, .int 0, .null, .int 0, .int 0, .null, .int 0, .null, .int 0, .null, .int 0] kn_X9_29 (Nat.le_of_ble_eq_true rfl) rfl rfl rfl dX9_init_57 ?_
  refine n_aload C 0 dX9_init_60 rfl rfl ?_
  refine n_bipush C (12) dX9_init_61 (by decide) ?_
  refine p_newa C 12 (fun q7 => [(q0, .inl (E.2.2.1, 12, .inl (fun _ => 0))), (q1, .inl (E.2.2.1, 12, .inl (fun _ => 0))), (q2, .inl (E.2.2.1, 12, .inl (fun _ => 0))), (q3, .inl (E.2.2.1, 12, .inl (fun _ => 0))), (q4, .inl (E.2.2.2, 12, .inl (fun _ => 0))), (q5, .inl (E.2.2.2, 30, .inl (fun _ => 0))), (q6, .inl (E.2.2.1, 12, .inl (fun _ => 0))), (q7, .inl (E.2.2.1, 12, .inl (fun _ => 0)))]) (fun _ => rfl) w_152 (by decide) (by decide) (by decide) (Nat.le_of_ble_eq_true rfl) (Nat.le_of_ble_eq_true rfl) dX9_init_63 (fun q7 => ?_)
  refine o_putF C hin [.int 0, .int 0, .ref q0, .ref q1, .ref q2, .ref q3, .ref q4, .ref q5, .int 0, .ref q6, .ref q7, .null, .null, .null, .null, .null, .null, .int 0, .null, .null, .null, .null, .null, .null, .null, .null, .null, .null, .null, .int 0, .null, .int 0, .int 0, .int 0, .int 0, .int 0, .int 0, .int 0, .null, .int 0, .int 0, .null, .int 0, .null, .int 0, .null, .int 0] kn_X9_32 (Nat.le_of_ble_eq_true rfl) rfl rfl rfl dX9_init_65 ?_
  refine n_aload C 0 dX9_init_68 rfl rfl ?_
  refine n_bipush C (12) dX9_init_69 (by decide) ?_
  refine p_newa C 12 (fun q8 => [(q0, .inl (E.2.2.1, 12, .inl (fun _ => 0))), (q1, .inl (E.2.2.1, 12, .inl (fun _ => 0))), (q2, .inl (E.2.2.1, 12, .inl (fun _ => 0))), (q3, .inl (E.2.2.1, 12, .inl (fun _ => 0))), (q4, .inl (E.2.2.2, 12, .inl (fun _ => 0))), (q5, .inl (E.2.2.2, 30, .inl (fun _ => 0))), (q6, .inl (E.2.2.1, 12, .inl (fun _ => 0))), (q7, .inl (E.2.2.1, 12, .inl (fun _ => 0))), (q8, .inl (E.2.2.1, 12, .inl (fun _ => 0)))]) (fun _ => rfl) w_152 (by decide) (by decide) (by decide) (Nat.le_of_ble_eq_true rfl) (Nat.le_of_ble_eq_true rfl) dX9_init_71 (fun q8 => ?_)
  refine o_putF C hin [.int 0, .int 0, .ref q0, .ref q1, .ref q2, .ref q3, .ref q4, .ref q5, .int 0, .ref q6, .ref q7, .ref q8, .null, .null, .null, .null, .null, .int 0, .null, .null, .null, .null, .null, .null, .null, .null, .null, .null, .null, .int 0, .null, .int 0, .int 0, .int 0, .int 0, .int 0, .int 0, .int 0, .null, .int 0, .int 0, .null, .int 0, .null, .int 0, .null, .int 0] kn_X9_35 (Nat.le_of_ble_eq_true rfl) rfl rfl rfl dX9_init_73 ?_
  refine n_aload C 0 dX9_init_76 rfl rfl ?_
  refine n_bipush C (12) dX9_init_77 (by decide) ?_
  refine p_newa C 12 (fun q9 => [(q0, .inl (E.2.2.1, 12, .inl (fun _ => 0))), (q1, .inl (E.2.2.1, 12, .inl (fun _ => 0))), (q2, .inl (E.2.2.1, 12, .inl (fun _ => 0))), (q3, .inl (E.2.2.1, 12, .inl (fun _ => 0))), (q4, .inl (E.2.2.2, 12, .inl (fun _ => 0))), (q5, .inl (E.2.2.2, 30, .inl (fun _ => 0))), (q6, .inl (E.2.2.1, 12, .inl (fun _ => 0))), (q7, .inl (E.2.2.1, 12, .inl (fun _ => 0))), (q8, .inl (E.2.2.1, 12, .inl (fun _ => 0))), (q9, .inl (E.2.2.1, 12, .inl (fun _ => 0)))]) (fun _ => rfl) w_152 (by decide) (by decide) (by decide) (Nat.le_of_ble_eq_true rfl) (Nat.le_of_ble_eq_true rfl) dX9_init_79 (fun q9 => ?_)
  refine o_putF C hin [.int 0, .int 0, .ref q0, .ref q1, .ref q2, .ref q3, .ref q4, .ref q5, .int 0, .ref q6, .ref q7, .ref q8, .ref q9, .null, .null, .null, .null, .int 0, .null, .null, .null, .null, .null, .null, .null, .null, .null, .null, .null, .int 0, .null, .int 0, .int 0, .int 0, .int 0, .int 0, .int 0, .int 0, .null, .int 0, .int 0, .null, .int 0, .null, .int 0, .null, .int 0] kn_X9_38 (Nat.le_of_ble_eq_true rfl) rfl rfl rfl dX9_init_81 ?_
  refine n_aload C 0 dX9_init_84 rfl rfl ?_
  refine n_bipush C (12) dX9_init_85 (by decide) ?_
  refine p_newa C 12 (fun q10 => [(q0, .inl (E.2.2.1, 12, .inl (fun _ => 0))), (q1, .inl (E.2.2.1, 12, .inl (fun _ => 0))), (q2, .inl (E.2.2.1, 12, .inl (fun _ => 0))), (q3, .inl (E.2.2.1, 12, .inl (fun _ => 0))), (q4, .inl (E.2.2.2, 12, .inl (fun _ => 0))), (q5, .inl (E.2.2.2, 30, .inl (fun _ => 0))), (q6, .inl (E.2.2.1, 12, .inl (fun _ => 0))), (q7, .inl (E.2.2.1, 12, .inl (fun _ => 0))), (q8, .inl (E.2.2.1, 12, .inl (fun _ => 0))), (q9, .inl (E.2.2.1, 12, .inl (fun _ => 0))), (q10, .inl (E.2.2.1, 12, .inl (fun _ => 0)))]) (fun _ => rfl) w_152 (by decide) (by decide) (by decide) (Nat.le_of_ble_eq_true rfl) (Nat.le_of_ble_eq_true rfl) dX9_init_87 (fun q10 => ?_)
  refine o_putF C hin [.int 0, .int 0, .ref q0, .ref q1, .ref q2, .ref q3, .ref q4, .ref q5, .int 0, .ref q6, .ref q7, .ref q8, .ref q9, .ref q10, .null, .null, .null, .int 0, .null, .null, .null, .null, .null, .null, .null, .null, .null, .null, .null, .int 0, .null, .int 0, .int 0, .int 0, .int 0, .int 0, .int 0, .int 0, .null, .int 0, .int 0, .null, .int 0, .null, .int 0, .null, .int 0] kn_X9_41 (Nat.le_of_ble_eq_true rfl) rfl rfl rfl dX9_init_89 ?_
  refine n_aload C 0 dX9_init_92 rfl rfl ?_
  refine n_bipush C (12) dX9_init_93 (by decide) ?_
  refine p_newa C 12 (fun q11 => [(q0, .inl (E.2.2.1, 12, .inl (fun _ => 0))), (q1, .inl (E.2.2.1, 12, .inl (fun _ => 0))), (q2, .inl (E.2.2.1, 12, .inl (fun _ => 0))), (q3, .inl (E.2.2.1, 12, .inl (fun _ => 0))), (q4, .inl (E.2.2.2, 12, .inl (fun _ => 0))), (q5, .inl (E.2.2.2, 30, .inl (fun _ => 0))), (q6, .inl (E.2.2.1, 12, .inl (fun _ => 0))), (q7, .inl (E.2.2.1, 12, .inl (fun _ => 0))), (q8, .inl (E.2.2.1, 12, .inl (fun _ => 0))), (q9, .inl (E.2.2.1, 12, .inl (fun _ => 0))), (q10, .inl (E.2.2.1, 12, .inl (fun _ => 0))), (q11, .inl (E.2.2.1, 12, .inl (fun _ => 0)))]) (fun _ => rfl) w_152 (by decide) (by decide) (by decide) (Nat.le_of_ble_eq_true rfl) (Nat.le_of_ble_eq_true rfl) dX9_init_95 (fun q11 => ?_)
  refine o_putF C hin [.int 0, .int 0, .ref q0, .ref q1, .ref q2, .ref q3, .ref q4, .ref q5, .int 0, .ref q6, .ref q7, .ref q8, .ref q9, .ref q10, .ref q11, .null, .null, .int 0, .null, .null, .null, .null, .null, .null, .null, .null, .null, .null, .null, .int 0, .null, .int 0, .int 0, .int 0, .int 0, .int 0, .int 0, .int 0, .null, .int 0, .int 0, .null, .int 0, .null, .int 0, .null, .int 0] kn_X9_44 (Nat.le_of_ble_eq_true rfl) rfl rfl rfl dX9_init_97 ?_
  refine n_aload C 0 dX9_init_100 rfl rfl ?_
  refine n_bipush C (8) dX9_init_101 (by decide) ?_
  refine p_newz C 8 (fun q12 => [(q0, .inl (E.2.2.1, 12, .inl (fun _ => 0))), (q1, .inl (E.2.2.1, 12, .inl (fun _ => 0))), (q2, .inl (E.2.2.1, 12, .inl (fun _ => 0))), (q3, .inl (E.2.2.1, 12, .inl (fun _ => 0))), (q4, .inl (E.2.2.2, 12, .inl (fun _ => 0))), (q5, .inl (E.2.2.2, 30, .inl (fun _ => 0))), (q6, .inl (E.2.2.1, 12, .inl (fun _ => 0))), (q7, .inl (E.2.2.1, 12, .inl (fun _ => 0))), (q8, .inl (E.2.2.1, 12, .inl (fun _ => 0))), (q9, .inl (E.2.2.1, 12, .inl (fun _ => 0))), (q10, .inl (E.2.2.1, 12, .inl (fun _ => 0))), (q11, .inl (E.2.2.1, 12, .inl (fun _ => 0))), (q12, .inl (E.2.2.2, 8, .inl (fun _ => 0)))]) (fun _ => rfl) w_1102 (by decide) (by decide) (by decide) (Nat.le_of_ble_eq_true rfl) (Nat.le_of_ble_eq_true rfl) dX9_init_103 (fun q12 => ?_)
  refine o_putF C hin [.int 0, .int 0, .ref q0, .ref q1, .ref q2, .ref q3, .ref q4, .ref q5, .int 0, .ref q6, .ref q7, .ref q8, .ref q9, .ref q10, .ref q11, .ref q12, .null, .int 0, .null, .null, .null, .null, .null, .null, .null, .null, .null, .null, .null, .int 0, .null, .int 0, .int 0, .int 0, .int 0, .int 0, .int 0, .int 0, .null, .int 0, .int 0, .null, .int 0, .null, .int 0, .null, .int 0] kn_X9_47 (Nat.le_of_ble_eq_true rfl) rfl rfl rfl dX9_init_105 ?_
  refine n_aload C 0 dX9_init_108 rfl rfl ?_
  refine n_bipush C (8) dX9_init_109 (by decide) ?_
  refine p_newa C 8 (fun q13 => [(q0, .inl (E.2.2.1, 12, .inl (fun _ => 0))), (q1, .inl (E.2.2.1, 12, .inl (fun _ => 0))), (q2, .inl (E.2.2.1, 12, .inl (fun _ => 0))), (q3, .inl (E.2.2.1, 12, .inl (fun _ => 0))), (q4, .inl (E.2.2.2, 12, .inl (fun _ => 0))), (q5, .inl (E.2.2.2, 30, .inl (fun _ => 0))), (q6, .inl (E.2.2.1, 12, .inl (fun _ => 0))), (q7, .inl (E.2.2.1, 12, .inl (fun _ => 0))), (q8, .inl (E.2.2.1, 12, .inl (fun _ => 0))), (q9, .inl (E.2.2.1, 12, .inl (fun _ => 0))), (q10, .inl (E.2.2.1, 12, .inl (fun _ => 0))), (q11, .inl (E.2.2.1, 12, .inl (fun _ => 0))), (q12, .inl (E.2.2.2, 8, .inl (fun _ => 0))), (q13, .inl (E.2.2.1, 8, .inl (fun _ => 0)))]) (fun _ => rfl) w_152 (by decide) (by decide) (by decide) (Nat.le_of_ble_eq_true rfl) (Nat.le_of_ble_eq_true rfl) dX9_init_111 (fun q13 => ?_)
  refine o_putF C hin [.int 0, .int 0, .ref q0, .ref q1, .ref q2, .ref q3, .ref q4, .ref q5, .int 0, .ref q6, .ref q7, .ref q8, .ref q9, .ref q10, .ref q11, .ref q12, .ref q13, .int 0, .null, .null, .null, .null, .null, .null, .null, .null, .null, .null, .null, .int 0, .null, .int 0, .int 0, .int 0, .int 0, .int 0, .int 0, .int 0, .null, .int 0, .int 0, .null, .int 0, .null, .int 0, .null, .int 0] kn_X9_50 (Nat.le_of_ble_eq_true rfl) rfl rfl rfl dX9_init_113 ?_
  refine n_aload C 0 dX9_init_116 rfl rfl ?_
  refine n_bipush C (7) dX9_init_117 (by decide) ?_
  refine p_newa C 7 (fun q14 => [(q0, .inl (E.2.2.1, 12, .inl (fun _ => 0))), (q1, .inl (E.2.2.1, 12, .inl (fun _ => 0))), (q2, .inl (E.2.2.1, 12, .inl (fun _ => 0))), (q3, .inl (E.2.2.1, 12, .inl (fun _ => 0))), (q4, .inl (E.2.2.2, 12, .inl (fun _ => 0))), (q5, .inl (E.2.2.2, 30, .inl (fun _ => 0))), (q6, .inl (E.2.2.1, 12, .inl (fun _ => 0))), (q7, .inl (E.2.2.1, 12, .inl (fun _ => 0))), (q8, .inl (E.2.2.1, 12, .inl (fun _ => 0))), (q9, .inl (E.2.2.1, 12, .inl (fun _ => 0))), (q10, .inl (E.2.2.1, 12, .inl (fun _ => 0))), (q11, .inl (E.2.2.1, 12, .inl (fun _ => 0))), (q12, .inl (E.2.2.2, 8, .inl (fun _ => 0))), (q13, .inl (E.2.2.1, 8, .inl (fun _ => 0))), (q14, .inl (E.2.2.1, 7, .inl (fun _ => 0)))]) (fun _ => rfl) w_152 (by decide) (by decide) (by decide) (Nat.le_of_ble_eq_true rfl) (Nat.le_of_ble_eq_true rfl) dX9_init_119 (fun q14 => ?_)
  refine o_putF C hin [.int 0, .int 0, .ref q0, .ref q1, .ref q2, .ref q3, .ref q4, .ref q5, .int 0, .ref q6, .ref q7, .ref q8, .ref q9, .ref q10, .ref q11, .ref q12, .ref q13, .int 0, .ref q14, .null, .null, .null, .null, .null, .null, .null, .null, .null, .null, .int 0, .null, .int 0, .int 0, .int 0, .int 0, .int 0, .int 0, .int 0, .null, .int 0, .int 0, .null, .int 0, .null, .int 0, .null, .int 0] kn_X9_53 (Nat.le_of_ble_eq_true rfl) rfl rfl rfl dX9_init_121 ?_
  refine n_aload C 0 dX9_init_124 rfl rfl ?_
  refine n_bipush C (7) dX9_init_125 (by decide) ?_
  refine p_newa C 7 (fun q15 => [(q0, .inl (E.2.2.1, 12, .inl (fun _ => 0))), (q1, .inl (E.2.2.1, 12, .inl (fun _ => 0))), (q2, .inl (E.2.2.1, 12, .inl (fun _ => 0))), (q3, .inl (E.2.2.1, 12, .inl (fun _ => 0))), (q4, .inl (E.2.2.2, 12, .inl (fun _ => 0))), (q5, .inl (E.2.2.2, 30, .inl (fun _ => 0))), (q6, .inl (E.2.2.1, 12, .inl (fun _ => 0))), (q7, .inl (E.2.2.1, 12, .inl (fun _ => 0))), (q8, .inl (E.2.2.1, 12, .inl (fun _ => 0))), (q9, .inl (E.2.2.1, 12, .inl (fun _ => 0))), (q10, .inl (E.2.2.1, 12, .inl (fun _ => 0))), (q11, .inl (E.2.2.1, 12, .inl (fun _ => 0))), (q12, .inl (E.2.2.2, 8, .inl (fun _ => 0))), (q13, .inl (E.2.2.1, 8, .inl (fun _ => 0))), (q14, .inl (E.2.2.1, 7, .inl (fun _ => 0))), (q15, .inl (E.2.2.1, 7, .inl (fun _ => 0)))]) (fun _ => rfl) w_152 (by decide) (by decide) (by decide) (Nat.le_of_ble_eq_true rfl) (Nat.le_of_ble_eq_true rfl) dX9_init_127 (fun q15 => ?_)
  refine o_putF C hin [.int 0, .int 0, .ref q0, .ref q1, .ref q2, .ref q3, .ref q4, .ref q5, .int 0, .ref q6, .ref q7, .ref q8, .ref q9, .ref q10, .ref q11, .ref q12, .ref q13, .int 0, .ref q14, .ref q15, .null, .null, .null, .null, .null, .null, .null, .null, .null, .int 0, .null, .int 0, .int 0, .int 0, .int 0, .int 0, .int 0, .int 0, .null, .int 0, .int 0, .null, .int 0, .null, .int 0, .null, .int 0] kn_X9_56 (Nat.le_of_ble_eq_true rfl) rfl rfl rfl dX9_init_129 ?_
  refine n_aload C 0 dX9_init_132 rfl rfl ?_
  refine n_bipush C (7) dX9_init_133 (by decide) ?_
  refine p_newa C 7 (fun q16 => [(q0, .inl (E.2.2.1, 12, .inl (fun _ => 0))), (q1, .inl (E.2.2.1, 12, .inl (fun _ => 0))), (q2, .inl (E.2.2.1, 12, .inl (fun _ => 0))), (q3, .inl (E.2.2.1, 12, .inl (fun _ => 0))), (q4, .inl (E.2.2.2, 12, .inl (fun _ => 0))), (q5, .inl (E.2.2.2, 30, .inl (fun _ => 0))), (q6, .inl (E.2.2.1, 12, .inl (fun _ => 0))), (q7, .inl (E.2.2.1, 12, .inl (fun _ => 0))), (q8, .inl (E.2.2.1, 12, .inl (fun _ => 0))), (q9, .inl (E.2.2.1, 12, .inl (fun _ => 0))), (q10, .inl (E.2.2.1, 12, .inl (fun _ => 0))), (q11, .inl (E.2.2.1, 12, .inl (fun _ => 0))), (q12, .inl (E.2.2.2, 8, .inl (fun _ => 0))), (q13, .inl (E.2.2.1, 8, .inl (fun _ => 0))), (q14, .inl (E.2.2.1, 7, .inl (fun _ => 0))), (q15, .inl (E.2.2.1, 7, .inl (fun _ => 0))), (q16, .inl (E.2.2.1, 7, .inl (fun _ => 0)))]) (fun _ => rfl) w_152 (by decide) (by decide) (by decide) (Nat.le_of_ble_eq_true rfl) (Nat.le_of_ble_eq_true rfl) dX9_init_135 (fun q16 => ?_)
  refine o_putF C hin [.int 0, .int 0, .ref q0, .ref q1, .ref q2, .ref q3, .ref q4, .ref q5, .int 0, .ref q6, .ref q7, .ref q8, .ref q9, .ref q10, .ref q11, .ref q12, .ref q13, .int 0, .ref q14, .ref q15, .ref q16, .null, .null, .null, .null, .null, .null, .null, .null, .int 0, .null, .int 0, .int 0, .int 0, .int 0, .int 0, .int 0, .int 0, .null, .int 0, .int 0, .null, .int 0, .null, .int 0, .null, .int 0] kn_X9_59 (Nat.le_of_ble_eq_true rfl) rfl rfl rfl dX9_init_137 ?_
  refine n_aload C 0 dX9_init_140 rfl rfl ?_
  refine n_bipush C (7) dX9_init_141 (by decide) ?_
  refine p_newa C 7 (fun q17 => [(q0, .inl (E.2.2.1, 12, .inl (fun _ => 0))), (q1, .inl (E.2.2.1, 12, .inl (fun _ => 0))), (q2, .inl (E.2.2.1, 12, .inl (fun _ => 0))), (q3, .inl (E.2.2.1, 12, .inl (fun _ => 0))), (q4, .inl (E.2.2.2, 12, .inl (fun _ => 0))), (q5, .inl (E.2.2.2, 30, .inl (fun _ => 0))), (q6, .inl (E.2.2.1, 12, .inl (fun _ => 0))), (q7, .inl (E.2.2.1, 12, .inl (fun _ => 0))), (q8, .inl (E.2.2.1, 12, .inl (fun _ => 0))), (q9, .inl (E.2.2.1, 12, .inl (fun _ => 0))), (q10, .inl (E.2.2.1, 12, .inl (fun _ => 0))), (q11, .inl (E.2.2.1, 12, .inl (fun _ => 0))), (q12, .inl (E.2.2.2, 8, .inl (fun _ => 0))), (q13, .inl (E.2.2.1, 8, .inl (fun _ => 0))), (q14, .inl (E.2.2.1, 7, .inl (fun _ => 0))), (q15, .inl (E.2.2.1, 7, .inl (fun _ => 0))), (q16, .inl (E.2.2.1, 7, .inl (fun _ => 0))), (q17, .inl (E.2.2.1, 7, .inl (fun _ => 0)))]) (fun _ => rfl) w_152 (by decide) (by decide) (by decide) (Nat.le_of_ble_eq_true rfl) (Nat.le_of_ble_eq_true rfl) dX9_init_143 (fun q17 => ?_)
  refine o_putF C hin [.int 0, .int 0, .ref q0, .ref q1, .ref q2, .ref q3, .ref q4, .ref q5, .int 0, .ref q6, .ref q7, .ref q8, .ref q9, .ref q10, .ref q11, .ref q12, .ref q13, .int 0, .ref q14, .ref q15, .ref q16, .ref q17, .null, .null, .null, .null, .null, .null, .null, .int 0, .null, .int 0, .int 0, .int 0, .int 0, .int 0, .int 0, .int 0, .null, .int 0, .int 0, .null, .int 0, .null, .int 0, .null, .int 0] kn_X9_62 (Nat.le_of_ble_eq_true rfl) rfl rfl rfl dX9_init_145 ?_
  refine n_aload C 0 dX9_init_148 rfl rfl ?_
  refine n_bipush C (7) dX9_init_149 (by decide) ?_
  refine p_newa C 7 (fun q18 => [(q0, .inl (E.2.2.1, 12, .inl (fun _ => 0))), (q1, .inl (E.2.2.1, 12, .inl (fun _ => 0))), (q2, .inl (E.2.2.1, 12, .inl (fun _ => 0))), (q3, .inl (E.2.2.1, 12, .inl (fun _ => 0))), (q4, .inl (E.2.2.2, 12, .inl (fun _ => 0))), (q5, .inl (E.2.2.2, 30, .inl (fun _ => 0))), (q6, .inl (E.2.2.1, 12, .inl (fun _ => 0))), (q7, .inl (E.2.2.1, 12, .inl (fun _ => 0))), (q8, .inl (E.2.2.1, 12, .inl (fun _ => 0))), (q9, .inl (E.2.2.1, 12, .inl (fun _ => 0))), (q10, .inl (E.2.2.1, 12, .inl (fun _ => 0))), (q11, .inl (E.2.2.1, 12, .inl (fun _ => 0))), (q12, .inl (E.2.2.2, 8, .inl (fun _ => 0))), (q13, .inl (E.2.2.1, 8, .inl (fun _ => 0))), (q14, .inl (E.2.2.1, 7, .inl (fun _ => 0))), (q15, .inl (E.2.2.1, 7, .inl (fun _ => 0))), (q16, .inl (E.2.2.1, 7, .inl (fun _ => 0))), (q17, .inl (E.2.2.1, 7, .inl (fun _ => 0))), (q18, .inl (E.2.2.1, 7, .inl (fun _ => 0)))]) (fun _ => rfl) w_152 (by decide) (by decide) (by decide) (Nat.le_of_ble_eq_true rfl) (Nat.le_of_ble_eq_true rfl) dX9_init_151 (fun q18 => ?_)
  refine o_putF C hin [.int 0, .int 0, .ref q0, .ref q1, .ref q2, .ref q3, .ref q4, .ref q5, .int 0, .ref q6, .ref q7, .ref q8, .ref q9, .ref q10, .ref q11, .ref q12, .ref q13, .int 0, .ref q14, .ref q15, .ref q16, .ref q17, .ref q18, .null, .null, .null, .null, .null, .null, .int 0, .null, .int 0, .int 0, .int 0, .int 0, .int 0, .int 0, .int 0, .null, .int 0, .int 0, .null, .int 0, .null, .int 0, .null, .int 0] kn_X9_65 (Nat.le_of_ble_eq_true rfl) rfl rfl rfl dX9_init_153 ?_
  refine n_aload C 0 dX9_init_156 rfl rfl ?_
  refine n_bipush C (7) dX9_init_157 (by decide) ?_
  refine p_newa C 7 (fun q19 => [(q0, .inl (E.2.2.1, 12, .inl (fun _ => 0))), (q1, .inl (E.2.2.1, 12, .inl (fun _ => 0))), (q2, .inl (E.2.2.1, 12, .inl (fun _ => 0))), (q3, .inl (E.2.2.1, 12, .inl (fun _ => 0))), (q4, .inl (E.2.2.2, 12, .inl (fun _ => 0))), (q5, .inl (E.2.2.2, 30, .inl (fun _ => 0))), (q6, .inl (E.2.2.1, 12, .inl (fun _ => 0))), (q7, .inl (E.2.2.1, 12, .inl (fun _ => 0))), (q8, .inl (E.2.2.1, 12, .inl (fun _ => 0))), (q9, .inl (E.2.2.1, 12, .inl (fun _ => 0))), (q10, .inl (E.2.2.1, 12, .inl (fun _ => 0))), (q11, .inl (E.2.2.1, 12, .inl (fun _ => 0))), (q12, .inl (E.2.2.2, 8, .inl (fun _ => 0))), (q13, .inl (E.2.2.1, 8, .inl (fun _ => 0))), (q14, .inl (E.2.2.1, 7, .inl (fun _ => 0))), (q15, .inl (E.2.2.1, 7, .inl (fun _ => 0))), (q16, .inl (E.2.2.1, 7, .inl (fun _ => 0))), (q17, .inl (E.2.2.1, 7, .inl (fun _ => 0))), (q18, .inl (E.2.2.1, 7, .inl (fun _ => 0))), (q19, .inl (E.2.2.1, 7, .inl (fun _ => 0)))]) (fun _ => rfl) w_152 (by decide) (by decide) (by decide) (Nat.le_of_ble_eq_true rfl) (Nat.le_of_ble_eq_true rfl) dX9_init_159 (fun q19 => ?_)
  refine o_putF C hin [.int 0, .int 0, .ref q0, .ref q1, .ref q2, .ref q3, .ref q4, .ref q5, .int 0, .ref q6, .ref q7, .ref q8, .ref q9, .ref q10, .ref q11, .ref q12, .ref q13, .int 0, .ref q14, .ref q15, .ref q16, .ref q17, .ref q18, .ref q19, .null, .null, .null, .null, .null, .int 0, .null, .int 0, .int 0, .int 0, .int 0, .int 0, .int 0, .int 0, .null, .int 0, .int 0, .null, .int 0, .null, .int 0, .null, .int 0] kn_X9_68 (Nat.le_of_ble_eq_true rfl) rfl rfl rfl dX9_init_161 ?_
  refine n_aload C 0 dX9_init_164 rfl rfl ?_
  refine n_bipush C (7) dX9_init_165 (by decide) ?_
  refine p_newa C 7 (fun q20 => [(q0, .inl (E.2.2.1, 12, .inl (fun _ => 0))), (q1, .inl (E.2.2.1, 12, .inl (fun _ => 0))), (q2, .inl (E.2.2.1, 12, .inl (fun _ => 0))), (q3, .inl (E.2.2.1, 12, .inl (fun _ => 0))), (q4, .inl (E.2.2.2, 12, .inl (fun _ => 0))), (q5, .inl (E.2.2.2, 30, .inl (fun _ => 0))), (q6, .inl (E.2.2.1, 12, .inl (fun _ => 0))), (q7, .inl (E.2.2.1, 12, .inl (fun _ => 0))), (q8, .inl (E.2.2.1, 12, .inl (fun _ => 0))), (q9, .inl (E.2.2.1, 12, .inl (fun _ => 0))), (q10, .inl (E.2.2.1, 12, .inl (fun _ => 0))), (q11, .inl (E.2.2.1, 12, .inl (fun _ => 0))), (q12, .inl (E.2.2.2, 8, .inl (fun _ => 0))), (q13, .inl (E.2.2.1, 8, .inl (fun _ => 0))), (q14, .inl (E.2.2.1, 7, .inl (fun _ => 0))), (q15, .inl (E.2.2.1, 7, .inl (fun _ => 0))), (q16, .inl (E.2.2.1, 7, .inl (fun _ => 0))), (q17, .inl (E.2.2.1, 7, .inl (fun _ => 0))), (q18, .inl (E.2.2.1, 7, .inl (fun _ => 0))), (q19, .inl (E.2.2.1, 7, .inl (fun _ => 0))), (q20, .inl (E.2.2.1, 7, .inl (fun _ => 0)))]) (fun _ => rfl) w_152 (by decide) (by decide) (by decide) (Nat.le_of_ble_eq_true rfl) (Nat.le_of_ble_eq_true rfl) dX9_init_167 (fun q20 => ?_)
  refine o_putF C hin [.int 0, .int 0, .ref q0, .ref q1, .ref q2, .ref q3, .ref q4, .ref q5, .int 0, .ref q6, .ref q7, .ref q8, .ref q9, .ref q10, .ref q11, .ref q12, .ref q13, .int 0, .ref q14, .ref q15, .ref q16, .ref q17, .ref q18, .ref q19, .ref q20, .null, .null, .null, .null, .int 0, .null, .int 0, .int 0, .int 0, .int 0, .int 0, .int 0, .int 0, .null, .int 0, .int 0, .null, .int 0, .null, .int 0, .null, .int 0] kn_X9_71 (Nat.le_of_ble_eq_true rfl) rfl rfl rfl dX9_init_169 ?_
  refine n_aload C 0 dX9_init_172 rfl rfl ?_
  refine n_bipush C (7) dX9_init_173 (by decide) ?_
  refine p_newa C 7 (fun q21 => [(q0, .inl (E.2.2.1, 12, .inl (fun _ => 0))), (q1, .inl (E.2.2.1, 12, .inl (fun _ => 0))), (q2, .inl (E.2.2.1, 12, .inl (fun _ => 0))), (q3, .inl (E.2.2.1, 12, .inl (fun _ => 0))), (q4, .inl (E.2.2.2, 12, .inl (fun _ => 0))), (q5, .inl (E.2.2.2, 30, .inl (fun _ => 0))), (q6, .inl (E.2.2.1, 12, .inl (fun _ => 0))), (q7, .inl (E.2.2.1, 12, .inl (fun _ => 0))), (q8, .inl (E.2.2.1, 12, .inl (fun _ => 0))), (q9, .inl (E.2.2.1, 12, .inl (fun _ => 0))), (q10, .inl (E.2.2.1, 12, .inl (fun _ => 0))), (q11, .inl (E.2.2.1, 12, .inl (fun _ => 0))), (q12, .inl (E.2.2.2, 8, .inl (fun _ => 0))), (q13, .inl (E.2.2.1, 8, .inl (fun _ => 0))), (q14, .inl (E.2.2.1, 7, .inl (fun _ => 0))), (q15, .inl (E.2.2.1, 7, .inl (fun _ => 0))), (q16, .inl (E.2.2.1, 7, .inl (fun _ => 0))), (q17, .inl (E.2.2.1, 7, .inl (fun _ => 0))), (q18, .inl (E.2.2.1, 7, .inl (fun _ => 0))), (q19, .inl (E.2.2.1, 7, .inl (fun _ => 0))), (q20, .inl (E.2.2.1, 7, .inl (fun _ => 0))), (q21, .inl (E.2.2.1, 7, .inl (fun _ => 0)))]) (fun _ => rfl) w_152 (by decide) (by decide) (by decide) (Nat.le_of_ble_eq_true rfl) (Nat.le_of_ble_eq_true rfl) dX9_init_175 (fun q21 => ?_)
  refine o_putF C hin [.int 0, .int 0, .ref q0, .ref q1, .ref q2, .ref q3, .ref q4, .ref q5, .int 0, .ref q6, .ref q7, .ref q8, .ref q9, .ref q10, .ref q11, .ref q12, .ref q13, .int 0, .ref q14, .ref q15, .ref q16, .ref q17, .ref q18, .ref q19, .ref q20, .ref q21, .null, .null, .null, .int 0, .null, .int 0, .int 0, .int 0, .int 0, .int 0, .int 0, .int 0, .null, .int 0, .int 0, .null, .int 0, .null, .int 0, .null, .int 0] kn_X9_74 (Nat.le_of_ble_eq_true rfl) rfl rfl rfl dX9_init_177 ?_
  refine n_aload C 0 dX9_init_180 rfl rfl ?_
  refine n_sipush C (301) dX9_init_181 (by decide) ?_
  refine p_newa C 301 (fun q22 => [(q0, .inl (E.2.2.1, 12, .inl (fun _ => 0))), (q1, .inl (E.2.2.1, 12, .inl (fun _ => 0))), (q2, .inl (E.2.2.1, 12, .inl (fun _ => 0))), (q3, .inl (E.2.2.1, 12, .inl (fun _ => 0))), (q4, .inl (E.2.2.2, 12, .inl (fun _ => 0))), (q5, .inl (E.2.2.2, 30, .inl (fun _ => 0))), (q6, .inl (E.2.2.1, 12, .inl (fun _ => 0))), (q7, .inl (E.2.2.1, 12, .inl (fun _ => 0))), (q8, .inl (E.2.2.1, 12, .inl (fun _ => 0))), (q9, .inl (E.2.2.1, 12, .inl (fun _ => 0))), (q10, .inl (E.2.2.1, 12, .inl (fun _ => 0))), (q11, .inl (E.2.2.1, 12, .inl (fun _ => 0))), (q12, .inl (E.2.2.2, 8, .inl (fun _ => 0))), (q13, .inl (E.2.2.1, 8, .inl (fun _ => 0))), (q14, .inl (E.2.2.1, 7, .inl (fun _ => 0))), (q15, .inl (E.2.2.1, 7, .inl (fun _ => 0))), (q16, .inl (E.2.2.1, 7, .inl (fun _ => 0))), (q17, .inl (E.2.2.1, 7, .inl (fun _ => 0))), (q18, .inl (E.2.2.1, 7, .inl (fun _ => 0))), (q19, .inl (E.2.2.1, 7, .inl (fun _ => 0))), (q20, .inl (E.2.2.1, 7, .inl (fun _ => 0))), (q21, .inl (E.2.2.1, 7, .inl (fun _ => 0))), (q22, .inl (E.2.2.1, 301, .inl (fun _ => 0)))]) (fun _ => rfl) w_152 (by decide) (by decide) (by decide) (Nat.le_of_ble_eq_true rfl) (Nat.le_of_ble_eq_true rfl) dX9_init_184 (fun q22 => ?_)
  refine o_putF C hin [.int 0, .int 0, .ref q0, .ref q1, .ref q2, .ref q3, .ref q4, .ref q5, .int 0, .ref q6, .ref q7, .ref q8, .ref q9, .ref q10, .ref q11, .ref q12, .ref q13, .int 0, .ref q14, .ref q15, .ref q16, .ref q17, .ref q18, .ref q19, .ref q20, .ref q21, .ref q22, .null, .null, .int 0, .null, .int 0, .int 0, .int 0, .int 0, .int 0, .int 0, .int 0, .null, .int 0, .int 0, .null, .int 0, .null, .int 0, .null, .int 0] kn_X9_77 (Nat.le_of_ble_eq_true rfl) rfl rfl rfl dX9_init_186 ?_
  refine n_aload C 0 dX9_init_189 rfl rfl ?_
  refine n_sipush C (301) dX9_init_190 (by decide) ?_
  refine p_newa C 301 (fun q23 => [(q0, .inl (E.2.2.1, 12, .inl (fun _ => 0))), (q1, .inl (E.2.2.1, 12, .inl (fun _ => 0))), (q2, .inl (E.2.2.1, 12, .inl (fun _ => 0))), (q3, .inl (E.2.2.1, 12, .inl (fun _ => 0))), (q4, .inl (E.2.2.2, 12, .inl (fun _ => 0))), (q5, .inl (E.2.2.2, 30, .inl (fun _ => 0))), (q6, .inl (E.2.2.1, 12, .inl (fun _ => 0))), (q7, .inl (E.2.2.1, 12, .inl (fun _ => 0))), (q8, .inl (E.2.2.1, 12, .inl (fun _ => 0))), (q9, .inl (E.2.2.1, 12, .inl (fun _ => 0))), (q10, .inl (E.2.2.1, 12, .inl (fun _ => 0))), (q11, .inl (E.2.2.1, 12, .inl (fun _ => 0))), (q12, .inl (E.2.2.2, 8, .inl (fun _ => 0))), (q13, .inl (E.2.2.1, 8, .inl (fun _ => 0))), (q14, .inl (E.2.2.1, 7, .inl (fun _ => 0))), (q15, .inl (E.2.2.1, 7, .inl (fun _ => 0))), (q16, .inl (E.2.2.1, 7, .inl (fun _ => 0))), (q17, .inl (E.2.2.1, 7, .inl (fun _ => 0))), (q18, .inl (E.2.2.1, 7, .inl (fun _ => 0))), (q19, .inl (E.2.2.1, 7, .inl (fun _ => 0))), (q20, .inl (E.2.2.1, 7, .inl (fun _ => 0))), (q21, .inl (E.2.2.1, 7, .inl (fun _ => 0))), (q22, .inl (E.2.2.1, 301, .inl (fun _ => 0))), (q23, .inl (E.2.2.1, 301, .inl (fun _ => 0)))]) (fun _ => rfl) w_152 (by decide) (by decide) (by decide) (Nat.le_of_ble_eq_true rfl) (Nat.le_of_ble_eq_true rfl) dX9_init_193 (fun q23 => ?_)
  refine o_putF C hin [.int 0, .int 0, .ref q0, .ref q1, .ref q2, .ref q3, .ref q4, .ref q5, .int 0, .ref q6, .ref q7, .ref q8, .ref q9, .ref q10, .ref q11, .ref q12, .ref q13, .int 0, .ref q14, .ref q15, .ref q16, .ref q17, .ref q18, .ref q19, .ref q20, .ref q21, .ref q22, .ref q23, .null, .int 0, .null, .int 0, .int 0, .int 0, .int 0, .int 0, .int 0, .int 0, .null, .int 0, .int 0, .null, .int 0, .null, .int 0, .null, .int 0] kn_X9_80 (Nat.le_of_ble_eq_true rfl) rfl rfl rfl dX9_init_195 ?_
  refine n_aload C 0 dX9_init_198 rfl rfl ?_
  refine n_bipush C (60) dX9_init_199 (by decide) ?_
  refine p_newa C 60 (fun q24 => [(q0, .inl (E.2.2.1, 12, .inl (fun _ => 0))), (q1, .inl (E.2.2.1, 12, .inl (fun _ => 0))), (q2, .inl (E.2.2.1, 12, .inl (fun _ => 0))), (q3, .inl (E.2.2.1, 12, .inl (fun _ => 0))), (q4, .inl (E.2.2.2, 12, .inl (fun _ => 0))), (q5, .inl (E.2.2.2, 30, .inl (fun _ => 0))), (q6, .inl (E.2.2.1, 12, .inl (fun _ => 0))), (q7, .inl (E.2.2.1, 12, .inl (fun _ => 0))), (q8, .inl (E.2.2.1, 12, .inl (fun _ => 0))), (q9, .inl (E.2.2.1, 12, .inl (fun _ => 0))), (q10, .inl (E.2.2.1, 12, .inl (fun _ => 0))), (q11, .inl (E.2.2.1, 12, .inl (fun _ => 0))), (q12, .inl (E.2.2.2, 8, .inl (fun _ => 0))), (q13, .inl (E.2.2.1, 8, .inl (fun _ => 0))), (q14, .inl (E.2.2.1, 7, .inl (fun _ => 0))), (q15, .inl (E.2.2.1, 7, .inl (fun _ => 0))), (q16, .inl (E.2.2.1, 7, .inl (fun _ => 0))), (q17, .inl (E.2.2.1, 7, .inl (fun _ => 0))), (q18, .inl (E.2.2.1, 7, .inl (fun _ => 0))), (q19, .inl (E.2.2.1, 7, .inl (fun _ => 0))), (q20, .inl (E.2.2.1, 7, .inl (fun _ => 0))), (q21, .inl (E.2.2.1, 7, .inl (fun _ => 0))), (q22, .inl (E.2.2.1, 301, .inl (fun _ => 0))), (q23, .inl (E.2.2.1, 301, .inl (fun _ => 0))), (q24, .inl (E.2.2.1, 60, .inl (fun _ => 0)))]) (fun _ => rfl) w_152 (by decide) (by decide) (by decide) (Nat.le_of_ble_eq_true rfl) (Nat.le_of_ble_eq_true rfl) dX9_init_201 (fun q24 => ?_)
  refine o_putF C hin [.int 0, .int 0, .ref q0, .ref q1, .ref q2, .ref q3, .ref q4, .ref q5, .int 0, .ref q6, .ref q7, .ref q8, .ref q9, .ref q10, .ref q11, .ref q12, .ref q13, .int 0, .ref q14, .ref q15, .ref q16, .ref q17, .ref q18, .ref q19, .ref q20, .ref q21, .ref q22, .ref q23, .ref q24, .int 0, .null, .int 0, .int 0, .int 0, .int 0, .int 0, .int 0, .int 0, .null, .int 0, .int 0, .null, .int 0, .null, .int 0, .null, .int 0] kn_X9_83 (Nat.le_of_ble_eq_true rfl) rfl rfl rfl dX9_init_203 ?_
  refine n_aload C 0 dX9_init_206 rfl rfl ?_
  refine n_bipush C (10) dX9_init_207 (by decide) ?_
  refine p_newa C 10 (fun q25 => [(q0, .inl (E.2.2.1, 12, .inl (fun _ => 0))), (q1, .inl (E.2.2.1, 12, .inl (fun _ => 0))), (q2, .inl (E.2.2.1, 12, .inl (fun _ => 0))), (q3, .inl (E.2.2.1, 12, .inl (fun _ => 0))), (q4, .inl (E.2.2.2, 12, .inl (fun _ => 0))), (q5, .inl (E.2.2.2, 30, .inl (fun _ => 0))), (q6, .inl (E.2.2.1, 12, .inl (fun _ => 0))), (q7, .inl (E.2.2.1, 12, .inl (fun _ => 0))), (q8, .inl (E.2.2.1, 12, .inl (fun _ => 0))), (q9, .inl (E.2.2.1, 12, .inl (fun _ => 0))), (q10, .inl (E.2.2.1, 12, .inl (fun _ => 0))), (q11, .inl (E.2.2.1, 12, .inl (fun _ => 0))), (q12, .inl (E.2.2.2, 8, .inl (fun _ => 0))), (q13, .inl (E.2.2.1, 8, .inl (fun _ => 0))), (q14, .inl (E.2.2.1, 7, .inl (fun _ => 0))), (q15, .inl (E.2.2.1, 7, .inl (fun _ => 0))), (q16, .inl (E.2.2.1, 7, .inl (fun _ => 0))), (q17, .inl (E.2.2.1, 7, .inl (fun _ => 0))), (q18, .inl (E.2.2.1, 7, .inl (fun _ => 0))), (q19, .inl (E.2.2.1, 7, .inl (fun _ => 0))), (q20, .inl (E.2.2.1, 7, .inl (fun _ => 0))), (q21, .inl (E.2.2.1, 7, .inl (fun _ => 0))), (q22, .inl (E.2.2.1, 301, .inl (fun _ => 0))), (q23, .inl (E.2.2.1, 301, .inl (fun _ => 0))), (q24, .inl (E.2.2.1, 60, .inl (fun _ => 0))), (q25, .inl (E.2.2.1, 10, .inl (fun _ => 0)))]) (fun _ => rfl) w_152 (by decide) (by decide) (by decide) (Nat.le_of_ble_eq_true rfl) (Nat.le_of_ble_eq_true rfl) dX9_init_209 (fun q25 => ?_)
  refine o_putF C hin [.int 0, .int 0, .ref q0, .ref q1, .ref q2, .ref q3, .ref q4, .ref q5, .int 0, .ref q6, .ref q7, .ref q8, .ref q9, .ref q10, .ref q11, .ref q12, .ref q13, .int 0, .ref q14, .ref q15, .ref q16, .ref q17, .ref q18, .ref q19, .ref q20, .ref q21, .ref q22, .ref q23, .ref q24, .int 0, .ref q25, .int 0, .int 0, .int 0, .int 0, .int 0, .int 0, .int 0, .null, .int 0, .int 0, .null, .int 0, .null, .int 0, .null, .int 0] kn_X9_86 (Nat.le_of_ble_eq_true rfl) rfl rfl rfl dX9_init_211 ?_
  refine n_aload C 0 dX9_init_214 rfl rfl ?_
  refine n_sipush C (896) dX9_init_215 (by decide) ?_
  refine p_newa C 896 (fun q26 => [(q0, .inl (E.2.2.1, 12, .inl (fun _ => 0))), (q1, .inl (E.2.2.1, 12, .inl (fun _ => 0))), (q2, .inl (E.2.2.1, 12, .inl (fun _ => 0))), (q3, .inl (E.2.2.1, 12, .inl (fun _ => 0))), (q4, .inl (E.2.2.2, 12, .inl (fun _ => 0))), (q5, .inl (E.2.2.2, 30, .inl (fun _ => 0))), (q6, .inl (E.2.2.1, 12, .inl (fun _ => 0))), (q7, .inl (E.2.2.1, 12, .inl (fun _ => 0))), (q8, .inl (E.2.2.1, 12, .inl (fun _ => 0))), (q9, .inl (E.2.2.1, 12, .inl (fun _ => 0))), (q10, .inl (E.2.2.1, 12, .inl (fun _ => 0))), (q11, .inl (E.2.2.1, 12, .inl (fun _ => 0))), (q12, .inl (E.2.2.2, 8, .inl (fun _ => 0))), (q13, .inl (E.2.2.1, 8, .inl (fun _ => 0))), (q14, .inl (E.2.2.1, 7, .inl (fun _ => 0))), (q15, .inl (E.2.2.1, 7, .inl (fun _ => 0))), (q16, .inl (E.2.2.1, 7, .inl (fun _ => 0))), (q17, .inl (E.2.2.1, 7, .inl (fun _ => 0))), (q18, .inl (E.2.2.1, 7, .inl (fun _ => 0))), (q19, .inl (E.2.2.1, 7, .inl (fun _ => 0))), (q20, .inl (E.2.2.1, 7, .inl (fun _ => 0))), (q21, .inl (E.2.2.1, 7, .inl (fun _ => 0))), (q22, .inl (E.2.2.1, 301, .inl (fun _ => 0))), (q23, .inl (E.2.2.1, 301, .inl (fun _ => 0))), (q24, .inl (E.2.2.1, 60, .inl (fun _ => 0))), (q25, .inl (E.2.2.1, 10, .inl (fun _ => 0))), (q26, .inl (E.2.2.1, 896, .inl (fun _ => 0)))]) (fun _ => rfl) w_152 (by decide) (by decide) (by decide) (Nat.le_of_ble_eq_true rfl) (Nat.le_of_ble_eq_true rfl) dX9_init_218 (fun q26 => ?_)
  refine o_putF C hin [.int 0, .int 0, .ref q0, .ref q1, .ref q2, .ref q3, .ref q4, .ref q5, .int 0, .ref q6, .ref q7, .ref q8, .ref q9, .ref q10, .ref q11, .ref q12, .ref q13, .int 0, .ref q14, .ref q15, .ref q16, .ref q17, .ref q18, .ref q19, .ref q20, .ref q21, .ref q22, .ref q23, .ref q24, .int 0, .ref q25, .int 0, .int 0, .int 0, .int 0, .int 0, .int 0, .int 0, .ref q26, .int 0, .int 0, .null, .int 0, .null, .int 0, .null, .int 0] kn_X9_89 (Nat.le_of_ble_eq_true rfl) rfl rfl rfl dX9_init_220 ?_
  refine n_aload C 0 dX9_init_223 rfl rfl ?_
  refine n_bipush C (7) dX9_init_224 (by decide) ?_
  refine p_newa C 7 (fun q27 => [(q0, .inl (E.2.2.1, 12, .inl (fun _ => 0))), (q1, .inl (E.2.2.1, 12, .inl (fun _ => 0))), (q2, .inl (E.2.2.1, 12, .inl (fun _ => 0))), (q3, .inl (E.2.2.1, 12, .inl (fun _ => 0))), (q4, .inl (E.2.2.2, 12, .inl (fun _ => 0))), (q5, .inl (E.2.2.2, 30, .inl (fun _ => 0))), (q6, .inl (E.2.2.1, 12, .inl (fun _ => 0))), (q7, .inl (E.2.2.1, 12, .inl (fun _ => 0))), (q8, .inl (E.2.2.1, 12, .inl (fun _ => 0))), (q9, .inl (E.2.2.1, 12, .inl (fun _ => 0))), (q10, .inl (E.2.2.1, 12, .inl (fun _ => 0))), (q11, .inl (E.2.2.1, 12, .inl (fun _ => 0))), (q12, .inl (E.2.2.2, 8, .inl (fun _ => 0))), (q13, .inl (E.2.2.1, 8, .inl (fun _ => 0))), (q14, .inl (E.2.2.1, 7, .inl (fun _ => 0))), (q15, .inl (E.2.2.1, 7, .inl (fun _ => 0))), (q16, .inl (E.2.2.1, 7, .inl (fun _ => 0))), (q17, .inl (E.2.2.1, 7, .inl (fun _ => 0))), (q18, .inl (E.2.2.1, 7, .inl (fun _ => 0))), (q19, .inl (E.2.2.1, 7, .inl (fun _ => 0))), (q20, .inl (E.2.2.1, 7, .inl (fun _ => 0))), (q21, .inl (E.2.2.1, 7, .inl (fun _ => 0))), (q22, .inl (E.2.2.1, 301, .inl (fun _ => 0))), (q23, .inl (E.2.2.1, 301, .inl (fun _ => 0))), (q24, .inl (E.2.2.1, 60, .inl (fun _ => 0))), (q25, .inl (E.2.2.1, 10, .inl (fun _ => 0))), (q26, .inl (E.2.2.1, 896, .inl (fun _ => 0))), (q27, .inl (E.2.2.1, 7, .inl (fun _ => 0)))]) (fun _ => rfl) w_152 (by decide) (by decide) (by decide) (Nat.le_of_ble_eq_true rfl) (Nat.le_of_ble_eq_true rfl) dX9_init_226 (fun q27 => ?_)
  refine o_putF C hin [.int 0, .int 0, .ref q0, .ref q1, .ref q2, .ref q3, .ref q4, .ref q5, .int 0, .ref q6, .ref q7, .ref q8, .ref q9, .ref q10, .ref q11, .ref q12, .ref q13, .int 0, .ref q14, .ref q15, .ref q16, .ref q17, .ref q18, .ref q19, .ref q20, .ref q21, .ref q22, .ref q23, .ref q24, .int 0, .ref q25, .int 0, .int 0, .int 0, .int 0, .int 0, .int 0, .int 0, .ref q26, .int 0, .int 0, .ref q27, .int 0, .null, .int 0, .null, .int 0] kn_X9_92 (Nat.le_of_ble_eq_true rfl) rfl rfl rfl dX9_init_228 ?_
  refine n_aload C 0 dX9_init_231 rfl rfl ?_
  refine n_bipush C (84) dX9_init_232 (by decide) ?_
  refine p_newa C 84 (fun q28 => [(q0, .inl (E.2.2.1, 12, .inl (fun _ => 0))), (q1, .inl (E.2.2.1, 12, .inl (fun _ => 0))), (q2, .inl (E.2.2.1, 12, .inl (fun _ => 0))), (q3, .inl (E.2.2.1, 12, .inl (fun _ => 0))), (q4, .inl (E.2.2.2, 12, .inl (fun _ => 0))), (q5, .inl (E.2.2.2, 30, .inl (fun _ => 0))), (q6, .inl (E.2.2.1, 12, .inl (fun _ => 0))), (q7, .inl (E.2.2.1, 12, .inl (fun _ => 0))), (q8, .inl (E.2.2.1, 12, .inl (fun _ => 0))), (q9, .inl (E.2.2.1, 12, .inl (fun _ => 0))), (q10, .inl (E.2.2.1, 12, .inl (fun _ => 0))), (q11, .inl (E.2.2.1, 12, .inl (fun _ => 0))), (q12, .inl (E.2.2.2, 8, .inl (fun _ => 0))), (q13, .inl (E.2.2.1, 8, .inl (fun _ => 0))), (q14, .inl (E.2.2.1, 7, .inl (fun _ => 0))), (q15, .inl (E.2.2.1, 7, .inl (fun _ => 0))), (q16, .inl (E.2.2.1, 7, .inl (fun _ => 0))), (q17, .inl (E.2.2.1, 7, .inl (fun _ => 0))), (q18, .inl (E.2.2.1, 7, .inl (fun _ => 0))), (q19, .inl (E.2.2.1, 7, .inl (fun _ => 0))), (q20, .inl (E.2.2.1, 7, .inl (fun _ => 0))), (q21, .inl (E.2.2.1, 7, .inl (fun _ => 0))), (q22, .inl (E.2.2.1, 301, .inl (fun _ => 0))), (q23, .inl (E.2.2.1, 301, .inl (fun _ => 0))), (q24, .inl (E.2.2.1, 60, .inl (fun _ => 0))), (q25, .inl (E.2.2.1, 10, .inl (fun _ => 0))), (q26, .inl (E.2.2.1, 896, .inl (fun _ => 0))), (q27, .inl (E.2.2.1, 7, .inl (fun _ => 0))), (q28, .inl (E.2.2.1, 84, .inl (fun _ => 0)))]) (fun _ => rfl) w_152 (by decide) (by decide) (by decide) (Nat.le_of_ble_eq_true rfl) (Nat.le_of_ble_eq_true rfl) dX9_init_234 (fun q28 => ?_)
  refine o_putF C hin [.int 0, .int 0, .ref q0, .ref q1, .ref q2, .ref q3, .ref q4, .ref q5, .int 0, .ref q6, .ref q7, .ref q8, .ref q9, .ref q10, .ref q11, .ref q12, .ref q13, .int 0, .ref q14, .ref q15, .ref q16, .ref q17, .ref q18, .ref q19, .ref q20, .ref q21, .ref q22, .ref q23, .ref q24, .int 0, .ref q25, .int 0, .int 0, .int 0, .int 0, .int 0, .int 0, .int 0, .ref q26, .int 0, .int 0, .ref q27, .int 0, .ref q28, .int 0, .null, .int 0] kn_X9_95 (Nat.le_of_ble_eq_true rfl) rfl rfl rfl dX9_init_236 ?_
  refine n_aload C 0 dX9_init_239 rfl rfl ?_
  refine n_bipush C (84) dX9_init_240 (by decide) ?_
  refine p_newa C 84 (fun q29 => [(q0, .inl (E.2.2.1, 12, .inl (fun _ => 0))), (q1, .inl (E.2.2.1, 12, .inl (fun _ => 0))), (q2, .inl (E.2.2.1, 12, .inl (fun _ => 0))), (q3, .inl (E.2.2.1, 12, .inl (fun _ => 0))), (q4, .inl (E.2.2.2, 12, .inl (fun _ => 0))), (q5, .inl (E.2.2.2, 30, .inl (fun _ => 0))), (q6, .inl (E.2.2.1, 12, .inl (fun _ => 0))), (q7, .inl (E.2.2.1, 12, .inl (fun _ => 0))), (q8, .inl (E.2.2.1, 12, .inl (fun _ => 0))), (q9, .inl (E.2.2.1, 12, .inl (fun _ => 0))), (q10, .inl (E.2.2.1, 12, .inl (fun _ => 0))), (q11, .inl (E.2.2.1, 12, .inl (fun _ => 0))), (q12, .inl (E.2.2.2, 8, .inl (fun _ => 0))), (q13, .inl (E.2.2.1, 8, .inl (fun _ => 0))), (q14, .inl (E.2.2.1, 7, .inl (fun _ => 0))), (q15, .inl (E.2.2.1, 7, .inl (fun _ => 0))), (q16, .inl (E.2.2.1, 7, .inl (fun _ => 0))), (q17, .inl (E.2.2.1, 7, .inl (fun _ => 0))), (q18, .inl (E.2.2.1, 7, .inl (fun _ => 0))), (q19, .inl (E.2.2.1, 7, .inl (fun _ => 0))), (q20, .inl (E.2.2.1, 7, .inl (fun _ => 0))), (q21, .inl (E.2.2.1, 7, .inl (fun _ => 0))), (q22, .inl (E.2.2.1, 301, .inl (fun _ => 0))), (q23, .inl (E.2.2.1, 301, .inl (fun _ => 0))), (q24, .inl (E.2.2.1, 60, .inl (fun _ => 0))), (q25, .inl (E.2.2.1, 10, .inl (fun _ => 0))), (q26, .inl (E.2.2.1, 896, .inl (fun _ => 0))), (q27, .inl (E.2.2.1, 7, .inl (fun _ => 0))), (q28, .inl (E.2.2.1, 84, .inl (fun _ => 0))), (q29, .inl (E.2.2.1, 84, .inl (fun _ => 0)))]) (fun _ => rfl) w_152 (by decide) (by decide) (by decide) (Nat.le_of_ble_eq_true rfl) (Nat.le_of_ble_eq_true rfl) dX9_init_242 (fun q29 => ?_)
  refine o_putF C hin [.int 0, .int 0, .ref q0, .ref q1, .ref q2, .ref q3, .ref q4, .ref q5, .int 0, .ref q6, .ref q7, .ref q8, .ref q9, .ref q10, .ref q11, .ref q12, .ref q13, .int 0, .ref q14, .ref q15, .ref q16, .ref q17, .ref q18, .ref q19, .ref q20, .ref q21, .ref q22, .ref q23, .ref q24, .int 0, .ref q25, .int 0, .int 0, .int 0, .int 0, .int 0, .int 0, .int 0, .ref q26, .int 0, .int 0, .ref q27, .int 0, .ref q28, .int 0, .ref q29, .int 0] kn_X9_98 (Nat.le_of_ble_eq_true rfl) rfl rfl rfl dX9_init_244 ?_
  refine n_as (wA9 E h (fun k => ([q0, q1, q2, q3, q4, q5, q6, q7, q8, q9, q10, q11, q12, q13, q14, q15, q16, q17, q18, q19, q20, q21, q22, q23, q24, q25, q26, q27, q28, q29] : List Nat).getD k 0) (fun _ => 0)) rfl ?_
  refine n_iconst C (0) dX9_init_247 (by decide) ?_
  refine n_istore C [(1, .int 0), (0, .ref h)] dX9_init_248 rfl (by decide) rfl ?_
  refine n_iload C 0 dX9_init_249 rfl rfl ?_
  refine n_bipush C (8) dX9_init_250 (by decide) ?_
  refine n_geF C (tgt := 268) dX9_init_252 (by decide) (by decide) ?_
  refine n_aload C 1 dX9_init_255 rfl rfl ?_
  refine n_get C 0 f_X9_50 rfl rfl dX9_init_256 ?_
  refine n_iload C 0 dX9_init_259 rfl rfl ?_
  refine n_iconst C (-1) dX9_init_260 (by decide) ?_
  refine n_iast C (wA9 E h (fun k => ([q0, q1, q2, q3, q4, q5, q6, q7, q8, q9, q10, q11, q12, q13, q14, q15, q16, q17, q18, q19, q20, q21, q22, q23, q24, q25, q26, q27, q28, q29] : List Nat).getD k 0) (upd (fun _ => 0) 0 (-1))) 14 rfl (ta_in (by decide)) rfl dX9_init_261 ?_
  refine n_iinc C (v := 1) 0 [(1, .int 1), (0, .ref h)] dX9_init_262 rfl (by decide) (by decide) rfl ?_
  refine n_goto C 249 dX9_init_265 (by decide) ?_
  refine n_iload C 0 dX9_init_249 rfl rfl ?_
  refine n_bipush C (8) dX9_init_250 (by decide) ?_
  refine n_geF C (tgt := 268) dX9_init_252 (by decide) (by decide) ?_
  refine n_aload C 1 dX9_init_255 rfl rfl ?_
  refine n_get C 0 f_X9_50 rfl rfl dX9_init_256 ?_
  refine n_iload C 0 dX9_init_259 rfl rfl ?_
  refine n_iconst C (-1) dX9_init_260 (by decide) ?_
  refine n_iast C (wA9 E h (fun k => ([q0, q1, q2, q3, q4, q5, q6, q7, q8, q9, q10, q11, q12, q13, q14, q15, q16, q17, q18, q19, q20, q21, q22, q23, q24, q25, q26, q27, q28, q29] : List Nat).getD k 0) (upd (upd (fun _ => 0) 0 (-1)) 1 (-1))) 14 rfl (ta_in (by decide)) rfl dX9_init_261 ?_
  refine n_iinc C (v := 2) 0 [(1, .int 2), (0, .ref h)] dX9_init_262 rfl (by decide) (by decide) rfl ?_
  refine n_goto C 249 dX9_init_265 (by decide) ?_
  refine n_iload C 0 dX9_init_249 rfl rfl ?_
  refine n_bipush C (8) dX9_init_250 (by decide) ?_
  refine n_geF C (tgt := 268) dX9_init_252 (by decide) (by decide) ?_
  refine n_aload C 1 dX9_init_255 rfl rfl ?_
  refine n_get C 0 f_X9_50 rfl rfl dX9_init_256 ?_
  refine n_iload C 0 dX9_init_259 rfl rfl ?_
  refine n_iconst C (-1) dX9_init_260 (by decide) ?_
  refine n_iast C (wA9 E h (fun k => ([q0, q1, q2, q3, q4, q5, q6, q7, q8, q9, q10, q11, q12, q13, q14, q15, q16, q17, q18, q19, q20, q21, q22, q23, q24, q25, q26, q27, q28, q29] : List Nat).getD k 0) (upd (upd (upd (fun _ => 0) 0 (-1)) 1 (-1)) 2 (-1))) 14 rfl (ta_in (by decide)) rfl dX9_init_261 ?_
  refine n_iinc C (v := 3) 0 [(1, .int 3), (0, .ref h)] dX9_init_262 rfl (by decide) (by decide) rfl ?_
  refine n_goto C 249 dX9_init_265 (by decide) ?_
  refine n_iload C 0 dX9_init_249 rfl rfl ?_
  refine n_bipush C (8) dX9_init_250 (by decide) ?_
  refine n_geF C (tgt := 268) dX9_init_252 (by decide) (by decide) ?_
  refine n_aload C 1 dX9_init_255 rfl rfl ?_
  refine n_get C 0 f_X9_50 rfl rfl dX9_init_256 ?_
  refine n_iload C 0 dX9_init_259 rfl rfl ?_
  refine n_iconst C (-1) dX9_init_260 (by decide) ?_
  refine n_iast C (wA9 E h (fun k => ([q0, q1, q2, q3, q4, q5, q6, q7, q8, q9, q10, q11, q12, q13, q14, q15, q16, q17, q18, q19, q20, q21, q22, q23, q24, q25, q26, q27, q28, q29] : List Nat).getD k 0) (upd (upd (upd (upd (fun _ => 0) 0 (-1)) 1 (-1)) 2 (-1)) 3 (-1))) 14 rfl (ta_in (by decide)) rfl dX9_init_261 ?_
  refine n_iinc C (v := 4) 0 [(1, .int 4), (0, .ref h)] dX9_init_262 rfl (by decide) (by decide) rfl ?_
  refine n_goto C 249 dX9_init_265 (by decide) ?_
  refine n_iload C 0 dX9_init_249 rfl rfl ?_
  refine n_bipush C (8) dX9_init_250 (by decide) ?_
  refine n_geF C (tgt := 268) dX9_init_252 (by decide) (by decide) ?_
  refine n_aload C 1 dX9_init_255 rfl rfl ?_
  refine n_get C 0 f_X9_50 rfl rfl dX9_init_256 ?_
  refine n_iload C 0 dX9_init_259 rfl rfl ?_
  refine n_iconst C (-1) dX9_init_260 (by decide) ?_
  refine n_iast C (wA9 E h (fun k => ([q0, q1, q2, q3, q4, q5, q6, q7, q8, q9, q10, q11, q12, q13, q14, q15, q16, q17, q18, q19, q20, q21, q22, q23, q24, q25, q26, q27, q28, q29] : List Nat).getD k 0) (upd (upd (upd (upd (upd (fun _ => 0) 0 (-1)) 1 (-1)) 2 (-1)) 3 (-1)) 4 (-1))) 14 rfl (ta_in (by decide)) rfl dX9_init_261 ?_
  refine n_iinc C (v := 5) 0 [(1, .int 5), (0, .ref h)] dX9_init_262 rfl (by decide) (by decide) rfl ?_
  refine n_goto C 249 dX9_init_265 (by decide) ?_
  refine n_iload C 0 dX9_init_249 rfl rfl ?_
  refine n_bipush C (8) dX9_init_250 (by decide) ?_
  refine n_geF C (tgt := 268) dX9_init_252 (by decide) (by decide) ?_
  refine n_aload C 1 dX9_init_255 rfl rfl ?_
  refine n_get C 0 f_X9_50 rfl rfl dX9_init_256 ?_
  refine n_iload C 0 dX9_init_259 rfl rfl ?_
  refine n_iconst C (-1) dX9_init_260 (by decide) ?_
  refine n_iast C (wA9 E h (fun k => ([q0, q1, q2, q3, q4, q5, q6, q7, q8, q9, q10, q11, q12, q13, q14, q15, q16, q17, q18, q19, q20, q21, q22, q23, q24, q25, q26, q27, q28, q29] : List Nat).getD k 0) (upd (upd (upd (upd (upd (upd (fun _ => 0) 0 (-1)) 1 (-1)) 2 (-1)) 3 (-1)) 4 (-1)) 5 (-1))) 14 rfl (ta_in (by decide)) rfl dX9_init_261 ?_
  refine n_iinc C (v := 6) 0 [(1, .int 6), (0, .ref h)] dX9_init_262 rfl (by decide) (by decide) rfl ?_
  refine n_goto C 249 dX9_init_265 (by decide) ?_
  refine n_iload C 0 dX9_init_249 rfl rfl ?_
  refine n_bipush C (8) dX9_init_250 (by decide) ?_
  refine n_geF C (tgt := 268) dX9_init_252 (by decide) (by decide) ?_
  refine n_aload C 1 dX9_init_255 rfl rfl ?_
  refine n_get C 0 f_X9_50 rfl rfl dX9_init_256 ?_
  refine n_iload C 0 dX9_init_259 rfl rfl ?_
  refine n_iconst C (-1) dX9_init_260 (by decide) ?_
  refine n_iast C (wA9 E h (fun k => ([q0, q1, q2, q3, q4, q5, q6, q7, q8, q9, q10, q11, q12, q13, q14, q15, q16, q17, q18, q19, q20, q21, q22, q23, q24, q25, q26, q27, q28, q29] : List Nat).getD k 0) (upd (upd (upd (upd (upd (upd (upd (fun _ => 0) 0 (-1)) 1 (-1)) 2 (-1)) 3 (-1)) 4 (-1)) 5 (-1)) 6 (-1))) 14 rfl (ta_in (by decide)) rfl dX9_init_261 ?_
  refine n_iinc C (v := 7) 0 [(1, .int 7), (0, .ref h)] dX9_init_262 rfl (by decide) (by decide) rfl ?_
  refine n_goto C 249 dX9_init_265 (by decide) ?_
  refine n_iload C 0 dX9_init_249 rfl rfl ?_
  refine n_bipush C (8) dX9_init_250 (by decide) ?_
  refine n_geF C (tgt := 268) dX9_init_252 (by decide) (by decide) ?_
  refine n_aload C 1 dX9_init_255 rfl rfl ?_
  refine n_get C 0 f_X9_50 rfl rfl dX9_init_256 ?_
  refine n_iload C 0 dX9_init_259 rfl rfl ?_
  refine n_iconst C (-1) dX9_init_260 (by decide) ?_
  refine n_iast C (wA9 E h (fun k => ([q0, q1, q2, q3, q4, q5, q6, q7, q8, q9, q10, q11, q12, q13, q14, q15, q16, q17, q18, q19, q20, q21, q22, q23, q24, q25, q26, q27, q28, q29] : List Nat).getD k 0) (upd (upd (upd (upd (upd (upd (upd (upd (fun _ => 0) 0 (-1)) 1 (-1)) 2 (-1)) 3 (-1)) 4 (-1)) 5 (-1)) 6 (-1)) 7 (-1))) 14 rfl (ta_in (by decide)) rfl dX9_init_261 ?_
  refine n_iinc C (v := 8) 0 [(1, .int 8), (0, .ref h)] dX9_init_262 rfl (by decide) (by decide) rfl ?_
  refine n_goto C 249 dX9_init_265 (by decide) ?_
  refine n_iload C 0 dX9_init_249 rfl rfl ?_
  refine n_bipush C (8) dX9_init_250 (by decide) ?_
  refine n_geT C 268 dX9_init_252 (by decide) (by decide) ?_
  exact n_ret C T (fun k => ([q0, q1, q2, q3, q4, q5, q6, q7, q8, q9, q10, q11, q12, q13, q14, q15, q16, q17, q18, q19, q20, q21, q22, q23, q24, q25, q26, q27, q28, q29] : List Nat).getD k 0) rfl rfl rfl dX9_init_268
