/-! A STATION -/
theorem lt_drive {k : Int32} (h : ¬ f_X4_isDrive_r k = 0) : vp_in k 4 := by
  unfold f_X4_isDrive_r f_X4_isDrive_x1 at h
  split at h
  · exact absurd rfl h
  · rename_i h0
    split at h
    · exact absurd rfl h
    · rename_i h1
      exact vin_of (N := 4) rfl h0 h1
theorem vin_nat {k : Int32} {n : Nat} (h : vp_in k n) : k.toNatClampNeg < n := Nat.lt_of_not_le fun g => h (Or.inr g)
noncomputable def f_X3_hourOfNow_r (g : Nat → Int32) : Int32 := (g 2) / 60
set_option maxRecDepth 100000 in
set_option maxHeartbeats 4000000 in
theorem m_X3_hourOfNow (l : Launch) (G : GG) (a sa da : Nat) (g : Nat → Int32)  : CtI l yX3_hourOfNow cX3_hourOfNow 1 (some .int) (RM 0) G [.ref a] ([oS a sa da g]) (f_X3_hourOfNow_r g) ([oS a sa da g]) := by
  refine ct_I RX3 [(0, .ref a)] rfl (by decide +kernel) (Nat.le_of_ble_eq_true rfl) rfl ?_
  intro p e s m args below meth c A C hr hk hnm
  generalize hQ : (MQ below (PostI G A (f_X3_hourOfNow_r g) ([oS a sa da g])) args s (RM 0).cells (RM 0).slots A) = Q
  refine j_aload_n C dX3_hourOfNow_0 0 rfl ?_
  refine j_get C kin3 rfl 0 rfl 2 (by decide) kw_78 rfl (v := .int (g 2)) rfl dX3_hourOfNow_1 ?_
  refine j_bipush (v := 60) C dX3_hourOfNow_4 (by decide) ?_
  refine j_idiv C dX3_hourOfNow_6 (by decide) rfl ?_
  subst hQ; exact j_iret C hr hk ((show f_X3_hourOfNow_r g = (g 2) / 60 from rfl).symm) rfl dX3_hourOfNow_7
noncomputable def f_X3_settleHours_v3 (g : Nat → Int32) (s0 : Nat → Int32) (v : DO) (f : Nat → Int8) (k : Int32) (q : Int32) : (Nat → Int8) := (if f_X0_hourState_r v f (k - 1) = 1 then f_X0_markHour_f v f (k - 1) 2 else f)
noncomputable def f_X3_settleHours_v4 (g : Nat → Int32) (s0 : Nat → Int32) (v : DO) (f : Nat → Int8) (k : Int32) (q : Int32) : (Nat → Int32) := (if f_X0_hourState_r v f (k - 1) = 1 then upd g 5 ((g 5) + (s0 2)) else g)
noncomputable def f_X3_settleHours_v5 (g : Nat → Int32) (s0 : Nat → Int32) (v : DO) (f : Nat → Int8) (k : Int32) (q : Int32) : (Nat → Int32) := (if q = 0 then (f_X3_settleHours_v4 g s0 v f k q) else upd (f_X3_settleHours_v4 g s0 v f k q) 3 (((f_X3_settleHours_v4 g s0 v f k q) 3) + (s0 0)))
noncomputable def f_X3_settleHours_g (g : Nat → Int32) (s0 : Nat → Int32) (v : DO) (f : Nat → Int8) (k : Int32) (q : Int32) : (Nat → Int32) := (f_X3_settleHours_v5 g s0 v f k q)
noncomputable def f_X3_settleHours_f (g : Nat → Int32) (s0 : Nat → Int32) (v : DO) (f : Nat → Int8) (k : Int32) (q : Int32) : (Nat → Int8) := (f_X3_settleHours_v3 g s0 v f k q)
set_option maxRecDepth 100000 in
set_option maxHeartbeats 4000000 in
theorem m_X3_settleHours (l : Launch) (G : GG) (a b sa da h : Nat) (g : Nat → Int32) (s0 : Nat → Int32) (v : DO) (f : Nat → Int8) (k : Int32) (q : Int32)  : CtV l yX3_settleHours cX3_settleHours 4 (none : Option Jvm.ClassFile.FieldType) (RM 2) G [.ref a, .ref b, .int k, .int q] ([oS a sa da g, aI G sa 7 s0, oD b h v, aB G h f]) ([oS a sa da (f_X3_settleHours_g g s0 v f k q), aI G sa 7 s0, oD b h v, aB G h (f_X3_settleHours_f g s0 v f k q)]) := by
  refine ct_V RX3 [(0, .ref a), (1, .ref b), (2, .int k), (3, .int q)] rfl (by decide +kernel) (Nat.le_of_ble_eq_true rfl) rfl ?_
  intro p e s m args below meth c A C hr hk hnm
  generalize hQ : (MQ below (PostV G A ([oS a sa da (f_X3_settleHours_g g s0 v f k q), aI G sa 7 s0, oD b h v, aB G h (f_X3_settleHours_f g s0 v f k q)])) args s (RM 2).cells (RM 2).slots A) = Q
  refine j_aload_n C dX3_settleHours_0 1 rfl ?_
  refine j_iload_n C dX3_settleHours_1 2 rfl ?_
  refine j_iconst (v := 1) C dX3_settleHours_2 (by decide) ?_
  refine j_isub C dX3_settleHours_3 rfl ?_
  refine j_callV_i (r := f_X0_hourState_r v f (k - 1)) (wc' := [oD b h v, aB G h f]) C (m_X0_hourState l G b h v f (k - 1)) rfl 0 rfl 1 (gV kw_189 kw_181 kw_182 kw_4 kw_183) (by decide +kernel) ⟨(Nat.le_of_ble_eq_true rfl), (Nat.le_of_ble_eq_true rfl)⟩ rfl rfl (Nat.le_of_ble_eq_true rfl) dX3_settleHours_4 ⟨(Nat.le_of_ble_eq_true rfl), (Nat.le_of_ble_eq_true rfl)⟩ [oS a sa da g, aI G sa 7 s0] [oD b h v, aB G h f, oS a sa da g, aI G sa 7 s0] (perm_idx [2, 3, 0, 1] 4 rfl (by decide +kernel) rfl) rfl ?_
  refine j_iconst (v := 1) C dX3_settleHours_7 (by decide) ?_
  have K34 : WJ p l e (RM 2) s m args below meth c G A 4 0 0 Q ([oD b h v, aB G h (f_X3_settleHours_v3 g s0 v f k q), oS a sa da (f_X3_settleHours_v4 g s0 v f k q), aI G sa 7 s0]) [(0, .ref a), (1, .ref b), (2, .int k), (3, .int q)] 34 [] := by
    generalize hw1 : f_X3_settleHours_v3 g s0 v f k q = w1
    generalize hw2 : f_X3_settleHours_v4 g s0 v f k q = w2
    refine j_iload_n C dX3_settleHours_34 3 rfl ?_
    have K53 : WJ p l e (RM 2) s m args below meth c G A 4 0 0 Q ([oD b h v, aB G h w1, oS a sa da (f_X3_settleHours_v5 g s0 v f k q), aI G sa 7 s0]) [(0, .ref a), (1, .ref b), (2, .int k), (3, .int q)] 53 [] := by
      generalize hw4 : f_X3_settleHours_v5 g s0 v f k q = w4
      refine j_perm ([oS a sa da w4, aI G sa 7 s0, oD b h v, aB G h w1]) (perm_idx [2, 3, 0, 1] 4 rfl (by decide +kernel) rfl) ?_
      subst hQ; subst hw1 hw2 hw4; exact j_vret C hr hk (by rw [show f_X3_settleHours_g g s0 v f k q = (f_X3_settleHours_v5 g s0 v f k q) from rfl, show f_X3_settleHours_f g s0 v f k q = (f_X3_settleHours_v3 g s0 v f k q) from rfl]) dX3_settleHours_53
    refine j_if_eq (tgt := 53) C dX3_settleHours_35 (by decide) (fun c35 => ?_) (fun c35 => ?_)
    · subst hw1 hw2; exact j_eq (by rw [show f_X3_settleHours_v5 g s0 v f k q = (f_X3_settleHours_v4 g s0 v f k q) from (if_pos c35)]) rfl rfl K53
    · refine j_aload_n C dX3_settleHours_38 0 rfl ?_
      refine j_dup C dX3_settleHours_39 rfl ?_
      refine j_get C kin3 rfl 2 rfl 3 (by decide) kw_80 rfl (v := .int (w2 3)) rfl dX3_settleHours_40 ?_
      refine j_aload_n C dX3_settleHours_43 0 rfl ?_
      refine j_get C kin3 rfl 2 rfl 0 (by decide) kw_74 rfl (v := .ref sa) rfl dX3_settleHours_44 ?_
      refine j_iconst (v := 0) C dX3_settleHours_47 (by decide) ?_
      refine j_iald C 3 rfl (vin_lit rfl) (v := s0 0) rfl dX3_settleHours_48 ?_
      refine j_iadd C dX3_settleHours_49 rfl ?_
      generalize hw3 : (w2 3) + (s0 0) = w3
      refine j_put C kin3 rfl 2 rfl 3 (by decide) kw_80 rfl tyX3 tyX3_ok nmX3 rfl rfl rfl (Nat.le_of_ble_eq_true rfl) ([oD b h v, aB G h w1, oS a sa da (upd w2 3 w3), aI G sa 7 s0]) rfl dX3_settleHours_50 ?_
      subst hw1 hw2 hw3; exact j_eq (by rw [show f_X3_settleHours_v5 g s0 v f k q = upd (f_X3_settleHours_v4 g s0 v f k q) 3 (((f_X3_settleHours_v4 g s0 v f k q) 3) + (s0 0)) from (if_neg c35)]) rfl rfl K53
  refine j_icmp_ne (tgt := 34) C dX3_settleHours_8 (by decide) (fun c8 => ?_) (fun c8 => ?_)
  · exact j_eq (by rw [show f_X3_settleHours_v3 g s0 v f k q = f from (if_neg c8), show f_X3_settleHours_v4 g s0 v f k q = g from (if_neg c8)]) rfl rfl K34
  · refine j_aload_n C dX3_settleHours_11 1 rfl ?_
    refine j_iload_n C dX3_settleHours_12 2 rfl ?_
    refine j_iconst (v := 1) C dX3_settleHours_13 (by decide) ?_
    refine j_isub C dX3_settleHours_14 rfl ?_
    refine j_iconst (v := 2) C dX3_settleHours_15 (by decide) ?_
    refine j_callV_v (wc' := [oD b h v, aB G h (f_X0_markHour_f v f (k - 1) 2)]) C (m_X0_markHour l G b h v f (k - 1) 2) rfl 0 rfl 2 (gV kw_190 kw_191 kw_192 kw_4 kw_193) (by decide +kernel) ⟨(Nat.le_of_ble_eq_true rfl), (Nat.le_of_ble_eq_true rfl)⟩ rfl rfl (Nat.le_of_ble_eq_true rfl) dX3_settleHours_16 ⟨(Nat.le_of_ble_eq_true rfl), (Nat.le_of_ble_eq_true rfl)⟩ [oS a sa da g, aI G sa 7 s0] [oD b h v, aB G h (f_X0_markHour_f v f (k - 1) 2), oS a sa da g, aI G sa 7 s0] (perm_idx [0, 1, 2, 3] 4 rfl (by decide +kernel) rfl) rfl ?_
    refine j_aload_n C dX3_settleHours_19 0 rfl ?_
    refine j_dup C dX3_settleHours_20 rfl ?_
    refine j_get C kin3 rfl 2 rfl 5 (by decide) kw_84 rfl (v := .int (g 5)) rfl dX3_settleHours_21 ?_
    refine j_aload_n C dX3_settleHours_24 0 rfl ?_
    refine j_get C kin3 rfl 2 rfl 0 (by decide) kw_74 rfl (v := .ref sa) rfl dX3_settleHours_25 ?_
    refine j_iconst (v := 2) C dX3_settleHours_28 (by decide) ?_
    refine j_iald C 3 rfl (vin_lit rfl) (v := s0 2) rfl dX3_settleHours_29 ?_
    refine j_iadd C dX3_settleHours_30 rfl ?_
    generalize hw0 : (g 5) + (s0 2) = w0
    refine j_put C kin3 rfl 2 rfl 5 (by decide) kw_84 rfl tyX3 tyX3_ok nmX3 rfl rfl rfl (Nat.le_of_ble_eq_true rfl) ([oD b h v, aB G h (f_X0_markHour_f v f (k - 1) 2), oS a sa da (upd g 5 w0), aI G sa 7 s0]) rfl dX3_settleHours_31 ?_
    subst hw0; exact j_eq (by rw [show f_X3_settleHours_v3 g s0 v f k q = f_X0_markHour_f v f (k - 1) 2 from (if_pos c8), show f_X3_settleHours_v4 g s0 v f k q = upd g 5 ((g 5) + (s0 2)) from (if_pos c8)]) rfl rfl K34
noncomputable def f_X3_chargeOverrun_v2 (g : Nat → Int32) (s0 : Nat → Int32) (v : DO) (f : Nat → Int8) (k : Int32) : (Nat → Int32) := (if g 5 ≤ 0 then upd g 4 ((g 4) + (s0 1)) else upd (upd g 5 ((g 5) - 1)) 6 ((g 6) + 1))
noncomputable def f_X3_chargeOverrun_g (g : Nat → Int32) (s0 : Nat → Int32) (v : DO) (f : Nat → Int8) (k : Int32) : (Nat → Int32) := (f_X3_chargeOverrun_v2 g s0 v f k)
noncomputable def f_X3_chargeOverrun_v (g : Nat → Int32) (s0 : Nat → Int32) (v : DO) (f : Nat → Int8) (k : Int32) : DO := (upd v.1 7 ((v.1 7) + 1), v.2)
noncomputable def f_X3_chargeOverrun_f (g : Nat → Int32) (s0 : Nat → Int32) (v : DO) (f : Nat → Int8) (k : Int32) : (Nat → Int8) := f_X0_markHour_f (upd v.1 7 ((v.1 7) + 1), v.2) f k 3
set_option maxRecDepth 100000 in
set_option maxHeartbeats 4000000 in
theorem m_X3_chargeOverrun (l : Launch) (G : GG) (a b sa da h : Nat) (g : Nat → Int32) (s0 : Nat → Int32) (v : DO) (f : Nat → Int8) (k : Int32)  : CtV l yX3_chargeOverrun cX3_chargeOverrun 3 (none : Option Jvm.ClassFile.FieldType) (RM 2) G [.ref a, .ref b, .int k] ([oS a sa da g, aI G sa 7 s0, oD b h v, aB G h f]) ([oS a sa da (f_X3_chargeOverrun_g g s0 v f k), aI G sa 7 s0, oD b h (f_X3_chargeOverrun_v g s0 v f k), aB G h (f_X3_chargeOverrun_f g s0 v f k)]) := by
  refine ct_V RX3 [(0, .ref a), (1, .ref b), (2, .int k)] rfl (by decide +kernel) (Nat.le_of_ble_eq_true rfl) rfl ?_
  intro p e s m args below meth c A C hr hk hnm
  generalize hQ : (MQ below (PostV G A ([oS a sa da (f_X3_chargeOverrun_g g s0 v f k), aI G sa 7 s0, oD b h (f_X3_chargeOverrun_v g s0 v f k), aB G h (f_X3_chargeOverrun_f g s0 v f k)])) args s (RM 2).cells (RM 2).slots A) = Q
  refine j_aload_n C dX3_chargeOverrun_0 1 rfl ?_
  refine j_dup C dX3_chargeOverrun_1 rfl ?_
  refine j_get C kin0 rfl 2 rfl 7 (by decide) kw_50 rfl (v := .int (v.1 7)) rfl dX3_chargeOverrun_2 ?_
  refine j_iconst (v := 1) C dX3_chargeOverrun_5 (by decide) ?_
  refine j_iadd C dX3_chargeOverrun_6 rfl ?_
  generalize hw0 : (v.1 7) + 1 = w0
  refine j_put C kin0 rfl 2 rfl 7 (by decide) kw_50 rfl tyX0 tyX0_ok nmX0 rfl rfl rfl (Nat.le_of_ble_eq_true rfl) ([oS a sa da g, aI G sa 7 s0, oD b h (upd v.1 7 w0, v.2), aB G h f]) rfl dX3_chargeOverrun_7 ?_
  refine j_aload_n C dX3_chargeOverrun_10 1 rfl ?_
  refine j_iload_n C dX3_chargeOverrun_11 2 rfl ?_
  refine j_iconst (v := 3) C dX3_chargeOverrun_12 (by decide) ?_
  refine j_callV_v (wc' := [oD b h (upd v.1 7 w0, v.2), aB G h (f_X0_markHour_f (upd v.1 7 w0, v.2) f k 3)]) C (m_X0_markHour l G b h (upd v.1 7 w0, v.2) f k 3) rfl 0 rfl 2 (gV kw_190 kw_191 kw_192 kw_4 kw_193) (by decide +kernel) ⟨(Nat.le_of_ble_eq_true rfl), (Nat.le_of_ble_eq_true rfl)⟩ rfl rfl (Nat.le_of_ble_eq_true rfl) dX3_chargeOverrun_13 ⟨(Nat.le_of_ble_eq_true rfl), (Nat.le_of_ble_eq_true rfl)⟩ [oS a sa da g, aI G sa 7 s0] [oD b h (upd v.1 7 w0, v.2), aB G h (f_X0_markHour_f (upd v.1 7 w0, v.2) f k 3), oS a sa da g, aI G sa 7 s0] (perm_idx [2, 3, 0, 1] 4 rfl (by decide +kernel) rfl) rfl ?_
  refine j_aload_n C dX3_chargeOverrun_16 0 rfl ?_
  refine j_get C kin3 rfl 2 rfl 5 (by decide) kw_84 rfl (v := .int (g 5)) rfl dX3_chargeOverrun_17 ?_
  have K61 : WJ p l e (RM 2) s m args below meth c G A 3 0 0 Q ([oD b h (upd v.1 7 w0, v.2), aB G h (f_X0_markHour_f (upd v.1 7 w0, v.2) f k 3), oS a sa da (f_X3_chargeOverrun_v2 g s0 v f k), aI G sa 7 s0]) [(0, .ref a), (1, .ref b), (2, .int k)] 61 [] := by
    generalize hw4 : f_X3_chargeOverrun_v2 g s0 v f k = w4
    refine j_perm ([oS a sa da w4, aI G sa 7 s0, oD b h (upd v.1 7 w0, v.2), aB G h (f_X0_markHour_f (upd v.1 7 w0, v.2) f k 3)]) (perm_idx [2, 3, 0, 1] 4 rfl (by decide +kernel) rfl) ?_
    subst hQ; subst hw0 hw4; exact j_vret C hr hk (by rw [show f_X3_chargeOverrun_g g s0 v f k = (f_X3_chargeOverrun_v2 g s0 v f k) from rfl, show f_X3_chargeOverrun_v g s0 v f k = (upd v.1 7 ((v.1 7) + 1), v.2) from rfl, show f_X3_chargeOverrun_f g s0 v f k = f_X0_markHour_f (upd v.1 7 ((v.1 7) + 1), v.2) f k 3 from rfl]) dX3_chargeOverrun_61
  refine j_if_le (tgt := 46) C dX3_chargeOverrun_20 (by decide) (fun c20 => ?_) (fun c20 => ?_)
  · refine j_aload_n C dX3_chargeOverrun_46 0 rfl ?_
    refine j_dup C dX3_chargeOverrun_47 rfl ?_
    refine j_get C kin3 rfl 2 rfl 4 (by decide) kw_82 rfl (v := .int (g 4)) rfl dX3_chargeOverrun_48 ?_
    refine j_aload_n C dX3_chargeOverrun_51 0 rfl ?_
    refine j_get C kin3 rfl 2 rfl 0 (by decide) kw_74 rfl (v := .ref sa) rfl dX3_chargeOverrun_52 ?_
    refine j_iconst (v := 1) C dX3_chargeOverrun_55 (by decide) ?_
    refine j_iald C 3 rfl (vin_lit rfl) (v := s0 1) rfl dX3_chargeOverrun_56 ?_
    refine j_iadd C dX3_chargeOverrun_57 rfl ?_
    generalize hw1 : (g 4) + (s0 1) = w1
    refine j_put C kin3 rfl 2 rfl 4 (by decide) kw_82 rfl tyX3 tyX3_ok nmX3 rfl rfl rfl (Nat.le_of_ble_eq_true rfl) ([oD b h (upd v.1 7 w0, v.2), aB G h (f_X0_markHour_f (upd v.1 7 w0, v.2) f k 3), oS a sa da (upd g 4 w1), aI G sa 7 s0]) rfl dX3_chargeOverrun_58 ?_
    subst hw0 hw1; exact j_eq (by rw [show f_X3_chargeOverrun_v2 g s0 v f k = upd g 4 ((g 4) + (s0 1)) from (if_pos c20)]) rfl rfl K61
  · refine j_aload_n C dX3_chargeOverrun_23 0 rfl ?_
    refine j_dup C dX3_chargeOverrun_24 rfl ?_
    refine j_get C kin3 rfl 2 rfl 5 (by decide) kw_84 rfl (v := .int (g 5)) rfl dX3_chargeOverrun_25 ?_
    refine j_iconst (v := 1) C dX3_chargeOverrun_28 (by decide) ?_
    refine j_isub C dX3_chargeOverrun_29 rfl ?_
    generalize hw2 : (g 5) - 1 = w2
    refine j_put C kin3 rfl 2 rfl 5 (by decide) kw_84 rfl tyX3 tyX3_ok nmX3 rfl rfl rfl (Nat.le_of_ble_eq_true rfl) ([oD b h (upd v.1 7 w0, v.2), aB G h (f_X0_markHour_f (upd v.1 7 w0, v.2) f k 3), oS a sa da (upd g 5 w2), aI G sa 7 s0]) rfl dX3_chargeOverrun_30 ?_
    refine j_aload_n C dX3_chargeOverrun_33 0 rfl ?_
    refine j_dup C dX3_chargeOverrun_34 rfl ?_
    refine j_get C kin3 rfl 2 rfl 6 (by decide) kw_86 rfl (v := .int (g 6)) rfl dX3_chargeOverrun_35 ?_
    refine j_iconst (v := 1) C dX3_chargeOverrun_38 (by decide) ?_
    refine j_iadd C dX3_chargeOverrun_39 rfl ?_
    generalize hw3 : (g 6) + 1 = w3
    refine j_put C kin3 rfl 2 rfl 6 (by decide) kw_86 rfl tyX3 tyX3_ok nmX3 rfl rfl rfl (Nat.le_of_ble_eq_true rfl) ([oD b h (upd v.1 7 w0, v.2), aB G h (f_X0_markHour_f (upd v.1 7 w0, v.2) f k 3), oS a sa da (upd (upd g 5 w2) 6 w3), aI G sa 7 s0]) rfl dX3_chargeOverrun_40 ?_
    refine j_goto (tgt := 61) C dX3_chargeOverrun_43 (by decide) ?_
    subst hw0 hw2 hw3; exact j_eq (by rw [show f_X3_chargeOverrun_v2 g s0 v f k = upd (upd g 5 ((g 5) - 1)) 6 ((g 6) + 1) from (if_neg c20)]) rfl rfl K61
noncomputable def f_X3_cleanUp_x1 (g : Nat → Int32) (s0 : Nat → Int32) (v : DO) (q : Int32) : Int32 := (if q = 0 then (if b01 (v.1 4) = 0 then (if s0 3 ≤ v.1 0 then 0 else 1) else 1) else (if v.1 3 ≤ s0 6 then 0 else 1))
noncomputable def f_X3_cleanUp_x2 (g : Nat → Int32) (s0 : Nat → Int32) (v : DO) (q : Int32) : Int32 := (if (f_X3_cleanUp_x1 g s0 v q) = 0 then 0 else (if v.1 1 ≤ 0 then 0 else 1))
noncomputable def f_X3_cleanUp_v4 (g : Nat → Int32) (s0 : Nat → Int32) (v : DO) (q : Int32) : DO := (if (f_X3_cleanUp_x2 g s0 v q) = 0 then v else f_X0_cleanCells_v v (imin (s0 5) (v.1 1)))
noncomputable def f_X3_cleanUp_x5 (g : Nat → Int32) (s0 : Nat → Int32) (v : DO) (q : Int32) : Int32 := (if (f_X3_cleanUp_x2 g s0 v q) = 0 then 0 else (if q = 0 then (if s0 4 ≤ (f_X3_cleanUp_v4 g s0 v q).1 0 then 0 else (if (f_X3_cleanUp_v4 g s0 v q).1 1 ≤ 0 then 0 else 1)) else 0))
noncomputable def f_X3_cleanUp_v (g : Nat → Int32) (s0 : Nat → Int32) (v : DO) (q : Int32) : DO := (upd (f_X3_cleanUp_v4 g s0 v q).1 4 (f_X3_cleanUp_x5 g s0 v q), (f_X3_cleanUp_v4 g s0 v q).2)
noncomputable def f_X3_cleanUp_r (g : Nat → Int32) (s0 : Nat → Int32) (v : DO) (q : Int32) : Int32 := (f_X3_cleanUp_x2 g s0 v q)
set_option maxRecDepth 100000 in
set_option maxHeartbeats 4000000 in
theorem m_X3_cleanUp (l : Launch) (G : GG) (a b sa da h : Nat) (g : Nat → Int32) (s0 : Nat → Int32) (v : DO) (q : Int32)  : CtI l yX3_cleanUp cX3_cleanUp 5 (some .boolean) (RM 1) G [.ref a, .ref b, .int q] ([oS a sa da g, aI G sa 7 s0, oD b h v]) (f_X3_cleanUp_r g s0 v q) ([oS a sa da g, aI G sa 7 s0, oD b h (f_X3_cleanUp_v g s0 v q)]) := by
  refine ct_I RX3 [(0, .ref a), (1, .ref b), (2, .int q)] rfl (by decide +kernel) (Nat.le_of_ble_eq_true rfl) rfl ?_
  intro p e s m args below meth c A C hr hk hnm
  generalize hQ : (MQ below (PostI G A (f_X3_cleanUp_r g s0 v q) ([oS a sa da g, aI G sa 7 s0, oD b h (f_X3_cleanUp_v g s0 v q)])) args s (RM 1).cells (RM 1).slots A) = Q
  refine j_iload_n C dX3_cleanUp_0 2 rfl ?_
  have K51 : WJ p l e (RM 1) s m args below meth c G A 5 0 0 Q ([oS a sa da g, aI G sa 7 s0, oD b h v]) [(0, .ref a), (1, .ref b), (2, .int q)] 51 [.int (f_X3_cleanUp_x1 g s0 v q)] := by
    generalize hw0 : f_X3_cleanUp_x1 g s0 v q = w0
    refine j_istore_n C [(3, .int w0), (0, .ref a), (1, .ref b), (2, .int q)] dX3_cleanUp_51 (by decide) rfl ?_
    refine j_iload_n C dX3_cleanUp_52 0 rfl ?_
    have K68 : WJ p l e (RM 1) s m args below meth c G A 5 0 0 Q ([oS a sa da g, aI G sa 7 s0, oD b h v]) [(3, .int w0), (0, .ref a), (1, .ref b), (2, .int q)] 68 [.int (f_X3_cleanUp_x2 g s0 v q)] := by
      generalize hw1 : f_X3_cleanUp_x2 g s0 v q = w1
      refine j_istore C [(4, .int w1), (3, .int w0), (0, .ref a), (1, .ref b), (2, .int q)] dX3_cleanUp_68 (by decide) rfl ?_
      refine j_iload C dX3_cleanUp_70 0 rfl ?_
      have K92 : WJ p l e (RM 1) s m args below meth c G A 5 0 0 Q ([oS a sa da g, aI G sa 7 s0, oD b h (f_X3_cleanUp_v4 g s0 v q)]) [(4, .int w1), (3, .int w0), (0, .ref a), (1, .ref b), (2, .int q)] 92 [] := by
        generalize hw2 : f_X3_cleanUp_v4 g s0 v q = w2
        refine j_aload_n C dX3_cleanUp_92 3 rfl ?_
        refine j_iload C dX3_cleanUp_93 0 rfl ?_
        have K127 : WJ p l e (RM 1) s m args below meth c G A 5 0 0 Q ([oS a sa da g, aI G sa 7 s0, oD b h w2]) [(4, .int w1), (3, .int w0), (0, .ref a), (1, .ref b), (2, .int q)] 127 [.int (f_X3_cleanUp_x5 g s0 v q), .ref b] := by
          generalize hw3 : f_X3_cleanUp_x5 g s0 v q = w3
          refine j_top01 (by subst hw0 hw1 hw2 hw3; exact b01_of (by unfold f_X3_cleanUp_x5; (repeat' split) <;> decide)) ?_
          refine j_put C kin0 rfl 2 rfl 4 (by decide) kw_43 rfl tyX0 tyX0_ok nmX0 rfl (nar_b01 _) (fit_b01 _) (Nat.le_of_ble_eq_true rfl) ([oS a sa da g, aI G sa 7 s0, oD b h (upd w2.1 4 w3, w2.2)]) rfl dX3_cleanUp_127 ?_
          refine j_iload C dX3_cleanUp_130 0 rfl ?_
          subst hQ; subst hw0 hw1 hw2 hw3; exact j_zret C hr hk (by unfold f_X3_cleanUp_x2; (repeat' split) <;> rfl) ((show f_X3_cleanUp_r g s0 v q = (f_X3_cleanUp_x2 g s0 v q) from rfl).symm) (by rw [show f_X3_cleanUp_v g s0 v q = (upd (f_X3_cleanUp_v4 g s0 v q).1 4 (f_X3_cleanUp_x5 g s0 v q), (f_X3_cleanUp_v4 g s0 v q).2) from rfl]) dX3_cleanUp_132
        refine j_if_eq (tgt := 126) C dX3_cleanUp_95 (by decide) (fun c95 => ?_) (fun c95 => ?_)
        · refine j_iconst (v := 0) C dX3_cleanUp_126 (by decide) ?_
          subst hw0 hw1 hw2; exact j_eq rfl rfl (by rw [show f_X3_cleanUp_x5 g s0 v q = 0 from (if_pos c95)]) K127
        · refine j_iload_n C dX3_cleanUp_98 4 rfl ?_
          refine j_if_ne (tgt := 126) C dX3_cleanUp_99 (by decide) (fun c99 => ?_) (fun c99 => ?_)
          · refine j_iconst (v := 0) C dX3_cleanUp_126 (by decide) ?_
            subst hw0 hw1 hw2; exact j_eq rfl rfl (by rw [show f_X3_cleanUp_x5 g s0 v q = 0 from ((if_neg c95).trans (if_neg c99))]) K127
          · refine j_aload_n C dX3_cleanUp_102 3 rfl ?_
            refine j_get C kin0 rfl 2 rfl 0 (by decide) kw_32 rfl (v := .int (w2.1 0)) rfl dX3_cleanUp_103 ?_
            refine j_aload_n C dX3_cleanUp_106 2 rfl ?_
            refine j_get C kin3 rfl 0 rfl 0 (by decide) kw_74 rfl (v := .ref sa) rfl dX3_cleanUp_107 ?_
            refine j_iconst (v := 4) C dX3_cleanUp_110 (by decide) ?_
            refine j_iald C 1 rfl (vin_lit rfl) (v := s0 4) rfl dX3_cleanUp_111 ?_
            refine j_icmp_ge (tgt := 126) C dX3_cleanUp_112 (by decide) (fun c112 => ?_) (fun c112 => ?_)
            · refine j_iconst (v := 0) C dX3_cleanUp_126 (by decide) ?_
              subst hw0 hw1 hw2; exact j_eq rfl rfl (by rw [show f_X3_cleanUp_x5 g s0 v q = 0 from ((if_neg c95).trans ((if_pos c99).trans (if_pos c112)))]) K127
            · refine j_aload_n C dX3_cleanUp_115 3 rfl ?_
              refine j_get C kin0 rfl 2 rfl 1 (by decide) kw_35 rfl (v := .int (w2.1 1)) rfl dX3_cleanUp_116 ?_
              refine j_if_le (tgt := 126) C dX3_cleanUp_119 (by decide) (fun c119 => ?_) (fun c119 => ?_)
              · refine j_iconst (v := 0) C dX3_cleanUp_126 (by decide) ?_
                subst hw0 hw1 hw2; exact j_eq rfl rfl (by rw [show f_X3_cleanUp_x5 g s0 v q = 0 from ((if_neg c95).trans ((if_pos c99).trans ((if_neg c112).trans (if_pos c119))))]) K127
              · refine j_iconst (v := 1) C dX3_cleanUp_122 (by decide) ?_
                refine j_goto (tgt := 127) C dX3_cleanUp_123 (by decide) ?_
                subst hw0 hw1 hw2; exact j_eq rfl rfl (by rw [show f_X3_cleanUp_x5 g s0 v q = 1 from ((if_neg c95).trans ((if_pos c99).trans ((if_neg c112).trans (if_neg c119))))]) K127
      refine j_if_eq (tgt := 92) C dX3_cleanUp_72 (by decide) (fun c72 => ?_) (fun c72 => ?_)
      · subst hw0 hw1; exact j_eq (by rw [show f_X3_cleanUp_v4 g s0 v q = v from (if_pos c72)]) rfl rfl K92
      · refine j_aload_n C dX3_cleanUp_75 3 rfl ?_
        refine j_aload_n C dX3_cleanUp_76 2 rfl ?_
        refine j_get C kin3 rfl 0 rfl 0 (by decide) kw_74 rfl (v := .ref sa) rfl dX3_cleanUp_77 ?_
        refine j_iconst (v := 5) C dX3_cleanUp_80 (by decide) ?_
        refine j_iald C 1 rfl (vin_lit rfl) (v := s0 5) rfl dX3_cleanUp_81 ?_
        refine j_aload_n C dX3_cleanUp_82 3 rfl ?_
        refine j_get C kin0 rfl 2 rfl 1 (by decide) kw_35 rfl (v := .int (v.1 1)) rfl dX3_cleanUp_83 ?_
        refine j_mmin C kw_219 (Nat.le_of_ble_eq_true rfl) (Nat.le_of_ble_eq_true rfl) ⟨(Nat.le_of_ble_eq_true rfl), (Nat.le_of_ble_eq_true rfl)⟩ dX3_cleanUp_86 (v := imin (s0 5) (v.1 1)) (imin_eq _ _).symm ?_
        refine j_callV_v (wc' := [oD b h (f_X0_cleanCells_v v (imin (s0 5) (v.1 1)))]) C (m_X0_cleanCells l G b h v (imin (s0 5) (v.1 1))) rfl 0 rfl 1 (gV kw_220 kw_221 kw_222 kw_4 kw_223) (by decide +kernel) ⟨(Nat.le_of_ble_eq_true rfl), (Nat.le_of_ble_eq_true rfl)⟩ rfl rfl (Nat.le_of_ble_eq_true rfl) dX3_cleanUp_89 ⟨(Nat.le_of_ble_eq_true rfl), (Nat.le_of_ble_eq_true rfl)⟩ [oS a sa da g, aI G sa 7 s0] [oD b h (f_X0_cleanCells_v v (imin (s0 5) (v.1 1))), oS a sa da g, aI G sa 7 s0] (perm_idx [2, 0, 1] 3 rfl (by decide +kernel) rfl) rfl ?_
        refine j_perm ([oS a sa da g, aI G sa 7 s0, oD b h (f_X0_cleanCells_v v (imin (s0 5) (v.1 1)))]) (perm_idx [1, 2, 0] 3 rfl (by decide +kernel) rfl) ?_
        subst hw0 hw1; exact j_eq (by rw [show f_X3_cleanUp_v4 g s0 v q = f_X0_cleanCells_v v (imin (s0 5) (v.1 1)) from (if_neg c72)]) rfl rfl K92
    refine j_if_eq (tgt := 67) C dX3_cleanUp_53 (by decide) (fun c53 => ?_) (fun c53 => ?_)
    · refine j_iconst (v := 0) C dX3_cleanUp_67 (by decide) ?_
      subst hw0; exact j_eq rfl rfl (by rw [show f_X3_cleanUp_x2 g s0 v q = 0 from (if_pos c53)]) K68
    · refine j_aload_n C dX3_cleanUp_56 2 rfl ?_
      refine j_get C kin0 rfl 2 rfl 1 (by decide) kw_35 rfl (v := .int (v.1 1)) rfl dX3_cleanUp_57 ?_
      refine j_if_le (tgt := 67) C dX3_cleanUp_60 (by decide) (fun c60 => ?_) (fun c60 => ?_)
      · refine j_iconst (v := 0) C dX3_cleanUp_67 (by decide) ?_
        subst hw0; exact j_eq rfl rfl (by rw [show f_X3_cleanUp_x2 g s0 v q = 0 from ((if_neg c53).trans (if_pos c60))]) K68
      · refine j_iconst (v := 1) C dX3_cleanUp_63 (by decide) ?_
        refine j_goto (tgt := 68) C dX3_cleanUp_64 (by decide) ?_
        subst hw0; exact j_eq rfl rfl (by rw [show f_X3_cleanUp_x2 g s0 v q = 1 from ((if_neg c53).trans (if_neg c60))]) K68
  refine j_if_eq (tgt := 26) C dX3_cleanUp_1 (by decide) (fun c1 => ?_) (fun c1 => ?_)
  · refine j_aload_n C dX3_cleanUp_26 1 rfl ?_
    refine j_get C kin0 rfl 2 rfl 4 (by decide) kw_43 rfl (v := .int (b01 (v.1 4))) rfl dX3_cleanUp_27 ?_
    refine j_if_ne (tgt := 46) C dX3_cleanUp_30 (by decide) (fun c30 => ?_) (fun c30 => ?_)
    · refine j_iconst (v := 1) C dX3_cleanUp_46 (by decide) ?_
      refine j_goto (tgt := 51) C dX3_cleanUp_47 (by decide) ?_
      exact j_eq rfl rfl (by rw [show f_X3_cleanUp_x1 g s0 v q = 1 from ((if_pos c1).trans (if_neg c30))]) K51
    · refine j_aload_n C dX3_cleanUp_33 1 rfl ?_
      refine j_get C kin0 rfl 2 rfl 0 (by decide) kw_32 rfl (v := .int (v.1 0)) rfl dX3_cleanUp_34 ?_
      refine j_aload_n C dX3_cleanUp_37 0 rfl ?_
      refine j_get C kin3 rfl 0 rfl 0 (by decide) kw_74 rfl (v := .ref sa) rfl dX3_cleanUp_38 ?_
      refine j_iconst (v := 3) C dX3_cleanUp_41 (by decide) ?_
      refine j_iald C 1 rfl (vin_lit rfl) (v := s0 3) rfl dX3_cleanUp_42 ?_
      refine j_icmp_ge (tgt := 50) C dX3_cleanUp_43 (by decide) (fun c43 => ?_) (fun c43 => ?_)
      · refine j_iconst (v := 0) C dX3_cleanUp_50 (by decide) ?_
        exact j_eq rfl rfl (by rw [show f_X3_cleanUp_x1 g s0 v q = 0 from ((if_pos c1).trans ((if_pos c30).trans (if_pos c43)))]) K51
      · refine j_iconst (v := 1) C dX3_cleanUp_46 (by decide) ?_
        refine j_goto (tgt := 51) C dX3_cleanUp_47 (by decide) ?_
        exact j_eq rfl rfl (by rw [show f_X3_cleanUp_x1 g s0 v q = 1 from ((if_pos c1).trans ((if_pos c30).trans (if_neg c43)))]) K51
  · refine j_aload_n C dX3_cleanUp_4 1 rfl ?_
    refine j_get C kin0 rfl 2 rfl 3 (by decide) kw_39 rfl (v := .int (v.1 3)) rfl dX3_cleanUp_5 ?_
    refine j_aload_n C dX3_cleanUp_8 0 rfl ?_
    refine j_get C kin3 rfl 0 rfl 0 (by decide) kw_74 rfl (v := .ref sa) rfl dX3_cleanUp_9 ?_
    refine j_bipush (v := 6) C dX3_cleanUp_12 (by decide) ?_
    refine j_iald C 1 rfl (vin_lit rfl) (v := s0 6) rfl dX3_cleanUp_14 ?_
    refine j_icmp_le (tgt := 22) C dX3_cleanUp_15 (by decide) (fun c15 => ?_) (fun c15 => ?_)
    · refine j_iconst (v := 0) C dX3_cleanUp_22 (by decide) ?_
      refine j_goto (tgt := 51) C dX3_cleanUp_23 (by decide) ?_
      exact j_eq rfl rfl (by rw [show f_X3_cleanUp_x1 g s0 v q = 0 from ((if_neg c1).trans (if_pos c15))]) K51
    · refine j_iconst (v := 1) C dX3_cleanUp_18 (by decide) ?_
      refine j_goto (tgt := 51) C dX3_cleanUp_19 (by decide) ?_
      exact j_eq rfl rfl (by rw [show f_X3_cleanUp_x1 g s0 v q = 1 from ((if_neg c1).trans (if_neg c15))]) K51
theorem f_X3_passMinuteOf_gq3_ex : ∃ F : (Nat → Int32) → (Nat → Int32) → DO → (Nat → Int8) → DO → (Nat → Int8) → (Nat → Int32), ∀ (g : Nat → Int32) (s0 : Nat → Int32) (v : DO) (f : Nat → Int8) (tv : DO) (tf : Nat → Int8), F g s0 v f tv tf = f_X3_settleHours_g g s0 v f (f_X3_hourOfNow_r g) (f_X0_isQuietIn_r v f (f_X3_hourOfNow_r g)) := ⟨fun g s0 v f tv tf => f_X3_settleHours_g g s0 v f (f_X3_hourOfNow_r g) (f_X0_isQuietIn_r v f (f_X3_hourOfNow_r g)), fun _ _ _ _ _ _ => rfl⟩
noncomputable def f_X3_passMinuteOf_gq3 : (Nat → Int32) → (Nat → Int32) → DO → (Nat → Int8) → DO → (Nat → Int8) → (Nat → Int32) := Classical.choose f_X3_passMinuteOf_gq3_ex
theorem f_X3_passMinuteOf_gq3_eq (g : Nat → Int32) (s0 : Nat → Int32) (v : DO) (f : Nat → Int8) (tv : DO) (tf : Nat → Int8) : f_X3_passMinuteOf_gq3 g s0 v f tv tf = f_X3_settleHours_g g s0 v f (f_X3_hourOfNow_r g) (f_X0_isQuietIn_r v f (f_X3_hourOfNow_r g)) := Classical.choose_spec f_X3_passMinuteOf_gq3_ex g s0 v f tv tf
theorem f_X3_passMinuteOf_fq3_ex : ∃ F : (Nat → Int32) → (Nat → Int32) → DO → (Nat → Int8) → DO → (Nat → Int8) → (Nat → Int8), ∀ (g : Nat → Int32) (s0 : Nat → Int32) (v : DO) (f : Nat → Int8) (tv : DO) (tf : Nat → Int8), F g s0 v f tv tf = f_X3_settleHours_f g s0 v f (f_X3_hourOfNow_r g) (f_X0_isQuietIn_r v f (f_X3_hourOfNow_r g)) := ⟨fun g s0 v f tv tf => f_X3_settleHours_f g s0 v f (f_X3_hourOfNow_r g) (f_X0_isQuietIn_r v f (f_X3_hourOfNow_r g)), fun _ _ _ _ _ _ => rfl⟩
noncomputable def f_X3_passMinuteOf_fq3 : (Nat → Int32) → (Nat → Int32) → DO → (Nat → Int8) → DO → (Nat → Int8) → (Nat → Int8) := Classical.choose f_X3_passMinuteOf_fq3_ex
theorem f_X3_passMinuteOf_fq3_eq (g : Nat → Int32) (s0 : Nat → Int32) (v : DO) (f : Nat → Int8) (tv : DO) (tf : Nat → Int8) : f_X3_passMinuteOf_fq3 g s0 v f tv tf = f_X3_settleHours_f g s0 v f (f_X3_hourOfNow_r g) (f_X0_isQuietIn_r v f (f_X3_hourOfNow_r g)) := Classical.choose_spec f_X3_passMinuteOf_fq3_ex g s0 v f tv tf
theorem f_X3_passMinuteOf_v4_ex : ∃ F : (Nat → Int32) → (Nat → Int32) → DO → (Nat → Int8) → DO → (Nat → Int8) → (Nat → Int32), ∀ (g : Nat → Int32) (s0 : Nat → Int32) (v : DO) (f : Nat → Int8) (tv : DO) (tf : Nat → Int8), F g s0 v f tv tf = (if (g 2) - (g 2) / 60 * 60 = 0 then (f_X3_passMinuteOf_gq3 g s0 v f tv tf) else g) := ⟨fun g s0 v f tv tf => (if (g 2) - (g 2) / 60 * 60 = 0 then (f_X3_passMinuteOf_gq3 g s0 v f tv tf) else g), fun _ _ _ _ _ _ => rfl⟩
noncomputable def f_X3_passMinuteOf_v4 : (Nat → Int32) → (Nat → Int32) → DO → (Nat → Int8) → DO → (Nat → Int8) → (Nat → Int32) := Classical.choose f_X3_passMinuteOf_v4_ex
theorem f_X3_passMinuteOf_v4_eq (g : Nat → Int32) (s0 : Nat → Int32) (v : DO) (f : Nat → Int8) (tv : DO) (tf : Nat → Int8) : f_X3_passMinuteOf_v4 g s0 v f tv tf = (if (g 2) - (g 2) / 60 * 60 = 0 then (f_X3_passMinuteOf_gq3 g s0 v f tv tf) else g) := Classical.choose_spec f_X3_passMinuteOf_v4_ex g s0 v f tv tf
theorem f_X3_passMinuteOf_v5_ex : ∃ F : (Nat → Int32) → (Nat → Int32) → DO → (Nat → Int8) → DO → (Nat → Int8) → (Nat → Int8), ∀ (g : Nat → Int32) (s0 : Nat → Int32) (v : DO) (f : Nat → Int8) (tv : DO) (tf : Nat → Int8), F g s0 v f tv tf = (if (g 2) - (g 2) / 60 * 60 = 0 then (f_X3_passMinuteOf_fq3 g s0 v f tv tf) else f) := ⟨fun g s0 v f tv tf => (if (g 2) - (g 2) / 60 * 60 = 0 then (f_X3_passMinuteOf_fq3 g s0 v f tv tf) else f), fun _ _ _ _ _ _ => rfl⟩
noncomputable def f_X3_passMinuteOf_v5 : (Nat → Int32) → (Nat → Int32) → DO → (Nat → Int8) → DO → (Nat → Int8) → (Nat → Int8) := Classical.choose f_X3_passMinuteOf_v5_ex
theorem f_X3_passMinuteOf_v5_eq (g : Nat → Int32) (s0 : Nat → Int32) (v : DO) (f : Nat → Int8) (tv : DO) (tf : Nat → Int8) : f_X3_passMinuteOf_v5 g s0 v f tv tf = (if (g 2) - (g 2) / 60 * 60 = 0 then (f_X3_passMinuteOf_fq3 g s0 v f tv tf) else f) := Classical.choose_spec f_X3_passMinuteOf_v5_ex g s0 v f tv tf
theorem f_X3_passMinuteOf_vq6_ex : ∃ F : (Nat → Int32) → (Nat → Int32) → DO → (Nat → Int8) → DO → (Nat → Int8) → DO, ∀ (g : Nat → Int32) (s0 : Nat → Int32) (v : DO) (f : Nat → Int8) (tv : DO) (tf : Nat → Int8), F g s0 v f tv tf = f_X0_takeStream_v v ((f_X3_passMinuteOf_v4 g s0 v f tv tf) 2) := ⟨fun g s0 v f tv tf => f_X0_takeStream_v v ((f_X3_passMinuteOf_v4 g s0 v f tv tf) 2), fun _ _ _ _ _ _ => rfl⟩
noncomputable def f_X3_passMinuteOf_vq6 : (Nat → Int32) → (Nat → Int32) → DO → (Nat → Int8) → DO → (Nat → Int8) → DO := Classical.choose f_X3_passMinuteOf_vq6_ex
theorem f_X3_passMinuteOf_vq6_eq (g : Nat → Int32) (s0 : Nat → Int32) (v : DO) (f : Nat → Int8) (tv : DO) (tf : Nat → Int8) : f_X3_passMinuteOf_vq6 g s0 v f tv tf = f_X0_takeStream_v v ((f_X3_passMinuteOf_v4 g s0 v f tv tf) 2) := Classical.choose_spec f_X3_passMinuteOf_vq6_ex g s0 v f tv tf
theorem f_X3_passMinuteOf_vq7_ex : ∃ F : (Nat → Int32) → (Nat → Int32) → DO → (Nat → Int8) → DO → (Nat → Int8) → DO, ∀ (g : Nat → Int32) (s0 : Nat → Int32) (v : DO) (f : Nat → Int8) (tv : DO) (tf : Nat → Int8), F g s0 v f tv tf = f_X0_takeBackFrom_v (f_X3_passMinuteOf_vq6 g s0 v f tv tf) tv := ⟨fun g s0 v f tv tf => f_X0_takeBackFrom_v (f_X3_passMinuteOf_vq6 g s0 v f tv tf) tv, fun _ _ _ _ _ _ => rfl⟩
noncomputable def f_X3_passMinuteOf_vq7 : (Nat → Int32) → (Nat → Int32) → DO → (Nat → Int8) → DO → (Nat → Int8) → DO := Classical.choose f_X3_passMinuteOf_vq7_ex
theorem f_X3_passMinuteOf_vq7_eq (g : Nat → Int32) (s0 : Nat → Int32) (v : DO) (f : Nat → Int8) (tv : DO) (tf : Nat → Int8) : f_X3_passMinuteOf_vq7 g s0 v f tv tf = f_X0_takeBackFrom_v (f_X3_passMinuteOf_vq6 g s0 v f tv tf) tv := Classical.choose_spec f_X3_passMinuteOf_vq7_ex g s0 v f tv tf
theorem f_X3_passMinuteOf_tq7_ex : ∃ F : (Nat → Int32) → (Nat → Int32) → DO → (Nat → Int8) → DO → (Nat → Int8) → DO, ∀ (g : Nat → Int32) (s0 : Nat → Int32) (v : DO) (f : Nat → Int8) (tv : DO) (tf : Nat → Int8), F g s0 v f tv tf = f_X0_takeBackFrom_t (f_X3_passMinuteOf_vq6 g s0 v f tv tf) tv := ⟨fun g s0 v f tv tf => f_X0_takeBackFrom_t (f_X3_passMinuteOf_vq6 g s0 v f tv tf) tv, fun _ _ _ _ _ _ => rfl⟩
noncomputable def f_X3_passMinuteOf_tq7 : (Nat → Int32) → (Nat → Int32) → DO → (Nat → Int8) → DO → (Nat → Int8) → DO := Classical.choose f_X3_passMinuteOf_tq7_ex
theorem f_X3_passMinuteOf_tq7_eq (g : Nat → Int32) (s0 : Nat → Int32) (v : DO) (f : Nat → Int8) (tv : DO) (tf : Nat → Int8) : f_X3_passMinuteOf_tq7 g s0 v f tv tf = f_X0_takeBackFrom_t (f_X3_passMinuteOf_vq6 g s0 v f tv tf) tv := Classical.choose_spec f_X3_passMinuteOf_tq7_ex g s0 v f tv tf
theorem f_X3_passMinuteOf_v8_ex : ∃ F : (Nat → Int32) → (Nat → Int32) → DO → (Nat → Int8) → DO → (Nat → Int8) → DO, ∀ (g : Nat → Int32) (s0 : Nat → Int32) (v : DO) (f : Nat → Int8) (tv : DO) (tf : Nat → Int8), F g s0 v f tv tf = (if f_X0_isQuietIn_r v f (f_X3_hourOfNow_r g) = 0 then (f_X3_passMinuteOf_vq7 g s0 v f tv tf) else (f_X3_passMinuteOf_vq6 g s0 v f tv tf)) := ⟨fun g s0 v f tv tf => (if f_X0_isQuietIn_r v f (f_X3_hourOfNow_r g) = 0 then (f_X3_passMinuteOf_vq7 g s0 v f tv tf) else (f_X3_passMinuteOf_vq6 g s0 v f tv tf)), fun _ _ _ _ _ _ => rfl⟩
noncomputable def f_X3_passMinuteOf_v8 : (Nat → Int32) → (Nat → Int32) → DO → (Nat → Int8) → DO → (Nat → Int8) → DO := Classical.choose f_X3_passMinuteOf_v8_ex
theorem f_X3_passMinuteOf_v8_eq (g : Nat → Int32) (s0 : Nat → Int32) (v : DO) (f : Nat → Int8) (tv : DO) (tf : Nat → Int8) : f_X3_passMinuteOf_v8 g s0 v f tv tf = (if f_X0_isQuietIn_r v f (f_X3_hourOfNow_r g) = 0 then (f_X3_passMinuteOf_vq7 g s0 v f tv tf) else (f_X3_passMinuteOf_vq6 g s0 v f tv tf)) := Classical.choose_spec f_X3_passMinuteOf_v8_ex g s0 v f tv tf
theorem f_X3_passMinuteOf_v9_ex : ∃ F : (Nat → Int32) → (Nat → Int32) → DO → (Nat → Int8) → DO → (Nat → Int8) → DO, ∀ (g : Nat → Int32) (s0 : Nat → Int32) (v : DO) (f : Nat → Int8) (tv : DO) (tf : Nat → Int8), F g s0 v f tv tf = (if f_X0_isQuietIn_r v f (f_X3_hourOfNow_r g) = 0 then (f_X3_passMinuteOf_tq7 g s0 v f tv tf) else tv) := ⟨fun g s0 v f tv tf => (if f_X0_isQuietIn_r v f (f_X3_hourOfNow_r g) = 0 then (f_X3_passMinuteOf_tq7 g s0 v f tv tf) else tv), fun _ _ _ _ _ _ => rfl⟩
noncomputable def f_X3_passMinuteOf_v9 : (Nat → Int32) → (Nat → Int32) → DO → (Nat → Int8) → DO → (Nat → Int8) → DO := Classical.choose f_X3_passMinuteOf_v9_ex
theorem f_X3_passMinuteOf_v9_eq (g : Nat → Int32) (s0 : Nat → Int32) (v : DO) (f : Nat → Int8) (tv : DO) (tf : Nat → Int8) : f_X3_passMinuteOf_v9 g s0 v f tv tf = (if f_X0_isQuietIn_r v f (f_X3_hourOfNow_r g) = 0 then (f_X3_passMinuteOf_tq7 g s0 v f tv tf) else tv) := Classical.choose_spec f_X3_passMinuteOf_v9_ex g s0 v f tv tf
theorem f_X3_passMinuteOf_rq11_ex : ∃ F : (Nat → Int32) → (Nat → Int32) → DO → (Nat → Int8) → DO → (Nat → Int8) → Int32, ∀ (g : Nat → Int32) (s0 : Nat → Int32) (v : DO) (f : Nat → Int8) (tv : DO) (tf : Nat → Int8), F g s0 v f tv tf = f_X0_isQuietIn_r (f_X3_passMinuteOf_v9 g s0 v f tv tf) tf (f_X3_hourOfNow_r g) := ⟨fun g s0 v f tv tf => f_X0_isQuietIn_r (f_X3_passMinuteOf_v9 g s0 v f tv tf) tf (f_X3_hourOfNow_r g), fun _ _ _ _ _ _ => rfl⟩
noncomputable def f_X3_passMinuteOf_rq11 : (Nat → Int32) → (Nat → Int32) → DO → (Nat → Int8) → DO → (Nat → Int8) → Int32 := Classical.choose f_X3_passMinuteOf_rq11_ex
theorem f_X3_passMinuteOf_rq11_eq (g : Nat → Int32) (s0 : Nat → Int32) (v : DO) (f : Nat → Int8) (tv : DO) (tf : Nat → Int8) : f_X3_passMinuteOf_rq11 g s0 v f tv tf = f_X0_isQuietIn_r (f_X3_passMinuteOf_v9 g s0 v f tv tf) tf (f_X3_hourOfNow_r g) := Classical.choose_spec f_X3_passMinuteOf_rq11_ex g s0 v f tv tf
theorem f_X3_passMinuteOf_vq12_ex : ∃ F : (Nat → Int32) → (Nat → Int32) → DO → (Nat → Int8) → DO → (Nat → Int8) → DO, ∀ (g : Nat → Int32) (s0 : Nat → Int32) (v : DO) (f : Nat → Int8) (tv : DO) (tf : Nat → Int8), F g s0 v f tv tf = f_X0_lendTo_v (f_X0_writeHeld_v (f_X3_passMinuteOf_v8 g s0 v f tv tf)) (f_X3_passMinuteOf_v9 g s0 v f tv tf) (s0 6) := ⟨fun g s0 v f tv tf => f_X0_lendTo_v (f_X0_writeHeld_v (f_X3_passMinuteOf_v8 g s0 v f tv tf)) (f_X3_passMinuteOf_v9 g s0 v f tv tf) (s0 6), fun _ _ _ _ _ _ => rfl⟩
noncomputable def f_X3_passMinuteOf_vq12 : (Nat → Int32) → (Nat → Int32) → DO → (Nat → Int8) → DO → (Nat → Int8) → DO := Classical.choose f_X3_passMinuteOf_vq12_ex
theorem f_X3_passMinuteOf_vq12_eq (g : Nat → Int32) (s0 : Nat → Int32) (v : DO) (f : Nat → Int8) (tv : DO) (tf : Nat → Int8) : f_X3_passMinuteOf_vq12 g s0 v f tv tf = f_X0_lendTo_v (f_X0_writeHeld_v (f_X3_passMinuteOf_v8 g s0 v f tv tf)) (f_X3_passMinuteOf_v9 g s0 v f tv tf) (s0 6) := Classical.choose_spec f_X3_passMinuteOf_vq12_ex g s0 v f tv tf
theorem f_X3_passMinuteOf_tq12_ex : ∃ F : (Nat → Int32) → (Nat → Int32) → DO → (Nat → Int8) → DO → (Nat → Int8) → DO, ∀ (g : Nat → Int32) (s0 : Nat → Int32) (v : DO) (f : Nat → Int8) (tv : DO) (tf : Nat → Int8), F g s0 v f tv tf = f_X0_lendTo_t (f_X0_writeHeld_v (f_X3_passMinuteOf_v8 g s0 v f tv tf)) (f_X3_passMinuteOf_v9 g s0 v f tv tf) (s0 6) := ⟨fun g s0 v f tv tf => f_X0_lendTo_t (f_X0_writeHeld_v (f_X3_passMinuteOf_v8 g s0 v f tv tf)) (f_X3_passMinuteOf_v9 g s0 v f tv tf) (s0 6), fun _ _ _ _ _ _ => rfl⟩
noncomputable def f_X3_passMinuteOf_tq12 : (Nat → Int32) → (Nat → Int32) → DO → (Nat → Int8) → DO → (Nat → Int8) → DO := Classical.choose f_X3_passMinuteOf_tq12_ex
theorem f_X3_passMinuteOf_tq12_eq (g : Nat → Int32) (s0 : Nat → Int32) (v : DO) (f : Nat → Int8) (tv : DO) (tf : Nat → Int8) : f_X3_passMinuteOf_tq12 g s0 v f tv tf = f_X0_lendTo_t (f_X0_writeHeld_v (f_X3_passMinuteOf_v8 g s0 v f tv tf)) (f_X3_passMinuteOf_v9 g s0 v f tv tf) (s0 6) := Classical.choose_spec f_X3_passMinuteOf_tq12_ex g s0 v f tv tf
theorem f_X3_passMinuteOf_v13_ex : ∃ F : (Nat → Int32) → (Nat → Int32) → DO → (Nat → Int8) → DO → (Nat → Int8) → DO, ∀ (g : Nat → Int32) (s0 : Nat → Int32) (v : DO) (f : Nat → Int8) (tv : DO) (tf : Nat → Int8), F g s0 v f tv tf = (if f_X0_isQuietIn_r v f (f_X3_hourOfNow_r g) = 0 then f_X0_writeHeld_v (f_X3_passMinuteOf_v8 g s0 v f tv tf) else (if (f_X3_passMinuteOf_rq11 g s0 v f tv tf) = 0 then (f_X3_passMinuteOf_vq12 g s0 v f tv tf) else f_X0_writeHeld_v (f_X3_passMinuteOf_v8 g s0 v f tv tf))) := ⟨fun g s0 v f tv tf => (if f_X0_isQuietIn_r v f (f_X3_hourOfNow_r g) = 0 then f_X0_writeHeld_v (f_X3_passMinuteOf_v8 g s0 v f tv tf) else (if (f_X3_passMinuteOf_rq11 g s0 v f tv tf) = 0 then (f_X3_passMinuteOf_vq12 g s0 v f tv tf) else f_X0_writeHeld_v (f_X3_passMinuteOf_v8 g s0 v f tv tf))), fun _ _ _ _ _ _ => rfl⟩
noncomputable def f_X3_passMinuteOf_v13 : (Nat → Int32) → (Nat → Int32) → DO → (Nat → Int8) → DO → (Nat → Int8) → DO := Classical.choose f_X3_passMinuteOf_v13_ex
theorem f_X3_passMinuteOf_v13_eq (g : Nat → Int32) (s0 : Nat → Int32) (v : DO) (f : Nat → Int8) (tv : DO) (tf : Nat → Int8) : f_X3_passMinuteOf_v13 g s0 v f tv tf = (if f_X0_isQuietIn_r v f (f_X3_hourOfNow_r g) = 0 then f_X0_writeHeld_v (f_X3_passMinuteOf_v8 g s0 v f tv tf) else (if (f_X3_passMinuteOf_rq11 g s0 v f tv tf) = 0 then (f_X3_passMinuteOf_vq12 g s0 v f tv tf) else f_X0_writeHeld_v (f_X3_passMinuteOf_v8 g s0 v f tv tf))) := Classical.choose_spec f_X3_passMinuteOf_v13_ex g s0 v f tv tf
theorem f_X3_passMinuteOf_v14_ex : ∃ F : (Nat → Int32) → (Nat → Int32) → DO → (Nat → Int8) → DO → (Nat → Int8) → DO, ∀ (g : Nat → Int32) (s0 : Nat → Int32) (v : DO) (f : Nat → Int8) (tv : DO) (tf : Nat → Int8), F g s0 v f tv tf = (if f_X0_isQuietIn_r v f (f_X3_hourOfNow_r g) = 0 then (f_X3_passMinuteOf_v9 g s0 v f tv tf) else (if (f_X3_passMinuteOf_rq11 g s0 v f tv tf) = 0 then (f_X3_passMinuteOf_tq12 g s0 v f tv tf) else (f_X3_passMinuteOf_v9 g s0 v f tv tf))) := ⟨fun g s0 v f tv tf => (if f_X0_isQuietIn_r v f (f_X3_hourOfNow_r g) = 0 then (f_X3_passMinuteOf_v9 g s0 v f tv tf) else (if (f_X3_passMinuteOf_rq11 g s0 v f tv tf) = 0 then (f_X3_passMinuteOf_tq12 g s0 v f tv tf) else (f_X3_passMinuteOf_v9 g s0 v f tv tf))), fun _ _ _ _ _ _ => rfl⟩
noncomputable def f_X3_passMinuteOf_v14 : (Nat → Int32) → (Nat → Int32) → DO → (Nat → Int8) → DO → (Nat → Int8) → DO := Classical.choose f_X3_passMinuteOf_v14_ex
theorem f_X3_passMinuteOf_v14_eq (g : Nat → Int32) (s0 : Nat → Int32) (v : DO) (f : Nat → Int8) (tv : DO) (tf : Nat → Int8) : f_X3_passMinuteOf_v14 g s0 v f tv tf = (if f_X0_isQuietIn_r v f (f_X3_hourOfNow_r g) = 0 then (f_X3_passMinuteOf_v9 g s0 v f tv tf) else (if (f_X3_passMinuteOf_rq11 g s0 v f tv tf) = 0 then (f_X3_passMinuteOf_tq12 g s0 v f tv tf) else (f_X3_passMinuteOf_v9 g s0 v f tv tf))) := Classical.choose_spec f_X3_passMinuteOf_v14_ex g s0 v f tv tf
theorem f_X3_passMinuteOf_rq15_ex : ∃ F : (Nat → Int32) → (Nat → Int32) → DO → (Nat → Int8) → DO → (Nat → Int8) → Int32, ∀ (g : Nat → Int32) (s0 : Nat → Int32) (v : DO) (f : Nat → Int8) (tv : DO) (tf : Nat → Int8), F g s0 v f tv tf = f_X3_cleanUp_r (f_X3_passMinuteOf_v4 g s0 v f tv tf) s0 (f_X3_passMinuteOf_v13 g s0 v f tv tf) (f_X0_isQuietIn_r v f (f_X3_hourOfNow_r g)) := ⟨fun g s0 v f tv tf => f_X3_cleanUp_r (f_X3_passMinuteOf_v4 g s0 v f tv tf) s0 (f_X3_passMinuteOf_v13 g s0 v f tv tf) (f_X0_isQuietIn_r v f (f_X3_hourOfNow_r g)), fun _ _ _ _ _ _ => rfl⟩
noncomputable def f_X3_passMinuteOf_rq15 : (Nat → Int32) → (Nat → Int32) → DO → (Nat → Int8) → DO → (Nat → Int8) → Int32 := Classical.choose f_X3_passMinuteOf_rq15_ex
theorem f_X3_passMinuteOf_rq15_eq (g : Nat → Int32) (s0 : Nat → Int32) (v : DO) (f : Nat → Int8) (tv : DO) (tf : Nat → Int8) : f_X3_passMinuteOf_rq15 g s0 v f tv tf = f_X3_cleanUp_r (f_X3_passMinuteOf_v4 g s0 v f tv tf) s0 (f_X3_passMinuteOf_v13 g s0 v f tv tf) (f_X0_isQuietIn_r v f (f_X3_hourOfNow_r g)) := Classical.choose_spec f_X3_passMinuteOf_rq15_ex g s0 v f tv tf
theorem f_X3_passMinuteOf_vq15_ex : ∃ F : (Nat → Int32) → (Nat → Int32) → DO → (Nat → Int8) → DO → (Nat → Int8) → DO, ∀ (g : Nat → Int32) (s0 : Nat → Int32) (v : DO) (f : Nat → Int8) (tv : DO) (tf : Nat → Int8), F g s0 v f tv tf = f_X3_cleanUp_v (f_X3_passMinuteOf_v4 g s0 v f tv tf) s0 (f_X3_passMinuteOf_v13 g s0 v f tv tf) (f_X0_isQuietIn_r v f (f_X3_hourOfNow_r g)) := ⟨fun g s0 v f tv tf => f_X3_cleanUp_v (f_X3_passMinuteOf_v4 g s0 v f tv tf) s0 (f_X3_passMinuteOf_v13 g s0 v f tv tf) (f_X0_isQuietIn_r v f (f_X3_hourOfNow_r g)), fun _ _ _ _ _ _ => rfl⟩
noncomputable def f_X3_passMinuteOf_vq15 : (Nat → Int32) → (Nat → Int32) → DO → (Nat → Int8) → DO → (Nat → Int8) → DO := Classical.choose f_X3_passMinuteOf_vq15_ex
theorem f_X3_passMinuteOf_vq15_eq (g : Nat → Int32) (s0 : Nat → Int32) (v : DO) (f : Nat → Int8) (tv : DO) (tf : Nat → Int8) : f_X3_passMinuteOf_vq15 g s0 v f tv tf = f_X3_cleanUp_v (f_X3_passMinuteOf_v4 g s0 v f tv tf) s0 (f_X3_passMinuteOf_v13 g s0 v f tv tf) (f_X0_isQuietIn_r v f (f_X3_hourOfNow_r g)) := Classical.choose_spec f_X3_passMinuteOf_vq15_ex g s0 v f tv tf
theorem f_X3_passMinuteOf_gq16_ex : ∃ F : (Nat → Int32) → (Nat → Int32) → DO → (Nat → Int8) → DO → (Nat → Int8) → (Nat → Int32), ∀ (g : Nat → Int32) (s0 : Nat → Int32) (v : DO) (f : Nat → Int8) (tv : DO) (tf : Nat → Int8), F g s0 v f tv tf = f_X3_chargeOverrun_g (f_X3_passMinuteOf_v4 g s0 v f tv tf) s0 (f_X3_passMinuteOf_vq15 g s0 v f tv tf) (f_X3_passMinuteOf_v5 g s0 v f tv tf) (f_X3_hourOfNow_r g) := ⟨fun g s0 v f tv tf => f_X3_chargeOverrun_g (f_X3_passMinuteOf_v4 g s0 v f tv tf) s0 (f_X3_passMinuteOf_vq15 g s0 v f tv tf) (f_X3_passMinuteOf_v5 g s0 v f tv tf) (f_X3_hourOfNow_r g), fun _ _ _ _ _ _ => rfl⟩
noncomputable def f_X3_passMinuteOf_gq16 : (Nat → Int32) → (Nat → Int32) → DO → (Nat → Int8) → DO → (Nat → Int8) → (Nat → Int32) := Classical.choose f_X3_passMinuteOf_gq16_ex
theorem f_X3_passMinuteOf_gq16_eq (g : Nat → Int32) (s0 : Nat → Int32) (v : DO) (f : Nat → Int8) (tv : DO) (tf : Nat → Int8) : f_X3_passMinuteOf_gq16 g s0 v f tv tf = f_X3_chargeOverrun_g (f_X3_passMinuteOf_v4 g s0 v f tv tf) s0 (f_X3_passMinuteOf_vq15 g s0 v f tv tf) (f_X3_passMinuteOf_v5 g s0 v f tv tf) (f_X3_hourOfNow_r g) := Classical.choose_spec f_X3_passMinuteOf_gq16_ex g s0 v f tv tf
theorem f_X3_passMinuteOf_vq16_ex : ∃ F : (Nat → Int32) → (Nat → Int32) → DO → (Nat → Int8) → DO → (Nat → Int8) → DO, ∀ (g : Nat → Int32) (s0 : Nat → Int32) (v : DO) (f : Nat → Int8) (tv : DO) (tf : Nat → Int8), F g s0 v f tv tf = f_X3_chargeOverrun_v (f_X3_passMinuteOf_v4 g s0 v f tv tf) s0 (f_X3_passMinuteOf_vq15 g s0 v f tv tf) (f_X3_passMinuteOf_v5 g s0 v f tv tf) (f_X3_hourOfNow_r g) := ⟨fun g s0 v f tv tf => f_X3_chargeOverrun_v (f_X3_passMinuteOf_v4 g s0 v f tv tf) s0 (f_X3_passMinuteOf_vq15 g s0 v f tv tf) (f_X3_passMinuteOf_v5 g s0 v f tv tf) (f_X3_hourOfNow_r g), fun _ _ _ _ _ _ => rfl⟩
noncomputable def f_X3_passMinuteOf_vq16 : (Nat → Int32) → (Nat → Int32) → DO → (Nat → Int8) → DO → (Nat → Int8) → DO := Classical.choose f_X3_passMinuteOf_vq16_ex
theorem f_X3_passMinuteOf_vq16_eq (g : Nat → Int32) (s0 : Nat → Int32) (v : DO) (f : Nat → Int8) (tv : DO) (tf : Nat → Int8) : f_X3_passMinuteOf_vq16 g s0 v f tv tf = f_X3_chargeOverrun_v (f_X3_passMinuteOf_v4 g s0 v f tv tf) s0 (f_X3_passMinuteOf_vq15 g s0 v f tv tf) (f_X3_passMinuteOf_v5 g s0 v f tv tf) (f_X3_hourOfNow_r g) := Classical.choose_spec f_X3_passMinuteOf_vq16_ex g s0 v f tv tf
theorem f_X3_passMinuteOf_fq16_ex : ∃ F : (Nat → Int32) → (Nat → Int32) → DO → (Nat → Int8) → DO → (Nat → Int8) → (Nat → Int8), ∀ (g : Nat → Int32) (s0 : Nat → Int32) (v : DO) (f : Nat → Int8) (tv : DO) (tf : Nat → Int8), F g s0 v f tv tf = f_X3_chargeOverrun_f (f_X3_passMinuteOf_v4 g s0 v f tv tf) s0 (f_X3_passMinuteOf_vq15 g s0 v f tv tf) (f_X3_passMinuteOf_v5 g s0 v f tv tf) (f_X3_hourOfNow_r g) := ⟨fun g s0 v f tv tf => f_X3_chargeOverrun_f (f_X3_passMinuteOf_v4 g s0 v f tv tf) s0 (f_X3_passMinuteOf_vq15 g s0 v f tv tf) (f_X3_passMinuteOf_v5 g s0 v f tv tf) (f_X3_hourOfNow_r g), fun _ _ _ _ _ _ => rfl⟩
noncomputable def f_X3_passMinuteOf_fq16 : (Nat → Int32) → (Nat → Int32) → DO → (Nat → Int8) → DO → (Nat → Int8) → (Nat → Int8) := Classical.choose f_X3_passMinuteOf_fq16_ex
theorem f_X3_passMinuteOf_fq16_eq (g : Nat → Int32) (s0 : Nat → Int32) (v : DO) (f : Nat → Int8) (tv : DO) (tf : Nat → Int8) : f_X3_passMinuteOf_fq16 g s0 v f tv tf = f_X3_chargeOverrun_f (f_X3_passMinuteOf_v4 g s0 v f tv tf) s0 (f_X3_passMinuteOf_vq15 g s0 v f tv tf) (f_X3_passMinuteOf_v5 g s0 v f tv tf) (f_X3_hourOfNow_r g) := Classical.choose_spec f_X3_passMinuteOf_fq16_ex g s0 v f tv tf
theorem f_X3_passMinuteOf_v17_ex : ∃ F : (Nat → Int32) → (Nat → Int32) → DO → (Nat → Int8) → DO → (Nat → Int8) → (Nat → Int32), ∀ (g : Nat → Int32) (s0 : Nat → Int32) (v : DO) (f : Nat → Int8) (tv : DO) (tf : Nat → Int8), F g s0 v f tv tf = (if (f_X3_passMinuteOf_rq15 g s0 v f tv tf) = 0 then (f_X3_passMinuteOf_v4 g s0 v f tv tf) else (if f_X0_isQuietIn_r v f (f_X3_hourOfNow_r g) = 0 then (f_X3_passMinuteOf_v4 g s0 v f tv tf) else (f_X3_passMinuteOf_gq16 g s0 v f tv tf))) := ⟨fun g s0 v f tv tf => (if (f_X3_passMinuteOf_rq15 g s0 v f tv tf) = 0 then (f_X3_passMinuteOf_v4 g s0 v f tv tf) else (if f_X0_isQuietIn_r v f (f_X3_hourOfNow_r g) = 0 then (f_X3_passMinuteOf_v4 g s0 v f tv tf) else (f_X3_passMinuteOf_gq16 g s0 v f tv tf))), fun _ _ _ _ _ _ => rfl⟩
noncomputable def f_X3_passMinuteOf_v17 : (Nat → Int32) → (Nat → Int32) → DO → (Nat → Int8) → DO → (Nat → Int8) → (Nat → Int32) := Classical.choose f_X3_passMinuteOf_v17_ex
theorem f_X3_passMinuteOf_v17_eq (g : Nat → Int32) (s0 : Nat → Int32) (v : DO) (f : Nat → Int8) (tv : DO) (tf : Nat → Int8) : f_X3_passMinuteOf_v17 g s0 v f tv tf = (if (f_X3_passMinuteOf_rq15 g s0 v f tv tf) = 0 then (f_X3_passMinuteOf_v4 g s0 v f tv tf) else (if f_X0_isQuietIn_r v f (f_X3_hourOfNow_r g) = 0 then (f_X3_passMinuteOf_v4 g s0 v f tv tf) else (f_X3_passMinuteOf_gq16 g s0 v f tv tf))) := Classical.choose_spec f_X3_passMinuteOf_v17_ex g s0 v f tv tf
theorem f_X3_passMinuteOf_v18_ex : ∃ F : (Nat → Int32) → (Nat → Int32) → DO → (Nat → Int8) → DO → (Nat → Int8) → DO, ∀ (g : Nat → Int32) (s0 : Nat → Int32) (v : DO) (f : Nat → Int8) (tv : DO) (tf : Nat → Int8), F g s0 v f tv tf = (if (f_X3_passMinuteOf_rq15 g s0 v f tv tf) = 0 then (f_X3_passMinuteOf_vq15 g s0 v f tv tf) else (if f_X0_isQuietIn_r v f (f_X3_hourOfNow_r g) = 0 then (f_X3_passMinuteOf_vq15 g s0 v f tv tf) else (f_X3_passMinuteOf_vq16 g s0 v f tv tf))) := ⟨fun g s0 v f tv tf => (if (f_X3_passMinuteOf_rq15 g s0 v f tv tf) = 0 then (f_X3_passMinuteOf_vq15 g s0 v f tv tf) else (if f_X0_isQuietIn_r v f (f_X3_hourOfNow_r g) = 0 then (f_X3_passMinuteOf_vq15 g s0 v f tv tf) else (f_X3_passMinuteOf_vq16 g s0 v f tv tf))), fun _ _ _ _ _ _ => rfl⟩
noncomputable def f_X3_passMinuteOf_v18 : (Nat → Int32) → (Nat → Int32) → DO → (Nat → Int8) → DO → (Nat → Int8) → DO := Classical.choose f_X3_passMinuteOf_v18_ex
theorem f_X3_passMinuteOf_v18_eq (g : Nat → Int32) (s0 : Nat → Int32) (v : DO) (f : Nat → Int8) (tv : DO) (tf : Nat → Int8) : f_X3_passMinuteOf_v18 g s0 v f tv tf = (if (f_X3_passMinuteOf_rq15 g s0 v f tv tf) = 0 then (f_X3_passMinuteOf_vq15 g s0 v f tv tf) else (if f_X0_isQuietIn_r v f (f_X3_hourOfNow_r g) = 0 then (f_X3_passMinuteOf_vq15 g s0 v f tv tf) else (f_X3_passMinuteOf_vq16 g s0 v f tv tf))) := Classical.choose_spec f_X3_passMinuteOf_v18_ex g s0 v f tv tf
theorem f_X3_passMinuteOf_v19_ex : ∃ F : (Nat → Int32) → (Nat → Int32) → DO → (Nat → Int8) → DO → (Nat → Int8) → (Nat → Int8), ∀ (g : Nat → Int32) (s0 : Nat → Int32) (v : DO) (f : Nat → Int8) (tv : DO) (tf : Nat → Int8), F g s0 v f tv tf = (if (f_X3_passMinuteOf_rq15 g s0 v f tv tf) = 0 then (f_X3_passMinuteOf_v5 g s0 v f tv tf) else (if f_X0_isQuietIn_r v f (f_X3_hourOfNow_r g) = 0 then (f_X3_passMinuteOf_v5 g s0 v f tv tf) else (f_X3_passMinuteOf_fq16 g s0 v f tv tf))) := ⟨fun g s0 v f tv tf => (if (f_X3_passMinuteOf_rq15 g s0 v f tv tf) = 0 then (f_X3_passMinuteOf_v5 g s0 v f tv tf) else (if f_X0_isQuietIn_r v f (f_X3_hourOfNow_r g) = 0 then (f_X3_passMinuteOf_v5 g s0 v f tv tf) else (f_X3_passMinuteOf_fq16 g s0 v f tv tf))), fun _ _ _ _ _ _ => rfl⟩
noncomputable def f_X3_passMinuteOf_v19 : (Nat → Int32) → (Nat → Int32) → DO → (Nat → Int8) → DO → (Nat → Int8) → (Nat → Int8) := Classical.choose f_X3_passMinuteOf_v19_ex
theorem f_X3_passMinuteOf_v19_eq (g : Nat → Int32) (s0 : Nat → Int32) (v : DO) (f : Nat → Int8) (tv : DO) (tf : Nat → Int8) : f_X3_passMinuteOf_v19 g s0 v f tv tf = (if (f_X3_passMinuteOf_rq15 g s0 v f tv tf) = 0 then (f_X3_passMinuteOf_v5 g s0 v f tv tf) else (if f_X0_isQuietIn_r v f (f_X3_hourOfNow_r g) = 0 then (f_X3_passMinuteOf_v5 g s0 v f tv tf) else (f_X3_passMinuteOf_fq16 g s0 v f tv tf))) := Classical.choose_spec f_X3_passMinuteOf_v19_ex g s0 v f tv tf
theorem f_X3_passMinuteOf_x20_ex : ∃ F : (Nat → Int32) → (Nat → Int32) → DO → (Nat → Int8) → DO → (Nat → Int8) → Int32, ∀ (g : Nat → Int32) (s0 : Nat → Int32) (v : DO) (f : Nat → Int8) (tv : DO) (tf : Nat → Int8), F g s0 v f tv tf = (if (f_X3_passMinuteOf_rq15 g s0 v f tv tf) = 0 then 0 else (if f_X0_isQuietIn_r v f (f_X3_hourOfNow_r g) = 0 then 0 else 1)) := ⟨fun g s0 v f tv tf => (if (f_X3_passMinuteOf_rq15 g s0 v f tv tf) = 0 then 0 else (if f_X0_isQuietIn_r v f (f_X3_hourOfNow_r g) = 0 then 0 else 1)), fun _ _ _ _ _ _ => rfl⟩
noncomputable def f_X3_passMinuteOf_x20 : (Nat → Int32) → (Nat → Int32) → DO → (Nat → Int8) → DO → (Nat → Int8) → Int32 := Classical.choose f_X3_passMinuteOf_x20_ex
theorem f_X3_passMinuteOf_x20_eq (g : Nat → Int32) (s0 : Nat → Int32) (v : DO) (f : Nat → Int8) (tv : DO) (tf : Nat → Int8) : f_X3_passMinuteOf_x20 g s0 v f tv tf = (if (f_X3_passMinuteOf_rq15 g s0 v f tv tf) = 0 then 0 else (if f_X0_isQuietIn_r v f (f_X3_hourOfNow_r g) = 0 then 0 else 1)) := Classical.choose_spec f_X3_passMinuteOf_x20_ex g s0 v f tv tf
theorem f_X3_passMinuteOf_g_ex : ∃ F : (Nat → Int32) → (Nat → Int32) → DO → (Nat → Int8) → DO → (Nat → Int8) → (Nat → Int32), ∀ (g : Nat → Int32) (s0 : Nat → Int32) (v : DO) (f : Nat → Int8) (tv : DO) (tf : Nat → Int8), F g s0 v f tv tf = (f_X3_passMinuteOf_v17 g s0 v f tv tf) := ⟨fun g s0 v f tv tf => (f_X3_passMinuteOf_v17 g s0 v f tv tf), fun _ _ _ _ _ _ => rfl⟩
noncomputable def f_X3_passMinuteOf_g : (Nat → Int32) → (Nat → Int32) → DO → (Nat → Int8) → DO → (Nat → Int8) → (Nat → Int32) := Classical.choose f_X3_passMinuteOf_g_ex
theorem f_X3_passMinuteOf_g_eq (g : Nat → Int32) (s0 : Nat → Int32) (v : DO) (f : Nat → Int8) (tv : DO) (tf : Nat → Int8) : f_X3_passMinuteOf_g g s0 v f tv tf = (f_X3_passMinuteOf_v17 g s0 v f tv tf) := Classical.choose_spec f_X3_passMinuteOf_g_ex g s0 v f tv tf
theorem f_X3_passMinuteOf_v_ex : ∃ F : (Nat → Int32) → (Nat → Int32) → DO → (Nat → Int8) → DO → (Nat → Int8) → DO, ∀ (g : Nat → Int32) (s0 : Nat → Int32) (v : DO) (f : Nat → Int8) (tv : DO) (tf : Nat → Int8), F g s0 v f tv tf = ((f_X3_passMinuteOf_v18 g s0 v f tv tf).1, ((f_X3_passMinuteOf_v18 g s0 v f tv tf).2 + (((f_X3_passMinuteOf_v18 g s0 v f tv tf).1 3).toInt64))) := ⟨fun g s0 v f tv tf => ((f_X3_passMinuteOf_v18 g s0 v f tv tf).1, ((f_X3_passMinuteOf_v18 g s0 v f tv tf).2 + (((f_X3_passMinuteOf_v18 g s0 v f tv tf).1 3).toInt64))), fun _ _ _ _ _ _ => rfl⟩
noncomputable def f_X3_passMinuteOf_v : (Nat → Int32) → (Nat → Int32) → DO → (Nat → Int8) → DO → (Nat → Int8) → DO := Classical.choose f_X3_passMinuteOf_v_ex
theorem f_X3_passMinuteOf_v_eq (g : Nat → Int32) (s0 : Nat → Int32) (v : DO) (f : Nat → Int8) (tv : DO) (tf : Nat → Int8) : f_X3_passMinuteOf_v g s0 v f tv tf = ((f_X3_passMinuteOf_v18 g s0 v f tv tf).1, ((f_X3_passMinuteOf_v18 g s0 v f tv tf).2 + (((f_X3_passMinuteOf_v18 g s0 v f tv tf).1 3).toInt64))) := Classical.choose_spec f_X3_passMinuteOf_v_ex g s0 v f tv tf
theorem f_X3_passMinuteOf_f_ex : ∃ F : (Nat → Int32) → (Nat → Int32) → DO → (Nat → Int8) → DO → (Nat → Int8) → (Nat → Int8), ∀ (g : Nat → Int32) (s0 : Nat → Int32) (v : DO) (f : Nat → Int8) (tv : DO) (tf : Nat → Int8), F g s0 v f tv tf = (f_X3_passMinuteOf_v19 g s0 v f tv tf) := ⟨fun g s0 v f tv tf => (f_X3_passMinuteOf_v19 g s0 v f tv tf), fun _ _ _ _ _ _ => rfl⟩
noncomputable def f_X3_passMinuteOf_f : (Nat → Int32) → (Nat → Int32) → DO → (Nat → Int8) → DO → (Nat → Int8) → (Nat → Int8) := Classical.choose f_X3_passMinuteOf_f_ex
theorem f_X3_passMinuteOf_f_eq (g : Nat → Int32) (s0 : Nat → Int32) (v : DO) (f : Nat → Int8) (tv : DO) (tf : Nat → Int8) : f_X3_passMinuteOf_f g s0 v f tv tf = (f_X3_passMinuteOf_v19 g s0 v f tv tf) := Classical.choose_spec f_X3_passMinuteOf_f_ex g s0 v f tv tf
theorem f_X3_passMinuteOf_tv_ex : ∃ F : (Nat → Int32) → (Nat → Int32) → DO → (Nat → Int8) → DO → (Nat → Int8) → DO, ∀ (g : Nat → Int32) (s0 : Nat → Int32) (v : DO) (f : Nat → Int8) (tv : DO) (tf : Nat → Int8), F g s0 v f tv tf = (f_X3_passMinuteOf_v14 g s0 v f tv tf) := ⟨fun g s0 v f tv tf => (f_X3_passMinuteOf_v14 g s0 v f tv tf), fun _ _ _ _ _ _ => rfl⟩
noncomputable def f_X3_passMinuteOf_tv : (Nat → Int32) → (Nat → Int32) → DO → (Nat → Int8) → DO → (Nat → Int8) → DO := Classical.choose f_X3_passMinuteOf_tv_ex
theorem f_X3_passMinuteOf_tv_eq (g : Nat → Int32) (s0 : Nat → Int32) (v : DO) (f : Nat → Int8) (tv : DO) (tf : Nat → Int8) : f_X3_passMinuteOf_tv g s0 v f tv tf = (f_X3_passMinuteOf_v14 g s0 v f tv tf) := Classical.choose_spec f_X3_passMinuteOf_tv_ex g s0 v f tv tf
theorem f_X3_passMinuteOf_r_ex : ∃ F : (Nat → Int32) → (Nat → Int32) → DO → (Nat → Int8) → DO → (Nat → Int8) → Int32, ∀ (g : Nat → Int32) (s0 : Nat → Int32) (v : DO) (f : Nat → Int8) (tv : DO) (tf : Nat → Int8), F g s0 v f tv tf = (f_X3_passMinuteOf_x20 g s0 v f tv tf) := ⟨fun g s0 v f tv tf => (f_X3_passMinuteOf_x20 g s0 v f tv tf), fun _ _ _ _ _ _ => rfl⟩
noncomputable def f_X3_passMinuteOf_r : (Nat → Int32) → (Nat → Int32) → DO → (Nat → Int8) → DO → (Nat → Int8) → Int32 := Classical.choose f_X3_passMinuteOf_r_ex
theorem f_X3_passMinuteOf_r_eq (g : Nat → Int32) (s0 : Nat → Int32) (v : DO) (f : Nat → Int8) (tv : DO) (tf : Nat → Int8) : f_X3_passMinuteOf_r g s0 v f tv tf = (f_X3_passMinuteOf_x20 g s0 v f tv tf) := Classical.choose_spec f_X3_passMinuteOf_r_ex g s0 v f tv tf
set_option maxRecDepth 100000 in
set_option maxHeartbeats 4000000 in
theorem m_X3_passMinuteOf (l : Launch) (G : GG) (a b t sa da h k : Nat) (g : Nat → Int32) (s0 : Nat → Int32) (v : DO) (f : Nat → Int8) (tv : DO) (tf : Nat → Int8)  : CtI l yX3_passMinuteOf cX3_passMinuteOf 6 (some .boolean) (RM 3) G [.ref a, .ref b, .ref t] ([oS a sa da g, aI G sa 7 s0, oD b h v, aB G h f, oD t k tv, aB G k tf]) (f_X3_passMinuteOf_r g s0 v f tv tf) ([oS a sa da (f_X3_passMinuteOf_g g s0 v f tv tf), aI G sa 7 s0, oD b h (f_X3_passMinuteOf_v g s0 v f tv tf), aB G h (f_X3_passMinuteOf_f g s0 v f tv tf), oD t k (f_X3_passMinuteOf_tv g s0 v f tv tf), aB G k tf]) := by
  refine ct_I RX3 [(0, .ref a), (1, .ref b), (2, .ref t)] rfl (by decide +kernel) (Nat.le_of_ble_eq_true rfl) rfl ?_
  intro p e s m args below meth c A C hr hk hnm
  generalize hQ : (MQ below (PostI G A (f_X3_passMinuteOf_r g s0 v f tv tf) ([oS a sa da (f_X3_passMinuteOf_g g s0 v f tv tf), aI G sa 7 s0, oD b h (f_X3_passMinuteOf_v g s0 v f tv tf), aB G h (f_X3_passMinuteOf_f g s0 v f tv tf), oD t k (f_X3_passMinuteOf_tv g s0 v f tv tf), aB G k tf])) args s (RM 3).cells (RM 3).slots A) = Q
  refine j_aload_n C dX3_passMinuteOf_0 0 rfl ?_
  refine j_callV_i (r := f_X3_hourOfNow_r g) (wc' := [oS a sa da g]) C (m_X3_hourOfNow l G a sa da g) rfl 0 rfl 0 (gV kw_172 kw_173 kw_174 kw_2 kw_175) (by decide +kernel) ⟨(Nat.le_of_ble_eq_true rfl), (Nat.le_of_ble_eq_true rfl)⟩ rfl rfl (Nat.le_of_ble_eq_true rfl) dX3_passMinuteOf_1 ⟨(Nat.le_of_ble_eq_true rfl), (Nat.le_of_ble_eq_true rfl)⟩ [aI G sa 7 s0, oD b h v, aB G h f, oD t k tv, aB G k tf] [oS a sa da g, aI G sa 7 s0, oD b h v, aB G h f, oD t k tv, aB G k tf] (perm_idx [0, 1, 2, 3, 4, 5] 6 rfl (by decide +kernel) rfl) rfl ?_
  refine j_istore_n C [(3, .int (f_X3_hourOfNow_r g)), (0, .ref a), (1, .ref b), (2, .ref t)] dX3_passMinuteOf_4 (by decide) rfl ?_
  refine j_aload_n C dX3_passMinuteOf_5 2 rfl ?_
  refine j_iload_n C dX3_passMinuteOf_6 0 rfl ?_
  refine j_callV_i (r := f_X0_isQuietIn_r v f (f_X3_hourOfNow_r g)) (wc' := [oD b h v, aB G h f]) C (m_X0_isQuietIn l G b h v f (f_X3_hourOfNow_r g)) rfl 0 rfl 1 (gV kw_176 kw_177 kw_178 kw_4 kw_179) (by decide +kernel) ⟨(Nat.le_of_ble_eq_true rfl), (Nat.le_of_ble_eq_true rfl)⟩ rfl rfl (Nat.le_of_ble_eq_true rfl) dX3_passMinuteOf_7 ⟨(Nat.le_of_ble_eq_true rfl), (Nat.le_of_ble_eq_true rfl)⟩ [oS a sa da g, aI G sa 7 s0, oD t k tv, aB G k tf] [oD b h v, aB G h f, oS a sa da g, aI G sa 7 s0, oD t k tv, aB G k tf] (perm_idx [2, 3, 0, 1, 4, 5] 6 rfl (by decide +kernel) rfl) rfl ?_
  refine j_istore C [(4, .int (f_X0_isQuietIn_r v f (f_X3_hourOfNow_r g))), (3, .int (f_X3_hourOfNow_r g)), (0, .ref a), (1, .ref b), (2, .ref t)] dX3_passMinuteOf_10 (by decide) rfl ?_
  refine j_aload_n C dX3_passMinuteOf_12 2 rfl ?_
  refine j_get C kin3 rfl 2 rfl 2 (by decide) kw_78 rfl (v := .int (g 2)) rfl dX3_passMinuteOf_13 ?_
  refine j_bipush (v := 60) C dX3_passMinuteOf_16 (by decide) ?_
  refine j_irem C dX3_passMinuteOf_18 (by decide) rfl ?_
  have K30 : WJ p l e (RM 3) s m args below meth c G A 6 0 0 Q ([oS a sa da (f_X3_passMinuteOf_v4 g s0 v f tv tf), aI G sa 7 s0, oD b h v, aB G h (f_X3_passMinuteOf_v5 g s0 v f tv tf), oD t k tv, aB G k tf]) [(4, .int (f_X0_isQuietIn_r v f (f_X3_hourOfNow_r g))), (3, .int (f_X3_hourOfNow_r g)), (0, .ref a), (1, .ref b), (2, .ref t)] 30 [] := by
    generalize hw2 : f_X3_passMinuteOf_v4 g s0 v f tv tf = w2
    generalize hw3 : f_X3_passMinuteOf_v5 g s0 v f tv tf = w3
    refine j_aload_n C dX3_passMinuteOf_30 3 rfl ?_
    refine j_aload_n C dX3_passMinuteOf_31 2 rfl ?_
    refine j_get C kin3 rfl 0 rfl 2 (by decide) kw_78 rfl (v := .int (w2 2)) rfl dX3_passMinuteOf_32 ?_
    refine j_callV_v (wc' := [oD b h (f_X0_takeStream_v v (w2 2))]) C (m_X0_takeStream l G b h v (w2 2)) rfl 0 rfl 1 (gV kw_194 kw_195 kw_196 kw_4 kw_197) (by decide +kernel) ⟨(Nat.le_of_ble_eq_true rfl), (Nat.le_of_ble_eq_true rfl)⟩ rfl rfl (Nat.le_of_ble_eq_true rfl) dX3_passMinuteOf_35 ⟨(Nat.le_of_ble_eq_true rfl), (Nat.le_of_ble_eq_true rfl)⟩ [oS a sa da w2, aI G sa 7 s0, aB G h w3, oD t k tv, aB G k tf] [oD b h (f_X0_takeStream_v v (w2 2)), oS a sa da w2, aI G sa 7 s0, aB G h w3, oD t k tv, aB G k tf] (perm_idx [2, 0, 1, 3, 4, 5] 6 rfl (by decide +kernel) rfl) rfl ?_
    generalize hzw4 : f_X0_takeStream_v v (w2 2) = w4
    have hw4 : f_X3_passMinuteOf_vq6 g s0 v f tv tf = w4 := by subst hw2 hw3; subst hzw4; exact (f_X3_passMinuteOf_vq6_eq g s0 v f tv tf)
    refine j_iload C dX3_passMinuteOf_38 0 rfl ?_
    have K48 : WJ p l e (RM 3) s m args below meth c G A 6 0 0 Q ([oD b h (f_X3_passMinuteOf_v8 g s0 v f tv tf), oD t k (f_X3_passMinuteOf_v9 g s0 v f tv tf), oS a sa da w2, aI G sa 7 s0, aB G h w3, aB G k tf]) [(4, .int (f_X0_isQuietIn_r v f (f_X3_hourOfNow_r g))), (3, .int (f_X3_hourOfNow_r g)), (0, .ref a), (1, .ref b), (2, .ref t)] 48 [] := by
      generalize hw7 : f_X3_passMinuteOf_v8 g s0 v f tv tf = w7
      generalize hw8 : f_X3_passMinuteOf_v9 g s0 v f tv tf = w8
      refine j_aload_n C dX3_passMinuteOf_48 3 rfl ?_
      refine j_callV_v (wc' := [oD b h (f_X0_writeHeld_v w7)]) C (m_X0_writeHeld l G b h w7) rfl 0 rfl 0 (gV kw_208 kw_209 kw_210 kw_4 kw_211) (by decide +kernel) ⟨(Nat.le_of_ble_eq_true rfl), (Nat.le_of_ble_eq_true rfl)⟩ rfl rfl (Nat.le_of_ble_eq_true rfl) dX3_passMinuteOf_49 ⟨(Nat.le_of_ble_eq_true rfl), (Nat.le_of_ble_eq_true rfl)⟩ [oD t k w8, oS a sa da w2, aI G sa 7 s0, aB G h w3, aB G k tf] [oD b h (f_X0_writeHeld_v w7), oD t k w8, oS a sa da w2, aI G sa 7 s0, aB G h w3, aB G k tf] (perm_idx [0, 1, 2, 3, 4, 5] 6 rfl (by decide +kernel) rfl) rfl ?_
      refine j_iload C dX3_passMinuteOf_52 0 rfl ?_
      have K77 : WJ p l e (RM 3) s m args below meth c G A 6 0 0 Q ([oD b h (f_X3_passMinuteOf_v13 g s0 v f tv tf), oD t k (f_X3_passMinuteOf_v14 g s0 v f tv tf), oS a sa da w2, aI G sa 7 s0, aB G h w3, aB G k tf]) [(4, .int (f_X0_isQuietIn_r v f (f_X3_hourOfNow_r g))), (3, .int (f_X3_hourOfNow_r g)), (0, .ref a), (1, .ref b), (2, .ref t)] 77 [] := by
        generalize hw12 : f_X3_passMinuteOf_v13 g s0 v f tv tf = w12
        generalize hw13 : f_X3_passMinuteOf_v14 g s0 v f tv tf = w13
        refine j_aload_n C dX3_passMinuteOf_77 2 rfl ?_
        refine j_aload_n C dX3_passMinuteOf_78 3 rfl ?_
        refine j_iload C dX3_passMinuteOf_79 0 rfl ?_
        refine j_callV_i (r := f_X3_cleanUp_r w2 s0 w12 (f_X0_isQuietIn_r v f (f_X3_hourOfNow_r g))) (wc' := [oS a sa da w2, aI G sa 7 s0, oD b h (f_X3_cleanUp_v w2 s0 w12 (f_X0_isQuietIn_r v f (f_X3_hourOfNow_r g)))]) C (m_X3_cleanUp l G a b sa da h w2 s0 w12 (f_X0_isQuietIn_r v f (f_X3_hourOfNow_r g))) rfl 0 rfl 2 (gV kw_216 kw_217 kw_345 kw_2 kw_218) (by decide +kernel) ⟨(Nat.le_of_ble_eq_true rfl), (Nat.le_of_ble_eq_true rfl)⟩ rfl rfl (Nat.le_of_ble_eq_true rfl) dX3_passMinuteOf_81 ⟨(Nat.le_of_ble_eq_true rfl), (Nat.le_of_ble_eq_true rfl)⟩ [oD t k w13, aB G h w3, aB G k tf] [oS a sa da w2, aI G sa 7 s0, oD b h (f_X3_cleanUp_v w2 s0 w12 (f_X0_isQuietIn_r v f (f_X3_hourOfNow_r g))), oD t k w13, aB G h w3, aB G k tf] (perm_idx [2, 3, 0, 1, 4, 5] 6 rfl (by decide +kernel) rfl) rfl ?_
        generalize hzw14 : f_X3_cleanUp_r w2 s0 w12 (f_X0_isQuietIn_r v f (f_X3_hourOfNow_r g)) = w14
        have hw14 : f_X3_passMinuteOf_rq15 g s0 v f tv tf = w14 := by subst hw2 hw3 hw4 hw7 hw8 hw12 hw13; subst hzw14; exact (f_X3_passMinuteOf_rq15_eq g s0 v f tv tf)
        generalize hzw15 : f_X3_cleanUp_v w2 s0 w12 (f_X0_isQuietIn_r v f (f_X3_hourOfNow_r g)) = w15
        have hw15 : f_X3_passMinuteOf_vq15 g s0 v f tv tf = w15 := by subst hw2 hw3 hw4 hw7 hw8 hw12 hw13 hw14; subst hzw15; exact (f_X3_passMinuteOf_vq15_eq g s0 v f tv tf)
        refine j_istore C [(5, .int w14), (4, .int (f_X0_isQuietIn_r v f (f_X3_hourOfNow_r g))), (3, .int (f_X3_hourOfNow_r g)), (0, .ref a), (1, .ref b), (2, .ref t)] dX3_passMinuteOf_84 (by decide) rfl ?_
        refine j_iload C dX3_passMinuteOf_86 0 rfl ?_
        have K102 : WJ p l e (RM 3) s m args below meth c G A 6 0 0 Q ([oS a sa da (f_X3_passMinuteOf_v17 g s0 v f tv tf), aI G sa 7 s0, oD b h (f_X3_passMinuteOf_v18 g s0 v f tv tf), oD t k w13, aB G h (f_X3_passMinuteOf_v19 g s0 v f tv tf), aB G k tf]) [(5, .int w14), (4, .int (f_X0_isQuietIn_r v f (f_X3_hourOfNow_r g))), (3, .int (f_X3_hourOfNow_r g)), (0, .ref a), (1, .ref b), (2, .ref t)] 102 [] := by
          generalize hw19 : f_X3_passMinuteOf_v17 g s0 v f tv tf = w19
          generalize hw20 : f_X3_passMinuteOf_v18 g s0 v f tv tf = w20
          generalize hw21 : f_X3_passMinuteOf_v19 g s0 v f tv tf = w21
          refine j_aload_n C dX3_passMinuteOf_102 4 rfl ?_
          refine j_dup C dX3_passMinuteOf_103 rfl ?_
          refine j_get C kin0 rfl 2 rfl 10 (by decide) kw_58 rfl (v := .long w20.2) rfl dX3_passMinuteOf_104 ?_
          refine j_aload_n C dX3_passMinuteOf_107 4 rfl ?_
          refine j_get C kin0 rfl 2 rfl 3 (by decide) kw_39 rfl (v := .int (w20.1 3)) rfl dX3_passMinuteOf_108 ?_
          refine j_i2l C dX3_passMinuteOf_111 rfl ?_
          refine j_ladd C dX3_passMinuteOf_112 rfl ?_
          generalize hw22 : w20.2 + ((w20.1 3).toInt64) = w22
          refine j_put C kin0 rfl 2 rfl 10 (by decide) kw_58 rfl tyX0 tyX0_ok nmX0 rfl rfl rfl (Nat.le_of_ble_eq_true rfl) ([oS a sa da w19, aI G sa 7 s0, oD b h (w20.1, w22), oD t k w13, aB G h w21, aB G k tf]) rfl dX3_passMinuteOf_113 ?_
          refine j_iload C dX3_passMinuteOf_116 0 rfl ?_
          have K131 : WJ p l e (RM 3) s m args below meth c G A 6 0 0 Q ([oS a sa da w19, aI G sa 7 s0, oD b h (w20.1, w22), oD t k w13, aB G h w21, aB G k tf]) [(5, .int w14), (4, .int (f_X0_isQuietIn_r v f (f_X3_hourOfNow_r g))), (3, .int (f_X3_hourOfNow_r g)), (0, .ref a), (1, .ref b), (2, .ref t)] 131 [.int (f_X3_passMinuteOf_x20 g s0 v f tv tf)] := by
            generalize hw23 : f_X3_passMinuteOf_x20 g s0 v f tv tf = w23
            refine j_perm ([oS a sa da w19, aI G sa 7 s0, oD b h (w20.1, w22), aB G h w21, oD t k w13, aB G k tf]) (perm_idx [0, 1, 2, 4, 3, 5] 6 rfl (by decide +kernel) rfl) ?_
            subst hQ; subst hw2 hw3 hw4 hw7 hw8 hw12 hw13 hw14 hw15 hw19 hw20 hw21 hw22 hw23; exact j_zret C hr hk (by rw [f_X3_passMinuteOf_x20_eq]; (repeat' split) <;> rfl) ((show f_X3_passMinuteOf_r g s0 v f tv tf = (f_X3_passMinuteOf_x20 g s0 v f tv tf) from (f_X3_passMinuteOf_r_eq g s0 v f tv tf)).symm) (by rw [show f_X3_passMinuteOf_g g s0 v f tv tf = (f_X3_passMinuteOf_v17 g s0 v f tv tf) from (f_X3_passMinuteOf_g_eq g s0 v f tv tf), show f_X3_passMinuteOf_v g s0 v f tv tf = ((f_X3_passMinuteOf_v18 g s0 v f tv tf).1, ((f_X3_passMinuteOf_v18 g s0 v f tv tf).2 + (((f_X3_passMinuteOf_v18 g s0 v f tv tf).1 3).toInt64))) from (f_X3_passMinuteOf_v_eq g s0 v f tv tf), show f_X3_passMinuteOf_f g s0 v f tv tf = (f_X3_passMinuteOf_v19 g s0 v f tv tf) from (f_X3_passMinuteOf_f_eq g s0 v f tv tf), show f_X3_passMinuteOf_tv g s0 v f tv tf = (f_X3_passMinuteOf_v14 g s0 v f tv tf) from (f_X3_passMinuteOf_tv_eq g s0 v f tv tf)]) dX3_passMinuteOf_131
          refine j_if_eq (tgt := 130) C dX3_passMinuteOf_118 (by decide) (fun c118 => ?_) (fun c118 => ?_)
          · refine j_iconst (v := 0) C dX3_passMinuteOf_130 (by decide) ?_
            subst hw2 hw3 hw4 hw7 hw8 hw12 hw13 hw14 hw15 hw19 hw20 hw21 hw22; exact j_eq rfl rfl (by rw [show f_X3_passMinuteOf_x20 g s0 v f tv tf = 0 from ((f_X3_passMinuteOf_x20_eq g s0 v f tv tf).trans (if_pos c118))]) K131
          · refine j_iload C dX3_passMinuteOf_121 1 rfl ?_
            refine j_if_eq (tgt := 130) C dX3_passMinuteOf_123 (by decide) (fun c123 => ?_) (fun c123 => ?_)
            · refine j_iconst (v := 0) C dX3_passMinuteOf_130 (by decide) ?_
              subst hw2 hw3 hw4 hw7 hw8 hw12 hw13 hw14 hw15 hw19 hw20 hw21 hw22; exact j_eq rfl rfl (by rw [show f_X3_passMinuteOf_x20 g s0 v f tv tf = 0 from ((f_X3_passMinuteOf_x20_eq g s0 v f tv tf).trans ((if_neg c118).trans (if_pos c123)))]) K131
            · refine j_iconst (v := 1) C dX3_passMinuteOf_126 (by decide) ?_
              refine j_goto (tgt := 131) C dX3_passMinuteOf_127 (by decide) ?_
              subst hw2 hw3 hw4 hw7 hw8 hw12 hw13 hw14 hw15 hw19 hw20 hw21 hw22; exact j_eq rfl rfl (by rw [show f_X3_passMinuteOf_x20 g s0 v f tv tf = 1 from ((f_X3_passMinuteOf_x20_eq g s0 v f tv tf).trans ((if_neg c118).trans (if_neg c123)))]) K131
        refine j_if_eq (tgt := 102) C dX3_passMinuteOf_88 (by decide) (fun c88 => ?_) (fun c88 => ?_)
        · subst hw2 hw3 hw4 hw7 hw8 hw12 hw13 hw14 hw15; exact j_eq (by rw [show f_X3_passMinuteOf_v17 g s0 v f tv tf = (f_X3_passMinuteOf_v4 g s0 v f tv tf) from ((f_X3_passMinuteOf_v17_eq g s0 v f tv tf).trans (if_pos c88)), show f_X3_passMinuteOf_v18 g s0 v f tv tf = (f_X3_passMinuteOf_vq15 g s0 v f tv tf) from ((f_X3_passMinuteOf_v18_eq g s0 v f tv tf).trans (if_pos c88)), show f_X3_passMinuteOf_v19 g s0 v f tv tf = (f_X3_passMinuteOf_v5 g s0 v f tv tf) from ((f_X3_passMinuteOf_v19_eq g s0 v f tv tf).trans (if_pos c88))]) rfl rfl K102
        · refine j_iload C dX3_passMinuteOf_91 1 rfl ?_
          refine j_if_eq (tgt := 102) C dX3_passMinuteOf_93 (by decide) (fun c93 => ?_) (fun c93 => ?_)
          · subst hw2 hw3 hw4 hw7 hw8 hw12 hw13 hw14 hw15; exact j_eq (by rw [show f_X3_passMinuteOf_v17 g s0 v f tv tf = (f_X3_passMinuteOf_v4 g s0 v f tv tf) from ((f_X3_passMinuteOf_v17_eq g s0 v f tv tf).trans ((if_neg c88).trans (if_pos c93))), show f_X3_passMinuteOf_v18 g s0 v f tv tf = (f_X3_passMinuteOf_vq15 g s0 v f tv tf) from ((f_X3_passMinuteOf_v18_eq g s0 v f tv tf).trans ((if_neg c88).trans (if_pos c93))), show f_X3_passMinuteOf_v19 g s0 v f tv tf = (f_X3_passMinuteOf_v5 g s0 v f tv tf) from ((f_X3_passMinuteOf_v19_eq g s0 v f tv tf).trans ((if_neg c88).trans (if_pos c93)))]) rfl rfl K102
          · refine j_aload_n C dX3_passMinuteOf_96 3 rfl ?_
            refine j_aload_n C dX3_passMinuteOf_97 4 rfl ?_
            refine j_iload_n C dX3_passMinuteOf_98 2 rfl ?_
            refine j_callV_v (wc' := [oS a sa da (f_X3_chargeOverrun_g w2 s0 w15 w3 (f_X3_hourOfNow_r g)), aI G sa 7 s0, oD b h (f_X3_chargeOverrun_v w2 s0 w15 w3 (f_X3_hourOfNow_r g)), aB G h (f_X3_chargeOverrun_f w2 s0 w15 w3 (f_X3_hourOfNow_r g))]) C (m_X3_chargeOverrun l G a b sa da h w2 s0 w15 w3 (f_X3_hourOfNow_r g)) rfl 0 rfl 2 (gV kw_224 kw_225 kw_346 kw_2 kw_226) (by decide +kernel) ⟨(Nat.le_of_ble_eq_true rfl), (Nat.le_of_ble_eq_true rfl)⟩ rfl rfl (Nat.le_of_ble_eq_true rfl) dX3_passMinuteOf_99 ⟨(Nat.le_of_ble_eq_true rfl), (Nat.le_of_ble_eq_true rfl)⟩ [oD t k w13, aB G k tf] [oS a sa da (f_X3_chargeOverrun_g w2 s0 w15 w3 (f_X3_hourOfNow_r g)), aI G sa 7 s0, oD b h (f_X3_chargeOverrun_v w2 s0 w15 w3 (f_X3_hourOfNow_r g)), aB G h (f_X3_chargeOverrun_f w2 s0 w15 w3 (f_X3_hourOfNow_r g)), oD t k w13, aB G k tf] (perm_idx [0, 1, 2, 4, 3, 5] 6 rfl (by decide +kernel) rfl) rfl ?_
            generalize hzw16 : f_X3_chargeOverrun_g w2 s0 w15 w3 (f_X3_hourOfNow_r g) = w16
            have hw16 : f_X3_passMinuteOf_gq16 g s0 v f tv tf = w16 := by subst hw2 hw3 hw4 hw7 hw8 hw12 hw13 hw14 hw15; subst hzw16; exact (f_X3_passMinuteOf_gq16_eq g s0 v f tv tf)
            generalize hzw17 : f_X3_chargeOverrun_v w2 s0 w15 w3 (f_X3_hourOfNow_r g) = w17
            have hw17 : f_X3_passMinuteOf_vq16 g s0 v f tv tf = w17 := by subst hw2 hw3 hw4 hw7 hw8 hw12 hw13 hw14 hw15 hw16; subst hzw17; exact (f_X3_passMinuteOf_vq16_eq g s0 v f tv tf)
            generalize hzw18 : f_X3_chargeOverrun_f w2 s0 w15 w3 (f_X3_hourOfNow_r g) = w18
            have hw18 : f_X3_passMinuteOf_fq16 g s0 v f tv tf = w18 := by subst hw2 hw3 hw4 hw7 hw8 hw12 hw13 hw14 hw15 hw16 hw17; subst hzw18; exact (f_X3_passMinuteOf_fq16_eq g s0 v f tv tf)
            refine j_perm ([oS a sa da w16, aI G sa 7 s0, oD b h w17, oD t k w13, aB G h w18, aB G k tf]) (perm_idx [0, 1, 2, 4, 3, 5] 6 rfl (by decide +kernel) rfl) ?_
            subst hw2 hw3 hw4 hw7 hw8 hw12 hw13 hw14 hw15 hw16 hw17 hw18; exact j_eq (by rw [show f_X3_passMinuteOf_v17 g s0 v f tv tf = (f_X3_passMinuteOf_gq16 g s0 v f tv tf) from ((f_X3_passMinuteOf_v17_eq g s0 v f tv tf).trans ((if_neg c88).trans (if_neg c93))), show f_X3_passMinuteOf_v18 g s0 v f tv tf = (f_X3_passMinuteOf_vq16 g s0 v f tv tf) from ((f_X3_passMinuteOf_v18_eq g s0 v f tv tf).trans ((if_neg c88).trans (if_neg c93))), show f_X3_passMinuteOf_v19 g s0 v f tv tf = (f_X3_passMinuteOf_fq16 g s0 v f tv tf) from ((f_X3_passMinuteOf_v19_eq g s0 v f tv tf).trans ((if_neg c88).trans (if_neg c93)))]) rfl rfl K102
      refine j_if_eq (tgt := 77) C dX3_passMinuteOf_54 (by decide) (fun c54 => ?_) (fun c54 => ?_)
      · subst hw2 hw3 hw4 hw7 hw8; exact j_eq (by rw [show f_X3_passMinuteOf_v13 g s0 v f tv tf = f_X0_writeHeld_v (f_X3_passMinuteOf_v8 g s0 v f tv tf) from ((f_X3_passMinuteOf_v13_eq g s0 v f tv tf).trans (if_pos c54)), show f_X3_passMinuteOf_v14 g s0 v f tv tf = (f_X3_passMinuteOf_v9 g s0 v f tv tf) from ((f_X3_passMinuteOf_v14_eq g s0 v f tv tf).trans (if_pos c54))]) rfl rfl K77
      · refine j_aload_n C dX3_passMinuteOf_57 4 rfl ?_
        refine j_iload_n C dX3_passMinuteOf_58 1 rfl ?_
        refine j_callV_i (r := f_X0_isQuietIn_r w8 tf (f_X3_hourOfNow_r g)) (wc' := [oD t k w8, aB G k tf]) C (m_X0_isQuietIn l G t k w8 tf (f_X3_hourOfNow_r g)) rfl 0 rfl 1 (gV kw_176 kw_177 kw_178 kw_4 kw_179) (by decide +kernel) ⟨(Nat.le_of_ble_eq_true rfl), (Nat.le_of_ble_eq_true rfl)⟩ rfl rfl (Nat.le_of_ble_eq_true rfl) dX3_passMinuteOf_59 ⟨(Nat.le_of_ble_eq_true rfl), (Nat.le_of_ble_eq_true rfl)⟩ [oD b h (f_X0_writeHeld_v w7), oS a sa da w2, aI G sa 7 s0, aB G h w3] [oD t k w8, aB G k tf, oD b h (f_X0_writeHeld_v w7), oS a sa da w2, aI G sa 7 s0, aB G h w3] (perm_idx [1, 5, 0, 2, 3, 4] 6 rfl (by decide +kernel) rfl) rfl ?_
        generalize hzw9 : f_X0_isQuietIn_r w8 tf (f_X3_hourOfNow_r g) = w9
        have hw9 : f_X3_passMinuteOf_rq11 g s0 v f tv tf = w9 := by subst hw2 hw3 hw4 hw7 hw8; subst hzw9; exact (f_X3_passMinuteOf_rq11_eq g s0 v f tv tf)
        refine j_if_ne (tgt := 77) C dX3_passMinuteOf_62 (by decide) (fun c62 => ?_) (fun c62 => ?_)
        · refine j_perm ([oD b h (f_X0_writeHeld_v w7), oD t k w8, oS a sa da w2, aI G sa 7 s0, aB G h w3, aB G k tf]) (perm_idx [2, 0, 3, 4, 5, 1] 6 rfl (by decide +kernel) rfl) ?_
          subst hw2 hw3 hw4 hw7 hw8 hw9; exact j_eq (by rw [show f_X3_passMinuteOf_v13 g s0 v f tv tf = f_X0_writeHeld_v (f_X3_passMinuteOf_v8 g s0 v f tv tf) from ((f_X3_passMinuteOf_v13_eq g s0 v f tv tf).trans ((if_neg c54).trans (if_neg c62))), show f_X3_passMinuteOf_v14 g s0 v f tv tf = (f_X3_passMinuteOf_v9 g s0 v f tv tf) from ((f_X3_passMinuteOf_v14_eq g s0 v f tv tf).trans ((if_neg c54).trans (if_neg c62)))]) rfl rfl K77
        · refine j_aload_n C dX3_passMinuteOf_65 3 rfl ?_
          refine j_aload_n C dX3_passMinuteOf_66 4 rfl ?_
          refine j_aload_n C dX3_passMinuteOf_67 2 rfl ?_
          refine j_get C kin3 rfl 3 rfl 0 (by decide) kw_74 rfl (v := .ref sa) rfl dX3_passMinuteOf_68 ?_
          refine j_bipush (v := 6) C dX3_passMinuteOf_71 (by decide) ?_
          refine j_iald C 4 rfl (vin_lit rfl) (v := s0 6) rfl dX3_passMinuteOf_73 ?_
          refine j_callV_v (wc' := [oD b h (f_X0_lendTo_v (f_X0_writeHeld_v w7) w8 (s0 6)), oD t k (f_X0_lendTo_t (f_X0_writeHeld_v w7) w8 (s0 6))]) C (m_X0_lendTo l G b t h k (f_X0_writeHeld_v w7) w8 (s0 6)) rfl 0 rfl 2 (gV kw_212 kw_213 kw_214 kw_4 kw_215) (by decide +kernel) ⟨(Nat.le_of_ble_eq_true rfl), (Nat.le_of_ble_eq_true rfl)⟩ rfl rfl (Nat.le_of_ble_eq_true rfl) dX3_passMinuteOf_74 ⟨(Nat.le_of_ble_eq_true rfl), (Nat.le_of_ble_eq_true rfl)⟩ [aB G k tf, oS a sa da w2, aI G sa 7 s0, aB G h w3] [oD b h (f_X0_lendTo_v (f_X0_writeHeld_v w7) w8 (s0 6)), oD t k (f_X0_lendTo_t (f_X0_writeHeld_v w7) w8 (s0 6)), aB G k tf, oS a sa da w2, aI G sa 7 s0, aB G h w3] (perm_idx [2, 0, 1, 3, 4, 5] 6 rfl (by decide +kernel) rfl) rfl ?_
          generalize hzw10 : f_X0_lendTo_v (f_X0_writeHeld_v w7) w8 (s0 6) = w10
          have hw10 : f_X3_passMinuteOf_vq12 g s0 v f tv tf = w10 := by subst hw2 hw3 hw4 hw7 hw8 hw9; subst hzw10; exact (f_X3_passMinuteOf_vq12_eq g s0 v f tv tf)
          generalize hzw11 : f_X0_lendTo_t (f_X0_writeHeld_v w7) w8 (s0 6) = w11
          have hw11 : f_X3_passMinuteOf_tq12 g s0 v f tv tf = w11 := by subst hw2 hw3 hw4 hw7 hw8 hw9 hw10; subst hzw11; exact (f_X3_passMinuteOf_tq12_eq g s0 v f tv tf)
          refine j_perm ([oD b h w10, oD t k w11, oS a sa da w2, aI G sa 7 s0, aB G h w3, aB G k tf]) (perm_idx [0, 1, 3, 4, 5, 2] 6 rfl (by decide +kernel) rfl) ?_
          subst hw2 hw3 hw4 hw7 hw8 hw9 hw10 hw11; exact j_eq (by rw [show f_X3_passMinuteOf_v13 g s0 v f tv tf = (f_X3_passMinuteOf_vq12 g s0 v f tv tf) from ((f_X3_passMinuteOf_v13_eq g s0 v f tv tf).trans ((if_neg c54).trans (if_pos c62))), show f_X3_passMinuteOf_v14 g s0 v f tv tf = (f_X3_passMinuteOf_tq12 g s0 v f tv tf) from ((f_X3_passMinuteOf_v14_eq g s0 v f tv tf).trans ((if_neg c54).trans (if_pos c62)))]) rfl rfl K77
    refine j_if_ne (tgt := 48) C dX3_passMinuteOf_40 (by decide) (fun c40 => ?_) (fun c40 => ?_)
    · refine j_perm ([oD b h w4, oD t k tv, oS a sa da w2, aI G sa 7 s0, aB G h w3, aB G k tf]) (perm_idx [0, 4, 1, 2, 3, 5] 6 rfl (by decide +kernel) rfl) ?_
      subst hw2 hw3 hw4; exact j_eq (by rw [show f_X3_passMinuteOf_v8 g s0 v f tv tf = (f_X3_passMinuteOf_vq6 g s0 v f tv tf) from ((f_X3_passMinuteOf_v8_eq g s0 v f tv tf).trans (if_neg c40)), show f_X3_passMinuteOf_v9 g s0 v f tv tf = tv from ((f_X3_passMinuteOf_v9_eq g s0 v f tv tf).trans (if_neg c40))]) rfl rfl K48
    · refine j_aload_n C dX3_passMinuteOf_43 3 rfl ?_
      refine j_aload_n C dX3_passMinuteOf_44 4 rfl ?_
      refine j_callV_v (wc' := [oD b h (f_X0_takeBackFrom_v w4 tv), oD t k (f_X0_takeBackFrom_t w4 tv)]) C (m_X0_takeBackFrom l G b t h k w4 tv) rfl 0 rfl 1 (gV kw_198 kw_199 kw_200 kw_4 kw_201) (by decide +kernel) ⟨(Nat.le_of_ble_eq_true rfl), (Nat.le_of_ble_eq_true rfl)⟩ rfl rfl (Nat.le_of_ble_eq_true rfl) dX3_passMinuteOf_45 ⟨(Nat.le_of_ble_eq_true rfl), (Nat.le_of_ble_eq_true rfl)⟩ [oS a sa da w2, aI G sa 7 s0, aB G h w3, aB G k tf] [oD b h (f_X0_takeBackFrom_v w4 tv), oD t k (f_X0_takeBackFrom_t w4 tv), oS a sa da w2, aI G sa 7 s0, aB G h w3, aB G k tf] (perm_idx [0, 4, 1, 2, 3, 5] 6 rfl (by decide +kernel) rfl) rfl ?_
      generalize hzw5 : f_X0_takeBackFrom_v w4 tv = w5
      have hw5 : f_X3_passMinuteOf_vq7 g s0 v f tv tf = w5 := by subst hw2 hw3 hw4; subst hzw5; exact (f_X3_passMinuteOf_vq7_eq g s0 v f tv tf)
      generalize hzw6 : f_X0_takeBackFrom_t w4 tv = w6
      have hw6 : f_X3_passMinuteOf_tq7 g s0 v f tv tf = w6 := by subst hw2 hw3 hw4 hw5; subst hzw6; exact (f_X3_passMinuteOf_tq7_eq g s0 v f tv tf)
      subst hw2 hw3 hw4 hw5 hw6; exact j_eq (by rw [show f_X3_passMinuteOf_v8 g s0 v f tv tf = (f_X3_passMinuteOf_vq7 g s0 v f tv tf) from ((f_X3_passMinuteOf_v8_eq g s0 v f tv tf).trans (if_pos c40)), show f_X3_passMinuteOf_v9 g s0 v f tv tf = (f_X3_passMinuteOf_tq7 g s0 v f tv tf) from ((f_X3_passMinuteOf_v9_eq g s0 v f tv tf).trans (if_pos c40))]) rfl rfl K48
  refine j_if_ne (tgt := 30) C dX3_passMinuteOf_19 (by decide) (fun c19 => ?_) (fun c19 => ?_)
  · refine j_perm ([oS a sa da g, aI G sa 7 s0, oD b h v, aB G h f, oD t k tv, aB G k tf]) (perm_idx [2, 3, 0, 1, 4, 5] 6 rfl (by decide +kernel) rfl) ?_
    exact j_eq (by rw [show f_X3_passMinuteOf_v4 g s0 v f tv tf = g from ((f_X3_passMinuteOf_v4_eq g s0 v f tv tf).trans (if_neg c19)), show f_X3_passMinuteOf_v5 g s0 v f tv tf = f from ((f_X3_passMinuteOf_v5_eq g s0 v f tv tf).trans (if_neg c19))]) rfl rfl K30
  · refine j_aload_n C dX3_passMinuteOf_22 2 rfl ?_
    refine j_aload_n C dX3_passMinuteOf_23 3 rfl ?_
    refine j_iload_n C dX3_passMinuteOf_24 1 rfl ?_
    refine j_iload C dX3_passMinuteOf_25 0 rfl ?_
    refine j_callV_v (wc' := [oS a sa da (f_X3_settleHours_g g s0 v f (f_X3_hourOfNow_r g) (f_X0_isQuietIn_r v f (f_X3_hourOfNow_r g))), aI G sa 7 s0, oD b h v, aB G h (f_X3_settleHours_f g s0 v f (f_X3_hourOfNow_r g) (f_X0_isQuietIn_r v f (f_X3_hourOfNow_r g)))]) C (m_X3_settleHours l G a b sa da h g s0 v f (f_X3_hourOfNow_r g) (f_X0_isQuietIn_r v f (f_X3_hourOfNow_r g))) rfl 0 rfl 3 (gV kw_186 kw_187 kw_343 kw_2 kw_188) (by decide +kernel) ⟨(Nat.le_of_ble_eq_true rfl), (Nat.le_of_ble_eq_true rfl)⟩ rfl rfl (Nat.le_of_ble_eq_true rfl) dX3_passMinuteOf_27 ⟨(Nat.le_of_ble_eq_true rfl), (Nat.le_of_ble_eq_true rfl)⟩ [oD t k tv, aB G k tf] [oS a sa da (f_X3_settleHours_g g s0 v f (f_X3_hourOfNow_r g) (f_X0_isQuietIn_r v f (f_X3_hourOfNow_r g))), aI G sa 7 s0, oD b h v, aB G h (f_X3_settleHours_f g s0 v f (f_X3_hourOfNow_r g) (f_X0_isQuietIn_r v f (f_X3_hourOfNow_r g))), oD t k tv, aB G k tf] (perm_idx [2, 3, 0, 1, 4, 5] 6 rfl (by decide +kernel) rfl) rfl ?_
    generalize hzw0 : f_X3_settleHours_g g s0 v f (f_X3_hourOfNow_r g) (f_X0_isQuietIn_r v f (f_X3_hourOfNow_r g)) = w0
    have hw0 : f_X3_passMinuteOf_gq3 g s0 v f tv tf = w0 := by subst hzw0; exact (f_X3_passMinuteOf_gq3_eq g s0 v f tv tf)
    generalize hzw1 : f_X3_settleHours_f g s0 v f (f_X3_hourOfNow_r g) (f_X0_isQuietIn_r v f (f_X3_hourOfNow_r g)) = w1
    have hw1 : f_X3_passMinuteOf_fq3 g s0 v f tv tf = w1 := by subst hw0; subst hzw1; exact (f_X3_passMinuteOf_fq3_eq g s0 v f tv tf)
    subst hw0 hw1; exact j_eq (by rw [show f_X3_passMinuteOf_v4 g s0 v f tv tf = (f_X3_passMinuteOf_gq3 g s0 v f tv tf) from ((f_X3_passMinuteOf_v4_eq g s0 v f tv tf).trans (if_pos c19)), show f_X3_passMinuteOf_v5 g s0 v f tv tf = (f_X3_passMinuteOf_fq3 g s0 v f tv tf) from ((f_X3_passMinuteOf_v5_eq g s0 v f tv tf).trans (if_pos c19))]) rfl rfl K30
