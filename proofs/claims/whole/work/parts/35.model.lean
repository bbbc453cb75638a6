/-! THE MODEL: changes -/
theorem in_iff {x y z : Int64} : (¬ f_X5_in_r x y z = 0) ↔ (y.toInt ≤ x.toInt ∧ x.toInt ≤ z.toInt) := by
  unfold f_X5_in_r f_X5_in_x1
  by_cases c3 : lg_cmp x y < 0
  · rw [if_pos c3]
    have := Int64.lt_iff_toInt_lt.mp ((lg_cmp_lt x y).mp c3)
    exact ⟨fun h => absurd rfl h, fun h => absurd h (by omega)⟩
  · rw [if_neg c3]
    have h1 := Int64.le_iff_toInt_le.mp (Int64.not_lt.mp (mt (lg_cmp_lt x y).mpr c3))
    by_cases c11 : 0 < lg_cmp x z
    · rw [if_pos c11]
      have := Int64.lt_iff_toInt_lt.mp ((lg_cmp_gt x z).mp c11)
      exact ⟨fun h => absurd rfl h, fun h => absurd h (by omega)⟩
    · rw [if_neg c11]
      have h2 := Int64.le_iff_toInt_le.mp (Int64.not_lt.mp (mt (lg_cmp_gt x z).mpr c11))
      exact ⟨fun _ => ⟨h1, h2⟩, fun _ => by decide⟩
theorem vin_in {k : Int32} {n : Nat} {z : Int64} (hz : z.toInt < n) (h : ¬ f_X5_in_r k.toInt64 0 z = 0) : vp_in k n := by
  have h := in_iff.mp h
  rw [Int32.toInt_toInt64, show (0 : Int64).toInt = 0 by decide] at h
  exact vp_in_iff.mpr ⟨h.1, by omega⟩
theorem vin_hr5 {y : Int32} (h : ¬ f_X5_isHour_r y = 0) : vp_in y 100 := vin_in (z := 99) (by decide) h
theorem vin_hx {k y : Int32} (hk : vp_in k 4) (hy : vp_in y 100) : vp_in (56 + 100 * k + y) 456 := by
  obtain ⟨j, hj, rfl⟩ := vp_in_of hk (by decide)
  obtain ⟨i, hi, rfl⟩ := vp_in_of hy (by decide)
  rcases (show j = 0 ∨ j = 1 ∨ j = 2 ∨ j = 3 by omega) with rfl | rfl | rfl | rfl
  · exact vin_add (c := 56) (by decide) (by omega) (by decide) (by omega)
  · exact vin_add (c := 156) (by decide) (by omega) (by decide) (by omega)
  · exact vin_add (c := 256) (by decide) (by omega) (by decide) (by omega)
  · exact vin_add (c := 356) (by decide) (by omega) (by decide) (by omega)
theorem trade_ok {v : Nat → Int32} {f : Nat → Int64} {k y q : Int32} (h : f_X5_mayTrade_r v f k y q = 0) : vp_in k 4 ∧ vp_in y 100 := by
  unfold f_X5_mayTrade_r at h
  by_cases c4 : f_X5_isDrive_r k = 0
  · rw [if_pos c4] at h
    exact absurd h (by decide)
  · rw [if_neg c4] at h
    by_cases c13 : f_X5_isHour_r y = 0
    · rw [if_pos c13] at h
      exact absurd h (by decide)
    · exact ⟨drv5 c4, vin_hr5 c13⟩
theorem stream_ok {v : Nat → Int32} {k y x : Int32} (h : f_X5_mayStream_r v k y x = 0) : vp_in k 4 := by
  unfold f_X5_mayStream_r at h
  by_cases c4 : f_X5_isDrive_r k = 0
  · rw [if_pos c4] at h
    exact absurd h (by decide)
  · exact drv5 c4
theorem write_ok {v : Nat → Int32} {f : Nat → Int64} {k y : Int32} (h : f_X5_mayWrite_r v f k y = 0) : vp_in k 4 := by
  unfold f_X5_mayWrite_r at h
  by_cases c4 : f_X5_isDrive_r k = 0
  · rw [if_pos c4] at h
    exact absurd h (by decide)
  · exact drv5 c4
theorem vin_set {k : Int32} (h : ¬ f_X5_in_r k.toInt64 0 6 = 0) : vp_in (5 + k) 456 := by
  obtain ⟨i, hi, rfl⟩ := vp_in_of (vin_in (n := 7) (z := 6) (by decide) h) (by decide)
  exact vin_add (c := 5) (by decide) (by omega) (by decide) (by omega)
noncomputable def f_X5_set_v (v : Nat → Int32) (f : Nat → Int64) (u : Nat → Int64) (k : Int32) (y : Int32) : (Nat → Int32) := (if f_X5_in_r k.toInt64 0 6 = 0 then v else (if f_X5_isFor_r k y = 0 then v else f_X5_records_v v f u))
noncomputable def f_X5_set_f (v : Nat → Int32) (f : Nat → Int64) (u : Nat → Int64) (k : Int32) (y : Int32) : (Nat → Int64) := (if f_X5_in_r k.toInt64 0 6 = 0 then f else (if f_X5_isFor_r k y = 0 then f else vp_updL f (5 + k).toNatClampNeg y.toInt64))
noncomputable def f_X5_set_u (v : Nat → Int32) (f : Nat → Int64) (u : Nat → Int64) (k : Int32) (y : Int32) : (Nat → Int64) := (if f_X5_in_r k.toInt64 0 6 = 0 then u else (if f_X5_isFor_r k y = 0 then u else f_X5_records_u v f u))
noncomputable def f_X5_set_r (v : Nat → Int32) (f : Nat → Int64) (u : Nat → Int64) (k : Int32) (y : Int32) : Int32 := (if f_X5_in_r k.toInt64 0 6 = 0 then (-2) else (if f_X5_isFor_r k y = 0 then (-2) else (f (5 + k).toNatClampNeg).toInt32))
set_option maxRecDepth 100000 in
set_option maxHeartbeats 4000000 in
theorem m_X5_set (l : Launch) (G : GG) (a nw th ps sl hd pd od : Nat) (v : Nat → Int32) (f : Nat → Int64) (u : Nat → Int64) (k : Int32) (y : Int32) (h7 : vp_in (v 3) 7) : CtI l yX5_set cX5_set 4 (some .int) (RM 2) G [.ref a, .int k, .int y] ([oM a nw th ps sl hd pd od v, aJ G nw 456 f, aJ G ps 2736 u]) (f_X5_set_r v f u k y) ([oM a nw th ps sl hd pd od (f_X5_set_v v f u k y), aJ G nw 456 (f_X5_set_f v f u k y), aJ G ps 2736 (f_X5_set_u v f u k y)]) := by
  refine ct_I RX5 [(0, .ref a), (1, .int k), (2, .int y)] rfl (by decide +kernel) (Nat.le_of_ble_eq_true rfl) rfl ?_
  intro p e s m args below meth c A C hr hk hnm
  generalize hQ : (MQ below (PostI G A (f_X5_set_r v f u k y) ([oM a nw th ps sl hd pd od (f_X5_set_v v f u k y), aJ G nw 456 (f_X5_set_f v f u k y), aJ G ps 2736 (f_X5_set_u v f u k y)])) args s (RM 2).cells (RM 2).slots A) = Q
  refine j_iload_n C dX5_set_0 1 rfl ?_
  refine j_i2l C dX5_set_1 rfl ?_
  refine j_lconst (v := 0) C dX5_set_2 (by decide) ?_
  refine j_ldc2 (v := 6) C kw_537 dX5_set_3 ?_
  refine j_pureS_i (r := f_X5_in_r k.toInt64 0 6) C (m_X5_in l G k.toInt64 0 6) 3 (gS kw_523 kw_524 kw_7 kw_525) (by decide +kernel) ⟨(Nat.le_of_ble_eq_true rfl), (Nat.le_of_ble_eq_true rfl)⟩ rfl rfl (Nat.le_of_ble_eq_true rfl) dX5_set_6 ⟨(Nat.le_of_ble_eq_true rfl), (Nat.le_of_ble_eq_true rfl)⟩ ?_
  refine j_if_eq (tgt := 20) C dX5_set_9 (by decide) (fun c9 => ?_) (fun c9 => ?_)
  · refine j_bipush (v := (-2)) C dX5_set_20 (by decide) ?_
    subst hQ; exact j_iret C hr hk ((show f_X5_set_r v f u k y = (-2) from (if_pos c9)).symm) (by rw [show f_X5_set_v v f u k y = v from (if_pos c9), show f_X5_set_f v f u k y = f from (if_pos c9), show f_X5_set_u v f u k y = u from (if_pos c9)]) dX5_set_22
  · refine j_iload_n C dX5_set_12 1 rfl ?_
    refine j_iload_n C dX5_set_13 2 rfl ?_
    refine j_pureS_i (r := f_X5_isFor_r k y) C (m_X5_isFor l G k y) 2 (gS kw_538 kw_539 kw_7 kw_540) (by decide +kernel) ⟨(Nat.le_of_ble_eq_true rfl), (Nat.le_of_ble_eq_true rfl)⟩ rfl rfl (Nat.le_of_ble_eq_true rfl) dX5_set_14 ⟨(Nat.le_of_ble_eq_true rfl), (Nat.le_of_ble_eq_true rfl)⟩ ?_
    refine j_if_ne (tgt := 23) C dX5_set_17 (by decide) (fun c17 => ?_) (fun c17 => ?_)
    · refine j_aload_n C dX5_set_23 0 rfl ?_
      refine j_callV_v (wc' := [oM a nw th ps sl hd pd od (f_X5_records_v v f u), aJ G nw 456 f, aJ G ps 2736 (f_X5_records_u v f u)]) C (m_X5_records l G a nw th ps sl hd pd od v f u h7) rfl 0 rfl 0 (gV kw_530 kw_531 kw_771 kw_7 kw_532) (by decide +kernel) ⟨(Nat.le_of_ble_eq_true rfl), (Nat.le_of_ble_eq_true rfl)⟩ rfl rfl (Nat.le_of_ble_eq_true rfl) dX5_set_24 ⟨(Nat.le_of_ble_eq_true rfl), (Nat.le_of_ble_eq_true rfl)⟩ [] [oM a nw th ps sl hd pd od (f_X5_records_v v f u), aJ G nw 456 f, aJ G ps 2736 (f_X5_records_u v f u)] (perm_idx [0, 1, 2] 3 rfl (by decide +kernel) rfl) rfl ?_
      refine j_aload_n C dX5_set_27 0 rfl ?_
      refine j_get C kin5 rfl 0 rfl 0 (by decide) kw_489 rfl (v := .ref nw) rfl dX5_set_28 ?_
      refine j_iconst (v := 5) C dX5_set_31 (by decide) ?_
      refine j_iload_n C dX5_set_32 1 rfl ?_
      refine j_iadd C dX5_set_33 rfl ?_
      refine j_lald C 1 rfl (vin_set c9) (v := f (5 + k).toNatClampNeg) rfl dX5_set_34 ?_
      refine j_l2i C dX5_set_35 rfl ?_
      refine j_istore_n C [(3, .int ((f (5 + k).toNatClampNeg).toInt32)), (0, .ref a), (1, .int k), (2, .int y)] dX5_set_36 (by decide) rfl ?_
      refine j_aload_n C dX5_set_37 1 rfl ?_
      refine j_get C kin5 rfl 0 rfl 0 (by decide) kw_489 rfl (v := .ref nw) rfl dX5_set_38 ?_
      refine j_iconst (v := 5) C dX5_set_41 (by decide) ?_
      refine j_iload_n C dX5_set_42 2 rfl ?_
      refine j_iadd C dX5_set_43 rfl ?_
      refine j_iload_n C dX5_set_44 3 rfl ?_
      refine j_i2l C dX5_set_45 rfl ?_
      refine j_last C 1 rfl (vin_set c9) ([oM a nw th ps sl hd pd od (f_X5_records_v v f u), aJ G nw 456 (vp_updL f (5 + k).toNatClampNeg y.toInt64), aJ G ps 2736 (f_X5_records_u v f u)]) rfl dX5_set_46 ?_
      refine j_iload_n C dX5_set_47 0 rfl ?_
      subst hQ; exact j_iret C hr hk ((show f_X5_set_r v f u k y = (f (5 + k).toNatClampNeg).toInt32 from ((if_neg c9).trans (if_neg c17))).symm) (by rw [show f_X5_set_v v f u k y = f_X5_records_v v f u from ((if_neg c9).trans (if_neg c17)), show f_X5_set_f v f u k y = vp_updL f (5 + k).toNatClampNeg y.toInt64 from ((if_neg c9).trans (if_neg c17)), show f_X5_set_u v f u k y = f_X5_records_u v f u from ((if_neg c9).trans (if_neg c17))]) dX5_set_48
    · refine j_bipush (v := (-2)) C dX5_set_20 (by decide) ?_
      subst hQ; exact j_iret C hr hk ((show f_X5_set_r v f u k y = (-2) from ((if_neg c9).trans (if_pos c17))).symm) (by rw [show f_X5_set_v v f u k y = v from ((if_neg c9).trans (if_pos c17)), show f_X5_set_f v f u k y = f from ((if_neg c9).trans (if_pos c17)), show f_X5_set_u v f u k y = u from ((if_neg c9).trans (if_pos c17))]) dX5_set_22
noncomputable def f_X5_streams_f (v : Nat → Int32) (f : Nat → Int64) (k : Int32) (y : Int32) (x : Int32) : (Nat → Int64) := vp_updL (vp_updL f ((f_X5_row_r k) + 8).toNatClampNeg y.toInt64) ((f_X5_row_r k) + 9).toNatClampNeg x.toInt64
noncomputable def f_X5_streams_r (v : Nat → Int32) (f : Nat → Int64) (k : Int32) (y : Int32) (x : Int32) : Int32 := (f ((f_X5_row_r k) + 9).toNatClampNeg).toInt32
set_option maxRecDepth 100000 in
set_option maxHeartbeats 4000000 in
theorem m_X5_streams (l : Launch) (G : GG) (a nw th ps sl hd pd od : Nat) (v : Nat → Int32) (f : Nat → Int64) (k : Int32) (y : Int32) (x : Int32) (h4 : vp_in k 4) : CtI l yX5_streams cX5_streams 5 (some .int) (RM 1) G [.ref a, .int k, .int y, .int x] ([oM a nw th ps sl hd pd od v, aJ G nw 456 f]) (f_X5_streams_r v f k y x) ([oM a nw th ps sl hd pd od v, aJ G nw 456 (f_X5_streams_f v f k y x)]) := by
  refine ct_I RX5 [(0, .ref a), (1, .int k), (2, .int y), (3, .int x)] rfl (by decide +kernel) (Nat.le_of_ble_eq_true rfl) rfl ?_
  intro p e s m args below meth c A C hr hk hnm
  generalize hQ : (MQ below (PostI G A (f_X5_streams_r v f k y x) ([oM a nw th ps sl hd pd od v, aJ G nw 456 (f_X5_streams_f v f k y x)])) args s (RM 1).cells (RM 1).slots A) = Q
  refine j_aload_n C dX5_streams_0 0 rfl ?_
  refine j_get C kin5 rfl 0 rfl 0 (by decide) kw_489 rfl (v := .ref nw) rfl dX5_streams_1 ?_
  refine j_iload_n C dX5_streams_4 1 rfl ?_
  refine j_pureS_i (r := f_X5_row_r k) C (m_X5_row l G k) 1 (gS kw_486 kw_487 kw_7 kw_488) (by decide +kernel) ⟨(Nat.le_of_ble_eq_true rfl), (Nat.le_of_ble_eq_true rfl)⟩ rfl rfl (Nat.le_of_ble_eq_true rfl) dX5_streams_5 ⟨(Nat.le_of_ble_eq_true rfl), (Nat.le_of_ble_eq_true rfl)⟩ ?_
  refine j_bipush (v := 9) C dX5_streams_8 (by decide) ?_
  refine j_iadd C dX5_streams_10 rfl ?_
  refine j_lald C 1 rfl (vin_row h4 (by decide)) (v := f ((f_X5_row_r k) + 9).toNatClampNeg) rfl dX5_streams_11 ?_
  refine j_l2i C dX5_streams_12 rfl ?_
  refine j_istore C [(4, .int ((f ((f_X5_row_r k) + 9).toNatClampNeg).toInt32)), (0, .ref a), (1, .int k), (2, .int y), (3, .int x)] dX5_streams_13 (by decide) rfl ?_
  refine j_aload_n C dX5_streams_15 1 rfl ?_
  refine j_get C kin5 rfl 0 rfl 0 (by decide) kw_489 rfl (v := .ref nw) rfl dX5_streams_16 ?_
  refine j_iload_n C dX5_streams_19 2 rfl ?_
  refine j_pureS_i (r := f_X5_row_r k) C (m_X5_row l G k) 1 (gS kw_486 kw_487 kw_7 kw_488) (by decide +kernel) ⟨(Nat.le_of_ble_eq_true rfl), (Nat.le_of_ble_eq_true rfl)⟩ rfl rfl (Nat.le_of_ble_eq_true rfl) dX5_streams_20 ⟨(Nat.le_of_ble_eq_true rfl), (Nat.le_of_ble_eq_true rfl)⟩ ?_
  refine j_bipush (v := 8) C dX5_streams_23 (by decide) ?_
  refine j_iadd C dX5_streams_25 rfl ?_
  refine j_iload_n C dX5_streams_26 3 rfl ?_
  refine j_i2l C dX5_streams_27 rfl ?_
  refine j_last C 1 rfl (vin_row h4 (by decide)) ([oM a nw th ps sl hd pd od v, aJ G nw 456 (vp_updL f ((f_X5_row_r k) + 8).toNatClampNeg y.toInt64)]) rfl dX5_streams_28 ?_
  refine j_aload_n C dX5_streams_29 1 rfl ?_
  refine j_get C kin5 rfl 0 rfl 0 (by decide) kw_489 rfl (v := .ref nw) rfl dX5_streams_30 ?_
  refine j_iload_n C dX5_streams_33 2 rfl ?_
  refine j_pureS_i (r := f_X5_row_r k) C (m_X5_row l G k) 1 (gS kw_486 kw_487 kw_7 kw_488) (by decide +kernel) ⟨(Nat.le_of_ble_eq_true rfl), (Nat.le_of_ble_eq_true rfl)⟩ rfl rfl (Nat.le_of_ble_eq_true rfl) dX5_streams_34 ⟨(Nat.le_of_ble_eq_true rfl), (Nat.le_of_ble_eq_true rfl)⟩ ?_
  refine j_bipush (v := 9) C dX5_streams_37 (by decide) ?_
  refine j_iadd C dX5_streams_39 rfl ?_
  refine j_iload_n C dX5_streams_40 4 rfl ?_
  refine j_i2l C dX5_streams_41 rfl ?_
  refine j_last C 1 rfl (vin_row h4 (by decide)) ([oM a nw th ps sl hd pd od v, aJ G nw 456 (vp_updL (vp_updL f ((f_X5_row_r k) + 8).toNatClampNeg y.toInt64) ((f_X5_row_r k) + 9).toNatClampNeg x.toInt64)]) rfl dX5_streams_42 ?_
  refine j_iload C dX5_streams_43 0 rfl ?_
  subst hQ; exact j_iret C hr hk ((show f_X5_streams_r v f k y x = (f ((f_X5_row_r k) + 9).toNatClampNeg).toInt32 from rfl).symm) (by rw [show f_X5_streams_f v f k y x = vp_updL (vp_updL f ((f_X5_row_r k) + 8).toNatClampNeg y.toInt64) ((f_X5_row_r k) + 9).toNatClampNeg x.toInt64 from rfl]) dX5_streams_45
noncomputable def f_X5_stream_v (v : Nat → Int32) (f : Nat → Int64) (u : Nat → Int64) (k : Int32) (y : Int32) (x : Int32) : (Nat → Int32) := (if f_X5_mayStream_r v k y x = 0 then f_X5_records_v v f u else v)
noncomputable def f_X5_stream_f (v : Nat → Int32) (f : Nat → Int64) (u : Nat → Int64) (k : Int32) (y : Int32) (x : Int32) : (Nat → Int64) := (if f_X5_mayStream_r v k y x = 0 then f_X5_streams_f (f_X5_records_v v f u) f k y x else f)
noncomputable def f_X5_stream_u (v : Nat → Int32) (f : Nat → Int64) (u : Nat → Int64) (k : Int32) (y : Int32) (x : Int32) : (Nat → Int64) := (if f_X5_mayStream_r v k y x = 0 then f_X5_records_u v f u else u)
noncomputable def f_X5_stream_r (v : Nat → Int32) (f : Nat → Int64) (u : Nat → Int64) (k : Int32) (y : Int32) (x : Int32) : Int32 := (if f_X5_mayStream_r v k y x = 0 then f_X5_streams_r (f_X5_records_v v f u) f k y x else f_X5_mayStream_r v k y x)
set_option maxRecDepth 100000 in
set_option maxHeartbeats 4000000 in
theorem m_X5_stream (l : Launch) (G : GG) (a nw th ps sl hd pd od : Nat) (v : Nat → Int32) (f : Nat → Int64) (u : Nat → Int64) (k : Int32) (y : Int32) (x : Int32) (h7 : vp_in (v 3) 7) : CtI l yX5_stream cX5_stream 5 (some .int) (RM 3) G [.ref a, .int k, .int y, .int x] ([oM a nw th ps sl hd pd od v, aJ G nw 456 f, aJ G ps 2736 u]) (f_X5_stream_r v f u k y x) ([oM a nw th ps sl hd pd od (f_X5_stream_v v f u k y x), aJ G nw 456 (f_X5_stream_f v f u k y x), aJ G ps 2736 (f_X5_stream_u v f u k y x)]) := by
  refine ct_I RX5 [(0, .ref a), (1, .int k), (2, .int y), (3, .int x)] rfl (by decide +kernel) (Nat.le_of_ble_eq_true rfl) rfl ?_
  intro p e s m args below meth c A C hr hk hnm
  generalize hQ : (MQ below (PostI G A (f_X5_stream_r v f u k y x) ([oM a nw th ps sl hd pd od (f_X5_stream_v v f u k y x), aJ G nw 456 (f_X5_stream_f v f u k y x), aJ G ps 2736 (f_X5_stream_u v f u k y x)])) args s (RM 3).cells (RM 3).slots A) = Q
  refine j_aload_n C dX5_stream_0 0 rfl ?_
  refine j_iload_n C dX5_stream_1 1 rfl ?_
  refine j_iload_n C dX5_stream_2 2 rfl ?_
  refine j_iload_n C dX5_stream_3 3 rfl ?_
  refine j_callV_i (r := f_X5_mayStream_r v k y x) (wc' := [oM a nw th ps sl hd pd od v]) C (m_X5_mayStream l G a nw th ps sl hd pd od v k y x) rfl 0 rfl 3 (gV kw_548 kw_549 kw_772 kw_7 kw_550) (by decide +kernel) ⟨(Nat.le_of_ble_eq_true rfl), (Nat.le_of_ble_eq_true rfl)⟩ rfl rfl (Nat.le_of_ble_eq_true rfl) dX5_stream_4 ⟨(Nat.le_of_ble_eq_true rfl), (Nat.le_of_ble_eq_true rfl)⟩ [aJ G nw 456 f, aJ G ps 2736 u] [oM a nw th ps sl hd pd od v, aJ G nw 456 f, aJ G ps 2736 u] (perm_idx [0, 1, 2] 3 rfl (by decide +kernel) rfl) rfl ?_
  refine j_istore C [(4, .int (f_X5_mayStream_r v k y x)), (0, .ref a), (1, .int k), (2, .int y), (3, .int x)] dX5_stream_7 (by decide) rfl ?_
  refine j_iload C dX5_stream_9 0 rfl ?_
  refine j_if_eq (tgt := 17) C dX5_stream_11 (by decide) (fun c11 => ?_) (fun c11 => ?_)
  · refine j_aload_n C dX5_stream_17 1 rfl ?_
    refine j_callV_v (wc' := [oM a nw th ps sl hd pd od (f_X5_records_v v f u), aJ G nw 456 f, aJ G ps 2736 (f_X5_records_u v f u)]) C (m_X5_records l G a nw th ps sl hd pd od v f u h7) rfl 0 rfl 0 (gV kw_530 kw_531 kw_771 kw_7 kw_532) (by decide +kernel) ⟨(Nat.le_of_ble_eq_true rfl), (Nat.le_of_ble_eq_true rfl)⟩ rfl rfl (Nat.le_of_ble_eq_true rfl) dX5_stream_18 ⟨(Nat.le_of_ble_eq_true rfl), (Nat.le_of_ble_eq_true rfl)⟩ [] [oM a nw th ps sl hd pd od (f_X5_records_v v f u), aJ G nw 456 f, aJ G ps 2736 (f_X5_records_u v f u)] (perm_idx [0, 1, 2] 3 rfl (by decide +kernel) rfl) rfl ?_
    refine j_aload_n C dX5_stream_21 1 rfl ?_
    refine j_iload_n C dX5_stream_22 2 rfl ?_
    refine j_iload_n C dX5_stream_23 3 rfl ?_
    refine j_iload_n C dX5_stream_24 4 rfl ?_
    refine j_callV_i (r := f_X5_streams_r (f_X5_records_v v f u) f k y x) (wc' := [oM a nw th ps sl hd pd od (f_X5_records_v v f u), aJ G nw 456 (f_X5_streams_f (f_X5_records_v v f u) f k y x)]) C (m_X5_streams l G a nw th ps sl hd pd od (f_X5_records_v v f u) f k y x (stream_ok c11)) rfl 0 rfl 3 (gV kw_555 kw_556 kw_773 kw_7 kw_557) (by decide +kernel) ⟨(Nat.le_of_ble_eq_true rfl), (Nat.le_of_ble_eq_true rfl)⟩ rfl rfl (Nat.le_of_ble_eq_true rfl) dX5_stream_25 ⟨(Nat.le_of_ble_eq_true rfl), (Nat.le_of_ble_eq_true rfl)⟩ [aJ G ps 2736 (f_X5_records_u v f u)] [oM a nw th ps sl hd pd od (f_X5_records_v v f u), aJ G nw 456 (f_X5_streams_f (f_X5_records_v v f u) f k y x), aJ G ps 2736 (f_X5_records_u v f u)] (perm_idx [0, 1, 2] 3 rfl (by decide +kernel) rfl) rfl ?_
    subst hQ; exact j_iret C hr hk ((show f_X5_stream_r v f u k y x = f_X5_streams_r (f_X5_records_v v f u) f k y x from (if_pos c11)).symm) (by rw [show f_X5_stream_v v f u k y x = f_X5_records_v v f u from (if_pos c11), show f_X5_stream_f v f u k y x = f_X5_streams_f (f_X5_records_v v f u) f k y x from (if_pos c11), show f_X5_stream_u v f u k y x = f_X5_records_u v f u from (if_pos c11)]) dX5_stream_28
  · refine j_iload C dX5_stream_14 0 rfl ?_
    subst hQ; exact j_iret C hr hk ((show f_X5_stream_r v f u k y x = f_X5_mayStream_r v k y x from (if_neg c11)).symm) (by rw [show f_X5_stream_v v f u k y x = v from (if_neg c11), show f_X5_stream_f v f u k y x = f from (if_neg c11), show f_X5_stream_u v f u k y x = u from (if_neg c11)]) dX5_stream_16
noncomputable def f_X5_write_v (v : Nat → Int32) (f : Nat → Int64) (u : Nat → Int64) (k : Int32) (y : Int32) : (Nat → Int32) := (if f_X5_mayWrite_r v f k y = 0 then f_X5_records_v v f u else v)
noncomputable def f_X5_write_f (v : Nat → Int32) (f : Nat → Int64) (u : Nat → Int64) (k : Int32) (y : Int32) : (Nat → Int64) := (if f_X5_mayWrite_r v f k y = 0 then f_X5_comes_f (f_X5_records_v v f u) f k y else f)
noncomputable def f_X5_write_u (v : Nat → Int32) (f : Nat → Int64) (u : Nat → Int64) (k : Int32) (y : Int32) : (Nat → Int64) := (if f_X5_mayWrite_r v f k y = 0 then f_X5_records_u v f u else u)
noncomputable def f_X5_write_r (v : Nat → Int32) (f : Nat → Int64) (u : Nat → Int64) (k : Int32) (y : Int32) : Int32 := (if f_X5_mayWrite_r v f k y = 0 then f_X5_comes_r (f_X5_records_v v f u) f k y else f_X5_mayWrite_r v f k y)
set_option maxRecDepth 100000 in
set_option maxHeartbeats 4000000 in
theorem m_X5_write (l : Launch) (G : GG) (a nw th ps sl hd pd od : Nat) (v : Nat → Int32) (f : Nat → Int64) (u : Nat → Int64) (k : Int32) (y : Int32) (h7 : vp_in (v 3) 7) : CtI l yX5_write cX5_write 4 (some .int) (RM 3) G [.ref a, .int k, .int y] ([oM a nw th ps sl hd pd od v, aJ G nw 456 f, aJ G ps 2736 u]) (f_X5_write_r v f u k y) ([oM a nw th ps sl hd pd od (f_X5_write_v v f u k y), aJ G nw 456 (f_X5_write_f v f u k y), aJ G ps 2736 (f_X5_write_u v f u k y)]) := by
  refine ct_I RX5 [(0, .ref a), (1, .int k), (2, .int y)] rfl (by decide +kernel) (Nat.le_of_ble_eq_true rfl) rfl ?_
  intro p e s m args below meth c A C hr hk hnm
  generalize hQ : (MQ below (PostI G A (f_X5_write_r v f u k y) ([oM a nw th ps sl hd pd od (f_X5_write_v v f u k y), aJ G nw 456 (f_X5_write_f v f u k y), aJ G ps 2736 (f_X5_write_u v f u k y)])) args s (RM 3).cells (RM 3).slots A) = Q
  refine j_aload_n C dX5_write_0 0 rfl ?_
  refine j_iload_n C dX5_write_1 1 rfl ?_
  refine j_iload_n C dX5_write_2 2 rfl ?_
  refine j_callV_i (r := f_X5_mayWrite_r v f k y) (wc' := [oM a nw th ps sl hd pd od v, aJ G nw 456 f]) C (m_X5_mayWrite l G a nw th ps sl hd pd od v f k y) rfl 0 rfl 2 (gV kw_562 kw_563 kw_774 kw_7 kw_564) (by decide +kernel) ⟨(Nat.le_of_ble_eq_true rfl), (Nat.le_of_ble_eq_true rfl)⟩ rfl rfl (Nat.le_of_ble_eq_true rfl) dX5_write_3 ⟨(Nat.le_of_ble_eq_true rfl), (Nat.le_of_ble_eq_true rfl)⟩ [aJ G ps 2736 u] [oM a nw th ps sl hd pd od v, aJ G nw 456 f, aJ G ps 2736 u] (perm_idx [0, 1, 2] 3 rfl (by decide +kernel) rfl) rfl ?_
  refine j_istore_n C [(3, .int (f_X5_mayWrite_r v f k y)), (0, .ref a), (1, .int k), (2, .int y)] dX5_write_6 (by decide) rfl ?_
  refine j_iload_n C dX5_write_7 0 rfl ?_
  refine j_if_eq (tgt := 13) C dX5_write_8 (by decide) (fun c8 => ?_) (fun c8 => ?_)
  · refine j_aload_n C dX5_write_13 1 rfl ?_
    refine j_callV_v (wc' := [oM a nw th ps sl hd pd od (f_X5_records_v v f u), aJ G nw 456 f, aJ G ps 2736 (f_X5_records_u v f u)]) C (m_X5_records l G a nw th ps sl hd pd od v f u h7) rfl 0 rfl 0 (gV kw_530 kw_531 kw_771 kw_7 kw_532) (by decide +kernel) ⟨(Nat.le_of_ble_eq_true rfl), (Nat.le_of_ble_eq_true rfl)⟩ rfl rfl (Nat.le_of_ble_eq_true rfl) dX5_write_14 ⟨(Nat.le_of_ble_eq_true rfl), (Nat.le_of_ble_eq_true rfl)⟩ [] [oM a nw th ps sl hd pd od (f_X5_records_v v f u), aJ G nw 456 f, aJ G ps 2736 (f_X5_records_u v f u)] (perm_idx [0, 1, 2] 3 rfl (by decide +kernel) rfl) rfl ?_
    refine j_aload_n C dX5_write_17 1 rfl ?_
    refine j_iload_n C dX5_write_18 2 rfl ?_
    refine j_iload_n C dX5_write_19 3 rfl ?_
    refine j_callV_i (r := f_X5_comes_r (f_X5_records_v v f u) f k y) (wc' := [oM a nw th ps sl hd pd od (f_X5_records_v v f u), aJ G nw 456 (f_X5_comes_f (f_X5_records_v v f u) f k y)]) C (m_X5_comes l G a nw th ps sl hd pd od (f_X5_records_v v f u) f k y (write_ok c8)) rfl 0 rfl 2 (gV kw_567 kw_568 kw_775 kw_7 kw_569) (by decide +kernel) ⟨(Nat.le_of_ble_eq_true rfl), (Nat.le_of_ble_eq_true rfl)⟩ rfl rfl (Nat.le_of_ble_eq_true rfl) dX5_write_20 ⟨(Nat.le_of_ble_eq_true rfl), (Nat.le_of_ble_eq_true rfl)⟩ [aJ G ps 2736 (f_X5_records_u v f u)] [oM a nw th ps sl hd pd od (f_X5_records_v v f u), aJ G nw 456 (f_X5_comes_f (f_X5_records_v v f u) f k y), aJ G ps 2736 (f_X5_records_u v f u)] (perm_idx [0, 1, 2] 3 rfl (by decide +kernel) rfl) rfl ?_
    subst hQ; exact j_iret C hr hk ((show f_X5_write_r v f u k y = f_X5_comes_r (f_X5_records_v v f u) f k y from (if_pos c8)).symm) (by rw [show f_X5_write_v v f u k y = f_X5_records_v v f u from (if_pos c8), show f_X5_write_f v f u k y = f_X5_comes_f (f_X5_records_v v f u) f k y from (if_pos c8), show f_X5_write_u v f u k y = f_X5_records_u v f u from (if_pos c8)]) dX5_write_23
  · refine j_iload_n C dX5_write_11 0 rfl ?_
    subst hQ; exact j_iret C hr hk ((show f_X5_write_r v f u k y = f_X5_mayWrite_r v f k y from (if_neg c8)).symm) (by rw [show f_X5_write_v v f u k y = v from (if_neg c8), show f_X5_write_f v f u k y = f from (if_neg c8), show f_X5_write_u v f u k y = u from (if_neg c8)]) dX5_write_12
noncomputable def f_X5_trades_x1 (v : Nat → Int32) (f : Nat → Int64) (k : Int32) (y : Int32) (q : Int32) : Int64 := (if q = 0 then 0 else 1)
noncomputable def f_X5_trades_rq2 (v : Nat → Int32) (f : Nat → Int64) (k : Int32) (y : Int32) (q : Int32) : Int32 := hrsA (vp_updL f ((56 + (100 * k)) + y).toNatClampNeg (f_X5_trades_x1 v f k y q)) k 0 100
noncomputable def f_X5_trades_f (v : Nat → Int32) (f : Nat → Int64) (k : Int32) (y : Int32) (q : Int32) : (Nat → Int64) := vp_updL f ((56 + (100 * k)) + y).toNatClampNeg (f_X5_trades_x1 v f k y q)
noncomputable def f_X5_trades_r (v : Nat → Int32) (f : Nat → Int64) (k : Int32) (y : Int32) (q : Int32) : Int32 := (f_X5_trades_rq2 v f k y q)
set_option maxRecDepth 100000 in
set_option maxHeartbeats 4000000 in
theorem m_X5_trades (l : Launch) (G : GG) (a nw th ps sl hd pd od : Nat) (v : Nat → Int32) (f : Nat → Int64) (k : Int32) (y : Int32) (q : Int32) (h4 : vp_in k 4) (hy : vp_in y 100) : CtI l yX5_trades cX5_trades 4 (some .int) (RM 3) G [.ref a, .int k, .int y, .int q] ([oM a nw th ps sl hd pd od v, aJ G nw 456 f]) (f_X5_trades_r v f k y q) ([oM a nw th ps sl hd pd od v, aJ G nw 456 (f_X5_trades_f v f k y q)]) := by
  refine ct_I RX5 [(0, .ref a), (1, .int k), (2, .int y), (3, .int q)] rfl (by decide +kernel) (Nat.le_of_ble_eq_true rfl) rfl ?_
  intro p e s m args below meth c A C hr hk hnm
  generalize hQ : (MQ below (PostI G A (f_X5_trades_r v f k y q) ([oM a nw th ps sl hd pd od v, aJ G nw 456 (f_X5_trades_f v f k y q)])) args s (RM 3).cells (RM 3).slots A) = Q
  refine j_aload_n C dX5_trades_0 0 rfl ?_
  refine j_get C kin5 rfl 0 rfl 0 (by decide) kw_489 rfl (v := .ref nw) rfl dX5_trades_1 ?_
  refine j_bipush (v := 56) C dX5_trades_4 (by decide) ?_
  refine j_bipush (v := 100) C dX5_trades_6 (by decide) ?_
  refine j_iload_n C dX5_trades_8 1 rfl ?_
  refine j_imul C dX5_trades_9 rfl ?_
  refine j_iadd C dX5_trades_10 rfl ?_
  refine j_iload_n C dX5_trades_11 2 rfl ?_
  refine j_iadd C dX5_trades_12 rfl ?_
  refine j_iload_n C dX5_trades_13 3 rfl ?_
  have K22 : WJ p l e (RM 3) s m args below meth c G A 4 0 0 Q ([oM a nw th ps sl hd pd od v, aJ G nw 456 f]) [(0, .ref a), (1, .int k), (2, .int y), (3, .int q)] 22 [.long (f_X5_trades_x1 v f k y q), .int ((56 + (100 * k)) + y), .ref nw] := by
    generalize hw0 : f_X5_trades_x1 v f k y q = w0
    refine j_last C 1 rfl (vin_hx h4 hy) ([oM a nw th ps sl hd pd od v, aJ G nw 456 (vp_updL f ((56 + (100 * k)) + y).toNatClampNeg w0)]) rfl dX5_trades_22 ?_
    refine j_aload_n C dX5_trades_23 0 rfl ?_
    refine j_iload_n C dX5_trades_24 1 rfl ?_
    refine j_iconst (v := 0) C dX5_trades_25 (by decide) ?_
    refine j_callV_i (r := hrsA (vp_updL f ((56 + (100 * k)) + y).toNatClampNeg w0) k 0 100) (wc' := [oM a nw th ps sl hd pd od v, aJ G nw 456 (vp_updL f ((56 + (100 * k)) + y).toNatClampNeg w0)]) C (m_X5_hoursOf l G a nw th ps sl hd pd od v (vp_updL f ((56 + (100 * k)) + y).toNatClampNeg w0) k 0 h4) rfl 0 rfl 2 (gV kw_587 kw_588 kw_778 kw_7 kw_589) (by decide +kernel) ⟨(Nat.le_of_ble_eq_true rfl), (Nat.le_of_ble_eq_true rfl)⟩ rfl rfl (Nat.le_of_ble_eq_true rfl) dX5_trades_26 ⟨(Nat.le_of_ble_eq_true rfl), (Nat.le_of_ble_eq_true rfl)⟩ [] [oM a nw th ps sl hd pd od v, aJ G nw 456 (vp_updL f ((56 + (100 * k)) + y).toNatClampNeg w0)] (perm_idx [0, 1] 2 rfl (by decide +kernel) rfl) rfl ?_
    generalize hzw1 : hrsA (vp_updL f ((56 + (100 * k)) + y).toNatClampNeg w0) k 0 100 = w1
    have hw1 : f_X5_trades_rq2 v f k y q = w1 := by subst hw0; subst hzw1; rfl
    subst hQ; subst hw0 hw1; exact j_iret C hr hk ((show f_X5_trades_r v f k y q = (f_X5_trades_rq2 v f k y q) from rfl).symm) (by rw [show f_X5_trades_f v f k y q = vp_updL f ((56 + (100 * k)) + y).toNatClampNeg (f_X5_trades_x1 v f k y q) from rfl]) dX5_trades_29
  refine j_if_eq (tgt := 21) C dX5_trades_14 (by decide) (fun c14 => ?_) (fun c14 => ?_)
  · refine j_lconst (v := 0) C dX5_trades_21 (by decide) ?_
    exact j_eq rfl rfl (by rw [show f_X5_trades_x1 v f k y q = 0 from (if_pos c14)]) K22
  · refine j_lconst (v := 1) C dX5_trades_17 (by decide) ?_
    refine j_goto (tgt := 22) C dX5_trades_18 (by decide) ?_
    exact j_eq rfl rfl (by rw [show f_X5_trades_x1 v f k y q = 1 from (if_neg c14)]) K22
noncomputable def f_X5_sell_v (v : Nat → Int32) (f : Nat → Int64) (u : Nat → Int64) (k : Int32) (y : Int32) : (Nat → Int32) := (if f_X5_mayTrade_r v f k y 1 = 0 then f_X5_records_v v f u else v)
noncomputable def f_X5_sell_f (v : Nat → Int32) (f : Nat → Int64) (u : Nat → Int64) (k : Int32) (y : Int32) : (Nat → Int64) := (if f_X5_mayTrade_r v f k y 1 = 0 then f_X5_trades_f (f_X5_records_v v f u) f k y 1 else f)
noncomputable def f_X5_sell_u (v : Nat → Int32) (f : Nat → Int64) (u : Nat → Int64) (k : Int32) (y : Int32) : (Nat → Int64) := (if f_X5_mayTrade_r v f k y 1 = 0 then f_X5_records_u v f u else u)
noncomputable def f_X5_sell_r (v : Nat → Int32) (f : Nat → Int64) (u : Nat → Int64) (k : Int32) (y : Int32) : Int32 := (if f_X5_mayTrade_r v f k y 1 = 0 then f_X5_trades_r (f_X5_records_v v f u) f k y 1 else f_X5_mayTrade_r v f k y 1)
set_option maxRecDepth 100000 in
set_option maxHeartbeats 4000000 in
theorem m_X5_sell (l : Launch) (G : GG) (a nw th ps sl hd pd od : Nat) (v : Nat → Int32) (f : Nat → Int64) (u : Nat → Int64) (k : Int32) (y : Int32) (h7 : vp_in (v 3) 7) : CtI l yX5_sell cX5_sell 4 (some .int) (RM 4) G [.ref a, .int k, .int y] ([oM a nw th ps sl hd pd od v, aJ G nw 456 f, aJ G ps 2736 u]) (f_X5_sell_r v f u k y) ([oM a nw th ps sl hd pd od (f_X5_sell_v v f u k y), aJ G nw 456 (f_X5_sell_f v f u k y), aJ G ps 2736 (f_X5_sell_u v f u k y)]) := by
  refine ct_I RX5 [(0, .ref a), (1, .int k), (2, .int y)] rfl (by decide +kernel) (Nat.le_of_ble_eq_true rfl) rfl ?_
  intro p e s m args below meth c A C hr hk hnm
  generalize hQ : (MQ below (PostI G A (f_X5_sell_r v f u k y) ([oM a nw th ps sl hd pd od (f_X5_sell_v v f u k y), aJ G nw 456 (f_X5_sell_f v f u k y), aJ G ps 2736 (f_X5_sell_u v f u k y)])) args s (RM 4).cells (RM 4).slots A) = Q
  refine j_aload_n C dX5_sell_0 0 rfl ?_
  refine j_iload_n C dX5_sell_1 1 rfl ?_
  refine j_iload_n C dX5_sell_2 2 rfl ?_
  refine j_iconst (v := 1) C dX5_sell_3 (by decide) ?_
  refine j_callV_i (r := f_X5_mayTrade_r v f k y 1) (wc' := [oM a nw th ps sl hd pd od v, aJ G nw 456 f]) C (m_X5_mayTrade l G a nw th ps sl hd pd od v f k y 1) rfl 0 rfl 3 (gV kw_574 kw_575 kw_776 kw_7 kw_576) (by decide +kernel) ⟨(Nat.le_of_ble_eq_true rfl), (Nat.le_of_ble_eq_true rfl)⟩ rfl rfl (Nat.le_of_ble_eq_true rfl) dX5_sell_4 ⟨(Nat.le_of_ble_eq_true rfl), (Nat.le_of_ble_eq_true rfl)⟩ [aJ G ps 2736 u] [oM a nw th ps sl hd pd od v, aJ G nw 456 f, aJ G ps 2736 u] (perm_idx [0, 1, 2] 3 rfl (by decide +kernel) rfl) rfl ?_
  refine j_istore_n C [(3, .int (f_X5_mayTrade_r v f k y 1)), (0, .ref a), (1, .int k), (2, .int y)] dX5_sell_7 (by decide) rfl ?_
  refine j_iload_n C dX5_sell_8 0 rfl ?_
  refine j_if_eq (tgt := 14) C dX5_sell_9 (by decide) (fun c9 => ?_) (fun c9 => ?_)
  · refine j_aload_n C dX5_sell_14 1 rfl ?_
    refine j_callV_v (wc' := [oM a nw th ps sl hd pd od (f_X5_records_v v f u), aJ G nw 456 f, aJ G ps 2736 (f_X5_records_u v f u)]) C (m_X5_records l G a nw th ps sl hd pd od v f u h7) rfl 0 rfl 0 (gV kw_530 kw_531 kw_771 kw_7 kw_532) (by decide +kernel) ⟨(Nat.le_of_ble_eq_true rfl), (Nat.le_of_ble_eq_true rfl)⟩ rfl rfl (Nat.le_of_ble_eq_true rfl) dX5_sell_15 ⟨(Nat.le_of_ble_eq_true rfl), (Nat.le_of_ble_eq_true rfl)⟩ [] [oM a nw th ps sl hd pd od (f_X5_records_v v f u), aJ G nw 456 f, aJ G ps 2736 (f_X5_records_u v f u)] (perm_idx [0, 1, 2] 3 rfl (by decide +kernel) rfl) rfl ?_
    refine j_aload_n C dX5_sell_18 1 rfl ?_
    refine j_iload_n C dX5_sell_19 2 rfl ?_
    refine j_iload_n C dX5_sell_20 3 rfl ?_
    refine j_iconst (v := 1) C dX5_sell_21 (by decide) ?_
    refine j_callV_i (r := f_X5_trades_r (f_X5_records_v v f u) f k y 1) (wc' := [oM a nw th ps sl hd pd od (f_X5_records_v v f u), aJ G nw 456 (f_X5_trades_f (f_X5_records_v v f u) f k y 1)]) C (m_X5_trades l G a nw th ps sl hd pd od (f_X5_records_v v f u) f k y 1 ((trade_ok c9).1) ((trade_ok c9).2)) rfl 0 rfl 3 (gV kw_584 kw_585 kw_777 kw_7 kw_586) (by decide +kernel) ⟨(Nat.le_of_ble_eq_true rfl), (Nat.le_of_ble_eq_true rfl)⟩ rfl rfl (Nat.le_of_ble_eq_true rfl) dX5_sell_22 ⟨(Nat.le_of_ble_eq_true rfl), (Nat.le_of_ble_eq_true rfl)⟩ [aJ G ps 2736 (f_X5_records_u v f u)] [oM a nw th ps sl hd pd od (f_X5_records_v v f u), aJ G nw 456 (f_X5_trades_f (f_X5_records_v v f u) f k y 1), aJ G ps 2736 (f_X5_records_u v f u)] (perm_idx [0, 1, 2] 3 rfl (by decide +kernel) rfl) rfl ?_
    subst hQ; exact j_iret C hr hk ((show f_X5_sell_r v f u k y = f_X5_trades_r (f_X5_records_v v f u) f k y 1 from (if_pos c9)).symm) (by rw [show f_X5_sell_v v f u k y = f_X5_records_v v f u from (if_pos c9), show f_X5_sell_f v f u k y = f_X5_trades_f (f_X5_records_v v f u) f k y 1 from (if_pos c9), show f_X5_sell_u v f u k y = f_X5_records_u v f u from (if_pos c9)]) dX5_sell_25
  · refine j_iload_n C dX5_sell_12 0 rfl ?_
    subst hQ; exact j_iret C hr hk ((show f_X5_sell_r v f u k y = f_X5_mayTrade_r v f k y 1 from (if_neg c9)).symm) (by rw [show f_X5_sell_v v f u k y = v from (if_neg c9), show f_X5_sell_f v f u k y = f from (if_neg c9), show f_X5_sell_u v f u k y = u from (if_neg c9)]) dX5_sell_13
noncomputable def f_X5_giveBack_v (v : Nat → Int32) (f : Nat → Int64) (u : Nat → Int64) (k : Int32) (y : Int32) : (Nat → Int32) := (if f_X5_mayTrade_r v f k y 0 = 0 then f_X5_records_v v f u else v)
noncomputable def f_X5_giveBack_f (v : Nat → Int32) (f : Nat → Int64) (u : Nat → Int64) (k : Int32) (y : Int32) : (Nat → Int64) := (if f_X5_mayTrade_r v f k y 0 = 0 then f_X5_trades_f (f_X5_records_v v f u) f k y 0 else f)
noncomputable def f_X5_giveBack_u (v : Nat → Int32) (f : Nat → Int64) (u : Nat → Int64) (k : Int32) (y : Int32) : (Nat → Int64) := (if f_X5_mayTrade_r v f k y 0 = 0 then f_X5_records_u v f u else u)
noncomputable def f_X5_giveBack_r (v : Nat → Int32) (f : Nat → Int64) (u : Nat → Int64) (k : Int32) (y : Int32) : Int32 := (if f_X5_mayTrade_r v f k y 0 = 0 then f_X5_trades_r (f_X5_records_v v f u) f k y 0 else f_X5_mayTrade_r v f k y 0)
set_option maxRecDepth 100000 in
set_option maxHeartbeats 4000000 in
theorem m_X5_giveBack (l : Launch) (G : GG) (a nw th ps sl hd pd od : Nat) (v : Nat → Int32) (f : Nat → Int64) (u : Nat → Int64) (k : Int32) (y : Int32) (h7 : vp_in (v 3) 7) : CtI l yX5_giveBack cX5_giveBack 4 (some .int) (RM 4) G [.ref a, .int k, .int y] ([oM a nw th ps sl hd pd od v, aJ G nw 456 f, aJ G ps 2736 u]) (f_X5_giveBack_r v f u k y) ([oM a nw th ps sl hd pd od (f_X5_giveBack_v v f u k y), aJ G nw 456 (f_X5_giveBack_f v f u k y), aJ G ps 2736 (f_X5_giveBack_u v f u k y)]) := by
  refine ct_I RX5 [(0, .ref a), (1, .int k), (2, .int y)] rfl (by decide +kernel) (Nat.le_of_ble_eq_true rfl) rfl ?_
  intro p e s m args below meth c A C hr hk hnm
  generalize hQ : (MQ below (PostI G A (f_X5_giveBack_r v f u k y) ([oM a nw th ps sl hd pd od (f_X5_giveBack_v v f u k y), aJ G nw 456 (f_X5_giveBack_f v f u k y), aJ G ps 2736 (f_X5_giveBack_u v f u k y)])) args s (RM 4).cells (RM 4).slots A) = Q
  refine j_aload_n C dX5_giveBack_0 0 rfl ?_
  refine j_iload_n C dX5_giveBack_1 1 rfl ?_
  refine j_iload_n C dX5_giveBack_2 2 rfl ?_
  refine j_iconst (v := 0) C dX5_giveBack_3 (by decide) ?_
  refine j_callV_i (r := f_X5_mayTrade_r v f k y 0) (wc' := [oM a nw th ps sl hd pd od v, aJ G nw 456 f]) C (m_X5_mayTrade l G a nw th ps sl hd pd od v f k y 0) rfl 0 rfl 3 (gV kw_574 kw_575 kw_776 kw_7 kw_576) (by decide +kernel) ⟨(Nat.le_of_ble_eq_true rfl), (Nat.le_of_ble_eq_true rfl)⟩ rfl rfl (Nat.le_of_ble_eq_true rfl) dX5_giveBack_4 ⟨(Nat.le_of_ble_eq_true rfl), (Nat.le_of_ble_eq_true rfl)⟩ [aJ G ps 2736 u] [oM a nw th ps sl hd pd od v, aJ G nw 456 f, aJ G ps 2736 u] (perm_idx [0, 1, 2] 3 rfl (by decide +kernel) rfl) rfl ?_
  refine j_istore_n C [(3, .int (f_X5_mayTrade_r v f k y 0)), (0, .ref a), (1, .int k), (2, .int y)] dX5_giveBack_7 (by decide) rfl ?_
  refine j_iload_n C dX5_giveBack_8 0 rfl ?_
  refine j_if_eq (tgt := 14) C dX5_giveBack_9 (by decide) (fun c9 => ?_) (fun c9 => ?_)
  · refine j_aload_n C dX5_giveBack_14 1 rfl ?_
    refine j_callV_v (wc' := [oM a nw th ps sl hd pd od (f_X5_records_v v f u), aJ G nw 456 f, aJ G ps 2736 (f_X5_records_u v f u)]) C (m_X5_records l G a nw th ps sl hd pd od v f u h7) rfl 0 rfl 0 (gV kw_530 kw_531 kw_771 kw_7 kw_532) (by decide +kernel) ⟨(Nat.le_of_ble_eq_true rfl), (Nat.le_of_ble_eq_true rfl)⟩ rfl rfl (Nat.le_of_ble_eq_true rfl) dX5_giveBack_15 ⟨(Nat.le_of_ble_eq_true rfl), (Nat.le_of_ble_eq_true rfl)⟩ [] [oM a nw th ps sl hd pd od (f_X5_records_v v f u), aJ G nw 456 f, aJ G ps 2736 (f_X5_records_u v f u)] (perm_idx [0, 1, 2] 3 rfl (by decide +kernel) rfl) rfl ?_
    refine j_aload_n C dX5_giveBack_18 1 rfl ?_
    refine j_iload_n C dX5_giveBack_19 2 rfl ?_
    refine j_iload_n C dX5_giveBack_20 3 rfl ?_
    refine j_iconst (v := 0) C dX5_giveBack_21 (by decide) ?_
    refine j_callV_i (r := f_X5_trades_r (f_X5_records_v v f u) f k y 0) (wc' := [oM a nw th ps sl hd pd od (f_X5_records_v v f u), aJ G nw 456 (f_X5_trades_f (f_X5_records_v v f u) f k y 0)]) C (m_X5_trades l G a nw th ps sl hd pd od (f_X5_records_v v f u) f k y 0 ((trade_ok c9).1) ((trade_ok c9).2)) rfl 0 rfl 3 (gV kw_584 kw_585 kw_777 kw_7 kw_586) (by decide +kernel) ⟨(Nat.le_of_ble_eq_true rfl), (Nat.le_of_ble_eq_true rfl)⟩ rfl rfl (Nat.le_of_ble_eq_true rfl) dX5_giveBack_22 ⟨(Nat.le_of_ble_eq_true rfl), (Nat.le_of_ble_eq_true rfl)⟩ [aJ G ps 2736 (f_X5_records_u v f u)] [oM a nw th ps sl hd pd od (f_X5_records_v v f u), aJ G nw 456 (f_X5_trades_f (f_X5_records_v v f u) f k y 0), aJ G ps 2736 (f_X5_records_u v f u)] (perm_idx [0, 1, 2] 3 rfl (by decide +kernel) rfl) rfl ?_
    subst hQ; exact j_iret C hr hk ((show f_X5_giveBack_r v f u k y = f_X5_trades_r (f_X5_records_v v f u) f k y 0 from (if_pos c9)).symm) (by rw [show f_X5_giveBack_v v f u k y = f_X5_records_v v f u from (if_pos c9), show f_X5_giveBack_f v f u k y = f_X5_trades_f (f_X5_records_v v f u) f k y 0 from (if_pos c9), show f_X5_giveBack_u v f u k y = f_X5_records_u v f u from (if_pos c9)]) dX5_giveBack_25
  · refine j_iload_n C dX5_giveBack_12 0 rfl ?_
    subst hQ; exact j_iret C hr hk ((show f_X5_giveBack_r v f u k y = f_X5_mayTrade_r v f k y 0 from (if_neg c9)).symm) (by rw [show f_X5_giveBack_v v f u k y = v from (if_neg c9), show f_X5_giveBack_f v f u k y = f from (if_neg c9), show f_X5_giveBack_u v f u k y = u from (if_neg c9)]) dX5_giveBack_13
