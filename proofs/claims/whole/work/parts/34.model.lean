/-! THE MODEL: history and slots -/
theorem vin_undo {k : Int32} (h : vp_in k 7) (h0 : ¬ k = 0) : vp_in (k - 1) 6 := by
  obtain ⟨j, hj, rfl⟩ := vp_in_of h (by decide)
  rcases (show j = 0 ∨ j = 1 ∨ j = 2 ∨ j = 3 ∨ j = 4 ∨ j = 5 ∨ j = 6 by omega) with rfl | rfl | rfl | rfl | rfl | rfl | rfl
  · exact absurd (by decide) h0
  all_goals exact vin_lit (by decide)
theorem vin_slot5 {k : Int32} (h : ¬ f_X5_in_r k.toInt64 0 1 = 0) : vp_in k 2 := by
  unfold f_X5_in_r f_X5_in_x1 at h
  by_cases c3 : lg_cmp k.toInt64 0 < 0
  · rw [if_pos c3] at h
    exact absurd rfl h
  · rw [if_neg c3] at h
    by_cases c11 : 0 < lg_cmp k.toInt64 1
    · rw [if_pos c11] at h
      exact absurd rfl h
    · have h0 := mt (lg_cmp_lt k.toInt64 0).mpr c3
      have h1 := Int64.not_lt.mp (mt (lg_cmp_gt k.toInt64 1).mpr c11)
      have h0 : (0 : Int) ≤ k.toInt64.toInt := by simpa using Int64.le_iff_toInt_le.mp (Int64.not_lt.mp h0)
      have h1 : k.toInt64.toInt ≤ 1 := by simpa using Int64.le_iff_toInt_le.mp h1
      rw [Int32.toInt_toInt64] at h0 h1
      exact vp_in_iff.mpr ⟨h0, by omega⟩
theorem vin_sl {k : Int32} (h : vp_in k 2) {i : Nat} (hi : i < 456) : vp_in (456 * k + nI i) 912 := by
  obtain ⟨j, hj, rfl⟩ := vp_in_of h (by decide)
  rcases (show j = 0 ∨ j = 1 by omega) with rfl | rfl
  · exact vin_add (c := 0) (by decide) (by omega) (by decide) (by omega)
  · exact vin_add (c := 456) (by decide) (by omega) (by decide) (by omega)
noncomputable def f_X5_undo_v (v : Nat → Int32) (f : Nat → Int64) (u : Nat → Int64) : (Nat → Int32) := (if v 3 = 0 then v else upd v 3 ((v 3) - 1))
noncomputable def f_X5_undo_f (v : Nat → Int32) (f : Nat → Int64) (u : Nat → Int64) : (Nat → Int64) := (if v 3 = 0 then f else lay u (456 * ((v 3) - 1)) f 0 456)
noncomputable def f_X5_undo_r (v : Nat → Int32) (f : Nat → Int64) (u : Nat → Int64) : Int32 := (if v 3 = 0 then (-5) else ((v 3) - 1))
set_option maxRecDepth 100000 in
set_option maxHeartbeats 4000000 in
theorem m_X5_undo (l : Launch) (G : GG) (a nw th ps sl hd pd od : Nat) (v : Nat → Int32) (f : Nat → Int64) (u : Nat → Int64) (h7 : vp_in (v 3) 7) : CtI l yX5_undo cX5_undo 1 (some .int) (RM 1) G [.ref a] ([oM a nw th ps sl hd pd od v, aJ G nw 456 f, aJ G ps 2736 u]) (f_X5_undo_r v f u) ([oM a nw th ps sl hd pd od (f_X5_undo_v v f u), aJ G nw 456 (f_X5_undo_f v f u), aJ G ps 2736 u]) := by
  refine ct_I RX5 [(0, .ref a)] rfl (by decide +kernel) (Nat.le_of_ble_eq_true rfl) rfl ?_
  intro p e s m args below meth c A C hr hk hnm
  generalize hQ : (MQ below (PostI G A (f_X5_undo_r v f u) ([oM a nw th ps sl hd pd od (f_X5_undo_v v f u), aJ G nw 456 (f_X5_undo_f v f u), aJ G ps 2736 u])) args s (RM 1).cells (RM 1).slots A) = Q
  refine j_aload_n C dX5_undo_0 0 rfl ?_
  refine j_get C kin5 rfl 0 rfl 3 (by decide) kw_492 rfl (v := .int (v 3)) rfl dX5_undo_1 ?_
  refine j_if_ne (tgt := 10) C dX5_undo_4 (by decide) (fun c4 => ?_) (fun c4 => ?_)
  · refine j_aload_n C dX5_undo_10 0 rfl ?_
    refine j_dup C dX5_undo_11 rfl ?_
    refine j_get C kin5 rfl 0 rfl 3 (by decide) kw_492 rfl (v := .int (v 3)) rfl dX5_undo_12 ?_
    refine j_iconst (v := 1) C dX5_undo_15 (by decide) ?_
    refine j_isub C dX5_undo_16 rfl ?_
    generalize hw0 : (v 3) - 1 = w0
    refine j_put C kin5 rfl 0 rfl 3 (by decide) kw_492 rfl tyX5 tyX5_ok nmX5 rfl rfl rfl (Nat.le_of_ble_eq_true rfl) ([oM a nw th ps sl hd pd od (upd v 3 w0), aJ G nw 456 f, aJ G ps 2736 u]) rfl dX5_undo_17 ?_
    refine j_aload_n C dX5_undo_20 0 rfl ?_
    refine j_get C kin5 rfl 0 rfl 2 (by decide) kw_491 rfl (v := .ref ps) rfl dX5_undo_21 ?_
    refine j_sipush (v := 456) C dX5_undo_24 (by decide) ?_
    refine j_aload_n C dX5_undo_27 0 rfl ?_
    refine j_get C kin5 rfl 0 rfl 3 (by decide) kw_492 rfl (v := .int w0) rfl dX5_undo_28 ?_
    refine j_imul C dX5_undo_31 rfl ?_
    refine j_aload_n C dX5_undo_32 0 rfl ?_
    refine j_get C kin5 rfl 0 rfl 0 (by decide) kw_489 rfl (v := .ref nw) rfl dX5_undo_33 ?_
    refine j_iconst (v := 0) C dX5_undo_36 (by decide) ?_
    refine j_callS_v (wc' := [aJ G ps 2736 u, aJ G nw 456 (lay u (456 * w0) f 0 456)]) C (m_X5_lays l G ps nw 2736 456 u (456 * w0) f 0 (fun _ hi => by subst hw0; exact vin_rec (k := v 3 - 1) (vin_undo h7 c4) hi) (fun _ hi => vin_add (c := 0) rfl (by omega) (by decide) (by omega))) 4 (gS kw_516 kw_517 kw_7 kw_518) (by decide +kernel) ⟨(Nat.le_of_ble_eq_true rfl), (Nat.le_of_ble_eq_true rfl)⟩ rfl rfl (Nat.le_of_ble_eq_true rfl) dX5_undo_37 ⟨(Nat.le_of_ble_eq_true rfl), (Nat.le_of_ble_eq_true rfl)⟩ [oM a nw th ps sl hd pd od (upd v 3 w0)] [aJ G ps 2736 u, aJ G nw 456 (lay u (456 * w0) f 0 456), oM a nw th ps sl hd pd od (upd v 3 w0)] (perm_idx [2, 1, 0] 3 rfl (by decide +kernel) rfl) rfl ?_
    refine j_aload_n C dX5_undo_40 0 rfl ?_
    refine j_get C kin5 rfl 2 rfl 3 (by decide) kw_492 rfl (v := .int w0) rfl dX5_undo_41 ?_
    refine j_perm ([oM a nw th ps sl hd pd od (upd v 3 w0), aJ G nw 456 (lay u (456 * w0) f 0 456), aJ G ps 2736 u]) (perm_idx [2, 1, 0] 3 rfl (by decide +kernel) rfl) ?_
    subst hQ; subst hw0; exact j_iret C hr hk ((show f_X5_undo_r v f u = ((v 3) - 1) from (if_neg c4)).symm) (by rw [show f_X5_undo_v v f u = upd v 3 ((v 3) - 1) from (if_neg c4), show f_X5_undo_f v f u = lay u (456 * ((v 3) - 1)) f 0 456 from (if_neg c4)]) dX5_undo_44
  · refine j_bipush (v := (-5)) C dX5_undo_7 (by decide) ?_
    subst hQ; exact j_iret C hr hk ((show f_X5_undo_r v f u = (-5) from (if_pos c4)).symm) (by rw [show f_X5_undo_v v f u = v from (if_pos c4), show f_X5_undo_f v f u = f from (if_pos c4)]) dX5_undo_9
noncomputable def f_X5_save_z (v : Nat → Int32) (f : Nat → Int64) (z : Nat → Int64) (w : Nat → Int32) (k : Int32) : (Nat → Int64) := (if f_X5_in_r k.toInt64 0 1 = 0 then z else lay f 0 z (456 * k) 456)
noncomputable def f_X5_save_w (v : Nat → Int32) (f : Nat → Int64) (z : Nat → Int64) (w : Nat → Int32) (k : Int32) : (Nat → Int32) := (if f_X5_in_r k.toInt64 0 1 = 0 then w else upd w k.toNatClampNeg 1)
noncomputable def f_X5_save_r (v : Nat → Int32) (f : Nat → Int64) (z : Nat → Int64) (w : Nat → Int32) (k : Int32) : Int32 := (if f_X5_in_r k.toInt64 0 1 = 0 then (-2) else (f 0).toInt32)
set_option maxRecDepth 100000 in
set_option maxHeartbeats 4000000 in
theorem m_X5_save (l : Launch) (G : GG) (a nw th ps sl hd pd od : Nat) (v : Nat → Int32) (f : Nat → Int64) (z : Nat → Int64) (w : Nat → Int32) (k : Int32)  : CtI l yX5_save cX5_save 2 (some .int) (RM 1) G [.ref a, .int k] ([oM a nw th ps sl hd pd od v, aJ G nw 456 f, aJ G sl 912 z, aZ G hd 2 w]) (f_X5_save_r v f z w k) ([oM a nw th ps sl hd pd od v, aJ G nw 456 f, aJ G sl 912 (f_X5_save_z v f z w k), aZ G hd 2 (f_X5_save_w v f z w k)]) := by
  refine ct_I RX5 [(0, .ref a), (1, .int k)] rfl (by decide +kernel) (Nat.le_of_ble_eq_true rfl) rfl ?_
  intro p e s m args below meth c A C hr hk hnm
  generalize hQ : (MQ below (PostI G A (f_X5_save_r v f z w k) ([oM a nw th ps sl hd pd od v, aJ G nw 456 f, aJ G sl 912 (f_X5_save_z v f z w k), aZ G hd 2 (f_X5_save_w v f z w k)])) args s (RM 1).cells (RM 1).slots A) = Q
  refine j_iload_n C dX5_save_0 1 rfl ?_
  refine j_i2l C dX5_save_1 rfl ?_
  refine j_lconst (v := 0) C dX5_save_2 (by decide) ?_
  refine j_lconst (v := 1) C dX5_save_3 (by decide) ?_
  refine j_pureS_i (r := f_X5_in_r k.toInt64 0 1) C (m_X5_in l G k.toInt64 0 1) 3 (gS kw_523 kw_524 kw_7 kw_525) (by decide +kernel) ⟨(Nat.le_of_ble_eq_true rfl), (Nat.le_of_ble_eq_true rfl)⟩ rfl rfl (Nat.le_of_ble_eq_true rfl) dX5_save_4 ⟨(Nat.le_of_ble_eq_true rfl), (Nat.le_of_ble_eq_true rfl)⟩ ?_
  refine j_if_ne (tgt := 13) C dX5_save_7 (by decide) (fun c7 => ?_) (fun c7 => ?_)
  · refine j_aload_n C dX5_save_13 0 rfl ?_
    refine j_get C kin5 rfl 0 rfl 0 (by decide) kw_489 rfl (v := .ref nw) rfl dX5_save_14 ?_
    refine j_iconst (v := 0) C dX5_save_17 (by decide) ?_
    refine j_aload_n C dX5_save_18 0 rfl ?_
    refine j_get C kin5 rfl 0 rfl 4 (by decide) kw_493 rfl (v := .ref sl) rfl dX5_save_19 ?_
    refine j_sipush (v := 456) C dX5_save_22 (by decide) ?_
    refine j_iload_n C dX5_save_25 1 rfl ?_
    refine j_imul C dX5_save_26 rfl ?_
    refine j_callS_v (wc' := [aJ G nw 456 f, aJ G sl 912 (lay f 0 z (456 * k) 456)]) C (m_X5_lays l G nw sl 456 912 f 0 z (456 * k) (fun _ hi => vin_add (c := 0) rfl (by omega) (by decide) (by omega)) (fun _ hi => vin_sl (vin_slot5 c7) hi)) 4 (gS kw_516 kw_517 kw_7 kw_518) (by decide +kernel) ⟨(Nat.le_of_ble_eq_true rfl), (Nat.le_of_ble_eq_true rfl)⟩ rfl rfl (Nat.le_of_ble_eq_true rfl) dX5_save_27 ⟨(Nat.le_of_ble_eq_true rfl), (Nat.le_of_ble_eq_true rfl)⟩ [oM a nw th ps sl hd pd od v, aZ G hd 2 w] [aJ G nw 456 f, aJ G sl 912 (lay f 0 z (456 * k) 456), oM a nw th ps sl hd pd od v, aZ G hd 2 w] (perm_idx [1, 2, 0, 3] 4 rfl (by decide +kernel) rfl) rfl ?_
    refine j_aload_n C dX5_save_30 0 rfl ?_
    refine j_get C kin5 rfl 2 rfl 5 (by decide) kw_494 rfl (v := .ref hd) rfl dX5_save_31 ?_
    refine j_iload_n C dX5_save_34 1 rfl ?_
    refine j_iconst (v := 1) C dX5_save_35 (by decide) ?_
    refine j_zast C 3 rfl (vin_slot5 c7) ([aJ G nw 456 f, aJ G sl 912 (lay f 0 z (456 * k) 456), oM a nw th ps sl hd pd od v, aZ G hd 2 (upd w k.toNatClampNeg 1)]) rfl dX5_save_36 ?_
    refine j_aload_n C dX5_save_37 0 rfl ?_
    refine j_get C kin5 rfl 2 rfl 0 (by decide) kw_489 rfl (v := .ref nw) rfl dX5_save_38 ?_
    refine j_iconst (v := 0) C dX5_save_41 (by decide) ?_
    refine j_lald C 0 rfl (vin_lit rfl) (v := f 0) rfl dX5_save_42 ?_
    refine j_l2i C dX5_save_43 rfl ?_
    refine j_perm ([oM a nw th ps sl hd pd od v, aJ G nw 456 f, aJ G sl 912 (lay f 0 z (456 * k) 456), aZ G hd 2 (upd w k.toNatClampNeg 1)]) (perm_idx [2, 0, 1, 3] 4 rfl (by decide +kernel) rfl) ?_
    subst hQ; exact j_iret C hr hk ((show f_X5_save_r v f z w k = (f 0).toInt32 from (if_neg c7)).symm) (by rw [show f_X5_save_z v f z w k = lay f 0 z (456 * k) 456 from (if_neg c7), show f_X5_save_w v f z w k = upd w k.toNatClampNeg 1 from (if_neg c7)]) dX5_save_44
  · refine j_bipush (v := (-2)) C dX5_save_10 (by decide) ?_
    subst hQ; exact j_iret C hr hk ((show f_X5_save_r v f z w k = (-2) from (if_pos c7)).symm) (by rw [show f_X5_save_z v f z w k = z from (if_pos c7), show f_X5_save_w v f z w k = w from (if_pos c7)]) dX5_save_12
noncomputable def f_X5_restore_v (v : Nat → Int32) (f : Nat → Int64) (u : Nat → Int64) (z : Nat → Int64) (w : Nat → Int32) (k : Int32) : (Nat → Int32) := (if f_X5_in_r k.toInt64 0 1 = 0 then v else (if w k.toNatClampNeg = 0 then v else f_X5_records_v v f u))
noncomputable def f_X5_restore_f (v : Nat → Int32) (f : Nat → Int64) (u : Nat → Int64) (z : Nat → Int64) (w : Nat → Int32) (k : Int32) : (Nat → Int64) := (if f_X5_in_r k.toInt64 0 1 = 0 then f else (if w k.toNatClampNeg = 0 then f else lay z (456 * k) f 0 456))
noncomputable def f_X5_restore_u (v : Nat → Int32) (f : Nat → Int64) (u : Nat → Int64) (z : Nat → Int64) (w : Nat → Int32) (k : Int32) : (Nat → Int64) := (if f_X5_in_r k.toInt64 0 1 = 0 then u else (if w k.toNatClampNeg = 0 then u else f_X5_records_u v f u))
noncomputable def f_X5_restore_r (v : Nat → Int32) (f : Nat → Int64) (u : Nat → Int64) (z : Nat → Int64) (w : Nat → Int32) (k : Int32) : Int32 := (if f_X5_in_r k.toInt64 0 1 = 0 then (-2) else (if w k.toNatClampNeg = 0 then (-5) else ((lay z (456 * k) f 0 456) 0).toInt32))
set_option maxRecDepth 100000 in
set_option maxHeartbeats 4000000 in
theorem m_X5_restore (l : Launch) (G : GG) (a nw th ps sl hd pd od : Nat) (v : Nat → Int32) (f : Nat → Int64) (u : Nat → Int64) (z : Nat → Int64) (w : Nat → Int32) (k : Int32) (h7 : vp_in (v 3) 7) : CtI l yX5_restore cX5_restore 2 (some .int) (RM 2) G [.ref a, .int k] ([oM a nw th ps sl hd pd od v, aJ G nw 456 f, aJ G ps 2736 u, aJ G sl 912 z, aZ G hd 2 w]) (f_X5_restore_r v f u z w k) ([oM a nw th ps sl hd pd od (f_X5_restore_v v f u z w k), aJ G nw 456 (f_X5_restore_f v f u z w k), aJ G ps 2736 (f_X5_restore_u v f u z w k), aJ G sl 912 z, aZ G hd 2 w]) := by
  refine ct_I RX5 [(0, .ref a), (1, .int k)] rfl (by decide +kernel) (Nat.le_of_ble_eq_true rfl) rfl ?_
  intro p e s m args below meth c A C hr hk hnm
  generalize hQ : (MQ below (PostI G A (f_X5_restore_r v f u z w k) ([oM a nw th ps sl hd pd od (f_X5_restore_v v f u z w k), aJ G nw 456 (f_X5_restore_f v f u z w k), aJ G ps 2736 (f_X5_restore_u v f u z w k), aJ G sl 912 z, aZ G hd 2 w])) args s (RM 2).cells (RM 2).slots A) = Q
  refine j_iload_n C dX5_restore_0 1 rfl ?_
  refine j_i2l C dX5_restore_1 rfl ?_
  refine j_lconst (v := 0) C dX5_restore_2 (by decide) ?_
  refine j_lconst (v := 1) C dX5_restore_3 (by decide) ?_
  refine j_pureS_i (r := f_X5_in_r k.toInt64 0 1) C (m_X5_in l G k.toInt64 0 1) 3 (gS kw_523 kw_524 kw_7 kw_525) (by decide +kernel) ⟨(Nat.le_of_ble_eq_true rfl), (Nat.le_of_ble_eq_true rfl)⟩ rfl rfl (Nat.le_of_ble_eq_true rfl) dX5_restore_4 ⟨(Nat.le_of_ble_eq_true rfl), (Nat.le_of_ble_eq_true rfl)⟩ ?_
  refine j_if_ne (tgt := 13) C dX5_restore_7 (by decide) (fun c7 => ?_) (fun c7 => ?_)
  · refine j_aload_n C dX5_restore_13 0 rfl ?_
    refine j_get C kin5 rfl 0 rfl 5 (by decide) kw_494 rfl (v := .ref hd) rfl dX5_restore_14 ?_
    refine j_iload_n C dX5_restore_17 1 rfl ?_
    refine j_zald C 4 rfl (vin_slot5 c7) (v := w k.toNatClampNeg) rfl dX5_restore_18 ?_
    refine j_if_ne (tgt := 25) C dX5_restore_19 (by decide) (fun c19 => ?_) (fun c19 => ?_)
    · refine j_aload_n C dX5_restore_25 0 rfl ?_
      refine j_callV_v (wc' := [oM a nw th ps sl hd pd od (f_X5_records_v v f u), aJ G nw 456 f, aJ G ps 2736 (f_X5_records_u v f u)]) C (m_X5_records l G a nw th ps sl hd pd od v f u h7) rfl 0 rfl 0 (gV kw_530 kw_531 kw_771 kw_7 kw_532) (by decide +kernel) ⟨(Nat.le_of_ble_eq_true rfl), (Nat.le_of_ble_eq_true rfl)⟩ rfl rfl (Nat.le_of_ble_eq_true rfl) dX5_restore_26 ⟨(Nat.le_of_ble_eq_true rfl), (Nat.le_of_ble_eq_true rfl)⟩ [aJ G sl 912 z, aZ G hd 2 w] [oM a nw th ps sl hd pd od (f_X5_records_v v f u), aJ G nw 456 f, aJ G ps 2736 (f_X5_records_u v f u), aJ G sl 912 z, aZ G hd 2 w] (perm_idx [0, 1, 2, 3, 4] 5 rfl (by decide +kernel) rfl) rfl ?_
      refine j_aload_n C dX5_restore_29 0 rfl ?_
      refine j_get C kin5 rfl 0 rfl 4 (by decide) kw_493 rfl (v := .ref sl) rfl dX5_restore_30 ?_
      refine j_sipush (v := 456) C dX5_restore_33 (by decide) ?_
      refine j_iload_n C dX5_restore_36 1 rfl ?_
      refine j_imul C dX5_restore_37 rfl ?_
      refine j_aload_n C dX5_restore_38 0 rfl ?_
      refine j_get C kin5 rfl 0 rfl 0 (by decide) kw_489 rfl (v := .ref nw) rfl dX5_restore_39 ?_
      refine j_iconst (v := 0) C dX5_restore_42 (by decide) ?_
      refine j_callS_v (wc' := [aJ G sl 912 z, aJ G nw 456 (lay z (456 * k) f 0 456)]) C (m_X5_lays l G sl nw 912 456 z (456 * k) f 0 (fun _ hi => vin_sl (vin_slot5 c7) hi) (fun _ hi => vin_add (c := 0) rfl (by omega) (by decide) (by omega))) 4 (gS kw_516 kw_517 kw_7 kw_518) (by decide +kernel) ⟨(Nat.le_of_ble_eq_true rfl), (Nat.le_of_ble_eq_true rfl)⟩ rfl rfl (Nat.le_of_ble_eq_true rfl) dX5_restore_43 ⟨(Nat.le_of_ble_eq_true rfl), (Nat.le_of_ble_eq_true rfl)⟩ [oM a nw th ps sl hd pd od (f_X5_records_v v f u), aJ G ps 2736 (f_X5_records_u v f u), aZ G hd 2 w] [aJ G sl 912 z, aJ G nw 456 (lay z (456 * k) f 0 456), oM a nw th ps sl hd pd od (f_X5_records_v v f u), aJ G ps 2736 (f_X5_records_u v f u), aZ G hd 2 w] (perm_idx [3, 1, 0, 2, 4] 5 rfl (by decide +kernel) rfl) rfl ?_
      refine j_aload_n C dX5_restore_46 0 rfl ?_
      refine j_get C kin5 rfl 2 rfl 0 (by decide) kw_489 rfl (v := .ref nw) rfl dX5_restore_47 ?_
      refine j_iconst (v := 0) C dX5_restore_50 (by decide) ?_
      refine j_lald C 1 rfl (vin_lit rfl) (v := (lay z (456 * k) f 0 456) 0) rfl dX5_restore_51 ?_
      refine j_l2i C dX5_restore_52 rfl ?_
      refine j_perm ([oM a nw th ps sl hd pd od (f_X5_records_v v f u), aJ G nw 456 (lay z (456 * k) f 0 456), aJ G ps 2736 (f_X5_records_u v f u), aJ G sl 912 z, aZ G hd 2 w]) (perm_idx [2, 1, 3, 0, 4] 5 rfl (by decide +kernel) rfl) ?_
      subst hQ; exact j_iret C hr hk ((show f_X5_restore_r v f u z w k = ((lay z (456 * k) f 0 456) 0).toInt32 from ((if_neg c7).trans (if_neg c19))).symm) (by rw [show f_X5_restore_v v f u z w k = f_X5_records_v v f u from ((if_neg c7).trans (if_neg c19)), show f_X5_restore_f v f u z w k = lay z (456 * k) f 0 456 from ((if_neg c7).trans (if_neg c19)), show f_X5_restore_u v f u z w k = f_X5_records_u v f u from ((if_neg c7).trans (if_neg c19))]) dX5_restore_53
    · refine j_bipush (v := (-5)) C dX5_restore_22 (by decide) ?_
      subst hQ; exact j_iret C hr hk ((show f_X5_restore_r v f u z w k = (-5) from ((if_neg c7).trans (if_pos c19))).symm) (by rw [show f_X5_restore_v v f u z w k = v from ((if_neg c7).trans (if_pos c19)), show f_X5_restore_f v f u z w k = f from ((if_neg c7).trans (if_pos c19)), show f_X5_restore_u v f u z w k = u from ((if_neg c7).trans (if_pos c19))]) dX5_restore_24
  · refine j_bipush (v := (-2)) C dX5_restore_10 (by decide) ?_
    subst hQ; exact j_iret C hr hk ((show f_X5_restore_r v f u z w k = (-2) from (if_pos c7)).symm) (by rw [show f_X5_restore_v v f u z w k = v from (if_pos c7), show f_X5_restore_f v f u z w k = f from (if_pos c7), show f_X5_restore_u v f u z w k = u from (if_pos c7)]) dX5_restore_12
