/-! THE MODEL: may it be done -/
theorem drv5 {k : Int32} (h : ¬ f_X5_isDrive_r k = 0) : vp_in k 4 := by
  unfold f_X5_isDrive_r f_X5_in_r f_X5_in_x1 at h
  by_cases c3 : lg_cmp k.toInt64 0 < 0
  · rw [if_pos c3] at h
    exact absurd rfl h
  · rw [if_neg c3] at h
    by_cases c11 : 0 < lg_cmp k.toInt64 3
    · rw [if_pos c11] at h
      exact absurd rfl h
    · have h0 := mt (lg_cmp_lt k.toInt64 0).mpr c3
      have h1 := Int64.not_lt.mp (mt (lg_cmp_gt k.toInt64 3).mpr c11)
      have h0 : (0 : Int) ≤ k.toInt64.toInt := by simpa using Int64.le_iff_toInt_le.mp (Int64.not_lt.mp h0)
      have h1 : k.toInt64.toInt ≤ 3 := by simpa using Int64.le_iff_toInt_le.mp h1
      rw [Int32.toInt_toInt64] at h0 h1
      exact vp_in_iff.mpr ⟨h0, by omega⟩
noncomputable def f_X5_mayAsk_x3 (k : Int32) (y : Int32) : Int32 := (if f_X5_isDrive_r k = 0 then (-1) else (if f_X5_areMinutes_r y = 0 then (-2) else 0))
noncomputable def f_X5_mayAsk_r (k : Int32) (y : Int32) : Int32 := (f_X5_mayAsk_x3 k y)
set_option maxRecDepth 100000 in
set_option maxHeartbeats 4000000 in
theorem m_X5_mayAsk (l : Launch) (G : GG) (k : Int32) (y : Int32)  : CtI l yX5_mayAsk cX5_mayAsk 2 (some .int) (RM 2) G [.int k, .int y] ([]) (f_X5_mayAsk_r k y) ([]) := by
  refine ct_I RX5 [(0, .int k), (1, .int y)] rfl (by decide +kernel) (Nat.le_of_ble_eq_true rfl) rfl ?_
  intro p e s m args below meth c A C hr hk hnm
  generalize hQ : (MQ below (PostI G A (f_X5_mayAsk_r k y) ([])) args s (RM 2).cells (RM 2).slots A) = Q
  refine j_iload_n C dX5_mayAsk_0 0 rfl ?_
  refine j_pureS_i (r := f_X5_isDrive_r k) C (m_X5_isDrive l G k) 1 (gS kw_551 kw_552 kw_7 kw_553) (by decide +kernel) ⟨(Nat.le_of_ble_eq_true rfl), (Nat.le_of_ble_eq_true rfl)⟩ rfl rfl (Nat.le_of_ble_eq_true rfl) dX5_mayAsk_1 ⟨(Nat.le_of_ble_eq_true rfl), (Nat.le_of_ble_eq_true rfl)⟩ ?_
  have K24 : WJ p l e (RM 2) s m args below meth c G A 2 0 0 Q ([]) [(0, .int k), (1, .int y)] 24 [.int (f_X5_mayAsk_x3 k y)] := by
    generalize hw0 : f_X5_mayAsk_x3 k y = w0
    subst hQ; subst hw0; exact j_iret C hr hk ((show f_X5_mayAsk_r k y = (f_X5_mayAsk_x3 k y) from rfl).symm) rfl dX5_mayAsk_24
  refine j_if_ne (tgt := 11) C dX5_mayAsk_4 (by decide) (fun c4 => ?_) (fun c4 => ?_)
  · refine j_iload_n C dX5_mayAsk_11 1 rfl ?_
    refine j_pureS_i (r := f_X5_areMinutes_r y) C (m_X5_areMinutes l G y) 1 (gS kw_598 kw_599 kw_7 kw_600) (by decide +kernel) ⟨(Nat.le_of_ble_eq_true rfl), (Nat.le_of_ble_eq_true rfl)⟩ rfl rfl (Nat.le_of_ble_eq_true rfl) dX5_mayAsk_12 ⟨(Nat.le_of_ble_eq_true rfl), (Nat.le_of_ble_eq_true rfl)⟩ ?_
    refine j_if_eq (tgt := 22) C dX5_mayAsk_15 (by decide) (fun c15 => ?_) (fun c15 => ?_)
    · refine j_bipush (v := (-2)) C dX5_mayAsk_22 (by decide) ?_
      exact j_eq rfl rfl (by rw [show f_X5_mayAsk_x3 k y = (-2) from ((if_neg c4).trans (if_pos c15))]) K24
    · refine j_iconst (v := 0) C dX5_mayAsk_18 (by decide) ?_
      refine j_goto (tgt := 24) C dX5_mayAsk_19 (by decide) ?_
      exact j_eq rfl rfl (by rw [show f_X5_mayAsk_x3 k y = 0 from ((if_neg c4).trans (if_neg c15))]) K24
  · refine j_iconst (v := (-1)) C dX5_mayAsk_7 (by decide) ?_
    refine j_goto (tgt := 24) C dX5_mayAsk_8 (by decide) ?_
    exact j_eq rfl rfl (by rw [show f_X5_mayAsk_x3 k y = (-1) from (if_pos c4)]) K24
noncomputable def f_X5_mayStream_x4 (v : Nat → Int32) (k : Int32) (y : Int32) (x : Int32) : Int32 := (if f_X5_in_r y.toInt64 1 60 = 0 then (-2) else (if f_X5_in_r x.toInt64 0 20 = 0 then (-2) else 0))
noncomputable def f_X5_mayStream_r (v : Nat → Int32) (k : Int32) (y : Int32) (x : Int32) : Int32 := (if f_X5_isDrive_r k = 0 then (-1) else (f_X5_mayStream_x4 v k y x))
set_option maxRecDepth 100000 in
set_option maxHeartbeats 4000000 in
theorem m_X5_mayStream (l : Launch) (G : GG) (a nw th ps sl hd pd od : Nat) (v : Nat → Int32) (k : Int32) (y : Int32) (x : Int32)  : CtI l yX5_mayStream cX5_mayStream 4 (some .int) (RM 2) G [.ref a, .int k, .int y, .int x] ([oM a nw th ps sl hd pd od v]) (f_X5_mayStream_r v k y x) ([oM a nw th ps sl hd pd od v]) := by
  refine ct_I RX5 [(0, .ref a), (1, .int k), (2, .int y), (3, .int x)] rfl (by decide +kernel) (Nat.le_of_ble_eq_true rfl) rfl ?_
  intro p e s m args below meth c A C hr hk hnm
  generalize hQ : (MQ below (PostI G A (f_X5_mayStream_r v k y x) ([oM a nw th ps sl hd pd od v])) args s (RM 2).cells (RM 2).slots A) = Q
  refine j_iload_n C dX5_mayStream_0 1 rfl ?_
  refine j_pureS_i (r := f_X5_isDrive_r k) C (m_X5_isDrive l G k) 1 (gS kw_551 kw_552 kw_7 kw_553) (by decide +kernel) ⟨(Nat.le_of_ble_eq_true rfl), (Nat.le_of_ble_eq_true rfl)⟩ rfl rfl (Nat.le_of_ble_eq_true rfl) dX5_mayStream_1 ⟨(Nat.le_of_ble_eq_true rfl), (Nat.le_of_ble_eq_true rfl)⟩ ?_
  refine j_if_ne (tgt := 9) C dX5_mayStream_4 (by decide) (fun c4 => ?_) (fun c4 => ?_)
  · refine j_iload_n C dX5_mayStream_9 2 rfl ?_
    refine j_i2l C dX5_mayStream_10 rfl ?_
    refine j_lconst (v := 1) C dX5_mayStream_11 (by decide) ?_
    refine j_ldc2 (v := 60) C kw_480 dX5_mayStream_12 ?_
    refine j_pureS_i (r := f_X5_in_r y.toInt64 1 60) C (m_X5_in l G y.toInt64 1 60) 3 (gS kw_523 kw_524 kw_7 kw_525) (by decide +kernel) ⟨(Nat.le_of_ble_eq_true rfl), (Nat.le_of_ble_eq_true rfl)⟩ rfl rfl (Nat.le_of_ble_eq_true rfl) dX5_mayStream_15 ⟨(Nat.le_of_ble_eq_true rfl), (Nat.le_of_ble_eq_true rfl)⟩ ?_
    have K39 : WJ p l e (RM 2) s m args below meth c G A 4 0 0 Q ([oM a nw th ps sl hd pd od v]) [(0, .ref a), (1, .int k), (2, .int y), (3, .int x)] 39 [.int (f_X5_mayStream_x4 v k y x)] := by
      generalize hw0 : f_X5_mayStream_x4 v k y x = w0
      subst hQ; subst hw0; exact j_iret C hr hk ((show f_X5_mayStream_r v k y x = (f_X5_mayStream_x4 v k y x) from (if_neg c4)).symm) rfl dX5_mayStream_39
    refine j_if_eq (tgt := 37) C dX5_mayStream_18 (by decide) (fun c18 => ?_) (fun c18 => ?_)
    · refine j_bipush (v := (-2)) C dX5_mayStream_37 (by decide) ?_
      exact j_eq rfl rfl (by rw [show f_X5_mayStream_x4 v k y x = (-2) from (if_pos c18)]) K39
    · refine j_iload_n C dX5_mayStream_21 3 rfl ?_
      refine j_i2l C dX5_mayStream_22 rfl ?_
      refine j_lconst (v := 0) C dX5_mayStream_23 (by decide) ?_
      refine j_ldc2 (v := 20) C kw_483 dX5_mayStream_24 ?_
      refine j_pureS_i (r := f_X5_in_r x.toInt64 0 20) C (m_X5_in l G x.toInt64 0 20) 3 (gS kw_523 kw_524 kw_7 kw_525) (by decide +kernel) ⟨(Nat.le_of_ble_eq_true rfl), (Nat.le_of_ble_eq_true rfl)⟩ rfl rfl (Nat.le_of_ble_eq_true rfl) dX5_mayStream_27 ⟨(Nat.le_of_ble_eq_true rfl), (Nat.le_of_ble_eq_true rfl)⟩ ?_
      refine j_if_eq (tgt := 37) C dX5_mayStream_30 (by decide) (fun c30 => ?_) (fun c30 => ?_)
      · refine j_bipush (v := (-2)) C dX5_mayStream_37 (by decide) ?_
        exact j_eq rfl rfl (by rw [show f_X5_mayStream_x4 v k y x = (-2) from ((if_neg c18).trans (if_pos c30))]) K39
      · refine j_iconst (v := 0) C dX5_mayStream_33 (by decide) ?_
        refine j_goto (tgt := 39) C dX5_mayStream_34 (by decide) ?_
        exact j_eq rfl rfl (by rw [show f_X5_mayStream_x4 v k y x = 0 from ((if_neg c18).trans (if_neg c30))]) K39
  · refine j_iconst (v := (-1)) C dX5_mayStream_7 (by decide) ?_
    subst hQ; exact j_iret C hr hk ((show f_X5_mayStream_r v k y x = (-1) from (if_pos c4)).symm) rfl dX5_mayStream_8
noncomputable def f_X5_isFor_x6 (k : Int32) (y : Int32) : Int32 := (if k = 0 then f_X5_in_r y.toInt64 0 999 else (if k = 1 then f_X5_in_r y.toInt64 0 99 else (if k = 2 then f_X5_in_r y.toInt64 0 9 else (if k = 5 then f_X5_in_r y.toInt64 1 20 else f_X5_in_r y.toInt64 0 60))))
noncomputable def f_X5_isFor_r (k : Int32) (y : Int32) : Int32 := (f_X5_isFor_x6 k y)
set_option maxRecDepth 100000 in
set_option maxHeartbeats 4000000 in
theorem m_X5_isFor (l : Launch) (G : GG) (k : Int32) (y : Int32)  : CtI l yX5_isFor cX5_isFor 2 (some .boolean) (RM 1) G [.int k, .int y] ([]) (f_X5_isFor_r k y) ([]) := by
  refine ct_I RX5 [(0, .int k), (1, .int y)] rfl (by decide +kernel) (Nat.le_of_ble_eq_true rfl) rfl ?_
  intro p e s m args below meth c A C hr hk hnm
  generalize hQ : (MQ below (PostI G A (f_X5_isFor_r k y) ([])) args s (RM 1).cells (RM 1).slots A) = Q
  refine j_iload_n C dX5_isFor_0 0 rfl ?_
  have K76 : WJ p l e (RM 1) s m args below meth c G A 2 0 0 Q ([]) [(0, .int k), (1, .int y)] 76 [.int (f_X5_isFor_x6 k y)] := by
    generalize hw0 : f_X5_isFor_x6 k y = w0
    subst hQ; subst hw0; exact j_zret C hr hk (by unfold f_X5_isFor_x6; (repeat' split) <;> exact nrz_in _ _ _) ((show f_X5_isFor_r k y = (f_X5_isFor_x6 k y) from rfl).symm) rfl dX5_isFor_76
  refine j_if_ne (tgt := 16) C dX5_isFor_1 (by decide) (fun c1 => ?_) (fun c1 => ?_)
  · refine j_iload_n C dX5_isFor_16 0 rfl ?_
    refine j_iconst (v := 1) C dX5_isFor_17 (by decide) ?_
    refine j_icmp_ne (tgt := 33) C dX5_isFor_18 (by decide) (fun c18 => ?_) (fun c18 => ?_)
    · refine j_iload_n C dX5_isFor_33 0 rfl ?_
      refine j_iconst (v := 2) C dX5_isFor_34 (by decide) ?_
      refine j_icmp_ne (tgt := 50) C dX5_isFor_35 (by decide) (fun c35 => ?_) (fun c35 => ?_)
      · refine j_iload_n C dX5_isFor_50 0 rfl ?_
        refine j_iconst (v := 5) C dX5_isFor_51 (by decide) ?_
        refine j_icmp_ne (tgt := 67) C dX5_isFor_52 (by decide) (fun c52 => ?_) (fun c52 => ?_)
        · refine j_iload_n C dX5_isFor_67 1 rfl ?_
          refine j_i2l C dX5_isFor_68 rfl ?_
          refine j_lconst (v := 0) C dX5_isFor_69 (by decide) ?_
          refine j_ldc2 (v := 60) C kw_480 dX5_isFor_70 ?_
          refine j_pureS_i (r := f_X5_in_r y.toInt64 0 60) C (m_X5_in l G y.toInt64 0 60) 3 (gS kw_523 kw_524 kw_7 kw_525) (by decide +kernel) ⟨(Nat.le_of_ble_eq_true rfl), (Nat.le_of_ble_eq_true rfl)⟩ rfl rfl (Nat.le_of_ble_eq_true rfl) dX5_isFor_73 ⟨(Nat.le_of_ble_eq_true rfl), (Nat.le_of_ble_eq_true rfl)⟩ ?_
          exact j_eq rfl rfl (by rw [show f_X5_isFor_x6 k y = f_X5_in_r y.toInt64 0 60 from ((if_neg c1).trans ((if_neg c18).trans ((if_neg c35).trans (if_neg c52))))]) K76
        · refine j_iload_n C dX5_isFor_55 1 rfl ?_
          refine j_i2l C dX5_isFor_56 rfl ?_
          refine j_lconst (v := 1) C dX5_isFor_57 (by decide) ?_
          refine j_ldc2 (v := 20) C kw_483 dX5_isFor_58 ?_
          refine j_pureS_i (r := f_X5_in_r y.toInt64 1 20) C (m_X5_in l G y.toInt64 1 20) 3 (gS kw_523 kw_524 kw_7 kw_525) (by decide +kernel) ⟨(Nat.le_of_ble_eq_true rfl), (Nat.le_of_ble_eq_true rfl)⟩ rfl rfl (Nat.le_of_ble_eq_true rfl) dX5_isFor_61 ⟨(Nat.le_of_ble_eq_true rfl), (Nat.le_of_ble_eq_true rfl)⟩ ?_
          refine j_goto (tgt := 76) C dX5_isFor_64 (by decide) ?_
          exact j_eq rfl rfl (by rw [show f_X5_isFor_x6 k y = f_X5_in_r y.toInt64 1 20 from ((if_neg c1).trans ((if_neg c18).trans ((if_neg c35).trans (if_pos c52))))]) K76
      · refine j_iload_n C dX5_isFor_38 1 rfl ?_
        refine j_i2l C dX5_isFor_39 rfl ?_
        refine j_lconst (v := 0) C dX5_isFor_40 (by decide) ?_
        refine j_ldc2 (v := 9) C kw_543 dX5_isFor_41 ?_
        refine j_pureS_i (r := f_X5_in_r y.toInt64 0 9) C (m_X5_in l G y.toInt64 0 9) 3 (gS kw_523 kw_524 kw_7 kw_525) (by decide +kernel) ⟨(Nat.le_of_ble_eq_true rfl), (Nat.le_of_ble_eq_true rfl)⟩ rfl rfl (Nat.le_of_ble_eq_true rfl) dX5_isFor_44 ⟨(Nat.le_of_ble_eq_true rfl), (Nat.le_of_ble_eq_true rfl)⟩ ?_
        refine j_goto (tgt := 76) C dX5_isFor_47 (by decide) ?_
        exact j_eq rfl rfl (by rw [show f_X5_isFor_x6 k y = f_X5_in_r y.toInt64 0 9 from ((if_neg c1).trans ((if_neg c18).trans (if_pos c35)))]) K76
    · refine j_iload_n C dX5_isFor_21 1 rfl ?_
      refine j_i2l C dX5_isFor_22 rfl ?_
      refine j_lconst (v := 0) C dX5_isFor_23 (by decide) ?_
      refine j_ldc2 (v := 99) C kw_542 dX5_isFor_24 ?_
      refine j_pureS_i (r := f_X5_in_r y.toInt64 0 99) C (m_X5_in l G y.toInt64 0 99) 3 (gS kw_523 kw_524 kw_7 kw_525) (by decide +kernel) ⟨(Nat.le_of_ble_eq_true rfl), (Nat.le_of_ble_eq_true rfl)⟩ rfl rfl (Nat.le_of_ble_eq_true rfl) dX5_isFor_27 ⟨(Nat.le_of_ble_eq_true rfl), (Nat.le_of_ble_eq_true rfl)⟩ ?_
      refine j_goto (tgt := 76) C dX5_isFor_30 (by decide) ?_
      exact j_eq rfl rfl (by rw [show f_X5_isFor_x6 k y = f_X5_in_r y.toInt64 0 99 from ((if_neg c1).trans (if_pos c18))]) K76
  · refine j_iload_n C dX5_isFor_4 1 rfl ?_
    refine j_i2l C dX5_isFor_5 rfl ?_
    refine j_lconst (v := 0) C dX5_isFor_6 (by decide) ?_
    refine j_ldc2 (v := 999) C kw_541 dX5_isFor_7 ?_
    refine j_pureS_i (r := f_X5_in_r y.toInt64 0 999) C (m_X5_in l G y.toInt64 0 999) 3 (gS kw_523 kw_524 kw_7 kw_525) (by decide +kernel) ⟨(Nat.le_of_ble_eq_true rfl), (Nat.le_of_ble_eq_true rfl)⟩ rfl rfl (Nat.le_of_ble_eq_true rfl) dX5_isFor_10 ⟨(Nat.le_of_ble_eq_true rfl), (Nat.le_of_ble_eq_true rfl)⟩ ?_
    refine j_goto (tgt := 76) C dX5_isFor_13 (by decide) ?_
    exact j_eq rfl rfl (by rw [show f_X5_isFor_x6 k y = f_X5_in_r y.toInt64 0 999 from (if_pos c1)]) K76
noncomputable def f_X5_mayWrite_x4 (v : Nat → Int32) (f : Nat → Int64) (k : Int32) (y : Int32) : Int32 := (if lg_cmp ((f ((f_X5_row_r k) + 3).toNatClampNeg) + y.toInt64) 9999 ≤ 0 then 0 else (-4))
noncomputable def f_X5_mayWrite_r (v : Nat → Int32) (f : Nat → Int64) (k : Int32) (y : Int32) : Int32 := (if f_X5_isDrive_r k = 0 then (-1) else (if f_X5_in_r y.toInt64 1 200 = 0 then (-2) else (f_X5_mayWrite_x4 v f k y)))
set_option maxRecDepth 100000 in
set_option maxHeartbeats 4000000 in
theorem m_X5_mayWrite (l : Launch) (G : GG) (a nw th ps sl hd pd od : Nat) (v : Nat → Int32) (f : Nat → Int64) (k : Int32) (y : Int32)  : CtI l yX5_mayWrite cX5_mayWrite 3 (some .int) (RM 2) G [.ref a, .int k, .int y] ([oM a nw th ps sl hd pd od v, aJ G nw 456 f]) (f_X5_mayWrite_r v f k y) ([oM a nw th ps sl hd pd od v, aJ G nw 456 f]) := by
  refine ct_I RX5 [(0, .ref a), (1, .int k), (2, .int y)] rfl (by decide +kernel) (Nat.le_of_ble_eq_true rfl) rfl ?_
  intro p e s m args below meth c A C hr hk hnm
  generalize hQ : (MQ below (PostI G A (f_X5_mayWrite_r v f k y) ([oM a nw th ps sl hd pd od v, aJ G nw 456 f])) args s (RM 2).cells (RM 2).slots A) = Q
  refine j_iload_n C dX5_mayWrite_0 1 rfl ?_
  refine j_pureS_i (r := f_X5_isDrive_r k) C (m_X5_isDrive l G k) 1 (gS kw_551 kw_552 kw_7 kw_553) (by decide +kernel) ⟨(Nat.le_of_ble_eq_true rfl), (Nat.le_of_ble_eq_true rfl)⟩ rfl rfl (Nat.le_of_ble_eq_true rfl) dX5_mayWrite_1 ⟨(Nat.le_of_ble_eq_true rfl), (Nat.le_of_ble_eq_true rfl)⟩ ?_
  refine j_if_ne (tgt := 9) C dX5_mayWrite_4 (by decide) (fun c4 => ?_) (fun c4 => ?_)
  · refine j_iload_n C dX5_mayWrite_9 2 rfl ?_
    refine j_i2l C dX5_mayWrite_10 rfl ?_
    refine j_lconst (v := 1) C dX5_mayWrite_11 (by decide) ?_
    refine j_ldc2 (v := 200) C kw_565 dX5_mayWrite_12 ?_
    refine j_pureS_i (r := f_X5_in_r y.toInt64 1 200) C (m_X5_in l G y.toInt64 1 200) 3 (gS kw_523 kw_524 kw_7 kw_525) (by decide +kernel) ⟨(Nat.le_of_ble_eq_true rfl), (Nat.le_of_ble_eq_true rfl)⟩ rfl rfl (Nat.le_of_ble_eq_true rfl) dX5_mayWrite_15 ⟨(Nat.le_of_ble_eq_true rfl), (Nat.le_of_ble_eq_true rfl)⟩ ?_
    refine j_if_ne (tgt := 24) C dX5_mayWrite_18 (by decide) (fun c18 => ?_) (fun c18 => ?_)
    · refine j_aload_n C dX5_mayWrite_24 0 rfl ?_
      refine j_get C kin5 rfl 0 rfl 0 (by decide) kw_489 rfl (v := .ref nw) rfl dX5_mayWrite_25 ?_
      refine j_iload_n C dX5_mayWrite_28 1 rfl ?_
      refine j_pureS_i (r := f_X5_row_r k) C (m_X5_row l G k) 1 (gS kw_486 kw_487 kw_7 kw_488) (by decide +kernel) ⟨(Nat.le_of_ble_eq_true rfl), (Nat.le_of_ble_eq_true rfl)⟩ rfl rfl (Nat.le_of_ble_eq_true rfl) dX5_mayWrite_29 ⟨(Nat.le_of_ble_eq_true rfl), (Nat.le_of_ble_eq_true rfl)⟩ ?_
      refine j_iconst (v := 3) C dX5_mayWrite_32 (by decide) ?_
      refine j_iadd C dX5_mayWrite_33 rfl ?_
      refine j_lald C 1 rfl (vin_row (drv5 c4) (by decide)) (v := f ((f_X5_row_r k) + 3).toNatClampNeg) rfl dX5_mayWrite_34 ?_
      refine j_iload_n C dX5_mayWrite_35 2 rfl ?_
      refine j_i2l C dX5_mayWrite_36 rfl ?_
      refine j_ladd C dX5_mayWrite_37 rfl ?_
      refine j_ldc2 (v := 9999) C kw_566 dX5_mayWrite_38 ?_
      refine j_lcmp C dX5_mayWrite_41 ?_
      have K51 : WJ p l e (RM 2) s m args below meth c G A 3 0 0 Q ([oM a nw th ps sl hd pd od v, aJ G nw 456 f]) [(0, .ref a), (1, .int k), (2, .int y)] 51 [.int (f_X5_mayWrite_x4 v f k y)] := by
        generalize hw0 : f_X5_mayWrite_x4 v f k y = w0
        subst hQ; subst hw0; exact j_iret C hr hk ((show f_X5_mayWrite_r v f k y = (f_X5_mayWrite_x4 v f k y) from ((if_neg c4).trans (if_neg c18))).symm) rfl dX5_mayWrite_51
      refine j_if_le (tgt := 50) C dX5_mayWrite_42 (by decide) (fun c42 => ?_) (fun c42 => ?_)
      · refine j_iconst (v := 0) C dX5_mayWrite_50 (by decide) ?_
        exact j_eq rfl rfl (by rw [show f_X5_mayWrite_x4 v f k y = 0 from (if_pos c42)]) K51
      · refine j_bipush (v := (-4)) C dX5_mayWrite_45 (by decide) ?_
        refine j_goto (tgt := 51) C dX5_mayWrite_47 (by decide) ?_
        exact j_eq rfl rfl (by rw [show f_X5_mayWrite_x4 v f k y = (-4) from (if_neg c42)]) K51
    · refine j_bipush (v := (-2)) C dX5_mayWrite_21 (by decide) ?_
      subst hQ; exact j_iret C hr hk ((show f_X5_mayWrite_r v f k y = (-2) from ((if_neg c4).trans (if_pos c18))).symm) rfl dX5_mayWrite_23
  · refine j_iconst (v := (-1)) C dX5_mayWrite_7 (by decide) ?_
    subst hQ; exact j_iret C hr hk ((show f_X5_mayWrite_r v f k y = (-1) from (if_pos c4)).symm) rfl dX5_mayWrite_8
noncomputable def f_X5_comes_f (v : Nat → Int32) (f : Nat → Int64) (k : Int32) (y : Int32) : (Nat → Int64) := vp_updL f ((f_X5_row_r k) + 3).toNatClampNeg ((f ((f_X5_row_r k) + 3).toNatClampNeg) + y.toInt64)
noncomputable def f_X5_comes_r (v : Nat → Int32) (f : Nat → Int64) (k : Int32) (y : Int32) : Int32 := ((vp_updL f ((f_X5_row_r k) + 3).toNatClampNeg ((f ((f_X5_row_r k) + 3).toNatClampNeg) + y.toInt64)) ((f_X5_row_r k) + 3).toNatClampNeg).toInt32
set_option maxRecDepth 100000 in
set_option maxHeartbeats 4000000 in
theorem m_X5_comes (l : Launch) (G : GG) (a nw th ps sl hd pd od : Nat) (v : Nat → Int32) (f : Nat → Int64) (k : Int32) (y : Int32) (h4 : vp_in k 4) : CtI l yX5_comes cX5_comes 3 (some .int) (RM 1) G [.ref a, .int k, .int y] ([oM a nw th ps sl hd pd od v, aJ G nw 456 f]) (f_X5_comes_r v f k y) ([oM a nw th ps sl hd pd od v, aJ G nw 456 (f_X5_comes_f v f k y)]) := by
  refine ct_I RX5 [(0, .ref a), (1, .int k), (2, .int y)] rfl (by decide +kernel) (Nat.le_of_ble_eq_true rfl) rfl ?_
  intro p e s m args below meth c A C hr hk hnm
  generalize hQ : (MQ below (PostI G A (f_X5_comes_r v f k y) ([oM a nw th ps sl hd pd od v, aJ G nw 456 (f_X5_comes_f v f k y)])) args s (RM 1).cells (RM 1).slots A) = Q
  refine j_aload_n C dX5_comes_0 0 rfl ?_
  refine j_get C kin5 rfl 0 rfl 0 (by decide) kw_489 rfl (v := .ref nw) rfl dX5_comes_1 ?_
  refine j_iload_n C dX5_comes_4 1 rfl ?_
  refine j_pureS_i (r := f_X5_row_r k) C (m_X5_row l G k) 1 (gS kw_486 kw_487 kw_7 kw_488) (by decide +kernel) ⟨(Nat.le_of_ble_eq_true rfl), (Nat.le_of_ble_eq_true rfl)⟩ rfl rfl (Nat.le_of_ble_eq_true rfl) dX5_comes_5 ⟨(Nat.le_of_ble_eq_true rfl), (Nat.le_of_ble_eq_true rfl)⟩ ?_
  refine j_iconst (v := 3) C dX5_comes_8 (by decide) ?_
  refine j_iadd C dX5_comes_9 rfl ?_
  refine j_dup2_11 C dX5_comes_10 rfl rfl ?_
  refine j_lald C 1 rfl (vin_row h4 (by decide)) (v := f ((f_X5_row_r k) + 3).toNatClampNeg) rfl dX5_comes_11 ?_
  refine j_iload_n C dX5_comes_12 2 rfl ?_
  refine j_i2l C dX5_comes_13 rfl ?_
  refine j_ladd C dX5_comes_14 rfl ?_
  generalize hw0 : (f ((f_X5_row_r k) + 3).toNatClampNeg) + y.toInt64 = w0
  refine j_last C 1 rfl (vin_row h4 (by decide)) ([oM a nw th ps sl hd pd od v, aJ G nw 456 (vp_updL f ((f_X5_row_r k) + 3).toNatClampNeg w0)]) rfl dX5_comes_15 ?_
  refine j_aload_n C dX5_comes_16 0 rfl ?_
  refine j_get C kin5 rfl 0 rfl 0 (by decide) kw_489 rfl (v := .ref nw) rfl dX5_comes_17 ?_
  refine j_iload_n C dX5_comes_20 1 rfl ?_
  refine j_pureS_i (r := f_X5_row_r k) C (m_X5_row l G k) 1 (gS kw_486 kw_487 kw_7 kw_488) (by decide +kernel) ⟨(Nat.le_of_ble_eq_true rfl), (Nat.le_of_ble_eq_true rfl)⟩ rfl rfl (Nat.le_of_ble_eq_true rfl) dX5_comes_21 ⟨(Nat.le_of_ble_eq_true rfl), (Nat.le_of_ble_eq_true rfl)⟩ ?_
  refine j_iconst (v := 3) C dX5_comes_24 (by decide) ?_
  refine j_iadd C dX5_comes_25 rfl ?_
  refine j_lald C 1 rfl (vin_row h4 (by decide)) (v := (vp_updL f ((f_X5_row_r k) + 3).toNatClampNeg w0) ((f_X5_row_r k) + 3).toNatClampNeg) rfl dX5_comes_26 ?_
  refine j_l2i C dX5_comes_27 rfl ?_
  subst hQ; subst hw0; exact j_iret C hr hk ((show f_X5_comes_r v f k y = ((vp_updL f ((f_X5_row_r k) + 3).toNatClampNeg ((f ((f_X5_row_r k) + 3).toNatClampNeg) + y.toInt64)) ((f_X5_row_r k) + 3).toNatClampNeg).toInt32 from rfl).symm) (by rw [show f_X5_comes_f v f k y = vp_updL f ((f_X5_row_r k) + 3).toNatClampNeg ((f ((f_X5_row_r k) + 3).toNatClampNeg) + y.toInt64) from rfl]) dX5_comes_28
noncomputable def f_X5_hour_x4 (v : Nat → Int32) (f : Nat → Int64) (k : Int32) (y : Int32) : Int32 := (if f_X5_isHour_r y = 0 then (-2) else f_X5_hourOf_r f k y.toInt64)
noncomputable def f_X5_hour_r (v : Nat → Int32) (f : Nat → Int64) (k : Int32) (y : Int32) : Int32 := (if f_X5_isDrive_r k = 0 then (-1) else (f_X5_hour_x4 v f k y))
set_option maxRecDepth 100000 in
set_option maxHeartbeats 4000000 in
theorem m_X5_hour (l : Launch) (G : GG) (a nw th ps sl hd pd od : Nat) (v : Nat → Int32) (f : Nat → Int64) (k : Int32) (y : Int32)  : CtI l yX5_hour cX5_hour 3 (some .int) (RM 2) G [.ref a, .int k, .int y] ([oM a nw th ps sl hd pd od v, aJ G nw 456 f]) (f_X5_hour_r v f k y) ([oM a nw th ps sl hd pd od v, aJ G nw 456 f]) := by
  refine ct_I RX5 [(0, .ref a), (1, .int k), (2, .int y)] rfl (by decide +kernel) (Nat.le_of_ble_eq_true rfl) rfl ?_
  intro p e s m args below meth c A C hr hk hnm
  generalize hQ : (MQ below (PostI G A (f_X5_hour_r v f k y) ([oM a nw th ps sl hd pd od v, aJ G nw 456 f])) args s (RM 2).cells (RM 2).slots A) = Q
  refine j_iload_n C dX5_hour_0 1 rfl ?_
  refine j_pureS_i (r := f_X5_isDrive_r k) C (m_X5_isDrive l G k) 1 (gS kw_551 kw_552 kw_7 kw_553) (by decide +kernel) ⟨(Nat.le_of_ble_eq_true rfl), (Nat.le_of_ble_eq_true rfl)⟩ rfl rfl (Nat.le_of_ble_eq_true rfl) dX5_hour_1 ⟨(Nat.le_of_ble_eq_true rfl), (Nat.le_of_ble_eq_true rfl)⟩ ?_
  refine j_if_ne (tgt := 9) C dX5_hour_4 (by decide) (fun c4 => ?_) (fun c4 => ?_)
  · refine j_iload_n C dX5_hour_9 2 rfl ?_
    refine j_pureS_i (r := f_X5_isHour_r y) C (m_X5_isHour l G y) 1 (gS kw_577 kw_578 kw_7 kw_579) (by decide +kernel) ⟨(Nat.le_of_ble_eq_true rfl), (Nat.le_of_ble_eq_true rfl)⟩ rfl rfl (Nat.le_of_ble_eq_true rfl) dX5_hour_10 ⟨(Nat.le_of_ble_eq_true rfl), (Nat.le_of_ble_eq_true rfl)⟩ ?_
    have K31 : WJ p l e (RM 2) s m args below meth c G A 3 0 0 Q ([oM a nw th ps sl hd pd od v, aJ G nw 456 f]) [(0, .ref a), (1, .int k), (2, .int y)] 31 [.int (f_X5_hour_x4 v f k y)] := by
      generalize hw0 : f_X5_hour_x4 v f k y = w0
      subst hQ; subst hw0; exact j_iret C hr hk ((show f_X5_hour_r v f k y = (f_X5_hour_x4 v f k y) from (if_neg c4)).symm) rfl dX5_hour_31
    refine j_if_eq (tgt := 29) C dX5_hour_13 (by decide) (fun c13 => ?_) (fun c13 => ?_)
    · refine j_bipush (v := (-2)) C dX5_hour_29 (by decide) ?_
      exact j_eq rfl rfl (by rw [show f_X5_hour_x4 v f k y = (-2) from (if_pos c13)]) K31
    · refine j_aload_n C dX5_hour_16 0 rfl ?_
      refine j_get C kin5 rfl 0 rfl 0 (by decide) kw_489 rfl (v := .ref nw) rfl dX5_hour_17 ?_
      refine j_iload_n C dX5_hour_20 1 rfl ?_
      refine j_iload_n C dX5_hour_21 2 rfl ?_
      refine j_i2l C dX5_hour_22 rfl ?_
      refine j_callS_i (r := f_X5_hourOf_r f k y.toInt64) (wc' := [aJ G nw 456 f]) C (m_X5_hourOf l G nw f k y.toInt64 (drv5 c4)) 3 (gS kw_580 kw_581 kw_7 kw_582) (by decide +kernel) ⟨(Nat.le_of_ble_eq_true rfl), (Nat.le_of_ble_eq_true rfl)⟩ rfl rfl (Nat.le_of_ble_eq_true rfl) dX5_hour_23 ⟨(Nat.le_of_ble_eq_true rfl), (Nat.le_of_ble_eq_true rfl)⟩ [oM a nw th ps sl hd pd od v] [aJ G nw 456 f, oM a nw th ps sl hd pd od v] (perm_idx [1, 0] 2 rfl (by decide +kernel) rfl) rfl ?_
      refine j_goto (tgt := 31) C dX5_hour_26 (by decide) ?_
      refine j_perm ([oM a nw th ps sl hd pd od v, aJ G nw 456 f]) (perm_idx [1, 0] 2 rfl (by decide +kernel) rfl) ?_
      exact j_eq rfl rfl (by rw [show f_X5_hour_x4 v f k y = f_X5_hourOf_r f k y.toInt64 from (if_neg c13)]) K31
  · refine j_iconst (v := (-1)) C dX5_hour_7 (by decide) ?_
    subst hQ; exact j_iret C hr hk ((show f_X5_hour_r v f k y = (-1) from (if_pos c4)).symm) rfl dX5_hour_8
noncomputable def f_X5_mayTrade_x3 (v : Nat → Int32) (f : Nat → Int64) (k : Int32) (y : Int32) (q : Int32) : Int32 := (if lg_cmp y.toInt64 ((f 0) / 60) ≤ 0 then 0 else 1)
noncomputable def f_X5_mayTrade_x5 (v : Nat → Int32) (f : Nat → Int64) (k : Int32) (y : Int32) (q : Int32) : Int32 := (if f_X5_hourOf_r f k y.toInt64 = 0 then 1 else 0)
noncomputable def f_X5_mayTrade_x6 (v : Nat → Int32) (f : Nat → Int64) (k : Int32) (y : Int32) (q : Int32) : Int32 := (if (f_X5_mayTrade_x3 v f k y q) = 0 then (-5) else (if (f_X5_mayTrade_x5 v f k y q) = q then 0 else (-5)))
noncomputable def f_X5_mayTrade_r (v : Nat → Int32) (f : Nat → Int64) (k : Int32) (y : Int32) (q : Int32) : Int32 := (if f_X5_isDrive_r k = 0 then (-1) else (if f_X5_isHour_r y = 0 then (-2) else (f_X5_mayTrade_x6 v f k y q)))
set_option maxRecDepth 100000 in
set_option maxHeartbeats 4000000 in
theorem m_X5_mayTrade (l : Launch) (G : GG) (a nw th ps sl hd pd od : Nat) (v : Nat → Int32) (f : Nat → Int64) (k : Int32) (y : Int32) (q : Int32)  : CtI l yX5_mayTrade cX5_mayTrade 5 (some .int) (RM 2) G [.ref a, .int k, .int y, .int q] ([oM a nw th ps sl hd pd od v, aJ G nw 456 f]) (f_X5_mayTrade_r v f k y q) ([oM a nw th ps sl hd pd od v, aJ G nw 456 f]) := by
  refine ct_I RX5 [(0, .ref a), (1, .int k), (2, .int y), (3, .int q)] rfl (by decide +kernel) (Nat.le_of_ble_eq_true rfl) rfl ?_
  intro p e s m args below meth c A C hr hk hnm
  generalize hQ : (MQ below (PostI G A (f_X5_mayTrade_r v f k y q) ([oM a nw th ps sl hd pd od v, aJ G nw 456 f])) args s (RM 2).cells (RM 2).slots A) = Q
  refine j_iload_n C dX5_mayTrade_0 1 rfl ?_
  refine j_pureS_i (r := f_X5_isDrive_r k) C (m_X5_isDrive l G k) 1 (gS kw_551 kw_552 kw_7 kw_553) (by decide +kernel) ⟨(Nat.le_of_ble_eq_true rfl), (Nat.le_of_ble_eq_true rfl)⟩ rfl rfl (Nat.le_of_ble_eq_true rfl) dX5_mayTrade_1 ⟨(Nat.le_of_ble_eq_true rfl), (Nat.le_of_ble_eq_true rfl)⟩ ?_
  refine j_if_ne (tgt := 9) C dX5_mayTrade_4 (by decide) (fun c4 => ?_) (fun c4 => ?_)
  · refine j_iload_n C dX5_mayTrade_9 2 rfl ?_
    refine j_pureS_i (r := f_X5_isHour_r y) C (m_X5_isHour l G y) 1 (gS kw_577 kw_578 kw_7 kw_579) (by decide +kernel) ⟨(Nat.le_of_ble_eq_true rfl), (Nat.le_of_ble_eq_true rfl)⟩ rfl rfl (Nat.le_of_ble_eq_true rfl) dX5_mayTrade_10 ⟨(Nat.le_of_ble_eq_true rfl), (Nat.le_of_ble_eq_true rfl)⟩ ?_
    refine j_if_ne (tgt := 19) C dX5_mayTrade_13 (by decide) (fun c13 => ?_) (fun c13 => ?_)
    · refine j_iload_n C dX5_mayTrade_19 2 rfl ?_
      refine j_i2l C dX5_mayTrade_20 rfl ?_
      refine j_aload_n C dX5_mayTrade_21 0 rfl ?_
      refine j_get C kin5 rfl 0 rfl 0 (by decide) kw_489 rfl (v := .ref nw) rfl dX5_mayTrade_22 ?_
      refine j_iconst (v := 0) C dX5_mayTrade_25 (by decide) ?_
      refine j_lald C 1 rfl (vin_lit rfl) (v := f 0) rfl dX5_mayTrade_26 ?_
      refine j_ldc2 (v := 60) C kw_480 dX5_mayTrade_27 ?_
      refine j_ldiv C dX5_mayTrade_30 (by decide) rfl ?_
      refine j_lcmp C dX5_mayTrade_31 ?_
      have K40 : WJ p l e (RM 2) s m args below meth c G A 5 0 0 Q ([oM a nw th ps sl hd pd od v, aJ G nw 456 f]) [(0, .ref a), (1, .int k), (2, .int y), (3, .int q)] 40 [.int (f_X5_mayTrade_x3 v f k y q)] := by
        generalize hw0 : f_X5_mayTrade_x3 v f k y q = w0
        refine j_istore C [(4, .int w0), (0, .ref a), (1, .int k), (2, .int y), (3, .int q)] dX5_mayTrade_40 (by decide) rfl ?_
        refine j_iload C dX5_mayTrade_42 0 rfl ?_
        have K75 : WJ p l e (RM 2) s m args below meth c G A 5 0 0 Q ([oM a nw th ps sl hd pd od v, aJ G nw 456 f]) [(4, .int w0), (0, .ref a), (1, .int k), (2, .int y), (3, .int q)] 75 [.int (f_X5_mayTrade_x6 v f k y q)] := by
          generalize hw2 : f_X5_mayTrade_x6 v f k y q = w2
          subst hQ; subst hw0 hw2; exact j_iret C hr hk ((show f_X5_mayTrade_r v f k y q = (f_X5_mayTrade_x6 v f k y q) from ((if_neg c4).trans (if_neg c13))).symm) rfl dX5_mayTrade_75
        refine j_if_eq (tgt := 73) C dX5_mayTrade_44 (by decide) (fun c44 => ?_) (fun c44 => ?_)
        · refine j_bipush (v := (-5)) C dX5_mayTrade_73 (by decide) ?_
          subst hw0; exact j_eq rfl rfl (by rw [show f_X5_mayTrade_x6 v f k y q = (-5) from (if_pos c44)]) K75
        · refine j_aload_n C dX5_mayTrade_47 1 rfl ?_
          refine j_get C kin5 rfl 0 rfl 0 (by decide) kw_489 rfl (v := .ref nw) rfl dX5_mayTrade_48 ?_
          refine j_iload_n C dX5_mayTrade_51 2 rfl ?_
          refine j_iload_n C dX5_mayTrade_52 3 rfl ?_
          refine j_i2l C dX5_mayTrade_53 rfl ?_
          refine j_callS_i (r := f_X5_hourOf_r f k y.toInt64) (wc' := [aJ G nw 456 f]) C (m_X5_hourOf l G nw f k y.toInt64 (drv5 c4)) 3 (gS kw_580 kw_581 kw_7 kw_582) (by decide +kernel) ⟨(Nat.le_of_ble_eq_true rfl), (Nat.le_of_ble_eq_true rfl)⟩ rfl rfl (Nat.le_of_ble_eq_true rfl) dX5_mayTrade_54 ⟨(Nat.le_of_ble_eq_true rfl), (Nat.le_of_ble_eq_true rfl)⟩ [oM a nw th ps sl hd pd od v] [aJ G nw 456 f, oM a nw th ps sl hd pd od v] (perm_idx [1, 0] 2 rfl (by decide +kernel) rfl) rfl ?_
          have K65 : WJ p l e (RM 2) s m args below meth c G A 5 0 0 Q ([aJ G nw 456 f, oM a nw th ps sl hd pd od v]) [(4, .int w0), (0, .ref a), (1, .int k), (2, .int y), (3, .int q)] 65 [.int (f_X5_mayTrade_x5 v f k y q)] := by
            generalize hw1 : f_X5_mayTrade_x5 v f k y q = w1
            refine j_iload_n C dX5_mayTrade_65 4 rfl ?_
            refine j_icmp_ne (tgt := 73) C dX5_mayTrade_66 (by decide) (fun c66 => ?_) (fun c66 => ?_)
            · refine j_bipush (v := (-5)) C dX5_mayTrade_73 (by decide) ?_
              refine j_perm ([oM a nw th ps sl hd pd od v, aJ G nw 456 f]) (perm_idx [1, 0] 2 rfl (by decide +kernel) rfl) ?_
              subst hw0 hw1; exact j_eq rfl rfl (by rw [show f_X5_mayTrade_x6 v f k y q = (-5) from ((if_neg c44).trans (if_neg c66))]) K75
            · refine j_iconst (v := 0) C dX5_mayTrade_69 (by decide) ?_
              refine j_goto (tgt := 75) C dX5_mayTrade_70 (by decide) ?_
              refine j_perm ([oM a nw th ps sl hd pd od v, aJ G nw 456 f]) (perm_idx [1, 0] 2 rfl (by decide +kernel) rfl) ?_
              subst hw0 hw1; exact j_eq rfl rfl (by rw [show f_X5_mayTrade_x6 v f k y q = 0 from ((if_neg c44).trans (if_pos c66))]) K75
          refine j_if_ne (tgt := 64) C dX5_mayTrade_57 (by decide) (fun c57 => ?_) (fun c57 => ?_)
          · refine j_iconst (v := 0) C dX5_mayTrade_64 (by decide) ?_
            subst hw0; exact j_eq rfl rfl (by rw [show f_X5_mayTrade_x5 v f k y q = 0 from (if_neg c57)]) K65
          · refine j_iconst (v := 1) C dX5_mayTrade_60 (by decide) ?_
            refine j_goto (tgt := 65) C dX5_mayTrade_61 (by decide) ?_
            subst hw0; exact j_eq rfl rfl (by rw [show f_X5_mayTrade_x5 v f k y q = 1 from (if_pos c57)]) K65
      refine j_if_le (tgt := 39) C dX5_mayTrade_32 (by decide) (fun c32 => ?_) (fun c32 => ?_)
      · refine j_iconst (v := 0) C dX5_mayTrade_39 (by decide) ?_
        exact j_eq rfl rfl (by rw [show f_X5_mayTrade_x3 v f k y q = 0 from (if_pos c32)]) K40
      · refine j_iconst (v := 1) C dX5_mayTrade_35 (by decide) ?_
        refine j_goto (tgt := 40) C dX5_mayTrade_36 (by decide) ?_
        exact j_eq rfl rfl (by rw [show f_X5_mayTrade_x3 v f k y q = 1 from (if_neg c32)]) K40
    · refine j_bipush (v := (-2)) C dX5_mayTrade_16 (by decide) ?_
      subst hQ; exact j_iret C hr hk ((show f_X5_mayTrade_r v f k y q = (-2) from ((if_neg c4).trans (if_pos c13))).symm) rfl dX5_mayTrade_18
  · refine j_iconst (v := (-1)) C dX5_mayTrade_7 (by decide) ?_
    subst hQ; exact j_iret C hr hk ((show f_X5_mayTrade_r v f k y q = (-1) from (if_pos c4)).symm) rfl dX5_mayTrade_8
