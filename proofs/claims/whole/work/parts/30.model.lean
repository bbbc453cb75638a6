/-! THE MODEL: the leaves -/
noncomputable def f_X5_in_x1 (x : Int64) (y : Int64) (z : Int64) : Int32 := (if lg_cmp x y < 0 then 0 else (if 0 < lg_cmp x z then 0 else 1))
noncomputable def f_X5_in_r (x : Int64) (y : Int64) (z : Int64) : Int32 := (f_X5_in_x1 x y z)
set_option maxRecDepth 100000 in
set_option maxHeartbeats 4000000 in
theorem m_X5_in (l : Launch) (G : GG) (x : Int64) (y : Int64) (z : Int64)  : CtI l yX5_in cX5_in 6 (some .boolean) (RM 0) G [.long x, .long y, .long z] ([]) (f_X5_in_r x y z) ([]) := by
  refine ct_I RX5 [(0, .long x), (2, .long y), (4, .long z)] rfl (by decide +kernel) (Nat.le_of_ble_eq_true rfl) rfl ?_
  intro p e s m args below meth c A C hr hk hnm
  generalize hQ : (MQ below (PostI G A (f_X5_in_r x y z) ([])) args s (RM 0).cells (RM 0).slots A) = Q
  refine j_lload_n C dX5_in_0 0 rfl ?_
  refine j_lload_n C dX5_in_1 1 rfl ?_
  refine j_lcmp C dX5_in_2 ?_
  have K18 : WJ p l e (RM 0) s m args below meth c G A 6 0 0 Q ([]) [(0, .long x), (2, .long y), (4, .long z)] 18 [.int (f_X5_in_x1 x y z)] := by
    generalize hw0 : f_X5_in_x1 x y z = w0
    subst hQ; subst hw0; exact j_zret C hr hk (by unfold f_X5_in_x1; (repeat' split) <;> rfl) ((show f_X5_in_r x y z = (f_X5_in_x1 x y z) from rfl).symm) rfl dX5_in_18
  refine j_if_lt (tgt := 17) C dX5_in_3 (by decide) (fun c3 => ?_) (fun c3 => ?_)
  · refine j_iconst (v := 0) C dX5_in_17 (by decide) ?_
    exact j_eq rfl rfl (by rw [show f_X5_in_x1 x y z = 0 from (if_pos c3)]) K18
  · refine j_lload_n C dX5_in_6 0 rfl ?_
    refine j_lload C dX5_in_7 2 rfl ?_
    refine j_lcmp C dX5_in_9 ?_
    refine j_if_gt (tgt := 17) C dX5_in_10 (by decide) (fun c10 => ?_) (fun c10 => ?_)
    · refine j_iconst (v := 0) C dX5_in_17 (by decide) ?_
      exact j_eq rfl rfl (by rw [show f_X5_in_x1 x y z = 0 from ((if_neg c3).trans (if_pos c10))]) K18
    · refine j_iconst (v := 1) C dX5_in_13 (by decide) ?_
      refine j_goto (tgt := 18) C dX5_in_14 (by decide) ?_
      exact j_eq rfl rfl (by rw [show f_X5_in_x1 x y z = 1 from ((if_neg c3).trans (if_neg c10))]) K18
theorem nrz_in (x y z : Int64) : narrow .boolean (.int (f_X5_in_r x y z)) = .int (f_X5_in_r x y z) := by
  unfold f_X5_in_r f_X5_in_x1
  (repeat' split) <;> rfl
noncomputable def f_X5_areMinutes_r (k : Int32) : Int32 := f_X5_in_r k.toInt64 1 600
set_option maxRecDepth 100000 in
set_option maxHeartbeats 4000000 in
theorem m_X5_areMinutes (l : Launch) (G : GG) (k : Int32)  : CtI l yX5_areMinutes cX5_areMinutes 1 (some .boolean) (RM 1) G [.int k] ([]) (f_X5_areMinutes_r k) ([]) := by
  refine ct_I RX5 [(0, .int k)] rfl (by decide +kernel) (Nat.le_of_ble_eq_true rfl) rfl ?_
  intro p e s m args below meth c A C hr hk hnm
  generalize hQ : (MQ below (PostI G A (f_X5_areMinutes_r k) ([])) args s (RM 1).cells (RM 1).slots A) = Q
  refine j_iload_n C dX5_areMinutes_0 0 rfl ?_
  refine j_i2l C dX5_areMinutes_1 rfl ?_
  refine j_lconst (v := 1) C dX5_areMinutes_2 (by decide) ?_
  refine j_ldc2 (v := 600) C kw_601 dX5_areMinutes_3 ?_
  refine j_pureS_i (r := f_X5_in_r k.toInt64 1 600) C (m_X5_in l G k.toInt64 1 600) 3 (gS kw_523 kw_524 kw_7 kw_525) (by decide +kernel) ⟨(Nat.le_of_ble_eq_true rfl), (Nat.le_of_ble_eq_true rfl)⟩ rfl rfl (Nat.le_of_ble_eq_true rfl) dX5_areMinutes_6 ⟨(Nat.le_of_ble_eq_true rfl), (Nat.le_of_ble_eq_true rfl)⟩ ?_
  subst hQ; exact j_zret C hr hk (by exact nrz_in _ _ _) ((show f_X5_areMinutes_r k = f_X5_in_r k.toInt64 1 600 from rfl).symm) rfl dX5_areMinutes_9
noncomputable def f_X5_isDrive_r (k : Int32) : Int32 := f_X5_in_r k.toInt64 0 3
set_option maxRecDepth 100000 in
set_option maxHeartbeats 4000000 in
theorem m_X5_isDrive (l : Launch) (G : GG) (k : Int32)  : CtI l yX5_isDrive cX5_isDrive 1 (some .boolean) (RM 1) G [.int k] ([]) (f_X5_isDrive_r k) ([]) := by
  refine ct_I RX5 [(0, .int k)] rfl (by decide +kernel) (Nat.le_of_ble_eq_true rfl) rfl ?_
  intro p e s m args below meth c A C hr hk hnm
  generalize hQ : (MQ below (PostI G A (f_X5_isDrive_r k) ([])) args s (RM 1).cells (RM 1).slots A) = Q
  refine j_iload_n C dX5_isDrive_0 0 rfl ?_
  refine j_i2l C dX5_isDrive_1 rfl ?_
  refine j_lconst (v := 0) C dX5_isDrive_2 (by decide) ?_
  refine j_ldc2 (v := 3) C kw_554 dX5_isDrive_3 ?_
  refine j_pureS_i (r := f_X5_in_r k.toInt64 0 3) C (m_X5_in l G k.toInt64 0 3) 3 (gS kw_523 kw_524 kw_7 kw_525) (by decide +kernel) ⟨(Nat.le_of_ble_eq_true rfl), (Nat.le_of_ble_eq_true rfl)⟩ rfl rfl (Nat.le_of_ble_eq_true rfl) dX5_isDrive_6 ⟨(Nat.le_of_ble_eq_true rfl), (Nat.le_of_ble_eq_true rfl)⟩ ?_
  subst hQ; exact j_zret C hr hk (by exact nrz_in _ _ _) ((show f_X5_isDrive_r k = f_X5_in_r k.toInt64 0 3 from rfl).symm) rfl dX5_isDrive_9
noncomputable def f_X5_isHour_r (k : Int32) : Int32 := f_X5_in_r k.toInt64 0 99
set_option maxRecDepth 100000 in
set_option maxHeartbeats 4000000 in
theorem m_X5_isHour (l : Launch) (G : GG) (k : Int32)  : CtI l yX5_isHour cX5_isHour 1 (some .boolean) (RM 1) G [.int k] ([]) (f_X5_isHour_r k) ([]) := by
  refine ct_I RX5 [(0, .int k)] rfl (by decide +kernel) (Nat.le_of_ble_eq_true rfl) rfl ?_
  intro p e s m args below meth c A C hr hk hnm
  generalize hQ : (MQ below (PostI G A (f_X5_isHour_r k) ([])) args s (RM 1).cells (RM 1).slots A) = Q
  refine j_iload_n C dX5_isHour_0 0 rfl ?_
  refine j_i2l C dX5_isHour_1 rfl ?_
  refine j_lconst (v := 0) C dX5_isHour_2 (by decide) ?_
  refine j_ldc2 (v := 99) C kw_542 dX5_isHour_3 ?_
  refine j_pureS_i (r := f_X5_in_r k.toInt64 0 99) C (m_X5_in l G k.toInt64 0 99) 3 (gS kw_523 kw_524 kw_7 kw_525) (by decide +kernel) ⟨(Nat.le_of_ble_eq_true rfl), (Nat.le_of_ble_eq_true rfl)⟩ rfl rfl (Nat.le_of_ble_eq_true rfl) dX5_isHour_6 ⟨(Nat.le_of_ble_eq_true rfl), (Nat.le_of_ble_eq_true rfl)⟩ ?_
  subst hQ; exact j_zret C hr hk (by exact nrz_in _ _ _) ((show f_X5_isHour_r k = f_X5_in_r k.toInt64 0 99 from rfl).symm) rfl dX5_isHour_9
noncomputable def f_X5_least_x1 (x : Int64) (y : Int64) : Int64 := (if 0 ≤ lg_cmp x y then y else x)
noncomputable def f_X5_least_r (x : Int64) (y : Int64) : Int64 := (f_X5_least_x1 x y)
set_option maxRecDepth 100000 in
set_option maxHeartbeats 4000000 in
theorem m_X5_least (l : Launch) (G : GG) (x : Int64) (y : Int64)  : CtL l yX5_least cX5_least 4 (some .long) (RM 0) G [.long x, .long y] ([]) (f_X5_least_r x y) ([]) := by
  refine ct_L RX5 [(0, .long x), (2, .long y)] rfl (by decide +kernel) (Nat.le_of_ble_eq_true rfl) rfl ?_
  intro p e s m args below meth c A C hr hk hnm
  generalize hQ : (MQ below (PostL G A (f_X5_least_r x y) ([])) args s (RM 0).cells (RM 0).slots A) = Q
  refine j_lload_n C dX5_least_0 0 rfl ?_
  refine j_lload_n C dX5_least_1 1 rfl ?_
  refine j_lcmp C dX5_least_2 ?_
  have K11 : WJ p l e (RM 0) s m args below meth c G A 4 0 0 Q ([]) [(0, .long x), (2, .long y)] 11 [.long (f_X5_least_x1 x y)] := by
    generalize hw0 : f_X5_least_x1 x y = w0
    subst hQ; subst hw0; exact j_lret C hr hk ((show f_X5_least_r x y = (f_X5_least_x1 x y) from rfl).symm) rfl dX5_least_11
  refine j_if_ge (tgt := 10) C dX5_least_3 (by decide) (fun c3 => ?_) (fun c3 => ?_)
  · refine j_lload_n C dX5_least_10 1 rfl ?_
    exact j_eq rfl rfl (by rw [show f_X5_least_x1 x y = y from (if_pos c3)]) K11
  · refine j_lload_n C dX5_least_6 0 rfl ?_
    refine j_goto (tgt := 11) C dX5_least_7 (by decide) ?_
    exact j_eq rfl rfl (by rw [show f_X5_least_x1 x y = x from (if_neg c3)]) K11
noncomputable def f_X5_byteOf_r (x : Int64) (k : Int32) : Int32 := ((x >>> ((8 * k).toInt64 &&& 63)) &&& 255).toInt32
set_option maxRecDepth 100000 in
set_option maxHeartbeats 4000000 in
theorem m_X5_byteOf (l : Launch) (G : GG) (x : Int64) (k : Int32)  : CtI l yX5_byteOf cX5_byteOf 3 (some .int) (RM 0) G [.long x, .int k] ([]) (f_X5_byteOf_r x k) ([]) := by
  refine ct_I RX5 [(0, .long x), (2, .int k)] rfl (by decide +kernel) (Nat.le_of_ble_eq_true rfl) rfl ?_
  intro p e s m args below meth c A C hr hk hnm
  generalize hQ : (MQ below (PostI G A (f_X5_byteOf_r x k) ([])) args s (RM 0).cells (RM 0).slots A) = Q
  refine j_lload_n C dX5_byteOf_0 0 rfl ?_
  refine j_bipush (v := 8) C dX5_byteOf_1 (by decide) ?_
  refine j_iload_n C dX5_byteOf_3 1 rfl ?_
  refine j_imul C dX5_byteOf_4 rfl ?_
  refine j_lshr C dX5_byteOf_5 ?_
  refine j_ldc2 (v := 255) C kw_720 dX5_byteOf_6 ?_
  refine j_land C dX5_byteOf_9 rfl ?_
  refine j_l2i C dX5_byteOf_10 rfl ?_
  subst hQ; exact j_iret C hr hk ((show f_X5_byteOf_r x k = ((x >>> ((8 * k).toInt64 &&& 63)) &&& 255).toInt32 from rfl).symm) rfl dX5_byteOf_11
noncomputable def f_X5_row_r (k : Int32) : Int32 := 12 + (11 * k)
set_option maxRecDepth 100000 in
set_option maxHeartbeats 4000000 in
theorem m_X5_row (l : Launch) (G : GG) (k : Int32)  : CtI l yX5_row cX5_row 1 (some .int) (RM 0) G [.int k] ([]) (f_X5_row_r k) ([]) := by
  refine ct_I RX5 [(0, .int k)] rfl (by decide +kernel) (Nat.le_of_ble_eq_true rfl) rfl ?_
  intro p e s m args below meth c A C hr hk hnm
  generalize hQ : (MQ below (PostI G A (f_X5_row_r k) ([])) args s (RM 0).cells (RM 0).slots A) = Q
  refine j_bipush (v := 12) C dX5_row_0 (by decide) ?_
  refine j_bipush (v := 11) C dX5_row_2 (by decide) ?_
  refine j_iload_n C dX5_row_4 0 rfl ?_
  refine j_imul C dX5_row_5 rfl ?_
  refine j_iadd C dX5_row_6 rfl ?_
  subst hQ; exact j_iret C hr hk ((show f_X5_row_r k = 12 + (11 * k) from rfl).symm) rfl dX5_row_7
theorem vin_hourOf {k : Int32} {t : Int64} (hd : vp_in k 4) (h0 : ¬ lg_cmp t 0 < 0) (h1 : lg_cmp t 100 < 0) : vp_in (56 + 100 * k + t.toInt32) 456 := by
  obtain ⟨j, hj, rfl⟩ := vp_in_of hd (by decide)
  have h0 := mt (lg_cmp_lt t 0).mpr h0
  have h1 := (lg_cmp_lt t 100).mp h1
  have h0 : (0 : Int) ≤ t.toInt := by simpa using Int64.le_iff_toInt_le.mp (Int64.not_lt.mp h0)
  have h1 : t.toInt < 100 := by simpa using Int64.lt_iff_toInt_lt.mp h1
  have e : t.toInt32.toInt = t.toInt := by
    rw [Int64.toInt_toInt32]
    exact Int.bmod_eq_of_le (by omega) (by omega)
  rw [vp_in_iff]
  rcases (show j = 0 ∨ j = 1 ∨ j = 2 ∨ j = 3 by omega) with rfl | rfl | rfl | rfl
  · rw [show (56 + 100 * nI 0 : Int32) = 56 by decide, Int32.toInt_add, e, show (56 : Int32).toInt = 56 by decide, Int.bmod_eq_of_le (by omega) (by omega)]; omega
  · rw [show (56 + 100 * nI 1 : Int32) = 156 by decide, Int32.toInt_add, e, show (156 : Int32).toInt = 156 by decide, Int.bmod_eq_of_le (by omega) (by omega)]; omega
  · rw [show (56 + 100 * nI 2 : Int32) = 256 by decide, Int32.toInt_add, e, show (256 : Int32).toInt = 256 by decide, Int.bmod_eq_of_le (by omega) (by omega)]; omega
  · rw [show (56 + 100 * nI 3 : Int32) = 356 by decide, Int32.toInt_add, e, show (356 : Int32).toInt = 356 by decide, Int.bmod_eq_of_le (by omega) (by omega)]; omega
noncomputable def f_X5_hourOf_x1 (f : Nat → Int64) (k : Int32) (t : Int64) : Int32 := (if lg_cmp t 0 < 0 then 0 else (if lg_cmp t 100 < 0 then (f ((56 + (100 * k)) + t.toInt32).toNatClampNeg).toInt32 else 0))
noncomputable def f_X5_hourOf_r (f : Nat → Int64) (k : Int32) (t : Int64) : Int32 := (f_X5_hourOf_x1 f k t)
set_option maxRecDepth 100000 in
set_option maxHeartbeats 4000000 in
theorem m_X5_hourOf (l : Launch) (G : GG) (a : Nat) (f : Nat → Int64) (k : Int32) (t : Int64) (hd : vp_in k 4) : CtI l yX5_hourOf cX5_hourOf 4 (some .int) (RM 0) G [.ref a, .int k, .long t] ([aJ G a 456 f]) (f_X5_hourOf_r f k t) ([aJ G a 456 f]) := by
  refine ct_I RX5 [(0, .ref a), (1, .int k), (2, .long t)] rfl (by decide +kernel) (Nat.le_of_ble_eq_true rfl) rfl ?_
  intro p e s m args below meth c A C hr hk hnm
  generalize hQ : (MQ below (PostI G A (f_X5_hourOf_r f k t) ([aJ G a 456 f])) args s (RM 0).cells (RM 0).slots A) = Q
  refine j_lload_n C dX5_hourOf_0 2 rfl ?_
  refine j_lconst (v := 0) C dX5_hourOf_1 (by decide) ?_
  refine j_lcmp C dX5_hourOf_2 ?_
  have K31 : WJ p l e (RM 0) s m args below meth c G A 4 0 0 Q ([aJ G a 456 f]) [(0, .ref a), (1, .int k), (2, .long t)] 31 [.int (f_X5_hourOf_x1 f k t)] := by
    generalize hw0 : f_X5_hourOf_x1 f k t = w0
    subst hQ; subst hw0; exact j_iret C hr hk ((show f_X5_hourOf_r f k t = (f_X5_hourOf_x1 f k t) from rfl).symm) rfl dX5_hourOf_31
  refine j_if_lt (tgt := 14) C dX5_hourOf_3 (by decide) (fun c3 => ?_) (fun c3 => ?_)
  · refine j_iconst (v := 0) C dX5_hourOf_14 (by decide) ?_
    refine j_goto (tgt := 31) C dX5_hourOf_15 (by decide) ?_
    exact j_eq rfl rfl (by rw [show f_X5_hourOf_x1 f k t = 0 from (if_pos c3)]) K31
  · refine j_lload_n C dX5_hourOf_6 2 rfl ?_
    refine j_ldc2 (v := 100) C kw_583 dX5_hourOf_7 ?_
    refine j_lcmp C dX5_hourOf_10 ?_
    refine j_if_lt (tgt := 18) C dX5_hourOf_11 (by decide) (fun c11 => ?_) (fun c11 => ?_)
    · refine j_aload_n C dX5_hourOf_18 0 rfl ?_
      refine j_bipush (v := 56) C dX5_hourOf_19 (by decide) ?_
      refine j_bipush (v := 100) C dX5_hourOf_21 (by decide) ?_
      refine j_iload_n C dX5_hourOf_23 1 rfl ?_
      refine j_imul C dX5_hourOf_24 rfl ?_
      refine j_iadd C dX5_hourOf_25 rfl ?_
      refine j_lload_n C dX5_hourOf_26 2 rfl ?_
      refine j_l2i C dX5_hourOf_27 rfl ?_
      refine j_iadd C dX5_hourOf_28 rfl ?_
      refine j_lald C 0 rfl (vin_hourOf hd c3 c11) (v := f ((56 + (100 * k)) + t.toInt32).toNatClampNeg) rfl dX5_hourOf_29 ?_
      refine j_l2i C dX5_hourOf_30 rfl ?_
      exact j_eq rfl rfl (by rw [show f_X5_hourOf_x1 f k t = (f ((56 + (100 * k)) + t.toInt32).toNatClampNeg).toInt32 from ((if_neg c3).trans (if_pos c11))]) K31
    · refine j_iconst (v := 0) C dX5_hourOf_14 (by decide) ?_
      refine j_goto (tgt := 31) C dX5_hourOf_15 (by decide) ?_
      exact j_eq rfl rfl (by rw [show f_X5_hourOf_x1 f k t = 0 from ((if_neg c3).trans (if_neg c11))]) K31
noncomputable def f_X5_isQuiet_x2 (f : Nat → Int64) (k : Int32) : Int32 := (if f_X5_hourOf_r f k ((f 0) / 60) ≤ 0 then 0 else 1)
noncomputable def f_X5_isQuiet_r (f : Nat → Int64) (k : Int32) : Int32 := (f_X5_isQuiet_x2 f k)
set_option maxRecDepth 100000 in
set_option maxHeartbeats 4000000 in
theorem m_X5_isQuiet (l : Launch) (G : GG) (a : Nat) (f : Nat → Int64) (k : Int32) (hd : vp_in k 4) : CtI l yX5_isQuiet cX5_isQuiet 2 (some .boolean) (RM 1) G [.ref a, .int k] ([aJ G a 456 f]) (f_X5_isQuiet_r f k) ([aJ G a 456 f]) := by
  refine ct_I RX5 [(0, .ref a), (1, .int k)] rfl (by decide +kernel) (Nat.le_of_ble_eq_true rfl) rfl ?_
  intro p e s m args below meth c A C hr hk hnm
  generalize hQ : (MQ below (PostI G A (f_X5_isQuiet_r f k) ([aJ G a 456 f])) args s (RM 1).cells (RM 1).slots A) = Q
  refine j_aload_n C dX5_isQuiet_0 0 rfl ?_
  refine j_iload_n C dX5_isQuiet_1 1 rfl ?_
  refine j_aload_n C dX5_isQuiet_2 0 rfl ?_
  refine j_iconst (v := 0) C dX5_isQuiet_3 (by decide) ?_
  refine j_lald C 0 rfl (vin_lit rfl) (v := f 0) rfl dX5_isQuiet_4 ?_
  refine j_ldc2 (v := 60) C kw_480 dX5_isQuiet_5 ?_
  refine j_ldiv C dX5_isQuiet_8 (by decide) rfl ?_
  refine j_callS_i (r := f_X5_hourOf_r f k ((f 0) / 60)) (wc' := [aJ G a 456 f]) C (m_X5_hourOf l G a f k ((f 0) / 60) hd) 3 (gS kw_580 kw_581 kw_7 kw_582) (by decide +kernel) ⟨(Nat.le_of_ble_eq_true rfl), (Nat.le_of_ble_eq_true rfl)⟩ rfl rfl (Nat.le_of_ble_eq_true rfl) dX5_isQuiet_9 ⟨(Nat.le_of_ble_eq_true rfl), (Nat.le_of_ble_eq_true rfl)⟩ [] [aJ G a 456 f] (perm_idx [0] 1 rfl (by decide +kernel) rfl) rfl ?_
  have K20 : WJ p l e (RM 1) s m args below meth c G A 2 0 0 Q ([aJ G a 456 f]) [(0, .ref a), (1, .int k)] 20 [.int (f_X5_isQuiet_x2 f k)] := by
    generalize hw0 : f_X5_isQuiet_x2 f k = w0
    subst hQ; subst hw0; exact j_zret C hr hk (by unfold f_X5_isQuiet_x2; (repeat' split) <;> rfl) ((show f_X5_isQuiet_r f k = (f_X5_isQuiet_x2 f k) from rfl).symm) rfl dX5_isQuiet_20
  refine j_if_le (tgt := 19) C dX5_isQuiet_12 (by decide) (fun c12 => ?_) (fun c12 => ?_)
  · refine j_iconst (v := 0) C dX5_isQuiet_19 (by decide) ?_
    exact j_eq rfl rfl (by rw [show f_X5_isQuiet_x2 f k = 0 from (if_pos c12)]) K20
  · refine j_iconst (v := 1) C dX5_isQuiet_15 (by decide) ?_
    refine j_goto (tgt := 20) C dX5_isQuiet_16 (by decide) ?_
    exact j_eq rfl rfl (by rw [show f_X5_isQuiet_x2 f k = 1 from (if_neg c12)]) K20
noncomputable def f_X5_overruns_r (f : Nat → Int64) : Int64 := (((0 + (f ((f_X5_row_r 0) + 7).toNatClampNeg)) + (f ((f_X5_row_r 1) + 7).toNatClampNeg)) + (f ((f_X5_row_r 2) + 7).toNatClampNeg)) + (f ((f_X5_row_r 3) + 7).toNatClampNeg)
set_option maxRecDepth 100000 in
set_option maxHeartbeats 4000000 in
theorem m_X5_overruns (l : Launch) (G : GG) (a : Nat) (f : Nat → Int64)  : CtL l yX5_overruns cX5_overruns 4 (some .long) (RM 1) G [.ref a] ([aJ G a 456 f]) (f_X5_overruns_r f) ([aJ G a 456 f]) := by
  refine ct_L RX5 [(0, .ref a)] rfl (by decide +kernel) (Nat.le_of_ble_eq_true rfl) rfl ?_
  intro p e s m args below meth c A C hr hk hnm
  generalize hQ : (MQ below (PostL G A (f_X5_overruns_r f) ([aJ G a 456 f])) args s (RM 1).cells (RM 1).slots A) = Q
  refine j_lconst (v := 0) C dX5_overruns_0 (by decide) ?_
  refine j_lstore_n C [(1, .long 0), (0, .ref a)] dX5_overruns_1 (by decide) rfl ?_
  refine j_iconst (v := 0) C dX5_overruns_2 (by decide) ?_
  refine j_istore_n C [(3, .int 0), (1, .long 0), (0, .ref a)] dX5_overruns_3 (by decide) rfl ?_
  refine j_iload_n C dX5_overruns_4 0 rfl ?_
  refine j_iconst (v := 4) C dX5_overruns_5 (by decide) ?_
  refine j_icmp_ge (tgt := 27) C dX5_overruns_6 (by decide) (fun h => absurd h (by decide)) (fun _ => ?_)
  refine j_lload_n C dX5_overruns_9 1 rfl ?_
  refine j_aload_n C dX5_overruns_10 2 rfl ?_
  refine j_iload_n C dX5_overruns_11 0 rfl ?_
  refine j_pureS_i (r := f_X5_row_r 0) C (m_X5_row l G 0) 1 (gS kw_486 kw_487 kw_7 kw_488) (by decide +kernel) ⟨(Nat.le_of_ble_eq_true rfl), (Nat.le_of_ble_eq_true rfl)⟩ rfl rfl (Nat.le_of_ble_eq_true rfl) dX5_overruns_12 ⟨(Nat.le_of_ble_eq_true rfl), (Nat.le_of_ble_eq_true rfl)⟩ ?_
  refine j_bipush (v := 7) C dX5_overruns_15 (by decide) ?_
  refine j_iadd C dX5_overruns_17 rfl ?_
  refine j_lald C 0 rfl (vin_lit (by decide)) (v := f ((f_X5_row_r 0) + 7).toNatClampNeg) rfl dX5_overruns_18 ?_
  refine j_ladd C dX5_overruns_19 rfl ?_
  refine j_lstore_n C [(1, .long (0 + (f ((f_X5_row_r 0) + 7).toNatClampNeg))), (3, .int 0), (0, .ref a)] dX5_overruns_20 (by decide) rfl ?_
  refine j_iinc (v := 1) C [(3, .int 1), (1, .long (0 + (f ((f_X5_row_r 0) + 7).toNatClampNeg))), (0, .ref a)] dX5_overruns_21 (k := 1) rfl (by decide) (by decide) rfl ?_
  refine j_goto (tgt := 4) C dX5_overruns_24 (by decide) ?_
  refine j_iload_n C dX5_overruns_4 0 rfl ?_
  refine j_iconst (v := 4) C dX5_overruns_5 (by decide) ?_
  refine j_icmp_ge (tgt := 27) C dX5_overruns_6 (by decide) (fun h => absurd h (by decide)) (fun _ => ?_)
  refine j_lload_n C dX5_overruns_9 1 rfl ?_
  refine j_aload_n C dX5_overruns_10 2 rfl ?_
  refine j_iload_n C dX5_overruns_11 0 rfl ?_
  refine j_pureS_i (r := f_X5_row_r 1) C (m_X5_row l G 1) 1 (gS kw_486 kw_487 kw_7 kw_488) (by decide +kernel) ⟨(Nat.le_of_ble_eq_true rfl), (Nat.le_of_ble_eq_true rfl)⟩ rfl rfl (Nat.le_of_ble_eq_true rfl) dX5_overruns_12 ⟨(Nat.le_of_ble_eq_true rfl), (Nat.le_of_ble_eq_true rfl)⟩ ?_
  refine j_bipush (v := 7) C dX5_overruns_15 (by decide) ?_
  refine j_iadd C dX5_overruns_17 rfl ?_
  refine j_lald C 0 rfl (vin_lit (by decide)) (v := f ((f_X5_row_r 1) + 7).toNatClampNeg) rfl dX5_overruns_18 ?_
  refine j_ladd C dX5_overruns_19 rfl ?_
  refine j_lstore_n C [(1, .long ((0 + (f ((f_X5_row_r 0) + 7).toNatClampNeg)) + (f ((f_X5_row_r 1) + 7).toNatClampNeg))), (3, .int 1), (0, .ref a)] dX5_overruns_20 (by decide) rfl ?_
  refine j_iinc (v := 2) C [(3, .int 2), (1, .long ((0 + (f ((f_X5_row_r 0) + 7).toNatClampNeg)) + (f ((f_X5_row_r 1) + 7).toNatClampNeg))), (0, .ref a)] dX5_overruns_21 (k := 1) rfl (by decide) (by decide) rfl ?_
  refine j_goto (tgt := 4) C dX5_overruns_24 (by decide) ?_
  refine j_iload_n C dX5_overruns_4 0 rfl ?_
  refine j_iconst (v := 4) C dX5_overruns_5 (by decide) ?_
  refine j_icmp_ge (tgt := 27) C dX5_overruns_6 (by decide) (fun h => absurd h (by decide)) (fun _ => ?_)
  refine j_lload_n C dX5_overruns_9 1 rfl ?_
  refine j_aload_n C dX5_overruns_10 2 rfl ?_
  refine j_iload_n C dX5_overruns_11 0 rfl ?_
  refine j_pureS_i (r := f_X5_row_r 2) C (m_X5_row l G 2) 1 (gS kw_486 kw_487 kw_7 kw_488) (by decide +kernel) ⟨(Nat.le_of_ble_eq_true rfl), (Nat.le_of_ble_eq_true rfl)⟩ rfl rfl (Nat.le_of_ble_eq_true rfl) dX5_overruns_12 ⟨(Nat.le_of_ble_eq_true rfl), (Nat.le_of_ble_eq_true rfl)⟩ ?_
  refine j_bipush (v := 7) C dX5_overruns_15 (by decide) ?_
  refine j_iadd C dX5_overruns_17 rfl ?_
  refine j_lald C 0 rfl (vin_lit (by decide)) (v := f ((f_X5_row_r 2) + 7).toNatClampNeg) rfl dX5_overruns_18 ?_
  refine j_ladd C dX5_overruns_19 rfl ?_
  refine j_lstore_n C [(1, .long (((0 + (f ((f_X5_row_r 0) + 7).toNatClampNeg)) + (f ((f_X5_row_r 1) + 7).toNatClampNeg)) + (f ((f_X5_row_r 2) + 7).toNatClampNeg))), (3, .int 2), (0, .ref a)] dX5_overruns_20 (by decide) rfl ?_
  refine j_iinc (v := 3) C [(3, .int 3), (1, .long (((0 + (f ((f_X5_row_r 0) + 7).toNatClampNeg)) + (f ((f_X5_row_r 1) + 7).toNatClampNeg)) + (f ((f_X5_row_r 2) + 7).toNatClampNeg))), (0, .ref a)] dX5_overruns_21 (k := 1) rfl (by decide) (by decide) rfl ?_
  refine j_goto (tgt := 4) C dX5_overruns_24 (by decide) ?_
  refine j_iload_n C dX5_overruns_4 0 rfl ?_
  refine j_iconst (v := 4) C dX5_overruns_5 (by decide) ?_
  refine j_icmp_ge (tgt := 27) C dX5_overruns_6 (by decide) (fun h => absurd h (by decide)) (fun _ => ?_)
  refine j_lload_n C dX5_overruns_9 1 rfl ?_
  refine j_aload_n C dX5_overruns_10 2 rfl ?_
  refine j_iload_n C dX5_overruns_11 0 rfl ?_
  refine j_pureS_i (r := f_X5_row_r 3) C (m_X5_row l G 3) 1 (gS kw_486 kw_487 kw_7 kw_488) (by decide +kernel) ⟨(Nat.le_of_ble_eq_true rfl), (Nat.le_of_ble_eq_true rfl)⟩ rfl rfl (Nat.le_of_ble_eq_true rfl) dX5_overruns_12 ⟨(Nat.le_of_ble_eq_true rfl), (Nat.le_of_ble_eq_true rfl)⟩ ?_
  refine j_bipush (v := 7) C dX5_overruns_15 (by decide) ?_
  refine j_iadd C dX5_overruns_17 rfl ?_
  refine j_lald C 0 rfl (vin_lit (by decide)) (v := f ((f_X5_row_r 3) + 7).toNatClampNeg) rfl dX5_overruns_18 ?_
  refine j_ladd C dX5_overruns_19 rfl ?_
  refine j_lstore_n C [(1, .long ((((0 + (f ((f_X5_row_r 0) + 7).toNatClampNeg)) + (f ((f_X5_row_r 1) + 7).toNatClampNeg)) + (f ((f_X5_row_r 2) + 7).toNatClampNeg)) + (f ((f_X5_row_r 3) + 7).toNatClampNeg))), (3, .int 3), (0, .ref a)] dX5_overruns_20 (by decide) rfl ?_
  refine j_iinc (v := 4) C [(3, .int 4), (1, .long ((((0 + (f ((f_X5_row_r 0) + 7).toNatClampNeg)) + (f ((f_X5_row_r 1) + 7).toNatClampNeg)) + (f ((f_X5_row_r 2) + 7).toNatClampNeg)) + (f ((f_X5_row_r 3) + 7).toNatClampNeg))), (0, .ref a)] dX5_overruns_21 (k := 1) rfl (by decide) (by decide) rfl ?_
  refine j_goto (tgt := 4) C dX5_overruns_24 (by decide) ?_
  refine j_iload_n C dX5_overruns_4 0 rfl ?_
  refine j_iconst (v := 4) C dX5_overruns_5 (by decide) ?_
  refine j_icmp_ge (tgt := 27) C dX5_overruns_6 (by decide) (fun _ => ?_) (fun h => absurd h (by decide))
  refine j_lload_n C dX5_overruns_27 1 rfl ?_
  subst hQ; exact j_lret C hr hk ((show f_X5_overruns_r f = (((0 + (f ((f_X5_row_r 0) + 7).toNatClampNeg)) + (f ((f_X5_row_r 1) + 7).toNatClampNeg)) + (f ((f_X5_row_r 2) + 7).toNatClampNeg)) + (f ((f_X5_row_r 3) + 7).toNatClampNeg) from rfl).symm) rfl dX5_overruns_28
noncomputable def f_X5_moves_f (f : Nat → Int64) (k : Int32) (j : Int32) (x : Int64) : (Nat → Int64) := vp_updL (vp_updL f k.toNatClampNeg ((f k.toNatClampNeg) - x)) j.toNatClampNeg (((vp_updL f k.toNatClampNeg ((f k.toNatClampNeg) - x)) j.toNatClampNeg) + x)
set_option maxRecDepth 100000 in
set_option maxHeartbeats 4000000 in
theorem m_X5_moves (l : Launch) (G : GG) (a : Nat) (f : Nat → Int64) (k : Int32) (j : Int32) (x : Int64) (h1 : vp_in k 456) (h2 : vp_in j 456) : CtV l yX5_moves cX5_moves 5 (none : Option Jvm.ClassFile.FieldType) (RM 0) G [.ref a, .int k, .int j, .long x] ([aJ G a 456 f]) ([aJ G a 456 (f_X5_moves_f f k j x)]) := by
  refine ct_V RX5 [(0, .ref a), (1, .int k), (2, .int j), (3, .long x)] rfl (by decide +kernel) (Nat.le_of_ble_eq_true rfl) rfl ?_
  intro p e s m args below meth c A C hr hk hnm
  generalize hQ : (MQ below (PostV G A ([aJ G a 456 (f_X5_moves_f f k j x)])) args s (RM 0).cells (RM 0).slots A) = Q
  refine j_aload_n C dX5_moves_0 0 rfl ?_
  refine j_iload_n C dX5_moves_1 1 rfl ?_
  refine j_dup2_11 C dX5_moves_2 rfl rfl ?_
  refine j_lald C 0 rfl h1 (v := f k.toNatClampNeg) rfl dX5_moves_3 ?_
  refine j_lload_n C dX5_moves_4 3 rfl ?_
  refine j_lsub C dX5_moves_5 rfl ?_
  generalize hw0 : (f k.toNatClampNeg) - x = w0
  refine j_last C 0 rfl h1 ([aJ G a 456 (vp_updL f k.toNatClampNeg w0)]) rfl dX5_moves_6 ?_
  refine j_aload_n C dX5_moves_7 0 rfl ?_
  refine j_iload_n C dX5_moves_8 2 rfl ?_
  refine j_dup2_11 C dX5_moves_9 rfl rfl ?_
  refine j_lald C 0 rfl h2 (v := (vp_updL f k.toNatClampNeg w0) j.toNatClampNeg) rfl dX5_moves_10 ?_
  refine j_lload_n C dX5_moves_11 3 rfl ?_
  refine j_ladd C dX5_moves_12 rfl ?_
  generalize hw1 : ((vp_updL f k.toNatClampNeg w0) j.toNatClampNeg) + x = w1
  refine j_last C 0 rfl h2 ([aJ G a 456 (vp_updL (vp_updL f k.toNatClampNeg w0) j.toNatClampNeg w1)]) rfl dX5_moves_13 ?_
  subst hQ; subst hw0 hw1; exact j_vret C hr hk (by rw [show f_X5_moves_f f k j x = vp_updL (vp_updL f k.toNatClampNeg ((f k.toNatClampNeg) - x)) j.toNatClampNeg (((vp_updL f k.toNatClampNeg ((f k.toNatClampNeg) - x)) j.toNatClampNeg) + x) from rfl]) dX5_moves_14
/-- the first i of the numbers from f at k on, laid into g from j on -/
def lay (f : Nat → Int64) (k : Int32) (g : Nat → Int64) (j : Int32) : Nat → Nat → Int64
  | 0 => g
  | i + 1 => vp_updL (lay f k g j i) (j + nI i).toNatClampNeg (f (k + nI i).toNatClampNeg)
set_option maxRecDepth 100000 in
set_option maxHeartbeats 4000000 in
theorem m_X5_lays (l : Launch) (G : GG) (a b : Nat) (N : Nat) (M : Nat) (f : Nat → Int64) (k : Int32) (g : Nat → Int64) (j : Int32) (h1 : ∀ i : Nat, i < 456 → vp_in (k + nI i) N) (h2 : ∀ i : Nat, i < 456 → vp_in (j + nI i) M) : CtV l yX5_lays cX5_lays 5 (none : Option Jvm.ClassFile.FieldType) (RM 0) G [.ref a, .int k, .ref b, .int j] ([aJ G a N f, aJ G b M g]) ([aJ G a N f, aJ G b M (lay f k g j 456)]) := by
  refine ct_V RX5 [(0, .ref a), (1, .int k), (2, .ref b), (3, .int j)] rfl (by decide +kernel) (Nat.le_of_ble_eq_true rfl) rfl ?_
  intro p e s m args below meth c A C hr hk hnm
  generalize hQ : (MQ below (PostV G A ([aJ G a N f, aJ G b M (lay f k g j 456)])) args s (RM 0).cells (RM 0).slots A) = Q
  refine j_iconst (v := 0) C dX5_lays_0 (by decide) ?_
  refine j_istore C [(4, .int 0), (0, .ref a), (1, .int k), (2, .ref b), (3, .int j)] dX5_lays_1 (by decide) rfl ?_
  have L1 : ∀ (n i : Nat), i + n = 456 → WJ p l e (RM 0) s m args below meth c G A 5 0 0 Q ([aJ G a N f, aJ G b M (lay f k g j i)]) [(4, .int (nI i)), (0, .ref a), (1, .int k), (2, .ref b), (3, .int j)] 3 [] := by
    intro n
    induction n with
    | zero =>
      intro i hIN
      have hN : i = 456 := by omega
      subst hN
      refine j_iload C dX5_lays_3 0 rfl ?_
      refine j_sipush (v := 456) C dX5_lays_5 (by decide) ?_
      refine j_icmp_ge (tgt := 29) C dX5_lays_8 (by decide) (fun c8 => ?_) (fun h => absurd (by decide) h)
      subst hQ; exact j_vret C hr hk (by rw [show (lay f k g j 456) = (lay f k g j 456) from rfl]) dX5_lays_29
    | succ n ih =>
      intro i hIN
      have hlt : i < 456 := by omega
      refine j_iload C dX5_lays_3 0 rfl ?_
      refine j_sipush (v := 456) C dX5_lays_5 (by decide) ?_
      refine j_icmp_ge (tgt := 29) C dX5_lays_8 (by decide) (fun h => absurd h (nI_ge (b := 456) hlt (by decide))) (fun c8 => ?_)
      refine j_aload_n C dX5_lays_11 3 rfl ?_
      refine j_iload_n C dX5_lays_12 4 rfl ?_
      refine j_iload C dX5_lays_13 0 rfl ?_
      refine j_iadd C dX5_lays_15 rfl ?_
      refine j_aload_n C dX5_lays_16 1 rfl ?_
      refine j_iload_n C dX5_lays_17 2 rfl ?_
      refine j_iload C dX5_lays_18 0 rfl ?_
      refine j_iadd C dX5_lays_20 rfl ?_
      refine j_lald C 0 rfl (h1 _ hlt) (v := f (k + (nI i)).toNatClampNeg) rfl dX5_lays_21 ?_
      generalize hw0 : f (k + (nI i)).toNatClampNeg = w0
      refine j_last C 1 rfl (h2 _ hlt) ([aJ G a N f, aJ G b M (vp_updL (lay f k g j i) (j + (nI i)).toNatClampNeg w0)]) rfl dX5_lays_22 ?_
      refine j_iinc (v := nI (i + 1)) C [(4, .int (nI (i + 1))), (0, .ref a), (1, .int k), (2, .ref b), (3, .int j)] dX5_lays_23 (k := 0) rfl (nI_1 i) (by decide) rfl ?_
      refine j_goto (tgt := 3) C dX5_lays_26 (by decide) ?_
      subst hw0; exact j_eq (by rw [show (lay f k g j (i + 1)) = vp_updL (lay f k g j i) (j + (nI i)).toNatClampNeg (f (k + (nI i)).toNatClampNeg) from rfl]) rfl rfl (ih (i + 1) (by omega))
  exact j_eq (by rw [show (lay f k g j 0) = g from rfl]) (by rw [show nI 0 = 0 from rfl]) rfl (L1 456 0 (by omega))
theorem vin_turns {k : Int32} {t : Int64} {f : Nat → Int64} (hd : vp_in k 4) (h : f_X5_hourOf_r f k (t - 1) = 1) : vp_in (56 + 100 * k + t.toInt32 - 1) 456 := by
  have h2 : vp_in (56 + 100 * k + (t - 1).toInt32) 456 := by
    unfold f_X5_hourOf_r f_X5_hourOf_x1 at h
    by_cases c3 : lg_cmp (t - 1) 0 < 0
    · rw [if_pos c3] at h
      exact absurd h (by decide)
    · rw [if_neg c3] at h
      by_cases c11 : lg_cmp (t - 1) 100 < 0
      · exact vin_hourOf hd c3 c11
      · rw [if_neg c11] at h
        exact absurd h (by decide)
  have e : ∀ x y : Int32, x + (y - 1) = x + y - 1 := fun x y => by rw [Int32.sub_eq_add_neg, Int32.sub_eq_add_neg, Int32.add_assoc]
  rwa [Int64.toInt32_sub, show (1 : Int64).toInt32 = 1 by decide, e] at h2
noncomputable def f_X5_turns_v2 (f : Nat → Int64) (k : Int32) : (Nat → Int64) := (if f_X5_hourOf_r f k (((f 0) / 60) - 1) = 1 then vp_updL (vp_updL f (((56 + (100 * k)) + (((f 0) / 60).toInt32)) - 1).toNatClampNeg 2) 3 (((vp_updL f (((56 + (100 * k)) + (((f 0) / 60).toInt32)) - 1).toNatClampNeg 2) 3) + ((vp_updL f (((56 + (100 * k)) + (((f 0) / 60).toInt32)) - 1).toNatClampNeg 2) 7)) else f)
noncomputable def f_X5_turns_x4 (f : Nat → Int64) (k : Int32) : Int64 := (if f_X5_hourOf_r (f_X5_turns_v2 f k) k ((f 0) / 60) = 1 then (f_X5_turns_v2 f k) 5 else 0)
noncomputable def f_X5_turns_f (f : Nat → Int64) (k : Int32) : (Nat → Int64) := vp_updL (f_X5_turns_v2 f k) 1 (((f_X5_turns_v2 f k) 1) + (f_X5_turns_x4 f k))
set_option maxRecDepth 100000 in
set_option maxHeartbeats 4000000 in
theorem m_X5_turns (l : Launch) (G : GG) (a : Nat) (f : Nat → Int64) (k : Int32) (hd : vp_in k 4) : CtV l yX5_turns cX5_turns 4 (none : Option Jvm.ClassFile.FieldType) (RM 1) G [.ref a, .int k] ([aJ G a 456 f]) ([aJ G a 456 (f_X5_turns_f f k)]) := by
  refine ct_V RX5 [(0, .ref a), (1, .int k)] rfl (by decide +kernel) (Nat.le_of_ble_eq_true rfl) rfl ?_
  intro p e s m args below meth c A C hr hk hnm
  generalize hQ : (MQ below (PostV G A ([aJ G a 456 (f_X5_turns_f f k)])) args s (RM 1).cells (RM 1).slots A) = Q
  refine j_aload_n C dX5_turns_0 0 rfl ?_
  refine j_iconst (v := 0) C dX5_turns_1 (by decide) ?_
  refine j_lald C 0 rfl (vin_lit rfl) (v := f 0) rfl dX5_turns_2 ?_
  refine j_ldc2 (v := 60) C kw_480 dX5_turns_3 ?_
  refine j_ldiv C dX5_turns_6 (by decide) rfl ?_
  refine j_lstore_n C [(2, .long ((f 0) / 60)), (0, .ref a), (1, .int k)] dX5_turns_7 (by decide) rfl ?_
  refine j_aload_n C dX5_turns_8 1 rfl ?_
  refine j_iload_n C dX5_turns_9 2 rfl ?_
  refine j_lload_n C dX5_turns_10 0 rfl ?_
  refine j_lconst (v := 1) C dX5_turns_11 (by decide) ?_
  refine j_lsub C dX5_turns_12 rfl ?_
  refine j_callS_i (r := f_X5_hourOf_r f k (((f 0) / 60) - 1)) (wc' := [aJ G a 456 f]) C (m_X5_hourOf l G a f k (((f 0) / 60) - 1) hd) 3 (gS kw_580 kw_581 kw_7 kw_582) (by decide +kernel) ⟨(Nat.le_of_ble_eq_true rfl), (Nat.le_of_ble_eq_true rfl)⟩ rfl rfl (Nat.le_of_ble_eq_true rfl) dX5_turns_13 ⟨(Nat.le_of_ble_eq_true rfl), (Nat.le_of_ble_eq_true rfl)⟩ [] [aJ G a 456 f] (perm_idx [0] 1 rfl (by decide +kernel) rfl) rfl ?_
  refine j_iconst (v := 1) C dX5_turns_16 (by decide) ?_
  have K47 : WJ p l e (RM 1) s m args below meth c G A 4 0 0 Q ([aJ G a 456 (f_X5_turns_v2 f k)]) [(2, .long ((f 0) / 60)), (0, .ref a), (1, .int k)] 47 [] := by
    generalize hw1 : f_X5_turns_v2 f k = w1
    refine j_aload_n C dX5_turns_47 1 rfl ?_
    refine j_iconst (v := 1) C dX5_turns_48 (by decide) ?_
    refine j_dup2_11 C dX5_turns_49 rfl rfl ?_
    refine j_lald C 0 rfl (vin_lit rfl) (v := w1 1) rfl dX5_turns_50 ?_
    refine j_aload_n C dX5_turns_51 1 rfl ?_
    refine j_iload_n C dX5_turns_52 2 rfl ?_
    refine j_lload_n C dX5_turns_53 0 rfl ?_
    refine j_callS_i (r := f_X5_hourOf_r w1 k ((f 0) / 60)) (wc' := [aJ G a 456 w1]) C (m_X5_hourOf l G a w1 k ((f 0) / 60) hd) 3 (gS kw_580 kw_581 kw_7 kw_582) (by decide +kernel) ⟨(Nat.le_of_ble_eq_true rfl), (Nat.le_of_ble_eq_true rfl)⟩ rfl rfl (Nat.le_of_ble_eq_true rfl) dX5_turns_54 ⟨(Nat.le_of_ble_eq_true rfl), (Nat.le_of_ble_eq_true rfl)⟩ [] [aJ G a 456 w1] (perm_idx [0] 1 rfl (by decide +kernel) rfl) rfl ?_
    refine j_iconst (v := 1) C dX5_turns_57 (by decide) ?_
    have K68 : WJ p l e (RM 1) s m args below meth c G A 4 0 0 Q ([aJ G a 456 w1]) [(2, .long ((f 0) / 60)), (0, .ref a), (1, .int k)] 68 [.long (f_X5_turns_x4 f k), .long (w1 1), .int 1, .ref a] := by
      generalize hw2 : f_X5_turns_x4 f k = w2
      refine j_ladd C dX5_turns_68 rfl ?_
      generalize hw3 : (w1 1) + w2 = w3
      refine j_last C 0 rfl (vin_lit rfl) ([aJ G a 456 (vp_updL w1 1 w3)]) rfl dX5_turns_69 ?_
      subst hQ; subst hw1 hw2 hw3; exact j_vret C hr hk (by rw [show f_X5_turns_f f k = vp_updL (f_X5_turns_v2 f k) 1 (((f_X5_turns_v2 f k) 1) + (f_X5_turns_x4 f k)) from rfl]) dX5_turns_70
    refine j_icmp_ne (tgt := 67) C dX5_turns_58 (by decide) (fun c58 => ?_) (fun c58 => ?_)
    · refine j_lconst (v := 0) C dX5_turns_67 (by decide) ?_
      subst hw1; exact j_eq rfl rfl (by rw [show f_X5_turns_x4 f k = 0 from (if_neg c58)]) K68
    · refine j_aload_n C dX5_turns_61 1 rfl ?_
      refine j_iconst (v := 5) C dX5_turns_62 (by decide) ?_
      refine j_lald C 0 rfl (vin_lit rfl) (v := w1 5) rfl dX5_turns_63 ?_
      refine j_goto (tgt := 68) C dX5_turns_64 (by decide) ?_
      subst hw1; exact j_eq rfl rfl (by rw [show f_X5_turns_x4 f k = (f_X5_turns_v2 f k) 5 from (if_pos c58)]) K68
  refine j_icmp_ne (tgt := 47) C dX5_turns_17 (by decide) (fun c17 => ?_) (fun c17 => ?_)
  · exact j_eq (by rw [show f_X5_turns_v2 f k = f from (if_neg c17)]) rfl rfl K47
  · refine j_aload_n C dX5_turns_20 1 rfl ?_
    refine j_bipush (v := 56) C dX5_turns_21 (by decide) ?_
    refine j_bipush (v := 100) C dX5_turns_23 (by decide) ?_
    refine j_iload_n C dX5_turns_25 2 rfl ?_
    refine j_imul C dX5_turns_26 rfl ?_
    refine j_iadd C dX5_turns_27 rfl ?_
    refine j_lload_n C dX5_turns_28 0 rfl ?_
    refine j_l2i C dX5_turns_29 rfl ?_
    refine j_iadd C dX5_turns_30 rfl ?_
    refine j_iconst (v := 1) C dX5_turns_31 (by decide) ?_
    refine j_isub C dX5_turns_32 rfl ?_
    refine j_ldc2 (v := 2) C kw_482 dX5_turns_33 ?_
    refine j_last C 0 rfl (by exact vin_turns hd c17) ([aJ G a 456 (vp_updL f (((56 + (100 * k)) + (((f 0) / 60).toInt32)) - 1).toNatClampNeg 2)]) rfl dX5_turns_36 ?_
    refine j_aload_n C dX5_turns_37 1 rfl ?_
    refine j_iconst (v := 3) C dX5_turns_38 (by decide) ?_
    refine j_dup2_11 C dX5_turns_39 rfl rfl ?_
    refine j_lald C 0 rfl (vin_lit rfl) (v := (vp_updL f (((56 + (100 * k)) + (((f 0) / 60).toInt32)) - 1).toNatClampNeg 2) 3) rfl dX5_turns_40 ?_
    refine j_aload_n C dX5_turns_41 1 rfl ?_
    refine j_bipush (v := 7) C dX5_turns_42 (by decide) ?_
    refine j_lald C 0 rfl (vin_lit rfl) (v := (vp_updL f (((56 + (100 * k)) + (((f 0) / 60).toInt32)) - 1).toNatClampNeg 2) 7) rfl dX5_turns_44 ?_
    refine j_ladd C dX5_turns_45 rfl ?_
    generalize hw0 : ((vp_updL f (((56 + (100 * k)) + (((f 0) / 60).toInt32)) - 1).toNatClampNeg 2) 3) + ((vp_updL f (((56 + (100 * k)) + (((f 0) / 60).toInt32)) - 1).toNatClampNeg 2) 7) = w0
    refine j_last C 0 rfl (vin_lit rfl) ([aJ G a 456 (vp_updL (vp_updL f (((56 + (100 * k)) + (((f 0) / 60).toInt32)) - 1).toNatClampNeg 2) 3 w0)]) rfl dX5_turns_46 ?_
    subst hw0; exact j_eq (by rw [show f_X5_turns_v2 f k = vp_updL (vp_updL f (((56 + (100 * k)) + (((f 0) / 60).toInt32)) - 1).toNatClampNeg 2) 3 (((vp_updL f (((56 + (100 * k)) + (((f 0) / 60).toInt32)) - 1).toNatClampNeg 2) 3) + ((vp_updL f (((56 + (100 * k)) + (((f 0) / 60).toInt32)) - 1).toNatClampNeg 2) 7)) from (if_pos c17)]) rfl rfl K47
/-- what is kept moves down by one: the first i places -/
def shf (g : Nat → Int64) : Nat → Nat → Int64
  | 0 => g
  | i + 1 => vp_updL (shf g i) i (shf g i (nI i + 456).toNatClampNeg)
theorem vin_add {b : Int32} {c i N : Nat} (hb : b.toInt = c) (h : c + i < N) (hN : N < 2 ^ 31) (hi : i < 2 ^ 31) : vp_in (b + nI i) N := by
  obtain rfl : b = nI c := Int32.toInt_inj.mp (by rw [hb, nI_toInt (by omega)])
  rw [show nI c + nI i = nI (c + i) by unfold nI; exact (Int32.ofNat_add c i).symm]
  exact vp_in_nI h hN
theorem vin_456 {i : Nat} (h : i < 2280) : vp_in (nI i + 456) 2736 := by
  rw [show (456 : Int32) = nI 456 by decide +kernel, nI_add]
  exact vp_in_nI (by omega) (by decide)
theorem vin_rec {k : Int32} (h : vp_in k 6) {i : Nat} (hi : i < 456) : vp_in (456 * k + nI i) 2736 := by
  obtain ⟨j, hj, rfl⟩ := vp_in_of h (by decide)
  rcases (show j = 0 ∨ j = 1 ∨ j = 2 ∨ j = 3 ∨ j = 4 ∨ j = 5 by omega) with rfl | rfl | rfl | rfl | rfl | rfl
  · exact vin_add (c := 0) (by decide) (by omega) (by decide) (by omega)
  · exact vin_add (c := 456) (by decide) (by omega) (by decide) (by omega)
  · exact vin_add (c := 912) (by decide) (by omega) (by decide) (by omega)
  · exact vin_add (c := 1368) (by decide) (by omega) (by decide) (by omega)
  · exact vin_add (c := 1824) (by decide) (by omega) (by decide) (by omega)
  · exact vin_add (c := 2280) (by decide) (by omega) (by decide) (by omega)
theorem vin_kept {k : Int32} (h : vp_in k 7) : vp_in (if k = 6 then k - 1 else k) 6 := by
  obtain ⟨j, hj, rfl⟩ := vp_in_of h (by decide)
  rcases (show j = 0 ∨ j = 1 ∨ j = 2 ∨ j = 3 ∨ j = 4 ∨ j = 5 ∨ j = 6 by omega) with rfl | rfl | rfl | rfl | rfl | rfl | rfl <;> exact vin_lit (by decide)
theorem vin_keptf {v : Nat → Int32} (h : vp_in (v 3) 7) : vp_in ((if v 3 = 6 then upd v 3 (v 3 - 1) else v) 3) 6 := by
  have := vin_kept h
  split at this
  · rename_i h6
    rw [if_pos h6]
    exact this
  · rename_i h6
    rw [if_neg h6]
    exact this
noncomputable def f_X5_records_v2 (v : Nat → Int32) (f : Nat → Int64) (u : Nat → Int64) : (Nat → Int32) := (if v 3 = 6 then upd v 3 ((v 3) - 1) else v)
noncomputable def f_X5_records_v3 (v : Nat → Int32) (f : Nat → Int64) (u : Nat → Int64) : (Nat → Int64) := (if v 3 = 6 then (shf u 2280) else u)
noncomputable def f_X5_records_gq4 (v : Nat → Int32) (f : Nat → Int64) (u : Nat → Int64) : (Nat → Int64) := lay f 0 (f_X5_records_v3 v f u) (456 * ((f_X5_records_v2 v f u) 3)) 456
noncomputable def f_X5_records_v (v : Nat → Int32) (f : Nat → Int64) (u : Nat → Int64) : (Nat → Int32) := upd (f_X5_records_v2 v f u) 3 (((f_X5_records_v2 v f u) 3) + 1)
noncomputable def f_X5_records_u (v : Nat → Int32) (f : Nat → Int64) (u : Nat → Int64) : (Nat → Int64) := (f_X5_records_gq4 v f u)
set_option maxRecDepth 100000 in
set_option maxHeartbeats 4000000 in
theorem m_X5_records (l : Launch) (G : GG) (a nw th ps sl hd pd od : Nat) (v : Nat → Int32) (f : Nat → Int64) (u : Nat → Int64) (h7 : vp_in (v 3) 7) : CtV l yX5_records cX5_records 2 (none : Option Jvm.ClassFile.FieldType) (RM 1) G [.ref a] ([oM a nw th ps sl hd pd od v, aJ G nw 456 f, aJ G ps 2736 u]) ([oM a nw th ps sl hd pd od (f_X5_records_v v f u), aJ G nw 456 f, aJ G ps 2736 (f_X5_records_u v f u)]) := by
  refine ct_V RX5 [(0, .ref a)] rfl (by decide +kernel) (Nat.le_of_ble_eq_true rfl) rfl ?_
  intro p e s m args below meth c A C hr hk hnm
  generalize hQ : (MQ below (PostV G A ([oM a nw th ps sl hd pd od (f_X5_records_v v f u), aJ G nw 456 f, aJ G ps 2736 (f_X5_records_u v f u)])) args s (RM 1).cells (RM 1).slots A) = Q
  refine j_aload_n C dX5_records_0 0 rfl ?_
  refine j_get C kin5 rfl 0 rfl 3 (by decide) kw_492 rfl (v := .int (v 3)) rfl dX5_records_1 ?_
  refine j_bipush (v := 6) C dX5_records_4 (by decide) ?_
  have K50 : WJ p l e (RM 1) s m args below meth c G A 2 0 0 Q ([oM a nw th ps sl hd pd od (f_X5_records_v2 v f u), aJ G nw 456 f, aJ G ps 2736 (f_X5_records_v3 v f u)]) [(0, .ref a)] 50 [] := by
    generalize hw2 : f_X5_records_v2 v f u = w2
    generalize hw3 : f_X5_records_v3 v f u = w3
    refine j_aload_n C dX5_records_50 0 rfl ?_
    refine j_get C kin5 rfl 0 rfl 0 (by decide) kw_489 rfl (v := .ref nw) rfl dX5_records_51 ?_
    refine j_iconst (v := 0) C dX5_records_54 (by decide) ?_
    refine j_aload_n C dX5_records_55 0 rfl ?_
    refine j_get C kin5 rfl 0 rfl 2 (by decide) kw_491 rfl (v := .ref ps) rfl dX5_records_56 ?_
    refine j_sipush (v := 456) C dX5_records_59 (by decide) ?_
    refine j_aload_n C dX5_records_62 0 rfl ?_
    refine j_get C kin5 rfl 0 rfl 3 (by decide) kw_492 rfl (v := .int (w2 3)) rfl dX5_records_63 ?_
    refine j_imul C dX5_records_66 rfl ?_
    refine j_callS_v (wc' := [aJ G nw 456 f, aJ G ps 2736 (lay f 0 w3 (456 * (w2 3)) 456)]) C (m_X5_lays l G nw ps 456 2736 f 0 w3 (456 * (w2 3)) (fun _ hi => vin_add (c := 0) rfl (by omega) (by decide) (by omega)) (fun _ hi => by subst hw2 hw3; exact vin_rec (by unfold f_X5_records_v2; exact vin_keptf h7) hi)) 4 (gS kw_516 kw_517 kw_7 kw_518) (by decide +kernel) ⟨(Nat.le_of_ble_eq_true rfl), (Nat.le_of_ble_eq_true rfl)⟩ rfl rfl (Nat.le_of_ble_eq_true rfl) dX5_records_67 ⟨(Nat.le_of_ble_eq_true rfl), (Nat.le_of_ble_eq_true rfl)⟩ [oM a nw th ps sl hd pd od w2] [aJ G nw 456 f, aJ G ps 2736 (lay f 0 w3 (456 * (w2 3)) 456), oM a nw th ps sl hd pd od w2] (perm_idx [1, 2, 0] 3 rfl (by decide +kernel) rfl) rfl ?_
    generalize hzw4 : lay f 0 w3 (456 * (w2 3)) 456 = w4
    have hw4 : f_X5_records_gq4 v f u = w4 := by subst hw2 hw3; subst hzw4; rfl
    refine j_aload_n C dX5_records_70 0 rfl ?_
    refine j_dup C dX5_records_71 rfl ?_
    refine j_get C kin5 rfl 2 rfl 3 (by decide) kw_492 rfl (v := .int (w2 3)) rfl dX5_records_72 ?_
    refine j_iconst (v := 1) C dX5_records_75 (by decide) ?_
    refine j_iadd C dX5_records_76 rfl ?_
    generalize hw5 : (w2 3) + 1 = w5
    refine j_put C kin5 rfl 2 rfl 3 (by decide) kw_492 rfl tyX5 tyX5_ok nmX5 rfl rfl rfl (Nat.le_of_ble_eq_true rfl) ([aJ G nw 456 f, aJ G ps 2736 w4, oM a nw th ps sl hd pd od (upd w2 3 w5)]) rfl dX5_records_77 ?_
    refine j_perm ([oM a nw th ps sl hd pd od (upd w2 3 w5), aJ G nw 456 f, aJ G ps 2736 w4]) (perm_idx [2, 0, 1] 3 rfl (by decide +kernel) rfl) ?_
    subst hQ; subst hw2 hw3 hw4 hw5; exact j_vret C hr hk (by rw [show f_X5_records_v v f u = upd (f_X5_records_v2 v f u) 3 (((f_X5_records_v2 v f u) 3) + 1) from rfl, show f_X5_records_u v f u = (f_X5_records_gq4 v f u) from rfl]) dX5_records_80
  refine j_icmp_ne (tgt := 50) C dX5_records_6 (by decide) (fun c6 => ?_) (fun c6 => ?_)
  · exact j_eq (by rw [show f_X5_records_v2 v f u = v from (if_neg c6), show f_X5_records_v3 v f u = u from (if_neg c6)]) rfl rfl K50
  · refine j_iconst (v := 0) C dX5_records_9 (by decide) ?_
    refine j_istore_n C [(1, .int 0), (0, .ref a)] dX5_records_10 (by decide) rfl ?_
    have L1 : ∀ (n i : Nat), i + n = 2280 → WJ p l e (RM 1) s m args below meth c G A 2 0 0 Q ([oM a nw th ps sl hd pd od v, aJ G nw 456 f, aJ G ps 2736 (shf u i)]) [(1, .int (nI i)), (0, .ref a)] 11 [] := by
      intro n
      induction n with
      | zero =>
        intro i hIN
        have hN : i = 2280 := by omega
        subst hN
        refine j_iload_n C dX5_records_11 0 rfl ?_
        refine j_sipush (v := 2280) C dX5_records_12 (by decide) ?_
        refine j_icmp_ge (tgt := 40) C dX5_records_15 (by decide) (fun c15 => ?_) (fun h => absurd (by decide) h)
        refine j_aload_n C dX5_records_40 1 rfl ?_
        refine j_dup C dX5_records_41 rfl ?_
        refine j_get C kin5 rfl 0 rfl 3 (by decide) kw_492 rfl (v := .int (v 3)) rfl dX5_records_42 ?_
        refine j_iconst (v := 1) C dX5_records_45 (by decide) ?_
        refine j_isub C dX5_records_46 rfl ?_
        generalize hw0 : (v 3) - 1 = w0
        refine j_put C kin5 rfl 0 rfl 3 (by decide) kw_492 rfl tyX5 tyX5_ok nmX5 rfl rfl rfl (Nat.le_of_ble_eq_true rfl) ([oM a nw th ps sl hd pd od (upd v 3 w0), aJ G nw 456 f, aJ G ps 2736 (shf u 2280)]) rfl dX5_records_47 ?_
        refine j_lv [1] [(0, .ref a)] rfl ?_
        subst hw0; exact j_eq (by rw [show f_X5_records_v2 v f u = upd v 3 ((v 3) - 1) from (if_pos c6), show f_X5_records_v3 v f u = (shf u 2280) from (if_pos c6)]) rfl rfl K50
      | succ n ih =>
        intro i hIN
        have hlt : i < 2280 := by omega
        refine j_iload_n C dX5_records_11 0 rfl ?_
        refine j_sipush (v := 2280) C dX5_records_12 (by decide) ?_
        refine j_icmp_ge (tgt := 40) C dX5_records_15 (by decide) (fun h => absurd h (nI_ge (b := 2280) hlt (by decide))) (fun c15 => ?_)
        refine j_aload_n C dX5_records_18 1 rfl ?_
        refine j_get C kin5 rfl 0 rfl 2 (by decide) kw_491 rfl (v := .ref ps) rfl dX5_records_19 ?_
        refine j_iload_n C dX5_records_22 0 rfl ?_
        refine j_aload_n C dX5_records_23 1 rfl ?_
        refine j_get C kin5 rfl 0 rfl 2 (by decide) kw_491 rfl (v := .ref ps) rfl dX5_records_24 ?_
        refine j_iload_n C dX5_records_27 0 rfl ?_
        refine j_sipush (v := 456) C dX5_records_28 (by decide) ?_
        refine j_iadd C dX5_records_31 rfl ?_
        refine j_lald C 2 rfl (vin_456 hlt) (v := (shf u i) ((nI i) + 456).toNatClampNeg) rfl dX5_records_32 ?_
        generalize hw1 : (shf u i) ((nI i) + 456).toNatClampNeg = w1
        refine j_last C 2 rfl (vp_in_nI (by omega) (by omega)) ([oM a nw th ps sl hd pd od v, aJ G nw 456 f, aJ G ps 2736 (vp_updL (shf u i) i w1)]) (by rw [nI_clamp (by omega)]; rfl) dX5_records_33 ?_
        refine j_iinc (v := nI (i + 1)) C [(1, .int (nI (i + 1))), (0, .ref a)] dX5_records_34 (k := 0) rfl (nI_1 i) (by decide) rfl ?_
        refine j_goto (tgt := 11) C dX5_records_37 (by decide) ?_
        subst hw1; exact j_eq (by rw [show (shf u (i + 1)) = vp_updL (shf u i) i ((shf u i) ((nI i) + 456).toNatClampNeg) from rfl]) rfl rfl (ih (i + 1) (by omega))
    exact j_eq (by rw [show (shf u 0) = u from rfl]) (by rw [show nI 0 = 0 from rfl]) rfl (L1 2280 0 (by omega))
theorem row_n {k : Int32} (hd : vp_in k 4) : ∃ j : Nat, j < 4 ∧ k = nI j ∧ f_X5_row_r k = nI (12 + 11 * j) := by
  obtain ⟨j, hj, rfl⟩ := vp_in_of hd (by decide)
  refine ⟨j, hj, rfl, ?_⟩
  rcases (show j = 0 ∨ j = 1 ∨ j = 2 ∨ j = 3 by omega) with rfl | rfl | rfl | rfl <;> rfl
theorem vin_row {k c : Int32} (hd : vp_in k 4) (hc : decide (¬ (c < 0 ∨ 11 ≤ c.toNatClampNeg)) = true) : vp_in (f_X5_row_r k + c) 456 := by
  obtain ⟨j, hj, -, e⟩ := row_n hd
  obtain ⟨i, hi, rfl⟩ := vp_in_of (vin_lit hc) (by decide)
  rw [e, nI_add]
  exact vp_in_nI (by omega) (by decide)
theorem row_ne {k c : Int32} {g : Nat → Int64} {x : Int64} {n : Nat} (hd : vp_in k 4) (hc : decide (¬ (c < 0 ∨ 11 ≤ c.toNatClampNeg)) = true) (hn : n < 12) : vp_updL g (f_X5_row_r k + c).toNatClampNeg x n = g n := by
  obtain ⟨j, hj, -, e⟩ := row_n hd
  obtain ⟨i, hi, rfl⟩ := vp_in_of (vin_lit hc) (by decide)
  rw [e, nI_add, nI_clamp (by omega)]
  exact if_neg (by omega)
noncomputable def f_X5_cleans_x2 (f : Nat → Int64) (k : Int32) (q : Int32) : Int32 := (if q = 0 then (if lg_cmp (f ((f_X5_row_r k) + 4).toNatClampNeg) 1 = 0 then 1 else (if 0 ≤ lg_cmp (f ((f_X5_row_r k) + 0).toNatClampNeg) (f 8) then 0 else 1)) else (if lg_cmp (f ((f_X5_row_r k) + 3).toNatClampNeg) (f 11) ≤ 0 then 0 else 1))
noncomputable def f_X5_cleans_x3 (f : Nat → Int64) (k : Int32) (q : Int32) : Int32 := (if (f_X5_cleans_x2 f k q) = 0 then 0 else (if lg_cmp (f ((f_X5_row_r k) + 1).toNatClampNeg) 0 ≤ 0 then 0 else 1))
noncomputable def f_X5_cleans_fq5 (f : Nat → Int64) (k : Int32) (q : Int32) : (Nat → Int64) := f_X5_moves_f f ((f_X5_row_r k) + 1) ((f_X5_row_r k) + 0) (f_X5_least_r (f 10) (f ((f_X5_row_r k) + 1).toNatClampNeg))
noncomputable def f_X5_cleans_v6 (f : Nat → Int64) (k : Int32) (q : Int32) : (Nat → Int64) := (if (f_X5_cleans_x3 f k q) = 0 then f else vp_updL (f_X5_cleans_fq5 f k q) ((f_X5_row_r k) + 6).toNatClampNeg (((f_X5_cleans_fq5 f k q) ((f_X5_row_r k) + 6).toNatClampNeg) + 1))
noncomputable def f_X5_cleans_x7 (f : Nat → Int64) (k : Int32) (q : Int32) : Int32 := (if lg_cmp ((vp_updL (vp_updL (f_X5_cleans_v6 f k q) ((f_X5_row_r k) + 7).toNatClampNeg (((f_X5_cleans_v6 f k q) ((f_X5_row_r k) + 7).toNatClampNeg) + 1)) ((56 + (100 * k)) + ((((vp_updL (f_X5_cleans_v6 f k q) ((f_X5_row_r k) + 7).toNatClampNeg (((f_X5_cleans_v6 f k q) ((f_X5_row_r k) + 7).toNatClampNeg) + 1)) 0) / 60).toInt32)).toNatClampNeg 3) 3) 0 ≤ 0 then 0 else 1)
noncomputable def f_X5_cleans_x8 (f : Nat → Int64) (k : Int32) (q : Int32) : Int64 := (if (f_X5_cleans_x7 f k q) = 0 then 0 else 1)
noncomputable def f_X5_cleans_x9 (f : Nat → Int64) (k : Int32) (q : Int32) : Int64 := (if (f_X5_cleans_x7 f k q) = 0 then 0 else 1)
noncomputable def f_X5_cleans_x10 (f : Nat → Int64) (k : Int32) (q : Int32) : Int64 := (if (f_X5_cleans_x7 f k q) = 0 then (vp_updL (vp_updL (vp_updL (vp_updL (f_X5_cleans_v6 f k q) ((f_X5_row_r k) + 7).toNatClampNeg (((f_X5_cleans_v6 f k q) ((f_X5_row_r k) + 7).toNatClampNeg) + 1)) ((56 + (100 * k)) + ((((vp_updL (f_X5_cleans_v6 f k q) ((f_X5_row_r k) + 7).toNatClampNeg (((f_X5_cleans_v6 f k q) ((f_X5_row_r k) + 7).toNatClampNeg) + 1)) 0) / 60).toInt32)).toNatClampNeg 3) 3 (((vp_updL (vp_updL (f_X5_cleans_v6 f k q) ((f_X5_row_r k) + 7).toNatClampNeg (((f_X5_cleans_v6 f k q) ((f_X5_row_r k) + 7).toNatClampNeg) + 1)) ((56 + (100 * k)) + ((((vp_updL (f_X5_cleans_v6 f k q) ((f_X5_row_r k) + 7).toNatClampNeg (((f_X5_cleans_v6 f k q) ((f_X5_row_r k) + 7).toNatClampNeg) + 1)) 0) / 60).toInt32)).toNatClampNeg 3) 3) - (f_X5_cleans_x8 f k q))) 4 (((vp_updL (vp_updL (vp_updL (f_X5_cleans_v6 f k q) ((f_X5_row_r k) + 7).toNatClampNeg (((f_X5_cleans_v6 f k q) ((f_X5_row_r k) + 7).toNatClampNeg) + 1)) ((56 + (100 * k)) + ((((vp_updL (f_X5_cleans_v6 f k q) ((f_X5_row_r k) + 7).toNatClampNeg (((f_X5_cleans_v6 f k q) ((f_X5_row_r k) + 7).toNatClampNeg) + 1)) 0) / 60).toInt32)).toNatClampNeg 3) 3 (((vp_updL (vp_updL (f_X5_cleans_v6 f k q) ((f_X5_row_r k) + 7).toNatClampNeg (((f_X5_cleans_v6 f k q) ((f_X5_row_r k) + 7).toNatClampNeg) + 1)) ((56 + (100 * k)) + ((((vp_updL (f_X5_cleans_v6 f k q) ((f_X5_row_r k) + 7).toNatClampNeg (((f_X5_cleans_v6 f k q) ((f_X5_row_r k) + 7).toNatClampNeg) + 1)) 0) / 60).toInt32)).toNatClampNeg 3) 3) - (f_X5_cleans_x8 f k q))) 4) + (f_X5_cleans_x9 f k q))) 6 else 0)
noncomputable def f_X5_cleans_v11 (f : Nat → Int64) (k : Int32) (q : Int32) : (Nat → Int64) := (if (f_X5_cleans_x3 f k q) = 0 then (f_X5_cleans_v6 f k q) else (if q = 0 then (f_X5_cleans_v6 f k q) else vp_updL (vp_updL (vp_updL (vp_updL (vp_updL (f_X5_cleans_v6 f k q) ((f_X5_row_r k) + 7).toNatClampNeg (((f_X5_cleans_v6 f k q) ((f_X5_row_r k) + 7).toNatClampNeg) + 1)) ((56 + (100 * k)) + ((((vp_updL (f_X5_cleans_v6 f k q) ((f_X5_row_r k) + 7).toNatClampNeg (((f_X5_cleans_v6 f k q) ((f_X5_row_r k) + 7).toNatClampNeg) + 1)) 0) / 60).toInt32)).toNatClampNeg 3) 3 (((vp_updL (vp_updL (f_X5_cleans_v6 f k q) ((f_X5_row_r k) + 7).toNatClampNeg (((f_X5_cleans_v6 f k q) ((f_X5_row_r k) + 7).toNatClampNeg) + 1)) ((56 + (100 * k)) + ((((vp_updL (f_X5_cleans_v6 f k q) ((f_X5_row_r k) + 7).toNatClampNeg (((f_X5_cleans_v6 f k q) ((f_X5_row_r k) + 7).toNatClampNeg) + 1)) 0) / 60).toInt32)).toNatClampNeg 3) 3) - (f_X5_cleans_x8 f k q))) 4 (((vp_updL (vp_updL (vp_updL (f_X5_cleans_v6 f k q) ((f_X5_row_r k) + 7).toNatClampNeg (((f_X5_cleans_v6 f k q) ((f_X5_row_r k) + 7).toNatClampNeg) + 1)) ((56 + (100 * k)) + ((((vp_updL (f_X5_cleans_v6 f k q) ((f_X5_row_r k) + 7).toNatClampNeg (((f_X5_cleans_v6 f k q) ((f_X5_row_r k) + 7).toNatClampNeg) + 1)) 0) / 60).toInt32)).toNatClampNeg 3) 3 (((vp_updL (vp_updL (f_X5_cleans_v6 f k q) ((f_X5_row_r k) + 7).toNatClampNeg (((f_X5_cleans_v6 f k q) ((f_X5_row_r k) + 7).toNatClampNeg) + 1)) ((56 + (100 * k)) + ((((vp_updL (f_X5_cleans_v6 f k q) ((f_X5_row_r k) + 7).toNatClampNeg (((f_X5_cleans_v6 f k q) ((f_X5_row_r k) + 7).toNatClampNeg) + 1)) 0) / 60).toInt32)).toNatClampNeg 3) 3) - (f_X5_cleans_x8 f k q))) 4) + (f_X5_cleans_x9 f k q))) 2 (((vp_updL (vp_updL (vp_updL (vp_updL (f_X5_cleans_v6 f k q) ((f_X5_row_r k) + 7).toNatClampNeg (((f_X5_cleans_v6 f k q) ((f_X5_row_r k) + 7).toNatClampNeg) + 1)) ((56 + (100 * k)) + ((((vp_updL (f_X5_cleans_v6 f k q) ((f_X5_row_r k) + 7).toNatClampNeg (((f_X5_cleans_v6 f k q) ((f_X5_row_r k) + 7).toNatClampNeg) + 1)) 0) / 60).toInt32)).toNatClampNeg 3) 3 (((vp_updL (vp_updL (f_X5_cleans_v6 f k q) ((f_X5_row_r k) + 7).toNatClampNeg (((f_X5_cleans_v6 f k q) ((f_X5_row_r k) + 7).toNatClampNeg) + 1)) ((56 + (100 * k)) + ((((vp_updL (f_X5_cleans_v6 f k q) ((f_X5_row_r k) + 7).toNatClampNeg (((f_X5_cleans_v6 f k q) ((f_X5_row_r k) + 7).toNatClampNeg) + 1)) 0) / 60).toInt32)).toNatClampNeg 3) 3) - (f_X5_cleans_x8 f k q))) 4 (((vp_updL (vp_updL (vp_updL (f_X5_cleans_v6 f k q) ((f_X5_row_r k) + 7).toNatClampNeg (((f_X5_cleans_v6 f k q) ((f_X5_row_r k) + 7).toNatClampNeg) + 1)) ((56 + (100 * k)) + ((((vp_updL (f_X5_cleans_v6 f k q) ((f_X5_row_r k) + 7).toNatClampNeg (((f_X5_cleans_v6 f k q) ((f_X5_row_r k) + 7).toNatClampNeg) + 1)) 0) / 60).toInt32)).toNatClampNeg 3) 3 (((vp_updL (vp_updL (f_X5_cleans_v6 f k q) ((f_X5_row_r k) + 7).toNatClampNeg (((f_X5_cleans_v6 f k q) ((f_X5_row_r k) + 7).toNatClampNeg) + 1)) ((56 + (100 * k)) + ((((vp_updL (f_X5_cleans_v6 f k q) ((f_X5_row_r k) + 7).toNatClampNeg (((f_X5_cleans_v6 f k q) ((f_X5_row_r k) + 7).toNatClampNeg) + 1)) 0) / 60).toInt32)).toNatClampNeg 3) 3) - (f_X5_cleans_x8 f k q))) 4) + (f_X5_cleans_x9 f k q))) 2) + (f_X5_cleans_x10 f k q))))
noncomputable def f_X5_cleans_x12 (f : Nat → Int64) (k : Int32) (q : Int32) : Int64 := (if (f_X5_cleans_x3 f k q) = 0 then 0 else (if q = 0 then (if 0 ≤ lg_cmp ((f_X5_cleans_v11 f k q) ((f_X5_row_r k) + 0).toNatClampNeg) ((f_X5_cleans_v11 f k q) 9) then 0 else (if lg_cmp ((f_X5_cleans_v11 f k q) ((f_X5_row_r k) + 1).toNatClampNeg) 0 ≤ 0 then 0 else 1)) else 0))
noncomputable def f_X5_cleans_f (f : Nat → Int64) (k : Int32) (q : Int32) : (Nat → Int64) := vp_updL (f_X5_cleans_v11 f k q) ((f_X5_row_r k) + 4).toNatClampNeg (f_X5_cleans_x12 f k q)
set_option maxRecDepth 100000 in
set_option maxHeartbeats 4000000 in
theorem m_X5_cleans (l : Launch) (G : GG) (a : Nat) (f : Nat → Int64) (k : Int32) (q : Int32) (hd : vp_in k 4) (hq : ¬ q = 0 → vp_in (56 + 100 * k + (f 0 / 60).toInt32) 456) : CtV l yX5_cleans cX5_cleans 7 (none : Option Jvm.ClassFile.FieldType) (RM 1) G [.ref a, .int k, .int q] ([aJ G a 456 f]) ([aJ G a 456 (f_X5_cleans_f f k q)]) := by
  refine ct_V RX5 [(0, .ref a), (1, .int k), (2, .int q)] rfl (by decide +kernel) (Nat.le_of_ble_eq_true rfl) rfl ?_
  intro p e s m args below meth c A C hr hk hnm
  generalize hQ : (MQ below (PostV G A ([aJ G a 456 (f_X5_cleans_f f k q)])) args s (RM 1).cells (RM 1).slots A) = Q
  refine j_iload_n C dX5_cleans_0 1 rfl ?_
  refine j_pureS_i (r := f_X5_row_r k) C (m_X5_row l G k) 1 (gS kw_486 kw_487 kw_7 kw_488) (by decide +kernel) ⟨(Nat.le_of_ble_eq_true rfl), (Nat.le_of_ble_eq_true rfl)⟩ rfl rfl (Nat.le_of_ble_eq_true rfl) dX5_cleans_1 ⟨(Nat.le_of_ble_eq_true rfl), (Nat.le_of_ble_eq_true rfl)⟩ ?_
  refine j_istore_n C [(3, .int (f_X5_row_r k)), (0, .ref a), (1, .int k), (2, .int q)] dX5_cleans_4 (by decide) rfl ?_
  refine j_iload_n C dX5_cleans_5 3 rfl ?_
  have K58 : WJ p l e (RM 1) s m args below meth c G A 7 0 0 Q ([aJ G a 456 f]) [(3, .int (f_X5_row_r k)), (0, .ref a), (1, .int k), (2, .int q)] 58 [.int (f_X5_cleans_x2 f k q)] := by
    generalize hw0 : f_X5_cleans_x2 f k q = w0
    refine j_istore C [(4, .int w0), (3, .int (f_X5_row_r k)), (0, .ref a), (1, .int k), (2, .int q)] dX5_cleans_58 (by decide) rfl ?_
    refine j_iload C dX5_cleans_60 0 rfl ?_
    have K80 : WJ p l e (RM 1) s m args below meth c G A 7 0 0 Q ([aJ G a 456 f]) [(4, .int w0), (3, .int (f_X5_row_r k)), (0, .ref a), (1, .int k), (2, .int q)] 80 [.int (f_X5_cleans_x3 f k q)] := by
      generalize hw1 : f_X5_cleans_x3 f k q = w1
      refine j_istore C [(5, .int w1), (4, .int w0), (3, .int (f_X5_row_r k)), (0, .ref a), (1, .int k), (2, .int q)] dX5_cleans_80 (by decide) rfl ?_
      refine j_iload C dX5_cleans_82 0 rfl ?_
      have K119 : WJ p l e (RM 1) s m args below meth c G A 7 0 0 Q ([aJ G a 456 (f_X5_cleans_v6 f k q)]) [(5, .int w1), (4, .int w0), (3, .int (f_X5_row_r k)), (0, .ref a), (1, .int k), (2, .int q)] 119 [] := by
        generalize hw4 : f_X5_cleans_v6 f k q = w4
        refine j_iload C dX5_cleans_119 0 rfl ?_
        have K225 : WJ p l e (RM 1) s m args below meth c G A 7 0 0 Q ([aJ G a 456 (f_X5_cleans_v11 f k q)]) [(5, .int w1), (4, .int w0), (3, .int (f_X5_row_r k)), (0, .ref a), (1, .int k), (2, .int q)] 225 [] := by
          generalize hw13 : f_X5_cleans_v11 f k q = w13
          refine j_aload_n C dX5_cleans_225 3 rfl ?_
          refine j_iload_n C dX5_cleans_226 2 rfl ?_
          refine j_iconst (v := 4) C dX5_cleans_227 (by decide) ?_
          refine j_iadd C dX5_cleans_228 rfl ?_
          refine j_iload C dX5_cleans_229 0 rfl ?_
          have K266 : WJ p l e (RM 1) s m args below meth c G A 7 0 0 Q ([aJ G a 456 w13]) [(5, .int w1), (4, .int w0), (3, .int (f_X5_row_r k)), (0, .ref a), (1, .int k), (2, .int q)] 266 [.long (f_X5_cleans_x12 f k q), .int ((f_X5_row_r k) + 4), .ref a] := by
            generalize hw14 : f_X5_cleans_x12 f k q = w14
            refine j_last C 0 rfl (vin_row hd (by decide)) ([aJ G a 456 (vp_updL w13 ((f_X5_row_r k) + 4).toNatClampNeg w14)]) rfl dX5_cleans_266 ?_
            subst hQ; subst hw0 hw1 hw4 hw13 hw14; exact j_vret C hr hk (by rw [show f_X5_cleans_f f k q = vp_updL (f_X5_cleans_v11 f k q) ((f_X5_row_r k) + 4).toNatClampNeg (f_X5_cleans_x12 f k q) from rfl]) dX5_cleans_267
          refine j_if_eq (tgt := 265) C dX5_cleans_231 (by decide) (fun c231 => ?_) (fun c231 => ?_)
          · refine j_lconst (v := 0) C dX5_cleans_265 (by decide) ?_
            subst hw0 hw1 hw4 hw13; exact j_eq rfl rfl (by rw [show f_X5_cleans_x12 f k q = 0 from (if_pos c231)]) K266
          · refine j_iload_n C dX5_cleans_234 5 rfl ?_
            refine j_if_ne (tgt := 265) C dX5_cleans_235 (by decide) (fun c235 => ?_) (fun c235 => ?_)
            · refine j_lconst (v := 0) C dX5_cleans_265 (by decide) ?_
              subst hw0 hw1 hw4 hw13; exact j_eq rfl rfl (by rw [show f_X5_cleans_x12 f k q = 0 from ((if_neg c231).trans (if_neg c235))]) K266
            · refine j_aload_n C dX5_cleans_238 3 rfl ?_
              refine j_iload_n C dX5_cleans_239 2 rfl ?_
              refine j_iconst (v := 0) C dX5_cleans_240 (by decide) ?_
              refine j_iadd C dX5_cleans_241 rfl ?_
              refine j_lald C 0 rfl (vin_row hd (by decide)) (v := w13 ((f_X5_row_r k) + 0).toNatClampNeg) rfl dX5_cleans_242 ?_
              refine j_aload_n C dX5_cleans_243 3 rfl ?_
              refine j_bipush (v := 9) C dX5_cleans_244 (by decide) ?_
              refine j_lald C 0 rfl (vin_lit rfl) (v := w13 9) rfl dX5_cleans_246 ?_
              refine j_lcmp C dX5_cleans_247 ?_
              refine j_if_ge (tgt := 265) C dX5_cleans_248 (by decide) (fun c248 => ?_) (fun c248 => ?_)
              · refine j_lconst (v := 0) C dX5_cleans_265 (by decide) ?_
                subst hw0 hw1 hw4 hw13; exact j_eq rfl rfl (by rw [show f_X5_cleans_x12 f k q = 0 from ((if_neg c231).trans ((if_pos c235).trans (if_pos c248)))]) K266
              · refine j_aload_n C dX5_cleans_251 3 rfl ?_
                refine j_iload_n C dX5_cleans_252 2 rfl ?_
                refine j_iconst (v := 1) C dX5_cleans_253 (by decide) ?_
                refine j_iadd C dX5_cleans_254 rfl ?_
                refine j_lald C 0 rfl (vin_row hd (by decide)) (v := w13 ((f_X5_row_r k) + 1).toNatClampNeg) rfl dX5_cleans_255 ?_
                refine j_lconst (v := 0) C dX5_cleans_256 (by decide) ?_
                refine j_lcmp C dX5_cleans_257 ?_
                refine j_if_le (tgt := 265) C dX5_cleans_258 (by decide) (fun c258 => ?_) (fun c258 => ?_)
                · refine j_lconst (v := 0) C dX5_cleans_265 (by decide) ?_
                  subst hw0 hw1 hw4 hw13; exact j_eq rfl rfl (by rw [show f_X5_cleans_x12 f k q = 0 from ((if_neg c231).trans ((if_pos c235).trans ((if_neg c248).trans (if_pos c258))))]) K266
                · refine j_lconst (v := 1) C dX5_cleans_261 (by decide) ?_
                  refine j_goto (tgt := 266) C dX5_cleans_262 (by decide) ?_
                  subst hw0 hw1 hw4 hw13; exact j_eq rfl rfl (by rw [show f_X5_cleans_x12 f k q = 1 from ((if_neg c231).trans ((if_pos c235).trans ((if_neg c248).trans (if_neg c258))))]) K266
        refine j_if_eq (tgt := 225) C dX5_cleans_121 (by decide) (fun c121 => ?_) (fun c121 => ?_)
        · subst hw0 hw1 hw4; exact j_eq (by rw [show f_X5_cleans_v11 f k q = (f_X5_cleans_v6 f k q) from (if_pos c121)]) rfl rfl K225
        · refine j_iload_n C dX5_cleans_124 5 rfl ?_
          refine j_if_eq (tgt := 225) C dX5_cleans_125 (by decide) (fun c125 => ?_) (fun c125 => ?_)
          · subst hw0 hw1 hw4; exact j_eq (by rw [show f_X5_cleans_v11 f k q = (f_X5_cleans_v6 f k q) from ((if_neg c121).trans (if_pos c125))]) rfl rfl K225
          · refine j_aload_n C dX5_cleans_128 3 rfl ?_
            refine j_iload_n C dX5_cleans_129 2 rfl ?_
            refine j_bipush (v := 7) C dX5_cleans_130 (by decide) ?_
            refine j_iadd C dX5_cleans_132 rfl ?_
            refine j_dup2_11 C dX5_cleans_133 rfl rfl ?_
            refine j_lald C 0 rfl (vin_row hd (by decide)) (v := w4 ((f_X5_row_r k) + 7).toNatClampNeg) rfl dX5_cleans_134 ?_
            refine j_lconst (v := 1) C dX5_cleans_135 (by decide) ?_
            refine j_ladd C dX5_cleans_136 rfl ?_
            generalize hw5 : (w4 ((f_X5_row_r k) + 7).toNatClampNeg) + 1 = w5
            refine j_last C 0 rfl (vin_row hd (by decide)) ([aJ G a 456 (vp_updL w4 ((f_X5_row_r k) + 7).toNatClampNeg w5)]) rfl dX5_cleans_137 ?_
            refine j_aload_n C dX5_cleans_138 3 rfl ?_
            refine j_bipush (v := 56) C dX5_cleans_139 (by decide) ?_
            refine j_bipush (v := 100) C dX5_cleans_141 (by decide) ?_
            refine j_iload_n C dX5_cleans_143 4 rfl ?_
            refine j_imul C dX5_cleans_144 rfl ?_
            refine j_iadd C dX5_cleans_145 rfl ?_
            refine j_aload_n C dX5_cleans_146 3 rfl ?_
            refine j_iconst (v := 0) C dX5_cleans_147 (by decide) ?_
            refine j_lald C 0 rfl (vin_lit rfl) (v := (vp_updL w4 ((f_X5_row_r k) + 7).toNatClampNeg w5) 0) rfl dX5_cleans_148 ?_
            refine j_ldc2 (v := 60) C kw_480 dX5_cleans_149 ?_
            refine j_ldiv C dX5_cleans_152 (by decide) rfl ?_
            refine j_l2i C dX5_cleans_153 rfl ?_
            refine j_iadd C dX5_cleans_154 rfl ?_
            refine j_ldc2 (v := 3) C kw_554 dX5_cleans_155 ?_
            refine j_last C 0 rfl (by subst hw0 hw1 hw4 hw5; rw [row_ne hd (by decide) (by decide), show f_X5_cleans_v6 f k q 0 = f 0 by unfold f_X5_cleans_v6 f_X5_cleans_fq5 f_X5_moves_f; split; exact rfl; rw [row_ne hd (by decide) (by decide), row_ne hd (by decide) (by decide), row_ne hd (by decide) (by decide)]]; exact hq c125) ([aJ G a 456 (vp_updL (vp_updL w4 ((f_X5_row_r k) + 7).toNatClampNeg w5) ((56 + (100 * k)) + ((((vp_updL w4 ((f_X5_row_r k) + 7).toNatClampNeg w5) 0) / 60).toInt32)).toNatClampNeg 3)]) rfl dX5_cleans_158 ?_
            refine j_aload_n C dX5_cleans_159 3 rfl ?_
            refine j_iconst (v := 3) C dX5_cleans_160 (by decide) ?_
            refine j_lald C 0 rfl (vin_lit rfl) (v := (vp_updL (vp_updL w4 ((f_X5_row_r k) + 7).toNatClampNeg w5) ((56 + (100 * k)) + ((((vp_updL w4 ((f_X5_row_r k) + 7).toNatClampNeg w5) 0) / 60).toInt32)).toNatClampNeg 3) 3) rfl dX5_cleans_161 ?_
            refine j_lconst (v := 0) C dX5_cleans_162 (by decide) ?_
            refine j_lcmp C dX5_cleans_163 ?_
            have K172 : WJ p l e (RM 1) s m args below meth c G A 7 0 0 Q ([aJ G a 456 (vp_updL (vp_updL w4 ((f_X5_row_r k) + 7).toNatClampNeg w5) ((56 + (100 * k)) + ((((vp_updL w4 ((f_X5_row_r k) + 7).toNatClampNeg w5) 0) / 60).toInt32)).toNatClampNeg 3)]) [(5, .int w1), (4, .int w0), (3, .int (f_X5_row_r k)), (0, .ref a), (1, .int k), (2, .int q)] 172 [.int (f_X5_cleans_x7 f k q)] := by
              generalize hw6 : f_X5_cleans_x7 f k q = w6
              refine j_istore C [(6, .int w6), (5, .int w1), (4, .int w0), (3, .int (f_X5_row_r k)), (0, .ref a), (1, .int k), (2, .int q)] dX5_cleans_172 (by decide) rfl ?_
              refine j_aload_n C dX5_cleans_174 4 rfl ?_
              refine j_iconst (v := 3) C dX5_cleans_175 (by decide) ?_
              refine j_dup2_11 C dX5_cleans_176 rfl rfl ?_
              refine j_lald C 0 rfl (vin_lit rfl) (v := (vp_updL (vp_updL w4 ((f_X5_row_r k) + 7).toNatClampNeg w5) ((56 + (100 * k)) + ((((vp_updL w4 ((f_X5_row_r k) + 7).toNatClampNeg w5) 0) / 60).toInt32)).toNatClampNeg 3) 3) rfl dX5_cleans_177 ?_
              refine j_iload C dX5_cleans_178 0 rfl ?_
              have K188 : WJ p l e (RM 1) s m args below meth c G A 7 0 0 Q ([aJ G a 456 (vp_updL (vp_updL w4 ((f_X5_row_r k) + 7).toNatClampNeg w5) ((56 + (100 * k)) + ((((vp_updL w4 ((f_X5_row_r k) + 7).toNatClampNeg w5) 0) / 60).toInt32)).toNatClampNeg 3)]) [(6, .int w6), (5, .int w1), (4, .int w0), (3, .int (f_X5_row_r k)), (0, .ref a), (1, .int k), (2, .int q)] 188 [.long (f_X5_cleans_x8 f k q), .long ((vp_updL (vp_updL w4 ((f_X5_row_r k) + 7).toNatClampNeg w5) ((56 + (100 * k)) + ((((vp_updL w4 ((f_X5_row_r k) + 7).toNatClampNeg w5) 0) / 60).toInt32)).toNatClampNeg 3) 3), .int 3, .ref a] := by
                generalize hw7 : f_X5_cleans_x8 f k q = w7
                refine j_lsub C dX5_cleans_188 rfl ?_
                generalize hw8 : ((vp_updL (vp_updL w4 ((f_X5_row_r k) + 7).toNatClampNeg w5) ((56 + (100 * k)) + ((((vp_updL w4 ((f_X5_row_r k) + 7).toNatClampNeg w5) 0) / 60).toInt32)).toNatClampNeg 3) 3) - w7 = w8
                refine j_last C 0 rfl (vin_lit rfl) ([aJ G a 456 (vp_updL (vp_updL (vp_updL w4 ((f_X5_row_r k) + 7).toNatClampNeg w5) ((56 + (100 * k)) + ((((vp_updL w4 ((f_X5_row_r k) + 7).toNatClampNeg w5) 0) / 60).toInt32)).toNatClampNeg 3) 3 w8)]) rfl dX5_cleans_189 ?_
                refine j_aload_n C dX5_cleans_190 4 rfl ?_
                refine j_iconst (v := 4) C dX5_cleans_191 (by decide) ?_
                refine j_dup2_11 C dX5_cleans_192 rfl rfl ?_
                refine j_lald C 0 rfl (vin_lit rfl) (v := (vp_updL (vp_updL (vp_updL w4 ((f_X5_row_r k) + 7).toNatClampNeg w5) ((56 + (100 * k)) + ((((vp_updL w4 ((f_X5_row_r k) + 7).toNatClampNeg w5) 0) / 60).toInt32)).toNatClampNeg 3) 3 w8) 4) rfl dX5_cleans_193 ?_
                refine j_iload C dX5_cleans_194 0 rfl ?_
                have K204 : WJ p l e (RM 1) s m args below meth c G A 7 0 0 Q ([aJ G a 456 (vp_updL (vp_updL (vp_updL w4 ((f_X5_row_r k) + 7).toNatClampNeg w5) ((56 + (100 * k)) + ((((vp_updL w4 ((f_X5_row_r k) + 7).toNatClampNeg w5) 0) / 60).toInt32)).toNatClampNeg 3) 3 w8)]) [(6, .int w6), (5, .int w1), (4, .int w0), (3, .int (f_X5_row_r k)), (0, .ref a), (1, .int k), (2, .int q)] 204 [.long (f_X5_cleans_x9 f k q), .long ((vp_updL (vp_updL (vp_updL w4 ((f_X5_row_r k) + 7).toNatClampNeg w5) ((56 + (100 * k)) + ((((vp_updL w4 ((f_X5_row_r k) + 7).toNatClampNeg w5) 0) / 60).toInt32)).toNatClampNeg 3) 3 w8) 4), .int 4, .ref a] := by
                  generalize hw9 : f_X5_cleans_x9 f k q = w9
                  refine j_ladd C dX5_cleans_204 rfl ?_
                  generalize hw10 : ((vp_updL (vp_updL (vp_updL w4 ((f_X5_row_r k) + 7).toNatClampNeg w5) ((56 + (100 * k)) + ((((vp_updL w4 ((f_X5_row_r k) + 7).toNatClampNeg w5) 0) / 60).toInt32)).toNatClampNeg 3) 3 w8) 4) + w9 = w10
                  refine j_last C 0 rfl (vin_lit rfl) ([aJ G a 456 (vp_updL (vp_updL (vp_updL (vp_updL w4 ((f_X5_row_r k) + 7).toNatClampNeg w5) ((56 + (100 * k)) + ((((vp_updL w4 ((f_X5_row_r k) + 7).toNatClampNeg w5) 0) / 60).toInt32)).toNatClampNeg 3) 3 w8) 4 w10)]) rfl dX5_cleans_205 ?_
                  refine j_aload_n C dX5_cleans_206 4 rfl ?_
                  refine j_iconst (v := 2) C dX5_cleans_207 (by decide) ?_
                  refine j_dup2_11 C dX5_cleans_208 rfl rfl ?_
                  refine j_lald C 0 rfl (vin_lit rfl) (v := (vp_updL (vp_updL (vp_updL (vp_updL w4 ((f_X5_row_r k) + 7).toNatClampNeg w5) ((56 + (100 * k)) + ((((vp_updL w4 ((f_X5_row_r k) + 7).toNatClampNeg w5) 0) / 60).toInt32)).toNatClampNeg 3) 3 w8) 4 w10) 2) rfl dX5_cleans_209 ?_
                  refine j_iload C dX5_cleans_210 0 rfl ?_
                  have K223 : WJ p l e (RM 1) s m args below meth c G A 7 0 0 Q ([aJ G a 456 (vp_updL (vp_updL (vp_updL (vp_updL w4 ((f_X5_row_r k) + 7).toNatClampNeg w5) ((56 + (100 * k)) + ((((vp_updL w4 ((f_X5_row_r k) + 7).toNatClampNeg w5) 0) / 60).toInt32)).toNatClampNeg 3) 3 w8) 4 w10)]) [(6, .int w6), (5, .int w1), (4, .int w0), (3, .int (f_X5_row_r k)), (0, .ref a), (1, .int k), (2, .int q)] 223 [.long (f_X5_cleans_x10 f k q), .long ((vp_updL (vp_updL (vp_updL (vp_updL w4 ((f_X5_row_r k) + 7).toNatClampNeg w5) ((56 + (100 * k)) + ((((vp_updL w4 ((f_X5_row_r k) + 7).toNatClampNeg w5) 0) / 60).toInt32)).toNatClampNeg 3) 3 w8) 4 w10) 2), .int 2, .ref a] := by
                    generalize hw11 : f_X5_cleans_x10 f k q = w11
                    refine j_ladd C dX5_cleans_223 rfl ?_
                    generalize hw12 : ((vp_updL (vp_updL (vp_updL (vp_updL w4 ((f_X5_row_r k) + 7).toNatClampNeg w5) ((56 + (100 * k)) + ((((vp_updL w4 ((f_X5_row_r k) + 7).toNatClampNeg w5) 0) / 60).toInt32)).toNatClampNeg 3) 3 w8) 4 w10) 2) + w11 = w12
                    refine j_last C 0 rfl (vin_lit rfl) ([aJ G a 456 (vp_updL (vp_updL (vp_updL (vp_updL (vp_updL w4 ((f_X5_row_r k) + 7).toNatClampNeg w5) ((56 + (100 * k)) + ((((vp_updL w4 ((f_X5_row_r k) + 7).toNatClampNeg w5) 0) / 60).toInt32)).toNatClampNeg 3) 3 w8) 4 w10) 2 w12)]) rfl dX5_cleans_224 ?_
                    refine j_lv [1, 2, 3, 4, 5, 6] [(5, .int w1), (4, .int w0), (3, .int (f_X5_row_r k)), (0, .ref a), (1, .int k), (2, .int q)] rfl ?_
                    subst hw0 hw1 hw4 hw5 hw6 hw7 hw8 hw9 hw10 hw11 hw12; exact j_eq (by rw [show f_X5_cleans_v11 f k q = vp_updL (vp_updL (vp_updL (vp_updL (vp_updL (f_X5_cleans_v6 f k q) ((f_X5_row_r k) + 7).toNatClampNeg (((f_X5_cleans_v6 f k q) ((f_X5_row_r k) + 7).toNatClampNeg) + 1)) ((56 + (100 * k)) + ((((vp_updL (f_X5_cleans_v6 f k q) ((f_X5_row_r k) + 7).toNatClampNeg (((f_X5_cleans_v6 f k q) ((f_X5_row_r k) + 7).toNatClampNeg) + 1)) 0) / 60).toInt32)).toNatClampNeg 3) 3 (((vp_updL (vp_updL (f_X5_cleans_v6 f k q) ((f_X5_row_r k) + 7).toNatClampNeg (((f_X5_cleans_v6 f k q) ((f_X5_row_r k) + 7).toNatClampNeg) + 1)) ((56 + (100 * k)) + ((((vp_updL (f_X5_cleans_v6 f k q) ((f_X5_row_r k) + 7).toNatClampNeg (((f_X5_cleans_v6 f k q) ((f_X5_row_r k) + 7).toNatClampNeg) + 1)) 0) / 60).toInt32)).toNatClampNeg 3) 3) - (f_X5_cleans_x8 f k q))) 4 (((vp_updL (vp_updL (vp_updL (f_X5_cleans_v6 f k q) ((f_X5_row_r k) + 7).toNatClampNeg (((f_X5_cleans_v6 f k q) ((f_X5_row_r k) + 7).toNatClampNeg) + 1)) ((56 + (100 * k)) + ((((vp_updL (f_X5_cleans_v6 f k q) ((f_X5_row_r k) + 7).toNatClampNeg (((f_X5_cleans_v6 f k q) ((f_X5_row_r k) + 7).toNatClampNeg) + 1)) 0) / 60).toInt32)).toNatClampNeg 3) 3 (((vp_updL (vp_updL (f_X5_cleans_v6 f k q) ((f_X5_row_r k) + 7).toNatClampNeg (((f_X5_cleans_v6 f k q) ((f_X5_row_r k) + 7).toNatClampNeg) + 1)) ((56 + (100 * k)) + ((((vp_updL (f_X5_cleans_v6 f k q) ((f_X5_row_r k) + 7).toNatClampNeg (((f_X5_cleans_v6 f k q) ((f_X5_row_r k) + 7).toNatClampNeg) + 1)) 0) / 60).toInt32)).toNatClampNeg 3) 3) - (f_X5_cleans_x8 f k q))) 4) + (f_X5_cleans_x9 f k q))) 2 (((vp_updL (vp_updL (vp_updL (vp_updL (f_X5_cleans_v6 f k q) ((f_X5_row_r k) + 7).toNatClampNeg (((f_X5_cleans_v6 f k q) ((f_X5_row_r k) + 7).toNatClampNeg) + 1)) ((56 + (100 * k)) + ((((vp_updL (f_X5_cleans_v6 f k q) ((f_X5_row_r k) + 7).toNatClampNeg (((f_X5_cleans_v6 f k q) ((f_X5_row_r k) + 7).toNatClampNeg) + 1)) 0) / 60).toInt32)).toNatClampNeg 3) 3 (((vp_updL (vp_updL (f_X5_cleans_v6 f k q) ((f_X5_row_r k) + 7).toNatClampNeg (((f_X5_cleans_v6 f k q) ((f_X5_row_r k) + 7).toNatClampNeg) + 1)) ((56 + (100 * k)) + ((((vp_updL (f_X5_cleans_v6 f k q) ((f_X5_row_r k) + 7).toNatClampNeg (((f_X5_cleans_v6 f k q) ((f_X5_row_r k) + 7).toNatClampNeg) + 1)) 0) / 60).toInt32)).toNatClampNeg 3) 3) - (f_X5_cleans_x8 f k q))) 4 (((vp_updL (vp_updL (vp_updL (f_X5_cleans_v6 f k q) ((f_X5_row_r k) + 7).toNatClampNeg (((f_X5_cleans_v6 f k q) ((f_X5_row_r k) + 7).toNatClampNeg) + 1)) ((56 + (100 * k)) + ((((vp_updL (f_X5_cleans_v6 f k q) ((f_X5_row_r k) + 7).toNatClampNeg (((f_X5_cleans_v6 f k q) ((f_X5_row_r k) + 7).toNatClampNeg) + 1)) 0) / 60).toInt32)).toNatClampNeg 3) 3 (((vp_updL (vp_updL (f_X5_cleans_v6 f k q) ((f_X5_row_r k) + 7).toNatClampNeg (((f_X5_cleans_v6 f k q) ((f_X5_row_r k) + 7).toNatClampNeg) + 1)) ((56 + (100 * k)) + ((((vp_updL (f_X5_cleans_v6 f k q) ((f_X5_row_r k) + 7).toNatClampNeg (((f_X5_cleans_v6 f k q) ((f_X5_row_r k) + 7).toNatClampNeg) + 1)) 0) / 60).toInt32)).toNatClampNeg 3) 3) - (f_X5_cleans_x8 f k q))) 4) + (f_X5_cleans_x9 f k q))) 2) + (f_X5_cleans_x10 f k q)) from ((if_neg c121).trans (if_neg c125))]) rfl rfl K225
                  refine j_if_eq (tgt := 219) C dX5_cleans_212 (by decide) (fun c212 => ?_) (fun c212 => ?_)
                  · refine j_aload_n C dX5_cleans_219 4 rfl ?_
                    refine j_bipush (v := 6) C dX5_cleans_220 (by decide) ?_
                    refine j_lald C 0 rfl (vin_lit rfl) (v := (vp_updL (vp_updL (vp_updL (vp_updL w4 ((f_X5_row_r k) + 7).toNatClampNeg w5) ((56 + (100 * k)) + ((((vp_updL w4 ((f_X5_row_r k) + 7).toNatClampNeg w5) 0) / 60).toInt32)).toNatClampNeg 3) 3 w8) 4 w10) 6) rfl dX5_cleans_222 ?_
                    subst hw0 hw1 hw4 hw5 hw6 hw7 hw8 hw9 hw10; exact j_eq rfl rfl (by rw [show f_X5_cleans_x10 f k q = (vp_updL (vp_updL (vp_updL (vp_updL (f_X5_cleans_v6 f k q) ((f_X5_row_r k) + 7).toNatClampNeg (((f_X5_cleans_v6 f k q) ((f_X5_row_r k) + 7).toNatClampNeg) + 1)) ((56 + (100 * k)) + ((((vp_updL (f_X5_cleans_v6 f k q) ((f_X5_row_r k) + 7).toNatClampNeg (((f_X5_cleans_v6 f k q) ((f_X5_row_r k) + 7).toNatClampNeg) + 1)) 0) / 60).toInt32)).toNatClampNeg 3) 3 (((vp_updL (vp_updL (f_X5_cleans_v6 f k q) ((f_X5_row_r k) + 7).toNatClampNeg (((f_X5_cleans_v6 f k q) ((f_X5_row_r k) + 7).toNatClampNeg) + 1)) ((56 + (100 * k)) + ((((vp_updL (f_X5_cleans_v6 f k q) ((f_X5_row_r k) + 7).toNatClampNeg (((f_X5_cleans_v6 f k q) ((f_X5_row_r k) + 7).toNatClampNeg) + 1)) 0) / 60).toInt32)).toNatClampNeg 3) 3) - (f_X5_cleans_x8 f k q))) 4 (((vp_updL (vp_updL (vp_updL (f_X5_cleans_v6 f k q) ((f_X5_row_r k) + 7).toNatClampNeg (((f_X5_cleans_v6 f k q) ((f_X5_row_r k) + 7).toNatClampNeg) + 1)) ((56 + (100 * k)) + ((((vp_updL (f_X5_cleans_v6 f k q) ((f_X5_row_r k) + 7).toNatClampNeg (((f_X5_cleans_v6 f k q) ((f_X5_row_r k) + 7).toNatClampNeg) + 1)) 0) / 60).toInt32)).toNatClampNeg 3) 3 (((vp_updL (vp_updL (f_X5_cleans_v6 f k q) ((f_X5_row_r k) + 7).toNatClampNeg (((f_X5_cleans_v6 f k q) ((f_X5_row_r k) + 7).toNatClampNeg) + 1)) ((56 + (100 * k)) + ((((vp_updL (f_X5_cleans_v6 f k q) ((f_X5_row_r k) + 7).toNatClampNeg (((f_X5_cleans_v6 f k q) ((f_X5_row_r k) + 7).toNatClampNeg) + 1)) 0) / 60).toInt32)).toNatClampNeg 3) 3) - (f_X5_cleans_x8 f k q))) 4) + (f_X5_cleans_x9 f k q))) 6 from (if_pos c212)]) K223
                  · refine j_lconst (v := 0) C dX5_cleans_215 (by decide) ?_
                    refine j_goto (tgt := 223) C dX5_cleans_216 (by decide) ?_
                    subst hw0 hw1 hw4 hw5 hw6 hw7 hw8 hw9 hw10; exact j_eq rfl rfl (by rw [show f_X5_cleans_x10 f k q = 0 from (if_neg c212)]) K223
                refine j_if_eq (tgt := 203) C dX5_cleans_196 (by decide) (fun c196 => ?_) (fun c196 => ?_)
                · refine j_lconst (v := 0) C dX5_cleans_203 (by decide) ?_
                  subst hw0 hw1 hw4 hw5 hw6 hw7 hw8; exact j_eq rfl rfl (by rw [show f_X5_cleans_x9 f k q = 0 from (if_pos c196)]) K204
                · refine j_lconst (v := 1) C dX5_cleans_199 (by decide) ?_
                  refine j_goto (tgt := 204) C dX5_cleans_200 (by decide) ?_
                  subst hw0 hw1 hw4 hw5 hw6 hw7 hw8; exact j_eq rfl rfl (by rw [show f_X5_cleans_x9 f k q = 1 from (if_neg c196)]) K204
              refine j_if_eq (tgt := 187) C dX5_cleans_180 (by decide) (fun c180 => ?_) (fun c180 => ?_)
              · refine j_lconst (v := 0) C dX5_cleans_187 (by decide) ?_
                subst hw0 hw1 hw4 hw5 hw6; exact j_eq rfl rfl (by rw [show f_X5_cleans_x8 f k q = 0 from (if_pos c180)]) K188
              · refine j_lconst (v := 1) C dX5_cleans_183 (by decide) ?_
                refine j_goto (tgt := 188) C dX5_cleans_184 (by decide) ?_
                subst hw0 hw1 hw4 hw5 hw6; exact j_eq rfl rfl (by rw [show f_X5_cleans_x8 f k q = 1 from (if_neg c180)]) K188
            refine j_if_le (tgt := 171) C dX5_cleans_164 (by decide) (fun c164 => ?_) (fun c164 => ?_)
            · refine j_iconst (v := 0) C dX5_cleans_171 (by decide) ?_
              subst hw0 hw1 hw4 hw5; exact j_eq rfl rfl (by rw [show f_X5_cleans_x7 f k q = 0 from (if_pos c164)]) K172
            · refine j_iconst (v := 1) C dX5_cleans_167 (by decide) ?_
              refine j_goto (tgt := 172) C dX5_cleans_168 (by decide) ?_
              subst hw0 hw1 hw4 hw5; exact j_eq rfl rfl (by rw [show f_X5_cleans_x7 f k q = 1 from (if_neg c164)]) K172
      refine j_if_eq (tgt := 119) C dX5_cleans_84 (by decide) (fun c84 => ?_) (fun c84 => ?_)
      · subst hw0 hw1; exact j_eq (by rw [show f_X5_cleans_v6 f k q = f from (if_pos c84)]) rfl rfl K119
      · refine j_aload_n C dX5_cleans_87 3 rfl ?_
        refine j_iload_n C dX5_cleans_88 2 rfl ?_
        refine j_iconst (v := 1) C dX5_cleans_89 (by decide) ?_
        refine j_iadd C dX5_cleans_90 rfl ?_
        refine j_iload_n C dX5_cleans_91 2 rfl ?_
        refine j_iconst (v := 0) C dX5_cleans_92 (by decide) ?_
        refine j_iadd C dX5_cleans_93 rfl ?_
        refine j_aload_n C dX5_cleans_94 3 rfl ?_
        refine j_bipush (v := 10) C dX5_cleans_95 (by decide) ?_
        refine j_lald C 0 rfl (vin_lit rfl) (v := f 10) rfl dX5_cleans_97 ?_
        refine j_aload_n C dX5_cleans_98 3 rfl ?_
        refine j_iload_n C dX5_cleans_99 2 rfl ?_
        refine j_iconst (v := 1) C dX5_cleans_100 (by decide) ?_
        refine j_iadd C dX5_cleans_101 rfl ?_
        refine j_lald C 0 rfl (vin_row hd (by decide)) (v := f ((f_X5_row_r k) + 1).toNatClampNeg) rfl dX5_cleans_102 ?_
        refine j_pureS_l (r := f_X5_least_r (f 10) (f ((f_X5_row_r k) + 1).toNatClampNeg)) C (m_X5_least l G (f 10) (f ((f_X5_row_r k) + 1).toNatClampNeg)) 2 (gS kw_617 kw_618 kw_7 kw_619) (by decide +kernel) ⟨(Nat.le_of_ble_eq_true rfl), (Nat.le_of_ble_eq_true rfl)⟩ rfl rfl (Nat.le_of_ble_eq_true rfl) dX5_cleans_103 ⟨(Nat.le_of_ble_eq_true rfl), (Nat.le_of_ble_eq_true rfl)⟩ ?_
        refine j_callS_v (wc' := [aJ G a 456 (f_X5_moves_f f ((f_X5_row_r k) + 1) ((f_X5_row_r k) + 0) (f_X5_least_r (f 10) (f ((f_X5_row_r k) + 1).toNatClampNeg)))]) C (m_X5_moves l G a f ((f_X5_row_r k) + 1) ((f_X5_row_r k) + 0) (f_X5_least_r (f 10) (f ((f_X5_row_r k) + 1).toNatClampNeg)) (vin_row hd (by decide)) (vin_row hd (by decide))) 4 (gS kw_620 kw_621 kw_7 kw_622) (by decide +kernel) ⟨(Nat.le_of_ble_eq_true rfl), (Nat.le_of_ble_eq_true rfl)⟩ rfl rfl (Nat.le_of_ble_eq_true rfl) dX5_cleans_106 ⟨(Nat.le_of_ble_eq_true rfl), (Nat.le_of_ble_eq_true rfl)⟩ [] [aJ G a 456 (f_X5_moves_f f ((f_X5_row_r k) + 1) ((f_X5_row_r k) + 0) (f_X5_least_r (f 10) (f ((f_X5_row_r k) + 1).toNatClampNeg)))] (perm_idx [0] 1 rfl (by decide +kernel) rfl) rfl ?_
        generalize hzw2 : f_X5_moves_f f ((f_X5_row_r k) + 1) ((f_X5_row_r k) + 0) (f_X5_least_r (f 10) (f ((f_X5_row_r k) + 1).toNatClampNeg)) = w2
        have hw2 : f_X5_cleans_fq5 f k q = w2 := by subst hw0 hw1; subst hzw2; rfl
        refine j_aload_n C dX5_cleans_109 3 rfl ?_
        refine j_iload_n C dX5_cleans_110 2 rfl ?_
        refine j_bipush (v := 6) C dX5_cleans_111 (by decide) ?_
        refine j_iadd C dX5_cleans_113 rfl ?_
        refine j_dup2_11 C dX5_cleans_114 rfl rfl ?_
        refine j_lald C 0 rfl (vin_row hd (by decide)) (v := w2 ((f_X5_row_r k) + 6).toNatClampNeg) rfl dX5_cleans_115 ?_
        refine j_lconst (v := 1) C dX5_cleans_116 (by decide) ?_
        refine j_ladd C dX5_cleans_117 rfl ?_
        generalize hw3 : (w2 ((f_X5_row_r k) + 6).toNatClampNeg) + 1 = w3
        refine j_last C 0 rfl (vin_row hd (by decide)) ([aJ G a 456 (vp_updL w2 ((f_X5_row_r k) + 6).toNatClampNeg w3)]) rfl dX5_cleans_118 ?_
        subst hw0 hw1 hw2 hw3; exact j_eq (by rw [show f_X5_cleans_v6 f k q = vp_updL (f_X5_cleans_fq5 f k q) ((f_X5_row_r k) + 6).toNatClampNeg (((f_X5_cleans_fq5 f k q) ((f_X5_row_r k) + 6).toNatClampNeg) + 1) from (if_neg c84)]) rfl rfl K119
    refine j_if_eq (tgt := 79) C dX5_cleans_62 (by decide) (fun c62 => ?_) (fun c62 => ?_)
    · refine j_iconst (v := 0) C dX5_cleans_79 (by decide) ?_
      subst hw0; exact j_eq rfl rfl (by rw [show f_X5_cleans_x3 f k q = 0 from (if_pos c62)]) K80
    · refine j_aload_n C dX5_cleans_65 2 rfl ?_
      refine j_iload_n C dX5_cleans_66 1 rfl ?_
      refine j_iconst (v := 1) C dX5_cleans_67 (by decide) ?_
      refine j_iadd C dX5_cleans_68 rfl ?_
      refine j_lald C 0 rfl (vin_row hd (by decide)) (v := f ((f_X5_row_r k) + 1).toNatClampNeg) rfl dX5_cleans_69 ?_
      refine j_lconst (v := 0) C dX5_cleans_70 (by decide) ?_
      refine j_lcmp C dX5_cleans_71 ?_
      refine j_if_le (tgt := 79) C dX5_cleans_72 (by decide) (fun c72 => ?_) (fun c72 => ?_)
      · refine j_iconst (v := 0) C dX5_cleans_79 (by decide) ?_
        subst hw0; exact j_eq rfl rfl (by rw [show f_X5_cleans_x3 f k q = 0 from ((if_neg c62).trans (if_pos c72))]) K80
      · refine j_iconst (v := 1) C dX5_cleans_75 (by decide) ?_
        refine j_goto (tgt := 80) C dX5_cleans_76 (by decide) ?_
        subst hw0; exact j_eq rfl rfl (by rw [show f_X5_cleans_x3 f k q = 1 from ((if_neg c62).trans (if_neg c72))]) K80
  refine j_if_eq (tgt := 30) C dX5_cleans_6 (by decide) (fun c6 => ?_) (fun c6 => ?_)
  · refine j_aload_n C dX5_cleans_30 1 rfl ?_
    refine j_iload_n C dX5_cleans_31 0 rfl ?_
    refine j_iconst (v := 4) C dX5_cleans_32 (by decide) ?_
    refine j_iadd C dX5_cleans_33 rfl ?_
    refine j_lald C 0 rfl (vin_row hd (by decide)) (v := f ((f_X5_row_r k) + 4).toNatClampNeg) rfl dX5_cleans_34 ?_
    refine j_lconst (v := 1) C dX5_cleans_35 (by decide) ?_
    refine j_lcmp C dX5_cleans_36 ?_
    refine j_if_eq (tgt := 53) C dX5_cleans_37 (by decide) (fun c37 => ?_) (fun c37 => ?_)
    · refine j_iconst (v := 1) C dX5_cleans_53 (by decide) ?_
      refine j_goto (tgt := 58) C dX5_cleans_54 (by decide) ?_
      exact j_eq rfl rfl (by rw [show f_X5_cleans_x2 f k q = 1 from ((if_pos c6).trans (if_pos c37))]) K58
    · refine j_aload_n C dX5_cleans_40 1 rfl ?_
      refine j_iload_n C dX5_cleans_41 0 rfl ?_
      refine j_iconst (v := 0) C dX5_cleans_42 (by decide) ?_
      refine j_iadd C dX5_cleans_43 rfl ?_
      refine j_lald C 0 rfl (vin_row hd (by decide)) (v := f ((f_X5_row_r k) + 0).toNatClampNeg) rfl dX5_cleans_44 ?_
      refine j_aload_n C dX5_cleans_45 1 rfl ?_
      refine j_bipush (v := 8) C dX5_cleans_46 (by decide) ?_
      refine j_lald C 0 rfl (vin_lit rfl) (v := f 8) rfl dX5_cleans_48 ?_
      refine j_lcmp C dX5_cleans_49 ?_
      refine j_if_ge (tgt := 57) C dX5_cleans_50 (by decide) (fun c50 => ?_) (fun c50 => ?_)
      · refine j_iconst (v := 0) C dX5_cleans_57 (by decide) ?_
        exact j_eq rfl rfl (by rw [show f_X5_cleans_x2 f k q = 0 from ((if_pos c6).trans ((if_neg c37).trans (if_pos c50)))]) K58
      · refine j_iconst (v := 1) C dX5_cleans_53 (by decide) ?_
        refine j_goto (tgt := 58) C dX5_cleans_54 (by decide) ?_
        exact j_eq rfl rfl (by rw [show f_X5_cleans_x2 f k q = 1 from ((if_pos c6).trans ((if_neg c37).trans (if_neg c50)))]) K58
  · refine j_aload_n C dX5_cleans_9 1 rfl ?_
    refine j_iload_n C dX5_cleans_10 0 rfl ?_
    refine j_iconst (v := 3) C dX5_cleans_11 (by decide) ?_
    refine j_iadd C dX5_cleans_12 rfl ?_
    refine j_lald C 0 rfl (vin_row hd (by decide)) (v := f ((f_X5_row_r k) + 3).toNatClampNeg) rfl dX5_cleans_13 ?_
    refine j_aload_n C dX5_cleans_14 1 rfl ?_
    refine j_bipush (v := 11) C dX5_cleans_15 (by decide) ?_
    refine j_lald C 0 rfl (vin_lit rfl) (v := f 11) rfl dX5_cleans_17 ?_
    refine j_lcmp C dX5_cleans_18 ?_
    refine j_if_le (tgt := 26) C dX5_cleans_19 (by decide) (fun c19 => ?_) (fun c19 => ?_)
    · refine j_iconst (v := 0) C dX5_cleans_26 (by decide) ?_
      refine j_goto (tgt := 58) C dX5_cleans_27 (by decide) ?_
      exact j_eq rfl rfl (by rw [show f_X5_cleans_x2 f k q = 0 from ((if_neg c6).trans (if_pos c19))]) K58
    · refine j_iconst (v := 1) C dX5_cleans_22 (by decide) ?_
      refine j_goto (tgt := 58) C dX5_cleans_23 (by decide) ?_
      exact j_eq rfl rfl (by rw [show f_X5_cleans_x2 f k q = 1 from ((if_neg c6).trans (if_neg c19))]) K58
theorem vin_x {k : Int32} (hd : vp_in k 4) : vp_in (k ^^^ 1) 4 := by
  obtain ⟨j, hj, rfl⟩ := vp_in_of hd (by decide)
  rcases (show j = 0 ∨ j = 1 ∨ j = 2 ∨ j = 3 by omega) with rfl | rfl | rfl | rfl <;> exact vin_lit (by decide)
noncomputable def f_X5_writes_rq3 (f : Nat → Int64) (k : Int32) (q : Int32) : Int64 := f_X5_least_r (f ((f_X5_row_r (k ^^^ 1)) + 2).toNatClampNeg) (f ((f_X5_row_r k) + 0).toNatClampNeg)
noncomputable def f_X5_writes_fq4 (f : Nat → Int64) (k : Int32) (q : Int32) : (Nat → Int64) := f_X5_moves_f f ((f_X5_row_r (k ^^^ 1)) + 2) ((f_X5_row_r (k ^^^ 1)) + 1) (f_X5_writes_rq3 f k q)
noncomputable def f_X5_writes_fq5 (f : Nat → Int64) (k : Int32) (q : Int32) : (Nat → Int64) := f_X5_moves_f (f_X5_writes_fq4 f k q) ((f_X5_row_r k) + 0) ((f_X5_row_r k) + 1) (f_X5_writes_rq3 f k q)
noncomputable def f_X5_writes_v6 (f : Nat → Int64) (k : Int32) (q : Int32) : (Nat → Int64) := (if q = 0 then vp_updL (f_X5_writes_fq5 f k q) ((f_X5_row_r k) + 5).toNatClampNeg (((f_X5_writes_fq5 f k q) ((f_X5_row_r k) + 5).toNatClampNeg) + (f_X5_writes_rq3 f k q)) else f)
noncomputable def f_X5_writes_rq7 (f : Nat → Int64) (k : Int32) (q : Int32) : Int64 := f_X5_least_r ((f_X5_writes_v6 f k q) ((f_X5_row_r k) + 3).toNatClampNeg) ((f_X5_writes_v6 f k q) ((f_X5_row_r k) + 0).toNatClampNeg)
noncomputable def f_X5_writes_fq8 (f : Nat → Int64) (k : Int32) (q : Int32) : (Nat → Int64) := f_X5_moves_f (f_X5_writes_v6 f k q) ((f_X5_row_r k) + 0) ((f_X5_row_r k) + 1) (f_X5_writes_rq7 f k q)
noncomputable def f_X5_writes_fq9 (f : Nat → Int64) (k : Int32) (q : Int32) : (Nat → Int64) := f_X5_moves_f (f_X5_writes_fq8 f k q) ((f_X5_row_r k) + 3) ((f_X5_row_r k) + 5) (f_X5_writes_rq7 f k q)
noncomputable def f_X5_writes_rq11 (f : Nat → Int64) (k : Int32) (q : Int32) : Int64 := f_X5_least_r (((f_X5_writes_fq9 f k q) ((f_X5_row_r k) + 3).toNatClampNeg) - ((f_X5_writes_fq9 f k q) 11)) ((f_X5_writes_fq9 f k q) ((f_X5_row_r (k ^^^ 1)) + 0).toNatClampNeg)
noncomputable def f_X5_writes_fq12 (f : Nat → Int64) (k : Int32) (q : Int32) : (Nat → Int64) := f_X5_moves_f (f_X5_writes_fq9 f k q) ((f_X5_row_r (k ^^^ 1)) + 0) ((f_X5_row_r (k ^^^ 1)) + 2) (f_X5_writes_rq11 f k q)
noncomputable def f_X5_writes_v13 (f : Nat → Int64) (k : Int32) (q : Int32) : (Nat → Int64) := (if q = 0 then (f_X5_writes_fq9 f k q) else (if lg_cmp (((f_X5_writes_fq9 f k q) ((f_X5_row_r k) + 3).toNatClampNeg) - ((f_X5_writes_fq9 f k q) 11)) 0 ≤ 0 then (f_X5_writes_fq9 f k q) else (if f_X5_isQuiet_r (f_X5_writes_fq9 f k q) (k ^^^ 1) = 0 then vp_updL (f_X5_writes_fq12 f k q) ((f_X5_row_r k) + 3).toNatClampNeg (((f_X5_writes_fq12 f k q) ((f_X5_row_r k) + 3).toNatClampNeg) - (f_X5_writes_rq11 f k q)) else (f_X5_writes_fq9 f k q))))
noncomputable def f_X5_writes_f (f : Nat → Int64) (k : Int32) (q : Int32) : (Nat → Int64) := (f_X5_writes_v13 f k q)
set_option maxRecDepth 100000 in
set_option maxHeartbeats 4000000 in
theorem m_X5_writes (l : Launch) (G : GG) (a : Nat) (f : Nat → Int64) (k : Int32) (q : Int32) (hd : vp_in k 4) : CtV l yX5_writes cX5_writes 11 (none : Option Jvm.ClassFile.FieldType) (RM 2) G [.ref a, .int k, .int q] ([aJ G a 456 f]) ([aJ G a 456 (f_X5_writes_f f k q)]) := by
  refine ct_V RX5 [(0, .ref a), (1, .int k), (2, .int q)] rfl (by decide +kernel) (Nat.le_of_ble_eq_true rfl) rfl ?_
  intro p e s m args below meth c A C hr hk hnm
  generalize hQ : (MQ below (PostV G A ([aJ G a 456 (f_X5_writes_f f k q)])) args s (RM 2).cells (RM 2).slots A) = Q
  refine j_iload_n C dX5_writes_0 1 rfl ?_
  refine j_pureS_i (r := f_X5_row_r k) C (m_X5_row l G k) 1 (gS kw_486 kw_487 kw_7 kw_488) (by decide +kernel) ⟨(Nat.le_of_ble_eq_true rfl), (Nat.le_of_ble_eq_true rfl)⟩ rfl rfl (Nat.le_of_ble_eq_true rfl) dX5_writes_1 ⟨(Nat.le_of_ble_eq_true rfl), (Nat.le_of_ble_eq_true rfl)⟩ ?_
  refine j_istore_n C [(3, .int (f_X5_row_r k)), (0, .ref a), (1, .int k), (2, .int q)] dX5_writes_4 (by decide) rfl ?_
  refine j_iload_n C dX5_writes_5 2 rfl ?_
  refine j_iconst (v := 1) C dX5_writes_6 (by decide) ?_
  refine j_ixor C dX5_writes_7 rfl ?_
  refine j_pureS_i (r := f_X5_row_r (k ^^^ 1)) C (m_X5_row l G (k ^^^ 1)) 1 (gS kw_486 kw_487 kw_7 kw_488) (by decide +kernel) ⟨(Nat.le_of_ble_eq_true rfl), (Nat.le_of_ble_eq_true rfl)⟩ rfl rfl (Nat.le_of_ble_eq_true rfl) dX5_writes_8 ⟨(Nat.le_of_ble_eq_true rfl), (Nat.le_of_ble_eq_true rfl)⟩ ?_
  refine j_istore C [(4, .int (f_X5_row_r (k ^^^ 1))), (3, .int (f_X5_row_r k)), (0, .ref a), (1, .int k), (2, .int q)] dX5_writes_11 (by decide) rfl ?_
  refine j_iload_n C dX5_writes_13 4 rfl ?_
  have K69 : WJ p l e (RM 2) s m args below meth c G A 11 0 0 Q ([aJ G a 456 (f_X5_writes_v6 f k q)]) [(4, .int (f_X5_row_r (k ^^^ 1))), (3, .int (f_X5_row_r k)), (0, .ref a), (1, .int k), (2, .int q)] 69 [] := by
    generalize hw4 : f_X5_writes_v6 f k q = w4
    refine j_aload_n C dX5_writes_69 2 rfl ?_
    refine j_iload_n C dX5_writes_70 1 rfl ?_
    refine j_iconst (v := 3) C dX5_writes_71 (by decide) ?_
    refine j_iadd C dX5_writes_72 rfl ?_
    refine j_lald C 0 rfl (vin_row hd (by decide)) (v := w4 ((f_X5_row_r k) + 3).toNatClampNeg) rfl dX5_writes_73 ?_
    refine j_aload_n C dX5_writes_74 2 rfl ?_
    refine j_iload_n C dX5_writes_75 1 rfl ?_
    refine j_iconst (v := 0) C dX5_writes_76 (by decide) ?_
    refine j_iadd C dX5_writes_77 rfl ?_
    refine j_lald C 0 rfl (vin_row hd (by decide)) (v := w4 ((f_X5_row_r k) + 0).toNatClampNeg) rfl dX5_writes_78 ?_
    refine j_pureS_l (r := f_X5_least_r (w4 ((f_X5_row_r k) + 3).toNatClampNeg) (w4 ((f_X5_row_r k) + 0).toNatClampNeg)) C (m_X5_least l G (w4 ((f_X5_row_r k) + 3).toNatClampNeg) (w4 ((f_X5_row_r k) + 0).toNatClampNeg)) 2 (gS kw_617 kw_618 kw_7 kw_619) (by decide +kernel) ⟨(Nat.le_of_ble_eq_true rfl), (Nat.le_of_ble_eq_true rfl)⟩ rfl rfl (Nat.le_of_ble_eq_true rfl) dX5_writes_79 ⟨(Nat.le_of_ble_eq_true rfl), (Nat.le_of_ble_eq_true rfl)⟩ ?_
    generalize hzw5 : f_X5_least_r (w4 ((f_X5_row_r k) + 3).toNatClampNeg) (w4 ((f_X5_row_r k) + 0).toNatClampNeg) = w5
    have hw5 : f_X5_writes_rq7 f k q = w5 := by subst hw4; subst hzw5; rfl
    refine j_lstore C [(5, .long w5), (4, .int (f_X5_row_r (k ^^^ 1))), (3, .int (f_X5_row_r k)), (0, .ref a), (1, .int k), (2, .int q)] dX5_writes_82 (by decide) rfl ?_
    refine j_aload_n C dX5_writes_84 3 rfl ?_
    refine j_iload_n C dX5_writes_85 2 rfl ?_
    refine j_iconst (v := 0) C dX5_writes_86 (by decide) ?_
    refine j_iadd C dX5_writes_87 rfl ?_
    refine j_iload_n C dX5_writes_88 2 rfl ?_
    refine j_iconst (v := 1) C dX5_writes_89 (by decide) ?_
    refine j_iadd C dX5_writes_90 rfl ?_
    refine j_lload C dX5_writes_91 0 rfl ?_
    refine j_callS_v (wc' := [aJ G a 456 (f_X5_moves_f w4 ((f_X5_row_r k) + 0) ((f_X5_row_r k) + 1) w5)]) C (m_X5_moves l G a w4 ((f_X5_row_r k) + 0) ((f_X5_row_r k) + 1) w5 (vin_row hd (by decide)) (vin_row hd (by decide))) 4 (gS kw_620 kw_621 kw_7 kw_622) (by decide +kernel) ⟨(Nat.le_of_ble_eq_true rfl), (Nat.le_of_ble_eq_true rfl)⟩ rfl rfl (Nat.le_of_ble_eq_true rfl) dX5_writes_93 ⟨(Nat.le_of_ble_eq_true rfl), (Nat.le_of_ble_eq_true rfl)⟩ [] [aJ G a 456 (f_X5_moves_f w4 ((f_X5_row_r k) + 0) ((f_X5_row_r k) + 1) w5)] (perm_idx [0] 1 rfl (by decide +kernel) rfl) rfl ?_
    generalize hzw6 : f_X5_moves_f w4 ((f_X5_row_r k) + 0) ((f_X5_row_r k) + 1) w5 = w6
    have hw6 : f_X5_writes_fq8 f k q = w6 := by subst hw4 hw5; subst hzw6; rfl
    refine j_aload_n C dX5_writes_96 3 rfl ?_
    refine j_iload_n C dX5_writes_97 2 rfl ?_
    refine j_iconst (v := 3) C dX5_writes_98 (by decide) ?_
    refine j_iadd C dX5_writes_99 rfl ?_
    refine j_iload_n C dX5_writes_100 2 rfl ?_
    refine j_iconst (v := 5) C dX5_writes_101 (by decide) ?_
    refine j_iadd C dX5_writes_102 rfl ?_
    refine j_lload C dX5_writes_103 0 rfl ?_
    refine j_callS_v (wc' := [aJ G a 456 (f_X5_moves_f w6 ((f_X5_row_r k) + 3) ((f_X5_row_r k) + 5) w5)]) C (m_X5_moves l G a w6 ((f_X5_row_r k) + 3) ((f_X5_row_r k) + 5) w5 (vin_row hd (by decide)) (vin_row hd (by decide))) 4 (gS kw_620 kw_621 kw_7 kw_622) (by decide +kernel) ⟨(Nat.le_of_ble_eq_true rfl), (Nat.le_of_ble_eq_true rfl)⟩ rfl rfl (Nat.le_of_ble_eq_true rfl) dX5_writes_105 ⟨(Nat.le_of_ble_eq_true rfl), (Nat.le_of_ble_eq_true rfl)⟩ [] [aJ G a 456 (f_X5_moves_f w6 ((f_X5_row_r k) + 3) ((f_X5_row_r k) + 5) w5)] (perm_idx [0] 1 rfl (by decide +kernel) rfl) rfl ?_
    generalize hzw7 : f_X5_moves_f w6 ((f_X5_row_r k) + 3) ((f_X5_row_r k) + 5) w5 = w7
    have hw7 : f_X5_writes_fq9 f k q = w7 := by subst hw4 hw5 hw6; subst hzw7; rfl
    refine j_aload_n C dX5_writes_108 3 rfl ?_
    refine j_iload_n C dX5_writes_109 2 rfl ?_
    refine j_iconst (v := 3) C dX5_writes_110 (by decide) ?_
    refine j_iadd C dX5_writes_111 rfl ?_
    refine j_lald C 0 rfl (vin_row hd (by decide)) (v := w7 ((f_X5_row_r k) + 3).toNatClampNeg) rfl dX5_writes_112 ?_
    refine j_aload_n C dX5_writes_113 3 rfl ?_
    refine j_bipush (v := 11) C dX5_writes_114 (by decide) ?_
    refine j_lald C 0 rfl (vin_lit rfl) (v := w7 11) rfl dX5_writes_116 ?_
    refine j_lsub C dX5_writes_117 rfl ?_
    refine j_lstore C [(7, .long ((w7 ((f_X5_row_r k) + 3).toNatClampNeg) - (w7 11))), (5, .long w5), (4, .int (f_X5_row_r (k ^^^ 1))), (3, .int (f_X5_row_r k)), (0, .ref a), (1, .int k), (2, .int q)] dX5_writes_118 (by decide) rfl ?_
    refine j_iload_n C dX5_writes_120 6 rfl ?_
    have K178 : WJ p l e (RM 2) s m args below meth c G A 11 0 0 Q ([aJ G a 456 (f_X5_writes_v13 f k q)]) [(7, .long ((w7 ((f_X5_row_r k) + 3).toNatClampNeg) - (w7 11))), (5, .long w5), (4, .int (f_X5_row_r (k ^^^ 1))), (3, .int (f_X5_row_r k)), (0, .ref a), (1, .int k), (2, .int q)] 178 [] := by
      generalize hw11 : f_X5_writes_v13 f k q = w11
      subst hQ; subst hw4 hw5 hw6 hw7 hw11; exact j_vret C hr hk (by rw [show f_X5_writes_f f k q = (f_X5_writes_v13 f k q) from rfl]) dX5_writes_178
    refine j_if_eq (tgt := 178) C dX5_writes_121 (by decide) (fun c121 => ?_) (fun c121 => ?_)
    · subst hw4 hw5 hw6 hw7; exact j_eq (by rw [show f_X5_writes_v13 f k q = (f_X5_writes_fq9 f k q) from (if_pos c121)]) rfl rfl K178
    · refine j_lload C dX5_writes_124 0 rfl ?_
      refine j_lconst (v := 0) C dX5_writes_126 (by decide) ?_
      refine j_lcmp C dX5_writes_127 ?_
      refine j_if_le (tgt := 178) C dX5_writes_128 (by decide) (fun c128 => ?_) (fun c128 => ?_)
      · subst hw4 hw5 hw6 hw7; exact j_eq (by rw [show f_X5_writes_v13 f k q = (f_X5_writes_fq9 f k q) from ((if_neg c121).trans (if_pos c128))]) rfl rfl K178
      · refine j_aload_n C dX5_writes_131 4 rfl ?_
        refine j_iload_n C dX5_writes_132 5 rfl ?_
        refine j_iconst (v := 1) C dX5_writes_133 (by decide) ?_
        refine j_ixor C dX5_writes_134 rfl ?_
        refine j_callS_i (r := f_X5_isQuiet_r w7 (k ^^^ 1)) (wc' := [aJ G a 456 w7]) C (m_X5_isQuiet l G a w7 (k ^^^ 1) (vin_x hd)) 2 (gS kw_611 kw_612 kw_7 kw_613) (by decide +kernel) ⟨(Nat.le_of_ble_eq_true rfl), (Nat.le_of_ble_eq_true rfl)⟩ rfl rfl (Nat.le_of_ble_eq_true rfl) dX5_writes_135 ⟨(Nat.le_of_ble_eq_true rfl), (Nat.le_of_ble_eq_true rfl)⟩ [] [aJ G a 456 w7] (perm_idx [0] 1 rfl (by decide +kernel) rfl) rfl ?_
        refine j_if_ne (tgt := 178) C dX5_writes_138 (by decide) (fun c138 => ?_) (fun c138 => ?_)
        · subst hw4 hw5 hw6 hw7; exact j_eq (by rw [show f_X5_writes_v13 f k q = (f_X5_writes_fq9 f k q) from ((if_neg c121).trans ((if_neg c128).trans (if_neg c138)))]) rfl rfl K178
        · refine j_lload C dX5_writes_141 0 rfl ?_
          refine j_aload_n C dX5_writes_143 4 rfl ?_
          refine j_iload C dX5_writes_144 2 rfl ?_
          refine j_iconst (v := 0) C dX5_writes_146 (by decide) ?_
          refine j_iadd C dX5_writes_147 rfl ?_
          refine j_lald C 0 rfl (vin_row (vin_x hd) (by decide)) (v := w7 ((f_X5_row_r (k ^^^ 1)) + 0).toNatClampNeg) rfl dX5_writes_148 ?_
          refine j_pureS_l (r := f_X5_least_r ((w7 ((f_X5_row_r k) + 3).toNatClampNeg) - (w7 11)) (w7 ((f_X5_row_r (k ^^^ 1)) + 0).toNatClampNeg)) C (m_X5_least l G ((w7 ((f_X5_row_r k) + 3).toNatClampNeg) - (w7 11)) (w7 ((f_X5_row_r (k ^^^ 1)) + 0).toNatClampNeg)) 2 (gS kw_617 kw_618 kw_7 kw_619) (by decide +kernel) ⟨(Nat.le_of_ble_eq_true rfl), (Nat.le_of_ble_eq_true rfl)⟩ rfl rfl (Nat.le_of_ble_eq_true rfl) dX5_writes_149 ⟨(Nat.le_of_ble_eq_true rfl), (Nat.le_of_ble_eq_true rfl)⟩ ?_
          generalize hzw8 : f_X5_least_r ((w7 ((f_X5_row_r k) + 3).toNatClampNeg) - (w7 11)) (w7 ((f_X5_row_r (k ^^^ 1)) + 0).toNatClampNeg) = w8
          have hw8 : f_X5_writes_rq11 f k q = w8 := by subst hw4 hw5 hw6 hw7; subst hzw8; rfl
          refine j_lstore C [(9, .long w8), (7, .long ((w7 ((f_X5_row_r k) + 3).toNatClampNeg) - (w7 11))), (5, .long w5), (4, .int (f_X5_row_r (k ^^^ 1))), (3, .int (f_X5_row_r k)), (0, .ref a), (1, .int k), (2, .int q)] dX5_writes_152 (by decide) rfl ?_
          refine j_aload_n C dX5_writes_154 5 rfl ?_
          refine j_iload C dX5_writes_155 3 rfl ?_
          refine j_iconst (v := 0) C dX5_writes_157 (by decide) ?_
          refine j_iadd C dX5_writes_158 rfl ?_
          refine j_iload C dX5_writes_159 3 rfl ?_
          refine j_iconst (v := 2) C dX5_writes_161 (by decide) ?_
          refine j_iadd C dX5_writes_162 rfl ?_
          refine j_lload C dX5_writes_163 0 rfl ?_
          refine j_callS_v (wc' := [aJ G a 456 (f_X5_moves_f w7 ((f_X5_row_r (k ^^^ 1)) + 0) ((f_X5_row_r (k ^^^ 1)) + 2) w8)]) C (m_X5_moves l G a w7 ((f_X5_row_r (k ^^^ 1)) + 0) ((f_X5_row_r (k ^^^ 1)) + 2) w8 (vin_row (vin_x hd) (by decide)) (vin_row (vin_x hd) (by decide))) 4 (gS kw_620 kw_621 kw_7 kw_622) (by decide +kernel) ⟨(Nat.le_of_ble_eq_true rfl), (Nat.le_of_ble_eq_true rfl)⟩ rfl rfl (Nat.le_of_ble_eq_true rfl) dX5_writes_165 ⟨(Nat.le_of_ble_eq_true rfl), (Nat.le_of_ble_eq_true rfl)⟩ [] [aJ G a 456 (f_X5_moves_f w7 ((f_X5_row_r (k ^^^ 1)) + 0) ((f_X5_row_r (k ^^^ 1)) + 2) w8)] (perm_idx [0] 1 rfl (by decide +kernel) rfl) rfl ?_
          generalize hzw9 : f_X5_moves_f w7 ((f_X5_row_r (k ^^^ 1)) + 0) ((f_X5_row_r (k ^^^ 1)) + 2) w8 = w9
          have hw9 : f_X5_writes_fq12 f k q = w9 := by subst hw4 hw5 hw6 hw7 hw8; subst hzw9; rfl
          refine j_aload_n C dX5_writes_168 5 rfl ?_
          refine j_iload_n C dX5_writes_169 4 rfl ?_
          refine j_iconst (v := 3) C dX5_writes_170 (by decide) ?_
          refine j_iadd C dX5_writes_171 rfl ?_
          refine j_dup2_11 C dX5_writes_172 rfl rfl ?_
          refine j_lald C 0 rfl (vin_row hd (by decide)) (v := w9 ((f_X5_row_r k) + 3).toNatClampNeg) rfl dX5_writes_173 ?_
          refine j_lload C dX5_writes_174 0 rfl ?_
          refine j_lsub C dX5_writes_176 rfl ?_
          generalize hw10 : (w9 ((f_X5_row_r k) + 3).toNatClampNeg) - w8 = w10
          refine j_last C 0 rfl (vin_row hd (by decide)) ([aJ G a 456 (vp_updL w9 ((f_X5_row_r k) + 3).toNatClampNeg w10)]) rfl dX5_writes_177 ?_
          refine j_lv [1, 2, 3, 4, 5, 6, 7] [(7, .long ((w7 ((f_X5_row_r k) + 3).toNatClampNeg) - (w7 11))), (5, .long w5), (4, .int (f_X5_row_r (k ^^^ 1))), (3, .int (f_X5_row_r k)), (0, .ref a), (1, .int k), (2, .int q)] rfl ?_
          subst hw4 hw5 hw6 hw7 hw8 hw9 hw10; exact j_eq (by rw [show f_X5_writes_v13 f k q = vp_updL (f_X5_writes_fq12 f k q) ((f_X5_row_r k) + 3).toNatClampNeg (((f_X5_writes_fq12 f k q) ((f_X5_row_r k) + 3).toNatClampNeg) - (f_X5_writes_rq11 f k q)) from ((if_neg c121).trans ((if_neg c128).trans (if_pos c138)))]) rfl rfl K178
  refine j_if_ne (tgt := 69) C dX5_writes_14 (by decide) (fun c14 => ?_) (fun c14 => ?_)
  · exact j_eq (by rw [show f_X5_writes_v6 f k q = f from (if_neg c14)]) rfl rfl K69
  · refine j_aload_n C dX5_writes_17 2 rfl ?_
    refine j_iload C dX5_writes_18 0 rfl ?_
    refine j_iconst (v := 2) C dX5_writes_20 (by decide) ?_
    refine j_iadd C dX5_writes_21 rfl ?_
    refine j_lald C 0 rfl (vin_row (vin_x hd) (by decide)) (v := f ((f_X5_row_r (k ^^^ 1)) + 2).toNatClampNeg) rfl dX5_writes_22 ?_
    refine j_aload_n C dX5_writes_23 2 rfl ?_
    refine j_iload_n C dX5_writes_24 1 rfl ?_
    refine j_iconst (v := 0) C dX5_writes_25 (by decide) ?_
    refine j_iadd C dX5_writes_26 rfl ?_
    refine j_lald C 0 rfl (vin_row hd (by decide)) (v := f ((f_X5_row_r k) + 0).toNatClampNeg) rfl dX5_writes_27 ?_
    refine j_pureS_l (r := f_X5_least_r (f ((f_X5_row_r (k ^^^ 1)) + 2).toNatClampNeg) (f ((f_X5_row_r k) + 0).toNatClampNeg)) C (m_X5_least l G (f ((f_X5_row_r (k ^^^ 1)) + 2).toNatClampNeg) (f ((f_X5_row_r k) + 0).toNatClampNeg)) 2 (gS kw_617 kw_618 kw_7 kw_619) (by decide +kernel) ⟨(Nat.le_of_ble_eq_true rfl), (Nat.le_of_ble_eq_true rfl)⟩ rfl rfl (Nat.le_of_ble_eq_true rfl) dX5_writes_28 ⟨(Nat.le_of_ble_eq_true rfl), (Nat.le_of_ble_eq_true rfl)⟩ ?_
    generalize hzw0 : f_X5_least_r (f ((f_X5_row_r (k ^^^ 1)) + 2).toNatClampNeg) (f ((f_X5_row_r k) + 0).toNatClampNeg) = w0
    have hw0 : f_X5_writes_rq3 f k q = w0 := by subst hzw0; rfl
    refine j_lstore C [(5, .long w0), (4, .int (f_X5_row_r (k ^^^ 1))), (3, .int (f_X5_row_r k)), (0, .ref a), (1, .int k), (2, .int q)] dX5_writes_31 (by decide) rfl ?_
    refine j_aload_n C dX5_writes_33 3 rfl ?_
    refine j_iload C dX5_writes_34 1 rfl ?_
    refine j_iconst (v := 2) C dX5_writes_36 (by decide) ?_
    refine j_iadd C dX5_writes_37 rfl ?_
    refine j_iload C dX5_writes_38 1 rfl ?_
    refine j_iconst (v := 1) C dX5_writes_40 (by decide) ?_
    refine j_iadd C dX5_writes_41 rfl ?_
    refine j_lload C dX5_writes_42 0 rfl ?_
    refine j_callS_v (wc' := [aJ G a 456 (f_X5_moves_f f ((f_X5_row_r (k ^^^ 1)) + 2) ((f_X5_row_r (k ^^^ 1)) + 1) w0)]) C (m_X5_moves l G a f ((f_X5_row_r (k ^^^ 1)) + 2) ((f_X5_row_r (k ^^^ 1)) + 1) w0 (vin_row (vin_x hd) (by decide)) (vin_row (vin_x hd) (by decide))) 4 (gS kw_620 kw_621 kw_7 kw_622) (by decide +kernel) ⟨(Nat.le_of_ble_eq_true rfl), (Nat.le_of_ble_eq_true rfl)⟩ rfl rfl (Nat.le_of_ble_eq_true rfl) dX5_writes_44 ⟨(Nat.le_of_ble_eq_true rfl), (Nat.le_of_ble_eq_true rfl)⟩ [] [aJ G a 456 (f_X5_moves_f f ((f_X5_row_r (k ^^^ 1)) + 2) ((f_X5_row_r (k ^^^ 1)) + 1) w0)] (perm_idx [0] 1 rfl (by decide +kernel) rfl) rfl ?_
    generalize hzw1 : f_X5_moves_f f ((f_X5_row_r (k ^^^ 1)) + 2) ((f_X5_row_r (k ^^^ 1)) + 1) w0 = w1
    have hw1 : f_X5_writes_fq4 f k q = w1 := by subst hw0; subst hzw1; rfl
    refine j_aload_n C dX5_writes_47 3 rfl ?_
    refine j_iload_n C dX5_writes_48 2 rfl ?_
    refine j_iconst (v := 0) C dX5_writes_49 (by decide) ?_
    refine j_iadd C dX5_writes_50 rfl ?_
    refine j_iload_n C dX5_writes_51 2 rfl ?_
    refine j_iconst (v := 1) C dX5_writes_52 (by decide) ?_
    refine j_iadd C dX5_writes_53 rfl ?_
    refine j_lload C dX5_writes_54 0 rfl ?_
    refine j_callS_v (wc' := [aJ G a 456 (f_X5_moves_f w1 ((f_X5_row_r k) + 0) ((f_X5_row_r k) + 1) w0)]) C (m_X5_moves l G a w1 ((f_X5_row_r k) + 0) ((f_X5_row_r k) + 1) w0 (vin_row hd (by decide)) (vin_row hd (by decide))) 4 (gS kw_620 kw_621 kw_7 kw_622) (by decide +kernel) ⟨(Nat.le_of_ble_eq_true rfl), (Nat.le_of_ble_eq_true rfl)⟩ rfl rfl (Nat.le_of_ble_eq_true rfl) dX5_writes_56 ⟨(Nat.le_of_ble_eq_true rfl), (Nat.le_of_ble_eq_true rfl)⟩ [] [aJ G a 456 (f_X5_moves_f w1 ((f_X5_row_r k) + 0) ((f_X5_row_r k) + 1) w0)] (perm_idx [0] 1 rfl (by decide +kernel) rfl) rfl ?_
    generalize hzw2 : f_X5_moves_f w1 ((f_X5_row_r k) + 0) ((f_X5_row_r k) + 1) w0 = w2
    have hw2 : f_X5_writes_fq5 f k q = w2 := by subst hw0 hw1; subst hzw2; rfl
    refine j_aload_n C dX5_writes_59 3 rfl ?_
    refine j_iload_n C dX5_writes_60 2 rfl ?_
    refine j_iconst (v := 5) C dX5_writes_61 (by decide) ?_
    refine j_iadd C dX5_writes_62 rfl ?_
    refine j_dup2_11 C dX5_writes_63 rfl rfl ?_
    refine j_lald C 0 rfl (vin_row hd (by decide)) (v := w2 ((f_X5_row_r k) + 5).toNatClampNeg) rfl dX5_writes_64 ?_
    refine j_lload C dX5_writes_65 0 rfl ?_
    refine j_ladd C dX5_writes_67 rfl ?_
    generalize hw3 : (w2 ((f_X5_row_r k) + 5).toNatClampNeg) + w0 = w3
    refine j_last C 0 rfl (vin_row hd (by decide)) ([aJ G a 456 (vp_updL w2 ((f_X5_row_r k) + 5).toNatClampNeg w3)]) rfl dX5_writes_68 ?_
    refine j_lv [1, 2, 3, 4, 5] [(4, .int (f_X5_row_r (k ^^^ 1))), (3, .int (f_X5_row_r k)), (0, .ref a), (1, .int k), (2, .int q)] rfl ?_
    subst hw0 hw1 hw2 hw3; exact j_eq (by rw [show f_X5_writes_v6 f k q = vp_updL (f_X5_writes_fq5 f k q) ((f_X5_row_r k) + 5).toNatClampNeg (((f_X5_writes_fq5 f k q) ((f_X5_row_r k) + 5).toNatClampNeg) + (f_X5_writes_rq3 f k q)) from (if_pos c14)]) rfl rfl K69
