/-! THE MODEL: the leaves -/
noncomputable def f_X5_in_x1 (x : Int64) (y : Int64) (z : Int64) : Int32 := (if lg_cmp x y < 0 then 0 else (if 0 < lg_cmp x z then 0 else 1))
noncomputable def f_X5_in_r (x : Int64) (y : Int64) (z : Int64) : Int32 := (f_X5_in_x1 x y z)
set_option maxRecDepth 100000 in
set_option maxHeartbeats 4000000 in
theorem m_X5_in (l : Launch) (G : GG) (x : Int64) (y : Int64) (z : Int64)  : CtI l yX5_in cX5_in 6 (some .boolean) (RM 0) G [.long x, .long y, .long z] ([]) (f_X5_in_r x y z) ([]) := by
  refine ct_I RX5 [(0, .long x), (2, .long y), (4, .long z)] rfl (by decide +kernel) (Nat.le_of_ble_eq_true rfl) rfl ?_
  intro p e s m args below meth c A C hr hk hnm
  generalize hQ : (MQ below (PostI G A (f_X5_in_r x y z) ([])) args s (RM 0).cells (RM 0).slots A) = Q
  refine j_lload_n C dX5_in_0 0 rfl ?_
  refine j_lload_n C dX5_in_1 1 rfl ?_
  refine j_lcmp C dX5_in_2 ?_
  have K18 : WJ p l e (RM 0) s m args below meth c G A 6 0 0 Q ([]) [(0, .long x), (2, .long y), (4, .long z)] 18 [.int (f_X5_in_x1 x y z)] := by
    generalize hw0 : f_X5_in_x1 x y z = w0
    subst hQ; subst hw0; exact j_zret C hr hk (by unfold f_X5_in_x1; (repeat' split) <;> rfl) ((show f_X5_in_r x y z = (f_X5_in_x1 x y z) from rfl).symm) rfl dX5_in_18
  refine j_if_lt (tgt := 17) C dX5_in_3 (by decide) (fun c3 => ?_) (fun c3 => ?_)
  · refine j_iconst (v := 0) C dX5_in_17 (by decide) ?_
    exact j_eq rfl rfl (by rw [show f_X5_in_x1 x y z = 0 from (if_pos c3)]) K18
  · refine j_lload_n C dX5_in_6 0 rfl ?_
    refine j_lload C dX5_in_7 2 rfl ?_
    refine j_lcmp C dX5_in_9 ?_
    refine j_if_gt (tgt := 17) C dX5_in_10 (by decide) (fun c10 => ?_) (fun c10 => ?_)
    · refine j_iconst (v := 0) C dX5_in_17 (by decide) ?_
      exact j_eq rfl rfl (by rw [show f_X5_in_x1 x y z = 0 from ((if_neg c3).trans (if_pos c10))]) K18
    · refine j_iconst (v := 1) C dX5_in_13 (by decide) ?_
      refine j_goto (tgt := 18) C dX5_in_14 (by decide) ?_
      exact j_eq rfl rfl (by rw [show f_X5_in_x1 x y z = 1 from ((if_neg c3).trans (if_neg c10))]) K18
theorem nrz_in (x y z : Int64) : narrow .boolean (.int (f_X5_in_r x y z)) = .int (f_X5_in_r x y z) := by
  unfold f_X5_in_r f_X5_in_x1
  (repeat' split) <;> rfl
noncomputable def f_X5_areMinutes_r (k : Int32) : Int32 := f_X5_in_r k.toInt64 1 600
set_option maxRecDepth 100000 in
set_option maxHeartbeats 4000000 in
theorem m_X5_areMinutes (l : Launch) (G : GG) (k : Int32)  : CtI l yX5_areMinutes cX5_areMinutes 1 (some .boolean) (RM 1) G [.int k] ([]) (f_X5_areMinutes_r k) ([]) := by
  refine ct_I RX5 [(0, .int k)] rfl (by decide +kernel) (Nat.le_of_ble_eq_true rfl) rfl ?_
  intro p e s m args below meth c A C hr hk hnm
  generalize hQ : (MQ below (PostI G A (f_X5_areMinutes_r k) ([])) args s (RM 1).cells (RM 1).slots A) = Q
  refine j_iload_n C dX5_areMinutes_0 0 rfl ?_
  refine j_i2l C dX5_areMinutes_1 rfl ?_
  refine j_lconst (v := 1) C dX5_areMinutes_2 (by decide) ?_
  refine j_ldc2 (v := 600) C kw_601 dX5_areMinutes_3 ?_
  refine j_pureS_i (r := f_X5_in_r k.toInt64 1 600) C (m_X5_in l G k.toInt64 1 600) 3 (gS kw_523 kw_524 kw_7 kw_525) (by decide +kernel) ⟨(Nat.le_of_ble_eq_true rfl), (Nat.le_of_ble_eq_true rfl)⟩ rfl rfl (Nat.le_of_ble_eq_true rfl) dX5_areMinutes_6 ⟨(Nat.le_of_ble_eq_true rfl), (Nat.le_of_ble_eq_true rfl)⟩ ?_
  subst hQ; exact j_zret C hr hk (by exact nrz_in _ _ _) ((show f_X5_areMinutes_r k = f_X5_in_r k.toInt64 1 600 from rfl).symm) rfl dX5_areMinutes_9
noncomputable def f_X5_isDrive_r (k : Int32) : Int32 := f_X5_in_r k.toInt64 0 3
set_option maxRecDepth 100000 in
set_option maxHeartbeats 4000000 in
theorem m_X5_isDrive (l : Launch) (G : GG) (k : Int32)  : CtI l yX5_isDrive cX5_isDrive 1 (some .boolean) (RM 1) G [.int k] ([]) (f_X5_isDrive_r k) ([]) := by
  refine ct_I RX5 [(0, .int k)] rfl (by decide +kernel) (Nat.le_of_ble_eq_true rfl) rfl ?_
  intro p e s m args below meth c A C hr hk hnm
  generalize hQ : (MQ below (PostI G A (f_X5_isDrive_r k) ([])) args s (RM 1).cells (RM 1).slots A) = Q
  refine j_iload_n C dX5_isDrive_0 0 rfl ?_
  refine j_i2l C dX5_isDrive_1 rfl ?_
  refine j_lconst (v := 0) C dX5_isDrive_2 (by decide) ?_
  refine j_ldc2 (v := 3) C kw_554 dX5_isDrive_3 ?_
  refine j_pureS_i (r := f_X5_in_r k.toInt64 0 3) C (m_X5_in l G k.toInt64 0 3) 3 (gS kw_523 kw_524 kw_7 kw_525) (by decide +kernel) ⟨(Nat.le_of_ble_eq_true rfl), (Nat.le_of_ble_eq_true rfl)⟩ rfl rfl (Nat.le_of_ble_eq_true rfl) dX5_isDrive_6 ⟨(Nat.le_of_ble_eq_true rfl), (Nat.le_of_ble_eq_true rfl)⟩ ?_
  subst hQ; exact j_zret C hr hk (by exact nrz_in _ _ _) ((show f_X5_isDrive_r k = f_X5_in_r k.toInt64 0 3 from rfl).symm) rfl dX5_isDrive_9
noncomputable def f_X5_isHour_r (k : Int32) : Int32 := f_X5_in_r k.toInt64 0 99
set_option maxRecDepth 100000 in
set_option maxHeartbeats 4000000 in
theorem m_X5_isHour (l : Launch) (G : GG) (k : Int32)  : CtI l yX5_isHour cX5_isHour 1 (some .boolean) (RM 1) G [.int k] ([]) (f_X5_isHour_r k) ([]) := by
  refine ct_I RX5 [(0, .int k)] rfl (by decide +kernel) (Nat.le_of_ble_eq_true rfl) rfl ?_
  intro p e s m args below meth c A C hr hk hnm
  generalize hQ : (MQ below (PostI G A (f_X5_isHour_r k) ([])) args s (RM 1).cells (RM 1).slots A) = Q
  refine j_iload_n C dX5_isHour_0 0 rfl ?_
  refine j_i2l C dX5_isHour_1 rfl ?_
  refine j_lconst (v := 0) C dX5_isHour_2 (by decide) ?_
  refine j_ldc2 (v := 99) C kw_542 dX5_isHour_3 ?_
  refine j_pureS_i (r := f_X5_in_r k.toInt64 0 99) C (m_X5_in l G k.toInt64 0 99) 3 (gS kw_523 kw_524 kw_7 kw_525) (by decide +kernel) ⟨(Nat.le_of_ble_eq_true rfl), (Nat.le_of_ble_eq_true rfl)⟩ rfl rfl (Nat.le_of_ble_eq_true rfl) dX5_isHour_6 ⟨(Nat.le_of_ble_eq_true rfl), (Nat.le_of_ble_eq_true rfl)⟩ ?_
  subst hQ; exact j_zret C hr hk (by exact nrz_in _ _ _) ((show f_X5_isHour_r k = f_X5_in_r k.toInt64 0 99 from rfl).symm) rfl dX5_isHour_9
noncomputable def f_X5_least_x1 (x : Int64) (y : Int64) : Int64 := (if 0 ≤ lg_cmp x y then y else x)
noncomputable def f_X5_least_r (x : Int64) (y : Int64) : Int64 := (f_X5_least_x1 x y)
set_option maxRecDepth 100000 in
set_option maxHeartbeats 4000000 in
theorem m_X5_least (l : Launch) (G : GG) (x : Int64) (y : Int64)  : CtL l yX5_least cX5_least 4 (some .long) (RM 0) G [.long x, .long y] ([]) (f_X5_least_r x y) ([]) := by
  refine ct_L RX5 [(0, .long x), (2, .long y)] rfl (by decide +kernel) (Nat.le_of_ble_eq_true rfl) rfl ?_
  intro p e s m args below meth c A C hr hk hnm
  generalize hQ : (MQ below (PostL G A (f_X5_least_r x y) ([])) args s (RM 0).cells (RM 0).slots A) = Q
  refine j_lload_n C dX5_least_0 0 rfl ?_
  refine j_lload_n C dX5_least_1 1 rfl ?_
  refine j_lcmp C dX5_least_2 ?_
  have K11 : WJ p l e (RM 0) s m args below meth c G A 4 0 0 Q ([]) [(0, .long x), (2, .long y)] 11 [.long (f_X5_least_x1 x y)] := by
    generalize hw0 : f_X5_least_x1 x y = w0
    subst hQ; subst hw0; exact j_lret C hr hk ((show f_X5_least_r x y = (f_X5_least_x1 x y) from rfl).symm) rfl dX5_least_11
  refine j_if_ge (tgt := 10) C dX5_least_3 (by decide) (fun c3 => ?_) (fun c3 => ?_)
  · refine j_lload_n C dX5_least_10 1 rfl ?_
    exact j_eq rfl rfl (by rw [show f_X5_least_x1 x y = y from (if_pos c3)]) K11
  · refine j_lload_n C dX5_least_6 0 rfl ?_
    refine j_goto (tgt := 11) C dX5_least_7 (by decide) ?_
    exact j_eq rfl rfl (by rw [show f_X5_least_x1 x y = x from (if_neg c3)]) K11
noncomputable def f_X5_byteOf_r (x : Int64) (k : Int32) : Int32 := ((x >>> ((8 * k).toInt64 &&& 63)) &&& 255).toInt32
set_option maxRecDepth 100000 in
set_option maxHeartbeats 4000000 in
theorem m_X5_byteOf (l : Launch) (G : GG) (x : Int64) (k : Int32)  : CtI l yX5_byteOf cX5_byteOf 3 (some .int) (RM 0) G [.long x, .int k] ([]) (f_X5_byteOf_r x k) ([]) := by
  refine ct_I RX5 [(0, .long x), (2, .int k)] rfl (by decide +kernel) (Nat.le_of_ble_eq_true rfl) rfl ?_
  intro p e s m args below meth c A C hr hk hnm
  generalize hQ : (MQ below (PostI G A (f_X5_byteOf_r x k) ([])) args s (RM 0).cells (RM 0).slots A) = Q
  refine j_lload_n C dX5_byteOf_0 0 rfl ?_
  refine j_bipush (v := 8) C dX5_byteOf_1 (by decide) ?_
  refine j_iload_n C dX5_byteOf_3 1 rfl ?_
  refine j_imul C dX5_byteOf_4 rfl ?_
  refine j_lshr C dX5_byteOf_5 ?_
  refine j_ldc2 (v := 255) C kw_720 dX5_byteOf_6 ?_
  refine j_land C dX5_byteOf_9 rfl ?_
  refine j_l2i C dX5_byteOf_10 rfl ?_
  subst hQ; exact j_iret C hr hk ((show f_X5_byteOf_r x k = ((x >>> ((8 * k).toInt64 &&& 63)) &&& 255).toInt32 from rfl).symm) rfl dX5_byteOf_11
noncomputable def f_X5_row_r (k : Int32) : Int32 := 12 + (11 * k)
set_option maxRecDepth 100000 in
set_option maxHeartbeats 4000000 in
theorem m_X5_row (l : Launch) (G : GG) (k : Int32)  : CtI l yX5_row cX5_row 1 (some .int) (RM 0) G [.int k] ([]) (f_X5_row_r k) ([]) := by
  refine ct_I RX5 [(0, .int k)] rfl (by decide +kernel) (Nat.le_of_ble_eq_true rfl) rfl ?_
  intro p e s m args below meth c A C hr hk hnm
  generalize hQ : (MQ below (PostI G A (f_X5_row_r k) ([])) args s (RM 0).cells (RM 0).slots A) = Q
  refine j_bipush (v := 12) C dX5_row_0 (by decide) ?_
  refine j_bipush (v := 11) C dX5_row_2 (by decide) ?_
  refine j_iload_n C dX5_row_4 0 rfl ?_
  refine j_imul C dX5_row_5 rfl ?_
  refine j_iadd C dX5_row_6 rfl ?_
  subst hQ; exact j_iret C hr hk ((show f_X5_row_r k = 12 + (11 * k) from rfl).symm) rfl dX5_row_7
theorem vin_hourOf {k : Int32} {t : Int64} (hd : vp_in k 4) (h0 : ¬ lg_cmp t 0 < 0) (h1 : lg_cmp t 100 < 0) : vp_in (56 + 100 * k + t.toInt32) 456 := by
  obtain ⟨j, hj, rfl⟩ := vp_in_of hd (by decide)
  have h0 := mt (lg_cmp_lt t 0).mpr h0
  have h1 := (lg_cmp_lt t 100).mp h1
  have h0 : (0 : Int) ≤ t.toInt := by simpa using Int64.le_iff_toInt_le.mp (Int64.not_lt.mp h0)
  have h1 : t.toInt < 100 := by simpa using Int64.lt_iff_toInt_lt.mp h1
  have e : t.toInt32.toInt = t.toInt := by
    rw [Int64.toInt_toInt32]
    exact Int.bmod_eq_of_le (by omega) (by omega)
  rw [vp_in_iff]
  rcases (show j = 0 ∨ j = 1 ∨ j = 2 ∨ j = 3 by omega) with rfl | rfl | rfl | rfl
  · rw [show (56 + 100 * nI 0 : Int32) = 56 by decide, Int32.toInt_add, e, show (56 : Int32).toInt = 56 by decide, Int.bmod_eq_of_le (by omega) (by omega)]; omega
  · rw [show (56 + 100 * nI 1 : Int32) = 156 by decide, Int32.toInt_add, e, show (156 : Int32).toInt = 156 by decide, Int.bmod_eq_of_le (by omega) (by omega)]; omega
  · rw [show (56 + 100 * nI 2 : Int32) = 256 by decide, Int32.toInt_add, e, show (256 : Int32).toInt = 256 by decide, Int.bmod_eq_of_le (by omega) (by omega)]; omega
  · rw [show (56 + 100 * nI 3 : Int32) = 356 by decide, Int32.toInt_add, e, show (356 : Int32).toInt = 356 by decide, Int.bmod_eq_of_le (by omega) (by omega)]; omega
noncomputable def f_X5_hourOf_x1 (f : Nat → Int64) (k : Int32) (t : Int64) : Int32 := (if lg_cmp t 0 < 0 then 0 else (if lg_cmp t 100 < 0 then (f ((56 + (100 * k)) + t.toInt32).toNatClampNeg).toInt32 else 0))
noncomputable def f_X5_hourOf_r (f : Nat → Int64) (k : Int32) (t : Int64) : Int32 := (f_X5_hourOf_x1 f k t)
set_option maxRecDepth 100000 in
set_option maxHeartbeats 4000000 in
theorem m_X5_hourOf (l : Launch) (G : GG) (a : Nat) (f : Nat → Int64) (k : Int32) (t : Int64) (hd : vp_in k 4) : CtI l yX5_hourOf cX5_hourOf 4 (some .int) (RM 0) G [.ref a, .int k, .long t] ([aJ G a 456 f]) (f_X5_hourOf_r f k t) ([aJ G a 456 f]) := by
  refine ct_I RX5 [(0, .ref a), (1, .int k), (2, .long t)] rfl (by decide +kernel) (Nat.le_of_ble_eq_true rfl) rfl ?_
  intro p e s m args below meth c A C hr hk hnm
  generalize hQ : (MQ below (PostI G A (f_X5_hourOf_r f k t) ([aJ G a 456 f])) args s (RM 0).cells (RM 0).slots A) = Q
  refine j_lload_n C dX5_hourOf_0 2 rfl ?_
  refine j_lconst (v := 0) C dX5_hourOf_1 (by decide) ?_
  refine j_lcmp C dX5_hourOf_2 ?_
  have K31 : WJ p l e (RM 0) s m args below meth c G A 4 0 0 Q ([aJ G a 456 f]) [(0, .ref a), (1, .int k), (2, .long t)] 31 [.int (f_X5_hourOf_x1 f k t)] := by
    generalize hw0 : f_X5_hourOf_x1 f k t = w0
    subst hQ; subst hw0; exact j_iret C hr hk ((show f_X5_hourOf_r f k t = (f_X5_hourOf_x1 f k t) from rfl).symm) rfl dX5_hourOf_31
  refine j_if_lt (tgt := 14) C dX5_hourOf_3 (by decide) (fun c3 => ?_) (fun c3 => ?_)
  · refine j_iconst (v := 0) C dX5_hourOf_14 (by decide) ?_
    refine j_goto (tgt := 31) C dX5_hourOf_15 (by decide) ?_
    exact j_eq rfl rfl (by rw [show f_X5_hourOf_x1 f k t = 0 from (if_pos c3)]) K31
  · refine j_lload_n C dX5_hourOf_6 2 rfl ?_
    refine j_ldc2 (v := 100) C kw_583 dX5_hourOf_7 ?_
    refine j_lcmp C dX5_hourOf_10 ?_
    refine j_if_lt (tgt := 18) C dX5_hourOf_11 (by decide) (fun c11 => ?_) (fun c11 => ?_)
    · refine j_aload_n C dX5_hourOf_18 0 rfl ?_
      refine j_bipush (v := 56) C dX5_hourOf_19 (by decide) ?_
      refine j_bipush (v := 100) C dX5_hourOf_21 (by decide) ?_
      refine j_iload_n C dX5_hourOf_23 1 rfl ?_
      refine j_imul C dX5_hourOf_24 rfl ?_
      refine j_iadd C dX5_hourOf_25 rfl ?_
      refine j_lload_n C dX5_hourOf_26 2 rfl ?_
      refine j_l2i C dX5_hourOf_27 rfl ?_
      refine j_iadd C dX5_hourOf_28 rfl ?_
      refine j_lald C 0 rfl (vin_hourOf hd c3 c11) (v := f ((56 + (100 * k)) + t.toInt32).toNatClampNeg) rfl dX5_hourOf_29 ?_
      refine j_l2i C dX5_hourOf_30 rfl ?_
      exact j_eq rfl rfl (by rw [show f_X5_hourOf_x1 f k t = (f ((56 + (100 * k)) + t.toInt32).toNatClampNeg).toInt32 from ((if_neg c3).trans (if_pos c11))]) K31
    · refine j_iconst (v := 0) C dX5_hourOf_14 (by decide) ?_
      refine j_goto (tgt := 31) C dX5_hourOf_15 (by decide) ?_
      exact j_eq rfl rfl (by rw [show f_X5_hourOf_x1 f k t = 0 from ((if_neg c3).trans (if_neg c11))]) K31
noncomputable def f_X5_isQuiet_x2 (f : Nat → Int64) (k : Int32) : Int32 := (if f_X5_hourOf_r f k ((f 0) / 60) ≤ 0 then 0 else 1)
noncomputable def f_X5_isQuiet_r (f : Nat → Int64) (k : Int32) : Int32 := (f_X5_isQuiet_x2 f k)
set_option maxRecDepth 100000 in
set_option maxHeartbeats 4000000 in
theorem m_X5_isQuiet (l : Launch) (G : GG) (a : Nat) (f : Nat → Int64) (k : Int32) (hd : vp_in k 4) : CtI l yX5_isQuiet cX5_isQuiet 2 (some .boolean) (RM 1) G [.ref a, .int k] ([aJ G a 456 f]) (f_X5_isQuiet_r f k) ([aJ G a 456 f]) := by
  refine ct_I RX5 [(0, .ref a), (1, .int k)] rfl (by decide +kernel) (Nat.le_of_ble_eq_true rfl) rfl ?_
  intro p e s m args below meth c A C hr hk hnm
  generalize hQ : (MQ below (PostI G A (f_X5_isQuiet_r f k) ([aJ G a 456 f])) args s (RM 1).cells (RM 1).slots A) = Q
  refine j_aload_n C dX5_isQuiet_0 0 rfl ?_
  refine j_iload_n C dX5_isQuiet_1 1 rfl ?_
  refine j_aload_n C dX5_isQuiet_2 0 rfl ?_
  refine j_iconst (v := 0) C dX5_isQuiet_3 (by decide) ?_
  refine j_lald C 0 rfl (vin_lit rfl) (v := f 0) rfl dX5_isQuiet_4 ?_
  refine j_ldc2 (v := 60) C kw_480 dX5_isQuiet_5 ?_
  refine j_ldiv C dX5_isQuiet_8 (by decide) rfl ?_
  refine j_callS_i (r := f_X5_hourOf_r f k ((f 0) / 60)) (wc' := [aJ G a 456 f]) C (m_X5_hourOf l G a f k ((f 0) / 60) hd) 3 (gS kw_580 kw_581 kw_7 kw_582) (by decide +kernel) ⟨(Nat.le_of_ble_eq_true rfl), (Nat.le_of_ble_eq_true rfl)⟩ rfl rfl (Nat.le_of_ble_eq_true rfl) dX5_isQuiet_9 ⟨(Nat.le_of_ble_eq_true rfl), (Nat.le_of_ble_eq_true rfl)⟩ [] [aJ G a 456 f] (perm_idx [0] 1 rfl (by decide +kernel) rfl) rfl ?_
  have K20 : WJ p l e (RM 1) s m args below meth c G A 2 0 0 Q ([aJ G a 456 f]) [(0, .ref a), (1, .int k)] 20 [.int (f_X5_isQuiet_x2 f k)] := by
    generalize hw0 : f_X5_isQuiet_x2 f k = w0
    subst hQ; subst hw0; exact j_zret C hr hk (by unfold f_X5_isQuiet_x2; (repeat' split) <;> rfl) ((show f_X5_isQuiet_r f k = (f_X5_isQuiet_x2 f k) from rfl).symm) rfl dX5_isQuiet_20
  refine j_if_le (tgt := 19) C dX5_isQuiet_12 (by decide) (fun c12 => ?_) (fun c12 => ?_)
  · refine j_iconst (v := 0) C dX5_isQuiet_19 (by decide) ?_
    exact j_eq rfl rfl (by rw [show f_X5_isQuiet_x2 f k = 0 from (if_pos c12)]) K20
  · refine j_iconst (v := 1) C dX5_isQuiet_15 (by decide) ?_
    refine j_goto (tgt := 20) C dX5_isQuiet_16 (by decide) ?_
    exact j_eq rfl rfl (by rw [show f_X5_isQuiet_x2 f k = 1 from (if_neg c12)]) K20
noncomputable def f_X5_overruns_r (f : Nat → Int64) : Int64 := (((0 + (f ((f_X5_row_r 0) + 7).toNatClampNeg)) + (f ((f_X5_row_r 1) + 7).toNatClampNeg)) + (f ((f_X5_row_r 2) + 7).toNatClampNeg)) + (f ((f_X5_row_r 3) + 7).toNatClampNeg)
set_option maxRecDepth 100000 in
set_option maxHeartbeats 4000000 in
theorem m_X5_overruns (l : Launch) (G : GG) (a : Nat) (f : Nat → Int64)  : CtL l yX5_overruns cX5_overruns 4 (some .long) (RM 1) G [.ref a] ([aJ G a 456 f]) (f_X5_overruns_r f) ([aJ G a 456 f]) := by
  refine ct_L RX5 [(0, .ref a)] rfl (by decide +kernel) (Nat.le_of_ble_eq_true rfl) rfl ?_
  intro p e s m args below meth c A C hr hk hnm
  generalize hQ : (MQ below (PostL G A (f_X5_overruns_r f) ([aJ G a 456 f])) args s (RM 1).cells (RM 1).slots A) = Q
  refine j_lconst (v := 0) C dX5_overruns_0 (by decide) ?_
  refine j_lstore_n C [(1, .long 0), (0, .ref a)] dX5_overruns_1 (by decide) rfl ?_
  refine j_iconst (v := 0) C dX5_overruns_2 (by decide) ?_
  refine j_istore_n C [(3, .int 0), (1, .long 0), (0, .ref a)] dX5_overruns_3 (by decide) rfl ?_
  refine j_iload_n C dX5_overruns_4 0 rfl ?_
  refine j_iconst (v := 4) C dX5_overruns_5 (by decide) ?_
  refine j_icmp_ge (tgt := 27) C dX5_overruns_6 (by decide) (fun h => absurd h (by decide)) (fun _ => ?_)
  refine j_lload_n C dX5_overruns_9 1 rfl ?_
  refine j_aload_n C dX5_overruns_10 2 rfl ?_
  refine j_iload_n C dX5_overruns_11 0 rfl ?_
  refine j_pureS_i (r := f_X5_row_r 0) C (m_X5_row l G 0) 1 (gS kw_486 kw_487 kw_7 kw_488) (by decide +kernel) ⟨(Nat.le_of_ble_eq_true rfl), (Nat.le_of_ble_eq_true rfl)⟩ rfl rfl (Nat.le_of_ble_eq_true rfl) dX5_overruns_12 ⟨(Nat.le_of_ble_eq_true rfl), (Nat.le_of_ble_eq_true rfl)⟩ ?_
  refine j_bipush (v := 7) C dX5_overruns_15 (by decide) ?_
  refine j_iadd C dX5_overruns_17 rfl ?_
  refine j_lald C 0 rfl (vin_lit (by decide)) (v := f ((f_X5_row_r 0) + 7).toNatClampNeg) rfl dX5_overruns_18 ?_
  refine j_ladd C dX5_overruns_19 rfl ?_
  refine j_lstore_n C [(1, .long (0 + (f ((f_X5_row_r 0) + 7).toNatClampNeg))), (3, .int 0), (0, .ref a)] dX5_overruns_20 (by decide) rfl ?_
  refine j_iinc (v := 1) C [(3, .int 1), (1, .long (0 + (f ((f_X5_row_r 0) + 7).toNatClampNeg))), (0, .ref a)] dX5_overruns_21 (k := 1) rfl (by decide) (by decide) rfl ?_
  refine j_goto (tgt := 4) C dX5_overruns_24 (by decide) ?_
  refine j_iload_n C dX5_overruns_4 0 rfl ?_
  refine j_iconst (v := 4) C dX5_overruns_5 (by decide) ?_
  refine j_icmp_ge (tgt := 27) C dX5_overruns_6 (by decide) (fun h => absurd h (by decide)) (fun _ => ?_)
  refine j_lload_n C dX5_overruns_9 1 rfl ?_
  refine j_aload_n C dX5_overruns_10 2 rfl ?_
  refine j_iload_n C dX5_overruns_11 0 rfl ?_
  refine j_pureS_i (r := f_X5_row_r 1) C (m_X5_row l G 1) 1 (gS kw_486 kw_487 kw_7 kw_488) (by decide +kernel) ⟨(Nat.le_of_ble_eq_true rfl), (Nat.le_of_ble_eq_true rfl)⟩ rfl rfl (Nat.le_of_ble_eq_true rfl) dX5_overruns_12 ⟨(Nat.le_of_ble_eq_true rfl), (Nat.le_of_ble_eq_true rfl)⟩ ?_
  refine j_bipush (v := 7) C dX5_overruns_15 (by decide) ?_
  refine j_iadd C dX5_overruns_17 rfl ?_
  refine j_lald C 0 rfl (vin_lit (by decide)) (v := f ((f_X5_row_r 1) + 7).toNatClampNeg) rfl dX5_overruns_18 ?_
  refine j_ladd C dX5_overruns_19 rfl ?_
  refine j_lstore_n C [(1, .long ((0 + (f ((f_X5_row_r 0) + 7).toNatClampNeg)) + (f ((f_X5_row_r 1) + 7).toNatClampNeg))), (3, .int 1), (0, .ref a)] dX5_overruns_20 (by decide) rfl ?_
  refine j_iinc (v := 2) C [(3, .int 2), (1, .long ((0 + (f ((f_X5_row_r 0) + 7).toNatClampNeg)) + (f ((f_X5_row_r 1) + 7).toNatClampNeg))), (0, .ref a)] dX5_overruns_21 (k := 1) rfl (by decide) (by decide) rfl ?_
  refine j_goto (tgt := 4) C dX5_overruns_24 (by decide) ?_
  refine j_iload_n C dX5_overruns_4 0 rfl ?_
  refine j_iconst (v := 4) C dX5_overruns_5 (by decide) ?_
  refine j_icmp_ge (tgt := 27) C dX5_overruns_6 (by decide) (fun h => absurd h (by decide)) (fun _ => ?_)
  refine j_lload_n C dX5_overruns_9 1 rfl ?_
  refine j_aload_n C dX5_overruns_10 2 rfl ?_
  refine j_iload_n C dX5_overruns_11 0 rfl ?_
  refine j_pureS_i (r := f_X5_row_r 2) C (m_X5_row l G 2) 1 (gS kw_486 kw_487 kw_7 kw_488) (by decide +kernel) ⟨(Nat.le_of_ble_eq_true rfl), (Nat.le_of_ble_eq_true rfl)⟩ rfl rfl (Nat.le_of_ble_eq_true rfl) dX5_overruns_12 ⟨(Nat.le_of_ble_eq_true rfl), (Nat.le_of_ble_eq_true rfl)⟩ ?_
  refine j_bipush (v := 7) C dX5_overruns_15 (by decide) ?_
  refine j_iadd C dX5_overruns_17 rfl ?_
  refine j_lald C 0 rfl (vin_lit (by decide)) (v := f ((f_X5_row_r 2) + 7).toNatClampNeg) rfl dX5_overruns_18 ?_
  refine j_ladd C dX5_overruns_19 rfl ?_
  refine j_lstore_n C [(1, .long (((0 + (f ((f_X5_row_r 0) + 7).toNatClampNeg)) + (f ((f_X5_row_r 1) + 7).toNatClampNeg)) + (f ((f_X5_row_r 2) + 7).toNatClampNeg))), (3, .int 2), (0, .ref a)] dX5_overruns_20 (by decide) rfl ?_
  refine j_iinc (v := 3) C [(3, .int 3), (1, .long (((0 + (f ((f_X5_row_r 0) + 7).toNatClampNeg)) + (f ((f_X5_row_r 1) + 7).toNatClampNeg)) + (f ((f_X5_row_r 2) + 7).toNatClampNeg))), (0, .ref a)] dX5_overruns_21 (k := 1) rfl (by decide) (by decide) rfl ?_
  refine j_goto (tgt := 4) C dX5_overruns_24 (by decide) ?_
  refine j_iload_n C dX5_overruns_4 0 rfl ?_
  refine j_iconst (v := 4) C dX5_overruns_5 (by decide) ?_
  refine j_icmp_ge (tgt := 27) C dX5_overruns_6 (by decide) (fun h => absurd h (by decide)) (fun _ => ?_)
  refine j_lload_n C dX5_overruns_9 1 rfl ?_
  refine j_aload_n C dX5_overruns_10 2 rfl ?_
  refine j_iload_n C dX5_overruns_11 0 rfl ?_
  refine j_pureS_i (r := f_X5_row_r 3) C (m_X5_row l G 3) 1 (gS kw_486 kw_487 kw_7 kw_488) (by decide +kernel) ⟨(Nat.le_of_ble_eq_true rfl), (Nat.le_of_ble_eq_true rfl)⟩ rfl rfl (Nat.le_of_ble_eq_true rfl) dX5_overruns_12 ⟨(Nat.le_of_ble_eq_true rfl), (Nat.le_of_ble_eq_true rfl)⟩ ?_
  refine j_bipush (v := 7) C dX5_overruns_15 (by decide) ?_
  refine j_iadd C dX5_overruns_17 rfl ?_
  refine j_lald C 0 rfl (vin_lit (by decide)) (v := f ((f_X5_row_r 3) + 7).toNatClampNeg) rfl dX5_overruns_18 ?_
  refine j_ladd C dX5_overruns_19 rfl ?_
  refine j_lstore_n C [(1, .long ((((0 + (f ((f_X5_row_r 0) + 7).toNatClampNeg)) + (f ((f_X5_row_r 1) + 7).toNatClampNeg)) + (f ((f_X5_row_r 2) + 7).toNatClampNeg)) + (f ((f_X5_row_r 3) + 7).toNatClampNeg))), (3, .int 3), (0, .ref a)] dX5_overruns_20 (by decide) rfl ?_
  refine j_iinc (v := 4) C [(3, .int 4), (1, .long ((((0 + (f ((f_X5_row_r 0) + 7).toNatClampNeg)) + (f ((f_X5_row_r 1) + 7).toNatClampNeg)) + (f ((f_X5_row_r 2) + 7).toNatClampNeg)) + (f ((f_X5_row_r 3) + 7).toNatClampNeg))), (0, .ref a)] dX5_overruns_21 (k := 1) rfl (by decide) (by decide) rfl ?_
  refine j_goto (tgt := 4) C dX5_overruns_24 (by decide) ?_
  refine j_iload_n C dX5_overruns_4 0 rfl ?_
  refine j_iconst (v := 4) C dX5_overruns_5 (by decide) ?_
  refine j_icmp_ge (tgt := 27) C dX5_overruns_6 (by decide) (fun _ => ?_) (fun h => absurd h (by decide))
  refine j_lload_n C dX5_overruns_27 1 rfl ?_
  subst hQ; exact j_lret C hr hk ((show f_X5_overruns_r f = (((0 + (f ((f_X5_row_r 0) + 7).toNatClampNeg)) + (f ((f_X5_row_r 1) + 7).toNatClampNeg)) + (f ((f_X5_row_r 2) + 7).toNatClampNeg)) + (f ((f_X5_row_r 3) + 7).toNatClampNeg) from rfl).symm) rfl dX5_overruns_28
noncomputable def f_X5_moves_f (f : Nat → Int64) (k : Int32) (j : Int32) (x : Int64) : (Nat → Int64) := vp_updL (vp_updL f k.toNatClampNeg ((f k.toNatClampNeg) - x)) j.toNatClampNeg (((vp_updL f k.toNatClampNeg ((f k.toNatClampNeg) - x)) j.toNatClampNeg) + x)
set_option maxRecDepth 100000 in
set_option maxHeartbeats 4000000 in
theorem m_X5_moves (l : Launch) (G : GG) (a : Nat) (f : Nat → Int64) (k : Int32) (j : Int32) (x : Int64) (h1 : vp_in k 456) (h2 : vp_in j 456) : CtV l yX5_moves cX5_moves 5 (none : Option Jvm.ClassFile.FieldType) (RM 0) G [.ref a, .int k, .int j, .long x] ([aJ G a 456 f]) ([aJ G a 456 (f_X5_moves_f f k j x)]) := by
  refine ct_V RX5 [(0, .ref a), (1, .int k), (2, .int j), (3, .long x)] rfl (by decide +kernel) (Nat.le_of_ble_eq_true rfl) rfl ?_
  intro p e s m args below meth c A C hr hk hnm
  generalize hQ : (MQ below (PostV G A ([aJ G a 456 (f_X5_moves_f f k j x)])) args s (RM 0).cells (RM 0).slots A) = Q
  refine j_aload_n C dX5_moves_0 0 rfl ?_
  refine j_iload_n C dX5_moves_1 1 rfl ?_
  refine j_dup2_11 C dX5_moves_2 rfl rfl ?_
  refine j_lald C 0 rfl h1 (v := f k.toNatClampNeg) rfl dX5_moves_3 ?_
  refine j_lload_n C dX5_moves_4 3 rfl ?_
  refine j_lsub C dX5_moves_5 rfl ?_
  generalize hw0 : (f k.toNatClampNeg) - x = w0
  refine j_last C 0 rfl h1 ([aJ G a 456 (vp_updL f k.toNatClampNeg w0)]) rfl dX5_moves_6 ?_
  refine j_aload_n C dX5_moves_7 0 rfl ?_
  refine j_iload_n C dX5_moves_8 2 rfl ?_
  refine j_dup2_11 C dX5_moves_9 rfl rfl ?_
  refine j_lald C 0 rfl h2 (v := (vp_updL f k.toNatClampNeg w0) j.toNatClampNeg) rfl dX5_moves_10 ?_
  refine j_lload_n C dX5_moves_11 3 rfl ?_
  refine j_ladd C dX5_moves_12 rfl ?_
  generalize hw1 : ((vp_updL f k.toNatClampNeg w0) j.toNatClampNeg) + x = w1
  refine j_last C 0 rfl h2 ([aJ G a 456 (vp_updL (vp_updL f k.toNatClampNeg w0) j.toNatClampNeg w1)]) rfl dX5_moves_13 ?_
  subst hQ; subst hw0 hw1; exact j_vret C hr hk (by rw [show f_X5_moves_f f k j x = vp_updL (vp_updL f k.toNatClampNeg ((f k.toNatClampNeg) - x)) j.toNatClampNeg (((vp_updL f k.toNatClampNeg ((f k.toNatClampNeg) - x)) j.toNatClampNeg) + x) from rfl]) dX5_moves_14
