/-! THE LEAVES: static tests; a drive and its hours -/
noncomputable def f_X4_isDrive_x1 (k : Int32) : Int32 := (if k < 0 then 0 else (if 4 ≤ k then 0 else 1))
noncomputable def f_X4_isDrive_r (k : Int32) : Int32 := (f_X4_isDrive_x1 k)
set_option maxRecDepth 100000 in
set_option maxHeartbeats 4000000 in
theorem m_X4_isDrive (l : Launch) (G : GG) (k : Int32)  : CtI l yX4_isDrive cX4_isDrive 1 (some .boolean) (RM 0) G [.int k] ([]) (f_X4_isDrive_r k) ([]) := by
  refine ct_I RX4 [(0, .int k)] rfl (by decide +kernel) (Nat.le_of_ble_eq_true rfl) rfl ?_
  intro p e s m args below meth c A C hr hk hnm
  generalize hQ : (MQ below (PostI G A (f_X4_isDrive_r k) ([])) args s (RM 0).cells (RM 0).slots A) = Q
  refine j_iload_n C dX4_isDrive_0 0 rfl ?_
  have K14 : WJ p l e (RM 0) s m args below meth c G A 1 0 0 Q ([]) [(0, .int k)] 14 [.int (f_X4_isDrive_x1 k)] := by
    generalize hw0 : f_X4_isDrive_x1 k = w0
    subst hQ; subst hw0; exact j_zret C hr hk (by unfold f_X4_isDrive_x1; (repeat' split) <;> rfl) ((show f_X4_isDrive_r k = (f_X4_isDrive_x1 k) from rfl).symm) rfl dX4_isDrive_14
  refine j_if_lt (tgt := 13) C dX4_isDrive_1 (by decide) (fun c1 => ?_) (fun c1 => ?_)
  · refine j_iconst (v := 0) C dX4_isDrive_13 (by decide) ?_
    exact j_eq rfl rfl (by rw [show f_X4_isDrive_x1 k = 0 from (if_pos c1)]) K14
  · refine j_iload_n C dX4_isDrive_4 0 rfl ?_
    refine j_iconst (v := 4) C dX4_isDrive_5 (by decide) ?_
    refine j_icmp_ge (tgt := 13) C dX4_isDrive_6 (by decide) (fun c6 => ?_) (fun c6 => ?_)
    · refine j_iconst (v := 0) C dX4_isDrive_13 (by decide) ?_
      exact j_eq rfl rfl (by rw [show f_X4_isDrive_x1 k = 0 from ((if_neg c1).trans (if_pos c6))]) K14
    · refine j_iconst (v := 1) C dX4_isDrive_9 (by decide) ?_
      refine j_goto (tgt := 14) C dX4_isDrive_10 (by decide) ?_
      exact j_eq rfl rfl (by rw [show f_X4_isDrive_x1 k = 1 from ((if_neg c1).trans (if_neg c6))]) K14
noncomputable def f_X4_isHour_x1 (k : Int32) : Int32 := (if k < 0 then 0 else (if 100 ≤ k then 0 else 1))
noncomputable def f_X4_isHour_r (k : Int32) : Int32 := (f_X4_isHour_x1 k)
set_option maxRecDepth 100000 in
set_option maxHeartbeats 4000000 in
theorem m_X4_isHour (l : Launch) (G : GG) (k : Int32)  : CtI l yX4_isHour cX4_isHour 1 (some .boolean) (RM 0) G [.int k] ([]) (f_X4_isHour_r k) ([]) := by
  refine ct_I RX4 [(0, .int k)] rfl (by decide +kernel) (Nat.le_of_ble_eq_true rfl) rfl ?_
  intro p e s m args below meth c A C hr hk hnm
  generalize hQ : (MQ below (PostI G A (f_X4_isHour_r k) ([])) args s (RM 0).cells (RM 0).slots A) = Q
  refine j_iload_n C dX4_isHour_0 0 rfl ?_
  have K15 : WJ p l e (RM 0) s m args below meth c G A 1 0 0 Q ([]) [(0, .int k)] 15 [.int (f_X4_isHour_x1 k)] := by
    generalize hw0 : f_X4_isHour_x1 k = w0
    subst hQ; subst hw0; exact j_zret C hr hk (by unfold f_X4_isHour_x1; (repeat' split) <;> rfl) ((show f_X4_isHour_r k = (f_X4_isHour_x1 k) from rfl).symm) rfl dX4_isHour_15
  refine j_if_lt (tgt := 14) C dX4_isHour_1 (by decide) (fun c1 => ?_) (fun c1 => ?_)
  · refine j_iconst (v := 0) C dX4_isHour_14 (by decide) ?_
    exact j_eq rfl rfl (by rw [show f_X4_isHour_x1 k = 0 from (if_pos c1)]) K15
  · refine j_iload_n C dX4_isHour_4 0 rfl ?_
    refine j_bipush (v := 100) C dX4_isHour_5 (by decide) ?_
    refine j_icmp_ge (tgt := 14) C dX4_isHour_7 (by decide) (fun c7 => ?_) (fun c7 => ?_)
    · refine j_iconst (v := 0) C dX4_isHour_14 (by decide) ?_
      exact j_eq rfl rfl (by rw [show f_X4_isHour_x1 k = 0 from ((if_neg c1).trans (if_pos c7))]) K15
    · refine j_iconst (v := 1) C dX4_isHour_10 (by decide) ?_
      refine j_goto (tgt := 15) C dX4_isHour_11 (by decide) ?_
      exact j_eq rfl rfl (by rw [show f_X4_isHour_x1 k = 1 from ((if_neg c1).trans (if_neg c7))]) K15
noncomputable def f_X4_arePassable_x1 (k : Int32) : Int32 := (if k < 1 then 0 else (if 600 < k then 0 else 1))
noncomputable def f_X4_arePassable_r (k : Int32) : Int32 := (f_X4_arePassable_x1 k)
set_option maxRecDepth 100000 in
set_option maxHeartbeats 4000000 in
theorem m_X4_arePassable (l : Launch) (G : GG) (k : Int32)  : CtI l yX4_arePassable cX4_arePassable 1 (some .boolean) (RM 0) G [.int k] ([]) (f_X4_arePassable_r k) ([]) := by
  refine ct_I RX4 [(0, .int k)] rfl (by decide +kernel) (Nat.le_of_ble_eq_true rfl) rfl ?_
  intro p e s m args below meth c A C hr hk hnm
  generalize hQ : (MQ below (PostI G A (f_X4_arePassable_r k) ([])) args s (RM 0).cells (RM 0).slots A) = Q
  refine j_iload_n C dX4_arePassable_0 0 rfl ?_
  refine j_iconst (v := 1) C dX4_arePassable_1 (by decide) ?_
  have K17 : WJ p l e (RM 0) s m args below meth c G A 1 0 0 Q ([]) [(0, .int k)] 17 [.int (f_X4_arePassable_x1 k)] := by
    generalize hw0 : f_X4_arePassable_x1 k = w0
    subst hQ; subst hw0; exact j_zret C hr hk (by unfold f_X4_arePassable_x1; (repeat' split) <;> rfl) ((show f_X4_arePassable_r k = (f_X4_arePassable_x1 k) from rfl).symm) rfl dX4_arePassable_17
  refine j_icmp_lt (tgt := 16) C dX4_arePassable_2 (by decide) (fun c2 => ?_) (fun c2 => ?_)
  · refine j_iconst (v := 0) C dX4_arePassable_16 (by decide) ?_
    exact j_eq rfl rfl (by rw [show f_X4_arePassable_x1 k = 0 from (if_pos c2)]) K17
  · refine j_iload_n C dX4_arePassable_5 0 rfl ?_
    refine j_sipush (v := 600) C dX4_arePassable_6 (by decide) ?_
    refine j_icmp_gt (tgt := 16) C dX4_arePassable_9 (by decide) (fun c9 => ?_) (fun c9 => ?_)
    · refine j_iconst (v := 0) C dX4_arePassable_16 (by decide) ?_
      exact j_eq rfl rfl (by rw [show f_X4_arePassable_x1 k = 0 from ((if_neg c2).trans (if_pos c9))]) K17
    · refine j_iconst (v := 1) C dX4_arePassable_12 (by decide) ?_
      refine j_goto (tgt := 17) C dX4_arePassable_13 (by decide) ?_
      exact j_eq rfl rfl (by rw [show f_X4_arePassable_x1 k = 1 from ((if_neg c2).trans (if_neg c9))]) K17
noncomputable def f_X4_twinOf_x1 (k : Int32) : Int32 := (if k - k / 2 * 2 = 0 then k + 1 else k - 1)
noncomputable def f_X4_twinOf_r (k : Int32) : Int32 := (f_X4_twinOf_x1 k)
set_option maxRecDepth 100000 in
set_option maxHeartbeats 4000000 in
theorem m_X4_twinOf (l : Launch) (G : GG) (k : Int32)  : CtI l yX4_twinOf cX4_twinOf 1 (some .int) (RM 0) G [.int k] ([]) (f_X4_twinOf_r k) ([]) := by
  refine ct_I RX4 [(0, .int k)] rfl (by decide +kernel) (Nat.le_of_ble_eq_true rfl) rfl ?_
  intro p e s m args below meth c A C hr hk hnm
  generalize hQ : (MQ below (PostI G A (f_X4_twinOf_r k) ([])) args s (RM 0).cells (RM 0).slots A) = Q
  refine j_iload_n C dX4_twinOf_0 0 rfl ?_
  refine j_iconst (v := 2) C dX4_twinOf_1 (by decide) ?_
  refine j_irem C dX4_twinOf_2 (by decide) rfl ?_
  have K15 : WJ p l e (RM 0) s m args below meth c G A 1 0 0 Q ([]) [(0, .int k)] 15 [.int (f_X4_twinOf_x1 k)] := by
    generalize hw0 : f_X4_twinOf_x1 k = w0
    subst hQ; subst hw0; exact j_iret C hr hk ((show f_X4_twinOf_r k = (f_X4_twinOf_x1 k) from rfl).symm) rfl dX4_twinOf_15
  refine j_if_ne (tgt := 12) C dX4_twinOf_3 (by decide) (fun c3 => ?_) (fun c3 => ?_)
  · refine j_iload_n C dX4_twinOf_12 0 rfl ?_
    refine j_iconst (v := 1) C dX4_twinOf_13 (by decide) ?_
    refine j_isub C dX4_twinOf_14 rfl ?_
    exact j_eq rfl rfl (by rw [show f_X4_twinOf_x1 k = k - 1 from (if_neg c3)]) K15
  · refine j_iload_n C dX4_twinOf_6 0 rfl ?_
    refine j_iconst (v := 1) C dX4_twinOf_7 (by decide) ?_
    refine j_iadd C dX4_twinOf_8 rfl ?_
    refine j_goto (tgt := 15) C dX4_twinOf_9 (by decide) ?_
    exact j_eq rfl rfl (by rw [show f_X4_twinOf_x1 k = k + 1 from (if_pos c3)]) K15
theorem vin_of {k : Int32} {n : Nat} {N : Int32} (hN : N.toInt = n) (h0 : ¬ k < 0) (h1 : ¬ N ≤ k) : vp_in k n := vp_in_iff.mpr ⟨by have := Int32.not_lt.mp h0; simpa using Int32.le_iff_toInt_le.mp this, by have := Int32.not_le.mp h1; rw [Int32.lt_iff_toInt_lt, hN] at this; exact this⟩
theorem vin_hour {k : Int32} (h : ¬ f_X4_isHour_r k = 0) : vp_in k 100 := by
  unfold f_X4_isHour_r f_X4_isHour_x1 at h
  split at h
  · exact absurd rfl h
  · rename_i h0
    split at h
    · exact absurd rfl h
    · rename_i h1
      exact vin_of (N := 100) rfl h0 h1
/-- how many of the first n hours are of a kind -/
def cntH (f : Nat → Int8) (k : Int32) : Nat → Int32
  | 0 => 0
  | n + 1 => if (f n).toInt32 = k then cntH f k n + 1 else cntH f k n

noncomputable def f_X0_hourState_x2 (v : DO) (f : Nat → Int8) (k : Int32) : Int32 := (if f_X4_isHour_r k = 0 then 0 else (f k.toNatClampNeg).toInt32)
noncomputable def f_X0_hourState_r (v : DO) (f : Nat → Int8) (k : Int32) : Int32 := (f_X0_hourState_x2 v f k)
set_option maxRecDepth 100000 in
set_option maxHeartbeats 4000000 in
theorem m_X0_hourState (l : Launch) (G : GG) (a h : Nat) (v : DO) (f : Nat → Int8) (k : Int32)  : CtI l yX0_hourState cX0_hourState 2 (some .int) (RM 1) G [.ref a, .int k] ([oD a h v, aB G h f]) (f_X0_hourState_r v f k) ([oD a h v, aB G h f]) := by
  refine ct_I RX0 [(0, .ref a), (1, .int k)] rfl (by decide +kernel) (Nat.le_of_ble_eq_true rfl) rfl ?_
  intro p e s m args below meth c A C hr hk hnm
  generalize hQ : (MQ below (PostI G A (f_X0_hourState_r v f k) ([oD a h v, aB G h f])) args s (RM 1).cells (RM 1).slots A) = Q
  refine j_iload_n C dX0_hourState_0 1 rfl ?_
  refine j_pureSN_i (r := f_X4_isHour_r k) C (m_X4_isHour l G k) 1 kw_185 (List.mem_of_getElem? (i := 4) rfl) kw_1 kw_184 (by decide +kernel) ⟨(Nat.le_of_ble_eq_true rfl), (Nat.le_of_ble_eq_true rfl)⟩ rfl rfl (Nat.le_of_ble_eq_true rfl) dX0_hourState_1 ⟨(Nat.le_of_ble_eq_true rfl), (Nat.le_of_ble_eq_true rfl)⟩ ?_
  have K17 : WJ p l e (RM 1) s m args below meth c G A 2 0 0 Q ([oD a h v, aB G h f]) [(0, .ref a), (1, .int k)] 17 [.int (f_X0_hourState_x2 v f k)] := by
    generalize hw0 : f_X0_hourState_x2 v f k = w0
    subst hQ; subst hw0; exact j_iret C hr hk ((show f_X0_hourState_r v f k = (f_X0_hourState_x2 v f k) from rfl).symm) rfl dX0_hourState_17
  refine j_if_eq (tgt := 16) C dX0_hourState_4 (by decide) (fun c4 => ?_) (fun c4 => ?_)
  · refine j_iconst (v := 0) C dX0_hourState_16 (by decide) ?_
    exact j_eq rfl rfl (by rw [show f_X0_hourState_x2 v f k = 0 from (if_pos c4)]) K17
  · refine j_aload_n C dX0_hourState_7 0 rfl ?_
    refine j_get C kin0 rfl 0 rfl 11 (by decide) kw_59 rfl (v := .ref h) rfl dX0_hourState_8 ?_
    refine j_iload_n C dX0_hourState_11 1 rfl ?_
    refine j_bald C 1 rfl (vin_hour c4) (v := (f k.toNatClampNeg).toInt32) rfl dX0_hourState_12 ?_
    refine j_goto (tgt := 17) C dX0_hourState_13 (by decide) ?_
    exact j_eq rfl rfl (by rw [show f_X0_hourState_x2 v f k = (f k.toNatClampNeg).toInt32 from (if_neg c4)]) K17
noncomputable def f_X0_markHour_v2 (v : DO) (f : Nat → Int8) (k : Int32) (x : Int32) : (Nat → Int8) := (if f_X4_isHour_r k = 0 then f else upd8 f k.toNatClampNeg x.toInt8.toInt32)
noncomputable def f_X0_markHour_f (v : DO) (f : Nat → Int8) (k : Int32) (x : Int32) : (Nat → Int8) := (f_X0_markHour_v2 v f k x)
set_option maxRecDepth 100000 in
set_option maxHeartbeats 4000000 in
theorem m_X0_markHour (l : Launch) (G : GG) (a h : Nat) (v : DO) (f : Nat → Int8) (k : Int32) (x : Int32)  : CtV l yX0_markHour cX0_markHour 3 (none : Option Jvm.ClassFile.FieldType) (RM 1) G [.ref a, .int k, .int x] ([oD a h v, aB G h f]) ([oD a h v, aB G h (f_X0_markHour_f v f k x)]) := by
  refine ct_V RX0 [(0, .ref a), (1, .int k), (2, .int x)] rfl (by decide +kernel) (Nat.le_of_ble_eq_true rfl) rfl ?_
  intro p e s m args below meth c A C hr hk hnm
  generalize hQ : (MQ below (PostV G A ([oD a h v, aB G h (f_X0_markHour_f v f k x)])) args s (RM 1).cells (RM 1).slots A) = Q
  refine j_iload_n C dX0_markHour_0 1 rfl ?_
  refine j_pureSN_i (r := f_X4_isHour_r k) C (m_X4_isHour l G k) 1 kw_185 (List.mem_of_getElem? (i := 4) rfl) kw_1 kw_184 (by decide +kernel) ⟨(Nat.le_of_ble_eq_true rfl), (Nat.le_of_ble_eq_true rfl)⟩ rfl rfl (Nat.le_of_ble_eq_true rfl) dX0_markHour_1 ⟨(Nat.le_of_ble_eq_true rfl), (Nat.le_of_ble_eq_true rfl)⟩ ?_
  have K15 : WJ p l e (RM 1) s m args below meth c G A 3 0 0 Q ([oD a h v, aB G h (f_X0_markHour_v2 v f k x)]) [(0, .ref a), (1, .int k), (2, .int x)] 15 [] := by
    generalize hw0 : f_X0_markHour_v2 v f k x = w0
    subst hQ; subst hw0; exact j_vret C hr hk (by rw [show f_X0_markHour_f v f k x = (f_X0_markHour_v2 v f k x) from rfl]) dX0_markHour_15
  refine j_if_eq (tgt := 15) C dX0_markHour_4 (by decide) (fun c4 => ?_) (fun c4 => ?_)
  · exact j_eq (by rw [show f_X0_markHour_v2 v f k x = f from (if_pos c4)]) rfl rfl K15
  · refine j_aload_n C dX0_markHour_7 0 rfl ?_
    refine j_get C kin0 rfl 0 rfl 11 (by decide) kw_59 rfl (v := .ref h) rfl dX0_markHour_8 ?_
    refine j_iload_n C dX0_markHour_11 1 rfl ?_
    refine j_iload_n C dX0_markHour_12 2 rfl ?_
    refine j_i2b C dX0_markHour_13 rfl ?_
    refine j_bast8 C 1 rfl (vin_hour c4) ([oD a h v, aB G h (upd8 f k.toNatClampNeg x.toInt8.toInt32)]) rfl dX0_markHour_14 ?_
    exact j_eq (by rw [show f_X0_markHour_v2 v f k x = upd8 f k.toNatClampNeg x.toInt8.toInt32 from (if_neg c4)]) rfl rfl K15
noncomputable def f_X0_isQuietIn_x2 (v : DO) (f : Nat → Int8) (k : Int32) : Int32 := (if f_X0_hourState_r v f k = 0 then 0 else 1)
noncomputable def f_X0_isQuietIn_r (v : DO) (f : Nat → Int8) (k : Int32) : Int32 := (f_X0_isQuietIn_x2 v f k)
set_option maxRecDepth 100000 in
set_option maxHeartbeats 4000000 in
theorem m_X0_isQuietIn (l : Launch) (G : GG) (a h : Nat) (v : DO) (f : Nat → Int8) (k : Int32)  : CtI l yX0_isQuietIn cX0_isQuietIn 2 (some .boolean) (RM 2) G [.ref a, .int k] ([oD a h v, aB G h f]) (f_X0_isQuietIn_r v f k) ([oD a h v, aB G h f]) := by
  refine ct_I RX0 [(0, .ref a), (1, .int k)] rfl (by decide +kernel) (Nat.le_of_ble_eq_true rfl) rfl ?_
  intro p e s m args below meth c A C hr hk hnm
  generalize hQ : (MQ below (PostI G A (f_X0_isQuietIn_r v f k) ([oD a h v, aB G h f])) args s (RM 2).cells (RM 2).slots A) = Q
  refine j_aload_n C dX0_isQuietIn_0 0 rfl ?_
  refine j_iload_n C dX0_isQuietIn_1 1 rfl ?_
  refine j_callV_i (r := f_X0_hourState_r v f k) (wc' := [oD a h v, aB G h f]) C (m_X0_hourState l G a h v f k) rfl 0 rfl 1 (gV kw_180 kw_181 kw_182 kw_4 kw_183) (by decide +kernel) ⟨(Nat.le_of_ble_eq_true rfl), (Nat.le_of_ble_eq_true rfl)⟩ rfl rfl (Nat.le_of_ble_eq_true rfl) dX0_isQuietIn_2 ⟨(Nat.le_of_ble_eq_true rfl), (Nat.le_of_ble_eq_true rfl)⟩ [] [oD a h v, aB G h f] (perm_idx [0, 1] 2 rfl (by decide +kernel) rfl) rfl ?_
  have K13 : WJ p l e (RM 2) s m args below meth c G A 2 0 0 Q ([oD a h v, aB G h f]) [(0, .ref a), (1, .int k)] 13 [.int (f_X0_isQuietIn_x2 v f k)] := by
    generalize hw0 : f_X0_isQuietIn_x2 v f k = w0
    subst hQ; subst hw0; exact j_zret C hr hk (by unfold f_X0_isQuietIn_x2; (repeat' split) <;> rfl) ((show f_X0_isQuietIn_r v f k = (f_X0_isQuietIn_x2 v f k) from rfl).symm) rfl dX0_isQuietIn_13
  refine j_if_eq (tgt := 12) C dX0_isQuietIn_5 (by decide) (fun c5 => ?_) (fun c5 => ?_)
  · refine j_iconst (v := 0) C dX0_isQuietIn_12 (by decide) ?_
    exact j_eq rfl rfl (by rw [show f_X0_isQuietIn_x2 v f k = 0 from (if_pos c5)]) K13
  · refine j_iconst (v := 1) C dX0_isQuietIn_8 (by decide) ?_
    refine j_goto (tgt := 13) C dX0_isQuietIn_9 (by decide) ?_
    exact j_eq rfl rfl (by rw [show f_X0_isQuietIn_x2 v f k = 1 from (if_neg c5)]) K13
noncomputable def f_X0_takeStream_v1 (v : DO) (k : Int32) : DO := (if v.1 8 ≤ 0 then v else (if k - k / (v.1 8) * (v.1 8) = 0 then (upd v.1 3 ((v.1 3) + (v.1 9)), v.2) else v))
noncomputable def f_X0_takeStream_v (v : DO) (k : Int32) : DO := (f_X0_takeStream_v1 v k)
set_option maxRecDepth 100000 in
set_option maxHeartbeats 4000000 in
theorem m_X0_takeStream (l : Launch) (G : GG) (a h : Nat) (v : DO) (k : Int32)  : CtV l yX0_takeStream cX0_takeStream 2 (none : Option Jvm.ClassFile.FieldType) (RM 0) G [.ref a, .int k] ([oD a h v]) ([oD a h (f_X0_takeStream_v v k)]) := by
  refine ct_V RX0 [(0, .ref a), (1, .int k)] rfl (by decide +kernel) (Nat.le_of_ble_eq_true rfl) rfl ?_
  intro p e s m args below meth c A C hr hk hnm
  generalize hQ : (MQ below (PostV G A ([oD a h (f_X0_takeStream_v v k)])) args s (RM 0).cells (RM 0).slots A) = Q
  refine j_aload_n C dX0_takeStream_0 0 rfl ?_
  refine j_get C kin0 rfl 0 rfl 8 (by decide) kw_51 rfl (v := .int (v.1 8)) rfl dX0_takeStream_1 ?_
  have K29 : WJ p l e (RM 0) s m args below meth c G A 2 0 0 Q ([oD a h (f_X0_takeStream_v1 v k)]) [(0, .ref a), (1, .int k)] 29 [] := by
    generalize hw1 : f_X0_takeStream_v1 v k = w1
    subst hQ; subst hw1; exact j_vret C hr hk (by rw [show f_X0_takeStream_v v k = (f_X0_takeStream_v1 v k) from rfl]) dX0_takeStream_29
  refine j_if_le (tgt := 29) C dX0_takeStream_4 (by decide) (fun c4 => ?_) (fun c4 => ?_)
  · exact j_eq (by rw [show f_X0_takeStream_v1 v k = v from (if_pos c4)]) rfl rfl K29
  · refine j_iload_n C dX0_takeStream_7 1 rfl ?_
    refine j_aload_n C dX0_takeStream_8 0 rfl ?_
    refine j_get C kin0 rfl 0 rfl 8 (by decide) kw_51 rfl (v := .int (v.1 8)) rfl dX0_takeStream_9 ?_
    refine j_irem C dX0_takeStream_12 (by intro h; rw [h] at c4; exact absurd c4 (by decide)) rfl ?_
    refine j_if_ne (tgt := 29) C dX0_takeStream_13 (by decide) (fun c13 => ?_) (fun c13 => ?_)
    · exact j_eq (by rw [show f_X0_takeStream_v1 v k = v from ((if_neg c4).trans (if_neg c13))]) rfl rfl K29
    · refine j_aload_n C dX0_takeStream_16 0 rfl ?_
      refine j_dup C dX0_takeStream_17 rfl ?_
      refine j_get C kin0 rfl 0 rfl 3 (by decide) kw_38 rfl (v := .int (v.1 3)) rfl dX0_takeStream_18 ?_
      refine j_aload_n C dX0_takeStream_21 0 rfl ?_
      refine j_get C kin0 rfl 0 rfl 9 (by decide) kw_54 rfl (v := .int (v.1 9)) rfl dX0_takeStream_22 ?_
      refine j_iadd C dX0_takeStream_25 rfl ?_
      generalize hw0 : (v.1 3) + (v.1 9) = w0
      refine j_put C kin0 rfl 0 rfl 3 (by decide) kw_38 rfl tyX0 tyX0_ok nmX0 rfl rfl rfl (Nat.le_of_ble_eq_true rfl) ([oD a h (upd v.1 3 w0, v.2)]) rfl dX0_takeStream_26 ?_
      subst hw0; exact j_eq (by rw [show f_X0_takeStream_v1 v k = (upd v.1 3 ((v.1 3) + (v.1 9)), v.2) from ((if_neg c4).trans (if_pos c13))]) rfl rfl K29
noncomputable def f_X0_fillCells_v (v : DO) (k : Int32) : DO := (upd (upd (upd v.1 0 ((v.1 0) - k)) 1 ((v.1 1) + k)) 5 ((v.1 5) + k), v.2)
set_option maxRecDepth 100000 in
set_option maxHeartbeats 4000000 in
theorem m_X0_fillCells (l : Launch) (G : GG) (a h : Nat) (v : DO) (k : Int32)  : CtV l yX0_fillCells cX0_fillCells 2 (none : Option Jvm.ClassFile.FieldType) (RM 0) G [.ref a, .int k] ([oD a h v]) ([oD a h (f_X0_fillCells_v v k)]) := by
  refine ct_V RX0 [(0, .ref a), (1, .int k)] rfl (by decide +kernel) (Nat.le_of_ble_eq_true rfl) rfl ?_
  intro p e s m args below meth c A C hr hk hnm
  generalize hQ : (MQ below (PostV G A ([oD a h (f_X0_fillCells_v v k)])) args s (RM 0).cells (RM 0).slots A) = Q
  refine j_aload_n C dX0_fillCells_0 0 rfl ?_
  refine j_dup C dX0_fillCells_1 rfl ?_
  refine j_get C kin0 rfl 0 rfl 0 (by decide) kw_30 rfl (v := .int (v.1 0)) rfl dX0_fillCells_2 ?_
  refine j_iload_n C dX0_fillCells_5 1 rfl ?_
  refine j_isub C dX0_fillCells_6 rfl ?_
  generalize hw0 : (v.1 0) - k = w0
  refine j_put C kin0 rfl 0 rfl 0 (by decide) kw_30 rfl tyX0 tyX0_ok nmX0 rfl rfl rfl (Nat.le_of_ble_eq_true rfl) ([oD a h (upd v.1 0 w0, v.2)]) rfl dX0_fillCells_7 ?_
  refine j_aload_n C dX0_fillCells_10 0 rfl ?_
  refine j_dup C dX0_fillCells_11 rfl ?_
  refine j_get C kin0 rfl 0 rfl 1 (by decide) kw_33 rfl (v := .int (v.1 1)) rfl dX0_fillCells_12 ?_
  refine j_iload_n C dX0_fillCells_15 1 rfl ?_
  refine j_iadd C dX0_fillCells_16 rfl ?_
  generalize hw1 : (v.1 1) + k = w1
  refine j_put C kin0 rfl 0 rfl 1 (by decide) kw_33 rfl tyX0 tyX0_ok nmX0 rfl rfl rfl (Nat.le_of_ble_eq_true rfl) ([oD a h (upd (upd v.1 0 w0) 1 w1, v.2)]) rfl dX0_fillCells_17 ?_
  refine j_aload_n C dX0_fillCells_20 0 rfl ?_
  refine j_dup C dX0_fillCells_21 rfl ?_
  refine j_get C kin0 rfl 0 rfl 5 (by decide) kw_44 rfl (v := .int (v.1 5)) rfl dX0_fillCells_22 ?_
  refine j_iload_n C dX0_fillCells_25 1 rfl ?_
  refine j_iadd C dX0_fillCells_26 rfl ?_
  generalize hw2 : (v.1 5) + k = w2
  refine j_put C kin0 rfl 0 rfl 5 (by decide) kw_44 rfl tyX0 tyX0_ok nmX0 rfl rfl rfl (Nat.le_of_ble_eq_true rfl) ([oD a h (upd (upd (upd v.1 0 w0) 1 w1) 5 w2, v.2)]) rfl dX0_fillCells_27 ?_
  subst hQ; subst hw0 hw1 hw2; exact j_vret C hr hk (by rw [show f_X0_fillCells_v v k = (upd (upd (upd v.1 0 ((v.1 0) - k)) 1 ((v.1 1) + k)) 5 ((v.1 5) + k), v.2) from rfl]) dX0_fillCells_30
noncomputable def f_X0_takeBackFrom_v (v : DO) (t : DO) : DO := f_X0_fillCells_v v (imin (t.1 2) (v.1 0))
noncomputable def f_X0_takeBackFrom_t (v : DO) (t : DO) : DO := (upd (upd t.1 2 ((t.1 2) - (imin (t.1 2) (v.1 0)))) 1 ((t.1 1) + (imin (t.1 2) (v.1 0))), t.2)
set_option maxRecDepth 100000 in
set_option maxHeartbeats 4000000 in
theorem m_X0_takeBackFrom (l : Launch) (G : GG) (a b h g : Nat) (v : DO) (t : DO)  : CtV l yX0_takeBackFrom cX0_takeBackFrom 3 (none : Option Jvm.ClassFile.FieldType) (RM 1) G [.ref a, .ref b] ([oD a h v, oD b g t]) ([oD a h (f_X0_takeBackFrom_v v t), oD b g (f_X0_takeBackFrom_t v t)]) := by
  refine ct_V RX0 [(0, .ref a), (1, .ref b)] rfl (by decide +kernel) (Nat.le_of_ble_eq_true rfl) rfl ?_
  intro p e s m args below meth c A C hr hk hnm
  generalize hQ : (MQ below (PostV G A ([oD a h (f_X0_takeBackFrom_v v t), oD b g (f_X0_takeBackFrom_t v t)])) args s (RM 1).cells (RM 1).slots A) = Q
  refine j_aload_n C dX0_takeBackFrom_0 1 rfl ?_
  refine j_get C kin0 rfl 1 rfl 2 (by decide) kw_36 rfl (v := .int (t.1 2)) rfl dX0_takeBackFrom_1 ?_
  refine j_aload_n C dX0_takeBackFrom_4 0 rfl ?_
  refine j_get C kin0 rfl 0 rfl 0 (by decide) kw_30 rfl (v := .int (v.1 0)) rfl dX0_takeBackFrom_5 ?_
  refine j_mmin C kw_202 (Nat.le_of_ble_eq_true rfl) (Nat.le_of_ble_eq_true rfl) ⟨(Nat.le_of_ble_eq_true rfl), (Nat.le_of_ble_eq_true rfl)⟩ dX0_takeBackFrom_8 (v := imin (t.1 2) (v.1 0)) (imin_eq _ _).symm ?_
  refine j_istore_n C [(2, .int (imin (t.1 2) (v.1 0))), (0, .ref a), (1, .ref b)] dX0_takeBackFrom_11 (by decide) rfl ?_
  refine j_aload_n C dX0_takeBackFrom_12 2 rfl ?_
  refine j_dup C dX0_takeBackFrom_13 rfl ?_
  refine j_get C kin0 rfl 1 rfl 2 (by decide) kw_36 rfl (v := .int (t.1 2)) rfl dX0_takeBackFrom_14 ?_
  refine j_iload_n C dX0_takeBackFrom_17 0 rfl ?_
  refine j_isub C dX0_takeBackFrom_18 rfl ?_
  generalize hw0 : (t.1 2) - (imin (t.1 2) (v.1 0)) = w0
  refine j_put C kin0 rfl 1 rfl 2 (by decide) kw_36 rfl tyX0 tyX0_ok nmX0 rfl rfl rfl (Nat.le_of_ble_eq_true rfl) ([oD a h v, oD b g (upd t.1 2 w0, t.2)]) rfl dX0_takeBackFrom_19 ?_
  refine j_aload_n C dX0_takeBackFrom_22 2 rfl ?_
  refine j_dup C dX0_takeBackFrom_23 rfl ?_
  refine j_get C kin0 rfl 1 rfl 1 (by decide) kw_33 rfl (v := .int (t.1 1)) rfl dX0_takeBackFrom_24 ?_
  refine j_iload_n C dX0_takeBackFrom_27 0 rfl ?_
  refine j_iadd C dX0_takeBackFrom_28 rfl ?_
  generalize hw1 : (t.1 1) + (imin (t.1 2) (v.1 0)) = w1
  refine j_put C kin0 rfl 1 rfl 1 (by decide) kw_33 rfl tyX0 tyX0_ok nmX0 rfl rfl rfl (Nat.le_of_ble_eq_true rfl) ([oD a h v, oD b g (upd (upd t.1 2 w0) 1 w1, t.2)]) rfl dX0_takeBackFrom_29 ?_
  refine j_aload_n C dX0_takeBackFrom_32 1 rfl ?_
  refine j_iload_n C dX0_takeBackFrom_33 0 rfl ?_
  refine j_callV_v (wc' := [oD a h (f_X0_fillCells_v v (imin (t.1 2) (v.1 0)))]) C (m_X0_fillCells l G a h v (imin (t.1 2) (v.1 0))) rfl 0 rfl 1 (gV kw_205 kw_206 kw_344 kw_4 kw_207) (by decide +kernel) ⟨(Nat.le_of_ble_eq_true rfl), (Nat.le_of_ble_eq_true rfl)⟩ rfl rfl (Nat.le_of_ble_eq_true rfl) dX0_takeBackFrom_34 ⟨(Nat.le_of_ble_eq_true rfl), (Nat.le_of_ble_eq_true rfl)⟩ [oD b g (upd (upd t.1 2 w0) 1 w1, t.2)] [oD a h (f_X0_fillCells_v v (imin (t.1 2) (v.1 0))), oD b g (upd (upd t.1 2 w0) 1 w1, t.2)] (perm_idx [0, 1] 2 rfl (by decide +kernel) rfl) rfl ?_
  subst hQ; subst hw0 hw1; exact j_vret C hr hk (by rw [show f_X0_takeBackFrom_v v t = f_X0_fillCells_v v (imin (t.1 2) (v.1 0)) from rfl, show f_X0_takeBackFrom_t v t = (upd (upd t.1 2 ((t.1 2) - (imin (t.1 2) (v.1 0)))) 1 ((t.1 1) + (imin (t.1 2) (v.1 0))), t.2) from rfl]) dX0_takeBackFrom_37
noncomputable def f_X0_writeHeld_vq1 (v : DO) : DO := f_X0_fillCells_v (upd v.1 3 ((v.1 3) - (imin (v.1 3) (v.1 0))), v.2) (imin (v.1 3) (v.1 0))
noncomputable def f_X0_writeHeld_v (v : DO) : DO := (f_X0_writeHeld_vq1 v)
set_option maxRecDepth 100000 in
set_option maxHeartbeats 4000000 in
theorem m_X0_writeHeld (l : Launch) (G : GG) (a h : Nat) (v : DO)  : CtV l yX0_writeHeld cX0_writeHeld 2 (none : Option Jvm.ClassFile.FieldType) (RM 1) G [.ref a] ([oD a h v]) ([oD a h (f_X0_writeHeld_v v)]) := by
  refine ct_V RX0 [(0, .ref a)] rfl (by decide +kernel) (Nat.le_of_ble_eq_true rfl) rfl ?_
  intro p e s m args below meth c A C hr hk hnm
  generalize hQ : (MQ below (PostV G A ([oD a h (f_X0_writeHeld_v v)])) args s (RM 1).cells (RM 1).slots A) = Q
  refine j_aload_n C dX0_writeHeld_0 0 rfl ?_
  refine j_get C kin0 rfl 0 rfl 3 (by decide) kw_38 rfl (v := .int (v.1 3)) rfl dX0_writeHeld_1 ?_
  refine j_aload_n C dX0_writeHeld_4 0 rfl ?_
  refine j_get C kin0 rfl 0 rfl 0 (by decide) kw_30 rfl (v := .int (v.1 0)) rfl dX0_writeHeld_5 ?_
  refine j_mmin C kw_202 (Nat.le_of_ble_eq_true rfl) (Nat.le_of_ble_eq_true rfl) ⟨(Nat.le_of_ble_eq_true rfl), (Nat.le_of_ble_eq_true rfl)⟩ dX0_writeHeld_8 (v := imin (v.1 3) (v.1 0)) (imin_eq _ _).symm ?_
  refine j_istore_n C [(1, .int (imin (v.1 3) (v.1 0))), (0, .ref a)] dX0_writeHeld_11 (by decide) rfl ?_
  refine j_aload_n C dX0_writeHeld_12 1 rfl ?_
  refine j_dup C dX0_writeHeld_13 rfl ?_
  refine j_get C kin0 rfl 0 rfl 3 (by decide) kw_38 rfl (v := .int (v.1 3)) rfl dX0_writeHeld_14 ?_
  refine j_iload_n C dX0_writeHeld_17 0 rfl ?_
  refine j_isub C dX0_writeHeld_18 rfl ?_
  generalize hw0 : (v.1 3) - (imin (v.1 3) (v.1 0)) = w0
  refine j_put C kin0 rfl 0 rfl 3 (by decide) kw_38 rfl tyX0 tyX0_ok nmX0 rfl rfl rfl (Nat.le_of_ble_eq_true rfl) ([oD a h (upd v.1 3 w0, v.2)]) rfl dX0_writeHeld_19 ?_
  refine j_aload_n C dX0_writeHeld_22 1 rfl ?_
  refine j_iload_n C dX0_writeHeld_23 0 rfl ?_
  refine j_callV_v (wc' := [oD a h (f_X0_fillCells_v (upd v.1 3 w0, v.2) (imin (v.1 3) (v.1 0)))]) C (m_X0_fillCells l G a h (upd v.1 3 w0, v.2) (imin (v.1 3) (v.1 0))) rfl 0 rfl 1 (gV kw_205 kw_206 kw_344 kw_4 kw_207) (by decide +kernel) ⟨(Nat.le_of_ble_eq_true rfl), (Nat.le_of_ble_eq_true rfl)⟩ rfl rfl (Nat.le_of_ble_eq_true rfl) dX0_writeHeld_24 ⟨(Nat.le_of_ble_eq_true rfl), (Nat.le_of_ble_eq_true rfl)⟩ [] [oD a h (f_X0_fillCells_v (upd v.1 3 w0, v.2) (imin (v.1 3) (v.1 0)))] (perm_idx [0] 1 rfl (by decide +kernel) rfl) rfl ?_
  generalize hzw1 : f_X0_fillCells_v (upd v.1 3 w0, v.2) (imin (v.1 3) (v.1 0)) = w1
  have hw1 : f_X0_writeHeld_vq1 v = w1 := by subst hw0; subst hzw1; rfl
  subst hQ; subst hw0 hw1; exact j_vret C hr hk (by rw [show f_X0_writeHeld_v v = (f_X0_writeHeld_vq1 v) from rfl]) dX0_writeHeld_27
noncomputable def f_X0_lendTo_v1 (v : DO) (t : DO) (k : Int32) : DO := (if v.1 3 ≤ k then v else (upd v.1 3 ((v.1 3) - (imin ((v.1 3) - k) (t.1 0))), v.2))
noncomputable def f_X0_lendTo_v2 (v : DO) (t : DO) (k : Int32) : DO := (if v.1 3 ≤ k then t else (upd (upd t.1 0 ((t.1 0) - (imin ((v.1 3) - k) (t.1 0)))) 2 ((t.1 2) + (imin ((v.1 3) - k) (t.1 0))), t.2))
noncomputable def f_X0_lendTo_v (v : DO) (t : DO) (k : Int32) : DO := (f_X0_lendTo_v1 v t k)
noncomputable def f_X0_lendTo_t (v : DO) (t : DO) (k : Int32) : DO := (f_X0_lendTo_v2 v t k)
set_option maxRecDepth 100000 in
set_option maxHeartbeats 4000000 in
theorem m_X0_lendTo (l : Launch) (G : GG) (a b h g : Nat) (v : DO) (t : DO) (k : Int32)  : CtV l yX0_lendTo cX0_lendTo 4 (none : Option Jvm.ClassFile.FieldType) (RM 1) G [.ref a, .ref b, .int k] ([oD a h v, oD b g t]) ([oD a h (f_X0_lendTo_v v t k), oD b g (f_X0_lendTo_t v t k)]) := by
  refine ct_V RX0 [(0, .ref a), (1, .ref b), (2, .int k)] rfl (by decide +kernel) (Nat.le_of_ble_eq_true rfl) rfl ?_
  intro p e s m args below meth c A C hr hk hnm
  generalize hQ : (MQ below (PostV G A ([oD a h (f_X0_lendTo_v v t k), oD b g (f_X0_lendTo_t v t k)])) args s (RM 1).cells (RM 1).slots A) = Q
  refine j_aload_n C dX0_lendTo_0 0 rfl ?_
  refine j_get C kin0 rfl 0 rfl 3 (by decide) kw_38 rfl (v := .int (v.1 3)) rfl dX0_lendTo_1 ?_
  refine j_iload_n C dX0_lendTo_4 2 rfl ?_
  have K52 : WJ p l e (RM 1) s m args below meth c G A 4 0 0 Q ([oD a h (f_X0_lendTo_v1 v t k), oD b g (f_X0_lendTo_v2 v t k)]) [(0, .ref a), (1, .ref b), (2, .int k)] 52 [] := by
    generalize hw3 : f_X0_lendTo_v1 v t k = w3
    generalize hw4 : f_X0_lendTo_v2 v t k = w4
    subst hQ; subst hw3 hw4; exact j_vret C hr hk (by rw [show f_X0_lendTo_v v t k = (f_X0_lendTo_v1 v t k) from rfl, show f_X0_lendTo_t v t k = (f_X0_lendTo_v2 v t k) from rfl]) dX0_lendTo_52
  refine j_icmp_le (tgt := 52) C dX0_lendTo_5 (by decide) (fun c5 => ?_) (fun c5 => ?_)
  · exact j_eq (by rw [show f_X0_lendTo_v1 v t k = v from (if_pos c5), show f_X0_lendTo_v2 v t k = t from (if_pos c5)]) rfl rfl K52
  · refine j_aload_n C dX0_lendTo_8 0 rfl ?_
    refine j_get C kin0 rfl 0 rfl 3 (by decide) kw_38 rfl (v := .int (v.1 3)) rfl dX0_lendTo_9 ?_
    refine j_iload_n C dX0_lendTo_12 2 rfl ?_
    refine j_isub C dX0_lendTo_13 rfl ?_
    refine j_aload_n C dX0_lendTo_14 1 rfl ?_
    refine j_get C kin0 rfl 1 rfl 0 (by decide) kw_30 rfl (v := .int (t.1 0)) rfl dX0_lendTo_15 ?_
    refine j_mmin C kw_202 (Nat.le_of_ble_eq_true rfl) (Nat.le_of_ble_eq_true rfl) ⟨(Nat.le_of_ble_eq_true rfl), (Nat.le_of_ble_eq_true rfl)⟩ dX0_lendTo_18 (v := imin ((v.1 3) - k) (t.1 0)) (imin_eq _ _).symm ?_
    refine j_istore_n C [(3, .int (imin ((v.1 3) - k) (t.1 0))), (0, .ref a), (1, .ref b), (2, .int k)] dX0_lendTo_21 (by decide) rfl ?_
    refine j_aload_n C dX0_lendTo_22 2 rfl ?_
    refine j_dup C dX0_lendTo_23 rfl ?_
    refine j_get C kin0 rfl 1 rfl 0 (by decide) kw_30 rfl (v := .int (t.1 0)) rfl dX0_lendTo_24 ?_
    refine j_iload_n C dX0_lendTo_27 0 rfl ?_
    refine j_isub C dX0_lendTo_28 rfl ?_
    generalize hw0 : (t.1 0) - (imin ((v.1 3) - k) (t.1 0)) = w0
    refine j_put C kin0 rfl 1 rfl 0 (by decide) kw_30 rfl tyX0 tyX0_ok nmX0 rfl rfl rfl (Nat.le_of_ble_eq_true rfl) ([oD a h v, oD b g (upd t.1 0 w0, t.2)]) rfl dX0_lendTo_29 ?_
    refine j_aload_n C dX0_lendTo_32 2 rfl ?_
    refine j_dup C dX0_lendTo_33 rfl ?_
    refine j_get C kin0 rfl 1 rfl 2 (by decide) kw_36 rfl (v := .int (t.1 2)) rfl dX0_lendTo_34 ?_
    refine j_iload_n C dX0_lendTo_37 0 rfl ?_
    refine j_iadd C dX0_lendTo_38 rfl ?_
    generalize hw1 : (t.1 2) + (imin ((v.1 3) - k) (t.1 0)) = w1
    refine j_put C kin0 rfl 1 rfl 2 (by decide) kw_36 rfl tyX0 tyX0_ok nmX0 rfl rfl rfl (Nat.le_of_ble_eq_true rfl) ([oD a h v, oD b g (upd (upd t.1 0 w0) 2 w1, t.2)]) rfl dX0_lendTo_39 ?_
    refine j_aload_n C dX0_lendTo_42 1 rfl ?_
    refine j_dup C dX0_lendTo_43 rfl ?_
    refine j_get C kin0 rfl 0 rfl 3 (by decide) kw_38 rfl (v := .int (v.1 3)) rfl dX0_lendTo_44 ?_
    refine j_iload_n C dX0_lendTo_47 0 rfl ?_
    refine j_isub C dX0_lendTo_48 rfl ?_
    generalize hw2 : (v.1 3) - (imin ((v.1 3) - k) (t.1 0)) = w2
    refine j_put C kin0 rfl 0 rfl 3 (by decide) kw_38 rfl tyX0 tyX0_ok nmX0 rfl rfl rfl (Nat.le_of_ble_eq_true rfl) ([oD a h (upd v.1 3 w2, v.2), oD b g (upd (upd t.1 0 w0) 2 w1, t.2)]) rfl dX0_lendTo_49 ?_
    refine j_lv [1, 2, 3] [(0, .ref a), (1, .ref b), (2, .int k)] rfl ?_
    subst hw0 hw1 hw2; exact j_eq (by rw [show f_X0_lendTo_v1 v t k = (upd v.1 3 ((v.1 3) - (imin ((v.1 3) - k) (t.1 0))), v.2) from (if_neg c5), show f_X0_lendTo_v2 v t k = (upd (upd t.1 0 ((t.1 0) - (imin ((v.1 3) - k) (t.1 0)))) 2 ((t.1 2) + (imin ((v.1 3) - k) (t.1 0))), t.2) from (if_neg c5)]) rfl rfl K52
noncomputable def f_X0_cleanCells_v (v : DO) (k : Int32) : DO := (upd (upd (upd v.1 1 ((v.1 1) - k)) 0 ((v.1 0) + k)) 6 ((v.1 6) + 1), v.2)
set_option maxRecDepth 100000 in
set_option maxHeartbeats 4000000 in
theorem m_X0_cleanCells (l : Launch) (G : GG) (a h : Nat) (v : DO) (k : Int32)  : CtV l yX0_cleanCells cX0_cleanCells 2 (none : Option Jvm.ClassFile.FieldType) (RM 0) G [.ref a, .int k] ([oD a h v]) ([oD a h (f_X0_cleanCells_v v k)]) := by
  refine ct_V RX0 [(0, .ref a), (1, .int k)] rfl (by decide +kernel) (Nat.le_of_ble_eq_true rfl) rfl ?_
  intro p e s m args below meth c A C hr hk hnm
  generalize hQ : (MQ below (PostV G A ([oD a h (f_X0_cleanCells_v v k)])) args s (RM 0).cells (RM 0).slots A) = Q
  refine j_aload_n C dX0_cleanCells_0 0 rfl ?_
  refine j_dup C dX0_cleanCells_1 rfl ?_
  refine j_get C kin0 rfl 0 rfl 1 (by decide) kw_33 rfl (v := .int (v.1 1)) rfl dX0_cleanCells_2 ?_
  refine j_iload_n C dX0_cleanCells_5 1 rfl ?_
  refine j_isub C dX0_cleanCells_6 rfl ?_
  generalize hw0 : (v.1 1) - k = w0
  refine j_put C kin0 rfl 0 rfl 1 (by decide) kw_33 rfl tyX0 tyX0_ok nmX0 rfl rfl rfl (Nat.le_of_ble_eq_true rfl) ([oD a h (upd v.1 1 w0, v.2)]) rfl dX0_cleanCells_7 ?_
  refine j_aload_n C dX0_cleanCells_10 0 rfl ?_
  refine j_dup C dX0_cleanCells_11 rfl ?_
  refine j_get C kin0 rfl 0 rfl 0 (by decide) kw_30 rfl (v := .int (v.1 0)) rfl dX0_cleanCells_12 ?_
  refine j_iload_n C dX0_cleanCells_15 1 rfl ?_
  refine j_iadd C dX0_cleanCells_16 rfl ?_
  generalize hw1 : (v.1 0) + k = w1
  refine j_put C kin0 rfl 0 rfl 0 (by decide) kw_30 rfl tyX0 tyX0_ok nmX0 rfl rfl rfl (Nat.le_of_ble_eq_true rfl) ([oD a h (upd (upd v.1 1 w0) 0 w1, v.2)]) rfl dX0_cleanCells_17 ?_
  refine j_aload_n C dX0_cleanCells_20 0 rfl ?_
  refine j_dup C dX0_cleanCells_21 rfl ?_
  refine j_get C kin0 rfl 0 rfl 6 (by decide) kw_46 rfl (v := .int (v.1 6)) rfl dX0_cleanCells_22 ?_
  refine j_iconst (v := 1) C dX0_cleanCells_25 (by decide) ?_
  refine j_iadd C dX0_cleanCells_26 rfl ?_
  generalize hw2 : (v.1 6) + 1 = w2
  refine j_put C kin0 rfl 0 rfl 6 (by decide) kw_46 rfl tyX0 tyX0_ok nmX0 rfl rfl rfl (Nat.le_of_ble_eq_true rfl) ([oD a h (upd (upd (upd v.1 1 w0) 0 w1) 6 w2, v.2)]) rfl dX0_cleanCells_27 ?_
  subst hQ; subst hw0 hw1 hw2; exact j_vret C hr hk (by rw [show f_X0_cleanCells_v v k = (upd (upd (upd v.1 1 ((v.1 1) - k)) 0 ((v.1 0) + k)) 6 ((v.1 6) + 1), v.2) from rfl]) dX0_cleanCells_30
noncomputable def f_X0_hoursThatAre_x2 (v : DO) (f : Nat → Int8) (k : Int32) (i : Nat) : Int32 := (if (f i).toInt32 = k then (cntH f k i) + 1 else cntH f k i)
noncomputable def f_X0_hoursThatAre_r (v : DO) (f : Nat → Int8) (k : Int32) : Int32 := cntH f k 100
set_option maxRecDepth 100000 in
set_option maxHeartbeats 4000000 in
theorem m_X0_hoursThatAre (l : Launch) (G : GG) (a h : Nat) (v : DO) (f : Nat → Int8) (k : Int32)  : CtI l yX0_hoursThatAre cX0_hoursThatAre 4 (some .int) (RM 0) G [.ref a, .int k] ([oD a h v, aB G h f]) (f_X0_hoursThatAre_r v f k) ([oD a h v, aB G h f]) := by
  refine ct_I RX0 [(0, .ref a), (1, .int k)] rfl (by decide +kernel) (Nat.le_of_ble_eq_true rfl) rfl ?_
  intro p e s m args below meth c A C hr hk hnm
  generalize hQ : (MQ below (PostI G A (f_X0_hoursThatAre_r v f k) ([oD a h v, aB G h f])) args s (RM 0).cells (RM 0).slots A) = Q
  refine j_iconst (v := 0) C dX0_hoursThatAre_0 (by decide) ?_
  refine j_istore_n C [(2, .int 0), (0, .ref a), (1, .int k)] dX0_hoursThatAre_1 (by decide) rfl ?_
  refine j_iconst (v := 0) C dX0_hoursThatAre_2 (by decide) ?_
  refine j_istore_n C [(3, .int 0), (2, .int 0), (0, .ref a), (1, .int k)] dX0_hoursThatAre_3 (by decide) rfl ?_
  have L1 : ∀ (n i : Nat), i + n = 100 → WJ p l e (RM 0) s m args below meth c G A 4 0 0 Q ([oD a h v, aB G h f]) [(3, .int (nI i)), (2, .int (cntH f k i)), (0, .ref a), (1, .int k)] 4 [] := by
    intro n
    induction n with
    | zero =>
      intro i hIN
      have hN : i = 100 := by omega
      subst hN
      refine j_iload_n C dX0_hoursThatAre_4 0 rfl ?_
      refine j_bipush (v := 100) C dX0_hoursThatAre_5 (by decide) ?_
      refine j_icmp_ge (tgt := 29) C dX0_hoursThatAre_7 (by decide) (fun c7 => ?_) (fun h => absurd (by decide) h)
      refine j_iload_n C dX0_hoursThatAre_29 1 rfl ?_
      subst hQ; exact j_iret C hr hk ((show f_X0_hoursThatAre_r v f k = cntH f k 100 from rfl).symm) rfl dX0_hoursThatAre_30
    | succ n ih =>
      intro i hIN
      have hlt : i < 100 := by omega
      refine j_iload_n C dX0_hoursThatAre_4 0 rfl ?_
      refine j_bipush (v := 100) C dX0_hoursThatAre_5 (by decide) ?_
      refine j_icmp_ge (tgt := 29) C dX0_hoursThatAre_7 (by decide) (fun h => absurd h (nI_ge (b := 100) hlt (by decide))) (fun c7 => ?_)
      refine j_aload_n C dX0_hoursThatAre_10 2 rfl ?_
      refine j_get C kin0 rfl 0 rfl 11 (by decide) kw_59 rfl (v := .ref h) rfl dX0_hoursThatAre_11 ?_
      refine j_iload_n C dX0_hoursThatAre_14 0 rfl ?_
      refine j_bald C 1 rfl (vp_in_nI (by omega) (by omega)) (v := (f i).toInt32) (by rw [nI_clamp (by omega)]) dX0_hoursThatAre_15 ?_
      refine j_iload_n C dX0_hoursThatAre_16 3 rfl ?_
      have K23 : WJ p l e (RM 0) s m args below meth c G A 4 0 0 Q ([oD a h v, aB G h f]) [(2, .int (f_X0_hoursThatAre_x2 v f k i)), (3, .int (nI i)), (0, .ref a), (1, .int k)] 23 [] := by
        generalize hw0 : f_X0_hoursThatAre_x2 v f k i = w0
        refine j_iinc (v := nI (i + 1)) C [(3, .int (nI (i + 1))), (2, .int w0), (0, .ref a), (1, .int k)] dX0_hoursThatAre_23 (k := 1) rfl (nI_1 i) (by decide) rfl ?_
        refine j_goto (tgt := 4) C dX0_hoursThatAre_26 (by decide) ?_
        subst hw0; exact j_eq rfl (by rw [show cntH f k (i + 1) = (f_X0_hoursThatAre_x2 v f k i) from rfl]) rfl (ih (i + 1) (by omega))
      refine j_icmp_ne (tgt := 23) C dX0_hoursThatAre_17 (by decide) (fun c17 => ?_) (fun c17 => ?_)
      · refine j_lv [1, 0, 2, 3] [(2, .int (cntH f k i)), (3, .int (nI i)), (0, .ref a), (1, .int k)] rfl ?_
        exact j_eq rfl (by rw [show f_X0_hoursThatAre_x2 v f k i = cntH f k i from (if_neg c17)]) rfl K23
      · refine j_iinc (v := (cntH f k i) + 1) C [(2, .int ((cntH f k i) + 1)), (3, .int (nI i)), (0, .ref a), (1, .int k)] dX0_hoursThatAre_20 (k := 1) rfl rfl (by decide) rfl ?_
        exact j_eq rfl (by rw [show f_X0_hoursThatAre_x2 v f k i = (cntH f k i) + 1 from (if_pos c17)]) rfl K23
  exact j_eq rfl (by rw [show nI 0 = 0 from rfl, show cntH f k 0 = 0 from rfl]) rfl (L1 100 0 (by omega))
noncomputable def f_X0_soldHours_r (v : DO) (f : Nat → Int8) : Int32 := 100 - (f_X0_hoursThatAre_r v f 0)
set_option maxRecDepth 100000 in
set_option maxHeartbeats 4000000 in
theorem m_X0_soldHours (l : Launch) (G : GG) (a h : Nat) (v : DO) (f : Nat → Int8)  : CtI l yX0_soldHours cX0_soldHours 1 (some .int) (RM 1) G [.ref a] ([oD a h v, aB G h f]) (f_X0_soldHours_r v f) ([oD a h v, aB G h f]) := by
  refine ct_I RX0 [(0, .ref a)] rfl (by decide +kernel) (Nat.le_of_ble_eq_true rfl) rfl ?_
  intro p e s m args below meth c A C hr hk hnm
  generalize hQ : (MQ below (PostI G A (f_X0_soldHours_r v f) ([oD a h v, aB G h f])) args s (RM 1).cells (RM 1).slots A) = Q
  refine j_bipush (v := 100) C dX0_soldHours_0 (by decide) ?_
  refine j_aload_n C dX0_soldHours_2 0 rfl ?_
  refine j_iconst (v := 0) C dX0_soldHours_3 (by decide) ?_
  refine j_callV_i (r := f_X0_hoursThatAre_r v f 0) (wc' := [oD a h v, aB G h f]) C (m_X0_hoursThatAre l G a h v f 0) rfl 0 rfl 1 (gV kw_248 kw_249 kw_250 kw_4 kw_251) (by decide +kernel) ⟨(Nat.le_of_ble_eq_true rfl), (Nat.le_of_ble_eq_true rfl)⟩ rfl rfl (Nat.le_of_ble_eq_true rfl) dX0_soldHours_4 ⟨(Nat.le_of_ble_eq_true rfl), (Nat.le_of_ble_eq_true rfl)⟩ [] [oD a h v, aB G h f] (perm_idx [0, 1] 2 rfl (by decide +kernel) rfl) rfl ?_
  refine j_isub C dX0_soldHours_7 rfl ?_
  subst hQ; exact j_iret C hr hk ((show f_X0_soldHours_r v f = 100 - (f_X0_hoursThatAre_r v f 0) from rfl).symm) rfl dX0_soldHours_8
def rowA (f : Nat → Int8) : Nat → Int32
  | 0 => 0
  | i + 1 => if (f (99 - i)).toInt32 = 2 then rowA f i + 1 else rowA f i
/-- the kept hours from the latest one back up to the first one that is spoiled -/
def rowX (f : Nat → Int8) : Nat → Nat → Int32
  | 0, i => rowA f i
  | n + 1, i => if (f (99 - i)).toInt32 = 3 then rowA f i else rowX f n (i + 1)
noncomputable def f_X0_keptInARow_x2 (v : DO) (f : Nat → Int8) (i : Nat) : Int32 := (if (f (99 - i)).toInt32 = 2 then (rowA f i) + 1 else rowA f i)
set_option maxRecDepth 100000 in
set_option maxHeartbeats 4000000 in
theorem m_X0_keptInARow (l : Launch) (G : GG) (a h : Nat) (v : DO) (f : Nat → Int8)  : CtI l yX0_keptInARow cX0_keptInARow 3 (some .int) (RM 0) G [.ref a] ([oD a h v, aB G h f]) (rowX f 100 0) ([oD a h v, aB G h f]) := by
  refine ct_I RX0 [(0, .ref a)] rfl (by decide +kernel) (Nat.le_of_ble_eq_true rfl) rfl ?_
  intro p e s m args below meth c A C hr hk hnm
  generalize hQ : (MQ below (PostI G A (rowX f 100 0) ([oD a h v, aB G h f])) args s (RM 0).cells (RM 0).slots A) = Q
  refine j_iconst (v := 0) C dX0_keptInARow_0 (by decide) ?_
  refine j_istore_n C [(1, .int 0), (0, .ref a)] dX0_keptInARow_1 (by decide) rfl ?_
  refine j_bipush (v := 99) C dX0_keptInARow_2 (by decide) ?_
  refine j_istore_n C [(2, .int 99), (1, .int 0), (0, .ref a)] dX0_keptInARow_4 (by decide) rfl ?_
  have L1 : ∀ (n i : Nat), i + n = 100 → rowX f n i = rowX f 100 0 → WJ p l e (RM 0) s m args below meth c G A 3 0 0 Q ([oD a h v, aB G h f]) [(2, .int (nI (100 - i) + (-1))), (1, .int (rowA f i)), (0, .ref a)] 5 [] := by
    intro n
    induction n with
    | zero =>
      intro i hIN hx
      have hN : i = 100 := by omega
      subst hN
      refine j_eq rfl (by rw [show nI (100 - 100) + (-1) = (-1) from (by decide)]) rfl ?_
      refine j_iload_n C dX0_keptInARow_5 0 rfl ?_
      refine j_if_lt (tgt := 38) C dX0_keptInARow_6 (by decide) (fun _ => ?_) (fun h => absurd h (by decide))
      refine j_iload_n C dX0_keptInARow_38 1 rfl ?_
      subst hQ; exact j_iret C hr hk (show rowA f 100 = (rowX f 100 0) from hx) rfl dX0_keptInARow_39
    | succ n ih =>
      intro i hIN hx
      have hlt : i < 100 := by omega
      refine j_eq rfl (by rw [show nI (100 - i) + (-1) = nI (99 - i) from (by rw [show 100 - i = (99 - i) + 1 by omega, pk_m1])]) rfl ?_
      refine j_iload_n C dX0_keptInARow_5 0 rfl ?_
      refine j_if_lt (tgt := 38) C dX0_keptInARow_6 (by decide) (fun h => absurd h (nI_pos (by omega))) (fun c6 => ?_)
      refine j_aload_n C dX0_keptInARow_9 2 rfl ?_
      refine j_get C kin0 rfl 0 rfl 11 (by decide) kw_59 rfl (v := .ref h) rfl dX0_keptInARow_10 ?_
      refine j_iload_n C dX0_keptInARow_13 0 rfl ?_
      refine j_bald C 1 rfl (vp_in_nI (by omega) (by omega)) (v := (f (99 - i)).toInt32) (by rw [nI_clamp (by omega)]) dX0_keptInARow_14 ?_
      refine j_iconst (v := 3) C dX0_keptInARow_15 (by decide) ?_
      refine j_icmp_eq (tgt := 38) C dX0_keptInARow_16 (by decide) (fun c16 => ?_) (fun c16 => ?_)
      · refine j_iload_n C dX0_keptInARow_38 1 rfl ?_
        subst hQ; exact j_iret C hr hk (show rowA f i = (rowX f 100 0) from (by rw [rowX, if_pos c16] at hx; exact hx)) rfl dX0_keptInARow_39
      · refine j_aload_n C dX0_keptInARow_19 2 rfl ?_
        refine j_get C kin0 rfl 0 rfl 11 (by decide) kw_59 rfl (v := .ref h) rfl dX0_keptInARow_20 ?_
        refine j_iload_n C dX0_keptInARow_23 0 rfl ?_
        refine j_bald C 1 rfl (vp_in_nI (by omega) (by omega)) (v := (f (99 - i)).toInt32) (by rw [nI_clamp (by omega)]) dX0_keptInARow_24 ?_
        refine j_iconst (v := 2) C dX0_keptInARow_25 (by decide) ?_
        have K32 : WJ p l e (RM 0) s m args below meth c G A 3 0 0 Q ([oD a h v, aB G h f]) [(1, .int (f_X0_keptInARow_x2 v f i)), (2, .int (nI (99 - i))), (0, .ref a)] 32 [] := by
          generalize hw0 : f_X0_keptInARow_x2 v f i = w0
          refine j_iinc (v := (nI (99 - i)) + (-1)) C [(2, .int ((nI (99 - i)) + (-1))), (1, .int w0), (0, .ref a)] dX0_keptInARow_32 (k := 1) rfl rfl (by decide) rfl ?_
          refine j_goto (tgt := 5) C dX0_keptInARow_35 (by decide) ?_
          subst hw0; exact j_eq rfl (by rw [show nI (100 - (i + 1)) + (-1) = (nI (99 - i)) + (-1) from (by rw [show 100 - (i + 1) = 99 - i by omega]), show rowA f (i + 1) = (f_X0_keptInARow_x2 v f i) from rfl]) rfl (ih (i + 1) (by omega) (by rw [rowX, if_neg c16] at hx; exact hx))
        refine j_icmp_ne (tgt := 32) C dX0_keptInARow_26 (by decide) (fun c26 => ?_) (fun c26 => ?_)
        · refine j_lv [1, 0, 2] [(1, .int (rowA f i)), (2, .int (nI (99 - i))), (0, .ref a)] rfl ?_
          exact j_eq rfl (by rw [show f_X0_keptInARow_x2 v f i = rowA f i from (if_neg c26)]) rfl K32
        · refine j_iinc (v := (rowA f i) + 1) C [(1, .int ((rowA f i) + 1)), (2, .int (nI (99 - i))), (0, .ref a)] dX0_keptInARow_29 (k := 1) rfl rfl (by decide) rfl ?_
          exact j_eq rfl (by rw [show f_X0_keptInARow_x2 v f i = (rowA f i) + 1 from (if_pos c26)]) rfl K32
  exact j_eq rfl (by rw [show nI (100 - 0) + (-1) = 99 from (by decide), show rowA f 0 = 0 from rfl]) rfl (L1 100 0 (by omega) rfl)
