/-! THE MODEL: looks at drives -/
noncomputable def f_X5_wipe_v (v : Nat → Int32) : (Nat → Int32) := upd v 7 0
noncomputable def f_X5_wipe_r (v : Nat → Int32) : Int32 := v 7
set_option maxRecDepth 100000 in
set_option maxHeartbeats 4000000 in
theorem m_X5_wipe (l : Launch) (G : GG) (a nw th ps sl hd pd od : Nat) (v : Nat → Int32)  : CtI l yX5_wipe cX5_wipe 2 (some .int) (RM 0) G [.ref a] ([oM a nw th ps sl hd pd od v]) (f_X5_wipe_r v) ([oM a nw th ps sl hd pd od (f_X5_wipe_v v)]) := by
  refine ct_I RX5 [(0, .ref a)] rfl (by decide +kernel) (Nat.le_of_ble_eq_true rfl) rfl ?_
  intro p e s m args below meth c A C hr hk hnm
  generalize hQ : (MQ below (PostI G A (f_X5_wipe_r v) ([oM a nw th ps sl hd pd od (f_X5_wipe_v v)])) args s (RM 0).cells (RM 0).slots A) = Q
  refine j_aload_n C dX5_wipe_0 0 rfl ?_
  refine j_get C kin5 rfl 0 rfl 7 (by decide) kw_496 rfl (v := .int (v 7)) rfl dX5_wipe_1 ?_
  refine j_istore_n C [(1, .int (v 7)), (0, .ref a)] dX5_wipe_4 (by decide) rfl ?_
  refine j_aload_n C dX5_wipe_5 1 rfl ?_
  refine j_iconst (v := 0) C dX5_wipe_6 (by decide) ?_
  refine j_put C kin5 rfl 0 rfl 7 (by decide) kw_496 rfl tyX5 tyX5_ok nmX5 rfl rfl rfl (Nat.le_of_ble_eq_true rfl) ([oM a nw th ps sl hd pd od (upd v 7 0)]) rfl dX5_wipe_7 ?_
  refine j_iload_n C dX5_wipe_10 0 rfl ?_
  subst hQ; exact j_iret C hr hk ((show f_X5_wipe_r v = v 7 from rfl).symm) (by rw [show f_X5_wipe_v v = upd v 7 0 from rfl]) dX5_wipe_11
noncomputable def f_X5_tries_g (v : Nat → Int32) (f : Nat → Int64) (g : Nat → Int64) : (Nat → Int64) := lay f 0 g 0 456
set_option maxRecDepth 100000 in
set_option maxHeartbeats 4000000 in
theorem m_X5_tries (l : Launch) (G : GG) (a nw th ps sl hd pd od : Nat) (v : Nat → Int32) (f : Nat → Int64) (g : Nat → Int64)  : CtV l yX5_tries cX5_tries 1 (none : Option Jvm.ClassFile.FieldType) (RM 1) G [.ref a] ([oM a nw th ps sl hd pd od v, aJ G nw 456 f, aJ G th 456 g]) ([oM a nw th ps sl hd pd od v, aJ G nw 456 f, aJ G th 456 (f_X5_tries_g v f g)]) := by
  refine ct_V RX5 [(0, .ref a)] rfl (by decide +kernel) (Nat.le_of_ble_eq_true rfl) rfl ?_
  intro p e s m args below meth c A C hr hk hnm
  generalize hQ : (MQ below (PostV G A ([oM a nw th ps sl hd pd od v, aJ G nw 456 f, aJ G th 456 (f_X5_tries_g v f g)])) args s (RM 1).cells (RM 1).slots A) = Q
  refine j_aload_n C dX5_tries_0 0 rfl ?_
  refine j_get C kin5 rfl 0 rfl 0 (by decide) kw_489 rfl (v := .ref nw) rfl dX5_tries_1 ?_
  refine j_iconst (v := 0) C dX5_tries_4 (by decide) ?_
  refine j_aload_n C dX5_tries_5 0 rfl ?_
  refine j_get C kin5 rfl 0 rfl 1 (by decide) kw_490 rfl (v := .ref th) rfl dX5_tries_6 ?_
  refine j_iconst (v := 0) C dX5_tries_9 (by decide) ?_
  refine j_callS_v (wc' := [aJ G nw 456 f, aJ G th 456 (lay f 0 g 0 456)]) C (m_X5_lays l G nw th 456 456 f 0 g 0 (fun _ hi => vin_add (c := 0) rfl (by omega) (by decide) (by omega)) (fun _ hi => vin_add (c := 0) rfl (by omega) (by decide) (by omega))) 4 (gS kw_516 kw_517 kw_7 kw_518) (by decide +kernel) ⟨(Nat.le_of_ble_eq_true rfl), (Nat.le_of_ble_eq_true rfl)⟩ rfl rfl (Nat.le_of_ble_eq_true rfl) dX5_tries_10 ⟨(Nat.le_of_ble_eq_true rfl), (Nat.le_of_ble_eq_true rfl)⟩ [oM a nw th ps sl hd pd od v] [aJ G nw 456 f, aJ G th 456 (lay f 0 g 0 456), oM a nw th ps sl hd pd od v] (perm_idx [1, 2, 0] 3 rfl (by decide +kernel) rfl) rfl ?_
  refine j_perm ([oM a nw th ps sl hd pd od v, aJ G nw 456 f, aJ G th 456 (lay f 0 g 0 456)]) (perm_idx [2, 0, 1] 3 rfl (by decide +kernel) rfl) ?_
  subst hQ; exact j_vret C hr hk (by rw [show f_X5_tries_g v f g = lay f 0 g 0 456 from rfl]) dX5_tries_13
/-- the hours of a kind, of the first i -/
noncomputable def hrsA (f : Nat → Int64) (k y : Int32) : Nat → Int32
  | 0 => 0
  | i + 1 => hrsA f k y i + (if y = 0 then (if 0 < f_X5_hourOf_r f k (nI i).toInt64 then 1 else (if y ≤ 0 then 0 else (if f_X5_hourOf_r f k (nI i).toInt64 = y then 1 else 0))) else (if y ≤ 0 then 0 else (if f_X5_hourOf_r f k (nI i).toInt64 = y then 1 else 0)))
noncomputable def f_X5_hoursOf_x3 (v : Nat → Int32) (f : Nat → Int64) (k : Int32) (y : Int32) (i : Nat) : Int32 := (if y = 0 then (if 0 < f_X5_hourOf_r f k ((nI i).toInt64) then 1 else (if y ≤ 0 then 0 else (if f_X5_hourOf_r f k ((nI i).toInt64) = y then 1 else 0))) else (if y ≤ 0 then 0 else (if f_X5_hourOf_r f k ((nI i).toInt64) = y then 1 else 0)))
set_option maxRecDepth 100000 in
set_option maxHeartbeats 4000000 in
theorem m_X5_hoursOf (l : Launch) (G : GG) (a nw th ps sl hd pd od : Nat) (v : Nat → Int32) (f : Nat → Int64) (k : Int32) (y : Int32) (h4 : vp_in k 4) : CtI l yX5_hoursOf cX5_hoursOf 6 (some .int) (RM 2) G [.ref a, .int k, .int y] ([oM a nw th ps sl hd pd od v, aJ G nw 456 f]) (hrsA f k y 100) ([oM a nw th ps sl hd pd od v, aJ G nw 456 f]) := by
  refine ct_I RX5 [(0, .ref a), (1, .int k), (2, .int y)] rfl (by decide +kernel) (Nat.le_of_ble_eq_true rfl) rfl ?_
  intro p e s m args below meth c A C hr hk hnm
  generalize hQ : (MQ below (PostI G A (hrsA f k y 100) ([oM a nw th ps sl hd pd od v, aJ G nw 456 f])) args s (RM 2).cells (RM 2).slots A) = Q
  refine j_iconst (v := 0) C dX5_hoursOf_0 (by decide) ?_
  refine j_istore_n C [(3, .int 0), (0, .ref a), (1, .int k), (2, .int y)] dX5_hoursOf_1 (by decide) rfl ?_
  refine j_iconst (v := 0) C dX5_hoursOf_2 (by decide) ?_
  refine j_istore C [(4, .int 0), (3, .int 0), (0, .ref a), (1, .int k), (2, .int y)] dX5_hoursOf_3 (by decide) rfl ?_
  have L1 : ∀ (n i : Nat), i + n = 100 → WJ p l e (RM 2) s m args below meth c G A 6 0 0 Q ([oM a nw th ps sl hd pd od v, aJ G nw 456 f]) [(4, .int (nI i)), (3, .int (hrsA f k y i)), (0, .ref a), (1, .int k), (2, .int y)] 5 [] := by
    intro n
    induction n with
    | zero =>
      intro i hIN
      have hN : i = 100 := by omega
      subst hN
      refine j_iload C dX5_hoursOf_5 0 rfl ?_
      refine j_bipush (v := 100) C dX5_hoursOf_7 (by decide) ?_
      refine j_icmp_ge (tgt := 58) C dX5_hoursOf_9 (by decide) (fun c9 => ?_) (fun h => absurd (by decide) h)
      refine j_iload_n C dX5_hoursOf_58 1 rfl ?_
      subst hQ; exact j_iret C hr hk rfl rfl dX5_hoursOf_59
    | succ n ih =>
      intro i hIN
      have hlt : i < 100 := by omega
      refine j_iload C dX5_hoursOf_5 0 rfl ?_
      refine j_bipush (v := 100) C dX5_hoursOf_7 (by decide) ?_
      refine j_icmp_ge (tgt := 58) C dX5_hoursOf_9 (by decide) (fun h => absurd h (nI_ge (b := 100) hlt (by decide))) (fun c9 => ?_)
      refine j_aload_n C dX5_hoursOf_12 2 rfl ?_
      refine j_get C kin5 rfl 0 rfl 0 (by decide) kw_489 rfl (v := .ref nw) rfl dX5_hoursOf_13 ?_
      refine j_iload_n C dX5_hoursOf_16 3 rfl ?_
      refine j_iload C dX5_hoursOf_17 0 rfl ?_
      refine j_i2l C dX5_hoursOf_19 rfl ?_
      refine j_callS_i (r := f_X5_hourOf_r f k ((nI i).toInt64)) (wc' := [aJ G nw 456 f]) C (m_X5_hourOf l G nw f k ((nI i).toInt64) h4) 3 (gS kw_580 kw_581 kw_7 kw_582) (by decide +kernel) ⟨(Nat.le_of_ble_eq_true rfl), (Nat.le_of_ble_eq_true rfl)⟩ rfl rfl (Nat.le_of_ble_eq_true rfl) dX5_hoursOf_20 ⟨(Nat.le_of_ble_eq_true rfl), (Nat.le_of_ble_eq_true rfl)⟩ [oM a nw th ps sl hd pd od v] [aJ G nw 456 f, oM a nw th ps sl hd pd od v] (perm_idx [1, 0] 2 rfl (by decide +kernel) rfl) rfl ?_
      refine j_istore C [(5, .int (f_X5_hourOf_r f k ((nI i).toInt64))), (4, .int (nI i)), (3, .int (hrsA f k y i)), (0, .ref a), (1, .int k), (2, .int y)] dX5_hoursOf_23 (by decide) rfl ?_
      refine j_iload_n C dX5_hoursOf_25 2 rfl ?_
      refine j_iload_n C dX5_hoursOf_26 5 rfl ?_
      have K50 : WJ p l e (RM 2) s m args below meth c G A 6 0 0 Q ([aJ G nw 456 f, oM a nw th ps sl hd pd od v]) [(5, .int (f_X5_hourOf_r f k ((nI i).toInt64))), (4, .int (nI i)), (3, .int (hrsA f k y i)), (0, .ref a), (1, .int k), (2, .int y)] 50 [.int (f_X5_hoursOf_x3 v f k y i), .int (hrsA f k y i)] := by
        generalize hw0 : f_X5_hoursOf_x3 v f k y i = w0
        refine j_iadd C dX5_hoursOf_50 rfl ?_
        refine j_istore_n C [(3, .int ((hrsA f k y i) + w0)), (5, .int (f_X5_hourOf_r f k ((nI i).toInt64))), (4, .int (nI i)), (0, .ref a), (1, .int k), (2, .int y)] dX5_hoursOf_51 (by decide) rfl ?_
        refine j_iinc (v := nI (i + 1)) C [(4, .int (nI (i + 1))), (3, .int ((hrsA f k y i) + w0)), (5, .int (f_X5_hourOf_r f k ((nI i).toInt64))), (0, .ref a), (1, .int k), (2, .int y)] dX5_hoursOf_52 (k := 2) rfl (nI_1 i) (by decide) rfl ?_
        refine j_goto (tgt := 5) C dX5_hoursOf_55 (by decide) ?_
        refine j_perm ([oM a nw th ps sl hd pd od v, aJ G nw 456 f]) (perm_idx [1, 0] 2 rfl (by decide +kernel) rfl) ?_
        refine j_lv [0, 1, 3, 4, 5] [(4, .int (nI (i + 1))), (3, .int ((hrsA f k y i) + w0)), (0, .ref a), (1, .int k), (2, .int y)] rfl ?_
        subst hw0; exact j_eq rfl (by rw [show hrsA f k y (i + 1) = (hrsA f k y i) + (f_X5_hoursOf_x3 v f k y i) from rfl]) rfl (ih (i + 1) (by omega))
      refine j_if_ne (tgt := 35) C dX5_hoursOf_27 (by decide) (fun c27 => ?_) (fun c27 => ?_)
      · refine j_iload_n C dX5_hoursOf_35 5 rfl ?_
        refine j_if_le (tgt := 49) C dX5_hoursOf_36 (by decide) (fun c36 => ?_) (fun c36 => ?_)
        · refine j_iconst (v := 0) C dX5_hoursOf_49 (by decide) ?_
          exact j_eq rfl rfl (by rw [show f_X5_hoursOf_x3 v f k y i = 0 from ((if_neg c27).trans (if_pos c36))]) K50
        · refine j_iload C dX5_hoursOf_39 0 rfl ?_
          refine j_iload_n C dX5_hoursOf_41 5 rfl ?_
          refine j_icmp_ne (tgt := 49) C dX5_hoursOf_42 (by decide) (fun c42 => ?_) (fun c42 => ?_)
          · refine j_iconst (v := 0) C dX5_hoursOf_49 (by decide) ?_
            exact j_eq rfl rfl (by rw [show f_X5_hoursOf_x3 v f k y i = 0 from ((if_neg c27).trans ((if_neg c36).trans (if_neg c42)))]) K50
          · refine j_iconst (v := 1) C dX5_hoursOf_45 (by decide) ?_
            refine j_goto (tgt := 50) C dX5_hoursOf_46 (by decide) ?_
            exact j_eq rfl rfl (by rw [show f_X5_hoursOf_x3 v f k y i = 1 from ((if_neg c27).trans ((if_neg c36).trans (if_pos c42)))]) K50
      · refine j_iload C dX5_hoursOf_30 0 rfl ?_
        refine j_if_gt (tgt := 45) C dX5_hoursOf_32 (by decide) (fun c32 => ?_) (fun c32 => ?_)
        · refine j_iconst (v := 1) C dX5_hoursOf_45 (by decide) ?_
          refine j_goto (tgt := 50) C dX5_hoursOf_46 (by decide) ?_
          exact j_eq rfl rfl (by rw [show f_X5_hoursOf_x3 v f k y i = 1 from ((if_pos c27).trans (if_pos c32))]) K50
        · refine j_iload_n C dX5_hoursOf_35 5 rfl ?_
          refine j_if_le (tgt := 49) C dX5_hoursOf_36 (by decide) (fun c36 => ?_) (fun c36 => ?_)
          · refine j_iconst (v := 0) C dX5_hoursOf_49 (by decide) ?_
            exact j_eq rfl rfl (by rw [show f_X5_hoursOf_x3 v f k y i = 0 from ((if_pos c27).trans ((if_neg c32).trans (if_pos c36)))]) K50
          · refine j_iload C dX5_hoursOf_39 0 rfl ?_
            refine j_iload_n C dX5_hoursOf_41 5 rfl ?_
            refine j_icmp_ne (tgt := 49) C dX5_hoursOf_42 (by decide) (fun c42 => ?_) (fun c42 => ?_)
            · refine j_iconst (v := 0) C dX5_hoursOf_49 (by decide) ?_
              exact j_eq rfl rfl (by rw [show f_X5_hoursOf_x3 v f k y i = 0 from ((if_pos c27).trans ((if_neg c32).trans ((if_neg c36).trans (if_neg c42))))]) K50
            · refine j_iconst (v := 1) C dX5_hoursOf_45 (by decide) ?_
              refine j_goto (tgt := 50) C dX5_hoursOf_46 (by decide) ?_
              exact j_eq rfl rfl (by rw [show f_X5_hoursOf_x3 v f k y i = 1 from ((if_pos c27).trans ((if_neg c32).trans ((if_neg c36).trans (if_pos c42))))]) K50
  exact j_eq rfl (by rw [show nI 0 = 0 from rfl, show hrsA f k y 0 = 0 from rfl]) rfl (L1 100 0 (by omega))
theorem in15 {k : Int32} (h : ¬ f_X5_in_r k.toInt64 0 13 = 0) : ∃ j, k = nI j ∧ j < 14 := by
  unfold f_X5_in_r f_X5_in_x1 at h
  by_cases c3 : lg_cmp k.toInt64 0 < 0
  · rw [if_pos c3] at h
    exact absurd rfl h
  · rw [if_neg c3] at h
    by_cases c11 : 0 < lg_cmp k.toInt64 13
    · rw [if_pos c11] at h
      exact absurd rfl h
    · have h0 := mt (lg_cmp_lt k.toInt64 0).mpr c3
      have h1 := Int64.not_lt.mp (mt (lg_cmp_gt k.toInt64 13).mpr c11)
      have h0 : (0 : Int) ≤ k.toInt64.toInt := by simpa using Int64.le_iff_toInt_le.mp (Int64.not_lt.mp h0)
      have h1 : k.toInt64.toInt ≤ 13 := by simpa using Int64.le_iff_toInt_le.mp h1
      rw [Int32.toInt_toInt64] at h0 h1
      obtain ⟨j, hj, rfl⟩ := vp_in_of (x := k) (n := 14) (vp_in_iff.mpr ⟨h0, by omega⟩) (by decide)
      exact ⟨j, rfl, hj⟩
theorem rowe {k : Int32} (hd : vp_in k 4) : f_X5_row_r k = nI 12 ∨ f_X5_row_r k = nI 23 ∨ f_X5_row_r k = nI 34 ∨ f_X5_row_r k = nI 45 := by
  obtain ⟨j, hj, -, e⟩ := row_n hd
  rcases (show j = 0 ∨ j = 1 ∨ j = 2 ∨ j = 3 by omega) with rfl | rfl | rfl | rfl
  · exact .inl e
  · exact .inr (.inl e)
  · exact .inr (.inr (.inl e))
  · exact .inr (.inr (.inr e))
theorem od41 {k y : Int32} (hd : vp_in k 4) (h : ¬ f_X5_in_r y.toInt64 0 13 = 0) : vp_in (f_X5_row_r k + y) 456 := by
  obtain ⟨j, rfl, hj⟩ := in15 h
  rcases rowe hd with e | e | e | e <;> rw [e, nI_add] <;> exact vp_in_nI (by omega) (by decide)
theorem od83 {k y : Int32} (hd : vp_in k 4) (h : ¬ f_X5_in_r y.toInt64 0 13 = 0) : vp_in (f_X5_row_r k + y - 1) 456 := by
  obtain ⟨j, rfl, hj⟩ := in15 h
  rcases rowe hd with e | e | e | e <;> rw [e, nI_add]
  · rw [show nI (12 + j) = nI ((11 + j) + 1) by rw [show 12 + j = 11 + j + 1 by omega], nI_pred]; exact vp_in_nI (by omega) (by decide)
  · rw [show nI (23 + j) = nI ((22 + j) + 1) by rw [show 23 + j = 22 + j + 1 by omega], nI_pred]; exact vp_in_nI (by omega) (by decide)
  · rw [show nI (34 + j) = nI ((33 + j) + 1) by rw [show 34 + j = 33 + j + 1 by omega], nI_pred]; exact vp_in_nI (by omega) (by decide)
  · rw [show nI (45 + j) = nI ((44 + j) + 1) by rw [show 45 + j = 44 + j + 1 by omega], nI_pred]; exact vp_in_nI (by omega) (by decide)
theorem od127 {k y : Int32} (hd : vp_in k 4) (h : ¬ f_X5_in_r y.toInt64 0 13 = 0) (h2 : 12 ≤ y) : vp_in (f_X5_row_r k + 8 + y - 12) 456 := by
  obtain ⟨j, rfl, hj⟩ := in15 h
  obtain ⟨i, e, ha, hb⟩ := i_bnd (x := 12) (y := 14) (by decide) (by decide) h2 (nI_ge hj (by decide))
  rcases (show i = 12 ∨ i = 13 by omega) with rfl | rfl <;> rw [e] <;> rcases rowe hd with e' | e' | e' | e' <;> rw [e'] <;> exact vin_lit (by decide)
noncomputable def f_X5_ofDrive_x4 (v : Nat → Int32) (f : Nat → Int64) (k : Int32) (y : Int32) : Int32 := (if y = 9 then 0 else y - 8)
noncomputable def f_X5_ofDrive_x6 (v : Nat → Int32) (f : Nat → Int64) (k : Int32) (y : Int32) : Int32 := (if 12 ≤ y then (f ((((f_X5_row_r k) + 8) + y) - 12).toNatClampNeg).toInt32 else hrsA f k (f_X5_ofDrive_x4 v f k y) 100)
noncomputable def f_X5_ofDrive_x8 (v : Nat → Int32) (f : Nat → Int64) (k : Int32) (y : Int32) : Int32 := (if y = 4 then (if f_X5_isQuiet_r f k = 0 then 0 else 1) else (f (((f_X5_row_r k) + y) - 1).toNatClampNeg).toInt32)
noncomputable def f_X5_ofDrive_r (v : Nat → Int32) (f : Nat → Int64) (k : Int32) (y : Int32) : Int32 := (if f_X5_isDrive_r k = 0 then (-1) else (if f_X5_in_r y.toInt64 0 13 = 0 then (-2) else (if 4 ≤ y then (if 9 ≤ y then (f_X5_ofDrive_x6 v f k y) else (f_X5_ofDrive_x8 v f k y)) else (f ((f_X5_row_r k) + y).toNatClampNeg).toInt32)))
set_option maxRecDepth 100000 in
set_option maxHeartbeats 4000000 in
theorem m_X5_ofDrive (l : Launch) (G : GG) (a nw th ps sl hd pd od : Nat) (v : Nat → Int32) (f : Nat → Int64) (k : Int32) (y : Int32)  : CtI l yX5_ofDrive cX5_ofDrive 4 (some .int) (RM 3) G [.ref a, .int k, .int y] ([oM a nw th ps sl hd pd od v, aJ G nw 456 f]) (f_X5_ofDrive_r v f k y) ([oM a nw th ps sl hd pd od v, aJ G nw 456 f]) := by
  refine ct_I RX5 [(0, .ref a), (1, .int k), (2, .int y)] rfl (by decide +kernel) (Nat.le_of_ble_eq_true rfl) rfl ?_
  intro p e s m args below meth c A C hr hk hnm
  generalize hQ : (MQ below (PostI G A (f_X5_ofDrive_r v f k y) ([oM a nw th ps sl hd pd od v, aJ G nw 456 f])) args s (RM 3).cells (RM 3).slots A) = Q
  refine j_iload_n C dX5_ofDrive_0 1 rfl ?_
  refine j_pureS_i (r := f_X5_isDrive_r k) C (m_X5_isDrive l G k) 1 (gS kw_551 kw_552 kw_7 kw_553) (by decide +kernel) ⟨(Nat.le_of_ble_eq_true rfl), (Nat.le_of_ble_eq_true rfl)⟩ rfl rfl (Nat.le_of_ble_eq_true rfl) dX5_ofDrive_1 ⟨(Nat.le_of_ble_eq_true rfl), (Nat.le_of_ble_eq_true rfl)⟩ ?_
  refine j_if_ne (tgt := 9) C dX5_ofDrive_4 (by decide) (fun c4 => ?_) (fun c4 => ?_)
  · refine j_iload_n C dX5_ofDrive_9 2 rfl ?_
    refine j_i2l C dX5_ofDrive_10 rfl ?_
    refine j_lconst (v := 0) C dX5_ofDrive_11 (by decide) ?_
    refine j_ldc2 (v := 13) C kw_630 dX5_ofDrive_12 ?_
    refine j_pureS_i (r := f_X5_in_r y.toInt64 0 13) C (m_X5_in l G y.toInt64 0 13) 3 (gS kw_523 kw_524 kw_7 kw_525) (by decide +kernel) ⟨(Nat.le_of_ble_eq_true rfl), (Nat.le_of_ble_eq_true rfl)⟩ rfl rfl (Nat.le_of_ble_eq_true rfl) dX5_ofDrive_15 ⟨(Nat.le_of_ble_eq_true rfl), (Nat.le_of_ble_eq_true rfl)⟩ ?_
    refine j_if_ne (tgt := 24) C dX5_ofDrive_18 (by decide) (fun c18 => ?_) (fun c18 => ?_)
    · refine j_iload_n C dX5_ofDrive_24 1 rfl ?_
      refine j_pureS_i (r := f_X5_row_r k) C (m_X5_row l G k) 1 (gS kw_486 kw_487 kw_7 kw_488) (by decide +kernel) ⟨(Nat.le_of_ble_eq_true rfl), (Nat.le_of_ble_eq_true rfl)⟩ rfl rfl (Nat.le_of_ble_eq_true rfl) dX5_ofDrive_25 ⟨(Nat.le_of_ble_eq_true rfl), (Nat.le_of_ble_eq_true rfl)⟩ ?_
      refine j_istore_n C [(3, .int (f_X5_row_r k)), (0, .ref a), (1, .int k), (2, .int y)] dX5_ofDrive_28 (by decide) rfl ?_
      refine j_iload_n C dX5_ofDrive_29 3 rfl ?_
      refine j_iconst (v := 4) C dX5_ofDrive_30 (by decide) ?_
      refine j_icmp_ge (tgt := 44) C dX5_ofDrive_31 (by decide) (fun c31 => ?_) (fun c31 => ?_)
      · refine j_iload_n C dX5_ofDrive_44 3 rfl ?_
        refine j_bipush (v := 9) C dX5_ofDrive_45 (by decide) ?_
        refine j_icmp_ge (tgt := 86) C dX5_ofDrive_47 (by decide) (fun c47 => ?_) (fun c47 => ?_)
        · refine j_iload_n C dX5_ofDrive_86 3 rfl ?_
          refine j_bipush (v := 12) C dX5_ofDrive_87 (by decide) ?_
          have K129 : WJ p l e (RM 3) s m args below meth c G A 4 0 0 Q ([oM a nw th ps sl hd pd od v, aJ G nw 456 f]) [(3, .int (f_X5_row_r k)), (0, .ref a), (1, .int k), (2, .int y)] 129 [.int (f_X5_ofDrive_x6 v f k y)] := by
            generalize hw1 : f_X5_ofDrive_x6 v f k y = w1
            subst hQ; subst hw1; exact j_iret C hr hk ((show f_X5_ofDrive_r v f k y = (f_X5_ofDrive_x6 v f k y) from ((if_neg c4).trans ((if_neg c18).trans ((if_pos c31).trans (if_pos c47))))).symm) rfl dX5_ofDrive_129
          refine j_icmp_ge (tgt := 114) C dX5_ofDrive_89 (by decide) (fun c89 => ?_) (fun c89 => ?_)
          · refine j_aload_n C dX5_ofDrive_114 1 rfl ?_
            refine j_get C kin5 rfl 0 rfl 0 (by decide) kw_489 rfl (v := .ref nw) rfl dX5_ofDrive_115 ?_
            refine j_iload_n C dX5_ofDrive_118 0 rfl ?_
            refine j_bipush (v := 8) C dX5_ofDrive_119 (by decide) ?_
            refine j_iadd C dX5_ofDrive_121 rfl ?_
            refine j_iload_n C dX5_ofDrive_122 3 rfl ?_
            refine j_iadd C dX5_ofDrive_123 rfl ?_
            refine j_bipush (v := 12) C dX5_ofDrive_124 (by decide) ?_
            refine j_isub C dX5_ofDrive_126 rfl ?_
            refine j_lald C 1 rfl (od127 (drv5 c4) c18 c89) (v := f ((((f_X5_row_r k) + 8) + y) - 12).toNatClampNeg) rfl dX5_ofDrive_127 ?_
            refine j_l2i C dX5_ofDrive_128 rfl ?_
            exact j_eq rfl rfl (by rw [show f_X5_ofDrive_x6 v f k y = (f ((((f_X5_row_r k) + 8) + y) - 12).toNatClampNeg).toInt32 from (if_pos c89)]) K129
          · refine j_aload_n C dX5_ofDrive_92 1 rfl ?_
            refine j_iload_n C dX5_ofDrive_93 2 rfl ?_
            refine j_iload_n C dX5_ofDrive_94 3 rfl ?_
            refine j_bipush (v := 9) C dX5_ofDrive_95 (by decide) ?_
            have K108 : WJ p l e (RM 3) s m args below meth c G A 4 0 0 Q ([oM a nw th ps sl hd pd od v, aJ G nw 456 f]) [(3, .int (f_X5_row_r k)), (0, .ref a), (1, .int k), (2, .int y)] 108 [.int (f_X5_ofDrive_x4 v f k y), .int k, .ref a] := by
              generalize hw0 : f_X5_ofDrive_x4 v f k y = w0
              refine j_callV_i (r := hrsA f k w0 100) (wc' := [oM a nw th ps sl hd pd od v, aJ G nw 456 f]) C (m_X5_hoursOf l G a nw th ps sl hd pd od v f k w0 (drv5 c4)) rfl 0 rfl 2 (gV kw_587 kw_588 kw_778 kw_7 kw_589) (by decide +kernel) ⟨(Nat.le_of_ble_eq_true rfl), (Nat.le_of_ble_eq_true rfl)⟩ rfl rfl (Nat.le_of_ble_eq_true rfl) dX5_ofDrive_108 ⟨(Nat.le_of_ble_eq_true rfl), (Nat.le_of_ble_eq_true rfl)⟩ [] [oM a nw th ps sl hd pd od v, aJ G nw 456 f] (perm_idx [0, 1] 2 rfl (by decide +kernel) rfl) rfl ?_
              refine j_goto (tgt := 129) C dX5_ofDrive_111 (by decide) ?_
              subst hw0; exact j_eq rfl rfl (by rw [show f_X5_ofDrive_x6 v f k y = hrsA f k (f_X5_ofDrive_x4 v f k y) 100 from (if_neg c89)]) K129
            refine j_icmp_ne (tgt := 104) C dX5_ofDrive_97 (by decide) (fun c97 => ?_) (fun c97 => ?_)
            · refine j_iload_n C dX5_ofDrive_104 3 rfl ?_
              refine j_bipush (v := 8) C dX5_ofDrive_105 (by decide) ?_
              refine j_isub C dX5_ofDrive_107 rfl ?_
              exact j_eq rfl rfl (by rw [show f_X5_ofDrive_x4 v f k y = y - 8 from (if_neg c97)]) K108
            · refine j_iconst (v := 0) C dX5_ofDrive_100 (by decide) ?_
              refine j_goto (tgt := 108) C dX5_ofDrive_101 (by decide) ?_
              exact j_eq rfl rfl (by rw [show f_X5_ofDrive_x4 v f k y = 0 from (if_pos c97)]) K108
        · refine j_iload_n C dX5_ofDrive_50 3 rfl ?_
          refine j_iconst (v := 4) C dX5_ofDrive_51 (by decide) ?_
          have K85 : WJ p l e (RM 3) s m args below meth c G A 4 0 0 Q ([aJ G nw 456 f, oM a nw th ps sl hd pd od v]) [(3, .int (f_X5_row_r k)), (0, .ref a), (1, .int k), (2, .int y)] 85 [.int (f_X5_ofDrive_x8 v f k y)] := by
            generalize hw2 : f_X5_ofDrive_x8 v f k y = w2
            refine j_perm ([oM a nw th ps sl hd pd od v, aJ G nw 456 f]) (perm_idx [1, 0] 2 rfl (by decide +kernel) rfl) ?_
            subst hQ; subst hw2; exact j_iret C hr hk ((show f_X5_ofDrive_r v f k y = (f_X5_ofDrive_x8 v f k y) from ((if_neg c4).trans ((if_neg c18).trans ((if_pos c31).trans (if_neg c47))))).symm) rfl dX5_ofDrive_85
          refine j_icmp_ne (tgt := 74) C dX5_ofDrive_52 (by decide) (fun c52 => ?_) (fun c52 => ?_)
          · refine j_aload_n C dX5_ofDrive_74 1 rfl ?_
            refine j_get C kin5 rfl 0 rfl 0 (by decide) kw_489 rfl (v := .ref nw) rfl dX5_ofDrive_75 ?_
            refine j_iload_n C dX5_ofDrive_78 0 rfl ?_
            refine j_iload_n C dX5_ofDrive_79 3 rfl ?_
            refine j_iadd C dX5_ofDrive_80 rfl ?_
            refine j_iconst (v := 1) C dX5_ofDrive_81 (by decide) ?_
            refine j_isub C dX5_ofDrive_82 rfl ?_
            refine j_lald C 1 rfl (od83 (drv5 c4) c18) (v := f (((f_X5_row_r k) + y) - 1).toNatClampNeg) rfl dX5_ofDrive_83 ?_
            refine j_l2i C dX5_ofDrive_84 rfl ?_
            refine j_perm ([aJ G nw 456 f, oM a nw th ps sl hd pd od v]) (perm_idx [1, 0] 2 rfl (by decide +kernel) rfl) ?_
            exact j_eq rfl rfl (by rw [show f_X5_ofDrive_x8 v f k y = (f (((f_X5_row_r k) + y) - 1).toNatClampNeg).toInt32 from (if_neg c52)]) K85
          · refine j_aload_n C dX5_ofDrive_55 1 rfl ?_
            refine j_get C kin5 rfl 0 rfl 0 (by decide) kw_489 rfl (v := .ref nw) rfl dX5_ofDrive_56 ?_
            refine j_iload_n C dX5_ofDrive_59 2 rfl ?_
            refine j_callS_i (r := f_X5_isQuiet_r f k) (wc' := [aJ G nw 456 f]) C (m_X5_isQuiet l G nw f k (drv5 c4)) 2 (gS kw_611 kw_612 kw_7 kw_613) (by decide +kernel) ⟨(Nat.le_of_ble_eq_true rfl), (Nat.le_of_ble_eq_true rfl)⟩ rfl rfl (Nat.le_of_ble_eq_true rfl) dX5_ofDrive_60 ⟨(Nat.le_of_ble_eq_true rfl), (Nat.le_of_ble_eq_true rfl)⟩ [oM a nw th ps sl hd pd od v] [aJ G nw 456 f, oM a nw th ps sl hd pd od v] (perm_idx [1, 0] 2 rfl (by decide +kernel) rfl) rfl ?_
            refine j_if_eq (tgt := 70) C dX5_ofDrive_63 (by decide) (fun c63 => ?_) (fun c63 => ?_)
            · refine j_iconst (v := 0) C dX5_ofDrive_70 (by decide) ?_
              refine j_goto (tgt := 85) C dX5_ofDrive_71 (by decide) ?_
              exact j_eq rfl rfl (by rw [show f_X5_ofDrive_x8 v f k y = 0 from ((if_pos c52).trans (if_pos c63))]) K85
            · refine j_iconst (v := 1) C dX5_ofDrive_66 (by decide) ?_
              refine j_goto (tgt := 85) C dX5_ofDrive_67 (by decide) ?_
              exact j_eq rfl rfl (by rw [show f_X5_ofDrive_x8 v f k y = 1 from ((if_pos c52).trans (if_neg c63))]) K85
      · refine j_aload_n C dX5_ofDrive_34 1 rfl ?_
        refine j_get C kin5 rfl 0 rfl 0 (by decide) kw_489 rfl (v := .ref nw) rfl dX5_ofDrive_35 ?_
        refine j_iload_n C dX5_ofDrive_38 0 rfl ?_
        refine j_iload_n C dX5_ofDrive_39 3 rfl ?_
        refine j_iadd C dX5_ofDrive_40 rfl ?_
        refine j_lald C 1 rfl (od41 (drv5 c4) c18) (v := f ((f_X5_row_r k) + y).toNatClampNeg) rfl dX5_ofDrive_41 ?_
        refine j_l2i C dX5_ofDrive_42 rfl ?_
        subst hQ; exact j_iret C hr hk ((show f_X5_ofDrive_r v f k y = (f ((f_X5_row_r k) + y).toNatClampNeg).toInt32 from ((if_neg c4).trans ((if_neg c18).trans (if_neg c31)))).symm) rfl dX5_ofDrive_43
    · refine j_bipush (v := (-2)) C dX5_ofDrive_21 (by decide) ?_
      subst hQ; exact j_iret C hr hk ((show f_X5_ofDrive_r v f k y = (-2) from ((if_neg c4).trans (if_pos c18))).symm) rfl dX5_ofDrive_23
  · refine j_iconst (v := (-1)) C dX5_ofDrive_7 (by decide) ?_
    subst hQ; exact j_iret C hr hk ((show f_X5_ofDrive_r v f k y = (-1) from (if_pos c4)).symm) rfl dX5_ofDrive_8
