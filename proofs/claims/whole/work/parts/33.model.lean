/-! THE MODEL: looks at drives -/
noncomputable def f_X5_wipe_v (v : Nat → Int32) : (Nat → Int32) := upd v 7 0
noncomputable def f_X5_wipe_r (v : Nat → Int32) : Int32 := v 7
set_option maxRecDepth 100000 in
set_option maxHeartbeats 4000000 in
theorem m_X5_wipe (l : Launch) (G : GG) (a nw th ps sl hd pd od : Nat) (v : Nat → Int32)  : CtI l yX5_wipe cX5_wipe 2 (some .int) (RM 0) G [.ref a] ([oM a nw th ps sl hd pd od v]) (f_X5_wipe_r v) ([oM a nw th ps sl hd pd od (f_X5_wipe_v v)]) := by
  refine ct_I RX5 [(0, .ref a)] rfl (by decide +kernel) (Nat.le_of_ble_eq_true rfl) rfl ?_
  intro p e s m args below meth c A C hr hk hnm
  generalize hQ : (MQ below (PostI G A (f_X5_wipe_r v) ([oM a nw th ps sl hd pd od (f_X5_wipe_v v)])) args s (RM 0).cells (RM 0).slots A) = Q
  refine j_aload_n C dX5_wipe_0 0 rfl ?_
  refine j_get C kin5 rfl 0 rfl 7 (by decide) kw_496 rfl (v := .int (v 7)) rfl dX5_wipe_1 ?_
  refine j_istore_n C [(1, .int (v 7)), (0, .ref a)] dX5_wipe_4 (by decide) rfl ?_
  refine j_aload_n C dX5_wipe_5 1 rfl ?_
  refine j_iconst (v := 0) C dX5_wipe_6 (by decide) ?_
  refine j_put C kin5 rfl 0 rfl 7 (by decide) kw_496 rfl tyX5 tyX5_ok nmX5 rfl rfl rfl (Nat.le_of_ble_eq_true rfl) ([oM a nw th ps sl hd pd od (upd v 7 0)]) rfl dX5_wipe_7 ?_
  refine j_iload_n C dX5_wipe_10 0 rfl ?_
  subst hQ; exact j_iret C hr hk ((show f_X5_wipe_r v = v 7 from rfl).symm) (by rw [show f_X5_wipe_v v = upd v 7 0 from rfl]) dX5_wipe_11
noncomputable def f_X5_tries_g (v : Nat → Int32) (f : Nat → Int64) (g : Nat → Int64) : (Nat → Int64) := lay f 0 g 0 456
set_option maxRecDepth 100000 in
set_option maxHeartbeats 4000000 in
theorem m_X5_tries (l : Launch) (G : GG) (a nw th ps sl hd pd od : Nat) (v : Nat → Int32) (f : Nat → Int64) (g : Nat → Int64)  : CtV l yX5_tries cX5_tries 1 (none : Option Jvm.ClassFile.FieldType) (RM 1) G [.ref a] ([oM a nw th ps sl hd pd od v, aJ G nw 456 f, aJ G th 456 g]) ([oM a nw th ps sl hd pd od v, aJ G nw 456 f, aJ G th 456 (f_X5_tries_g v f g)]) := by
  refine ct_V RX5 [(0, .ref a)] rfl (by decide +kernel) (Nat.le_of_ble_eq_true rfl) rfl ?_
  intro p e s m args below meth c A C hr hk hnm
  generalize hQ : (MQ below (PostV G A ([oM a nw th ps sl hd pd od v, aJ G nw 456 f, aJ G th 456 (f_X5_tries_g v f g)])) args s (RM 1).cells (RM 1).slots A) = Q
  refine j_aload_n C dX5_tries_0 0 rfl ?_
  refine j_get C kin5 rfl 0 rfl 0 (by decide) kw_489 rfl (v := .ref nw) rfl dX5_tries_1 ?_
  refine j_iconst (v := 0) C dX5_tries_4 (by decide) ?_
  refine j_aload_n C dX5_tries_5 0 rfl ?_
  refine j_get C kin5 rfl 0 rfl 1 (by decide) kw_490 rfl (v := .ref th) rfl dX5_tries_6 ?_
  refine j_iconst (v := 0) C dX5_tries_9 (by decide) ?_
  refine j_callS_v (wc' := [aJ G nw 456 f, aJ G th 456 (lay f 0 g 0 456)]) C (m_X5_lays l G nw th 456 456 f 0 g 0 (fun _ hi => vin_add (c := 0) rfl (by omega) (by decide) (by omega)) (fun _ hi => vin_add (c := 0) rfl (by omega) (by decide) (by omega))) 4 (gS kw_516 kw_517 kw_7 kw_518) (by decide +kernel) ⟨(Nat.le_of_ble_eq_true rfl), (Nat.le_of_ble_eq_true rfl)⟩ rfl rfl (Nat.le_of_ble_eq_true rfl) dX5_tries_10 ⟨(Nat.le_of_ble_eq_true rfl), (Nat.le_of_ble_eq_true rfl)⟩ [oM a nw th ps sl hd pd od v] [aJ G nw 456 f, aJ G th 456 (lay f 0 g 0 456), oM a nw th ps sl hd pd od v] (perm_idx [1, 2, 0] 3 rfl (by decide +kernel) rfl) rfl ?_
  refine j_perm ([oM a nw th ps sl hd pd od v, aJ G nw 456 f, aJ G th 456 (lay f 0 g 0 456)]) (perm_idx [2, 0, 1] 3 rfl (by decide +kernel) rfl) ?_
  subst hQ; exact j_vret C hr hk (by rw [show f_X5_tries_g v f g = lay f 0 g 0 456 from rfl]) dX5_tries_13
/-- the hours of a kind, of the first i -/
noncomputable def hrsA (f : Nat → Int64) (k y : Int32) : Nat → Int32
  | 0 => 0
  | i + 1 => hrsA f k y i + (if y = 0 then (if 0 < f_X5_hourOf_r f k (nI i).toInt64 then 1 else (if y ≤ 0 then 0 else (if f_X5_hourOf_r f k (nI i).toInt64 = y then 1 else 0))) else (if y ≤ 0 then 0 else (if f_X5_hourOf_r f k (nI i).toInt64 = y then 1 else 0)))
noncomputable def f_X5_hoursOf_x3 (v : Nat → Int32) (f : Nat → Int64) (k : Int32) (y : Int32) (i : Nat) : Int32 := (if y = 0 then (if 0 < f_X5_hourOf_r f k ((nI i).toInt64) then 1 else (if y ≤ 0 then 0 else (if f_X5_hourOf_r f k ((nI i).toInt64) = y then 1 else 0))) else (if y ≤ 0 then 0 else (if f_X5_hourOf_r f k ((nI i).toInt64) = y then 1 else 0)))
set_option maxRecDepth 100000 in
set_option maxHeartbeats 4000000 in
theorem m_X5_hoursOf (l : Launch) (G : GG) (a nw th ps sl hd pd od : Nat) (v : Nat → Int32) (f : Nat → Int64) (k : Int32) (y : Int32) (h4 : vp_in k 4) : CtI l yX5_hoursOf cX5_hoursOf 6 (some .int) (RM 2) G [.ref a, .int k, .int y] ([oM a nw th ps sl hd pd od v, aJ G nw 456 f]) (hrsA f k y 100) ([oM a nw th ps sl hd pd od v, aJ G nw 456 f]) := by
  refine ct_I RX5 [(0, .ref a), (1, .int k), (2, .int y)] rfl (by decide +kernel) (Nat.le_of_ble_eq_true rfl) rfl ?_
  intro p e s m args below meth c A C hr hk hnm
  generalize hQ : (MQ below (PostI G A (hrsA f k y 100) ([oM a nw th ps sl hd pd od v, aJ G nw 456 f])) args s (RM 2).cells (RM 2).slots A) = Q
  refine j_iconst (v := 0) C dX5_hoursOf_0 (by decide) ?_
  refine j_istore_n C [(3, .int 0), (0, .ref a), (1, .int k), (2, .int y)] dX5_hoursOf_1 (by decide) rfl ?_
  refine j_iconst (v := 0) C dX5_hoursOf_2 (by decide) ?_
  refine j_istore C [(4, .int 0), (3, .int 0), (0, .ref a), (1, .int k), (2, .int y)] dX5_hoursOf_3 (by decide) rfl ?_
  have L1 : ∀ (n i : Nat), i + n = 100 → WJ p l e (RM 2) s m args below meth c G A 6 0 0 Q ([oM a nw th ps sl hd pd od v, aJ G nw 456 f]) [(4, .int (nI i)), (3, .int (hrsA f k y i)), (0, .ref a), (1, .int k), (2, .int y)] 5 [] := by
    intro n
    induction n with
    | zero =>
      intro i hIN
      have hN : i = 100 := by omega
      subst hN
      refine j_iload C dX5_hoursOf_5 0 rfl ?_
      refine j_bipush (v := 100) C dX5_hoursOf_7 (by decide) ?_
      refine j_icmp_ge (tgt := 58) C dX5_hoursOf_9 (by decide) (fun c9 => ?_) (fun h => absurd (by decide) h)
      refine j_iload_n C dX5_hoursOf_58 1 rfl ?_
      subst hQ; exact j_iret C hr hk rfl rfl dX5_hoursOf_59
    | succ n ih =>
      intro i hIN
      have hlt : i < 100 := by omega
      refine j_iload C dX5_hoursOf_5 0 rfl ?_
      refine j_bipush (v := 100) C dX5_hoursOf_7 (by decide) ?_
      refine j_icmp_ge (tgt := 58) C dX5_hoursOf_9 (by decide) (fun h => absurd h (nI_ge (b := 100) hlt (by decide))) (fun c9 => ?_)
      refine j_aload_n C dX5_hoursOf_12 2 rfl ?_
      refine j_get C kin5 rfl 0 rfl 0 (by decide) kw_489 rfl (v := .ref nw) rfl dX5_hoursOf_13 ?_
      refine j_iload_n C dX5_hoursOf_16 3 rfl ?_
      refine j_iload C dX5_hoursOf_17 0 rfl ?_
      refine j_i2l C dX5_hoursOf_19 rfl ?_
      refine j_callS_i (r := f_X5_hourOf_r f k ((nI i).toInt64)) (wc' := [aJ G nw 456 f]) C (m_X5_hourOf l G nw f k ((nI i).toInt64) h4) 3 (gS kw_580 kw_581 kw_7 kw_582) (by decide +kernel) ⟨(Nat.le_of_ble_eq_true rfl), (Nat.le_of_ble_eq_true rfl)⟩ rfl rfl (Nat.le_of_ble_eq_true rfl) dX5_hoursOf_20 ⟨(Nat.le_of_ble_eq_true rfl), (Nat.le_of_ble_eq_true rfl)⟩ [oM a nw th ps sl hd pd od v] [aJ G nw 456 f, oM a nw th ps sl hd pd od v] (perm_idx [1, 0] 2 rfl (by decide +kernel) rfl) rfl ?_
      refine j_istore C [(5, .int (f_X5_hourOf_r f k ((nI i).toInt64))), (4, .int (nI i)), (3, .int (hrsA f k y i)), (0, .ref a), (1, .int k), (2, .int y)] dX5_hoursOf_23 (by decide) rfl ?_
      refine j_iload_n C dX5_hoursOf_25 2 rfl ?_
      refine j_iload_n C dX5_hoursOf_26 5 rfl ?_
      have K50 : WJ p l e (RM 2) s m args below meth c G A 6 0 0 Q ([aJ G nw 456 f, oM a nw th ps sl hd pd od v]) [(5, .int (f_X5_hourOf_r f k ((nI i).toInt64))), (4, .int (nI i)), (3, .int (hrsA f k y i)), (0, .ref a), (1, .int k), (2, .int y)] 50 [.int (f_X5_hoursOf_x3 v f k y i), .int (hrsA f k y i)] := by
        generalize hw0 : f_X5_hoursOf_x3 v f k y i = w0
        refine j_iadd C dX5_hoursOf_50 rfl ?_
        refine j_istore_n C [(3, .int ((hrsA f k y i) + w0)), (5, .int (f_X5_hourOf_r f k ((nI i).toInt64))), (4, .int (nI i)), (0, .ref a), (1, .int k), (2, .int y)] dX5_hoursOf_51 (by decide) rfl ?_
        refine j_iinc (v := nI (i + 1)) C [(4, .int (nI (i + 1))), (3, .int ((hrsA f k y i) + w0)), (5, .int (f_X5_hourOf_r f k ((nI i).toInt64))), (0, .ref a), (1, .int k), (2, .int y)] dX5_hoursOf_52 (k := 2) rfl (nI_1 i) (by decide) rfl ?_
        refine j_goto (tgt := 5) C dX5_hoursOf_55 (by decide) ?_
        refine j_perm ([oM a nw th ps sl hd pd od v, aJ G nw 456 f]) (perm_idx [1, 0] 2 rfl (by decide +kernel) rfl) ?_
        refine j_lv [0, 1, 3, 4, 5] [(4, .int (nI (i + 1))), (3, .int ((hrsA f k y i) + w0)), (0, .ref a), (1, .int k), (2, .int y)] rfl ?_
        subst hw0; exact j_eq rfl (by rw [show hrsA f k y (i + 1) = (hrsA f k y i) + (f_X5_hoursOf_x3 v f k y i) from rfl]) rfl (ih (i + 1) (by omega))
      refine j_if_ne (tgt := 35) C dX5_hoursOf_27 (by decide) (fun c27 => ?_) (fun c27 => ?_)
      · refine j_iload_n C dX5_hoursOf_35 5 rfl ?_
        refine j_if_le (tgt := 49) C dX5_hoursOf_36 (by decide) (fun c36 => ?_) (fun c36 => ?_)
        · refine j_iconst (v := 0) C dX5_hoursOf_49 (by decide) ?_
          exact j_eq rfl rfl (by rw [show f_X5_hoursOf_x3 v f k y i = 0 from ((if_neg c27).trans (if_pos c36))]) K50
        · refine j_iload C dX5_hoursOf_39 0 rfl ?_
          refine j_iload_n C dX5_hoursOf_41 5 rfl ?_
          refine j_icmp_ne (tgt := 49) C dX5_hoursOf_42 (by decide) (fun c42 => ?_) (fun c42 => ?_)
          · refine j_iconst (v := 0) C dX5_hoursOf_49 (by decide) ?_
            exact j_eq rfl rfl (by rw [show f_X5_hoursOf_x3 v f k y i = 0 from ((if_neg c27).trans ((if_neg c36).trans (if_neg c42)))]) K50
          · refine j_iconst (v := 1) C dX5_hoursOf_45 (by decide) ?_
            refine j_goto (tgt := 50) C dX5_hoursOf_46 (by decide) ?_
            exact j_eq rfl rfl (by rw [show f_X5_hoursOf_x3 v f k y i = 1 from ((if_neg c27).trans ((if_neg c36).trans (if_pos c42)))]) K50
      · refine j_iload C dX5_hoursOf_30 0 rfl ?_
        refine j_if_gt (tgt := 45) C dX5_hoursOf_32 (by decide) (fun c32 => ?_) (fun c32 => ?_)
        · refine j_iconst (v := 1) C dX5_hoursOf_45 (by decide) ?_
          refine j_goto (tgt := 50) C dX5_hoursOf_46 (by decide) ?_
          exact j_eq rfl rfl (by rw [show f_X5_hoursOf_x3 v f k y i = 1 from ((if_pos c27).trans (if_pos c32))]) K50
        · refine j_iload_n C dX5_hoursOf_35 5 rfl ?_
          refine j_if_le (tgt := 49) C dX5_hoursOf_36 (by decide) (fun c36 => ?_) (fun c36 => ?_)
          · refine j_iconst (v := 0) C dX5_hoursOf_49 (by decide) ?_
            exact j_eq rfl rfl (by rw [show f_X5_hoursOf_x3 v f k y i = 0 from ((if_pos c27).trans ((if_neg c32).trans (if_pos c36)))]) K50
          · refine j_iload C dX5_hoursOf_39 0 rfl ?_
            refine j_iload_n C dX5_hoursOf_41 5 rfl ?_
            refine j_icmp_ne (tgt := 49) C dX5_hoursOf_42 (by decide) (fun c42 => ?_) (fun c42 => ?_)
            · refine j_iconst (v := 0) C dX5_hoursOf_49 (by decide) ?_
              exact j_eq rfl rfl (by rw [show f_X5_hoursOf_x3 v f k y i = 0 from ((if_pos c27).trans ((if_neg c32).trans ((if_neg c36).trans (if_neg c42))))]) K50
            · refine j_iconst (v := 1) C dX5_hoursOf_45 (by decide) ?_
              refine j_goto (tgt := 50) C dX5_hoursOf_46 (by decide) ?_
              exact j_eq rfl rfl (by rw [show f_X5_hoursOf_x3 v f k y i = 1 from ((if_pos c27).trans ((if_neg c32).trans ((if_neg c36).trans (if_pos c42))))]) K50
  exact j_eq rfl (by rw [show nI 0 = 0 from rfl, show hrsA f k y 0 = 0 from rfl]) rfl (L1 100 0 (by omega))
