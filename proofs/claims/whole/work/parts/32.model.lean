/-! THE MODEL: looks -/
/-- the hours kept in a row, after the first i -/
noncomputable def strA (f : Nat → Int64) (k : Int32) : Nat → Int32
  | 0 => 0
  | i + 1 => if f_X5_hourOf_r f k (nI i).toInt64 = 3 then 0 else if f_X5_hourOf_r f k (nI i).toInt64 = 2 then strA f k i + 1 else strA f k i
noncomputable def f_X5_streak_r (f : Nat → Int64) (k : Int32) : Int32 := if f_X5_isDrive_r k = 0 then -1 else strA f k 100
noncomputable def f_X5_streak_x4 (v : Nat → Int32) (f : Nat → Int64) (k : Int32) (i : Nat) : Int32 := (if f_X5_hourOf_r f k ((nI i).toInt64) = 3 then 0 else (if f_X5_hourOf_r f k ((nI i).toInt64) = 2 then (strA f k i) + 1 else strA f k i))
set_option maxRecDepth 100000 in
set_option maxHeartbeats 4000000 in
theorem m_X5_streak (l : Launch) (G : GG) (a nw th ps sl hd pd od : Nat) (v : Nat → Int32) (f : Nat → Int64) (k : Int32)  : CtI l yX5_streak cX5_streak 5 (some .int) (RM 2) G [.ref a, .int k] ([oM a nw th ps sl hd pd od v, aJ G nw 456 f]) (f_X5_streak_r f k) ([oM a nw th ps sl hd pd od v, aJ G nw 456 f]) := by
  refine ct_I RX5 [(0, .ref a), (1, .int k)] rfl (by decide +kernel) (Nat.le_of_ble_eq_true rfl) rfl ?_
  intro p e s m args below meth c A C hr hk hnm
  generalize hQ : (MQ below (PostI G A (f_X5_streak_r f k) ([oM a nw th ps sl hd pd od v, aJ G nw 456 f])) args s (RM 2).cells (RM 2).slots A) = Q
  refine j_iload_n C dX5_streak_0 1 rfl ?_
  refine j_pureS_i (r := f_X5_isDrive_r k) C (m_X5_isDrive l G k) 1 (gS kw_551 kw_552 kw_7 kw_553) (by decide +kernel) ⟨(Nat.le_of_ble_eq_true rfl), (Nat.le_of_ble_eq_true rfl)⟩ rfl rfl (Nat.le_of_ble_eq_true rfl) dX5_streak_1 ⟨(Nat.le_of_ble_eq_true rfl), (Nat.le_of_ble_eq_true rfl)⟩ ?_
  refine j_if_ne (tgt := 9) C dX5_streak_4 (by decide) (fun c4 => ?_) (fun c4 => ?_)
  · refine j_iconst (v := 0) C dX5_streak_9 (by decide) ?_
    refine j_istore_n C [(2, .int 0), (0, .ref a), (1, .int k)] dX5_streak_10 (by decide) rfl ?_
    refine j_iconst (v := 0) C dX5_streak_11 (by decide) ?_
    refine j_istore_n C [(3, .int 0), (2, .int 0), (0, .ref a), (1, .int k)] dX5_streak_12 (by decide) rfl ?_
    have L2 : ∀ (n i : Nat), i + n = 100 → WJ p l e (RM 2) s m args below meth c G A 5 0 0 Q ([oM a nw th ps sl hd pd od v, aJ G nw 456 f]) [(3, .int (nI i)), (2, .int (strA f k i)), (0, .ref a), (1, .int k)] 13 [] := by
      intro n
      induction n with
      | zero =>
        intro i hIN
        have hN : i = 100 := by omega
        subst hN
        refine j_iload_n C dX5_streak_13 0 rfl ?_
        refine j_bipush (v := 100) C dX5_streak_14 (by decide) ?_
        refine j_icmp_ge (tgt := 61) C dX5_streak_16 (by decide) (fun c16 => ?_) (fun h => absurd (by decide) h)
        refine j_iload_n C dX5_streak_61 1 rfl ?_
        subst hQ; exact j_iret C hr hk (show strA f k 100 = (f_X5_streak_r f k) from (if_neg c4).symm) rfl dX5_streak_62
      | succ n ih =>
        intro i hIN
        have hlt : i < 100 := by omega
        refine j_iload_n C dX5_streak_13 0 rfl ?_
        refine j_bipush (v := 100) C dX5_streak_14 (by decide) ?_
        refine j_icmp_ge (tgt := 61) C dX5_streak_16 (by decide) (fun h => absurd h (nI_ge (b := 100) hlt (by decide))) (fun c16 => ?_)
        refine j_aload_n C dX5_streak_19 2 rfl ?_
        refine j_get C kin5 rfl 0 rfl 0 (by decide) kw_489 rfl (v := .ref nw) rfl dX5_streak_20 ?_
        refine j_iload_n C dX5_streak_23 3 rfl ?_
        refine j_iload_n C dX5_streak_24 0 rfl ?_
        refine j_i2l C dX5_streak_25 rfl ?_
        refine j_callS_i (r := f_X5_hourOf_r f k ((nI i).toInt64)) (wc' := [aJ G nw 456 f]) C (m_X5_hourOf l G nw f k ((nI i).toInt64) (drv5 c4)) 3 (gS kw_580 kw_581 kw_7 kw_582) (by decide +kernel) ⟨(Nat.le_of_ble_eq_true rfl), (Nat.le_of_ble_eq_true rfl)⟩ rfl rfl (Nat.le_of_ble_eq_true rfl) dX5_streak_26 ⟨(Nat.le_of_ble_eq_true rfl), (Nat.le_of_ble_eq_true rfl)⟩ [oM a nw th ps sl hd pd od v] [aJ G nw 456 f, oM a nw th ps sl hd pd od v] (perm_idx [1, 0] 2 rfl (by decide +kernel) rfl) rfl ?_
        refine j_istore C [(4, .int (f_X5_hourOf_r f k ((nI i).toInt64))), (3, .int (nI i)), (2, .int (strA f k i)), (0, .ref a), (1, .int k)] dX5_streak_29 (by decide) rfl ?_
        refine j_iload C dX5_streak_31 0 rfl ?_
        refine j_iconst (v := 3) C dX5_streak_33 (by decide) ?_
        have K54 : WJ p l e (RM 2) s m args below meth c G A 5 0 0 Q ([aJ G nw 456 f, oM a nw th ps sl hd pd od v]) [(4, .int (f_X5_hourOf_r f k ((nI i).toInt64))), (3, .int (nI i)), (2, .int (strA f k i)), (0, .ref a), (1, .int k)] 54 [.int (f_X5_streak_x4 v f k i)] := by
          generalize hw0 : f_X5_streak_x4 v f k i = w0
          refine j_istore_n C [(2, .int w0), (4, .int (f_X5_hourOf_r f k ((nI i).toInt64))), (3, .int (nI i)), (0, .ref a), (1, .int k)] dX5_streak_54 (by decide) rfl ?_
          refine j_iinc (v := nI (i + 1)) C [(3, .int (nI (i + 1))), (2, .int w0), (4, .int (f_X5_hourOf_r f k ((nI i).toInt64))), (0, .ref a), (1, .int k)] dX5_streak_55 (k := 2) rfl (nI_1 i) (by decide) rfl ?_
          refine j_goto (tgt := 13) C dX5_streak_58 (by decide) ?_
          refine j_perm ([oM a nw th ps sl hd pd od v, aJ G nw 456 f]) (perm_idx [1, 0] 2 rfl (by decide +kernel) rfl) ?_
          refine j_lv [0, 1, 3, 4] [(3, .int (nI (i + 1))), (2, .int w0), (0, .ref a), (1, .int k)] rfl ?_
          subst hw0; exact j_eq rfl (by rw [show strA f k (i + 1) = (f_X5_streak_x4 v f k i) from rfl]) rfl (ih (i + 1) (by omega))
        refine j_icmp_ne (tgt := 41) C dX5_streak_34 (by decide) (fun c34 => ?_) (fun c34 => ?_)
        · refine j_iload C dX5_streak_41 0 rfl ?_
          refine j_iconst (v := 2) C dX5_streak_43 (by decide) ?_
          refine j_icmp_ne (tgt := 53) C dX5_streak_44 (by decide) (fun c44 => ?_) (fun c44 => ?_)
          · refine j_iload_n C dX5_streak_53 2 rfl ?_
            exact j_eq rfl rfl (by rw [show f_X5_streak_x4 v f k i = strA f k i from ((if_neg c34).trans (if_neg c44))]) K54
          · refine j_iload_n C dX5_streak_47 2 rfl ?_
            refine j_iconst (v := 1) C dX5_streak_48 (by decide) ?_
            refine j_iadd C dX5_streak_49 rfl ?_
            refine j_goto (tgt := 54) C dX5_streak_50 (by decide) ?_
            exact j_eq rfl rfl (by rw [show f_X5_streak_x4 v f k i = (strA f k i) + 1 from ((if_neg c34).trans (if_pos c44))]) K54
        · refine j_iconst (v := 0) C dX5_streak_37 (by decide) ?_
          refine j_goto (tgt := 54) C dX5_streak_38 (by decide) ?_
          exact j_eq rfl rfl (by rw [show f_X5_streak_x4 v f k i = 0 from (if_pos c34)]) K54
    exact j_eq rfl (by rw [show nI 0 = 0 from rfl, show strA f k 0 = 0 from rfl]) rfl (L2 100 0 (by omega))
  · refine j_iconst (v := (-1)) C dX5_streak_7 (by decide) ?_
    subst hQ; exact j_iret C hr hk (show (-1) = (f_X5_streak_r f k) from (if_pos c4).symm) rfl dX5_streak_8
theorem vin_at {i b : Int32} (h0 : ¬ i < 0) (hb : b ≤ 80) (h : ¬ b ≤ i) : vp_in i 80 :=
  vp_in_iff.mpr ⟨by have := Int32.not_lt.mp h0; simpa using Int32.le_iff_toInt_le.mp this, by have := Int32.not_le.mp h; rw [Int32.lt_iff_toInt_lt] at this; rw [Int32.le_iff_toInt_le, show (80 : Int32).toInt = 80 by decide] at hb; omega⟩
noncomputable def f_X5_isAt_rq1 (v : Nat → Int32) (o : Nat → Int32) (k : Int32) (y : Int32) : Int32 := f_X5_in_r ((o (v 8).toNatClampNeg).toInt64) k.toInt64 y.toInt64
noncomputable def f_X5_isAt_x2 (v : Nat → Int32) (o : Nat → Int32) (k : Int32) (y : Int32) : Int32 := (if v 7 ≤ v 8 then 0 else (if (f_X5_isAt_rq1 v o k y) = 0 then 0 else 1))
noncomputable def f_X5_isAt_r (v : Nat → Int32) (o : Nat → Int32) (k : Int32) (y : Int32) : Int32 := (f_X5_isAt_x2 v o k y)
set_option maxRecDepth 100000 in
set_option maxHeartbeats 4000000 in
theorem m_X5_isAt (l : Launch) (G : GG) (a nw th ps sl hd pd od : Nat) (v : Nat → Int32) (o : Nat → Int32) (k : Int32) (y : Int32) (ha : ¬ v 8 < 0) (hb : v 7 ≤ 80) : CtI l yX5_isAt cX5_isAt 3 (some .boolean) (RM 1) G [.ref a, .int k, .int y] ([oM a nw th ps sl hd pd od v, aI G pd 80 o]) (f_X5_isAt_r v o k y) ([oM a nw th ps sl hd pd od v, aI G pd 80 o]) := by
  refine ct_I RX5 [(0, .ref a), (1, .int k), (2, .int y)] rfl (by decide +kernel) (Nat.le_of_ble_eq_true rfl) rfl ?_
  intro p e s m args below meth c A C hr hk hnm
  generalize hQ : (MQ below (PostI G A (f_X5_isAt_r v o k y) ([oM a nw th ps sl hd pd od v, aI G pd 80 o])) args s (RM 1).cells (RM 1).slots A) = Q
  refine j_aload_n C dX5_isAt_0 0 rfl ?_
  refine j_get C kin5 rfl 0 rfl 8 (by decide) kw_497 rfl (v := .int (v 8)) rfl dX5_isAt_1 ?_
  refine j_aload_n C dX5_isAt_4 0 rfl ?_
  refine j_get C kin5 rfl 0 rfl 7 (by decide) kw_496 rfl (v := .int (v 7)) rfl dX5_isAt_5 ?_
  have K36 : WJ p l e (RM 1) s m args below meth c G A 3 0 0 Q ([oM a nw th ps sl hd pd od v, aI G pd 80 o]) [(0, .ref a), (1, .int k), (2, .int y)] 36 [.int (f_X5_isAt_x2 v o k y)] := by
    generalize hw1 : f_X5_isAt_x2 v o k y = w1
    subst hQ; subst hw1; exact j_zret C hr hk (by unfold f_X5_isAt_x2; (repeat' split) <;> rfl) ((show f_X5_isAt_r v o k y = (f_X5_isAt_x2 v o k y) from rfl).symm) rfl dX5_isAt_36
  refine j_icmp_ge (tgt := 35) C dX5_isAt_8 (by decide) (fun c8 => ?_) (fun c8 => ?_)
  · refine j_iconst (v := 0) C dX5_isAt_35 (by decide) ?_
    exact j_eq rfl rfl (by rw [show f_X5_isAt_x2 v o k y = 0 from (if_pos c8)]) K36
  · refine j_aload_n C dX5_isAt_11 0 rfl ?_
    refine j_get C kin5 rfl 0 rfl 6 (by decide) kw_495 rfl (v := .ref pd) rfl dX5_isAt_12 ?_
    refine j_aload_n C dX5_isAt_15 0 rfl ?_
    refine j_get C kin5 rfl 0 rfl 8 (by decide) kw_497 rfl (v := .int (v 8)) rfl dX5_isAt_16 ?_
    refine j_iald C 1 rfl (vin_at ha hb c8) (v := o (v 8).toNatClampNeg) rfl dX5_isAt_19 ?_
    refine j_i2l C dX5_isAt_20 rfl ?_
    refine j_iload_n C dX5_isAt_21 1 rfl ?_
    refine j_i2l C dX5_isAt_22 rfl ?_
    refine j_iload_n C dX5_isAt_23 2 rfl ?_
    refine j_i2l C dX5_isAt_24 rfl ?_
    refine j_pureS_i (r := f_X5_in_r ((o (v 8).toNatClampNeg).toInt64) k.toInt64 y.toInt64) C (m_X5_in l G ((o (v 8).toNatClampNeg).toInt64) k.toInt64 y.toInt64) 3 (gS kw_523 kw_524 kw_7 kw_525) (by decide +kernel) ⟨(Nat.le_of_ble_eq_true rfl), (Nat.le_of_ble_eq_true rfl)⟩ rfl rfl (Nat.le_of_ble_eq_true rfl) dX5_isAt_25 ⟨(Nat.le_of_ble_eq_true rfl), (Nat.le_of_ble_eq_true rfl)⟩ ?_
    generalize hzw0 : f_X5_in_r ((o (v 8).toNatClampNeg).toInt64) k.toInt64 y.toInt64 = w0
    have hw0 : f_X5_isAt_rq1 v o k y = w0 := by subst hzw0; rfl
    refine j_if_eq (tgt := 35) C dX5_isAt_28 (by decide) (fun c28 => ?_) (fun c28 => ?_)
    · refine j_iconst (v := 0) C dX5_isAt_35 (by decide) ?_
      subst hw0; exact j_eq rfl rfl (by rw [show f_X5_isAt_x2 v o k y = 0 from ((if_neg c8).trans (if_pos c28))]) K36
    · refine j_iconst (v := 1) C dX5_isAt_31 (by decide) ?_
      refine j_goto (tgt := 36) C dX5_isAt_32 (by decide) ?_
      subst hw0; exact j_eq rfl rfl (by rw [show f_X5_isAt_x2 v o k y = 1 from ((if_neg c8).trans (if_neg c28))]) K36
theorem nrz_isAt (v o : Nat → Int32) (k y : Int32) : narrow .boolean (.int (f_X5_isAt_r v o k y)) = .int (f_X5_isAt_r v o k y) := by
  unfold f_X5_isAt_r f_X5_isAt_x2
  (repeat' split) <;> rfl
noncomputable def f_X5_isSign_x2 (v : Nat → Int32) (o : Nat → Int32) (k : Int32) : Int32 := (if f_X5_isAt_r v o k k = 0 then 0 else 1)
noncomputable def f_X5_isSign_v (v : Nat → Int32) (o : Nat → Int32) (k : Int32) : (Nat → Int32) := upd v 8 ((v 8) + (f_X5_isSign_x2 v o k))
noncomputable def f_X5_isSign_r (v : Nat → Int32) (o : Nat → Int32) (k : Int32) : Int32 := f_X5_isAt_r v o k k
set_option maxRecDepth 100000 in
set_option maxHeartbeats 4000000 in
theorem m_X5_isSign (l : Launch) (G : GG) (a nw th ps sl hd pd od : Nat) (v : Nat → Int32) (o : Nat → Int32) (k : Int32) (ha : ¬ v 8 < 0) (hb : v 7 ≤ 80) : CtI l yX5_isSign cX5_isSign 3 (some .boolean) (RM 2) G [.ref a, .int k] ([oM a nw th ps sl hd pd od v, aI G pd 80 o]) (f_X5_isSign_r v o k) ([oM a nw th ps sl hd pd od (f_X5_isSign_v v o k), aI G pd 80 o]) := by
  refine ct_I RX5 [(0, .ref a), (1, .int k)] rfl (by decide +kernel) (Nat.le_of_ble_eq_true rfl) rfl ?_
  intro p e s m args below meth c A C hr hk hnm
  generalize hQ : (MQ below (PostI G A (f_X5_isSign_r v o k) ([oM a nw th ps sl hd pd od (f_X5_isSign_v v o k), aI G pd 80 o])) args s (RM 2).cells (RM 2).slots A) = Q
  refine j_aload_n C dX5_isSign_0 0 rfl ?_
  refine j_iload_n C dX5_isSign_1 1 rfl ?_
  refine j_iload_n C dX5_isSign_2 1 rfl ?_
  refine j_callV_i (r := f_X5_isAt_r v o k k) (wc' := [oM a nw th ps sl hd pd od v, aI G pd 80 o]) C (m_X5_isAt l G a nw th ps sl hd pd od v o k k ha hb) rfl 0 rfl 2 (gV kw_737 kw_738 kw_785 kw_7 kw_739) (by decide +kernel) ⟨(Nat.le_of_ble_eq_true rfl), (Nat.le_of_ble_eq_true rfl)⟩ rfl rfl (Nat.le_of_ble_eq_true rfl) dX5_isSign_3 ⟨(Nat.le_of_ble_eq_true rfl), (Nat.le_of_ble_eq_true rfl)⟩ [] [oM a nw th ps sl hd pd od v, aI G pd 80 o] (perm_idx [0, 1] 2 rfl (by decide +kernel) rfl) rfl ?_
  refine j_istore_n C [(2, .int (f_X5_isAt_r v o k k)), (0, .ref a), (1, .int k)] dX5_isSign_6 (by decide) rfl ?_
  refine j_aload_n C dX5_isSign_7 1 rfl ?_
  refine j_dup C dX5_isSign_8 rfl ?_
  refine j_get C kin5 rfl 0 rfl 8 (by decide) kw_497 rfl (v := .int (v 8)) rfl dX5_isSign_9 ?_
  refine j_iload_n C dX5_isSign_12 0 rfl ?_
  have K21 : WJ p l e (RM 2) s m args below meth c G A 3 0 0 Q ([oM a nw th ps sl hd pd od v, aI G pd 80 o]) [(2, .int (f_X5_isAt_r v o k k)), (0, .ref a), (1, .int k)] 21 [.int (f_X5_isSign_x2 v o k), .int (v 8), .ref a] := by
    generalize hw0 : f_X5_isSign_x2 v o k = w0
    refine j_iadd C dX5_isSign_21 rfl ?_
    generalize hw1 : (v 8) + w0 = w1
    refine j_put C kin5 rfl 0 rfl 8 (by decide) kw_497 rfl tyX5 tyX5_ok nmX5 rfl rfl rfl (Nat.le_of_ble_eq_true rfl) ([oM a nw th ps sl hd pd od (upd v 8 w1), aI G pd 80 o]) rfl dX5_isSign_22 ?_
    refine j_iload_n C dX5_isSign_25 0 rfl ?_
    subst hQ; subst hw0 hw1; exact j_zret C hr hk (by subst_vars; exact nrz_isAt _ _ _ _) ((show f_X5_isSign_r v o k = f_X5_isAt_r v o k k from rfl).symm) (by rw [show f_X5_isSign_v v o k = upd v 8 ((v 8) + (f_X5_isSign_x2 v o k)) from rfl]) dX5_isSign_26
  refine j_if_eq (tgt := 20) C dX5_isSign_13 (by decide) (fun c13 => ?_) (fun c13 => ?_)
  · refine j_iconst (v := 0) C dX5_isSign_20 (by decide) ?_
    exact j_eq rfl rfl (by rw [show f_X5_isSign_x2 v o k = 0 from (if_pos c13)]) K21
  · refine j_iconst (v := 1) C dX5_isSign_16 (by decide) ?_
    refine j_goto (tgt := 21) C dX5_isSign_17 (by decide) ?_
    exact j_eq rfl rfl (by rw [show f_X5_isSign_x2 v o k = 1 from (if_neg c13)]) K21
theorem i_bnd {k : Int32} {x y : Nat} (hx : x < 2 ^ 31) (hy : y < 2 ^ 31) (h1 : nI x ≤ k) (h2 : ¬ nI y ≤ k) : ∃ j, k = nI j ∧ x ≤ j ∧ j < y := by
  have h1 := Int32.le_iff_toInt_le.mp h1
  have h2 := Int32.lt_iff_toInt_lt.mp (Int32.not_le.mp h2)
  rw [nI_toInt hx] at h1
  rw [nI_toInt hy] at h2
  obtain ⟨j, hj, rfl⟩ := vp_in_of (vp_in_iff (x := k) (n := y)|>.mpr ⟨by omega, h2⟩) hy
  rw [nI_toInt (by omega)] at h1 h2
  exact ⟨j, rfl, by omega, by omega⟩
theorem vin_ctA {k : Int32} (h1 : 2 ≤ k) (h2 : ¬ 6 ≤ k) : vp_in (1 + k - 2) 456 := by
  obtain ⟨j, rfl, ha, hb⟩ := i_bnd (x := 2) (y := 6) (by decide) (by decide) h1 h2
  rcases (show j = 2 ∨ j = 3 ∨ j = 4 ∨ j = 5 by omega) with rfl | rfl | rfl | rfl <;> exact vin_lit (by decide)
theorem vin_ctB {k : Int32} (h1 : 6 ≤ k) (h2 : ¬ 13 ≤ k) : vp_in (5 + k - 6) 456 := by
  obtain ⟨j, rfl, ha, hb⟩ := i_bnd (x := 6) (y := 13) (by decide) (by decide) h1 h2
  rcases (show j = 6 ∨ j = 7 ∨ j = 8 ∨ j = 9 ∨ j = 10 ∨ j = 11 ∨ j = 12 by omega) with rfl | rfl | rfl | rfl | rfl | rfl | rfl <;> exact vin_lit (by decide)
noncomputable def f_X5_count_x2 (v : Nat → Int32) (f : Nat → Int64) (k : Int32) : Int32 := (if 6 ≤ k then (if 13 ≤ k then (if k = 13 then v 7 else v 3) else (f ((5 + k) - 6).toNatClampNeg).toInt32) else (f ((1 + k) - 2).toNatClampNeg).toInt32)
noncomputable def f_X5_count_x3 (v : Nat → Int32) (f : Nat → Int64) (k : Int32) : Int64 := (if k = 0 then f 0 else (f 0) / 60)
noncomputable def f_X5_count_r (v : Nat → Int32) (f : Nat → Int64) (k : Int32) : Int32 := (if f_X5_in_r k.toInt64 0 14 = 0 then (-2) else (if 2 ≤ k then (f_X5_count_x2 v f k) else (f_X5_count_x3 v f k).toInt32))
set_option maxRecDepth 100000 in
set_option maxHeartbeats 4000000 in
theorem m_X5_count (l : Launch) (G : GG) (a nw th ps sl hd pd od : Nat) (v : Nat → Int32) (f : Nat → Int64) (k : Int32)  : CtI l yX5_count cX5_count 2 (some .int) (RM 1) G [.ref a, .int k] ([oM a nw th ps sl hd pd od v, aJ G nw 456 f]) (f_X5_count_r v f k) ([oM a nw th ps sl hd pd od v, aJ G nw 456 f]) := by
  refine ct_I RX5 [(0, .ref a), (1, .int k)] rfl (by decide +kernel) (Nat.le_of_ble_eq_true rfl) rfl ?_
  intro p e s m args below meth c A C hr hk hnm
  generalize hQ : (MQ below (PostI G A (f_X5_count_r v f k) ([oM a nw th ps sl hd pd od v, aJ G nw 456 f])) args s (RM 1).cells (RM 1).slots A) = Q
  refine j_iload_n C dX5_count_0 1 rfl ?_
  refine j_i2l C dX5_count_1 rfl ?_
  refine j_lconst (v := 0) C dX5_count_2 (by decide) ?_
  refine j_ldc2 (v := 14) C kw_672 dX5_count_3 ?_
  refine j_pureS_i (r := f_X5_in_r k.toInt64 0 14) C (m_X5_in l G k.toInt64 0 14) 3 (gS kw_523 kw_524 kw_7 kw_525) (by decide +kernel) ⟨(Nat.le_of_ble_eq_true rfl), (Nat.le_of_ble_eq_true rfl)⟩ rfl rfl (Nat.le_of_ble_eq_true rfl) dX5_count_6 ⟨(Nat.le_of_ble_eq_true rfl), (Nat.le_of_ble_eq_true rfl)⟩ ?_
  refine j_if_ne (tgt := 15) C dX5_count_9 (by decide) (fun c9 => ?_) (fun c9 => ?_)
  · refine j_iload_n C dX5_count_15 1 rfl ?_
    refine j_iconst (v := 2) C dX5_count_16 (by decide) ?_
    refine j_icmp_ge (tgt := 45) C dX5_count_17 (by decide) (fun c17 => ?_) (fun c17 => ?_)
    · refine j_iload_n C dX5_count_45 1 rfl ?_
      refine j_bipush (v := 6) C dX5_count_46 (by decide) ?_
      have K103 : WJ p l e (RM 1) s m args below meth c G A 2 0 0 Q ([oM a nw th ps sl hd pd od v, aJ G nw 456 f]) [(0, .ref a), (1, .int k)] 103 [.int (f_X5_count_x2 v f k)] := by
        generalize hw0 : f_X5_count_x2 v f k = w0
        subst hQ; subst hw0; exact j_iret C hr hk ((show f_X5_count_r v f k = (f_X5_count_x2 v f k) from ((if_neg c9).trans (if_pos c17))).symm) rfl dX5_count_103
      refine j_icmp_ge (tgt := 65) C dX5_count_48 (by decide) (fun c48 => ?_) (fun c48 => ?_)
      · refine j_iload_n C dX5_count_65 1 rfl ?_
        refine j_bipush (v := 13) C dX5_count_66 (by decide) ?_
        refine j_icmp_ge (tgt := 86) C dX5_count_68 (by decide) (fun c68 => ?_) (fun c68 => ?_)
        · refine j_iload_n C dX5_count_86 1 rfl ?_
          refine j_bipush (v := 13) C dX5_count_87 (by decide) ?_
          refine j_icmp_ne (tgt := 99) C dX5_count_89 (by decide) (fun c89 => ?_) (fun c89 => ?_)
          · refine j_aload_n C dX5_count_99 0 rfl ?_
            refine j_get C kin5 rfl 0 rfl 3 (by decide) kw_492 rfl (v := .int (v 3)) rfl dX5_count_100 ?_
            exact j_eq rfl rfl (by rw [show f_X5_count_x2 v f k = v 3 from ((if_pos c48).trans ((if_pos c68).trans (if_neg c89)))]) K103
          · refine j_aload_n C dX5_count_92 0 rfl ?_
            refine j_get C kin5 rfl 0 rfl 7 (by decide) kw_496 rfl (v := .int (v 7)) rfl dX5_count_93 ?_
            refine j_goto (tgt := 103) C dX5_count_96 (by decide) ?_
            exact j_eq rfl rfl (by rw [show f_X5_count_x2 v f k = v 7 from ((if_pos c48).trans ((if_pos c68).trans (if_pos c89)))]) K103
        · refine j_aload_n C dX5_count_71 0 rfl ?_
          refine j_get C kin5 rfl 0 rfl 0 (by decide) kw_489 rfl (v := .ref nw) rfl dX5_count_72 ?_
          refine j_iconst (v := 5) C dX5_count_75 (by decide) ?_
          refine j_iload_n C dX5_count_76 1 rfl ?_
          refine j_iadd C dX5_count_77 rfl ?_
          refine j_bipush (v := 6) C dX5_count_78 (by decide) ?_
          refine j_isub C dX5_count_80 rfl ?_
          refine j_lald C 1 rfl (vin_ctB c48 c68) (v := f ((5 + k) - 6).toNatClampNeg) rfl dX5_count_81 ?_
          refine j_l2i C dX5_count_82 rfl ?_
          refine j_goto (tgt := 103) C dX5_count_83 (by decide) ?_
          exact j_eq rfl rfl (by rw [show f_X5_count_x2 v f k = (f ((5 + k) - 6).toNatClampNeg).toInt32 from ((if_pos c48).trans (if_neg c68))]) K103
      · refine j_aload_n C dX5_count_51 0 rfl ?_
        refine j_get C kin5 rfl 0 rfl 0 (by decide) kw_489 rfl (v := .ref nw) rfl dX5_count_52 ?_
        refine j_iconst (v := 1) C dX5_count_55 (by decide) ?_
        refine j_iload_n C dX5_count_56 1 rfl ?_
        refine j_iadd C dX5_count_57 rfl ?_
        refine j_iconst (v := 2) C dX5_count_58 (by decide) ?_
        refine j_isub C dX5_count_59 rfl ?_
        refine j_lald C 1 rfl (vin_ctA c17 c48) (v := f ((1 + k) - 2).toNatClampNeg) rfl dX5_count_60 ?_
        refine j_l2i C dX5_count_61 rfl ?_
        refine j_goto (tgt := 103) C dX5_count_62 (by decide) ?_
        exact j_eq rfl rfl (by rw [show f_X5_count_x2 v f k = (f ((1 + k) - 2).toNatClampNeg).toInt32 from (if_neg c48)]) K103
    · refine j_iload_n C dX5_count_20 1 rfl ?_
      have K43 : WJ p l e (RM 1) s m args below meth c G A 2 0 0 Q ([oM a nw th ps sl hd pd od v, aJ G nw 456 f]) [(0, .ref a), (1, .int k)] 43 [.long (f_X5_count_x3 v f k)] := by
        generalize hw1 : f_X5_count_x3 v f k = w1
        refine j_l2i C dX5_count_43 rfl ?_
        subst hQ; subst hw1; exact j_iret C hr hk ((show f_X5_count_r v f k = (f_X5_count_x3 v f k).toInt32 from ((if_neg c9).trans (if_neg c17))).symm) rfl dX5_count_44
      refine j_if_ne (tgt := 33) C dX5_count_21 (by decide) (fun c21 => ?_) (fun c21 => ?_)
      · refine j_aload_n C dX5_count_33 0 rfl ?_
        refine j_get C kin5 rfl 0 rfl 0 (by decide) kw_489 rfl (v := .ref nw) rfl dX5_count_34 ?_
        refine j_iconst (v := 0) C dX5_count_37 (by decide) ?_
        refine j_lald C 1 rfl (vin_lit rfl) (v := f 0) rfl dX5_count_38 ?_
        refine j_ldc2 (v := 60) C kw_480 dX5_count_39 ?_
        refine j_ldiv C dX5_count_42 (by decide) rfl ?_
        exact j_eq rfl rfl (by rw [show f_X5_count_x3 v f k = (f 0) / 60 from (if_neg c21)]) K43
      · refine j_aload_n C dX5_count_24 0 rfl ?_
        refine j_get C kin5 rfl 0 rfl 0 (by decide) kw_489 rfl (v := .ref nw) rfl dX5_count_25 ?_
        refine j_iconst (v := 0) C dX5_count_28 (by decide) ?_
        refine j_lald C 1 rfl (vin_lit rfl) (v := f 0) rfl dX5_count_29 ?_
        refine j_goto (tgt := 43) C dX5_count_30 (by decide) ?_
        exact j_eq rfl rfl (by rw [show f_X5_count_x3 v f k = f 0 from (if_pos c21)]) K43
  · refine j_bipush (v := (-2)) C dX5_count_12 (by decide) ?_
    subst hQ; exact j_iret C hr hk ((show f_X5_count_r v f k = (-2) from (if_pos c9)).symm) rfl dX5_count_14
