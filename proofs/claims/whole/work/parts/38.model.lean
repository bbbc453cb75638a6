/-! THE MODEL: the first safe hour, the least room -/
theorem hidx32 {k y : Int32} (hk : vp_in k 4) (hy : vp_in y 100) : 56 + 100 * k + y = nI (56 + 100 * k.toNatClampNeg + y.toNatClampNeg) := by
  obtain ⟨i, hi, rfl⟩ := vp_in_of hy (by decide)
  have h := hidx (t := (nI i).toInt64) hk (by rw [Int32.toInt_toInt64, nI_toInt (by omega)]; omega) (by rw [Int32.toInt_toInt64, nI_toInt (by omega)]; omega)
  rw [Int32.toInt32_toInt64, Int32.toInt_toInt64, nI_toInt (by omega)] at h
  rw [h, nI_clamp (by omega)]
  rfl
theorem okR_hour {f : Nat → Int64} {k y : Int32} {x : Int64} (hk : vp_in k 4) (hy : vp_in y 100) (h : okR f) : okR (vp_updL f (56 + 100 * k + y).toNatClampNeg x) := by
  have h1 := vin_nat hk
  have h2 := vin_nat hy
  refine okR_upd h fun j hj => ?_
  rw [hidx32 hk hy, nI_clamp (by omega)]
  omega
theorem vin_t {t : Int64} (h0 : 0 ≤ t.toInt) (h : ¬ 0 ≤ lg_cmp t 100) : vp_in t.toInt32 100 := by
  have h1 := Int64.lt_iff_toInt_lt.mp (Int64.not_le.mp (mt (lg_cmp_ge t 100).mpr h))
  have h2 : t.toInt < 100 := by simpa using h1
  refine vp_in_iff.mpr ?_
  rw [Int64.toInt_toInt32, Int.bmod_eq_of_le (by omega) (by omega)]
  omega
theorem saf_step {t : Int64} {F : Int} {n : Nat} (h0 : 0 ≤ t.toInt) (h : ¬ 0 ≤ lg_cmp t 100) (hF : t.toInt + ((n + 1 : Nat) : Int) = F) : 0 ≤ (t + 1).toInt ∧ (t + 1).toInt + (n : Int) = F := by
  have h1 := Int64.lt_iff_toInt_lt.mp (Int64.not_le.mp (mt (lg_cmp_ge t 100).mpr h))
  have h2 : t.toInt < 100 := by simpa using h1
  rw [Int64.toInt_add, show (1 : Int64).toInt = 1 by decide, Int.bmod_eq_of_le (by omega) (by omega)]
  omega
theorem saf_zero {t F : Int64} (hF : t.toInt + ((0 : Nat) : Int) = F.toInt) : 0 ≤ lg_cmp t F := (lg_cmp_ge t F).mpr (Int64.le_iff_toInt_le.mpr (by omega))
theorem saf_succ {t F : Int64} {n : Nat} (hF : t.toInt + ((n + 1 : Nat) : Int) = F.toInt) : ¬ 0 ≤ lg_cmp t F := fun h => by
  have := Int64.le_iff_toInt_le.mp ((lg_cmp_ge t F).mp h)
  omega
theorem saf_start {x : Int64} (h0 : 0 ≤ x.toInt) (h1 : x.toInt < 2 ^ 31) : 0 ≤ (x / 60 + 1).toInt ∧ (x / 60 + 1).toInt + ((24 : Nat) : Int) = (x / 60 + 1 + 24).toInt := by
  have e : (x / 60).toInt = x.toInt / 60 := by
    rw [Int64.toInt_div_of_ne_right x 60 (by decide), show (60 : Int64).toInt = 60 by decide, Int.tdiv_eq_ediv_of_nonneg h0]
  have e1 : (x / 60 + 1).toInt = x.toInt / 60 + 1 := by
    rw [Int64.toInt_add, e, show (1 : Int64).toInt = 1 by decide, Int.bmod_eq_of_le (by omega) (by omega)]
  rw [Int64.toInt_add (x / 60 + 1) 24, e1, show (24 : Int64).toInt = 24 by decide, Int.bmod_eq_of_le (by omega) (by omega)]
  omega
noncomputable def f_X5_isSafe_rq2 (v : Nat → Int32) (f : Nat → Int64) (g : Nat → Int64) (k : Int32) (y : Int32) : Int64 := mosM (vp_updL (f_X5_tries_g v f g) ((56 + (100 * k)) + y).toNatClampNeg 1) k (((60 * y.toInt64) - (f 0)).toInt32).toNatClampNeg
noncomputable def f_X5_isSafe_gq2 (v : Nat → Int32) (f : Nat → Int64) (g : Nat → Int64) (k : Int32) (y : Int32) : (Nat → Int64) := pasM (vp_updL (f_X5_tries_g v f g) ((56 + (100 * k)) + y).toNatClampNeg 1) (((60 * y.toInt64) - (f 0)).toInt32).toNatClampNeg
noncomputable def f_X5_isSafe_rq4 (v : Nat → Int32) (f : Nat → Int64) (g : Nat → Int64) (k : Int32) (y : Int32) : Int64 := mosM (f_X5_isSafe_gq2 v f g k y) k (60 : Int32).toNatClampNeg
noncomputable def f_X5_isSafe_rq5 (v : Nat → Int32) (f : Nat → Int64) (g : Nat → Int64) (k : Int32) (y : Int32) : Int64 := f_X5_overruns_r (pasM (f_X5_isSafe_gq2 v f g k y) (60 : Int32).toNatClampNeg)
noncomputable def f_X5_isSafe_x6 (v : Nat → Int32) (f : Nat → Int64) (g : Nat → Int64) (k : Int32) (y : Int32) : Int32 := (if lg_cmp (f_X5_isSafe_rq5 v f g k y) (f_X5_overruns_r (f_X5_isSafe_gq2 v f g k y)) = 0 then 1 else 0)
noncomputable def f_X5_isSafe_g (v : Nat → Int32) (f : Nat → Int64) (g : Nat → Int64) (k : Int32) (y : Int32) : (Nat → Int64) := pasM (f_X5_isSafe_gq2 v f g k y) (60 : Int32).toNatClampNeg
noncomputable def f_X5_isSafe_r (v : Nat → Int32) (f : Nat → Int64) (g : Nat → Int64) (k : Int32) (y : Int32) : Int32 := (f_X5_isSafe_x6 v f g k y)
set_option maxRecDepth 100000 in
set_option maxHeartbeats 4000000 in
theorem m_X5_isSafe (l : Launch) (G : GG) (a nw th ps sl hd pd od : Nat) (v : Nat → Int32) (f : Nat → Int64) (g : Nat → Int64) (k : Int32) (y : Int32) (h4 : vp_in k 4) (hy : vp_in y 100) (h8 : okR f) : CtI l yX5_isSafe cX5_isSafe 5 (some .boolean) (RM 5) G [.ref a, .int k, .int y] ([oM a nw th ps sl hd pd od v, aJ G nw 456 f, aJ G th 456 g]) (f_X5_isSafe_r v f g k y) ([oM a nw th ps sl hd pd od v, aJ G nw 456 f, aJ G th 456 (f_X5_isSafe_g v f g k y)]) := by
  refine ct_I RX5 [(0, .ref a), (1, .int k), (2, .int y)] rfl (by decide +kernel) (Nat.le_of_ble_eq_true rfl) rfl ?_
  intro p e s m args below meth c A C hr hk hnm
  generalize hQ : (MQ below (PostI G A (f_X5_isSafe_r v f g k y) ([oM a nw th ps sl hd pd od v, aJ G nw 456 f, aJ G th 456 (f_X5_isSafe_g v f g k y)])) args s (RM 5).cells (RM 5).slots A) = Q
  refine j_aload_n C dX5_isSafe_0 0 rfl ?_
  refine j_callV_v (wc' := [oM a nw th ps sl hd pd od v, aJ G nw 456 f, aJ G th 456 (f_X5_tries_g v f g)]) C (m_X5_tries l G a nw th ps sl hd pd od v f g) rfl 0 rfl 0 (gV kw_680 kw_681 kw_780 kw_7 kw_682) (by decide +kernel) ⟨(Nat.le_of_ble_eq_true rfl), (Nat.le_of_ble_eq_true rfl)⟩ rfl rfl (Nat.le_of_ble_eq_true rfl) dX5_isSafe_1 ⟨(Nat.le_of_ble_eq_true rfl), (Nat.le_of_ble_eq_true rfl)⟩ [] [oM a nw th ps sl hd pd od v, aJ G nw 456 f, aJ G th 456 (f_X5_tries_g v f g)] (perm_idx [0, 1, 2] 3 rfl (by decide +kernel) rfl) rfl ?_
  refine j_aload_n C dX5_isSafe_4 0 rfl ?_
  refine j_get C kin5 rfl 0 rfl 1 (by decide) kw_490 rfl (v := .ref th) rfl dX5_isSafe_5 ?_
  refine j_bipush (v := 56) C dX5_isSafe_8 (by decide) ?_
  refine j_bipush (v := 100) C dX5_isSafe_10 (by decide) ?_
  refine j_iload_n C dX5_isSafe_12 1 rfl ?_
  refine j_imul C dX5_isSafe_13 rfl ?_
  refine j_iadd C dX5_isSafe_14 rfl ?_
  refine j_iload_n C dX5_isSafe_15 2 rfl ?_
  refine j_iadd C dX5_isSafe_16 rfl ?_
  refine j_lconst (v := 1) C dX5_isSafe_17 (by decide) ?_
  refine j_last C 2 rfl (vin_hx h4 hy) ([oM a nw th ps sl hd pd od v, aJ G nw 456 f, aJ G th 456 (vp_updL (f_X5_tries_g v f g) ((56 + (100 * k)) + y).toNatClampNeg 1)]) rfl dX5_isSafe_18 ?_
  refine j_aload_n C dX5_isSafe_19 0 rfl ?_
  refine j_ldc2 (v := 60) C kw_480 dX5_isSafe_20 ?_
  refine j_iload_n C dX5_isSafe_23 2 rfl ?_
  refine j_i2l C dX5_isSafe_24 rfl ?_
  refine j_lmul C dX5_isSafe_25 rfl ?_
  refine j_aload_n C dX5_isSafe_26 0 rfl ?_
  refine j_get C kin5 rfl 0 rfl 0 (by decide) kw_489 rfl (v := .ref nw) rfl dX5_isSafe_27 ?_
  refine j_iconst (v := 0) C dX5_isSafe_30 (by decide) ?_
  refine j_lald C 1 rfl (vin_lit rfl) (v := f 0) rfl dX5_isSafe_31 ?_
  refine j_lsub C dX5_isSafe_32 rfl ?_
  refine j_l2i C dX5_isSafe_33 rfl ?_
  refine j_iload_n C dX5_isSafe_34 1 rfl ?_
  refine j_callV_l (r := mosM (vp_updL (f_X5_tries_g v f g) ((56 + (100 * k)) + y).toNatClampNeg 1) k (((60 * y.toInt64) - (f 0)).toInt32).toNatClampNeg) (wc' := [oM a nw th ps sl hd pd od v, aJ G th 456 (pasM (vp_updL (f_X5_tries_g v f g) ((56 + (100 * k)) + y).toNatClampNeg 1) (((60 * y.toInt64) - (f 0)).toInt32).toNatClampNeg)]) C (m_X5_passesThen l G a nw th ps sl hd pd od v (vp_updL (f_X5_tries_g v f g) ((56 + (100 * k)) + y).toNatClampNeg 1) (((60 * y.toInt64) - (f 0)).toInt32) k h4 (by exact okR_hour h4 hy (okR_lay h8))) rfl 0 rfl 2 (gV kw_683 kw_684 kw_781 kw_7 kw_685) (by decide +kernel) ⟨(Nat.le_of_ble_eq_true rfl), (Nat.le_of_ble_eq_true rfl)⟩ rfl rfl (Nat.le_of_ble_eq_true rfl) dX5_isSafe_35 ⟨(Nat.le_of_ble_eq_true rfl), (Nat.le_of_ble_eq_true rfl)⟩ [aJ G nw 456 f] [oM a nw th ps sl hd pd od v, aJ G th 456 (pasM (vp_updL (f_X5_tries_g v f g) ((56 + (100 * k)) + y).toNatClampNeg 1) (((60 * y.toInt64) - (f 0)).toInt32).toNatClampNeg), aJ G nw 456 f] (perm_idx [0, 2, 1] 3 rfl (by decide +kernel) rfl) rfl ?_
  generalize hzw0 : mosM (vp_updL (f_X5_tries_g v f g) ((56 + (100 * k)) + y).toNatClampNeg 1) k (((60 * y.toInt64) - (f 0)).toInt32).toNatClampNeg = w0
  have hw0 : f_X5_isSafe_rq2 v f g k y = w0 := by subst hzw0; rfl
  generalize hzw1 : pasM (vp_updL (f_X5_tries_g v f g) ((56 + (100 * k)) + y).toNatClampNeg 1) (((60 * y.toInt64) - (f 0)).toInt32).toNatClampNeg = w1
  have hw1 : f_X5_isSafe_gq2 v f g k y = w1 := by subst hw0; subst hzw1; rfl
  refine j_pop2_2 C dX5_isSafe_38 rfl ?_
  refine j_aload_n C dX5_isSafe_39 0 rfl ?_
  refine j_get C kin5 rfl 0 rfl 1 (by decide) kw_490 rfl (v := .ref th) rfl dX5_isSafe_40 ?_
  refine j_callS_l (r := f_X5_overruns_r w1) (wc' := [aJ G th 456 w1]) C (m_X5_overruns l G th w1) 1 (gS kw_702 kw_703 kw_7 kw_704) (by decide +kernel) ⟨(Nat.le_of_ble_eq_true rfl), (Nat.le_of_ble_eq_true rfl)⟩ rfl rfl (Nat.le_of_ble_eq_true rfl) dX5_isSafe_43 ⟨(Nat.le_of_ble_eq_true rfl), (Nat.le_of_ble_eq_true rfl)⟩ [oM a nw th ps sl hd pd od v, aJ G nw 456 f] [aJ G th 456 w1, oM a nw th ps sl hd pd od v, aJ G nw 456 f] (perm_idx [1, 0, 2] 3 rfl (by decide +kernel) rfl) rfl ?_
  refine j_lstore_n C [(3, .long (f_X5_overruns_r w1)), (0, .ref a), (1, .int k), (2, .int y)] dX5_isSafe_46 (by decide) rfl ?_
  refine j_aload_n C dX5_isSafe_47 1 rfl ?_
  refine j_bipush (v := 60) C dX5_isSafe_48 (by decide) ?_
  refine j_iload_n C dX5_isSafe_50 2 rfl ?_
  refine j_callV_l (r := mosM w1 k (60 : Int32).toNatClampNeg) (wc' := [oM a nw th ps sl hd pd od v, aJ G th 456 (pasM w1 (60 : Int32).toNatClampNeg)]) C (m_X5_passesThen l G a nw th ps sl hd pd od v w1 60 k h4 (by subst hw0 hw1; exact okR_pasM (okR_hour h4 hy (okR_lay h8)) _)) rfl 0 rfl 2 (gV kw_683 kw_684 kw_781 kw_7 kw_685) (by decide +kernel) ⟨(Nat.le_of_ble_eq_true rfl), (Nat.le_of_ble_eq_true rfl)⟩ rfl rfl (Nat.le_of_ble_eq_true rfl) dX5_isSafe_51 ⟨(Nat.le_of_ble_eq_true rfl), (Nat.le_of_ble_eq_true rfl)⟩ [aJ G nw 456 f] [oM a nw th ps sl hd pd od v, aJ G th 456 (pasM w1 (60 : Int32).toNatClampNeg), aJ G nw 456 f] (perm_idx [1, 0, 2] 3 rfl (by decide +kernel) rfl) rfl ?_
  generalize hzw2 : mosM w1 k (60 : Int32).toNatClampNeg = w2
  have hw2 : f_X5_isSafe_rq4 v f g k y = w2 := by subst hw0 hw1; subst hzw2; rfl
  refine j_pop2_2 C dX5_isSafe_54 rfl ?_
  refine j_aload_n C dX5_isSafe_55 1 rfl ?_
  refine j_get C kin5 rfl 0 rfl 1 (by decide) kw_490 rfl (v := .ref th) rfl dX5_isSafe_56 ?_
  refine j_callS_l (r := f_X5_overruns_r (pasM w1 (60 : Int32).toNatClampNeg)) (wc' := [aJ G th 456 (pasM w1 (60 : Int32).toNatClampNeg)]) C (m_X5_overruns l G th (pasM w1 (60 : Int32).toNatClampNeg)) 1 (gS kw_702 kw_703 kw_7 kw_704) (by decide +kernel) ⟨(Nat.le_of_ble_eq_true rfl), (Nat.le_of_ble_eq_true rfl)⟩ rfl rfl (Nat.le_of_ble_eq_true rfl) dX5_isSafe_59 ⟨(Nat.le_of_ble_eq_true rfl), (Nat.le_of_ble_eq_true rfl)⟩ [oM a nw th ps sl hd pd od v, aJ G nw 456 f] [aJ G th 456 (pasM w1 (60 : Int32).toNatClampNeg), oM a nw th ps sl hd pd od v, aJ G nw 456 f] (perm_idx [1, 0, 2] 3 rfl (by decide +kernel) rfl) rfl ?_
  generalize hzw3 : f_X5_overruns_r (pasM w1 (60 : Int32).toNatClampNeg) = w3
  have hw3 : f_X5_isSafe_rq5 v f g k y = w3 := by subst hw0 hw1 hw2; subst hzw3; rfl
  refine j_lload_n C dX5_isSafe_62 0 rfl ?_
  refine j_lcmp C dX5_isSafe_63 ?_
  have K72 : WJ p l e (RM 5) s m args below meth c G A 5 0 0 Q ([aJ G th 456 (pasM w1 (60 : Int32).toNatClampNeg), oM a nw th ps sl hd pd od v, aJ G nw 456 f]) [(3, .long (f_X5_overruns_r w1)), (0, .ref a), (1, .int k), (2, .int y)] 72 [.int (f_X5_isSafe_x6 v f g k y)] := by
    generalize hw4 : f_X5_isSafe_x6 v f g k y = w4
    refine j_perm ([oM a nw th ps sl hd pd od v, aJ G nw 456 f, aJ G th 456 (pasM w1 (60 : Int32).toNatClampNeg)]) (perm_idx [1, 2, 0] 3 rfl (by decide +kernel) rfl) ?_
    subst hQ; subst hw0 hw1 hw2 hw3 hw4; exact j_zret C hr hk (by unfold f_X5_isSafe_x6; (repeat' split) <;> rfl) ((show f_X5_isSafe_r v f g k y = (f_X5_isSafe_x6 v f g k y) from rfl).symm) (by rw [show f_X5_isSafe_g v f g k y = pasM (f_X5_isSafe_gq2 v f g k y) (60 : Int32).toNatClampNeg from rfl]) dX5_isSafe_72
  refine j_if_ne (tgt := 71) C dX5_isSafe_64 (by decide) (fun c64 => ?_) (fun c64 => ?_)
  · refine j_iconst (v := 0) C dX5_isSafe_71 (by decide) ?_
    subst hw0 hw1 hw2 hw3; exact j_eq rfl rfl (by rw [show f_X5_isSafe_x6 v f g k y = 0 from (if_neg c64)]) K72
  · refine j_iconst (v := 1) C dX5_isSafe_67 (by decide) ?_
    refine j_goto (tgt := 72) C dX5_isSafe_68 (by decide) ?_
    subst hw0 hw1 hw2 hw3; exact j_eq rfl rfl (by rw [show f_X5_isSafe_x6 v f g k y = 1 from (if_pos c64)]) K72
/-- the first safe hour: n hours left, the hour t -/
noncomputable def safM (v : Nat → Int32) (f : Nat → Int64) (k : Int32) : Nat → Int64 → (Nat → Int64) → Int32 × (Nat → Int64)
  | 0, _, g => (-6, g)
  | n + 1, t, g => if 0 ≤ lg_cmp t 100 then (-6, g) else if f_X5_hourOf_r f k t = 0 then (if f_X5_isSafe_r v f g k t.toInt32 = 0 then safM v f k n (t + 1) (f_X5_isSafe_g v f g k t.toInt32) else (t.toInt32, f_X5_isSafe_g v f g k t.toInt32)) else safM v f k n (t + 1) g
noncomputable def f_X5_firstSafe_s (v : Nat → Int32) (f g : Nat → Int64) (k : Int32) : Int32 × (Nat → Int64) := safM v f k 24 (f 0 / 60 + 1) g
noncomputable def f_X5_firstSafe_r (v : Nat → Int32) (f g : Nat → Int64) (k : Int32) : Int32 := if f_X5_isDrive_r k = 0 then -1 else (f_X5_firstSafe_s v f g k).1
noncomputable def f_X5_firstSafe_g (v : Nat → Int32) (f g : Nat → Int64) (k : Int32) : Nat → Int64 := if f_X5_isDrive_r k = 0 then g else (f_X5_firstSafe_s v f g k).2
set_option maxRecDepth 100000 in
set_option maxHeartbeats 4000000 in
theorem m_X5_firstSafe (l : Launch) (G : GG) (a nw th ps sl hd pd od : Nat) (v : Nat → Int32) (f : Nat → Int64) (g : Nat → Int64) (k : Int32) (h8 : okR f) (h0 : 0 ≤ (f 0).toInt) (h1 : (f 0).toInt < 2 ^ 31) : CtI l yX5_firstSafe cX5_firstSafe 6 (some .int) (RM 6) G [.ref a, .int k] ([oM a nw th ps sl hd pd od v, aJ G nw 456 f, aJ G th 456 g]) (f_X5_firstSafe_r v f g k) ([oM a nw th ps sl hd pd od v, aJ G nw 456 f, aJ G th 456 (f_X5_firstSafe_g v f g k)]) := by
  refine ct_I RX5 [(0, .ref a), (1, .int k)] rfl (by decide +kernel) (Nat.le_of_ble_eq_true rfl) rfl ?_
  intro p e s m args below meth c A C hr hk hnm
  generalize hQ : (MQ below (PostI G A (f_X5_firstSafe_r v f g k) ([oM a nw th ps sl hd pd od v, aJ G nw 456 f, aJ G th 456 (f_X5_firstSafe_g v f g k)])) args s (RM 6).cells (RM 6).slots A) = Q
  refine j_iload_n C dX5_firstSafe_0 1 rfl ?_
  refine j_pureS_i (r := f_X5_isDrive_r k) C (m_X5_isDrive l G k) 1 (gS kw_551 kw_552 kw_7 kw_553) (by decide +kernel) ⟨(Nat.le_of_ble_eq_true rfl), (Nat.le_of_ble_eq_true rfl)⟩ rfl rfl (Nat.le_of_ble_eq_true rfl) dX5_firstSafe_1 ⟨(Nat.le_of_ble_eq_true rfl), (Nat.le_of_ble_eq_true rfl)⟩ ?_
  refine j_if_ne (tgt := 9) C dX5_firstSafe_4 (by decide) (fun c4 => ?_) (fun c4 => ?_)
  · refine j_aload_n C dX5_firstSafe_9 0 rfl ?_
    refine j_get C kin5 rfl 0 rfl 0 (by decide) kw_489 rfl (v := .ref nw) rfl dX5_firstSafe_10 ?_
    refine j_iconst (v := 0) C dX5_firstSafe_13 (by decide) ?_
    refine j_lald C 1 rfl (vin_lit rfl) (v := f 0) rfl dX5_firstSafe_14 ?_
    refine j_ldc2 (v := 60) C kw_480 dX5_firstSafe_15 ?_
    refine j_ldiv C dX5_firstSafe_18 (by decide) rfl ?_
    refine j_lconst (v := 1) C dX5_firstSafe_19 (by decide) ?_
    refine j_ladd C dX5_firstSafe_20 rfl ?_
    refine j_lstore_n C [(2, .long (((f 0) / 60) + 1)), (0, .ref a), (1, .int k)] dX5_firstSafe_21 (by decide) rfl ?_
    refine j_lload_n C dX5_firstSafe_22 0 rfl ?_
    refine j_lstore C [(4, .long (((f 0) / 60) + 1)), (2, .long (((f 0) / 60) + 1)), (0, .ref a), (1, .int k)] dX5_firstSafe_23 (by decide) rfl ?_
    have L2 : ∀ (n : Nat) (t : Int64) (gq : Nat → Int64), 0 ≤ t.toInt → t.toInt + (n : Int) = (f 0 / 60 + 1 + 24).toInt → safM v f k n t gq = f_X5_firstSafe_s v f g k → WJ p l e (RM 6) s m args below meth c G A 6 0 0 Q ([oM a nw th ps sl hd pd od v, aJ G nw 456 f, aJ G th 456 gq]) [(4, .long t), (2, .long (((f 0) / 60) + 1)), (0, .ref a), (1, .int k)] 25 [] := by
      intro n
      induction n with
      | zero =>
        intro t gq h0 hm hx
        refine j_lload C dX5_firstSafe_25 0 rfl ?_
        refine j_lload_n C dX5_firstSafe_27 1 rfl ?_
        refine j_ldc2 (v := 24) C kw_698 dX5_firstSafe_28 ?_
        refine j_ladd C dX5_firstSafe_31 rfl ?_
        refine j_lcmp C dX5_firstSafe_32 ?_
        refine j_if_ge (tgt := 82) C dX5_firstSafe_33 (by decide) (fun c33 => ?_) (fun h => absurd (saf_zero hm) h)
        refine j_bipush (v := (-6)) C dX5_firstSafe_82 (by decide) ?_
        subst hQ; exact j_iret C hr hk (show (-6) = (f_X5_firstSafe_r v f g k) from ((if_neg c4).trans (congrArg Prod.fst hx.symm)).symm) (by rw [show (f_X5_firstSafe_g v f g k) = gq from (by have e := hx.symm; rw [f_X5_firstSafe_g, if_neg c4, e] <;> rfl)]) dX5_firstSafe_84
      | succ n ih =>
        intro t gq h0 hm hx
        refine j_lload C dX5_firstSafe_25 0 rfl ?_
        refine j_lload_n C dX5_firstSafe_27 1 rfl ?_
        refine j_ldc2 (v := 24) C kw_698 dX5_firstSafe_28 ?_
        refine j_ladd C dX5_firstSafe_31 rfl ?_
        refine j_lcmp C dX5_firstSafe_32 ?_
        refine j_if_ge (tgt := 82) C dX5_firstSafe_33 (by decide) (fun h => absurd h (saf_succ hm)) (fun c33 => ?_)
        refine j_lload C dX5_firstSafe_36 0 rfl ?_
        refine j_ldc2 (v := 100) C kw_583 dX5_firstSafe_38 ?_
        refine j_lcmp C dX5_firstSafe_41 ?_
        refine j_if_ge (tgt := 82) C dX5_firstSafe_42 (by decide) (fun c42 => ?_) (fun c42 => ?_)
        · refine j_bipush (v := (-6)) C dX5_firstSafe_82 (by decide) ?_
          subst hQ; exact j_iret C hr hk (show (-6) = (f_X5_firstSafe_r v f g k) from ((if_neg c4).trans (congrArg Prod.fst (hx.symm.trans (if_pos c42)))).symm) (by rw [show (f_X5_firstSafe_g v f g k) = gq from (by have e := (hx.symm.trans (if_pos c42)); rw [f_X5_firstSafe_g, if_neg c4, e] <;> rfl)]) dX5_firstSafe_84
        · refine j_aload_n C dX5_firstSafe_45 2 rfl ?_
          refine j_get C kin5 rfl 0 rfl 0 (by decide) kw_489 rfl (v := .ref nw) rfl dX5_firstSafe_46 ?_
          refine j_iload_n C dX5_firstSafe_49 3 rfl ?_
          refine j_lload C dX5_firstSafe_50 0 rfl ?_
          refine j_callS_i (r := f_X5_hourOf_r f k t) (wc' := [aJ G nw 456 f]) C (m_X5_hourOf l G nw f k t (drv5 c4)) 3 (gS kw_580 kw_581 kw_7 kw_582) (by decide +kernel) ⟨(Nat.le_of_ble_eq_true rfl), (Nat.le_of_ble_eq_true rfl)⟩ rfl rfl (Nat.le_of_ble_eq_true rfl) dX5_firstSafe_52 ⟨(Nat.le_of_ble_eq_true rfl), (Nat.le_of_ble_eq_true rfl)⟩ [oM a nw th ps sl hd pd od v, aJ G th 456 gq] [aJ G nw 456 f, oM a nw th ps sl hd pd od v, aJ G th 456 gq] (perm_idx [1, 0, 2] 3 rfl (by decide +kernel) rfl) rfl ?_
          refine j_if_ne (tgt := 73) C dX5_firstSafe_55 (by decide) (fun c55 => ?_) (fun c55 => ?_)
          · refine j_lload C dX5_firstSafe_73 0 rfl ?_
            refine j_lconst (v := 1) C dX5_firstSafe_75 (by decide) ?_
            refine j_ladd C dX5_firstSafe_76 rfl ?_
            refine j_lstore C [(4, .long (t + 1)), (2, .long (((f 0) / 60) + 1)), (0, .ref a), (1, .int k)] dX5_firstSafe_77 (by decide) rfl ?_
            refine j_goto (tgt := 25) C dX5_firstSafe_79 (by decide) ?_
            refine j_perm ([oM a nw th ps sl hd pd od v, aJ G nw 456 f, aJ G th 456 gq]) (perm_idx [1, 0, 2] 3 rfl (by decide +kernel) rfl) ?_
            exact j_eq rfl rfl rfl (ih (t + 1) gq (saf_step h0 c42 hm).1 (saf_step h0 c42 hm).2 (((if_neg c42).trans (if_neg c55)).symm.trans hx))
          · refine j_aload_n C dX5_firstSafe_58 2 rfl ?_
            refine j_iload_n C dX5_firstSafe_59 3 rfl ?_
            refine j_lload C dX5_firstSafe_60 0 rfl ?_
            refine j_l2i C dX5_firstSafe_62 rfl ?_
            refine j_callV_i (r := f_X5_isSafe_r v f gq k t.toInt32) (wc' := [oM a nw th ps sl hd pd od v, aJ G nw 456 f, aJ G th 456 (f_X5_isSafe_g v f gq k t.toInt32)]) C (m_X5_isSafe l G a nw th ps sl hd pd od v f gq k t.toInt32 (drv5 c4) (vin_t h0 c42) h8) rfl 0 rfl 2 (gV kw_699 kw_700 kw_782 kw_7 kw_701) (by decide +kernel) ⟨(Nat.le_of_ble_eq_true rfl), (Nat.le_of_ble_eq_true rfl)⟩ rfl rfl (Nat.le_of_ble_eq_true rfl) dX5_firstSafe_63 ⟨(Nat.le_of_ble_eq_true rfl), (Nat.le_of_ble_eq_true rfl)⟩ [] [oM a nw th ps sl hd pd od v, aJ G nw 456 f, aJ G th 456 (f_X5_isSafe_g v f gq k t.toInt32)] (perm_idx [1, 0, 2] 3 rfl (by decide +kernel) rfl) rfl ?_
            refine j_if_eq (tgt := 73) C dX5_firstSafe_66 (by decide) (fun c66 => ?_) (fun c66 => ?_)
            · refine j_lload C dX5_firstSafe_73 0 rfl ?_
              refine j_lconst (v := 1) C dX5_firstSafe_75 (by decide) ?_
              refine j_ladd C dX5_firstSafe_76 rfl ?_
              refine j_lstore C [(4, .long (t + 1)), (2, .long (((f 0) / 60) + 1)), (0, .ref a), (1, .int k)] dX5_firstSafe_77 (by decide) rfl ?_
              refine j_goto (tgt := 25) C dX5_firstSafe_79 (by decide) ?_
              exact j_eq rfl rfl rfl (ih (t + 1) (f_X5_isSafe_g v f gq k t.toInt32) (saf_step h0 c42 hm).1 (saf_step h0 c42 hm).2 (((if_neg c42).trans ((if_pos c55).trans (if_pos c66))).symm.trans hx))
            · refine j_lload C dX5_firstSafe_69 0 rfl ?_
              refine j_l2i C dX5_firstSafe_71 rfl ?_
              subst hQ; exact j_iret C hr hk (show t.toInt32 = (f_X5_firstSafe_r v f g k) from ((if_neg c4).trans (congrArg Prod.fst (hx.symm.trans ((if_neg c42).trans ((if_pos c55).trans (if_neg c66)))))).symm) (by rw [show (f_X5_firstSafe_g v f g k) = (f_X5_isSafe_g v f gq k t.toInt32) from (by have e := (hx.symm.trans ((if_neg c42).trans ((if_pos c55).trans (if_neg c66)))); rw [f_X5_firstSafe_g, if_neg c4, e] <;> rfl)]) dX5_firstSafe_72
    exact j_eq rfl rfl rfl (L2 24 (((f 0) / 60) + 1) g (saf_start h0 h1).1 (saf_start h0 h1).2 rfl)
  · refine j_iconst (v := (-1)) C dX5_firstSafe_7 (by decide) ?_
    subst hQ; exact j_iret C hr hk (show (-1) = (f_X5_firstSafe_r v f g k) from (if_pos c4).symm) (by rw [show (f_X5_firstSafe_g v f g k) = g from (if_pos c4)]) dX5_firstSafe_8
theorem okR_room {f g : Nat → Int64} {x : Int64} (h : okR f) : okR (vp_updL (lay f 0 g 0 456) 11 x) := okR_upd (okR_lay h) (by omega)
/-- the least room: n rooms left, the room i -/
noncomputable def rooM (f : Nat → Int64) (y : Int32) : Nat → Nat → (Nat → Int64) → Int32 × (Nat → Int64)
  | 0, _, g => (-6, g)
  | n + 1, i, g => if lg_cmp (f_X5_overruns_r (pasM (vp_updL (lay f 0 g 0 456) 11 (nI i).toInt64) (60 * y).toNatClampNeg)) (f_X5_overruns_r f) = 0 then (nI i, pasM (vp_updL (lay f 0 g 0 456) 11 (nI i).toInt64) (60 * y).toNatClampNeg) else rooM f y n (i + 1) (pasM (vp_updL (lay f 0 g 0 456) 11 (nI i).toInt64) (60 * y).toNatClampNeg)
noncomputable def f_X5_leastRoom_s (v : Nat → Int32) (f g : Nat → Int64) (y : Int32) : Int32 × (Nat → Int64) := rooM f y 61 0 g
noncomputable def f_X5_leastRoom_r (v : Nat → Int32) (f g : Nat → Int64) (y : Int32) : Int32 := if f_X5_in_r y.toInt64 1 10 = 0 then -2 else (f_X5_leastRoom_s v f g y).1
noncomputable def f_X5_leastRoom_g (v : Nat → Int32) (f g : Nat → Int64) (y : Int32) : Nat → Int64 := if f_X5_in_r y.toInt64 1 10 = 0 then g else (f_X5_leastRoom_s v f g y).2
noncomputable def f_X5_leastRoom_rq4 (v : Nat → Int32) (f : Nat → Int64) (g : Nat → Int64) (y : Int32) (gq : Nat → Int64) (i : Nat) (n : Nat) : Int64 := mosM (vp_updL (f_X5_tries_g v f gq) 11 ((nI i).toInt64)) 0 (60 * y).toNatClampNeg
noncomputable def f_X5_leastRoom_gq4 (v : Nat → Int32) (f : Nat → Int64) (g : Nat → Int64) (y : Int32) (gq : Nat → Int64) (i : Nat) (n : Nat) : (Nat → Int64) := pasM (vp_updL (f_X5_tries_g v f gq) 11 ((nI i).toInt64)) (60 * y).toNatClampNeg
set_option maxRecDepth 100000 in
set_option maxHeartbeats 4000000 in
theorem m_X5_leastRoom (l : Launch) (G : GG) (a nw th ps sl hd pd od : Nat) (v : Nat → Int32) (f : Nat → Int64) (g : Nat → Int64) (y : Int32) (h8 : okR f) : CtI l yX5_leastRoom cX5_leastRoom 3 (some .int) (RM 5) G [.ref a, .int y] ([oM a nw th ps sl hd pd od v, aJ G nw 456 f, aJ G th 456 g]) (f_X5_leastRoom_r v f g y) ([oM a nw th ps sl hd pd od v, aJ G nw 456 f, aJ G th 456 (f_X5_leastRoom_g v f g y)]) := by
  refine ct_I RX5 [(0, .ref a), (1, .int y)] rfl (by decide +kernel) (Nat.le_of_ble_eq_true rfl) rfl ?_
  intro p e s m args below meth c A C hr hk hnm
  generalize hQ : (MQ below (PostI G A (f_X5_leastRoom_r v f g y) ([oM a nw th ps sl hd pd od v, aJ G nw 456 f, aJ G th 456 (f_X5_leastRoom_g v f g y)])) args s (RM 5).cells (RM 5).slots A) = Q
  refine j_iload_n C dX5_leastRoom_0 1 rfl ?_
  refine j_i2l C dX5_leastRoom_1 rfl ?_
  refine j_lconst (v := 1) C dX5_leastRoom_2 (by decide) ?_
  refine j_ldc2 (v := 10) C kw_709 dX5_leastRoom_3 ?_
  refine j_pureS_i (r := f_X5_in_r y.toInt64 1 10) C (m_X5_in l G y.toInt64 1 10) 3 (gS kw_523 kw_524 kw_7 kw_525) (by decide +kernel) ⟨(Nat.le_of_ble_eq_true rfl), (Nat.le_of_ble_eq_true rfl)⟩ rfl rfl (Nat.le_of_ble_eq_true rfl) dX5_leastRoom_6 ⟨(Nat.le_of_ble_eq_true rfl), (Nat.le_of_ble_eq_true rfl)⟩ ?_
  refine j_if_ne (tgt := 15) C dX5_leastRoom_9 (by decide) (fun c9 => ?_) (fun c9 => ?_)
  · refine j_iconst (v := 0) C dX5_leastRoom_15 (by decide) ?_
    refine j_istore_n C [(2, .int 0), (0, .ref a), (1, .int y)] dX5_leastRoom_16 (by decide) rfl ?_
    have L2 : ∀ (n : Nat) (gq : Nat → Int64) (i : Nat), i + n = 61 → rooM f y n i gq = f_X5_leastRoom_s v f g y → WJ p l e (RM 5) s m args below meth c G A 3 0 0 Q ([oM a nw th ps sl hd pd od v, aJ G nw 456 f, aJ G th 456 gq]) [(2, .int (nI i)), (0, .ref a), (1, .int y)] 17 [] := by
      intro n
      induction n with
      | zero =>
        intro gq i hIN hx
        refine j_iload_n C dX5_leastRoom_17 0 rfl ?_
        refine j_bipush (v := 60) C dX5_leastRoom_18 (by decide) ?_
        refine j_icmp_gt (tgt := 72) C dX5_leastRoom_20 (by decide) (fun c20 => ?_) (fun h => absurd (by rw [show i = 61 by omega]; decide) h)
        refine j_bipush (v := (-6)) C dX5_leastRoom_72 (by decide) ?_
        subst hQ; exact j_iret C hr hk (show (-6) = (f_X5_leastRoom_r v f g y) from ((if_neg c9).trans (congrArg Prod.fst hx.symm)).symm) (by rw [show (f_X5_leastRoom_g v f g y) = gq from (by have e := hx.symm; rw [f_X5_leastRoom_g, if_neg c9, e] <;> rfl)]) dX5_leastRoom_74
      | succ n ih =>
        intro gq i hIN hx
        refine j_iload_n C dX5_leastRoom_17 0 rfl ?_
        refine j_bipush (v := 60) C dX5_leastRoom_18 (by decide) ?_
        refine j_icmp_gt (tgt := 72) C dX5_leastRoom_20 (by decide) (fun h => absurd h (nI_nlt (a := 60) (b := i) (by omega) (by decide))) (fun c20 => ?_)
        refine j_aload_n C dX5_leastRoom_23 1 rfl ?_
        refine j_callV_v (wc' := [oM a nw th ps sl hd pd od v, aJ G nw 456 f, aJ G th 456 (f_X5_tries_g v f gq)]) C (m_X5_tries l G a nw th ps sl hd pd od v f gq) rfl 0 rfl 0 (gV kw_680 kw_681 kw_780 kw_7 kw_682) (by decide +kernel) ⟨(Nat.le_of_ble_eq_true rfl), (Nat.le_of_ble_eq_true rfl)⟩ rfl rfl (Nat.le_of_ble_eq_true rfl) dX5_leastRoom_24 ⟨(Nat.le_of_ble_eq_true rfl), (Nat.le_of_ble_eq_true rfl)⟩ [] [oM a nw th ps sl hd pd od v, aJ G nw 456 f, aJ G th 456 (f_X5_tries_g v f gq)] (perm_idx [0, 1, 2] 3 rfl (by decide +kernel) rfl) rfl ?_
        refine j_aload_n C dX5_leastRoom_27 1 rfl ?_
        refine j_get C kin5 rfl 0 rfl 1 (by decide) kw_490 rfl (v := .ref th) rfl dX5_leastRoom_28 ?_
        refine j_bipush (v := 11) C dX5_leastRoom_31 (by decide) ?_
        refine j_iload_n C dX5_leastRoom_33 0 rfl ?_
        refine j_i2l C dX5_leastRoom_34 rfl ?_
        refine j_last C 2 rfl (vin_lit rfl) ([oM a nw th ps sl hd pd od v, aJ G nw 456 f, aJ G th 456 (vp_updL (f_X5_tries_g v f gq) 11 ((nI i).toInt64))]) rfl dX5_leastRoom_35 ?_
        refine j_aload_n C dX5_leastRoom_36 1 rfl ?_
        refine j_bipush (v := 60) C dX5_leastRoom_37 (by decide) ?_
        refine j_iload_n C dX5_leastRoom_39 2 rfl ?_
        refine j_imul C dX5_leastRoom_40 rfl ?_
        refine j_iconst (v := 0) C dX5_leastRoom_41 (by decide) ?_
        refine j_callV_l (r := mosM (vp_updL (f_X5_tries_g v f gq) 11 ((nI i).toInt64)) 0 (60 * y).toNatClampNeg) (wc' := [oM a nw th ps sl hd pd od v, aJ G th 456 (pasM (vp_updL (f_X5_tries_g v f gq) 11 ((nI i).toInt64)) (60 * y).toNatClampNeg)]) C (m_X5_passesThen l G a nw th ps sl hd pd od v (vp_updL (f_X5_tries_g v f gq) 11 ((nI i).toInt64)) (60 * y) 0 (vin_lit (by decide)) (by exact okR_room h8)) rfl 0 rfl 2 (gV kw_683 kw_684 kw_781 kw_7 kw_685) (by decide +kernel) ⟨(Nat.le_of_ble_eq_true rfl), (Nat.le_of_ble_eq_true rfl)⟩ rfl rfl (Nat.le_of_ble_eq_true rfl) dX5_leastRoom_42 ⟨(Nat.le_of_ble_eq_true rfl), (Nat.le_of_ble_eq_true rfl)⟩ [aJ G nw 456 f] [oM a nw th ps sl hd pd od v, aJ G th 456 (pasM (vp_updL (f_X5_tries_g v f gq) 11 ((nI i).toInt64)) (60 * y).toNatClampNeg), aJ G nw 456 f] (perm_idx [0, 2, 1] 3 rfl (by decide +kernel) rfl) rfl ?_
        generalize hzw0 : mosM (vp_updL (f_X5_tries_g v f gq) 11 ((nI i).toInt64)) 0 (60 * y).toNatClampNeg = w0
        have hw0 : f_X5_leastRoom_rq4 v f g y gq i n = w0 := by subst hzw0; rfl
        generalize hzw1 : pasM (vp_updL (f_X5_tries_g v f gq) 11 ((nI i).toInt64)) (60 * y).toNatClampNeg = w1
        have hw1 : f_X5_leastRoom_gq4 v f g y gq i n = w1 := by subst hw0; subst hzw1; rfl
        refine j_pop2_2 C dX5_leastRoom_45 rfl ?_
        refine j_aload_n C dX5_leastRoom_46 1 rfl ?_
        refine j_get C kin5 rfl 0 rfl 1 (by decide) kw_490 rfl (v := .ref th) rfl dX5_leastRoom_47 ?_
        refine j_callS_l (r := f_X5_overruns_r w1) (wc' := [aJ G th 456 w1]) C (m_X5_overruns l G th w1) 1 (gS kw_702 kw_703 kw_7 kw_704) (by decide +kernel) ⟨(Nat.le_of_ble_eq_true rfl), (Nat.le_of_ble_eq_true rfl)⟩ rfl rfl (Nat.le_of_ble_eq_true rfl) dX5_leastRoom_50 ⟨(Nat.le_of_ble_eq_true rfl), (Nat.le_of_ble_eq_true rfl)⟩ [oM a nw th ps sl hd pd od v, aJ G nw 456 f] [aJ G th 456 w1, oM a nw th ps sl hd pd od v, aJ G nw 456 f] (perm_idx [1, 0, 2] 3 rfl (by decide +kernel) rfl) rfl ?_
        refine j_aload_n C dX5_leastRoom_53 1 rfl ?_
        refine j_get C kin5 rfl 1 rfl 0 (by decide) kw_489 rfl (v := .ref nw) rfl dX5_leastRoom_54 ?_
        refine j_callS_l (r := f_X5_overruns_r f) (wc' := [aJ G nw 456 f]) C (m_X5_overruns l G nw f) 1 (gS kw_702 kw_703 kw_7 kw_704) (by decide +kernel) ⟨(Nat.le_of_ble_eq_true rfl), (Nat.le_of_ble_eq_true rfl)⟩ rfl rfl (Nat.le_of_ble_eq_true rfl) dX5_leastRoom_57 ⟨(Nat.le_of_ble_eq_true rfl), (Nat.le_of_ble_eq_true rfl)⟩ [aJ G th 456 w1, oM a nw th ps sl hd pd od v] [aJ G nw 456 f, aJ G th 456 w1, oM a nw th ps sl hd pd od v] (perm_idx [2, 0, 1] 3 rfl (by decide +kernel) rfl) rfl ?_
        refine j_lcmp C dX5_leastRoom_60 ?_
        refine j_if_ne (tgt := 66) C dX5_leastRoom_61 (by decide) (fun c61 => ?_) (fun c61 => ?_)
        · refine j_iinc (v := nI (i + 1)) C [(2, .int (nI (i + 1))), (0, .ref a), (1, .int y)] dX5_leastRoom_66 (k := 0) rfl (nI_1 i) (by decide) rfl ?_
          refine j_goto (tgt := 17) C dX5_leastRoom_69 (by decide) ?_
          refine j_perm ([oM a nw th ps sl hd pd od v, aJ G nw 456 f, aJ G th 456 w1]) (perm_idx [2, 0, 1] 3 rfl (by decide +kernel) rfl) ?_
          subst hw0 hw1; exact j_eq rfl rfl rfl (ih (f_X5_leastRoom_gq4 v f g y gq i n) (i + 1) (by omega) ((if_neg c61).symm.trans hx))
        · refine j_iload_n C dX5_leastRoom_64 0 rfl ?_
          refine j_perm ([oM a nw th ps sl hd pd od v, aJ G nw 456 f, aJ G th 456 w1]) (perm_idx [2, 0, 1] 3 rfl (by decide +kernel) rfl) ?_
          subst hQ; subst hw0 hw1; exact j_iret C hr hk (show nI i = (f_X5_leastRoom_r v f g y) from ((if_neg c9).trans (congrArg Prod.fst (hx.symm.trans (if_pos c61)))).symm) (by rw [show (f_X5_leastRoom_g v f g y) = (f_X5_leastRoom_gq4 v f g y gq i n) from (by have e := (hx.symm.trans (if_pos c61)); rw [f_X5_leastRoom_g, if_neg c9, e] <;> rfl)]) dX5_leastRoom_65
    exact j_eq rfl rfl rfl (L2 61 g 0 (by omega) rfl)
  · refine j_bipush (v := (-2)) C dX5_leastRoom_12 (by decide) ?_
    subst hQ; exact j_iret C hr hk (show (-2) = (f_X5_leastRoom_r v f g y) from (if_pos c9).symm) (by rw [show (f_X5_leastRoom_g v f g y) = g from (if_pos c9)]) dX5_leastRoom_14
