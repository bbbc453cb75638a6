/-! THE MODEL: orders are carried out -/
theorem ord_k {k c : Int32} (hk : vp_in k 41) (hc : vp_in c 4) : vp_in (4 * k + c) 164 := by
  obtain ⟨i, hi, rfl⟩ := vp_in_of hc (by decide)
  obtain ⟨j, hj, rfl⟩ := vp_in_of hk (by decide)
  have e4 : (4 * nI j : Int32) = nI (4 * j) := by
    apply Int32.toInt_inj.mp
    rw [Int32.toInt_mul, nI_toInt (by omega), nI_toInt (by omega), show (4 : Int32).toInt = 4 by decide, Int.bmod_eq_of_le (by omega) (by omega)]
    omega
  rw [e4, nI_add]
  exact vp_in_nI (by omega) (by decide)
theorem ord_k0 {k : Int32} (hk : vp_in k 41) : vp_in (4 * k) 164 := by
  have := ord_k (c := 0) hk (vin_lit (by decide))
  rwa [Int32.add_zero] at this
noncomputable def f_X5_does_x1 (v : Nat → Int32) (f : Nat → Int64) (z : Nat → Int32) (k : Int32) : Int32 := (if z (4 * k).toNatClampNeg = 115 then 1 else 0)
noncomputable def f_X5_does_rq2 (v : Nat → Int32) (f : Nat → Int64) (z : Nat → Int32) (k : Int32) : Int32 := f_X5_mayTrade_r v f (z ((4 * k) + 1).toNatClampNeg) (z ((4 * k) + 2).toNatClampNeg) (f_X5_does_x1 v f z k)
noncomputable def f_X5_does_rq3 (v : Nat → Int32) (f : Nat → Int64) (z : Nat → Int32) (k : Int32) : Int32 := f_X5_mayWrite_r v f (z ((4 * k) + 1).toNatClampNeg) (z ((4 * k) + 2).toNatClampNeg)
noncomputable def f_X5_does_rq4 (v : Nat → Int32) (f : Nat → Int64) (z : Nat → Int32) (k : Int32) : Int32 := f_X5_mayStream_r v (z ((4 * k) + 1).toNatClampNeg) (z ((4 * k) + 2).toNatClampNeg) (z ((4 * k) + 3).toNatClampNeg)
noncomputable def f_X5_does_x6 (v : Nat → Int32) (f : Nat → Int64) (z : Nat → Int32) (k : Int32) : Int32 := (if z (4 * k).toNatClampNeg = 116 then (if f_X5_areMinutes_r (z ((4 * k) + 1).toNatClampNeg) = 0 then (-2) else 0) else (if z (4 * k).toNatClampNeg = 118 then (f_X5_does_rq4 v f z k) else (if z (4 * k).toNatClampNeg = 119 then (f_X5_does_rq3 v f z k) else (f_X5_does_rq2 v f z k))))
noncomputable def f_X5_does_x7 (v : Nat → Int32) (f : Nat → Int64) (z : Nat → Int32) (k : Int32) : Int32 := (if z (4 * k).toNatClampNeg = 115 then 1 else 0)
noncomputable def f_X5_does_rq8 (v : Nat → Int32) (f : Nat → Int64) (z : Nat → Int32) (k : Int32) : Int32 := f_X5_trades_r v f (z ((4 * k) + 1).toNatClampNeg) (z ((4 * k) + 2).toNatClampNeg) (f_X5_does_x7 v f z k)
noncomputable def f_X5_does_fq8 (v : Nat → Int32) (f : Nat → Int64) (z : Nat → Int32) (k : Int32) : (Nat → Int64) := f_X5_trades_f v f (z ((4 * k) + 1).toNatClampNeg) (z ((4 * k) + 2).toNatClampNeg) (f_X5_does_x7 v f z k)
noncomputable def f_X5_does_rq9 (v : Nat → Int32) (f : Nat → Int64) (z : Nat → Int32) (k : Int32) : Int32 := f_X5_comes_r v f (z ((4 * k) + 1).toNatClampNeg) (z ((4 * k) + 2).toNatClampNeg)
noncomputable def f_X5_does_fq9 (v : Nat → Int32) (f : Nat → Int64) (z : Nat → Int32) (k : Int32) : (Nat → Int64) := f_X5_comes_f v f (z ((4 * k) + 1).toNatClampNeg) (z ((4 * k) + 2).toNatClampNeg)
noncomputable def f_X5_does_rq10 (v : Nat → Int32) (f : Nat → Int64) (z : Nat → Int32) (k : Int32) : Int32 := f_X5_streams_r v f (z ((4 * k) + 1).toNatClampNeg) (z ((4 * k) + 2).toNatClampNeg) (z ((4 * k) + 3).toNatClampNeg)
noncomputable def f_X5_does_fq10 (v : Nat → Int32) (f : Nat → Int64) (z : Nat → Int32) (k : Int32) : (Nat → Int64) := f_X5_streams_f v f (z ((4 * k) + 1).toNatClampNeg) (z ((4 * k) + 2).toNatClampNeg) (z ((4 * k) + 3).toNatClampNeg)
noncomputable def f_X5_does_v12 (v : Nat → Int32) (f : Nat → Int64) (z : Nat → Int32) (k : Int32) : (Nat → Int64) := (if z (4 * k).toNatClampNeg = 116 then pasM f (z ((4 * k) + 1).toNatClampNeg).toNatClampNeg else (if z (4 * k).toNatClampNeg = 118 then (f_X5_does_fq10 v f z k) else (if z (4 * k).toNatClampNeg = 119 then (f_X5_does_fq9 v f z k) else (f_X5_does_fq8 v f z k))))
noncomputable def f_X5_does_f (v : Nat → Int32) (f : Nat → Int64) (z : Nat → Int32) (k : Int32) : (Nat → Int64) := (if (f_X5_does_x6 v f z k) = 0 then (f_X5_does_v12 v f z k) else f)
noncomputable def f_X5_does_r (v : Nat → Int32) (f : Nat → Int64) (z : Nat → Int32) (k : Int32) : Int32 := (if (f_X5_does_x6 v f z k) = 0 then 1 else 0)
theorem does_s {v z : Nat → Int32} {f : Nat → Int64} {k : Int32} (h : f_X5_does_x6 v f z k = 0) (h1 : ¬ z (4 * k).toNatClampNeg = 116) (h2 : z (4 * k).toNatClampNeg = 118) : f_X5_mayStream_r v (z ((4 * k) + 1).toNatClampNeg) (z ((4 * k) + 2).toNatClampNeg) (z ((4 * k) + 3).toNatClampNeg) = 0 := by
  unfold f_X5_does_x6 at h
  rw [if_neg h1, if_pos h2] at h
  exact h
theorem does_v {v z : Nat → Int32} {f : Nat → Int64} {k : Int32} (h : f_X5_does_x6 v f z k = 0) (h1 : ¬ z (4 * k).toNatClampNeg = 116) (h2 : z (4 * k).toNatClampNeg = 118) : vp_in (z ((4 * k) + 1).toNatClampNeg) 4 := stream_ok (does_s h h1 h2)
theorem does_w {v z : Nat → Int32} {f : Nat → Int64} {k : Int32} (h : f_X5_does_x6 v f z k = 0) (h1 : ¬ z (4 * k).toNatClampNeg = 116) (h2 : ¬ z (4 * k).toNatClampNeg = 118) (h3 : z (4 * k).toNatClampNeg = 119) : vp_in (z ((4 * k) + 1).toNatClampNeg) 4 := by
  unfold f_X5_does_x6 at h
  rw [if_neg h1, if_neg h2, if_pos h3] at h
  exact write_ok h
theorem does_t {v z : Nat → Int32} {f : Nat → Int64} {k : Int32} (h : f_X5_does_x6 v f z k = 0) (h1 : ¬ z (4 * k).toNatClampNeg = 116) (h2 : ¬ z (4 * k).toNatClampNeg = 118) (h3 : ¬ z (4 * k).toNatClampNeg = 119) : vp_in (z ((4 * k) + 1).toNatClampNeg) 4 ∧ vp_in (z ((4 * k) + 2).toNatClampNeg) 100 := by
  unfold f_X5_does_x6 at h
  rw [if_neg h1, if_neg h2, if_neg h3] at h
  exact trade_ok h
theorem stream_y {v : Nat → Int32} {k y x : Int32} (h : f_X5_mayStream_r v k y x = 0) : 1 ≤ y.toInt ∧ y.toInt ≤ 60 := by
  unfold f_X5_mayStream_r at h
  by_cases c4 : f_X5_isDrive_r k = 0
  · rw [if_pos c4] at h
    exact absurd h (by decide)
  · rw [if_neg c4] at h
    unfold f_X5_mayStream_x4 at h
    by_cases c5 : f_X5_in_r y.toInt64 1 60 = 0
    · rw [if_pos c5] at h
      exact absurd h (by decide)
    · have g := in_iff.mp c5
      rw [Int32.toInt_toInt64, show (1 : Int64).toInt = 1 by decide, show (60 : Int64).toInt = 60 by decide] at g
      exact g
theorem okR_streams {v : Nat → Int32} {f : Nat → Int64} {k y x : Int32} (hd : vp_in k 4) (hy : 1 ≤ y.toInt) (h : okR f) : okR (f_X5_streams_f v f k y x) := by
  have hk := vin_nat hd
  refine okR_row hd (by decide) (by decide) fun j hj => ?_
  rw [rw_cl hd (by decide), show (8 : Int32).toNatClampNeg = 8 by decide]
  by_cases e : 20 + 11 * j = 12 + 11 * k.toNatClampNeg + 8
  · rw [show vp_updL f (12 + 11 * k.toNatClampNeg + 8) y.toInt64 (20 + 11 * j) = y.toInt64 from if_pos e]
    intro g
    have g2 := congrArg Int64.toInt g
    rw [Int32.toInt_toInt64, show (0 : Int64).toInt = 0 by decide] at g2
    omega
  · rw [show vp_updL f (12 + 11 * k.toNatClampNeg + 8) y.toInt64 (20 + 11 * j) = f (20 + 11 * j) from if_neg e]
    exact h j hj
theorem okR_does {v z : Nat → Int32} {f : Nat → Int64} {k : Int32} (h : okR f) : okR (f_X5_does_f v f z k) := by
  unfold f_X5_does_f
  by_cases c : f_X5_does_x6 v f z k = 0
  · rw [if_pos c]
    unfold f_X5_does_v12
    by_cases c1 : z (4 * k).toNatClampNeg = 116
    · rw [if_pos c1]
      exact okR_pasM h _
    · rw [if_neg c1]
      by_cases c2 : z (4 * k).toNatClampNeg = 118
      · rw [if_pos c2]
        exact okR_streams (does_v c c1 c2) (stream_y (does_s c c1 c2)).1 h
      · rw [if_neg c2]
        by_cases c3 : z (4 * k).toNatClampNeg = 119
        · rw [if_pos c3]
          exact okR_row (does_w c c1 c2 c3) (by decide) (by decide) h
        · rw [if_neg c3]
          obtain ⟨g1, g2⟩ := does_t c c1 c2 c3
          exact okR_hour g1 g2 h
  · rw [if_neg c]
    exact h
set_option maxRecDepth 100000 in
set_option maxHeartbeats 4000000 in
theorem m_X5_does (l : Launch) (G : GG) (a nw th ps sl hd pd od : Nat) (v : Nat → Int32) (f : Nat → Int64) (z : Nat → Int32) (k : Int32) (hkk : vp_in k 41) (h8 : okR f) : CtI l yX5_does cX5_does 7 (some .boolean) (RM 6) G [.ref a, .int k] ([oM a nw th ps sl hd pd od v, aJ G nw 456 f, aI G od 164 z]) (f_X5_does_r v f z k) ([oM a nw th ps sl hd pd od v, aJ G nw 456 (f_X5_does_f v f z k), aI G od 164 z]) := by
  refine ct_I RX5 [(0, .ref a), (1, .int k)] rfl (by decide +kernel) (Nat.le_of_ble_eq_true rfl) rfl ?_
  intro p e s m args below meth c A C hr hk hnm
  generalize hQ : (MQ below (PostI G A (f_X5_does_r v f z k) ([oM a nw th ps sl hd pd od v, aJ G nw 456 (f_X5_does_f v f z k), aI G od 164 z])) args s (RM 6).cells (RM 6).slots A) = Q
  refine j_aload_n C dX5_does_0 0 rfl ?_
  refine j_get C kin5 rfl 0 rfl 9 (by decide) kw_498 rfl (v := .ref od) rfl dX5_does_1 ?_
  refine j_iconst (v := 4) C dX5_does_4 (by decide) ?_
  refine j_iload_n C dX5_does_5 1 rfl ?_
  refine j_imul C dX5_does_6 rfl ?_
  refine j_iald C 2 rfl (ord_k0 hkk) (v := z (4 * k).toNatClampNeg) rfl dX5_does_7 ?_
  refine j_istore_n C [(2, .int (z (4 * k).toNatClampNeg)), (0, .ref a), (1, .int k)] dX5_does_8 (by decide) rfl ?_
  refine j_aload_n C dX5_does_9 1 rfl ?_
  refine j_get C kin5 rfl 0 rfl 9 (by decide) kw_498 rfl (v := .ref od) rfl dX5_does_10 ?_
  refine j_iconst (v := 4) C dX5_does_13 (by decide) ?_
  refine j_iload_n C dX5_does_14 2 rfl ?_
  refine j_imul C dX5_does_15 rfl ?_
  refine j_iconst (v := 1) C dX5_does_16 (by decide) ?_
  refine j_iadd C dX5_does_17 rfl ?_
  refine j_iald C 2 rfl (ord_k hkk (vin_lit (by decide))) (v := z ((4 * k) + 1).toNatClampNeg) rfl dX5_does_18 ?_
  refine j_istore_n C [(3, .int (z ((4 * k) + 1).toNatClampNeg)), (2, .int (z (4 * k).toNatClampNeg)), (0, .ref a), (1, .int k)] dX5_does_19 (by decide) rfl ?_
  refine j_aload_n C dX5_does_20 2 rfl ?_
  refine j_get C kin5 rfl 0 rfl 9 (by decide) kw_498 rfl (v := .ref od) rfl dX5_does_21 ?_
  refine j_iconst (v := 4) C dX5_does_24 (by decide) ?_
  refine j_iload_n C dX5_does_25 3 rfl ?_
  refine j_imul C dX5_does_26 rfl ?_
  refine j_iconst (v := 2) C dX5_does_27 (by decide) ?_
  refine j_iadd C dX5_does_28 rfl ?_
  refine j_iald C 2 rfl (ord_k hkk (vin_lit (by decide))) (v := z ((4 * k) + 2).toNatClampNeg) rfl dX5_does_29 ?_
  refine j_istore C [(4, .int (z ((4 * k) + 2).toNatClampNeg)), (3, .int (z ((4 * k) + 1).toNatClampNeg)), (2, .int (z (4 * k).toNatClampNeg)), (0, .ref a), (1, .int k)] dX5_does_30 (by decide) rfl ?_
  refine j_aload_n C dX5_does_32 3 rfl ?_
  refine j_get C kin5 rfl 0 rfl 9 (by decide) kw_498 rfl (v := .ref od) rfl dX5_does_33 ?_
  refine j_iconst (v := 4) C dX5_does_36 (by decide) ?_
  refine j_iload_n C dX5_does_37 4 rfl ?_
  refine j_imul C dX5_does_38 rfl ?_
  refine j_iconst (v := 3) C dX5_does_39 (by decide) ?_
  refine j_iadd C dX5_does_40 rfl ?_
  refine j_iald C 2 rfl (ord_k hkk (vin_lit (by decide))) (v := z ((4 * k) + 3).toNatClampNeg) rfl dX5_does_41 ?_
  refine j_istore C [(5, .int (z ((4 * k) + 3).toNatClampNeg)), (4, .int (z ((4 * k) + 2).toNatClampNeg)), (3, .int (z ((4 * k) + 1).toNatClampNeg)), (2, .int (z (4 * k).toNatClampNeg)), (0, .ref a), (1, .int k)] dX5_does_42 (by decide) rfl ?_
  refine j_iload_n C dX5_does_44 3 rfl ?_
  refine j_bipush (v := 116) C dX5_does_45 (by decide) ?_
  have K118 : WJ p l e (RM 6) s m args below meth c G A 7 0 0 Q ([oM a nw th ps sl hd pd od v, aJ G nw 456 f, aI G od 164 z]) [(5, .int (z ((4 * k) + 3).toNatClampNeg)), (4, .int (z ((4 * k) + 2).toNatClampNeg)), (3, .int (z ((4 * k) + 1).toNatClampNeg)), (2, .int (z (4 * k).toNatClampNeg)), (0, .ref a), (1, .int k)] 118 [.int (f_X5_does_x6 v f z k)] := by
    generalize hw4 : f_X5_does_x6 v f z k = w4
    refine j_istore C [(6, .int w4), (5, .int (z ((4 * k) + 3).toNatClampNeg)), (4, .int (z ((4 * k) + 2).toNatClampNeg)), (3, .int (z ((4 * k) + 1).toNatClampNeg)), (2, .int (z (4 * k).toNatClampNeg)), (0, .ref a), (1, .int k)] dX5_does_118 (by decide) rfl ?_
    refine j_iload C dX5_does_120 0 rfl ?_
    refine j_if_eq (tgt := 127) C dX5_does_122 (by decide) (fun c122 => ?_) (fun c122 => ?_)
    · refine j_iload_n C dX5_does_127 4 rfl ?_
      refine j_bipush (v := 116) C dX5_does_128 (by decide) ?_
      have K196 : WJ p l e (RM 6) s m args below meth c G A 7 0 0 Q ([oM a nw th ps sl hd pd od v, aJ G nw 456 (f_X5_does_v12 v f z k), aI G od 164 z]) [(6, .int w4), (5, .int (z ((4 * k) + 3).toNatClampNeg)), (4, .int (z ((4 * k) + 2).toNatClampNeg)), (3, .int (z ((4 * k) + 1).toNatClampNeg)), (2, .int (z (4 * k).toNatClampNeg)), (0, .ref a), (1, .int k)] 196 [] := by
        generalize hw12 : f_X5_does_v12 v f z k = w12
        refine j_iconst (v := 1) C dX5_does_196 (by decide) ?_
        subst hQ; subst hw4 hw12; exact j_zret C hr hk rfl ((show f_X5_does_r v f z k = 1 from (if_pos c122)).symm) (by rw [show f_X5_does_f v f z k = (f_X5_does_v12 v f z k) from (if_pos c122)]) dX5_does_197
      refine j_icmp_ne (tgt := 141) C dX5_does_130 (by decide) (fun c130 => ?_) (fun c130 => ?_)
      · refine j_iload_n C dX5_does_141 4 rfl ?_
        refine j_bipush (v := 118) C dX5_does_142 (by decide) ?_
        refine j_icmp_ne (tgt := 160) C dX5_does_144 (by decide) (fun c144 => ?_) (fun c144 => ?_)
        · refine j_iload_n C dX5_does_160 4 rfl ?_
          refine j_bipush (v := 119) C dX5_does_161 (by decide) ?_
          refine j_icmp_ne (tgt := 177) C dX5_does_163 (by decide) (fun c163 => ?_) (fun c163 => ?_)
          · refine j_aload_n C dX5_does_177 5 rfl ?_
            refine j_iload_n C dX5_does_178 3 rfl ?_
            refine j_iload C dX5_does_179 2 rfl ?_
            refine j_iload_n C dX5_does_181 4 rfl ?_
            refine j_bipush (v := 115) C dX5_does_182 (by decide) ?_
            have K192 : WJ p l e (RM 6) s m args below meth c G A 7 0 0 Q ([oM a nw th ps sl hd pd od v, aJ G nw 456 f, aI G od 164 z]) [(6, .int w4), (5, .int (z ((4 * k) + 3).toNatClampNeg)), (4, .int (z ((4 * k) + 2).toNatClampNeg)), (3, .int (z ((4 * k) + 1).toNatClampNeg)), (2, .int (z (4 * k).toNatClampNeg)), (0, .ref a), (1, .int k)] 192 [.int (f_X5_does_x7 v f z k), .int (z ((4 * k) + 2).toNatClampNeg), .int (z ((4 * k) + 1).toNatClampNeg), .ref a] := by
              generalize hw5 : f_X5_does_x7 v f z k = w5
              refine j_callV_i (r := f_X5_trades_r v f (z ((4 * k) + 1).toNatClampNeg) (z ((4 * k) + 2).toNatClampNeg) w5) (wc' := [oM a nw th ps sl hd pd od v, aJ G nw 456 (f_X5_trades_f v f (z ((4 * k) + 1).toNatClampNeg) (z ((4 * k) + 2).toNatClampNeg) w5)]) C (m_X5_trades l G a nw th ps sl hd pd od v f (z ((4 * k) + 1).toNatClampNeg) (z ((4 * k) + 2).toNatClampNeg) w5 (by subst hw4 hw5; exact (does_t c122 c130 c144 c163).1) (by subst hw4 hw5; exact (does_t c122 c130 c144 c163).2)) rfl 0 rfl 3 (gV kw_584 kw_585 kw_777 kw_7 kw_586) (by decide +kernel) ⟨(Nat.le_of_ble_eq_true rfl), (Nat.le_of_ble_eq_true rfl)⟩ rfl rfl (Nat.le_of_ble_eq_true rfl) dX5_does_192 ⟨(Nat.le_of_ble_eq_true rfl), (Nat.le_of_ble_eq_true rfl)⟩ [aI G od 164 z] [oM a nw th ps sl hd pd od v, aJ G nw 456 (f_X5_trades_f v f (z ((4 * k) + 1).toNatClampNeg) (z ((4 * k) + 2).toNatClampNeg) w5), aI G od 164 z] (perm_idx [0, 1, 2] 3 rfl (by decide +kernel) rfl) rfl ?_
              generalize hzw6 : f_X5_trades_r v f (z ((4 * k) + 1).toNatClampNeg) (z ((4 * k) + 2).toNatClampNeg) w5 = w6
              have hw6 : f_X5_does_rq8 v f z k = w6 := by subst hw4 hw5; subst hzw6; rfl
              generalize hzw7 : f_X5_trades_f v f (z ((4 * k) + 1).toNatClampNeg) (z ((4 * k) + 2).toNatClampNeg) w5 = w7
              have hw7 : f_X5_does_fq8 v f z k = w7 := by subst hw4 hw5 hw6; subst hzw7; rfl
              refine j_pop C dX5_does_195 rfl ?_
              subst hw4 hw5 hw6 hw7; exact j_eq (by rw [show f_X5_does_v12 v f z k = (f_X5_does_fq8 v f z k) from ((if_neg c130).trans ((if_neg c144).trans (if_neg c163)))]) rfl rfl K196
            refine j_icmp_ne (tgt := 191) C dX5_does_184 (by decide) (fun c184 => ?_) (fun c184 => ?_)
            · refine j_iconst (v := 0) C dX5_does_191 (by decide) ?_
              subst hw4; exact j_eq rfl rfl (by rw [show f_X5_does_x7 v f z k = 0 from (if_neg c184)]) K192
            · refine j_iconst (v := 1) C dX5_does_187 (by decide) ?_
              refine j_goto (tgt := 192) C dX5_does_188 (by decide) ?_
              subst hw4; exact j_eq rfl rfl (by rw [show f_X5_does_x7 v f z k = 1 from (if_pos c184)]) K192
          · refine j_aload_n C dX5_does_166 5 rfl ?_
            refine j_iload_n C dX5_does_167 3 rfl ?_
            refine j_iload C dX5_does_168 2 rfl ?_
            refine j_callV_i (r := f_X5_comes_r v f (z ((4 * k) + 1).toNatClampNeg) (z ((4 * k) + 2).toNatClampNeg)) (wc' := [oM a nw th ps sl hd pd od v, aJ G nw 456 (f_X5_comes_f v f (z ((4 * k) + 1).toNatClampNeg) (z ((4 * k) + 2).toNatClampNeg))]) C (m_X5_comes l G a nw th ps sl hd pd od v f (z ((4 * k) + 1).toNatClampNeg) (z ((4 * k) + 2).toNatClampNeg) (by subst hw4; exact does_w c122 c130 c144 c163)) rfl 0 rfl 2 (gV kw_567 kw_568 kw_775 kw_7 kw_569) (by decide +kernel) ⟨(Nat.le_of_ble_eq_true rfl), (Nat.le_of_ble_eq_true rfl)⟩ rfl rfl (Nat.le_of_ble_eq_true rfl) dX5_does_170 ⟨(Nat.le_of_ble_eq_true rfl), (Nat.le_of_ble_eq_true rfl)⟩ [aI G od 164 z] [oM a nw th ps sl hd pd od v, aJ G nw 456 (f_X5_comes_f v f (z ((4 * k) + 1).toNatClampNeg) (z ((4 * k) + 2).toNatClampNeg)), aI G od 164 z] (perm_idx [0, 1, 2] 3 rfl (by decide +kernel) rfl) rfl ?_
            generalize hzw8 : f_X5_comes_r v f (z ((4 * k) + 1).toNatClampNeg) (z ((4 * k) + 2).toNatClampNeg) = w8
            have hw8 : f_X5_does_rq9 v f z k = w8 := by subst hw4; subst hzw8; rfl
            generalize hzw9 : f_X5_comes_f v f (z ((4 * k) + 1).toNatClampNeg) (z ((4 * k) + 2).toNatClampNeg) = w9
            have hw9 : f_X5_does_fq9 v f z k = w9 := by subst hw4 hw8; subst hzw9; rfl
            refine j_pop C dX5_does_173 rfl ?_
            refine j_goto (tgt := 196) C dX5_does_174 (by decide) ?_
            subst hw4 hw8 hw9; exact j_eq (by rw [show f_X5_does_v12 v f z k = (f_X5_does_fq9 v f z k) from ((if_neg c130).trans ((if_neg c144).trans (if_pos c163)))]) rfl rfl K196
        · refine j_aload_n C dX5_does_147 5 rfl ?_
          refine j_iload_n C dX5_does_148 3 rfl ?_
          refine j_iload C dX5_does_149 2 rfl ?_
          refine j_iload C dX5_does_151 1 rfl ?_
          refine j_callV_i (r := f_X5_streams_r v f (z ((4 * k) + 1).toNatClampNeg) (z ((4 * k) + 2).toNatClampNeg) (z ((4 * k) + 3).toNatClampNeg)) (wc' := [oM a nw th ps sl hd pd od v, aJ G nw 456 (f_X5_streams_f v f (z ((4 * k) + 1).toNatClampNeg) (z ((4 * k) + 2).toNatClampNeg) (z ((4 * k) + 3).toNatClampNeg))]) C (m_X5_streams l G a nw th ps sl hd pd od v f (z ((4 * k) + 1).toNatClampNeg) (z ((4 * k) + 2).toNatClampNeg) (z ((4 * k) + 3).toNatClampNeg) (by subst hw4; exact does_v c122 c130 c144)) rfl 0 rfl 3 (gV kw_555 kw_556 kw_773 kw_7 kw_557) (by decide +kernel) ⟨(Nat.le_of_ble_eq_true rfl), (Nat.le_of_ble_eq_true rfl)⟩ rfl rfl (Nat.le_of_ble_eq_true rfl) dX5_does_153 ⟨(Nat.le_of_ble_eq_true rfl), (Nat.le_of_ble_eq_true rfl)⟩ [aI G od 164 z] [oM a nw th ps sl hd pd od v, aJ G nw 456 (f_X5_streams_f v f (z ((4 * k) + 1).toNatClampNeg) (z ((4 * k) + 2).toNatClampNeg) (z ((4 * k) + 3).toNatClampNeg)), aI G od 164 z] (perm_idx [0, 1, 2] 3 rfl (by decide +kernel) rfl) rfl ?_
          generalize hzw10 : f_X5_streams_r v f (z ((4 * k) + 1).toNatClampNeg) (z ((4 * k) + 2).toNatClampNeg) (z ((4 * k) + 3).toNatClampNeg) = w10
          have hw10 : f_X5_does_rq10 v f z k = w10 := by subst hw4; subst hzw10; rfl
          generalize hzw11 : f_X5_streams_f v f (z ((4 * k) + 1).toNatClampNeg) (z ((4 * k) + 2).toNatClampNeg) (z ((4 * k) + 3).toNatClampNeg) = w11
          have hw11 : f_X5_does_fq10 v f z k = w11 := by subst hw4 hw10; subst hzw11; rfl
          refine j_pop C dX5_does_156 rfl ?_
          refine j_goto (tgt := 196) C dX5_does_157 (by decide) ?_
          subst hw4 hw10 hw11; exact j_eq (by rw [show f_X5_does_v12 v f z k = (f_X5_does_fq10 v f z k) from ((if_neg c130).trans (if_pos c144))]) rfl rfl K196
      · refine j_aload_n C dX5_does_133 5 rfl ?_
        refine j_iload_n C dX5_does_134 3 rfl ?_
        refine j_callV_v (wc' := [oM a nw th ps sl hd pd od v, aJ G nw 456 (pasM f (z ((4 * k) + 1).toNatClampNeg).toNatClampNeg)]) C (m_X5_passes l G a nw th ps sl hd pd od v f (z ((4 * k) + 1).toNatClampNeg) h8) rfl 0 rfl 1 (gV kw_602 kw_603 kw_779 kw_7 kw_604) (by decide +kernel) ⟨(Nat.le_of_ble_eq_true rfl), (Nat.le_of_ble_eq_true rfl)⟩ rfl rfl (Nat.le_of_ble_eq_true rfl) dX5_does_135 ⟨(Nat.le_of_ble_eq_true rfl), (Nat.le_of_ble_eq_true rfl)⟩ [aI G od 164 z] [oM a nw th ps sl hd pd od v, aJ G nw 456 (pasM f (z ((4 * k) + 1).toNatClampNeg).toNatClampNeg), aI G od 164 z] (perm_idx [0, 1, 2] 3 rfl (by decide +kernel) rfl) rfl ?_
        refine j_goto (tgt := 196) C dX5_does_138 (by decide) ?_
        subst hw4; exact j_eq (by rw [show f_X5_does_v12 v f z k = pasM f (z ((4 * k) + 1).toNatClampNeg).toNatClampNeg from (if_pos c130)]) rfl rfl K196
    · refine j_iconst (v := 0) C dX5_does_125 (by decide) ?_
      subst hQ; subst hw4; exact j_zret C hr hk rfl ((show f_X5_does_r v f z k = 0 from (if_neg c122)).symm) (by rw [show f_X5_does_f v f z k = f from (if_neg c122)]) dX5_does_126
  refine j_icmp_ne (tgt := 66) C dX5_does_47 (by decide) (fun c47 => ?_) (fun c47 => ?_)
  · refine j_iload_n C dX5_does_66 3 rfl ?_
    refine j_bipush (v := 118) C dX5_does_67 (by decide) ?_
    refine j_icmp_ne (tgt := 84) C dX5_does_69 (by decide) (fun c69 => ?_) (fun c69 => ?_)
    · refine j_iload_n C dX5_does_84 3 rfl ?_
      refine j_bipush (v := 119) C dX5_does_85 (by decide) ?_
      refine j_icmp_ne (tgt := 100) C dX5_does_87 (by decide) (fun c87 => ?_) (fun c87 => ?_)
      · refine j_aload_n C dX5_does_100 4 rfl ?_
        refine j_iload_n C dX5_does_101 2 rfl ?_
        refine j_iload C dX5_does_102 1 rfl ?_
        refine j_iload_n C dX5_does_104 3 rfl ?_
        refine j_bipush (v := 115) C dX5_does_105 (by decide) ?_
        have K115 : WJ p l e (RM 6) s m args below meth c G A 7 0 0 Q ([oM a nw th ps sl hd pd od v, aJ G nw 456 f, aI G od 164 z]) [(5, .int (z ((4 * k) + 3).toNatClampNeg)), (4, .int (z ((4 * k) + 2).toNatClampNeg)), (3, .int (z ((4 * k) + 1).toNatClampNeg)), (2, .int (z (4 * k).toNatClampNeg)), (0, .ref a), (1, .int k)] 115 [.int (f_X5_does_x1 v f z k), .int (z ((4 * k) + 2).toNatClampNeg), .int (z ((4 * k) + 1).toNatClampNeg), .ref a] := by
          generalize hw0 : f_X5_does_x1 v f z k = w0
          refine j_callV_i (r := f_X5_mayTrade_r v f (z ((4 * k) + 1).toNatClampNeg) (z ((4 * k) + 2).toNatClampNeg) w0) (wc' := [oM a nw th ps sl hd pd od v, aJ G nw 456 f]) C (m_X5_mayTrade l G a nw th ps sl hd pd od v f (z ((4 * k) + 1).toNatClampNeg) (z ((4 * k) + 2).toNatClampNeg) w0) rfl 0 rfl 3 (gV kw_574 kw_575 kw_776 kw_7 kw_576) (by decide +kernel) ⟨(Nat.le_of_ble_eq_true rfl), (Nat.le_of_ble_eq_true rfl)⟩ rfl rfl (Nat.le_of_ble_eq_true rfl) dX5_does_115 ⟨(Nat.le_of_ble_eq_true rfl), (Nat.le_of_ble_eq_true rfl)⟩ [aI G od 164 z] [oM a nw th ps sl hd pd od v, aJ G nw 456 f, aI G od 164 z] (perm_idx [0, 1, 2] 3 rfl (by decide +kernel) rfl) rfl ?_
          generalize hzw1 : f_X5_mayTrade_r v f (z ((4 * k) + 1).toNatClampNeg) (z ((4 * k) + 2).toNatClampNeg) w0 = w1
          have hw1 : f_X5_does_rq2 v f z k = w1 := by subst hw0; subst hzw1; rfl
          subst hw0 hw1; exact j_eq rfl rfl (by rw [show f_X5_does_x6 v f z k = (f_X5_does_rq2 v f z k) from ((if_neg c47).trans ((if_neg c69).trans (if_neg c87)))]) K118
        refine j_icmp_ne (tgt := 114) C dX5_does_107 (by decide) (fun c107 => ?_) (fun c107 => ?_)
        · refine j_iconst (v := 0) C dX5_does_114 (by decide) ?_
          exact j_eq rfl rfl (by rw [show f_X5_does_x1 v f z k = 0 from (if_neg c107)]) K115
        · refine j_iconst (v := 1) C dX5_does_110 (by decide) ?_
          refine j_goto (tgt := 115) C dX5_does_111 (by decide) ?_
          exact j_eq rfl rfl (by rw [show f_X5_does_x1 v f z k = 1 from (if_pos c107)]) K115
      · refine j_aload_n C dX5_does_90 4 rfl ?_
        refine j_iload_n C dX5_does_91 2 rfl ?_
        refine j_iload C dX5_does_92 1 rfl ?_
        refine j_callV_i (r := f_X5_mayWrite_r v f (z ((4 * k) + 1).toNatClampNeg) (z ((4 * k) + 2).toNatClampNeg)) (wc' := [oM a nw th ps sl hd pd od v, aJ G nw 456 f]) C (m_X5_mayWrite l G a nw th ps sl hd pd od v f (z ((4 * k) + 1).toNatClampNeg) (z ((4 * k) + 2).toNatClampNeg)) rfl 0 rfl 2 (gV kw_562 kw_563 kw_774 kw_7 kw_564) (by decide +kernel) ⟨(Nat.le_of_ble_eq_true rfl), (Nat.le_of_ble_eq_true rfl)⟩ rfl rfl (Nat.le_of_ble_eq_true rfl) dX5_does_94 ⟨(Nat.le_of_ble_eq_true rfl), (Nat.le_of_ble_eq_true rfl)⟩ [aI G od 164 z] [oM a nw th ps sl hd pd od v, aJ G nw 456 f, aI G od 164 z] (perm_idx [0, 1, 2] 3 rfl (by decide +kernel) rfl) rfl ?_
        generalize hzw2 : f_X5_mayWrite_r v f (z ((4 * k) + 1).toNatClampNeg) (z ((4 * k) + 2).toNatClampNeg) = w2
        have hw2 : f_X5_does_rq3 v f z k = w2 := by subst hzw2; rfl
        refine j_goto (tgt := 118) C dX5_does_97 (by decide) ?_
        subst hw2; exact j_eq rfl rfl (by rw [show f_X5_does_x6 v f z k = (f_X5_does_rq3 v f z k) from ((if_neg c47).trans ((if_neg c69).trans (if_pos c87)))]) K118
    · refine j_aload_n C dX5_does_72 4 rfl ?_
      refine j_iload_n C dX5_does_73 2 rfl ?_
      refine j_iload C dX5_does_74 1 rfl ?_
      refine j_iload C dX5_does_76 0 rfl ?_
      refine j_callV_i (r := f_X5_mayStream_r v (z ((4 * k) + 1).toNatClampNeg) (z ((4 * k) + 2).toNatClampNeg) (z ((4 * k) + 3).toNatClampNeg)) (wc' := [oM a nw th ps sl hd pd od v]) C (m_X5_mayStream l G a nw th ps sl hd pd od v (z ((4 * k) + 1).toNatClampNeg) (z ((4 * k) + 2).toNatClampNeg) (z ((4 * k) + 3).toNatClampNeg)) rfl 0 rfl 3 (gV kw_548 kw_549 kw_772 kw_7 kw_550) (by decide +kernel) ⟨(Nat.le_of_ble_eq_true rfl), (Nat.le_of_ble_eq_true rfl)⟩ rfl rfl (Nat.le_of_ble_eq_true rfl) dX5_does_78 ⟨(Nat.le_of_ble_eq_true rfl), (Nat.le_of_ble_eq_true rfl)⟩ [aJ G nw 456 f, aI G od 164 z] [oM a nw th ps sl hd pd od v, aJ G nw 456 f, aI G od 164 z] (perm_idx [0, 1, 2] 3 rfl (by decide +kernel) rfl) rfl ?_
      generalize hzw3 : f_X5_mayStream_r v (z ((4 * k) + 1).toNatClampNeg) (z ((4 * k) + 2).toNatClampNeg) (z ((4 * k) + 3).toNatClampNeg) = w3
      have hw3 : f_X5_does_rq4 v f z k = w3 := by subst hzw3; rfl
      refine j_goto (tgt := 118) C dX5_does_81 (by decide) ?_
      subst hw3; exact j_eq rfl rfl (by rw [show f_X5_does_x6 v f z k = (f_X5_does_rq4 v f z k) from ((if_neg c47).trans (if_pos c69))]) K118
  · refine j_iload_n C dX5_does_50 2 rfl ?_
    refine j_pureS_i (r := f_X5_areMinutes_r (z ((4 * k) + 1).toNatClampNeg)) C (m_X5_areMinutes l G (z ((4 * k) + 1).toNatClampNeg)) 1 (gS kw_598 kw_599 kw_7 kw_600) (by decide +kernel) ⟨(Nat.le_of_ble_eq_true rfl), (Nat.le_of_ble_eq_true rfl)⟩ rfl rfl (Nat.le_of_ble_eq_true rfl) dX5_does_51 ⟨(Nat.le_of_ble_eq_true rfl), (Nat.le_of_ble_eq_true rfl)⟩ ?_
    refine j_if_eq (tgt := 61) C dX5_does_54 (by decide) (fun c54 => ?_) (fun c54 => ?_)
    · refine j_bipush (v := (-2)) C dX5_does_61 (by decide) ?_
      refine j_goto (tgt := 118) C dX5_does_63 (by decide) ?_
      exact j_eq rfl rfl (by rw [show f_X5_does_x6 v f z k = (-2) from ((if_pos c47).trans (if_pos c54))]) K118
    · refine j_iconst (v := 0) C dX5_does_57 (by decide) ?_
      refine j_goto (tgt := 118) C dX5_does_58 (by decide) ?_
      exact j_eq rfl rfl (by rw [show f_X5_does_x6 v f z k = 0 from ((if_pos c47).trans (if_neg c54))]) K118
/-- the orders are carried out: n left, the order i -/
noncomputable def carM (v z : Nat → Int32) : Nat → Nat → (Nat → Int64) → Int32 × (Nat → Int64)
  | 0, i, f => (nI i, f)
  | n + 1, i, f => if f_X5_does_r v f z (nI i) = 0 then (nI i, f_X5_does_f v f z (nI i)) else carM v z n (i + 1) (f_X5_does_f v f z (nI i))
theorem numM_fix {o : Nat → Int32} {j : Nat} (hj : ¬ j = 8) : ∀ (n : Nat) (vv : Nat → Int32) (t : Int32), (numM o n vv t).2 j = vv j
  | 0, vv, t => rfl
  | n + 1, vv, t => by
    rw [numM]
    by_cases c1 : t ≤ 0
    · rw [if_pos c1]
    · rw [if_neg c1]
      by_cases c2 : 100 ≤ t
      · rw [if_pos c2]
      · rw [if_neg c2]
        by_cases c3 : f_X5_isAt_r vv o 48 57 = 0
        · rw [if_pos c3]
        · rw [if_neg c3]
          exact (numM_fix hj n _ _).trans (if_neg hj)
theorem num_fix {v o z : Nat → Int32} {k : Int32} {j : Nat} (hj : ¬ j = 8) : f_X5_isNumber_v v o z k j = v j := by
  unfold f_X5_isNumber_v
  split
  · rfl
  · exact (numM_fix hj 3 _ _).trans (if_neg hj)
theorem sign_fix {v o : Nat → Int32} {k : Int32} {j : Nat} (hj : ¬ j = 8) : f_X5_isSign_v v o k j = v j := if_neg hj
theorem ordT_fix {v o z : Nat → Int32} {j : Nat} (hj : ¬ j = 8) : f_X5_isOrder_vT57 v o z j = v j := by
  have b1 : ∀ x : Int32, upd v 8 x j = v j := fun x => if_neg hj
  have s4 : f_X5_isOrder_vq4 v o z j = v j := by
    rw [f_X5_isOrder_vq4_eq]
    exact (sign_fix hj).trans (b1 _)
  have s10 : f_X5_isOrder_vq10 v o z j = v j := by
    rw [f_X5_isOrder_vq10_eq]
    exact (num_fix hj).trans ((sign_fix hj).trans (b1 _))
  rw [f_X5_isOrder_vT57_eq]
  split
  · rw [f_X5_isOrder_vq16_eq]
    exact (num_fix hj).trans (b1 _)
  · split
    · exact b1 _
    · split
      · rw [f_X5_isOrder_v14_eq]
        split
        · exact (sign_fix hj).trans (b1 _)
        · split
          · exact s10
          · split
            · exact (sign_fix hj).trans s10
            · rw [f_X5_isOrder_vq12_eq]
              exact (num_fix hj).trans ((sign_fix hj).trans s10)
      · rw [f_X5_isOrder_v7_eq]
        split
        · exact s4
        · rw [f_X5_isOrder_vq5_eq]
          exact (num_fix hj).trans s4
theorem ord_fix {v o z : Nat → Int32} {j : Nat} (hj : ¬ j = 8) : f_X5_isOrder_v v o z j = v j := by
  rw [f_X5_isOrder_v_eq]
  have T := ordT_fix (v := v) (o := o) (z := z) hj
  (repeat' split) <;> first | exact T | rfl
theorem ord_3 {v o zz : Nat → Int32} : f_X5_isOrder_v v o zz 3 = v 3 := ord_fix (by decide)
theorem text_ok {o : Nat → Int32} : ∀ (n : Nat) (vv zz : Nat → Int32) (q : Int32), txI n vv q → okP (textM o n vv zz q).2.1 ∧ (textM o n vv zz q).2.1 3 = vv 3
  | 0, vv, zz, q, h => ⟨h.1, rfl⟩
  | n + 1, vv, zz, q, h => by
    rw [textM]
    by_cases c1 : q = 0
    · rw [if_pos c1]
      exact ⟨h.1, rfl⟩
    · rw [if_neg c1]
      have k3 : f_X5_isOrder_v vv o zz 3 = vv 3 := ord_3 (zz := zz)
      by_cases c2 : f_X5_isOrder_r vv o zz = 0
      · rw [if_pos c2]
        exact ⟨(ord_ok h.1).1.1, k3⟩
      · rw [if_neg c2]
        obtain ⟨g1, g2⟩ := text_ok (o := o) n _ (f_X5_isOrder_z vv o zz) _ (txI_s (zz := zz) h c1 c2)
        exact ⟨g1, g2.trans k3⟩
theorem text_3 {v o z : Nat → Int32} (h0 : 0 ≤ (v 7).toInt) (h1 : (v 7).toInt ≤ 80) : (f_X5_isText_s v o z).2.1 3 = v 3 := (text_ok 28 _ z 1 (txI_1 h0 h1)).2
theorem text_P {v o z : Nat → Int32} (h0 : 0 ≤ (v 7).toInt) (h1 : (v 7).toInt ≤ 80) : okP ((f_X5_isText_s v o z).2.1) := (text_ok 28 _ z 1 (txI_1 h0 h1)).1
theorem rec_10 (v : Nat → Int32) (f u : Nat → Int64) : f_X5_records_v v f u 10 = v 10 := by
  show f_X5_records_v2 v f u 10 = v 10
  unfold f_X5_records_v2
  split <;> rfl
noncomputable def f_X5_carryOut_n (v o z : Nat → Int32) : Nat := ((f_X5_isText_s v o z).2.1 10).toNatClampNeg
theorem car_n {v o z : Nat → Int32} (h0 : 0 ≤ (v 7).toInt) (h1 : (v 7).toInt ≤ 80) : (f_X5_isText_s v o z).2.1 10 = nI (f_X5_carryOut_n v o z) ∧ f_X5_carryOut_n v o z < 41 := by
  obtain ⟨a, b, c, d, e⟩ := text_P (o := o) (z := z) h0 h1
  obtain ⟨j, hj, g⟩ := vp_in_of (vp_in_iff (x := (f_X5_isText_s v o z).2.1 10) (n := 41)|>.mpr ⟨d, e⟩) (by decide)
  unfold f_X5_carryOut_n
  rw [g, nI_clamp (by omega)]
  exact ⟨rfl, hj⟩
noncomputable def f_X5_carryOut_s (v : Nat → Int32) (f u : Nat → Int64) (o z : Nat → Int32) : Int32 × (Nat → Int64) := carM (upd (f_X5_records_v ((f_X5_isText_s v o z).2.1) f u) 7 0) ((f_X5_isText_s v o z).2.2) (f_X5_carryOut_n v o z) 0 f
noncomputable def f_X5_carryOut_r (v : Nat → Int32) (f u : Nat → Int64) (o z : Nat → Int32) : Int32 := if (f_X5_isText_s v o z).1 = 0 then -3 else (f_X5_carryOut_s v f u o z).1
noncomputable def f_X5_carryOut_v (v : Nat → Int32) (f u : Nat → Int64) (o z : Nat → Int32) : Nat → Int32 := if (f_X5_isText_s v o z).1 = 0 then (f_X5_isText_s v o z).2.1 else upd (f_X5_records_v ((f_X5_isText_s v o z).2.1) f u) 7 0
noncomputable def f_X5_carryOut_f (v : Nat → Int32) (f u : Nat → Int64) (o z : Nat → Int32) : Nat → Int64 := if (f_X5_isText_s v o z).1 = 0 then f else (f_X5_carryOut_s v f u o z).2
noncomputable def f_X5_carryOut_u (v : Nat → Int32) (f u : Nat → Int64) (o z : Nat → Int32) : Nat → Int64 := if (f_X5_isText_s v o z).1 = 0 then u else f_X5_records_u ((f_X5_isText_s v o z).2.1) f u
noncomputable def f_X5_carryOut_z (v : Nat → Int32) (f u : Nat → Int64) (o z : Nat → Int32) : Nat → Int32 := (f_X5_isText_s v o z).2.2
noncomputable def f_X5_carryOut_rq4 (v : Nat → Int32) (f : Nat → Int64) (u : Nat → Int64) (o : Nat → Int32) (z : Nat → Int32) (gf : Nat → Int64) (i : Nat) (n : Nat) : Int32 := f_X5_does_r (upd (f_X5_records_v ((f_X5_isText_s v o z).2.1) f u) 7 0) gf ((f_X5_isText_s v o z).2.2) (nI i)
noncomputable def f_X5_carryOut_fq4 (v : Nat → Int32) (f : Nat → Int64) (u : Nat → Int64) (o : Nat → Int32) (z : Nat → Int32) (gf : Nat → Int64) (i : Nat) (n : Nat) : (Nat → Int64) := f_X5_does_f (upd (f_X5_records_v ((f_X5_isText_s v o z).2.1) f u) 7 0) gf ((f_X5_isText_s v o z).2.2) (nI i)
set_option maxRecDepth 100000 in
set_option maxHeartbeats 4000000 in
theorem m_X5_carryOut (l : Launch) (G : GG) (a nw th ps sl hd pd od : Nat) (v : Nat → Int32) (f : Nat → Int64) (u : Nat → Int64) (o : Nat → Int32) (z : Nat → Int32) (h7 : vp_in (v 3) 7) (h8 : okR f) (h0 : 0 ≤ (v 7).toInt) (h1 : (v 7).toInt ≤ 80) : CtI l yX5_carryOut cX5_carryOut 2 (some .int) (RM 7) G [.ref a] ([oM a nw th ps sl hd pd od v, aJ G nw 456 f, aJ G ps 2736 u, aI G pd 80 o, aI G od 164 z]) (f_X5_carryOut_r v f u o z) ([oM a nw th ps sl hd pd od (f_X5_carryOut_v v f u o z), aJ G nw 456 (f_X5_carryOut_f v f u o z), aJ G ps 2736 (f_X5_carryOut_u v f u o z), aI G pd 80 o, aI G od 164 (f_X5_carryOut_z v f u o z)]) := by
  refine ct_I RX5 [(0, .ref a)] rfl (by decide +kernel) (Nat.le_of_ble_eq_true rfl) rfl ?_
  intro p e s m args below meth c A C hr hk hnm
  generalize hQ : (MQ below (PostI G A (f_X5_carryOut_r v f u o z) ([oM a nw th ps sl hd pd od (f_X5_carryOut_v v f u o z), aJ G nw 456 (f_X5_carryOut_f v f u o z), aJ G ps 2736 (f_X5_carryOut_u v f u o z), aI G pd 80 o, aI G od 164 (f_X5_carryOut_z v f u o z)])) args s (RM 7).cells (RM 7).slots A) = Q
  refine j_aload_n C dX5_carryOut_0 0 rfl ?_
  refine j_callV_i (r := (f_X5_isText_s v o z).1) (wc' := [oM a nw th ps sl hd pd od ((f_X5_isText_s v o z).2.1), aI G pd 80 o, aI G od 164 ((f_X5_isText_s v o z).2.2)]) C (m_X5_isText l G a nw th ps sl hd pd od v o z h0 h1) rfl 0 rfl 0 (gV kw_731 kw_732 kw_783 kw_7 kw_733) (by decide +kernel) ⟨(Nat.le_of_ble_eq_true rfl), (Nat.le_of_ble_eq_true rfl)⟩ rfl rfl (Nat.le_of_ble_eq_true rfl) dX5_carryOut_1 ⟨(Nat.le_of_ble_eq_true rfl), (Nat.le_of_ble_eq_true rfl)⟩ [aJ G nw 456 f, aJ G ps 2736 u] [oM a nw th ps sl hd pd od ((f_X5_isText_s v o z).2.1), aI G pd 80 o, aI G od 164 ((f_X5_isText_s v o z).2.2), aJ G nw 456 f, aJ G ps 2736 u] (perm_idx [0, 3, 4, 1, 2] 5 rfl (by decide +kernel) rfl) rfl ?_
  refine j_if_ne (tgt := 10) C dX5_carryOut_4 (by decide) (fun c4 => ?_) (fun c4 => ?_)
  · refine j_aload_n C dX5_carryOut_10 0 rfl ?_
    refine j_callV_v (wc' := [oM a nw th ps sl hd pd od (f_X5_records_v ((f_X5_isText_s v o z).2.1) f u), aJ G nw 456 f, aJ G ps 2736 (f_X5_records_u ((f_X5_isText_s v o z).2.1) f u)]) C (m_X5_records l G a nw th ps sl hd pd od ((f_X5_isText_s v o z).2.1) f u (by rw [text_3 h0 h1]; exact h7)) rfl 0 rfl 0 (gV kw_530 kw_531 kw_771 kw_7 kw_532) (by decide +kernel) ⟨(Nat.le_of_ble_eq_true rfl), (Nat.le_of_ble_eq_true rfl)⟩ rfl rfl (Nat.le_of_ble_eq_true rfl) dX5_carryOut_11 ⟨(Nat.le_of_ble_eq_true rfl), (Nat.le_of_ble_eq_true rfl)⟩ [aI G pd 80 o, aI G od 164 ((f_X5_isText_s v o z).2.2)] [oM a nw th ps sl hd pd od (f_X5_records_v ((f_X5_isText_s v o z).2.1) f u), aJ G nw 456 f, aJ G ps 2736 (f_X5_records_u ((f_X5_isText_s v o z).2.1) f u), aI G pd 80 o, aI G od 164 ((f_X5_isText_s v o z).2.2)] (perm_idx [0, 3, 4, 1, 2] 5 rfl (by decide +kernel) rfl) rfl ?_
    refine j_aload_n C dX5_carryOut_14 0 rfl ?_
    refine j_iconst (v := 0) C dX5_carryOut_15 (by decide) ?_
    refine j_put C kin5 rfl 0 rfl 7 (by decide) kw_496 rfl tyX5 tyX5_ok nmX5 rfl rfl rfl (Nat.le_of_ble_eq_true rfl) ([oM a nw th ps sl hd pd od (upd (f_X5_records_v ((f_X5_isText_s v o z).2.1) f u) 7 0), aJ G nw 456 f, aJ G ps 2736 (f_X5_records_u ((f_X5_isText_s v o z).2.1) f u), aI G pd 80 o, aI G od 164 ((f_X5_isText_s v o z).2.2)]) rfl dX5_carryOut_16 ?_
    refine j_iconst (v := 0) C dX5_carryOut_19 (by decide) ?_
    refine j_istore_n C [(1, .int 0), (0, .ref a)] dX5_carryOut_20 (by decide) rfl ?_
    have L3 : ∀ (n : Nat) (gf : Nat → Int64) (i : Nat), i + n = f_X5_carryOut_n v o z → okR gf → carM (upd (f_X5_records_v ((f_X5_isText_s v o z).2.1) f u) 7 0) ((f_X5_isText_s v o z).2.2) n i gf = f_X5_carryOut_s v f u o z → WJ p l e (RM 7) s m args below meth c G A 2 0 0 Q ([oM a nw th ps sl hd pd od (upd (f_X5_records_v ((f_X5_isText_s v o z).2.1) f u) 7 0), aJ G nw 456 gf, aJ G ps 2736 (f_X5_records_u ((f_X5_isText_s v o z).2.1) f u), aI G pd 80 o, aI G od 164 ((f_X5_isText_s v o z).2.2)]) [(1, .int (nI i)), (0, .ref a)] 21 [] := by
      intro n
      induction n with
      | zero =>
        intro gf i hIN hO hx
        refine j_iload_n C dX5_carryOut_21 0 rfl ?_
        refine j_aload_n C dX5_carryOut_22 1 rfl ?_
        refine j_get C kin5 rfl 0 rfl 10 (by decide) kw_499 rfl (v := .int ((f_X5_records_v ((f_X5_isText_s v o z).2.1) f u) 10)) rfl dX5_carryOut_23 ?_
        refine j_icmp_ge (tgt := 43) C dX5_carryOut_26 (by decide) (fun c26 => ?_) (fun h => absurd (by rw [rec_10, (car_n (o := o) (z := z) h0 h1).1]; exact nI_le (by omega) (by have := (car_n (o := o) (z := z) h0 h1).2; omega)) h)
        refine j_iload_n C dX5_carryOut_43 0 rfl ?_
        subst hQ; exact j_iret C hr hk (show nI i = (f_X5_carryOut_r v f u o z) from ((if_neg c4).trans (congrArg Prod.fst hx.symm)).symm) (by rw [show (f_X5_carryOut_v v f u o z) = (upd (f_X5_records_v ((f_X5_isText_s v o z).2.1) f u) 7 0) from (if_neg c4), show (f_X5_carryOut_f v f u o z) = gf from ((if_neg c4).trans (congrArg Prod.snd hx.symm)), show (f_X5_carryOut_u v f u o z) = (f_X5_records_u ((f_X5_isText_s v o z).2.1) f u) from (if_neg c4), show (f_X5_carryOut_z v f u o z) = ((f_X5_isText_s v o z).2.2) from rfl]) dX5_carryOut_44
      | succ n ih =>
        intro gf i hIN hO hx
        refine j_iload_n C dX5_carryOut_21 0 rfl ?_
        refine j_aload_n C dX5_carryOut_22 1 rfl ?_
        refine j_get C kin5 rfl 0 rfl 10 (by decide) kw_499 rfl (v := .int ((f_X5_records_v ((f_X5_isText_s v o z).2.1) f u) 10)) rfl dX5_carryOut_23 ?_
        refine j_icmp_ge (tgt := 43) C dX5_carryOut_26 (by decide) (fun h => absurd h (by rw [rec_10, (car_n (o := o) (z := z) h0 h1).1]; exact nI_ge (by omega) (by have := (car_n (o := o) (z := z) h0 h1).2; omega))) (fun c26 => ?_)
        refine j_aload_n C dX5_carryOut_29 1 rfl ?_
        refine j_iload_n C dX5_carryOut_30 0 rfl ?_
        refine j_callV_i (r := f_X5_does_r (upd (f_X5_records_v ((f_X5_isText_s v o z).2.1) f u) 7 0) gf ((f_X5_isText_s v o z).2.2) (nI i)) (wc' := [oM a nw th ps sl hd pd od (upd (f_X5_records_v ((f_X5_isText_s v o z).2.1) f u) 7 0), aJ G nw 456 (f_X5_does_f (upd (f_X5_records_v ((f_X5_isText_s v o z).2.1) f u) 7 0) gf ((f_X5_isText_s v o z).2.2) (nI i)), aI G od 164 ((f_X5_isText_s v o z).2.2)]) C (m_X5_does l G a nw th ps sl hd pd od (upd (f_X5_records_v ((f_X5_isText_s v o z).2.1) f u) 7 0) gf ((f_X5_isText_s v o z).2.2) (nI i) (vp_in_nI (by have := (car_n (o := o) (z := z) h0 h1).2; omega) (by decide)) hO) rfl 0 rfl 1 (gV kw_750 kw_751 kw_788 kw_7 kw_752) (by decide +kernel) ⟨(Nat.le_of_ble_eq_true rfl), (Nat.le_of_ble_eq_true rfl)⟩ rfl rfl (Nat.le_of_ble_eq_true rfl) dX5_carryOut_31 ⟨(Nat.le_of_ble_eq_true rfl), (Nat.le_of_ble_eq_true rfl)⟩ [aJ G ps 2736 (f_X5_records_u ((f_X5_isText_s v o z).2.1) f u), aI G pd 80 o] [oM a nw th ps sl hd pd od (upd (f_X5_records_v ((f_X5_isText_s v o z).2.1) f u) 7 0), aJ G nw 456 (f_X5_does_f (upd (f_X5_records_v ((f_X5_isText_s v o z).2.1) f u) 7 0) gf ((f_X5_isText_s v o z).2.2) (nI i)), aI G od 164 ((f_X5_isText_s v o z).2.2), aJ G ps 2736 (f_X5_records_u ((f_X5_isText_s v o z).2.1) f u), aI G pd 80 o] (perm_idx [0, 1, 4, 2, 3] 5 rfl (by decide +kernel) rfl) rfl ?_
        generalize hzw0 : f_X5_does_r (upd (f_X5_records_v ((f_X5_isText_s v o z).2.1) f u) 7 0) gf ((f_X5_isText_s v o z).2.2) (nI i) = w0
        have hw0 : f_X5_carryOut_rq4 v f u o z gf i n = w0 := by subst hzw0; rfl
        generalize hzw1 : f_X5_does_f (upd (f_X5_records_v ((f_X5_isText_s v o z).2.1) f u) 7 0) gf ((f_X5_isText_s v o z).2.2) (nI i) = w1
        have hw1 : f_X5_carryOut_fq4 v f u o z gf i n = w1 := by subst hw0; subst hzw1; rfl
        refine j_if_eq (tgt := 43) C dX5_carryOut_34 (by decide) (fun c34 => ?_) (fun c34 => ?_)
        · refine j_iload_n C dX5_carryOut_43 0 rfl ?_
          refine j_perm ([oM a nw th ps sl hd pd od (upd (f_X5_records_v ((f_X5_isText_s v o z).2.1) f u) 7 0), aJ G nw 456 w1, aJ G ps 2736 (f_X5_records_u ((f_X5_isText_s v o z).2.1) f u), aI G pd 80 o, aI G od 164 ((f_X5_isText_s v o z).2.2)]) (perm_idx [0, 1, 3, 4, 2] 5 rfl (by decide +kernel) rfl) ?_
          subst hQ; subst hw0 hw1; exact j_iret C hr hk (show nI i = (f_X5_carryOut_r v f u o z) from ((if_neg c4).trans (congrArg Prod.fst (hx.symm.trans (if_pos c34)))).symm) (by rw [show (f_X5_carryOut_v v f u o z) = (upd (f_X5_records_v ((f_X5_isText_s v o z).2.1) f u) 7 0) from (if_neg c4), show (f_X5_carryOut_f v f u o z) = (f_X5_carryOut_fq4 v f u o z gf i n) from ((if_neg c4).trans (congrArg Prod.snd (hx.symm.trans (if_pos c34)))), show (f_X5_carryOut_u v f u o z) = (f_X5_records_u ((f_X5_isText_s v o z).2.1) f u) from (if_neg c4), show (f_X5_carryOut_z v f u o z) = ((f_X5_isText_s v o z).2.2) from rfl]) dX5_carryOut_44
        · refine j_iinc (v := nI (i + 1)) C [(1, .int (nI (i + 1))), (0, .ref a)] dX5_carryOut_37 (k := 0) rfl (nI_1 i) (by decide) rfl ?_
          refine j_goto (tgt := 21) C dX5_carryOut_40 (by decide) ?_
          refine j_perm ([oM a nw th ps sl hd pd od (upd (f_X5_records_v ((f_X5_isText_s v o z).2.1) f u) 7 0), aJ G nw 456 w1, aJ G ps 2736 (f_X5_records_u ((f_X5_isText_s v o z).2.1) f u), aI G pd 80 o, aI G od 164 ((f_X5_isText_s v o z).2.2)]) (perm_idx [0, 1, 3, 4, 2] 5 rfl (by decide +kernel) rfl) ?_
          subst hw0 hw1; exact j_eq rfl rfl rfl (ih (f_X5_carryOut_fq4 v f u o z gf i n) (i + 1) (by omega) (okR_does hO) ((if_neg c34).symm.trans hx))
    exact j_eq rfl rfl rfl (L3 (f_X5_carryOut_n v o z) f 0 (by omega) h8 rfl)
  · refine j_bipush (v := (-3)) C dX5_carryOut_7 (by decide) ?_
    refine j_perm ([oM a nw th ps sl hd pd od ((f_X5_isText_s v o z).2.1), aJ G nw 456 f, aJ G ps 2736 u, aI G pd 80 o, aI G od 164 ((f_X5_isText_s v o z).2.2)]) (perm_idx [0, 3, 4, 1, 2] 5 rfl (by decide +kernel) rfl) ?_
    subst hQ; exact j_iret C hr hk (show (-3) = (f_X5_carryOut_r v f u o z) from (if_pos c4).symm) (by rw [show (f_X5_carryOut_v v f u o z) = ((f_X5_isText_s v o z).2.1) from (if_pos c4), show (f_X5_carryOut_f v f u o z) = f from (if_pos c4), show (f_X5_carryOut_u v f u o z) = u from (if_pos c4), show (f_X5_carryOut_z v f u o z) = ((f_X5_isText_s v o z).2.2) from rfl]) dX5_carryOut_9
