/-! FLOATING NUMBERS: share and mean -/
theorem cnt_23 (f : Nat → Int8) : ∀ i : Nat, ∃ p q : Nat, cntH f 2 i = nI p ∧ cntH f 3 i = nI q ∧ p + q ≤ i
  | 0 => ⟨0, 0, rfl, rfl, by omega⟩
  | i + 1 => by
    obtain ⟨p, q, h1, h2, h3⟩ := cnt_23 f i
    rw [cntH, cntH, h1, h2]
    by_cases c2 : (f i).toInt32 = 2
    · rw [if_pos c2, if_neg (by rw [c2]; decide), nI_1]
      exact ⟨p + 1, q, rfl, rfl, by omega⟩
    · rw [if_neg c2]
      by_cases c3 : (f i).toInt32 = 3
      · rw [if_pos c3, nI_1]
        exact ⟨p, q + 1, rfl, rfl, by omega⟩
      · rw [if_neg c3]
        exact ⟨p, q, rfl, rfl, by omega⟩
theorem hrs_s (f : Nat → Int64) (k y : Int32) (i : Nat) (h0 : ¬ y = 0) (h1 : ¬ y ≤ 0) : hrsA f k y (i + 1) = hrsA f k y i + (if f_X5_hourOf_r f k (nI i).toInt64 = y then 1 else 0) := by
  rw [hrsA, if_neg h0, if_neg h1]
theorem hrs_23 (f : Nat → Int64) (k : Int32) : ∀ i : Nat, ∃ p q : Nat, hrsA f k 2 i = nI p ∧ hrsA f k 3 i = nI q ∧ p + q ≤ i
  | 0 => ⟨0, 0, rfl, rfl, by omega⟩
  | i + 1 => by
    obtain ⟨p, q, h1, h2, h3⟩ := hrs_23 f k i
    rw [hrs_s f k 2 i (by decide) (by decide), hrs_s f k 3 i (by decide) (by decide), h1, h2]
    by_cases c2 : f_X5_hourOf_r f k (nI i).toInt64 = 2
    · rw [if_pos c2, if_neg (by rw [c2]; decide), nI_1, Int32.add_zero]
      exact ⟨p + 1, q, rfl, rfl, by omega⟩
    · rw [if_neg c2, Int32.add_zero]
      by_cases c3 : f_X5_hourOf_r f k (nI i).toInt64 = 3
      · rw [if_pos c3, nI_1]
        exact ⟨p, q + 1, rfl, rfl, by omega⟩
      · rw [if_neg c3, Int32.add_zero]
        exact ⟨p, q, rfl, rfl, by omega⟩
def shP (x y : Int32) : Prop := vf_n64 (FP.ddiv (FP.i2d x) (FP.i2d y)) ∧ vf_n32 (FP.d2f (FP.ddiv (FP.i2d x) (FP.i2d y))) ∧ (FP.d2f (FP.ddiv (FP.i2d x) (FP.i2d y)) = 0 ∨ okY (FP.d2f (FP.ddiv (FP.i2d x) (FP.i2d y))))
theorem sh_pq {x y : Int32} {p q : Nat} (hx : x = nI p) (hy : y = nI q) (h : p + q ≤ 100) (h0 : ¬ x + y = 0) : shP x (x + y) := by
  subst hx hy
  rw [nI_add] at h0 ⊢
  refine sh_ab (by omega) (by omega) ?_
  rcases Nat.eq_zero_or_pos (p + q) with g | g
  · rw [g] at h0
    exact absurd nI_0 h0
  · exact g
theorem sh_X4 {v : DO} {f : Nat → Int8} (h0 : ¬ f_X0_hoursThatAre_r v f 2 + f_X0_hoursThatAre_r v f 3 ≤ 0) : shP (f_X0_hoursThatAre_r v f 2) (f_X0_hoursThatAre_r v f 2 + f_X0_hoursThatAre_r v f 3) := by
  obtain ⟨p, q, h1, h2, h3⟩ := cnt_23 f 100
  exact sh_pq h1 h2 h3 (fun g => h0 (by rw [g]; decide))
theorem sh_X5 {f : Nat → Int64} {k : Int32} (h0 : ¬ hrsA f k 2 100 + hrsA f k 3 100 = 0) : shP (hrsA f k 2 100) (hrsA f k 2 100 + hrsA f k 3 100) := by
  obtain ⟨p, q, h1, h2, h3⟩ := hrs_23 f k 100
  exact sh_pq h1 h2 h3 h0
noncomputable def f_X4_share_rq2 (xp : StV) (k : Int32) : Int32 := f_X0_hoursThatAre_r (xp.2.2.1 k.toNatClampNeg) (xp.2.2.2 k.toNatClampNeg) 2
noncomputable def f_X4_share_rq3 (xp : StV) (k : Int32) : Int32 := f_X0_hoursThatAre_r (xp.2.2.1 k.toNatClampNeg) (xp.2.2.2 k.toNatClampNeg) 3
noncomputable def f_X4_share_rq4 (xp : StV) (k : Int32) : Int32 := (FP.d2f (FP.ddiv (FP.i2d (f_X4_share_rq2 xp k)) (FP.i2d ((f_X4_share_rq2 xp k) + (f_X4_share_rq3 xp k))))).toInt32
noncomputable def f_X4_share_x5 (xp : StV) (k : Int32) : Int32 := (if (f_X4_share_rq2 xp k) + (f_X4_share_rq3 xp k) ≤ 0 then (-6) else (f_X4_share_rq4 xp k))
noncomputable def f_X4_share_r (xp : StV) (k : Int32) : Int32 := (if f_X4_isDrive_r k = 0 then (-1) else (f_X4_share_x5 xp k))
set_option maxRecDepth 100000 in
set_option maxHeartbeats 4000000 in
theorem m_X4_share (l : Launch) (G : GG) (a hi sl su pa : Nat) (AP AT AU : Nat → Nat) (xp : StV) (k : Int32)  : CtI l yX4_share cX4_share 4 (some .int) (RM 2) G [.ref a, .int k] (fl [[oX a (AP 0) hi sl su pa (AT 0) (AU 0)], cSt G AP xp]) (f_X4_share_r xp k) (fl [[oX a (AP 0) hi sl su pa (AT 0) (AU 0)], cSt G AP xp]) := by
  refine ct_I RX4 [(0, .ref a), (1, .int k)] rfl (by decide +kernel) (Nat.le_of_ble_eq_true rfl) rfl ?_
  intro p e s m args below meth c A C hr hk hnm
  generalize hQ : (MQ below (PostI G A (f_X4_share_r xp k) (fl [[oX a (AP 0) hi sl su pa (AT 0) (AU 0)], cSt G AP xp])) args s (RM 2).cells (RM 2).slots A) = Q
  refine j_iload_n C dX4_share_0 1 rfl ?_
  refine j_pureS_i (r := f_X4_isDrive_r k) C (m_X4_isDrive l G k) 1 (gS kw_306 kw_193 kw_1 kw_194) (by decide +kernel) ⟨(Nat.le_of_ble_eq_true rfl), (Nat.le_of_ble_eq_true rfl)⟩ rfl rfl (Nat.le_of_ble_eq_true rfl) dX4_share_1 ⟨(Nat.le_of_ble_eq_true rfl), (Nat.le_of_ble_eq_true rfl)⟩ ?_
  refine j_if_ne (tgt := 9) C dX4_share_4 (by decide) (fun c4 => ?_) (fun c4 => ?_)
  · refine j_aload_n C dX4_share_9 0 rfl ?_
    refine j_get C kin4 rfl 0 rfl 0 (by decide) kw_140 rfl (v := .ref (AP 0)) rfl dX4_share_10 ?_
    refine j_perm (fl [cSt G AP xp, [oX a (AP 0) hi sl su pa (AT 0) (AU 0)]]) (bperm [1, 0] 2 rfl (by decide +kernel) rfl) ?_
    refine j_w (fl [[oS (AP 0) (AP 1) (AP 2) xp.1], [aI G (AP 1) 7 xp.2.1], [aD G (AP 2) 4 (fun k => some (AP (3 + 2 * k)))], cDrs G AP xp.2.2.1 xp.2.2.2, [oX a (AP 0) hi sl su pa (AT 0) (AU 0)]]) rfl ?_
    refine j_perm (fl [[oS (AP 0) (AP 1) (AP 2) xp.1], [aI G (AP 1) 7 xp.2.1], [aD G (AP 2) 4 (fun k => some (AP (3 + 2 * k)))], [oX a (AP 0) hi sl su pa (AT 0) (AU 0)], cDrs G AP xp.2.2.1 xp.2.2.2]) (bperm [0, 1, 2, 4, 3] 5 rfl (by decide +kernel) rfl) ?_
    refine j_get C kin3 rfl 0 rfl 1 (by decide) kw_81 rfl (v := .ref (AP 2)) rfl dX4_share_13 ?_
    refine j_iload_n C dX4_share_16 1 rfl ?_
    refine j_perm (fl [cDrs G AP xp.2.2.1 xp.2.2.2, [oS (AP 0) (AP 1) (AP 2) xp.1], [aI G (AP 1) 7 xp.2.1], [aD G (AP 2) 4 (fun k => some (AP (3 + 2 * k)))], [oX a (AP 0) hi sl su pa (AT 0) (AU 0)]]) (bperm [4, 0, 1, 2, 3] 5 rfl (by decide +kernel) rfl) ?_
    refine j_perm (fl [[oD (AP (3 + 2 * k.toNatClampNeg)) (AP (4 + 2 * k.toNatClampNeg)) (xp.2.2.1 k.toNatClampNeg)], [aB G (AP (4 + 2 * k.toNatClampNeg)) (xp.2.2.2 k.toNatClampNeg)], cRs G AP xp.2.2.1 xp.2.2.2 k.toNatClampNeg, [oS (AP 0) (AP 1) (AP 2) xp.1], [aI G (AP 1) 7 xp.2.1], [aD G (AP 2) 4 (fun k => some (AP (3 + 2 * k)))], [oX a (AP 0) hi sl su pa (AT 0) (AU 0)]]) (open_at (openDrs G AP xp.2.2.1 xp.2.2.2 k.toNatClampNeg (vin_nat (lt_drive c4)))) ?_
    refine j_perm (fl [[oD (AP (3 + 2 * k.toNatClampNeg)) (AP (4 + 2 * k.toNatClampNeg)) (xp.2.2.1 k.toNatClampNeg)], [aB G (AP (4 + 2 * k.toNatClampNeg)) (xp.2.2.2 k.toNatClampNeg)], [oS (AP 0) (AP 1) (AP 2) xp.1], [aI G (AP 1) 7 xp.2.1], [aD G (AP 2) 4 (fun k => some (AP (3 + 2 * k)))], [oX a (AP 0) hi sl su pa (AT 0) (AU 0)], cRs G AP xp.2.2.1 xp.2.2.2 k.toNatClampNeg]) (bperm [0, 1, 3, 4, 5, 6, 2] 7 rfl (by decide +kernel) rfl) ?_
    refine j_aaldD C 4 rfl (lt_drive c4) (y := AP (3 + 2 * k.toNatClampNeg)) rfl dX4_share_17 ?_
    refine j_iconst (v := 2) C dX4_share_18 (by decide) ?_
    refine j_callV_i (r := f_X0_hoursThatAre_r (xp.2.2.1 k.toNatClampNeg) (xp.2.2.2 k.toNatClampNeg) 2) (wc' := [oD (AP (3 + 2 * k.toNatClampNeg)) (AP (4 + 2 * k.toNatClampNeg)) (xp.2.2.1 k.toNatClampNeg), aB G (AP (4 + 2 * k.toNatClampNeg)) (xp.2.2.2 k.toNatClampNeg)]) C (m_X0_hoursThatAre l G (AP (3 + 2 * k.toNatClampNeg)) (AP (4 + 2 * k.toNatClampNeg)) (xp.2.2.1 k.toNatClampNeg) (xp.2.2.2 k.toNatClampNeg) 2) rfl 0 rfl 1 (gV kw_310 kw_233 kw_234 kw_4 kw_235) (by decide +kernel) ⟨(Nat.le_of_ble_eq_true rfl), (Nat.le_of_ble_eq_true rfl)⟩ rfl rfl (Nat.le_of_ble_eq_true rfl) dX4_share_19 ⟨(Nat.le_of_ble_eq_true rfl), (Nat.le_of_ble_eq_true rfl)⟩ (fl [[oS (AP 0) (AP 1) (AP 2) xp.1], [aI G (AP 1) 7 xp.2.1], [aD G (AP 2) 4 (fun k => some (AP (3 + 2 * k)))], [oX a (AP 0) hi sl su pa (AT 0) (AU 0)], cRs G AP xp.2.2.1 xp.2.2.2 k.toNatClampNeg]) (fl [[oD (AP (3 + 2 * k.toNatClampNeg)) (AP (4 + 2 * k.toNatClampNeg)) (xp.2.2.1 k.toNatClampNeg)], [aB G (AP (4 + 2 * k.toNatClampNeg)) (xp.2.2.2 k.toNatClampNeg)], [oS (AP 0) (AP 1) (AP 2) xp.1], [aI G (AP 1) 7 xp.2.1], [aD G (AP 2) 4 (fun k => some (AP (3 + 2 * k)))], [oX a (AP 0) hi sl su pa (AT 0) (AU 0)], cRs G AP xp.2.2.1 xp.2.2.2 k.toNatClampNeg]) (bperm (bs' := [[oD (AP (3 + 2 * k.toNatClampNeg)) (AP (4 + 2 * k.toNatClampNeg)) (xp.2.2.1 k.toNatClampNeg)], [aB G (AP (4 + 2 * k.toNatClampNeg)) (xp.2.2.2 k.toNatClampNeg)], [oS (AP 0) (AP 1) (AP 2) xp.1], [aI G (AP 1) 7 xp.2.1], [aD G (AP 2) 4 (fun k => some (AP (3 + 2 * k)))], [oX a (AP 0) hi sl su pa (AT 0) (AU 0)], cRs G AP xp.2.2.1 xp.2.2.2 k.toNatClampNeg]) [0, 1, 2, 3, 4, 5, 6] 7 rfl (by decide +kernel) rfl) rfl ?_
    generalize hzw0 : f_X0_hoursThatAre_r (xp.2.2.1 k.toNatClampNeg) (xp.2.2.2 k.toNatClampNeg) 2 = w0
    have hw0 : f_X4_share_rq2 xp k = w0 := by subst hzw0; rfl
    refine j_istore_n C [(2, .int w0), (0, .ref a), (1, .int k)] dX4_share_22 (by decide) rfl ?_
    refine j_iload_n C dX4_share_23 0 rfl ?_
    refine j_aload_n C dX4_share_24 1 rfl ?_
    refine j_get C kin4 rfl 5 rfl 0 (by decide) kw_140 rfl (v := .ref (AP 0)) rfl dX4_share_25 ?_
    refine j_get C kin3 rfl 2 rfl 1 (by decide) kw_81 rfl (v := .ref (AP 2)) rfl dX4_share_28 ?_
    refine j_iload_n C dX4_share_31 2 rfl ?_
    refine j_aaldD C 4 rfl (lt_drive c4) (y := AP (3 + 2 * k.toNatClampNeg)) rfl dX4_share_32 ?_
    refine j_iconst (v := 3) C dX4_share_33 (by decide) ?_
    refine j_callV_i (r := f_X0_hoursThatAre_r (xp.2.2.1 k.toNatClampNeg) (xp.2.2.2 k.toNatClampNeg) 3) (wc' := [oD (AP (3 + 2 * k.toNatClampNeg)) (AP (4 + 2 * k.toNatClampNeg)) (xp.2.2.1 k.toNatClampNeg), aB G (AP (4 + 2 * k.toNatClampNeg)) (xp.2.2.2 k.toNatClampNeg)]) C (m_X0_hoursThatAre l G (AP (3 + 2 * k.toNatClampNeg)) (AP (4 + 2 * k.toNatClampNeg)) (xp.2.2.1 k.toNatClampNeg) (xp.2.2.2 k.toNatClampNeg) 3) rfl 0 rfl 1 (gV kw_310 kw_233 kw_234 kw_4 kw_235) (by decide +kernel) ⟨(Nat.le_of_ble_eq_true rfl), (Nat.le_of_ble_eq_true rfl)⟩ rfl rfl (Nat.le_of_ble_eq_true rfl) dX4_share_34 ⟨(Nat.le_of_ble_eq_true rfl), (Nat.le_of_ble_eq_true rfl)⟩ (fl [[oS (AP 0) (AP 1) (AP 2) xp.1], [aI G (AP 1) 7 xp.2.1], [aD G (AP 2) 4 (fun k => some (AP (3 + 2 * k)))], [oX a (AP 0) hi sl su pa (AT 0) (AU 0)], cRs G AP xp.2.2.1 xp.2.2.2 k.toNatClampNeg]) (fl [[oD (AP (3 + 2 * k.toNatClampNeg)) (AP (4 + 2 * k.toNatClampNeg)) (xp.2.2.1 k.toNatClampNeg)], [aB G (AP (4 + 2 * k.toNatClampNeg)) (xp.2.2.2 k.toNatClampNeg)], [oS (AP 0) (AP 1) (AP 2) xp.1], [aI G (AP 1) 7 xp.2.1], [aD G (AP 2) 4 (fun k => some (AP (3 + 2 * k)))], [oX a (AP 0) hi sl su pa (AT 0) (AU 0)], cRs G AP xp.2.2.1 xp.2.2.2 k.toNatClampNeg]) (bperm (bs' := [[oD (AP (3 + 2 * k.toNatClampNeg)) (AP (4 + 2 * k.toNatClampNeg)) (xp.2.2.1 k.toNatClampNeg)], [aB G (AP (4 + 2 * k.toNatClampNeg)) (xp.2.2.2 k.toNatClampNeg)], [oS (AP 0) (AP 1) (AP 2) xp.1], [aI G (AP 1) 7 xp.2.1], [aD G (AP 2) 4 (fun k => some (AP (3 + 2 * k)))], [oX a (AP 0) hi sl su pa (AT 0) (AU 0)], cRs G AP xp.2.2.1 xp.2.2.2 k.toNatClampNeg]) [0, 1, 2, 3, 4, 5, 6] 7 rfl (by decide +kernel) rfl) rfl ?_
    generalize hzw1 : f_X0_hoursThatAre_r (xp.2.2.1 k.toNatClampNeg) (xp.2.2.2 k.toNatClampNeg) 3 = w1
    have hw1 : f_X4_share_rq3 xp k = w1 := by subst hw0; subst hzw1; rfl
    refine j_iadd C dX4_share_37 rfl ?_
    refine j_istore_n C [(3, .int (w0 + w1)), (2, .int w0), (0, .ref a), (1, .int k)] dX4_share_38 (by decide) rfl ?_
    refine j_iload_n C dX4_share_39 0 rfl ?_
    have K57 : WJ p l e (RM 2) s m args below meth c G A 4 0 0 Q (fl [[oX a (AP 0) hi sl su pa (AT 0) (AU 0)], cSt G AP xp]) [(3, .int (w0 + w1)), (2, .int w0), (0, .ref a), (1, .int k)] 57 [.int (f_X4_share_x5 xp k)] := by
      generalize hw3 : f_X4_share_x5 xp k = w3
      subst hQ; subst hw0 hw1 hw3; exact j_iret C hr hk ((show f_X4_share_r xp k = (f_X4_share_x5 xp k) from (if_neg c4)).symm) rfl dX4_share_57
    refine j_if_le (tgt := 55) C dX4_share_40 (by decide) (fun c40 => ?_) (fun c40 => ?_)
    · refine j_bipush (v := (-6)) C dX4_share_55 (by decide) ?_
      refine j_perm (fl [[oD (AP (3 + 2 * k.toNatClampNeg)) (AP (4 + 2 * k.toNatClampNeg)) (xp.2.2.1 k.toNatClampNeg)], [aB G (AP (4 + 2 * k.toNatClampNeg)) (xp.2.2.2 k.toNatClampNeg)], cRs G AP xp.2.2.1 xp.2.2.2 k.toNatClampNeg, [oS (AP 0) (AP 1) (AP 2) xp.1], [aI G (AP 1) 7 xp.2.1], [aD G (AP 2) 4 (fun k => some (AP (3 + 2 * k)))], [oX a (AP 0) hi sl su pa (AT 0) (AU 0)]]) (bperm [0, 1, 6, 2, 3, 4, 5] 7 rfl (by decide +kernel) rfl) ?_
      refine j_perm (fl [cDrs G AP xp.2.2.1 xp.2.2.2, [oS (AP 0) (AP 1) (AP 2) xp.1], [aI G (AP 1) 7 xp.2.1], [aD G (AP 2) 4 (fun k => some (AP (3 + 2 * k)))], [oX a (AP 0) hi sl su pa (AT 0) (AU 0)]]) (shut_at (bs := [[oD (AP (3 + 2 * k.toNatClampNeg)) (AP (4 + 2 * k.toNatClampNeg)) (xp.2.2.1 k.toNatClampNeg)], [aB G (AP (4 + 2 * k.toNatClampNeg)) (xp.2.2.2 k.toNatClampNeg)], cRs G AP xp.2.2.1 xp.2.2.2 k.toNatClampNeg]) (openDrs G AP xp.2.2.1 xp.2.2.2 k.toNatClampNeg (vin_nat (lt_drive c4))).symm) ?_
      refine j_perm (fl [[oS (AP 0) (AP 1) (AP 2) xp.1], [aI G (AP 1) 7 xp.2.1], [aD G (AP 2) 4 (fun k => some (AP (3 + 2 * k)))], cDrs G AP xp.2.2.1 xp.2.2.2, [oX a (AP 0) hi sl su pa (AT 0) (AU 0)]]) (bperm [1, 2, 3, 0, 4] 5 rfl (by decide +kernel) rfl) ?_
      refine j_w (fl [cSt G AP xp, [oX a (AP 0) hi sl su pa (AT 0) (AU 0)]]) rfl ?_
      refine j_perm (fl [[oX a (AP 0) hi sl su pa (AT 0) (AU 0)], cSt G AP xp]) (bperm [1, 0] 2 rfl (by decide +kernel) rfl) ?_
      subst hw0 hw1; exact j_eq rfl rfl (by rw [show f_X4_share_x5 xp k = (-6) from (if_pos c40)]) K57
    · refine j_iload_n C dX4_share_43 1 rfl ?_
      refine j_i2d C dX4_share_44 ?_
      refine j_iload_n C dX4_share_45 0 rfl ?_
      refine j_i2d C dX4_share_46 ?_
      refine j_ddiv C dX4_share_47 (by subst hw0 hw1; exact (sh_X4 c40).1) ?_
      refine j_d2f C dX4_share_48 (by subst hw0 hw1; exact (sh_X4 c40).2.1) ?_
      refine j_pureS_i (r := (FP.d2f (FP.ddiv (FP.i2d w0) (FP.i2d (w0 + w1)))).toInt32) C (m_X4_floatBits l G (FP.d2f (FP.ddiv (FP.i2d w0) (FP.i2d (w0 + w1)))) (by subst hw0 hw1; exact (sh_X4 c40).2.2)) 1 (gS kw_329 kw_330 kw_1 kw_331) (by decide +kernel) ⟨(Nat.le_of_ble_eq_true rfl), (Nat.le_of_ble_eq_true rfl)⟩ rfl rfl (Nat.le_of_ble_eq_true rfl) dX4_share_49 ⟨(Nat.le_of_ble_eq_true rfl), (Nat.le_of_ble_eq_true rfl)⟩ ?_
      generalize hzw2 : (FP.d2f (FP.ddiv (FP.i2d w0) (FP.i2d (w0 + w1)))).toInt32 = w2
      have hw2 : f_X4_share_rq4 xp k = w2 := by subst hw0 hw1; subst hzw2; rfl
      refine j_goto (tgt := 57) C dX4_share_52 (by decide) ?_
      refine j_perm (fl [[oD (AP (3 + 2 * k.toNatClampNeg)) (AP (4 + 2 * k.toNatClampNeg)) (xp.2.2.1 k.toNatClampNeg)], [aB G (AP (4 + 2 * k.toNatClampNeg)) (xp.2.2.2 k.toNatClampNeg)], cRs G AP xp.2.2.1 xp.2.2.2 k.toNatClampNeg, [oS (AP 0) (AP 1) (AP 2) xp.1], [aI G (AP 1) 7 xp.2.1], [aD G (AP 2) 4 (fun k => some (AP (3 + 2 * k)))], [oX a (AP 0) hi sl su pa (AT 0) (AU 0)]]) (bperm [0, 1, 6, 2, 3, 4, 5] 7 rfl (by decide +kernel) rfl) ?_
      refine j_perm (fl [cDrs G AP xp.2.2.1 xp.2.2.2, [oS (AP 0) (AP 1) (AP 2) xp.1], [aI G (AP 1) 7 xp.2.1], [aD G (AP 2) 4 (fun k => some (AP (3 + 2 * k)))], [oX a (AP 0) hi sl su pa (AT 0) (AU 0)]]) (shut_at (bs := [[oD (AP (3 + 2 * k.toNatClampNeg)) (AP (4 + 2 * k.toNatClampNeg)) (xp.2.2.1 k.toNatClampNeg)], [aB G (AP (4 + 2 * k.toNatClampNeg)) (xp.2.2.2 k.toNatClampNeg)], cRs G AP xp.2.2.1 xp.2.2.2 k.toNatClampNeg]) (openDrs G AP xp.2.2.1 xp.2.2.2 k.toNatClampNeg (vin_nat (lt_drive c4))).symm) ?_
      refine j_perm (fl [[oS (AP 0) (AP 1) (AP 2) xp.1], [aI G (AP 1) 7 xp.2.1], [aD G (AP 2) 4 (fun k => some (AP (3 + 2 * k)))], cDrs G AP xp.2.2.1 xp.2.2.2, [oX a (AP 0) hi sl su pa (AT 0) (AU 0)]]) (bperm [1, 2, 3, 0, 4] 5 rfl (by decide +kernel) rfl) ?_
      refine j_w (fl [cSt G AP xp, [oX a (AP 0) hi sl su pa (AT 0) (AU 0)]]) rfl ?_
      refine j_perm (fl [[oX a (AP 0) hi sl su pa (AT 0) (AU 0)], cSt G AP xp]) (bperm [1, 0] 2 rfl (by decide +kernel) rfl) ?_
      subst hw0 hw1 hw2; exact j_eq rfl rfl (by rw [show f_X4_share_x5 xp k = (f_X4_share_rq4 xp k) from (if_neg c40)]) K57
  · refine j_iconst (v := (-1)) C dX4_share_7 (by decide) ?_
    subst hQ; exact j_iret C hr hk ((show f_X4_share_r xp k = (-1) from (if_pos c4)).symm) rfl dX4_share_8
noncomputable def f_X5_share_rq4 (v : Nat → Int32) (f : Nat → Int64) (k : Int32) : Int32 := (FP.d2f (FP.ddiv (FP.i2d (hrsA f k 2 100)) (FP.i2d ((hrsA f k 2 100) + (hrsA f k 3 100))))).toInt32
noncomputable def f_X5_share_x5 (v : Nat → Int32) (f : Nat → Int64) (k : Int32) : Int32 := (if (hrsA f k 2 100) + (hrsA f k 3 100) = 0 then (-6) else (f_X5_share_rq4 v f k))
noncomputable def f_X5_share_r (v : Nat → Int32) (f : Nat → Int64) (k : Int32) : Int32 := (if f_X5_isDrive_r k = 0 then (-1) else (f_X5_share_x5 v f k))
set_option maxRecDepth 100000 in
set_option maxHeartbeats 4000000 in
theorem m_X5_share (l : Launch) (G : GG) (a nw th ps sl hd pd od : Nat) (v : Nat → Int32) (f : Nat → Int64) (k : Int32)  : CtI l yX5_share cX5_share 4 (some .int) (RM 3) G [.ref a, .int k] ([oM a nw th ps sl hd pd od v, aJ G nw 456 f]) (f_X5_share_r v f k) ([oM a nw th ps sl hd pd od v, aJ G nw 456 f]) := by
  refine ct_I RX5 [(0, .ref a), (1, .int k)] rfl (by decide +kernel) (Nat.le_of_ble_eq_true rfl) rfl ?_
  intro p e s m args below meth c A C hr hk hnm
  generalize hQ : (MQ below (PostI G A (f_X5_share_r v f k) ([oM a nw th ps sl hd pd od v, aJ G nw 456 f])) args s (RM 3).cells (RM 3).slots A) = Q
  refine j_iload_n C dX5_share_0 1 rfl ?_
  refine j_pureS_i (r := f_X5_isDrive_r k) C (m_X5_isDrive l G k) 1 (gS kw_551 kw_552 kw_7 kw_553) (by decide +kernel) ⟨(Nat.le_of_ble_eq_true rfl), (Nat.le_of_ble_eq_true rfl)⟩ rfl rfl (Nat.le_of_ble_eq_true rfl) dX5_share_1 ⟨(Nat.le_of_ble_eq_true rfl), (Nat.le_of_ble_eq_true rfl)⟩ ?_
  refine j_if_ne (tgt := 9) C dX5_share_4 (by decide) (fun c4 => ?_) (fun c4 => ?_)
  · refine j_aload_n C dX5_share_9 0 rfl ?_
    refine j_iload_n C dX5_share_10 1 rfl ?_
    refine j_iconst (v := 2) C dX5_share_11 (by decide) ?_
    refine j_callV_i (r := hrsA f k 2 100) (wc' := [oM a nw th ps sl hd pd od v, aJ G nw 456 f]) C (m_X5_hoursOf l G a nw th ps sl hd pd od v f k 2 (drv5 c4)) rfl 0 rfl 2 (gV kw_587 kw_588 kw_778 kw_7 kw_589) (by decide +kernel) ⟨(Nat.le_of_ble_eq_true rfl), (Nat.le_of_ble_eq_true rfl)⟩ rfl rfl (Nat.le_of_ble_eq_true rfl) dX5_share_12 ⟨(Nat.le_of_ble_eq_true rfl), (Nat.le_of_ble_eq_true rfl)⟩ [] [oM a nw th ps sl hd pd od v, aJ G nw 456 f] (perm_idx [0, 1] 2 rfl (by decide +kernel) rfl) rfl ?_
    refine j_istore_n C [(2, .int (hrsA f k 2 100)), (0, .ref a), (1, .int k)] dX5_share_15 (by decide) rfl ?_
    refine j_iload_n C dX5_share_16 0 rfl ?_
    refine j_aload_n C dX5_share_17 1 rfl ?_
    refine j_iload_n C dX5_share_18 2 rfl ?_
    refine j_iconst (v := 3) C dX5_share_19 (by decide) ?_
    refine j_callV_i (r := hrsA f k 3 100) (wc' := [oM a nw th ps sl hd pd od v, aJ G nw 456 f]) C (m_X5_hoursOf l G a nw th ps sl hd pd od v f k 3 (drv5 c4)) rfl 0 rfl 2 (gV kw_587 kw_588 kw_778 kw_7 kw_589) (by decide +kernel) ⟨(Nat.le_of_ble_eq_true rfl), (Nat.le_of_ble_eq_true rfl)⟩ rfl rfl (Nat.le_of_ble_eq_true rfl) dX5_share_20 ⟨(Nat.le_of_ble_eq_true rfl), (Nat.le_of_ble_eq_true rfl)⟩ [] [oM a nw th ps sl hd pd od v, aJ G nw 456 f] (perm_idx [0, 1] 2 rfl (by decide +kernel) rfl) rfl ?_
    refine j_iadd C dX5_share_23 rfl ?_
    refine j_istore_n C [(3, .int ((hrsA f k 2 100) + (hrsA f k 3 100))), (2, .int (hrsA f k 2 100)), (0, .ref a), (1, .int k)] dX5_share_24 (by decide) rfl ?_
    refine j_iload_n C dX5_share_25 0 rfl ?_
    have K43 : WJ p l e (RM 3) s m args below meth c G A 4 0 0 Q ([oM a nw th ps sl hd pd od v, aJ G nw 456 f]) [(3, .int ((hrsA f k 2 100) + (hrsA f k 3 100))), (2, .int (hrsA f k 2 100)), (0, .ref a), (1, .int k)] 43 [.int (f_X5_share_x5 v f k)] := by
      generalize hw1 : f_X5_share_x5 v f k = w1
      subst hQ; subst hw1; exact j_iret C hr hk ((show f_X5_share_r v f k = (f_X5_share_x5 v f k) from (if_neg c4)).symm) rfl dX5_share_43
    refine j_if_ne (tgt := 34) C dX5_share_26 (by decide) (fun c26 => ?_) (fun c26 => ?_)
    · refine j_iload_n C dX5_share_34 1 rfl ?_
      refine j_i2d C dX5_share_35 ?_
      refine j_iload_n C dX5_share_36 0 rfl ?_
      refine j_i2d C dX5_share_37 ?_
      refine j_ddiv C dX5_share_38 (by exact (sh_X5 c26).1) ?_
      refine j_d2f C dX5_share_39 (by exact (sh_X5 c26).2.1) ?_
      refine j_pureS_i (r := (FP.d2f (FP.ddiv (FP.i2d (hrsA f k 2 100)) (FP.i2d ((hrsA f k 2 100) + (hrsA f k 3 100))))).toInt32) C (m_Jxf58ca_floatToIntBits_5c35a l G (FP.d2f (FP.ddiv (FP.i2d (hrsA f k 2 100)) (FP.i2d ((hrsA f k 2 100) + (hrsA f k 3 100))))) (by exact (okY_ne (sh_X5 c26).2.2))) 1 (gS kw_643 kw_644 kw_9 kw_645) (by decide +kernel) ⟨(Nat.le_of_ble_eq_true rfl), (Nat.le_of_ble_eq_true rfl)⟩ rfl rfl (Nat.le_of_ble_eq_true rfl) dX5_share_40 ⟨(Nat.le_of_ble_eq_true rfl), (Nat.le_of_ble_eq_true rfl)⟩ ?_
      generalize hzw0 : (FP.d2f (FP.ddiv (FP.i2d (hrsA f k 2 100)) (FP.i2d ((hrsA f k 2 100) + (hrsA f k 3 100))))).toInt32 = w0
      have hw0 : f_X5_share_rq4 v f k = w0 := by subst hzw0; rfl
      subst hw0; exact j_eq rfl rfl (by rw [show f_X5_share_x5 v f k = (f_X5_share_rq4 v f k) from (if_neg c26)]) K43
    · refine j_bipush (v := (-6)) C dX5_share_29 (by decide) ?_
      refine j_goto (tgt := 43) C dX5_share_31 (by decide) ?_
      exact j_eq rfl rfl (by rw [show f_X5_share_x5 v f k = (-6) from (if_pos c26)]) K43
  · refine j_iconst (v := (-1)) C dX5_share_7 (by decide) ?_
    subst hQ; exact j_iret C hr hk ((show f_X5_share_r v f k = (-1) from (if_pos c4)).symm) rfl dX5_share_8
theorem l2d_pos {S : Int64} (h0 : 0 < S.toInt) (h1 : S.toInt < 9007199254740992) : ∃ c q, FP.Core.val64 (FP.Core.l2d S) = .fin false c q ∧ 4503599627370496 ≤ c ∧ c < 9007199254740992 ∧ -52 ≤ q ∧ q ≤ 0 := by
  have w := FP.Core.l2d_whole (a := S) ⟨by omega, h1⟩
  obtain ⟨c, q, hv⟩ := FP.Core.l2d_shape S
  rw [show decide (S.toInt < 0) = false from decide_eq_false (by omega)] at hv
  have hf := FP.Core.val64_fits (FP.Core.l2d S)
  rw [hv] at w hf
  have hv2 := FP.Core.whole_natAbs w
  obtain ⟨f1, f2, f3, f4⟩ := hf
  have f1 : c < 9007199254740992 := f1
  rw [show FP.Core.b64.qmin = -1074 by decide] at f2 f4
  have hn : 0 < S.toInt.natAbs ∧ S.toInt.natAbs < 9007199254740992 := by omega
  generalize S.toInt.natAbs = T at hn hv2
  have hc : 4503599627370496 ≤ c := by
    rcases f4 with g | g
    · exfalso
      rw [show q.toNat = 0 by omega, Nat.pow_zero, Nat.mul_one] at hv2
      have p : 2 ^ 53 ≤ 2 ^ (-q).toNat := Nat.pow_le_pow_right (by decide) (by omega)
      have := Nat.mul_le_mul hn.1 p
      omega
    · exact g
  refine ⟨c, q, hv, hc, f1, ?_, ?_⟩
  · by_cases hq : -52 ≤ q
    · exact hq
    · exfalso
      rw [show q.toNat = 0 by omega, Nat.pow_zero, Nat.mul_one] at hv2
      have p : 2 ^ 53 ≤ 2 ^ (-q).toNat := Nat.pow_le_pow_right (by decide) (by omega)
      have := Nat.mul_le_mul hn.1 p
      omega
  · by_cases hq : q ≤ 0
    · exact hq
    · exfalso
      rw [show (-q).toNat = 0 by omega, Nat.pow_zero, Nat.mul_one] at hv2
      have p : 2 ^ 1 ≤ 2 ^ q.toNat := Nat.pow_le_pow_right (by decide) (by omega)
      have := Nat.mul_le_mul hc p
      omega
theorem okX_of {x : UInt64} {c : Nat} {q : Int} (v : FP.Core.val64 x = .fin false c q) (h1 : 4503599627370496 ≤ c) (h2 : c < 9007199254740992) (h3 : -1074 ≤ q) (h4 : q ≤ 971) : okX x := by
  have e : x = nb (q + 1075).toNat (c - 4503599627370496) := by
    refine FP.Core.val64_inj (by rw [v]; exact FP.Core.Datum.noConfusion) ?_
    rw [v, nb_val (by omega) (by omega) (by omega), show 4503599627370496 + (c - 4503599627370496) = c by omega, show (((q + 1075).toNat : Nat) : Int) - 1075 = q by omega]
  rw [e]
  unfold okX xE
  rw [nb_toNat (by omega) (by omega)]
  omega
theorem div_ok {x y : UInt64} {c d : Nat} {q r : Int} (vx : FP.Core.val64 x = .fin false c q) (vy : FP.Core.val64 y = .fin false d r) (c1 : 4503599627370496 ≤ c) (c2 : c < 9007199254740992) (d1 : 4503599627370496 ≤ d) (d2 : d < 9007199254740992) (q1 : -52 ≤ q) (q2 : q ≤ 0) (r1 : -52 ≤ r) (r2 : r ≤ 0) : okX (FP.Core.ddiv x y) := by
  have v : FP.Core.val64 (FP.Core.ddiv x y) = FP.Core.roundRatio FP.Core.b64 false c d (q - r) := by
    rw [FP.Core.val64_ddiv, vx, vy]
    show (if d = 0 then _ else _) = _
    rw [if_neg (by omega)]
    rfl
  have hf := FP.Core.val64_fits (FP.Core.ddiv x y)
  obtain ⟨l1, l2⟩ := FP.Core.leading_spec (A := c) (B := d) (by omega) (by omega)
  have b1 : FP.Core.Below c d 1 := (FP.Core.below_iff c d 1 0).mpr (by omega)
  have b2 : ¬ FP.Core.Below c d (-1) := fun h => by
    have h := (FP.Core.below_iff c d 0 1).mp h
    omega
  have g1 := FP.Core.lt_of_below l1 b1
  have g2 := FP.Core.lt_of_below b2 l2
  have hQ : -105 ≤ FP.Core.quantum FP.Core.b64 c d (q - r) ∧ FP.Core.quantum FP.Core.b64 c d (q - r) ≤ 0 := by
    unfold FP.Core.quantum
    rw [show FP.Core.b64.qmin = -1074 by decide, show ((FP.Core.b64.p : Int) - 1) = 52 by decide]
    omega
  rw [v] at hf
  unfold FP.Core.roundRatio at v hf
  rw [if_neg (by omega)] at v hf
  unfold FP.Core.roundAt FP.Core.settle FP.Core.bound at v hf
  generalize FP.Core.quantum FP.Core.b64 c d (q - r) = Q at v hf hQ
  rw [show FP.Core.b64.qmax = 971 by decide, if_pos (by omega : Q ≤ 971), if_pos (by omega : Q + 1 ≤ 971)] at v hf
  have fin : ∀ (c' : Nat) (q' : Int), FP.Core.val64 (FP.Core.ddiv x y) = .fin false c' q' → FP.Core.fits FP.Core.b64 (.fin false c' q') → -105 ≤ q' → q' ≤ 1 → okX (FP.Core.ddiv x y) := by
    intro c' q' v' hf' h3 h4
    obtain ⟨f1, f2, f3, f4⟩ := hf'
    rw [show FP.Core.b64.qmin = -1074 by decide] at f4
    rcases f4 with g | g
    · omega
    · exact okX_of v' g f1 (by omega) (by omega)
  split at v
  · rename_i h
    rw [if_pos h] at hf
    exact fin _ _ v hf hQ.1 (by omega)
  · rename_i h
    rw [if_neg h] at hf
    exact fin _ _ v hf (by omega) (by omega)
theorem mn_ok {S M : Int64} (s0 : 0 ≤ S.toInt) (s1 : S.toInt < 9007199254740992) (m0 : 0 < M.toInt) (m1 : M.toInt < 9007199254740992) : FP.ddiv (FP.l2d S) (FP.l2d M) = 0 ∨ okX (FP.ddiv (FP.l2d S) (FP.l2d M)) := by
  obtain ⟨d, r, vd, d1, d2, r1, r2⟩ := l2d_pos m0 m1
  rcases (show S.toInt = 0 ∨ 0 < S.toInt by omega) with h | h
  · left
    have e : S = 0 := Int64.toInt_inj.mp (by rw [h]; decide)
    subst e
    have v : FP.Core.val64 (FP.Core.ddiv (FP.Core.l2d 0) (FP.Core.l2d M)) = FP.Core.val64 0 := by
      rw [FP.Core.val64_ddiv, FP.Core.l2d_zero, FP.Core.val64_zero, vd]
      show (if d = 0 then _ else _) = _
      rw [if_neg (by omega)]
      rfl
    exact FP.Core.val64_inj (by rw [v, FP.Core.val64_zero]; exact FP.Core.Datum.noConfusion) v
  · right
    obtain ⟨c, q, vc, c1, c2, q1, q2⟩ := l2d_pos h s1
    exact div_ok vc vd c1 c2 d1 d2 q1 q2 r1 r2
theorem mn_i {S : Int64} {n : Int32} (s0 : 0 ≤ S.toInt) (s1 : S.toInt < 9007199254740992) (m0 : ¬ n ≤ 0) : FP.ddiv (FP.l2d S) (FP.i2d n) = 0 ∨ okX (FP.ddiv (FP.l2d S) (FP.i2d n)) := by
  have e : FP.i2d n = FP.l2d n.toInt64 := FP.Core.i2d_l2d n
  have h := Int32.lt_iff_toInt_lt.mp (Int32.not_le.mp m0)
  rw [show (0 : Int32).toInt = 0 by decide] at h
  have h2 := n.toInt_lt
  rw [e]
  exact mn_ok s0 s1 (by rw [Int32.toInt_toInt64]; exact h) (by rw [Int32.toInt_toInt64]; omega)
noncomputable def f_X4_mean_rq2 (xp : StV) (k : Int32) : Int64 := (FP.ddiv (FP.l2d ((xp.2.2.1 k.toNatClampNeg).2)) (FP.i2d (xp.1 2))).toInt64
noncomputable def f_X4_mean_x3 (xp : StV) (k : Int32) : Int64 := (if xp.1 2 ≤ 0 then 0 else (f_X4_mean_rq2 xp k))
noncomputable def f_X4_mean_r (xp : StV) (k : Int32) : Int64 := (if f_X4_isDrive_r k = 0 then (-1) else (f_X4_mean_x3 xp k))
set_option maxRecDepth 100000 in
set_option maxHeartbeats 4000000 in
theorem m_X4_mean (l : Launch) (G : GG) (a hi sl su pa : Nat) (AP AT AU : Nat → Nat) (xp : StV) (k : Int32) (hS : ∀ d : Nat, d < 4 → 0 ≤ (xp.2.2.1 d).2.toInt ∧ (xp.2.2.1 d).2.toInt < 9007199254740992) : CtL l yX4_mean cX4_mean 3 (some .long) (RM 2) G [.ref a, .int k] (fl [[oX a (AP 0) hi sl su pa (AT 0) (AU 0)], cSt G AP xp]) (f_X4_mean_r xp k) (fl [[oX a (AP 0) hi sl su pa (AT 0) (AU 0)], cSt G AP xp]) := by
  refine ct_L RX4 [(0, .ref a), (1, .int k)] rfl (by decide +kernel) (Nat.le_of_ble_eq_true rfl) rfl ?_
  intro p e s m args below meth c A C hr hk hnm
  generalize hQ : (MQ below (PostL G A (f_X4_mean_r xp k) (fl [[oX a (AP 0) hi sl su pa (AT 0) (AU 0)], cSt G AP xp])) args s (RM 2).cells (RM 2).slots A) = Q
  refine j_iload_n C dX4_mean_0 1 rfl ?_
  refine j_pureS_i (r := f_X4_isDrive_r k) C (m_X4_isDrive l G k) 1 (gS kw_306 kw_193 kw_1 kw_194) (by decide +kernel) ⟨(Nat.le_of_ble_eq_true rfl), (Nat.le_of_ble_eq_true rfl)⟩ rfl rfl (Nat.le_of_ble_eq_true rfl) dX4_mean_1 ⟨(Nat.le_of_ble_eq_true rfl), (Nat.le_of_ble_eq_true rfl)⟩ ?_
  refine j_if_ne (tgt := 11) C dX4_mean_4 (by decide) (fun c4 => ?_) (fun c4 => ?_)
  · refine j_aload_n C dX4_mean_11 0 rfl ?_
    refine j_get C kin4 rfl 0 rfl 0 (by decide) kw_140 rfl (v := .ref (AP 0)) rfl dX4_mean_12 ?_
    refine j_perm (fl [cSt G AP xp, [oX a (AP 0) hi sl su pa (AT 0) (AU 0)]]) (bperm [1, 0] 2 rfl (by decide +kernel) rfl) ?_
    refine j_w (fl [[oS (AP 0) (AP 1) (AP 2) xp.1], [aI G (AP 1) 7 xp.2.1], [aD G (AP 2) 4 (fun k => some (AP (3 + 2 * k)))], cDrs G AP xp.2.2.1 xp.2.2.2, [oX a (AP 0) hi sl su pa (AT 0) (AU 0)]]) rfl ?_
    refine j_perm (fl [[oS (AP 0) (AP 1) (AP 2) xp.1], [aI G (AP 1) 7 xp.2.1], [aD G (AP 2) 4 (fun k => some (AP (3 + 2 * k)))], [oX a (AP 0) hi sl su pa (AT 0) (AU 0)], cDrs G AP xp.2.2.1 xp.2.2.2]) (bperm [0, 1, 2, 4, 3] 5 rfl (by decide +kernel) rfl) ?_
    refine j_get C kin3 rfl 0 rfl 2 (by decide) kw_83 rfl (v := .int (xp.1 2)) rfl dX4_mean_15 ?_
    refine j_istore_n C [(2, .int (xp.1 2)), (0, .ref a), (1, .int k)] dX4_mean_18 (by decide) rfl ?_
    refine j_iload_n C dX4_mean_19 0 rfl ?_
    have K46 : WJ p l e (RM 2) s m args below meth c G A 3 0 0 Q (fl [[oX a (AP 0) hi sl su pa (AT 0) (AU 0)], cSt G AP xp]) [(2, .int (xp.1 2)), (0, .ref a), (1, .int k)] 46 [.long (f_X4_mean_x3 xp k)] := by
      generalize hw1 : f_X4_mean_x3 xp k = w1
      subst hQ; subst hw1; exact j_lret C hr hk ((show f_X4_mean_r xp k = (f_X4_mean_x3 xp k) from (if_neg c4)).symm) rfl dX4_mean_46
    refine j_if_le (tgt := 45) C dX4_mean_20 (by decide) (fun c20 => ?_) (fun c20 => ?_)
    · refine j_lconst (v := 0) C dX4_mean_45 (by decide) ?_
      refine j_perm (fl [[oS (AP 0) (AP 1) (AP 2) xp.1], [aI G (AP 1) 7 xp.2.1], [aD G (AP 2) 4 (fun k => some (AP (3 + 2 * k)))], cDrs G AP xp.2.2.1 xp.2.2.2, [oX a (AP 0) hi sl su pa (AT 0) (AU 0)]]) (bperm [0, 1, 2, 4, 3] 5 rfl (by decide +kernel) rfl) ?_
      refine j_w (fl [cSt G AP xp, [oX a (AP 0) hi sl su pa (AT 0) (AU 0)]]) rfl ?_
      refine j_perm (fl [[oX a (AP 0) hi sl su pa (AT 0) (AU 0)], cSt G AP xp]) (bperm [1, 0] 2 rfl (by decide +kernel) rfl) ?_
      exact j_eq rfl rfl (by rw [show f_X4_mean_x3 xp k = 0 from (if_pos c20)]) K46
    · refine j_aload_n C dX4_mean_23 1 rfl ?_
      refine j_get C kin4 rfl 3 rfl 0 (by decide) kw_140 rfl (v := .ref (AP 0)) rfl dX4_mean_24 ?_
      refine j_get C kin3 rfl 0 rfl 1 (by decide) kw_81 rfl (v := .ref (AP 2)) rfl dX4_mean_27 ?_
      refine j_iload_n C dX4_mean_30 2 rfl ?_
      refine j_perm (fl [cDrs G AP xp.2.2.1 xp.2.2.2, [oS (AP 0) (AP 1) (AP 2) xp.1], [aI G (AP 1) 7 xp.2.1], [aD G (AP 2) 4 (fun k => some (AP (3 + 2 * k)))], [oX a (AP 0) hi sl su pa (AT 0) (AU 0)]]) (bperm [4, 0, 1, 2, 3] 5 rfl (by decide +kernel) rfl) ?_
      refine j_perm (fl [[oD (AP (3 + 2 * k.toNatClampNeg)) (AP (4 + 2 * k.toNatClampNeg)) (xp.2.2.1 k.toNatClampNeg)], [aB G (AP (4 + 2 * k.toNatClampNeg)) (xp.2.2.2 k.toNatClampNeg)], cRs G AP xp.2.2.1 xp.2.2.2 k.toNatClampNeg, [oS (AP 0) (AP 1) (AP 2) xp.1], [aI G (AP 1) 7 xp.2.1], [aD G (AP 2) 4 (fun k => some (AP (3 + 2 * k)))], [oX a (AP 0) hi sl su pa (AT 0) (AU 0)]]) (open_at (openDrs G AP xp.2.2.1 xp.2.2.2 k.toNatClampNeg (vin_nat (lt_drive c4)))) ?_
      refine j_perm (fl [[oD (AP (3 + 2 * k.toNatClampNeg)) (AP (4 + 2 * k.toNatClampNeg)) (xp.2.2.1 k.toNatClampNeg)], [aB G (AP (4 + 2 * k.toNatClampNeg)) (xp.2.2.2 k.toNatClampNeg)], [oS (AP 0) (AP 1) (AP 2) xp.1], [aI G (AP 1) 7 xp.2.1], [aD G (AP 2) 4 (fun k => some (AP (3 + 2 * k)))], [oX a (AP 0) hi sl su pa (AT 0) (AU 0)], cRs G AP xp.2.2.1 xp.2.2.2 k.toNatClampNeg]) (bperm [0, 1, 3, 4, 5, 6, 2] 7 rfl (by decide +kernel) rfl) ?_
      refine j_aaldD C 4 rfl (lt_drive c4) (y := AP (3 + 2 * k.toNatClampNeg)) rfl dX4_mean_31 ?_
      refine j_get C kin0 rfl 0 rfl 10 (by decide) kw_61 rfl (v := .long ((xp.2.2.1 k.toNatClampNeg).2)) rfl dX4_mean_32 ?_
      refine j_l2d C dX4_mean_35 ?_
      refine j_iload_n C dX4_mean_36 0 rfl ?_
      refine j_i2d C dX4_mean_37 ?_
      refine j_ddiv C dX4_mean_38 (by exact n64_of (okX_ne (mn_i (hS _ (vin_nat (lt_drive c4))).1 (hS _ (vin_nat (lt_drive c4))).2 c20))) ?_
      refine j_pureS_l (r := (FP.ddiv (FP.l2d ((xp.2.2.1 k.toNatClampNeg).2)) (FP.i2d (xp.1 2))).toInt64) C (m_X4_doubleBits l G (FP.ddiv (FP.l2d ((xp.2.2.1 k.toNatClampNeg).2)) (FP.i2d (xp.1 2))) (by exact (mn_i (hS _ (vin_nat (lt_drive c4))).1 (hS _ (vin_nat (lt_drive c4))).2 c20))) 1 (gS kw_332 kw_333 kw_1 kw_334) (by decide +kernel) ⟨(Nat.le_of_ble_eq_true rfl), (Nat.le_of_ble_eq_true rfl)⟩ rfl rfl (Nat.le_of_ble_eq_true rfl) dX4_mean_39 ⟨(Nat.le_of_ble_eq_true rfl), (Nat.le_of_ble_eq_true rfl)⟩ ?_
      generalize hzw0 : (FP.ddiv (FP.l2d ((xp.2.2.1 k.toNatClampNeg).2)) (FP.i2d (xp.1 2))).toInt64 = w0
      have hw0 : f_X4_mean_rq2 xp k = w0 := by subst hzw0; rfl
      refine j_goto (tgt := 46) C dX4_mean_42 (by decide) ?_
      refine j_perm (fl [[oD (AP (3 + 2 * k.toNatClampNeg)) (AP (4 + 2 * k.toNatClampNeg)) (xp.2.2.1 k.toNatClampNeg)], [aB G (AP (4 + 2 * k.toNatClampNeg)) (xp.2.2.2 k.toNatClampNeg)], cRs G AP xp.2.2.1 xp.2.2.2 k.toNatClampNeg, [oS (AP 0) (AP 1) (AP 2) xp.1], [aI G (AP 1) 7 xp.2.1], [aD G (AP 2) 4 (fun k => some (AP (3 + 2 * k)))], [oX a (AP 0) hi sl su pa (AT 0) (AU 0)]]) (bperm [0, 1, 6, 2, 3, 4, 5] 7 rfl (by decide +kernel) rfl) ?_
      refine j_perm (fl [cDrs G AP xp.2.2.1 xp.2.2.2, [oS (AP 0) (AP 1) (AP 2) xp.1], [aI G (AP 1) 7 xp.2.1], [aD G (AP 2) 4 (fun k => some (AP (3 + 2 * k)))], [oX a (AP 0) hi sl su pa (AT 0) (AU 0)]]) (shut_at (bs := [[oD (AP (3 + 2 * k.toNatClampNeg)) (AP (4 + 2 * k.toNatClampNeg)) (xp.2.2.1 k.toNatClampNeg)], [aB G (AP (4 + 2 * k.toNatClampNeg)) (xp.2.2.2 k.toNatClampNeg)], cRs G AP xp.2.2.1 xp.2.2.2 k.toNatClampNeg]) (openDrs G AP xp.2.2.1 xp.2.2.2 k.toNatClampNeg (vin_nat (lt_drive c4))).symm) ?_
      refine j_perm (fl [[oS (AP 0) (AP 1) (AP 2) xp.1], [aI G (AP 1) 7 xp.2.1], [aD G (AP 2) 4 (fun k => some (AP (3 + 2 * k)))], cDrs G AP xp.2.2.1 xp.2.2.2, [oX a (AP 0) hi sl su pa (AT 0) (AU 0)]]) (bperm [1, 2, 3, 0, 4] 5 rfl (by decide +kernel) rfl) ?_
      refine j_w (fl [cSt G AP xp, [oX a (AP 0) hi sl su pa (AT 0) (AU 0)]]) rfl ?_
      refine j_perm (fl [[oX a (AP 0) hi sl su pa (AT 0) (AU 0)], cSt G AP xp]) (bperm [1, 0] 2 rfl (by decide +kernel) rfl) ?_
      subst hw0; exact j_eq rfl rfl (by rw [show f_X4_mean_x3 xp k = (f_X4_mean_rq2 xp k) from (if_neg c20)]) K46
  · refine j_ldc2 (v := (-1)) C kw_342 dX4_mean_7 ?_
    subst hQ; exact j_lret C hr hk ((show f_X4_mean_r xp k = (-1) from (if_pos c4)).symm) rfl dX4_mean_10
theorem mn_5 {f : Nat → Int64} {k : Int32} (h0 : 0 ≤ (f 0).toInt) (h1 : (f 0).toInt < 9007199254740992) (hS : ∀ d : Nat, d < 4 → 0 ≤ (f (22 + 11 * d)).toInt ∧ (f (22 + 11 * d)).toInt < 9007199254740992) (hd : vp_in k 4) (c : ¬ lg_cmp (f 0) 0 = 0) : FP.ddiv (FP.l2d (f (f_X5_row_r k + 10).toNatClampNeg)) (FP.l2d (f 0)) = 0 ∨ okX (FP.ddiv (FP.l2d (f (f_X5_row_r k + 10).toNatClampNeg)) (FP.l2d (f 0))) := by
  have hk := vin_nat hd
  have e : (f_X5_row_r k + 10).toNatClampNeg = 22 + 11 * k.toNatClampNeg := by
    rw [rw_cl hd (by decide), show (10 : Int32).toNatClampNeg = 10 by decide]
    omega
  rw [e]
  have hz : ¬ (f 0).toInt = 0 := fun g => c ((lg_cmp_eq _ _).mpr (Int64.toInt_inj.mp (by rw [g]; decide)))
  exact mn_ok (hS _ hk).1 (hS _ hk).2 (by omega) h1
noncomputable def f_X5_mean_rq3 (v : Nat → Int32) (f : Nat → Int64) (k : Int32) : Int64 := (FP.ddiv (FP.l2d (f ((f_X5_row_r k) + 10).toNatClampNeg)) (FP.l2d (f 0))).toInt64
noncomputable def f_X5_mean_x4 (v : Nat → Int32) (f : Nat → Int64) (k : Int32) : Int64 := (if lg_cmp (f 0) 0 = 0 then 0 else (f_X5_mean_rq3 v f k))
noncomputable def f_X5_mean_r (v : Nat → Int32) (f : Nat → Int64) (k : Int32) : Int64 := (if f_X5_isDrive_r k = 0 then (-1) else (f_X5_mean_x4 v f k))
set_option maxRecDepth 100000 in
set_option maxHeartbeats 4000000 in
theorem m_X5_mean (l : Launch) (G : GG) (a nw th ps sl hd pd od : Nat) (v : Nat → Int32) (f : Nat → Int64) (k : Int32) (h0 : 0 ≤ (f 0).toInt) (h1 : (f 0).toInt < 9007199254740992) (hS : ∀ d : Nat, d < 4 → 0 ≤ (f (22 + 11 * d)).toInt ∧ (f (22 + 11 * d)).toInt < 9007199254740992) : CtL l yX5_mean cX5_mean 2 (some .long) (RM 2) G [.ref a, .int k] ([oM a nw th ps sl hd pd od v, aJ G nw 456 f]) (f_X5_mean_r v f k) ([oM a nw th ps sl hd pd od v, aJ G nw 456 f]) := by
  refine ct_L RX5 [(0, .ref a), (1, .int k)] rfl (by decide +kernel) (Nat.le_of_ble_eq_true rfl) rfl ?_
  intro p e s m args below meth c A C hr hk hnm
  generalize hQ : (MQ below (PostL G A (f_X5_mean_r v f k) ([oM a nw th ps sl hd pd od v, aJ G nw 456 f])) args s (RM 2).cells (RM 2).slots A) = Q
  refine j_iload_n C dX5_mean_0 1 rfl ?_
  refine j_pureS_i (r := f_X5_isDrive_r k) C (m_X5_isDrive l G k) 1 (gS kw_551 kw_552 kw_7 kw_553) (by decide +kernel) ⟨(Nat.le_of_ble_eq_true rfl), (Nat.le_of_ble_eq_true rfl)⟩ rfl rfl (Nat.le_of_ble_eq_true rfl) dX5_mean_1 ⟨(Nat.le_of_ble_eq_true rfl), (Nat.le_of_ble_eq_true rfl)⟩ ?_
  refine j_if_ne (tgt := 11) C dX5_mean_4 (by decide) (fun c4 => ?_) (fun c4 => ?_)
  · refine j_aload_n C dX5_mean_11 0 rfl ?_
    refine j_get C kin5 rfl 0 rfl 0 (by decide) kw_489 rfl (v := .ref nw) rfl dX5_mean_12 ?_
    refine j_iconst (v := 0) C dX5_mean_15 (by decide) ?_
    refine j_lald C 1 rfl (vin_lit rfl) (v := f 0) rfl dX5_mean_16 ?_
    refine j_lconst (v := 0) C dX5_mean_17 (by decide) ?_
    refine j_lcmp C dX5_mean_18 ?_
    have K50 : WJ p l e (RM 2) s m args below meth c G A 2 0 0 Q ([oM a nw th ps sl hd pd od v, aJ G nw 456 f]) [(0, .ref a), (1, .int k)] 50 [.long (f_X5_mean_x4 v f k)] := by
      generalize hw1 : f_X5_mean_x4 v f k = w1
      subst hQ; subst hw1; exact j_lret C hr hk ((show f_X5_mean_r v f k = (f_X5_mean_x4 v f k) from (if_neg c4)).symm) rfl dX5_mean_50
    refine j_if_ne (tgt := 26) C dX5_mean_19 (by decide) (fun c19 => ?_) (fun c19 => ?_)
    · refine j_aload_n C dX5_mean_26 0 rfl ?_
      refine j_get C kin5 rfl 0 rfl 0 (by decide) kw_489 rfl (v := .ref nw) rfl dX5_mean_27 ?_
      refine j_iload_n C dX5_mean_30 1 rfl ?_
      refine j_pureS_i (r := f_X5_row_r k) C (m_X5_row l G k) 1 (gS kw_486 kw_487 kw_7 kw_488) (by decide +kernel) ⟨(Nat.le_of_ble_eq_true rfl), (Nat.le_of_ble_eq_true rfl)⟩ rfl rfl (Nat.le_of_ble_eq_true rfl) dX5_mean_31 ⟨(Nat.le_of_ble_eq_true rfl), (Nat.le_of_ble_eq_true rfl)⟩ ?_
      refine j_bipush (v := 10) C dX5_mean_34 (by decide) ?_
      refine j_iadd C dX5_mean_36 rfl ?_
      refine j_lald C 1 rfl (vin_row (drv5 c4) (by decide)) (v := f ((f_X5_row_r k) + 10).toNatClampNeg) rfl dX5_mean_37 ?_
      refine j_l2d C dX5_mean_38 ?_
      refine j_aload_n C dX5_mean_39 0 rfl ?_
      refine j_get C kin5 rfl 0 rfl 0 (by decide) kw_489 rfl (v := .ref nw) rfl dX5_mean_40 ?_
      refine j_iconst (v := 0) C dX5_mean_43 (by decide) ?_
      refine j_lald C 1 rfl (vin_lit rfl) (v := f 0) rfl dX5_mean_44 ?_
      refine j_l2d C dX5_mean_45 ?_
      refine j_ddiv C dX5_mean_46 (by exact n64_of (okX_ne (mn_5 h0 h1 hS (drv5 c4) c19))) ?_
      refine j_pureS_l (r := (FP.ddiv (FP.l2d (f ((f_X5_row_r k) + 10).toNatClampNeg)) (FP.l2d (f 0))).toInt64) C (m_Jxe99ae_doubleToLongBits_ccdee l G (FP.ddiv (FP.l2d (f ((f_X5_row_r k) + 10).toNatClampNeg)) (FP.l2d (f 0))) (by exact okX_ne (mn_5 h0 h1 hS (drv5 c4) c19))) 1 (gS kw_658 kw_659 kw_10 kw_660) (by decide +kernel) ⟨(Nat.le_of_ble_eq_true rfl), (Nat.le_of_ble_eq_true rfl)⟩ rfl rfl (Nat.le_of_ble_eq_true rfl) dX5_mean_47 ⟨(Nat.le_of_ble_eq_true rfl), (Nat.le_of_ble_eq_true rfl)⟩ ?_
      generalize hzw0 : (FP.ddiv (FP.l2d (f ((f_X5_row_r k) + 10).toNatClampNeg)) (FP.l2d (f 0))).toInt64 = w0
      have hw0 : f_X5_mean_rq3 v f k = w0 := by subst hzw0; rfl
      subst hw0; exact j_eq rfl rfl (by rw [show f_X5_mean_x4 v f k = (f_X5_mean_rq3 v f k) from (if_neg c19)]) K50
    · refine j_lconst (v := 0) C dX5_mean_22 (by decide) ?_
      refine j_goto (tgt := 50) C dX5_mean_23 (by decide) ?_
      exact j_eq rfl rfl (by rw [show f_X5_mean_x4 v f k = 0 from (if_pos c19)]) K50
  · refine j_ldc2 (v := (-1)) C kw_657 dX5_mean_7 ?_
    subst hQ; exact j_lret C hr hk ((show f_X5_mean_r v f k = (-1) from (if_pos c4)).symm) rfl dX5_mean_10
