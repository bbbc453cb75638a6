/-! FLOATING NUMBERS: share and mean -/
theorem cnt_23 (f : Nat → Int8) : ∀ i : Nat, ∃ p q : Nat, cntH f 2 i = nI p ∧ cntH f 3 i = nI q ∧ p + q ≤ i
  | 0 => ⟨0, 0, rfl, rfl, by omega⟩
  | i + 1 => by
    obtain ⟨p, q, h1, h2, h3⟩ := cnt_23 f i
    rw [cntH, cntH, h1, h2]
    by_cases c2 : (f i).toInt32 = 2
    · rw [if_pos c2, if_neg (by rw [c2]; decide), nI_1]
      exact ⟨p + 1, q, rfl, rfl, by omega⟩
    · rw [if_neg c2]
      by_cases c3 : (f i).toInt32 = 3
      · rw [if_pos c3, nI_1]
        exact ⟨p, q + 1, rfl, rfl, by omega⟩
      · rw [if_neg c3]
        exact ⟨p, q, rfl, rfl, by omega⟩
def shP (x y : Int32) : Prop := vf_n64 (FP.ddiv (FP.i2d x) (FP.i2d y)) ∧ vf_n32 (FP.d2f (FP.ddiv (FP.i2d x) (FP.i2d y))) ∧ (FP.d2f (FP.ddiv (FP.i2d x) (FP.i2d y)) = 0 ∨ okY (FP.d2f (FP.ddiv (FP.i2d x) (FP.i2d y))))
theorem sh_pq {x y : Int32} {p q : Nat} (hx : x = nI p) (hy : y = nI q) (h : p + q ≤ 100) (h0 : ¬ x + y = 0) : shP x (x + y) := by
  subst hx hy
  rw [nI_add] at h0 ⊢
  refine sh_ab (by omega) (by omega) ?_
  rcases Nat.eq_zero_or_pos (p + q) with g | g
  · rw [g] at h0
    exact absurd nI_0 h0
  · exact g
theorem sh_X4 {v : DO} {f : Nat → Int8} (h0 : ¬ f_X0_hoursThatAre_r v f 2 + f_X0_hoursThatAre_r v f 3 ≤ 0) : shP (f_X0_hoursThatAre_r v f 2) (f_X0_hoursThatAre_r v f 2 + f_X0_hoursThatAre_r v f 3) := by
  obtain ⟨p, q, h1, h2, h3⟩ := cnt_23 f 100
  exact sh_pq h1 h2 h3 (fun g => h0 (by rw [g]; decide))
noncomputable def f_X4_share_rq2 (xp : StV) (k : Int32) : Int32 := f_X0_hoursThatAre_r (xp.2.2.1 k.toNatClampNeg) (xp.2.2.2 k.toNatClampNeg) 2
noncomputable def f_X4_share_rq3 (xp : StV) (k : Int32) : Int32 := f_X0_hoursThatAre_r (xp.2.2.1 k.toNatClampNeg) (xp.2.2.2 k.toNatClampNeg) 3
noncomputable def f_X4_share_rq4 (xp : StV) (k : Int32) : Int32 := (FP.d2f (FP.ddiv (FP.i2d (f_X4_share_rq2 xp k)) (FP.i2d ((f_X4_share_rq2 xp k) + (f_X4_share_rq3 xp k))))).toInt32
noncomputable def f_X4_share_x5 (xp : StV) (k : Int32) : Int32 := (if (f_X4_share_rq2 xp k) + (f_X4_share_rq3 xp k) ≤ 0 then (-6) else (f_X4_share_rq4 xp k))
noncomputable def f_X4_share_r (xp : StV) (k : Int32) : Int32 := (if f_X4_isDrive_r k = 0 then (-1) else (f_X4_share_x5 xp k))
set_option maxRecDepth 100000 in
set_option maxHeartbeats 4000000 in
theorem m_X4_share (l : Launch) (G : GG) (a hi sl su pa : Nat) (AP AT AU : Nat → Nat) (xp : StV) (k : Int32)  : CtI l yX4_share cX4_share 4 (some .int) (RM 2) G [.ref a, .int k] (fl [[oX a (AP 0) hi sl su pa (AT 0) (AU 0)], cSt G AP xp]) (f_X4_share_r xp k) (fl [[oX a (AP 0) hi sl su pa (AT 0) (AU 0)], cSt G AP xp]) := by
  refine ct_I RX4 [(0, .ref a), (1, .int k)] rfl (by decide +kernel) (Nat.le_of_ble_eq_true rfl) rfl ?_
  intro p e s m args below meth c A C hr hk hnm
  generalize hQ : (MQ below (PostI G A (f_X4_share_r xp k) (fl [[oX a (AP 0) hi sl su pa (AT 0) (AU 0)], cSt G AP xp])) args s (RM 2).cells (RM 2).slots A) = Q
  refine j_iload_n C dX4_share_0 1 rfl ?_
  refine j_pureS_i (r := f_X4_isDrive_r k) C (m_X4_isDrive l G k) 1 (gS kw_239 kw_240 kw_1 kw_241) (by decide +kernel) ⟨(Nat.le_of_ble_eq_true rfl), (Nat.le_of_ble_eq_true rfl)⟩ rfl rfl (Nat.le_of_ble_eq_true rfl) dX4_share_1 ⟨(Nat.le_of_ble_eq_true rfl), (Nat.le_of_ble_eq_true rfl)⟩ ?_
  refine j_if_ne (tgt := 9) C dX4_share_4 (by decide) (fun c4 => ?_) (fun c4 => ?_)
  · refine j_aload_n C dX4_share_9 0 rfl ?_
    refine j_get C kin4 rfl 0 rfl 0 (by decide) kw_126 rfl (v := .ref (AP 0)) rfl dX4_share_10 ?_
    refine j_perm (fl [cSt G AP xp, [oX a (AP 0) hi sl su pa (AT 0) (AU 0)]]) (bperm [1, 0] 2 rfl (by decide +kernel) rfl) ?_
    refine j_w (fl [[oS (AP 0) (AP 1) (AP 2) xp.1], [aI G (AP 1) 7 xp.2.1], [aD G (AP 2) 4 (fun k => some (AP (3 + 2 * k)))], cDrs G AP xp.2.2.1 xp.2.2.2, [oX a (AP 0) hi sl su pa (AT 0) (AU 0)]]) rfl ?_
    refine j_perm (fl [[oS (AP 0) (AP 1) (AP 2) xp.1], [aI G (AP 1) 7 xp.2.1], [aD G (AP 2) 4 (fun k => some (AP (3 + 2 * k)))], [oX a (AP 0) hi sl su pa (AT 0) (AU 0)], cDrs G AP xp.2.2.1 xp.2.2.2]) (bperm [0, 1, 2, 4, 3] 5 rfl (by decide +kernel) rfl) ?_
    refine j_get C kin3 rfl 0 rfl 1 (by decide) kw_77 rfl (v := .ref (AP 2)) rfl dX4_share_13 ?_
    refine j_iload_n C dX4_share_16 1 rfl ?_
    refine j_perm (fl [cDrs G AP xp.2.2.1 xp.2.2.2, [oS (AP 0) (AP 1) (AP 2) xp.1], [aI G (AP 1) 7 xp.2.1], [aD G (AP 2) 4 (fun k => some (AP (3 + 2 * k)))], [oX a (AP 0) hi sl su pa (AT 0) (AU 0)]]) (bperm [4, 0, 1, 2, 3] 5 rfl (by decide +kernel) rfl) ?_
    refine j_perm (fl [[oD (AP (3 + 2 * k.toNatClampNeg)) (AP (4 + 2 * k.toNatClampNeg)) (xp.2.2.1 k.toNatClampNeg)], [aB G (AP (4 + 2 * k.toNatClampNeg)) (xp.2.2.2 k.toNatClampNeg)], cRs G AP xp.2.2.1 xp.2.2.2 k.toNatClampNeg, [oS (AP 0) (AP 1) (AP 2) xp.1], [aI G (AP 1) 7 xp.2.1], [aD G (AP 2) 4 (fun k => some (AP (3 + 2 * k)))], [oX a (AP 0) hi sl su pa (AT 0) (AU 0)]]) (open_at (openDrs G AP xp.2.2.1 xp.2.2.2 k.toNatClampNeg (vin_nat (lt_drive c4)))) ?_
    refine j_perm (fl [[oD (AP (3 + 2 * k.toNatClampNeg)) (AP (4 + 2 * k.toNatClampNeg)) (xp.2.2.1 k.toNatClampNeg)], [aB G (AP (4 + 2 * k.toNatClampNeg)) (xp.2.2.2 k.toNatClampNeg)], [oS (AP 0) (AP 1) (AP 2) xp.1], [aI G (AP 1) 7 xp.2.1], [aD G (AP 2) 4 (fun k => some (AP (3 + 2 * k)))], [oX a (AP 0) hi sl su pa (AT 0) (AU 0)], cRs G AP xp.2.2.1 xp.2.2.2 k.toNatClampNeg]) (bperm [0, 1, 3, 4, 5, 6, 2] 7 rfl (by decide +kernel) rfl) ?_
    refine j_aaldD C 4 rfl (lt_drive c4) (y := AP (3 + 2 * k.toNatClampNeg)) rfl dX4_share_17 ?_
    refine j_iconst (v := 2) C dX4_share_18 (by decide) ?_
    refine j_callV_i (r := f_X0_hoursThatAre_r (xp.2.2.1 k.toNatClampNeg) (xp.2.2.2 k.toNatClampNeg) 2) (wc' := [oD (AP (3 + 2 * k.toNatClampNeg)) (AP (4 + 2 * k.toNatClampNeg)) (xp.2.2.1 k.toNatClampNeg), aB G (AP (4 + 2 * k.toNatClampNeg)) (xp.2.2.2 k.toNatClampNeg)]) C (m_X0_hoursThatAre l G (AP (3 + 2 * k.toNatClampNeg)) (AP (4 + 2 * k.toNatClampNeg)) (xp.2.2.1 k.toNatClampNeg) (xp.2.2.2 k.toNatClampNeg) 2) rfl 0 rfl 1 (gV kw_252 kw_249 kw_250 kw_4 kw_251) (by decide +kernel) ⟨(Nat.le_of_ble_eq_true rfl), (Nat.le_of_ble_eq_true rfl)⟩ rfl rfl (Nat.le_of_ble_eq_true rfl) dX4_share_19 ⟨(Nat.le_of_ble_eq_true rfl), (Nat.le_of_ble_eq_true rfl)⟩ (fl [[oS (AP 0) (AP 1) (AP 2) xp.1], [aI G (AP 1) 7 xp.2.1], [aD G (AP 2) 4 (fun k => some (AP (3 + 2 * k)))], [oX a (AP 0) hi sl su pa (AT 0) (AU 0)], cRs G AP xp.2.2.1 xp.2.2.2 k.toNatClampNeg]) (fl [[oD (AP (3 + 2 * k.toNatClampNeg)) (AP (4 + 2 * k.toNatClampNeg)) (xp.2.2.1 k.toNatClampNeg)], [aB G (AP (4 + 2 * k.toNatClampNeg)) (xp.2.2.2 k.toNatClampNeg)], [oS (AP 0) (AP 1) (AP 2) xp.1], [aI G (AP 1) 7 xp.2.1], [aD G (AP 2) 4 (fun k => some (AP (3 + 2 * k)))], [oX a (AP 0) hi sl su pa (AT 0) (AU 0)], cRs G AP xp.2.2.1 xp.2.2.2 k.toNatClampNeg]) (bperm (bs' := [[oD (AP (3 + 2 * k.toNatClampNeg)) (AP (4 + 2 * k.toNatClampNeg)) (xp.2.2.1 k.toNatClampNeg)], [aB G (AP (4 + 2 * k.toNatClampNeg)) (xp.2.2.2 k.toNatClampNeg)], [oS (AP 0) (AP 1) (AP 2) xp.1], [aI G (AP 1) 7 xp.2.1], [aD G (AP 2) 4 (fun k => some (AP (3 + 2 * k)))], [oX a (AP 0) hi sl su pa (AT 0) (AU 0)], cRs G AP xp.2.2.1 xp.2.2.2 k.toNatClampNeg]) [0, 1, 2, 3, 4, 5, 6] 7 rfl (by decide +kernel) rfl) rfl ?_
    generalize hzw0 : f_X0_hoursThatAre_r (xp.2.2.1 k.toNatClampNeg) (xp.2.2.2 k.toNatClampNeg) 2 = w0
    have hw0 : f_X4_share_rq2 xp k = w0 := by subst hzw0; rfl
    refine j_istore_n C [(2, .int w0), (0, .ref a), (1, .int k)] dX4_share_22 (by decide) rfl ?_
    refine j_iload_n C dX4_share_23 0 rfl ?_
    refine j_aload_n C dX4_share_24 1 rfl ?_
    refine j_get C kin4 rfl 5 rfl 0 (by decide) kw_126 rfl (v := .ref (AP 0)) rfl dX4_share_25 ?_
    refine j_get C kin3 rfl 2 rfl 1 (by decide) kw_77 rfl (v := .ref (AP 2)) rfl dX4_share_28 ?_
    refine j_iload_n C dX4_share_31 2 rfl ?_
    refine j_aaldD C 4 rfl (lt_drive c4) (y := AP (3 + 2 * k.toNatClampNeg)) rfl dX4_share_32 ?_
    refine j_iconst (v := 3) C dX4_share_33 (by decide) ?_
    refine j_callV_i (r := f_X0_hoursThatAre_r (xp.2.2.1 k.toNatClampNeg) (xp.2.2.2 k.toNatClampNeg) 3) (wc' := [oD (AP (3 + 2 * k.toNatClampNeg)) (AP (4 + 2 * k.toNatClampNeg)) (xp.2.2.1 k.toNatClampNeg), aB G (AP (4 + 2 * k.toNatClampNeg)) (xp.2.2.2 k.toNatClampNeg)]) C (m_X0_hoursThatAre l G (AP (3 + 2 * k.toNatClampNeg)) (AP (4 + 2 * k.toNatClampNeg)) (xp.2.2.1 k.toNatClampNeg) (xp.2.2.2 k.toNatClampNeg) 3) rfl 0 rfl 1 (gV kw_252 kw_249 kw_250 kw_4 kw_251) (by decide +kernel) ⟨(Nat.le_of_ble_eq_true rfl), (Nat.le_of_ble_eq_true rfl)⟩ rfl rfl (Nat.le_of_ble_eq_true rfl) dX4_share_34 ⟨(Nat.le_of_ble_eq_true rfl), (Nat.le_of_ble_eq_true rfl)⟩ (fl [[oS (AP 0) (AP 1) (AP 2) xp.1], [aI G (AP 1) 7 xp.2.1], [aD G (AP 2) 4 (fun k => some (AP (3 + 2 * k)))], [oX a (AP 0) hi sl su pa (AT 0) (AU 0)], cRs G AP xp.2.2.1 xp.2.2.2 k.toNatClampNeg]) (fl [[oD (AP (3 + 2 * k.toNatClampNeg)) (AP (4 + 2 * k.toNatClampNeg)) (xp.2.2.1 k.toNatClampNeg)], [aB G (AP (4 + 2 * k.toNatClampNeg)) (xp.2.2.2 k.toNatClampNeg)], [oS (AP 0) (AP 1) (AP 2) xp.1], [aI G (AP 1) 7 xp.2.1], [aD G (AP 2) 4 (fun k => some (AP (3 + 2 * k)))], [oX a (AP 0) hi sl su pa (AT 0) (AU 0)], cRs G AP xp.2.2.1 xp.2.2.2 k.toNatClampNeg]) (bperm (bs' := [[oD (AP (3 + 2 * k.toNatClampNeg)) (AP (4 + 2 * k.toNatClampNeg)) (xp.2.2.1 k.toNatClampNeg)], [aB G (AP (4 + 2 * k.toNatClampNeg)) (xp.2.2.2 k.toNatClampNeg)], [oS (AP 0) (AP 1) (AP 2) xp.1], [aI G (AP 1) 7 xp.2.1], [aD G (AP 2) 4 (fun k => some (AP (3 + 2 * k)))], [oX a (AP 0) hi sl su pa (AT 0) (AU 0)], cRs G AP xp.2.2.1 xp.2.2.2 k.toNatClampNeg]) [0, 1, 2, 3, 4, 5, 6] 7 rfl (by decide +kernel) rfl) rfl ?_
    generalize hzw1 : f_X0_hoursThatAre_r (xp.2.2.1 k.toNatClampNeg) (xp.2.2.2 k.toNatClampNeg) 3 = w1
    have hw1 : f_X4_share_rq3 xp k = w1 := by subst hw0; subst hzw1; rfl
    refine j_iadd C dX4_share_37 rfl ?_
    refine j_istore_n C [(3, .int (w0 + w1)), (2, .int w0), (0, .ref a), (1, .int k)] dX4_share_38 (by decide) rfl ?_
    refine j_iload_n C dX4_share_39 0 rfl ?_
    have K57 : WJ p l e (RM 2) s m args below meth c G A 4 0 0 Q (fl [[oX a (AP 0) hi sl su pa (AT 0) (AU 0)], cSt G AP xp]) [(3, .int (w0 + w1)), (2, .int w0), (0, .ref a), (1, .int k)] 57 [.int (f_X4_share_x5 xp k)] := by
      generalize hw3 : f_X4_share_x5 xp k = w3
      subst hQ; subst hw0 hw1 hw3; exact j_iret C hr hk ((show f_X4_share_r xp k = (f_X4_share_x5 xp k) from (if_neg c4)).symm) rfl dX4_share_57
    refine j_if_le (tgt := 55) C dX4_share_40 (by decide) (fun c40 => ?_) (fun c40 => ?_)
    · refine j_bipush (v := (-6)) C dX4_share_55 (by decide) ?_
      refine j_perm (fl [[oD (AP (3 + 2 * k.toNatClampNeg)) (AP (4 + 2 * k.toNatClampNeg)) (xp.2.2.1 k.toNatClampNeg)], [aB G (AP (4 + 2 * k.toNatClampNeg)) (xp.2.2.2 k.toNatClampNeg)], cRs G AP xp.2.2.1 xp.2.2.2 k.toNatClampNeg, [oS (AP 0) (AP 1) (AP 2) xp.1], [aI G (AP 1) 7 xp.2.1], [aD G (AP 2) 4 (fun k => some (AP (3 + 2 * k)))], [oX a (AP 0) hi sl su pa (AT 0) (AU 0)]]) (bperm [0, 1, 6, 2, 3, 4, 5] 7 rfl (by decide +kernel) rfl) ?_
      refine j_perm (fl [cDrs G AP xp.2.2.1 xp.2.2.2, [oS (AP 0) (AP 1) (AP 2) xp.1], [aI G (AP 1) 7 xp.2.1], [aD G (AP 2) 4 (fun k => some (AP (3 + 2 * k)))], [oX a (AP 0) hi sl su pa (AT 0) (AU 0)]]) (shut_at (bs := [[oD (AP (3 + 2 * k.toNatClampNeg)) (AP (4 + 2 * k.toNatClampNeg)) (xp.2.2.1 k.toNatClampNeg)], [aB G (AP (4 + 2 * k.toNatClampNeg)) (xp.2.2.2 k.toNatClampNeg)], cRs G AP xp.2.2.1 xp.2.2.2 k.toNatClampNeg]) (openDrs G AP xp.2.2.1 xp.2.2.2 k.toNatClampNeg (vin_nat (lt_drive c4))).symm) ?_
      refine j_perm (fl [[oS (AP 0) (AP 1) (AP 2) xp.1], [aI G (AP 1) 7 xp.2.1], [aD G (AP 2) 4 (fun k => some (AP (3 + 2 * k)))], cDrs G AP xp.2.2.1 xp.2.2.2, [oX a (AP 0) hi sl su pa (AT 0) (AU 0)]]) (bperm [1, 2, 3, 0, 4] 5 rfl (by decide +kernel) rfl) ?_
      refine j_w (fl [cSt G AP xp, [oX a (AP 0) hi sl su pa (AT 0) (AU 0)]]) rfl ?_
      refine j_perm (fl [[oX a (AP 0) hi sl su pa (AT 0) (AU 0)], cSt G AP xp]) (bperm [1, 0] 2 rfl (by decide +kernel) rfl) ?_
      subst hw0 hw1; exact j_eq rfl rfl (by rw [show f_X4_share_x5 xp k = (-6) from (if_pos c40)]) K57
    · refine j_iload_n C dX4_share_43 1 rfl ?_
      refine j_i2d C dX4_share_44 ?_
      refine j_iload_n C dX4_share_45 0 rfl ?_
      refine j_i2d C dX4_share_46 ?_
      refine j_ddiv C dX4_share_47 (by subst hw0 hw1; exact (sh_X4 c40).1) ?_
      refine j_d2f C dX4_share_48 (by subst hw0 hw1; exact (sh_X4 c40).2.1) ?_
      refine j_pureS_i (r := (FP.d2f (FP.ddiv (FP.i2d w0) (FP.i2d (w0 + w1)))).toInt32) C (m_X4_floatBits l G (FP.d2f (FP.ddiv (FP.i2d w0) (FP.i2d (w0 + w1)))) (by subst hw0 hw1; exact (sh_X4 c40).2.2)) 1 (gS kw_286 kw_287 kw_1 kw_288) (by decide +kernel) ⟨(Nat.le_of_ble_eq_true rfl), (Nat.le_of_ble_eq_true rfl)⟩ rfl rfl (Nat.le_of_ble_eq_true rfl) dX4_share_49 ⟨(Nat.le_of_ble_eq_true rfl), (Nat.le_of_ble_eq_true rfl)⟩ ?_
      generalize hzw2 : (FP.d2f (FP.ddiv (FP.i2d w0) (FP.i2d (w0 + w1)))).toInt32 = w2
      have hw2 : f_X4_share_rq4 xp k = w2 := by subst hw0 hw1; subst hzw2; rfl
      refine j_goto (tgt := 57) C dX4_share_52 (by decide) ?_
      refine j_perm (fl [[oD (AP (3 + 2 * k.toNatClampNeg)) (AP (4 + 2 * k.toNatClampNeg)) (xp.2.2.1 k.toNatClampNeg)], [aB G (AP (4 + 2 * k.toNatClampNeg)) (xp.2.2.2 k.toNatClampNeg)], cRs G AP xp.2.2.1 xp.2.2.2 k.toNatClampNeg, [oS (AP 0) (AP 1) (AP 2) xp.1], [aI G (AP 1) 7 xp.2.1], [aD G (AP 2) 4 (fun k => some (AP (3 + 2 * k)))], [oX a (AP 0) hi sl su pa (AT 0) (AU 0)]]) (bperm [0, 1, 6, 2, 3, 4, 5] 7 rfl (by decide +kernel) rfl) ?_
      refine j_perm (fl [cDrs G AP xp.2.2.1 xp.2.2.2, [oS (AP 0) (AP 1) (AP 2) xp.1], [aI G (AP 1) 7 xp.2.1], [aD G (AP 2) 4 (fun k => some (AP (3 + 2 * k)))], [oX a (AP 0) hi sl su pa (AT 0) (AU 0)]]) (shut_at (bs := [[oD (AP (3 + 2 * k.toNatClampNeg)) (AP (4 + 2 * k.toNatClampNeg)) (xp.2.2.1 k.toNatClampNeg)], [aB G (AP (4 + 2 * k.toNatClampNeg)) (xp.2.2.2 k.toNatClampNeg)], cRs G AP xp.2.2.1 xp.2.2.2 k.toNatClampNeg]) (openDrs G AP xp.2.2.1 xp.2.2.2 k.toNatClampNeg (vin_nat (lt_drive c4))).symm) ?_
      refine j_perm (fl [[oS (AP 0) (AP 1) (AP 2) xp.1], [aI G (AP 1) 7 xp.2.1], [aD G (AP 2) 4 (fun k => some (AP (3 + 2 * k)))], cDrs G AP xp.2.2.1 xp.2.2.2, [oX a (AP 0) hi sl su pa (AT 0) (AU 0)]]) (bperm [1, 2, 3, 0, 4] 5 rfl (by decide +kernel) rfl) ?_
      refine j_w (fl [cSt G AP xp, [oX a (AP 0) hi sl su pa (AT 0) (AU 0)]]) rfl ?_
      refine j_perm (fl [[oX a (AP 0) hi sl su pa (AT 0) (AU 0)], cSt G AP xp]) (bperm [1, 0] 2 rfl (by decide +kernel) rfl) ?_
      subst hw0 hw1 hw2; exact j_eq rfl rfl (by rw [show f_X4_share_x5 xp k = (f_X4_share_rq4 xp k) from (if_neg c40)]) K57
  · refine j_iconst (v := (-1)) C dX4_share_7 (by decide) ?_
    subst hQ; exact j_iret C hr hk ((show f_X4_share_r xp k = (-1) from (if_pos c4)).symm) rfl dX4_share_8
