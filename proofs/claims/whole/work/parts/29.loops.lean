/-! THE FACE: METHODS WITH LOOPS -/
/-- the most that the drive k holds behind one of the first i minutes -/
noncomputable def mostN (x : StV) (k : Int32) : Nat → Int32
  | 0 => 0
  | i + 1 => imax (mostN x k i) (((passN x (i + 1)).2.2.1 k.toNatClampNeg).1 3)
noncomputable def f_X4_mostHeld_r (xp : StV) (xt : StV) (k : Int32) (y : Int32) : Int32 := if f_X4_errorOfQuestion_r k y = 0 then mostN xp k y.toNatClampNeg else f_X4_errorOfQuestion_r k y
noncomputable def f_X4_mostHeld_xt (xp : StV) (xt : StV) (k : Int32) (y : Int32) : StV := if f_X4_errorOfQuestion_r k y = 0 then passN xp y.toNatClampNeg else xt
set_option maxRecDepth 100000 in
set_option maxHeartbeats 4000000 in
theorem m_X4_mostHeld (l : Launch) (G : GG) (a hi sl su pa : Nat) (AP AT AU : Nat → Nat) (xp : StV) (xt : StV) (k : Int32) (y : Int32)  : CtI l yX4_mostHeld cX4_mostHeld 6 (some .int) (RM 7) G [.ref a, .int k, .int y] (fl [[oX a (AP 0) hi sl su pa (AT 0) (AU 0)], cSt G AP xp, cSt G AT xt]) (f_X4_mostHeld_r xp xt k y) (fl [[oX a (AP 0) hi sl su pa (AT 0) (AU 0)], cSt G AP xp, cSt G AT (f_X4_mostHeld_xt xp xt k y)]) := by
  refine ct_I RX4 [(0, .ref a), (1, .int k), (2, .int y)] rfl (by decide +kernel) (Nat.le_of_ble_eq_true rfl) rfl ?_
  intro p e s m args below meth c A C hr hk hnm
  generalize hQ : (MQ below (PostI G A (f_X4_mostHeld_r xp xt k y) (fl [[oX a (AP 0) hi sl su pa (AT 0) (AU 0)], cSt G AP xp, cSt G AT (f_X4_mostHeld_xt xp xt k y)])) args s (RM 7).cells (RM 7).slots A) = Q
  refine j_aload_n C dX4_mostHeld_0 0 rfl ?_
  refine j_iload_n C dX4_mostHeld_1 1 rfl ?_
  refine j_iload_n C dX4_mostHeld_2 2 rfl ?_
  refine j_callV_i (r := f_X4_errorOfQuestion_r k y) (wc' := [oX a (AP 0) hi sl su pa (AT 0) (AU 0)]) C (m_X4_errorOfQuestion l G a hi sl su pa AP AT AU k y) rfl 0 rfl 2 (gV kw_351 kw_352 kw_761 kw_1 kw_353) (by decide +kernel) ⟨(Nat.le_of_ble_eq_true rfl), (Nat.le_of_ble_eq_true rfl)⟩ rfl rfl (Nat.le_of_ble_eq_true rfl) dX4_mostHeld_3 ⟨(Nat.le_of_ble_eq_true rfl), (Nat.le_of_ble_eq_true rfl)⟩ (fl [cSt G AP xp, cSt G AT xt]) (fl [[oX a (AP 0) hi sl su pa (AT 0) (AU 0)], cSt G AP xp, cSt G AT xt]) (bperm (bs' := [[oX a (AP 0) hi sl su pa (AT 0) (AU 0)], cSt G AP xp, cSt G AT xt]) [0, 1, 2] 3 rfl (by decide +kernel) rfl) rfl ?_
  refine j_istore_n C [(3, .int (f_X4_errorOfQuestion_r k y)), (0, .ref a), (1, .int k), (2, .int y)] dX4_mostHeld_6 (by decide) rfl ?_
  refine j_iload_n C dX4_mostHeld_7 0 rfl ?_
  refine j_if_eq (tgt := 13) C dX4_mostHeld_8 (by decide) (fun c8 => ?_) (fun c8 => ?_)
  · refine j_aload_n C dX4_mostHeld_13 1 rfl ?_
    refine j_get C kin4 rfl 0 rfl 5 (by decide) kw_145 rfl (v := .ref (AT 0)) rfl dX4_mostHeld_14 ?_
    refine j_aload_n C dX4_mostHeld_17 1 rfl ?_
    refine j_get C kin4 rfl 0 rfl 0 (by decide) kw_140 rfl (v := .ref (AP 0)) rfl dX4_mostHeld_18 ?_
    refine j_callV_v (wc' := fl [cSt G AT xp, cSt G AP xp]) C (m_X3_copyFrom l G AT AP xt xp) rfl 0 rfl 1 (gV kw_358 kw_163 kw_164 kw_2 kw_165) (by decide +kernel) ⟨(Nat.le_of_ble_eq_true rfl), (Nat.le_of_ble_eq_true rfl)⟩ rfl rfl (Nat.le_of_ble_eq_true rfl) dX4_mostHeld_21 ⟨(Nat.le_of_ble_eq_true rfl), (Nat.le_of_ble_eq_true rfl)⟩ (fl [[oX a (AP 0) hi sl su pa (AT 0) (AU 0)]]) (fl [cSt G AT xp, cSt G AP xp, [oX a (AP 0) hi sl su pa (AT 0) (AU 0)]]) (bperm2 (bC := [cSt G AT xt, cSt G AP xp]) (bR := [[oX a (AP 0) hi sl su pa (AT 0) (AU 0)]]) [2, 1, 0] 3 rfl (by decide +kernel) rfl) (fl_app _ _) ?_
    refine j_perm (fl [[oX a (AP 0) hi sl su pa (AT 0) (AU 0)], cSt G AT xp, cSt G AP xp]) (bperm [2, 0, 1] 3 rfl (by decide +kernel) rfl) ?_
    refine j_iconst (v := 0) C dX4_mostHeld_24 (by decide) ?_
    refine j_istore C [(4, .int 0), (3, .int (f_X4_errorOfQuestion_r k y)), (0, .ref a), (1, .int k), (2, .int y)] dX4_mostHeld_25 (by decide) rfl ?_
    refine j_iconst (v := 0) C dX4_mostHeld_27 (by decide) ?_
    refine j_istore C [(5, .int 0), (4, .int 0), (3, .int (f_X4_errorOfQuestion_r k y)), (0, .ref a), (1, .int k), (2, .int y)] dX4_mostHeld_28 (by decide) rfl ?_
    have L3 : ∀ (n i : Nat), i + n = y.toNatClampNeg → WJ p l e (RM 7) s m args below meth c G A 6 0 0 Q (fl [[oX a (AP 0) hi sl su pa (AT 0) (AU 0)], cSt G AT (passN xp i), cSt G AP xp]) [(5, .int (nI i)), (4, .int (mostN xp k i)), (3, .int (f_X4_errorOfQuestion_r k y)), (0, .ref a), (1, .int k), (2, .int y)] 30 [] := by
      intro n
      induction n with
      | zero =>
        intro i hIN
        have hN : i = y.toNatClampNeg := by omega
        subst hN
        refine j_iload C dX4_mostHeld_30 0 rfl ?_
        refine j_iload_n C dX4_mostHeld_32 5 rfl ?_
        refine j_icmp_ge (tgt := 69) C dX4_mostHeld_33 (by decide) (fun c33 => ?_) (fun h => absurd (le_cl y (cl_31 y)) h)
        refine j_iload C dX4_mostHeld_69 1 rfl ?_
        refine j_perm (fl [[oX a (AP 0) hi sl su pa (AT 0) (AU 0)], cSt G AP xp, cSt G AT (passN xp y.toNatClampNeg)]) (bperm [0, 2, 1] 3 rfl (by decide +kernel) rfl) ?_
        subst hQ; exact j_iret C hr hk (show mostN xp k y.toNatClampNeg = (f_X4_mostHeld_r xp xt k y) from (if_pos c8).symm) (by rw [show (f_X4_mostHeld_xt xp xt k y) = (passN xp y.toNatClampNeg) from (if_pos c8)]) dX4_mostHeld_71
      | succ n ih =>
        intro i hIN
        have hlt : i < y.toNatClampNeg := by omega
        refine j_iload C dX4_mostHeld_30 0 rfl ?_
        refine j_iload_n C dX4_mostHeld_32 5 rfl ?_
        refine j_icmp_ge (tgt := 69) C dX4_mostHeld_33 (by decide) (fun h => absurd h (nle_cl hlt)) (fun c33 => ?_)
        refine j_aload_n C dX4_mostHeld_36 3 rfl ?_
        refine j_get C kin4 rfl 0 rfl 5 (by decide) kw_145 rfl (v := .ref (AT 0)) rfl dX4_mostHeld_37 ?_
        refine j_callV_i (r := passOneR (passN xp i)) (wc' := cSt G AT (passOne (passN xp i))) C (m_passOne l G AT (passN xp i)) rfl 0 rfl 0 (gV kw_367 kw_255 kw_256 kw_2 kw_257) (by decide +kernel) ⟨(Nat.le_of_ble_eq_true rfl), (Nat.le_of_ble_eq_true rfl)⟩ rfl rfl (Nat.le_of_ble_eq_true rfl) dX4_mostHeld_40 ⟨(Nat.le_of_ble_eq_true rfl), (Nat.le_of_ble_eq_true rfl)⟩ (fl [[oX a (AP 0) hi sl su pa (AT 0) (AU 0)], cSt G AP xp]) (fl [cSt G AT (passOne (passN xp i)), [oX a (AP 0) hi sl su pa (AT 0) (AU 0)], cSt G AP xp]) (bperm (bs' := [cSt G AT (passN xp i), [oX a (AP 0) hi sl su pa (AT 0) (AU 0)], cSt G AP xp]) [1, 0, 2] 3 rfl (by decide +kernel) rfl) rfl ?_
        refine j_perm (fl [[oX a (AP 0) hi sl su pa (AT 0) (AU 0)], cSt G AT (passOne (passN xp i)), cSt G AP xp]) (bperm [1, 0, 2] 3 rfl (by decide +kernel) rfl) ?_
        refine j_pop C dX4_mostHeld_43 rfl ?_
        refine j_iload C dX4_mostHeld_44 1 rfl ?_
        refine j_aload_n C dX4_mostHeld_46 3 rfl ?_
        refine j_get C kin4 rfl 0 rfl 5 (by decide) kw_145 rfl (v := .ref (AT 0)) rfl dX4_mostHeld_47 ?_
        refine j_perm (fl [cSt G AT (passOne (passN xp i)), [oX a (AP 0) hi sl su pa (AT 0) (AU 0)], cSt G AP xp]) (bperm [1, 0, 2] 3 rfl (by decide +kernel) rfl) ?_
        refine j_w (fl [[oS (AT 0) (AT 1) (AT 2) ((passOne (passN xp i)).1)], [aI G (AT 1) 7 ((passOne (passN xp i)).2.1)], [aD G (AT 2) 4 (fun k => some (AT (3 + 2 * k)))], cDrs G AT (passOne (passN xp i)).2.2.1 (passOne (passN xp i)).2.2.2, [oX a (AP 0) hi sl su pa (AT 0) (AU 0)], cSt G AP xp]) rfl ?_
        refine j_perm (fl [[oS (AT 0) (AT 1) (AT 2) ((passOne (passN xp i)).1)], [aI G (AT 1) 7 ((passOne (passN xp i)).2.1)], [aD G (AT 2) 4 (fun k => some (AT (3 + 2 * k)))], [oX a (AP 0) hi sl su pa (AT 0) (AU 0)], cDrs G AT (passOne (passN xp i)).2.2.1 (passOne (passN xp i)).2.2.2, cSt G AP xp]) (bperm [0, 1, 2, 4, 3, 5] 6 rfl (by decide +kernel) rfl) ?_
        refine j_get C kin3 rfl 0 rfl 1 (by decide) kw_81 rfl (v := .ref (AT 2)) rfl dX4_mostHeld_50 ?_
        refine j_iload_n C dX4_mostHeld_53 4 rfl ?_
        refine j_perm (fl [cDrs G AT (passOne (passN xp i)).2.2.1 (passOne (passN xp i)).2.2.2, [oS (AT 0) (AT 1) (AT 2) ((passOne (passN xp i)).1)], [aI G (AT 1) 7 ((passOne (passN xp i)).2.1)], [aD G (AT 2) 4 (fun k => some (AT (3 + 2 * k)))], [oX a (AP 0) hi sl su pa (AT 0) (AU 0)], cSt G AP xp]) (bperm [4, 0, 1, 2, 3, 5] 6 rfl (by decide +kernel) rfl) ?_
        refine j_perm (fl [[oD (AT (3 + 2 * k.toNatClampNeg)) (AT (4 + 2 * k.toNatClampNeg)) ((passOne (passN xp i)).2.2.1 k.toNatClampNeg)], [aB G (AT (4 + 2 * k.toNatClampNeg)) ((passOne (passN xp i)).2.2.2 k.toNatClampNeg)], cRs G AT (passOne (passN xp i)).2.2.1 (passOne (passN xp i)).2.2.2 k.toNatClampNeg, [oS (AT 0) (AT 1) (AT 2) ((passOne (passN xp i)).1)], [aI G (AT 1) 7 ((passOne (passN xp i)).2.1)], [aD G (AT 2) 4 (fun k => some (AT (3 + 2 * k)))], [oX a (AP 0) hi sl su pa (AT 0) (AU 0)], cSt G AP xp]) (open_at (openDrs G AT (passOne (passN xp i)).2.2.1 (passOne (passN xp i)).2.2.2 k.toNatClampNeg (vin_nat (eoq_drive c8)))) ?_
        refine j_perm (fl [[oD (AT (3 + 2 * k.toNatClampNeg)) (AT (4 + 2 * k.toNatClampNeg)) ((passOne (passN xp i)).2.2.1 k.toNatClampNeg)], [aB G (AT (4 + 2 * k.toNatClampNeg)) ((passOne (passN xp i)).2.2.2 k.toNatClampNeg)], [oS (AT 0) (AT 1) (AT 2) ((passOne (passN xp i)).1)], [aI G (AT 1) 7 ((passOne (passN xp i)).2.1)], [aD G (AT 2) 4 (fun k => some (AT (3 + 2 * k)))], [oX a (AP 0) hi sl su pa (AT 0) (AU 0)], cRs G AT (passOne (passN xp i)).2.2.1 (passOne (passN xp i)).2.2.2 k.toNatClampNeg, cSt G AP xp]) (bperm [0, 1, 3, 4, 5, 6, 2, 7] 8 rfl (by decide +kernel) rfl) ?_
        refine j_aaldD C 4 rfl (eoq_drive c8) (y := AT (3 + 2 * k.toNatClampNeg)) rfl dX4_mostHeld_54 ?_
        refine j_get C kin0 rfl 0 rfl 3 (by decide) kw_43 rfl (v := .int (((passOne (passN xp i)).2.2.1 k.toNatClampNeg).1 3)) rfl dX4_mostHeld_55 ?_
        refine j_mmax C kw_368 (Nat.le_of_ble_eq_true rfl) (Nat.le_of_ble_eq_true rfl) ⟨(Nat.le_of_ble_eq_true rfl), (Nat.le_of_ble_eq_true rfl)⟩ dX4_mostHeld_58 (v := imax (mostN xp k i) (((passOne (passN xp i)).2.2.1 k.toNatClampNeg).1 3)) (imax_eq _ _).symm ?_
        refine j_istore C [(4, .int (imax (mostN xp k i) (((passOne (passN xp i)).2.2.1 k.toNatClampNeg).1 3))), (5, .int (nI i)), (3, .int (f_X4_errorOfQuestion_r k y)), (0, .ref a), (1, .int k), (2, .int y)] dX4_mostHeld_61 (by decide) rfl ?_
        refine j_iinc (v := nI (i + 1)) C [(5, .int (nI (i + 1))), (4, .int (imax (mostN xp k i) (((passOne (passN xp i)).2.2.1 k.toNatClampNeg).1 3))), (3, .int (f_X4_errorOfQuestion_r k y)), (0, .ref a), (1, .int k), (2, .int y)] dX4_mostHeld_63 (k := 1) rfl (nI_1 i) (by decide) rfl ?_
        refine j_goto (tgt := 30) C dX4_mostHeld_66 (by decide) ?_
        refine j_perm (fl [[oD (AT (3 + 2 * k.toNatClampNeg)) (AT (4 + 2 * k.toNatClampNeg)) ((passOne (passN xp i)).2.2.1 k.toNatClampNeg)], [aB G (AT (4 + 2 * k.toNatClampNeg)) ((passOne (passN xp i)).2.2.2 k.toNatClampNeg)], cRs G AT (passOne (passN xp i)).2.2.1 (passOne (passN xp i)).2.2.2 k.toNatClampNeg, [oS (AT 0) (AT 1) (AT 2) ((passOne (passN xp i)).1)], [aI G (AT 1) 7 ((passOne (passN xp i)).2.1)], [aD G (AT 2) 4 (fun k => some (AT (3 + 2 * k)))], [oX a (AP 0) hi sl su pa (AT 0) (AU 0)], cSt G AP xp]) (bperm [0, 1, 6, 2, 3, 4, 5, 7] 8 rfl (by decide +kernel) rfl) ?_
        refine j_perm (fl [cDrs G AT (passOne (passN xp i)).2.2.1 (passOne (passN xp i)).2.2.2, [oS (AT 0) (AT 1) (AT 2) ((passOne (passN xp i)).1)], [aI G (AT 1) 7 ((passOne (passN xp i)).2.1)], [aD G (AT 2) 4 (fun k => some (AT (3 + 2 * k)))], [oX a (AP 0) hi sl su pa (AT 0) (AU 0)], cSt G AP xp]) (shut_at (bs := [[oD (AT (3 + 2 * k.toNatClampNeg)) (AT (4 + 2 * k.toNatClampNeg)) ((passOne (passN xp i)).2.2.1 k.toNatClampNeg)], [aB G (AT (4 + 2 * k.toNatClampNeg)) ((passOne (passN xp i)).2.2.2 k.toNatClampNeg)], cRs G AT (passOne (passN xp i)).2.2.1 (passOne (passN xp i)).2.2.2 k.toNatClampNeg]) (openDrs G AT (passOne (passN xp i)).2.2.1 (passOne (passN xp i)).2.2.2 k.toNatClampNeg (vin_nat (eoq_drive c8))).symm) ?_
        refine j_perm (fl [[oS (AT 0) (AT 1) (AT 2) ((passOne (passN xp i)).1)], [aI G (AT 1) 7 ((passOne (passN xp i)).2.1)], [aD G (AT 2) 4 (fun k => some (AT (3 + 2 * k)))], cDrs G AT (passOne (passN xp i)).2.2.1 (passOne (passN xp i)).2.2.2, [oX a (AP 0) hi sl su pa (AT 0) (AU 0)], cSt G AP xp]) (bperm [1, 2, 3, 0, 4, 5] 6 rfl (by decide +kernel) rfl) ?_
        refine j_w (fl [cSt G AT (passOne (passN xp i)), [oX a (AP 0) hi sl su pa (AT 0) (AU 0)], cSt G AP xp]) rfl ?_
        refine j_perm (fl [[oX a (AP 0) hi sl su pa (AT 0) (AU 0)], cSt G AT (passOne (passN xp i)), cSt G AP xp]) (bperm [1, 0, 2] 3 rfl (by decide +kernel) rfl) ?_
        exact j_eq (by rw [show (passN xp (i + 1)) = passOne (passN xp i) from rfl]) (by rw [show mostN xp k (i + 1) = imax (mostN xp k i) (((passOne (passN xp i)).2.2.1 k.toNatClampNeg).1 3) from rfl]) rfl (ih (i + 1) (by omega))
    exact j_eq (by rw [show (passN xp 0) = xp from rfl]) (by rw [show nI 0 = 0 from rfl, show mostN xp k 0 = 0 from rfl]) rfl (L3 y.toNatClampNeg 0 (by omega))
  · refine j_iload_n C dX4_mostHeld_11 0 rfl ?_
    subst hQ; exact j_iret C hr hk (show f_X4_errorOfQuestion_r k y = (f_X4_mostHeld_r xp xt k y) from (if_neg c8).symm) (by rw [show (f_X4_mostHeld_xt xp xt k y) = xt from (if_neg c8)]) dX4_mostHeld_12
/-- how many signs a number is, from the sign k on, n signs at most; 0 if one is none that can be put -/
noncomputable def sgnF : Nat → Int64 → Nat → Int32
  | 0, _, k => nI k
  | n + 1, x, k => if lg_cmp x 0 = 0 then nI k else if lg_cmp (x &&& 255) 33 < 0 then 0 else if lg_cmp (x &&& 255) 126 ≤ 0 then sgnF n (x.toUInt64 >>> ((8 : Int32).toInt64.toUInt64 &&& Int64.toUInt64 63)).toInt64 (k + 1) else 0
noncomputable def f_X4_signsIn_r (ch : Int64) : Int32 := sgnF 8 ch 0
theorem sgnF_or : ∀ (n : Nat) (x : Int64) (k : Nat), ∃ j, sgnF n x k = nI j ∧ j ≤ n + k
  | 0, x, k => ⟨k, rfl, by omega⟩
  | n + 1, x, k => by
    rw [sgnF]
    split
    · exact ⟨k, rfl, by omega⟩
    · split
      · exact ⟨0, rfl, by omega⟩
      · split
        · obtain ⟨j, h1, h2⟩ := sgnF_or n (x.toUInt64 >>> ((8 : Int32).toInt64.toUInt64 &&& Int64.toUInt64 63)).toInt64 (k + 1)
          exact ⟨j, h1, by omega⟩
        · exact ⟨0, rfl, by omega⟩
theorem signsIn_or (ch : Int64) : ∃ j, f_X4_signsIn_r ch = nI j ∧ j ≤ 8 := by
  obtain ⟨j, h1, h2⟩ := sgnF_or 8 ch 0
  exact ⟨j, h1, by omega⟩
theorem signsIn_nI (ch : Int64) : nI (f_X4_signsIn_r ch).toNatClampNeg = f_X4_signsIn_r ch := by
  obtain ⟨j, h1, h2⟩ := signsIn_or ch
  rw [h1, nI_clamp (by omega)]
theorem signsIn_8 (ch : Int64) : (f_X4_signsIn_r ch).toNatClampNeg ≤ 8 := by
  obtain ⟨j, h1, h2⟩ := signsIn_or ch
  rw [h1, nI_clamp (by omega)]
  exact h2
set_option maxRecDepth 100000 in
set_option maxHeartbeats 4000000 in
theorem m_X4_signsIn (l : Launch) (G : GG) (ch : Int64)  : CtI l yX4_signsIn cX4_signsIn 7 (some .int) (RM 0) G [.long ch] ([]) (f_X4_signsIn_r ch) ([]) := by
  refine ct_I RX4 [(0, .long ch)] rfl (by decide +kernel) (Nat.le_of_ble_eq_true rfl) rfl ?_
  intro p e s m args below meth c A C hr hk hnm
  generalize hQ : (MQ below (PostI G A (f_X4_signsIn_r ch) ([])) args s (RM 0).cells (RM 0).slots A) = Q
  refine j_lload_n C dX4_signsIn_0 0 rfl ?_
  refine j_lstore_n C [(2, .long ch), (0, .long ch)] dX4_signsIn_1 (by decide) rfl ?_
  refine j_iconst (v := 0) C dX4_signsIn_2 (by decide) ?_
  refine j_istore C [(4, .int 0), (2, .long ch), (0, .long ch)] dX4_signsIn_3 (by decide) rfl ?_
  have L1 : ∀ (n : Nat) (x : Int64) (i : Nat), i + n = 8 → sgnF n x i = f_X4_signsIn_r ch → WJ p l e (RM 0) s m args below meth c G A 7 0 0 Q ([]) [(4, .int (nI i)), (2, .long x), (0, .long ch)] 5 [] := by
    intro n
    induction n with
    | zero =>
      intro x i hi hx
      refine j_lload_n C dX4_signsIn_5 1 rfl ?_
      refine j_lconst (v := 0) C dX4_signsIn_6 (by decide) ?_
      refine j_lcmp C dX4_signsIn_7 ?_
      refine j_if_eq (tgt := 56) C dX4_signsIn_8 (by decide) (fun c8 => ?_) (fun c8 => ?_)
      · refine j_iload C dX4_signsIn_56 0 rfl ?_
        subst hQ; exact j_iret C hr hk (show nI i = (f_X4_signsIn_r ch) from hx) rfl dX4_signsIn_58
      · refine j_iload C dX4_signsIn_11 0 rfl ?_
        refine j_bipush (v := 8) C dX4_signsIn_13 (by decide) ?_
        refine j_icmp_ge (tgt := 56) C dX4_signsIn_15 (by decide) (fun c15 => ?_) (fun h => absurd (by rw [show i = 8 by omega]; decide) h)
        refine j_iload C dX4_signsIn_56 0 rfl ?_
        subst hQ; exact j_iret C hr hk (show nI i = (f_X4_signsIn_r ch) from hx) rfl dX4_signsIn_58
    | succ n ih =>
      intro x i hi hx
      refine j_lload_n C dX4_signsIn_5 1 rfl ?_
      refine j_lconst (v := 0) C dX4_signsIn_6 (by decide) ?_
      refine j_lcmp C dX4_signsIn_7 ?_
      refine j_if_eq (tgt := 56) C dX4_signsIn_8 (by decide) (fun c8 => ?_) (fun c8 => ?_)
      · refine j_iload C dX4_signsIn_56 0 rfl ?_
        subst hQ; exact j_iret C hr hk (show nI i = (f_X4_signsIn_r ch) from (by rw [← hx, sgnF, if_pos c8])) rfl dX4_signsIn_58
      · refine j_iload C dX4_signsIn_11 0 rfl ?_
        refine j_bipush (v := 8) C dX4_signsIn_13 (by decide) ?_
        refine j_icmp_ge (tgt := 56) C dX4_signsIn_15 (by decide) (fun h => absurd h (nI_ge (b := 8) (by omega) (by decide))) (fun c15 => ?_)
        refine j_lload_n C dX4_signsIn_18 1 rfl ?_
        refine j_ldc2 (v := 255) C kw_394 dX4_signsIn_19 ?_
        refine j_land C dX4_signsIn_22 rfl ?_
        refine j_lstore C [(5, .long (x &&& 255)), (4, .int (nI i)), (2, .long x), (0, .long ch)] dX4_signsIn_23 (by decide) rfl ?_
        refine j_lload C dX4_signsIn_25 0 rfl ?_
        refine j_ldc2 (v := 33) C kw_395 dX4_signsIn_27 ?_
        refine j_lcmp C dX4_signsIn_30 ?_
        refine j_if_lt (tgt := 43) C dX4_signsIn_31 (by decide) (fun c31 => ?_) (fun c31 => ?_)
        · refine j_iconst (v := 0) C dX4_signsIn_43 (by decide) ?_
          subst hQ; exact j_iret C hr hk (show 0 = (f_X4_signsIn_r ch) from (by rw [← hx, sgnF, if_neg c8, if_pos c31])) rfl dX4_signsIn_44
        · refine j_lload C dX4_signsIn_34 0 rfl ?_
          refine j_ldc2 (v := 126) C kw_396 dX4_signsIn_36 ?_
          refine j_lcmp C dX4_signsIn_39 ?_
          refine j_if_le (tgt := 45) C dX4_signsIn_40 (by decide) (fun c40 => ?_) (fun c40 => ?_)
          · refine j_lload_n C dX4_signsIn_45 2 rfl ?_
            refine j_bipush (v := 8) C dX4_signsIn_46 (by decide) ?_
            refine j_lushr C dX4_signsIn_48 ?_
            refine j_lstore_n C [(2, .long ((x.toUInt64 >>> ((8 : Int32).toInt64.toUInt64 &&& Int64.toUInt64 63)).toInt64)), (5, .long (x &&& 255)), (4, .int (nI i)), (0, .long ch)] dX4_signsIn_49 (by decide) rfl ?_
            refine j_iinc (v := nI (i + 1)) C [(4, .int (nI (i + 1))), (2, .long ((x.toUInt64 >>> ((8 : Int32).toInt64.toUInt64 &&& Int64.toUInt64 63)).toInt64)), (5, .long (x &&& 255)), (0, .long ch)] dX4_signsIn_50 (k := 2) rfl (nI_1 i) (by decide) rfl ?_
            refine j_goto (tgt := 5) C dX4_signsIn_53 (by decide) ?_
            refine j_lv [0, 1, 3] [(4, .int (nI (i + 1))), (2, .long ((x.toUInt64 >>> ((8 : Int32).toInt64.toUInt64 &&& Int64.toUInt64 63)).toInt64)), (0, .long ch)] rfl ?_
            exact j_eq rfl rfl rfl (ih ((x.toUInt64 >>> ((8 : Int32).toInt64.toUInt64 &&& Int64.toUInt64 63)).toInt64) (i + 1) (by omega) (by rw [sgnF, if_neg c8, if_neg c31, if_pos c40] at hx; exact hx))
          · refine j_iconst (v := 0) C dX4_signsIn_43 (by decide) ?_
            subst hQ; exact j_iret C hr hk (show 0 = (f_X4_signsIn_r ch) from (by rw [← hx, sgnF, if_neg c8, if_neg c31, if_neg c40])) rfl dX4_signsIn_44
  exact j_eq rfl rfl rfl (L1 8 ch 0 (by omega) rfl)
noncomputable def f_X4_put_v (v : Nat → Int32) (q : Nat → UInt16) (ch : Int64) : (Nat → Int32) := (if f_X4_signsIn_r ch = 0 then v else (if (v 1) + (f_X4_signsIn_r ch) ≤ 80 then (runP ch (f_X4_signsIn_r ch).toNatClampNeg (v, q)).1 else v))
noncomputable def f_X4_put_q (v : Nat → Int32) (q : Nat → UInt16) (ch : Int64) : (Nat → UInt16) := (if f_X4_signsIn_r ch = 0 then q else (if (v 1) + (f_X4_signsIn_r ch) ≤ 80 then (runP ch (f_X4_signsIn_r ch).toNatClampNeg (v, q)).2 else q))
noncomputable def f_X4_put_r (v : Nat → Int32) (q : Nat → UInt16) (ch : Int64) : Int32 := (if f_X4_signsIn_r ch = 0 then (-2) else (if (v 1) + (f_X4_signsIn_r ch) ≤ 80 then ((runP ch (f_X4_signsIn_r ch).toNatClampNeg (v, q)).1) 1 else (-4)))
set_option maxRecDepth 100000 in
set_option maxHeartbeats 4000000 in
theorem m_X4_put (l : Launch) (G : GG) (a hi sl su pa ga : Nat) (AP AT AU : Nat → Nat) (v : Nat → Int32) (q : Nat → UInt16) (ch : Int64) (hv : ¬ v 1 < 0) : CtI l yX4_put cX4_put 4 (some .int) (RM 1) G [.ref a, .long ch] ([oX a (AP 0) hi sl su pa (AT 0) (AU 0), oP pa ga v, aC G ga q]) (f_X4_put_r v q ch) ([oX a (AP 0) hi sl su pa (AT 0) (AU 0), oP pa ga (f_X4_put_v v q ch), aC G ga (f_X4_put_q v q ch)]) := by
  refine ct_I RX4 [(0, .ref a), (1, .long ch)] rfl (by decide +kernel) (Nat.le_of_ble_eq_true rfl) rfl ?_
  intro p e s m args below meth c A C hr hk hnm
  generalize hQ : (MQ below (PostI G A (f_X4_put_r v q ch) ([oX a (AP 0) hi sl su pa (AT 0) (AU 0), oP pa ga (f_X4_put_v v q ch), aC G ga (f_X4_put_q v q ch)])) args s (RM 1).cells (RM 1).slots A) = Q
  refine j_lload_n C dX4_put_0 1 rfl ?_
  refine j_pureS_i (r := f_X4_signsIn_r ch) C (m_X4_signsIn l G ch) 1 (gS kw_391 kw_392 kw_1 kw_393) (by decide +kernel) ⟨(Nat.le_of_ble_eq_true rfl), (Nat.le_of_ble_eq_true rfl)⟩ rfl rfl (Nat.le_of_ble_eq_true rfl) dX4_put_1 ⟨(Nat.le_of_ble_eq_true rfl), (Nat.le_of_ble_eq_true rfl)⟩ ?_
  refine j_istore_n C [(3, .int (f_X4_signsIn_r ch)), (0, .ref a), (1, .long ch)] dX4_put_4 (by decide) rfl ?_
  refine j_iload_n C dX4_put_5 0 rfl ?_
  refine j_if_ne (tgt := 12) C dX4_put_6 (by decide) (fun c6 => ?_) (fun c6 => ?_)
  · refine j_aload_n C dX4_put_12 1 rfl ?_
    refine j_get C kin4 rfl 0 rfl 4 (by decide) kw_144 rfl (v := .ref pa) rfl dX4_put_13 ?_
    refine j_get C kin2 rfl 1 rfl 1 (by decide) kw_121 rfl (v := .int (v 1)) rfl dX4_put_16 ?_
    refine j_iload_n C dX4_put_19 0 rfl ?_
    refine j_iadd C dX4_put_20 rfl ?_
    refine j_bipush (v := 80) C dX4_put_21 (by decide) ?_
    refine j_icmp_le (tgt := 29) C dX4_put_23 (by decide) (fun c23 => ?_) (fun c23 => ?_)
    · refine j_aload_n C dX4_put_29 1 rfl ?_
      refine j_get C kin4 rfl 0 rfl 4 (by decide) kw_144 rfl (v := .ref pa) rfl dX4_put_30 ?_
      refine j_lload_n C dX4_put_33 2 rfl ?_
      refine j_iload_n C dX4_put_34 0 rfl ?_
      refine j_callV_v (wc' := [oP pa ga ((runP ch (f_X4_signsIn_r ch).toNatClampNeg (v, q)).1), aC G ga ((runP ch (f_X4_signsIn_r ch).toNatClampNeg (v, q)).2)]) C (m_X2_append l G pa ga v q ch (f_X4_signsIn_r ch) (signsIn_nI ch) (signsIn_8 ch) hv) rfl 0 rfl 2 (gV kw_397 kw_398 kw_399 kw_6 kw_400) (by decide +kernel) ⟨(Nat.le_of_ble_eq_true rfl), (Nat.le_of_ble_eq_true rfl)⟩ rfl rfl (Nat.le_of_ble_eq_true rfl) dX4_put_35 ⟨(Nat.le_of_ble_eq_true rfl), (Nat.le_of_ble_eq_true rfl)⟩ [oX a (AP 0) hi sl su pa (AT 0) (AU 0)] [oP pa ga ((runP ch (f_X4_signsIn_r ch).toNatClampNeg (v, q)).1), aC G ga ((runP ch (f_X4_signsIn_r ch).toNatClampNeg (v, q)).2), oX a (AP 0) hi sl su pa (AT 0) (AU 0)] (perm_idx [1, 2, 0] 3 rfl (by decide +kernel) rfl) rfl ?_
      refine j_aload_n C dX4_put_38 1 rfl ?_
      refine j_get C kin4 rfl 2 rfl 4 (by decide) kw_144 rfl (v := .ref pa) rfl dX4_put_39 ?_
      refine j_get C kin2 rfl 0 rfl 1 (by decide) kw_121 rfl (v := .int (((runP ch (f_X4_signsIn_r ch).toNatClampNeg (v, q)).1) 1)) rfl dX4_put_42 ?_
      refine j_perm ([oX a (AP 0) hi sl su pa (AT 0) (AU 0), oP pa ga ((runP ch (f_X4_signsIn_r ch).toNatClampNeg (v, q)).1), aC G ga ((runP ch (f_X4_signsIn_r ch).toNatClampNeg (v, q)).2)]) (perm_idx [2, 0, 1] 3 rfl (by decide +kernel) rfl) ?_
      subst hQ; exact j_iret C hr hk ((show f_X4_put_r v q ch = ((runP ch (f_X4_signsIn_r ch).toNatClampNeg (v, q)).1) 1 from ((if_neg c6).trans (if_pos c23))).symm) (by rw [show f_X4_put_v v q ch = (runP ch (f_X4_signsIn_r ch).toNatClampNeg (v, q)).1 from ((if_neg c6).trans (if_pos c23)), show f_X4_put_q v q ch = (runP ch (f_X4_signsIn_r ch).toNatClampNeg (v, q)).2 from ((if_neg c6).trans (if_pos c23))]) dX4_put_45
    · refine j_bipush (v := (-4)) C dX4_put_26 (by decide) ?_
      subst hQ; exact j_iret C hr hk ((show f_X4_put_r v q ch = (-4) from ((if_neg c6).trans (if_neg c23))).symm) (by rw [show f_X4_put_v v q ch = v from ((if_neg c6).trans (if_neg c23)), show f_X4_put_q v q ch = q from ((if_neg c6).trans (if_neg c23))]) dX4_put_28
  · refine j_bipush (v := (-2)) C dX4_put_9 (by decide) ?_
    subst hQ; exact j_iret C hr hk ((show f_X4_put_r v q ch = (-2) from (if_pos c6)).symm) (by rw [show f_X4_put_v v q ch = v from (if_pos c6), show f_X4_put_q v q ch = q from (if_pos c6)]) dX4_put_11
/-- the least room: n rooms left, the room r; the answer, and the trial then -/
noncomputable def roomF (xp : StV) (y : Int32) : Nat → Nat → StV → Int32 × StV
  | 0, _, xt => (-6, xt)
  | n + 1, i, xt => if (noLoud (xp.1, upd xp.2.1 6 (nI i), xp.2.2.1, xp.2.2.2) (y * 60).toNatClampNeg).1 = 0 then roomF xp y n (i + 1) (noLoud (xp.1, upd xp.2.1 6 (nI i), xp.2.2.1, xp.2.2.2) (y * 60).toNatClampNeg).2 else (nI i, (noLoud (xp.1, upd xp.2.1 6 (nI i), xp.2.2.1, xp.2.2.2) (y * 60).toNatClampNeg).2)
noncomputable def f_X4_leastRoom_r (xp : StV) (xt : StV) (y : Int32) : Int32 := if y < 1 then -2 else if y ≤ 10 then (roomF xp y 61 0 xt).1 else -2
noncomputable def f_X4_leastRoom_xt (xp : StV) (xt : StV) (y : Int32) : StV := if y < 1 then xt else if y ≤ 10 then (roomF xp y 61 0 xt).2 else xt
noncomputable def f_X4_leastRoom_rq3 (xp : StV) (xt : StV) (y : Int32) (xq : StV) (i : Nat) (n : Nat) : Int32 := (noLoud (xp.1, upd xp.2.1 6 (nI i), xp.2.2.1, xp.2.2.2) (y * 60).toNatClampNeg).1
noncomputable def f_X4_leastRoom_xq3 (xp : StV) (xt : StV) (y : Int32) (xq : StV) (i : Nat) (n : Nat) : StV := (noLoud (xp.1, upd xp.2.1 6 (nI i), xp.2.2.1, xp.2.2.2) (y * 60).toNatClampNeg).2
set_option maxRecDepth 100000 in
set_option maxHeartbeats 4000000 in
theorem m_X4_leastRoom (l : Launch) (G : GG) (a hi sl su pa : Nat) (AP AT AU : Nat → Nat) (xp : StV) (xt : StV) (y : Int32)  : CtI l yX4_leastRoom cX4_leastRoom 3 (some .int) (RM 6) G [.ref a, .int y] (fl [[oX a (AP 0) hi sl su pa (AT 0) (AU 0)], cSt G AP xp, cSt G AT xt]) (f_X4_leastRoom_r xp xt y) (fl [[oX a (AP 0) hi sl su pa (AT 0) (AU 0)], cSt G AP xp, cSt G AT (f_X4_leastRoom_xt xp xt y)]) := by
  refine ct_I RX4 [(0, .ref a), (1, .int y)] rfl (by decide +kernel) (Nat.le_of_ble_eq_true rfl) rfl ?_
  intro p e s m args below meth c A C hr hk hnm
  generalize hQ : (MQ below (PostI G A (f_X4_leastRoom_r xp xt y) (fl [[oX a (AP 0) hi sl su pa (AT 0) (AU 0)], cSt G AP xp, cSt G AT (f_X4_leastRoom_xt xp xt y)])) args s (RM 6).cells (RM 6).slots A) = Q
  refine j_iload_n C dX4_leastRoom_0 1 rfl ?_
  refine j_iconst (v := 1) C dX4_leastRoom_1 (by decide) ?_
  refine j_icmp_lt (tgt := 11) C dX4_leastRoom_2 (by decide) (fun c2 => ?_) (fun c2 => ?_)
  · refine j_bipush (v := (-2)) C dX4_leastRoom_11 (by decide) ?_
    subst hQ; exact j_iret C hr hk (show (-2) = (f_X4_leastRoom_r xp xt y) from (if_pos c2).symm) (by rw [show (f_X4_leastRoom_xt xp xt y) = xt from (if_pos c2)]) dX4_leastRoom_13
  · refine j_iload_n C dX4_leastRoom_5 1 rfl ?_
    refine j_bipush (v := 10) C dX4_leastRoom_6 (by decide) ?_
    refine j_icmp_le (tgt := 14) C dX4_leastRoom_8 (by decide) (fun c8 => ?_) (fun c8 => ?_)
    · refine j_gstL C kw_385 dX4_leastRoom_14 ?_
      refine j_bipush (v := 6) C dX4_leastRoom_17 (by decide) ?_
      refine j_stiL C (vin_lit rfl) (v := 0) rfl dX4_leastRoom_19 ?_
      refine j_istore_n C [(2, .int 0), (0, .ref a), (1, .int y)] dX4_leastRoom_20 (by decide) rfl ?_
      have L1 : ∀ (n : Nat) (xq : StV) (i : Nat), i + n = 61 → roomF xp y n i xq = roomF xp y 61 0 xt → WJ p l e (RM 6) s m args below meth c G A 3 0 0 Q (fl [[oX a (AP 0) hi sl su pa (AT 0) (AU 0)], cSt G AP xp, cSt G AT xq]) [(2, .int (nI i)), (0, .ref a), (1, .int y)] 21 [] := by
        intro n
        induction n with
        | zero =>
          intro xq i hIN hx
          refine j_iload_n C dX4_leastRoom_21 0 rfl ?_
          refine j_gstM C kw_386 dX4_leastRoom_22 ?_
          refine j_bipush (v := 6) C dX4_leastRoom_25 (by decide) ?_
          refine j_stiM C (vin_lit rfl) (v := 60) rfl dX4_leastRoom_27 ?_
          refine j_icmp_gt (tgt := 75) C dX4_leastRoom_28 (by decide) (fun c28 => ?_) (fun h => absurd (by rw [show i = 61 by omega]; decide) h)
          refine j_bipush (v := (-6)) C dX4_leastRoom_75 (by decide) ?_
          subst hQ; exact j_iret C hr hk (show (-6) = (f_X4_leastRoom_r xp xt y) from ((if_neg c2).trans ((if_pos c8).trans (congrArg Prod.fst hx.symm))).symm) (by rw [show (f_X4_leastRoom_xt xp xt y) = xq from ((if_neg c2).trans ((if_pos c8).trans (congrArg Prod.snd hx.symm)))]) dX4_leastRoom_77
        | succ n ih =>
          intro xq i hIN hx
          refine j_iload_n C dX4_leastRoom_21 0 rfl ?_
          refine j_gstM C kw_386 dX4_leastRoom_22 ?_
          refine j_bipush (v := 6) C dX4_leastRoom_25 (by decide) ?_
          refine j_stiM C (vin_lit rfl) (v := 60) rfl dX4_leastRoom_27 ?_
          refine j_icmp_gt (tgt := 75) C dX4_leastRoom_28 (by decide) (fun h => absurd h (nI_nlt (a := 60) (b := i) (by omega) (by decide))) (fun c28 => ?_)
          refine j_aload_n C dX4_leastRoom_31 1 rfl ?_
          refine j_get C kin4 rfl 0 rfl 5 (by decide) kw_145 rfl (v := .ref (AT 0)) rfl dX4_leastRoom_32 ?_
          refine j_aload_n C dX4_leastRoom_35 1 rfl ?_
          refine j_get C kin4 rfl 0 rfl 0 (by decide) kw_140 rfl (v := .ref (AP 0)) rfl dX4_leastRoom_36 ?_
          refine j_callV_v (wc' := fl [cSt G AT xp, cSt G AP xp]) C (m_X3_copyFrom l G AT AP xq xp) rfl 0 rfl 1 (gV kw_358 kw_163 kw_164 kw_2 kw_165) (by decide +kernel) ⟨(Nat.le_of_ble_eq_true rfl), (Nat.le_of_ble_eq_true rfl)⟩ rfl rfl (Nat.le_of_ble_eq_true rfl) dX4_leastRoom_39 ⟨(Nat.le_of_ble_eq_true rfl), (Nat.le_of_ble_eq_true rfl)⟩ (fl [[oX a (AP 0) hi sl su pa (AT 0) (AU 0)]]) (fl [cSt G AT xp, cSt G AP xp, [oX a (AP 0) hi sl su pa (AT 0) (AU 0)]]) (bperm2 (bC := [cSt G AT xq, cSt G AP xp]) (bR := [[oX a (AP 0) hi sl su pa (AT 0) (AU 0)]]) [2, 1, 0] 3 rfl (by decide +kernel) rfl) (fl_app _ _) ?_
          refine j_perm (fl [[oX a (AP 0) hi sl su pa (AT 0) (AU 0)], cSt G AT xp, cSt G AP xp]) (bperm [2, 0, 1] 3 rfl (by decide +kernel) rfl) ?_
          refine j_aload_n C dX4_leastRoom_42 1 rfl ?_
          refine j_get C kin4 rfl 0 rfl 5 (by decide) kw_145 rfl (v := .ref (AT 0)) rfl dX4_leastRoom_43 ?_
          refine j_perm (fl [cSt G AT xp, [oX a (AP 0) hi sl su pa (AT 0) (AU 0)], cSt G AP xp]) (bperm [1, 0, 2] 3 rfl (by decide +kernel) rfl) ?_
          refine j_w (fl [[oS (AT 0) (AT 1) (AT 2) xp.1], [aI G (AT 1) 7 xp.2.1], [aD G (AT 2) 4 (fun k => some (AT (3 + 2 * k)))], cDrs G AT xp.2.2.1 xp.2.2.2, [oX a (AP 0) hi sl su pa (AT 0) (AU 0)], cSt G AP xp]) rfl ?_
          refine j_perm (fl [[oS (AT 0) (AT 1) (AT 2) xp.1], [aI G (AT 1) 7 xp.2.1], [aD G (AT 2) 4 (fun k => some (AT (3 + 2 * k)))], [oX a (AP 0) hi sl su pa (AT 0) (AU 0)], cDrs G AT xp.2.2.1 xp.2.2.2, cSt G AP xp]) (bperm [0, 1, 2, 4, 3, 5] 6 rfl (by decide +kernel) rfl) ?_
          refine j_get C kin3 rfl 0 rfl 0 (by decide) kw_79 rfl (v := .ref (AT 1)) rfl dX4_leastRoom_46 ?_
          refine j_bipush (v := 6) C dX4_leastRoom_49 (by decide) ?_
          refine j_iload_n C dX4_leastRoom_51 0 rfl ?_
          refine j_iast C 1 rfl (vin_lit rfl) (fl [[oS (AT 0) (AT 1) (AT 2) xp.1], [aI G (AT 1) 7 (upd xp.2.1 6 (nI i))], [aD G (AT 2) 4 (fun k => some (AT (3 + 2 * k)))], [oX a (AP 0) hi sl su pa (AT 0) (AU 0)], cDrs G AT xp.2.2.1 xp.2.2.2, cSt G AP xp]) rfl dX4_leastRoom_52 ?_
          refine j_aload_n C dX4_leastRoom_53 1 rfl ?_
          refine j_get C kin4 rfl 3 rfl 5 (by decide) kw_145 rfl (v := .ref (AT 0)) rfl dX4_leastRoom_54 ?_
          refine j_iload_n C dX4_leastRoom_57 2 rfl ?_
          refine j_bipush (v := 60) C dX4_leastRoom_58 (by decide) ?_
          refine j_imul C dX4_leastRoom_60 rfl ?_
          refine j_perm (fl [[oS (AT 0) (AT 1) (AT 2) xp.1], [aI G (AT 1) 7 (upd xp.2.1 6 (nI i))], [aD G (AT 2) 4 (fun k => some (AT (3 + 2 * k)))], cDrs G AT xp.2.2.1 xp.2.2.2, [oX a (AP 0) hi sl su pa (AT 0) (AU 0)], cSt G AP xp]) (bperm [0, 1, 2, 4, 3, 5] 6 rfl (by decide +kernel) rfl) ?_
          refine j_w (fl [cSt G AT (xp.1, upd xp.2.1 6 (nI i), xp.2.2.1, xp.2.2.2), [oX a (AP 0) hi sl su pa (AT 0) (AU 0)], cSt G AP xp]) rfl ?_
          refine j_perm (fl [[oX a (AP 0) hi sl su pa (AT 0) (AU 0)], cSt G AT (xp.1, upd xp.2.1 6 (nI i), xp.2.2.1, xp.2.2.2), cSt G AP xp]) (bperm [1, 0, 2] 3 rfl (by decide +kernel) rfl) ?_
          refine j_callV_i (r := (noLoud (xp.1, upd xp.2.1 6 (nI i), xp.2.2.1, xp.2.2.2) (y * 60).toNatClampNeg).1) (wc' := cSt G AT ((noLoud (xp.1, upd xp.2.1 6 (nI i), xp.2.2.1, xp.2.2.2) (y * 60).toNatClampNeg).2)) C (m_X3_passesWithoutOverrun l G AT (xp.1, upd xp.2.1 6 (nI i), xp.2.2.1, xp.2.2.2) (y * 60)) rfl 0 rfl 1 (gV kw_377 kw_378 kw_379 kw_2 kw_380) (by decide +kernel) ⟨(Nat.le_of_ble_eq_true rfl), (Nat.le_of_ble_eq_true rfl)⟩ rfl rfl (Nat.le_of_ble_eq_true rfl) dX4_leastRoom_61 ⟨(Nat.le_of_ble_eq_true rfl), (Nat.le_of_ble_eq_true rfl)⟩ (fl [[oX a (AP 0) hi sl su pa (AT 0) (AU 0)], cSt G AP xp]) (fl [cSt G AT ((noLoud (xp.1, upd xp.2.1 6 (nI i), xp.2.2.1, xp.2.2.2) (y * 60).toNatClampNeg).2), [oX a (AP 0) hi sl su pa (AT 0) (AU 0)], cSt G AP xp]) (bperm (bs' := [cSt G AT (xp.1, upd xp.2.1 6 (nI i), xp.2.2.1, xp.2.2.2), [oX a (AP 0) hi sl su pa (AT 0) (AU 0)], cSt G AP xp]) [1, 0, 2] 3 rfl (by decide +kernel) rfl) rfl ?_
          generalize hzw0 : (noLoud (xp.1, upd xp.2.1 6 (nI i), xp.2.2.1, xp.2.2.2) (y * 60).toNatClampNeg).1 = w0
          have hw0 : f_X4_leastRoom_rq3 xp xt y xq i n = w0 := by subst hzw0; rfl
          generalize hzw1 : (noLoud (xp.1, upd xp.2.1 6 (nI i), xp.2.2.1, xp.2.2.2) (y * 60).toNatClampNeg).2 = w1
          have hw1 : f_X4_leastRoom_xq3 xp xt y xq i n = w1 := by subst hw0; subst hzw1; rfl
          refine j_if_eq (tgt := 69) C dX4_leastRoom_64 (by decide) (fun c64 => ?_) (fun c64 => ?_)
          · refine j_perm (fl [[oX a (AP 0) hi sl su pa (AT 0) (AU 0)], cSt G AT w1, cSt G AP xp]) (bperm [1, 0, 2] 3 rfl (by decide +kernel) rfl) ?_
            refine j_iinc (v := nI (i + 1)) C [(2, .int (nI (i + 1))), (0, .ref a), (1, .int y)] dX4_leastRoom_69 (k := 0) rfl (nI_1 i) (by decide) rfl ?_
            refine j_goto (tgt := 21) C dX4_leastRoom_72 (by decide) ?_
            refine j_perm (fl [[oX a (AP 0) hi sl su pa (AT 0) (AU 0)], cSt G AP xp, cSt G AT w1]) (bperm [0, 2, 1] 3 rfl (by decide +kernel) rfl) ?_
            subst hw0 hw1; exact j_eq rfl rfl rfl (ih (f_X4_leastRoom_xq3 xp xt y xq i n) (i + 1) (by omega) ((if_pos c64).symm.trans hx))
          · refine j_perm (fl [[oX a (AP 0) hi sl su pa (AT 0) (AU 0)], cSt G AT w1, cSt G AP xp]) (bperm [1, 0, 2] 3 rfl (by decide +kernel) rfl) ?_
            refine j_iload_n C dX4_leastRoom_67 0 rfl ?_
            refine j_perm (fl [[oX a (AP 0) hi sl su pa (AT 0) (AU 0)], cSt G AP xp, cSt G AT w1]) (bperm [0, 2, 1] 3 rfl (by decide +kernel) rfl) ?_
            subst hQ; subst hw0 hw1; exact j_iret C hr hk (show nI i = (f_X4_leastRoom_r xp xt y) from ((if_neg c2).trans ((if_pos c8).trans (congrArg Prod.fst (hx.symm.trans (if_neg c64))))).symm) (by rw [show (f_X4_leastRoom_xt xp xt y) = (f_X4_leastRoom_xq3 xp xt y xq i n) from (by have e : roomF xp y 61 0 xt = (nI i, _) := hx.symm.trans (if_neg c64); rw [f_X4_leastRoom_xt, if_neg c2, if_pos c8, e] <;> rfl)]) dX4_leastRoom_68
      exact j_eq rfl rfl rfl (L1 61 xt 0 (by omega) rfl)
    · refine j_bipush (v := (-2)) C dX4_leastRoom_11 (by decide) ?_
      subst hQ; exact j_iret C hr hk (show (-2) = (f_X4_leastRoom_r xp xt y) from ((if_neg c2).trans (if_neg c8)).symm) (by rw [show (f_X4_leastRoom_xt xp xt y) = xt from ((if_neg c2).trans (if_neg c8))]) dX4_leastRoom_13
/-- the orders are carried out up to the first that returns an error: n places left; how many, the pad's numbers, the present -/
noncomputable def carryF (q : Nat → UInt16) : Nat → Nat → (Nat → Int32) → StV → Int32 × (Nat → Int32) × StV
  | 0, i, v, x => (nI i, v, x)
  | n + 1, i, v, x => if f_X2_readNext_r v q = 0 then (nI i, f_X2_readNext_v v q, x) else if f_X4_carryOutOrder_r x (f_X2_readNext_v v q) < 0 then (nI i, f_X2_readNext_v v q, f_X4_carryOutOrder_xp x (f_X2_readNext_v v q)) else carryF q n (i + 1) (f_X2_readNext_v v q) (f_X4_carryOutOrder_xp x (f_X2_readNext_v v q))
noncomputable def f_X4_carryOut_s (h : Nat → Int32) (sv : Nat → StV) (xp : StV) (v : Nat → Int32) (q : Nat → UInt16) : Int32 × (Nat → Int32) × StV := carryF q 80 0 (f_X2_begin_v (faultF q 80 (f_X2_begin_v v)).2) xp
noncomputable def f_X4_carryOut_r (h : Nat → Int32) (sv : Nat → StV) (xp : StV) (v : Nat → Int32) (q : Nat → UInt16) : Int32 := if (faultF q 80 (f_X2_begin_v v)).1 = -6 then (f_X4_carryOut_s h sv xp v q).1 else -3
noncomputable def f_X4_carryOut_v (h : Nat → Int32) (sv : Nat → StV) (xp : StV) (v : Nat → Int32) (q : Nat → UInt16) : Nat → Int32 := if (faultF q 80 (f_X2_begin_v v)).1 = -6 then upd (f_X4_carryOut_s h sv xp v q).2.1 1 0 else (faultF q 80 (f_X2_begin_v v)).2
noncomputable def f_X4_carryOut_xp (h : Nat → Int32) (sv : Nat → StV) (xp : StV) (v : Nat → Int32) (q : Nat → UInt16) : StV := if (faultF q 80 (f_X2_begin_v v)).1 = -6 then (f_X4_carryOut_s h sv xp v q).2.2 else xp
noncomputable def f_X4_carryOut_h (h : Nat → Int32) (sv : Nat → StV) (xp : StV) (v : Nat → Int32) (q : Nat → UInt16) : Nat → Int32 := if (faultF q 80 (f_X2_begin_v v)).1 = -6 then f_X1_keepPrepared_h h else h
noncomputable def f_X4_carryOut_sv (h : Nat → Int32) (sv : Nat → StV) (xp : StV) (v : Nat → Int32) (q : Nat → UInt16) : Nat → StV := if (faultF q 80 (f_X2_begin_v v)).1 = -6 then f_X1_prepare_sv h sv xp else sv
set_option maxRecDepth 100000 in
set_option maxHeartbeats 4000000 in
theorem m_X4_carryOut (l : Launch) (G : GG) (a hi sl su pa ha ga : Nat) (AP AT AU : Nat → Nat) (AH : Nat → Nat → Nat) (h : Nat → Int32) (sv : Nat → StV) (xp : StV) (v : Nat → Int32) (q : Nat → UInt16) (h7 : vp_in (h 1) 7) : CtI l yX4_carryOut cX4_carryOut 2 (some .int) (RM 7) G [.ref a] (fl [[oX a (AP 0) hi sl su pa (AT 0) (AU 0)], [oH hi ha h], [aS G ha 7 (fun k => some (AH k 0))], [oP pa ga v], [aC G ga q], cMany G AH sv 7, cSt G AP xp]) (f_X4_carryOut_r h sv xp v q) (fl [[oX a (AP 0) hi sl su pa (AT 0) (AU 0)], [oH hi ha (f_X4_carryOut_h h sv xp v q)], [aS G ha 7 (fun k => some (AH k 0))], [oP pa ga (f_X4_carryOut_v h sv xp v q)], [aC G ga q], cMany G AH (f_X4_carryOut_sv h sv xp v q) 7, cSt G AP (f_X4_carryOut_xp h sv xp v q)]) := by
  refine ct_I RX4 [(0, .ref a)] rfl (by decide +kernel) (Nat.le_of_ble_eq_true rfl) rfl ?_
  intro p e s m args below meth c A C hr hk hnm
  generalize hQ : (MQ below (PostI G A (f_X4_carryOut_r h sv xp v q) (fl [[oX a (AP 0) hi sl su pa (AT 0) (AU 0)], [oH hi ha (f_X4_carryOut_h h sv xp v q)], [aS G ha 7 (fun k => some (AH k 0))], [oP pa ga (f_X4_carryOut_v h sv xp v q)], [aC G ga q], cMany G AH (f_X4_carryOut_sv h sv xp v q) 7, cSt G AP (f_X4_carryOut_xp h sv xp v q)])) args s (RM 7).cells (RM 7).slots A) = Q
  refine j_aload_n C dX4_carryOut_0 0 rfl ?_
  refine j_get C kin4 rfl 0 rfl 4 (by decide) kw_144 rfl (v := .ref pa) rfl dX4_carryOut_1 ?_
  refine j_callV_i (r := (faultF q 80 (f_X2_begin_v v)).1) (wc' := [oP pa ga ((faultF q 80 (f_X2_begin_v v)).2), aC G ga q]) C (m_X2_firstFault l G pa ga v q) rfl 0 rfl 0 (gV kw_410 kw_411 kw_412 kw_6 kw_413) (by decide +kernel) ⟨(Nat.le_of_ble_eq_true rfl), (Nat.le_of_ble_eq_true rfl)⟩ rfl rfl (Nat.le_of_ble_eq_true rfl) dX4_carryOut_4 ⟨(Nat.le_of_ble_eq_true rfl), (Nat.le_of_ble_eq_true rfl)⟩ (fl [[oX a (AP 0) hi sl su pa (AT 0) (AU 0)], [oH hi ha h], [aS G ha 7 (fun k => some (AH k 0))], cMany G AH sv 7, cSt G AP xp]) (fl [[oP pa ga ((faultF q 80 (f_X2_begin_v v)).2)], [aC G ga q], [oX a (AP 0) hi sl su pa (AT 0) (AU 0)], [oH hi ha h], [aS G ha 7 (fun k => some (AH k 0))], cMany G AH sv 7, cSt G AP xp]) (bperm (bs' := [[oP pa ga v], [aC G ga q], [oX a (AP 0) hi sl su pa (AT 0) (AU 0)], [oH hi ha h], [aS G ha 7 (fun k => some (AH k 0))], cMany G AH sv 7, cSt G AP xp]) [3, 4, 0, 1, 2, 5, 6] 7 rfl (by decide +kernel) rfl) rfl ?_
  refine j_bipush (v := (-6)) C dX4_carryOut_7 (by decide) ?_
  refine j_icmp_eq (tgt := 15) C dX4_carryOut_9 (by decide) (fun c9 => ?_) (fun c9 => ?_)
  · refine j_aload_n C dX4_carryOut_15 0 rfl ?_
    refine j_get C kin4 rfl 2 rfl 1 (by decide) kw_141 rfl (v := .ref hi) rfl dX4_carryOut_16 ?_
    refine j_aload_n C dX4_carryOut_19 0 rfl ?_
    refine j_get C kin4 rfl 2 rfl 0 (by decide) kw_140 rfl (v := .ref (AP 0)) rfl dX4_carryOut_20 ?_
    refine j_callV_v (wc' := fl [[oH hi ha h], [aS G ha 7 (fun k => some (AH k 0))], cMany G AH (f_X1_prepare_sv h sv xp) 7, cSt G AP xp]) C (m_X1_prepare l G hi ha AP AH h sv xp h7) rfl 0 rfl 1 (gV kw_158 kw_159 kw_160 kw_5 kw_161) (by decide +kernel) ⟨(Nat.le_of_ble_eq_true rfl), (Nat.le_of_ble_eq_true rfl)⟩ rfl rfl (Nat.le_of_ble_eq_true rfl) dX4_carryOut_23 ⟨(Nat.le_of_ble_eq_true rfl), (Nat.le_of_ble_eq_true rfl)⟩ (fl [[oP pa ga ((faultF q 80 (f_X2_begin_v v)).2)], [aC G ga q], [oX a (AP 0) hi sl su pa (AT 0) (AU 0)]]) (fl [[oH hi ha h], [aS G ha 7 (fun k => some (AH k 0))], cMany G AH (f_X1_prepare_sv h sv xp) 7, cSt G AP xp, [oP pa ga ((faultF q 80 (f_X2_begin_v v)).2)], [aC G ga q], [oX a (AP 0) hi sl su pa (AT 0) (AU 0)]]) (bperm2 (bC := [[oH hi ha h], [aS G ha 7 (fun k => some (AH k 0))], cMany G AH sv 7, cSt G AP xp]) (bR := [[oP pa ga ((faultF q 80 (f_X2_begin_v v)).2)], [aC G ga q], [oX a (AP 0) hi sl su pa (AT 0) (AU 0)]]) [3, 4, 5, 6, 0, 1, 2] 7 rfl (by decide +kernel) rfl) (fl_app _ _) ?_
    refine j_perm (fl [[oH hi ha h], [aS G ha 7 (fun k => some (AH k 0))], [oP pa ga ((faultF q 80 (f_X2_begin_v v)).2)], [aC G ga q], [oX a (AP 0) hi sl su pa (AT 0) (AU 0)], cMany G AH (f_X1_prepare_sv h sv xp) 7, cSt G AP xp]) (bperm [0, 1, 4, 5, 6, 2, 3] 7 rfl (by decide +kernel) rfl) ?_
    refine j_aload_n C dX4_carryOut_26 0 rfl ?_
    refine j_get C kin4 rfl 4 rfl 1 (by decide) kw_141 rfl (v := .ref hi) rfl dX4_carryOut_27 ?_
    refine j_callV_v (wc' := [oH hi ha (f_X1_keepPrepared_h h)]) C (m_X1_keepPrepared l G hi ha h) rfl 0 rfl 0 (gV kw_178 kw_179 kw_180 kw_5 kw_181) (by decide +kernel) ⟨(Nat.le_of_ble_eq_true rfl), (Nat.le_of_ble_eq_true rfl)⟩ rfl rfl (Nat.le_of_ble_eq_true rfl) dX4_carryOut_30 ⟨(Nat.le_of_ble_eq_true rfl), (Nat.le_of_ble_eq_true rfl)⟩ (fl [[aS G ha 7 (fun k => some (AH k 0))], [oP pa ga ((faultF q 80 (f_X2_begin_v v)).2)], [aC G ga q], [oX a (AP 0) hi sl su pa (AT 0) (AU 0)], cMany G AH (f_X1_prepare_sv h sv xp) 7, cSt G AP xp]) (fl [[oH hi ha (f_X1_keepPrepared_h h)], [aS G ha 7 (fun k => some (AH k 0))], [oP pa ga ((faultF q 80 (f_X2_begin_v v)).2)], [aC G ga q], [oX a (AP 0) hi sl su pa (AT 0) (AU 0)], cMany G AH (f_X1_prepare_sv h sv xp) 7, cSt G AP xp]) (bperm (bs' := [[oH hi ha h], [aS G ha 7 (fun k => some (AH k 0))], [oP pa ga ((faultF q 80 (f_X2_begin_v v)).2)], [aC G ga q], [oX a (AP 0) hi sl su pa (AT 0) (AU 0)], cMany G AH (f_X1_prepare_sv h sv xp) 7, cSt G AP xp]) [0, 1, 2, 3, 4, 5, 6] 7 rfl (by decide +kernel) rfl) rfl ?_
    refine j_aload_n C dX4_carryOut_33 0 rfl ?_
    refine j_get C kin4 rfl 4 rfl 4 (by decide) kw_144 rfl (v := .ref pa) rfl dX4_carryOut_34 ?_
    refine j_callV_v (wc' := [oP pa ga (f_X2_begin_v ((faultF q 80 (f_X2_begin_v v)).2))]) C (m_X2_begin l G pa ga ((faultF q 80 (f_X2_begin_v v)).2)) rfl 0 rfl 0 (gV kw_450 kw_415 kw_416 kw_6 kw_417) (by decide +kernel) ⟨(Nat.le_of_ble_eq_true rfl), (Nat.le_of_ble_eq_true rfl)⟩ rfl rfl (Nat.le_of_ble_eq_true rfl) dX4_carryOut_37 ⟨(Nat.le_of_ble_eq_true rfl), (Nat.le_of_ble_eq_true rfl)⟩ (fl [[oH hi ha (f_X1_keepPrepared_h h)], [aS G ha 7 (fun k => some (AH k 0))], [aC G ga q], [oX a (AP 0) hi sl su pa (AT 0) (AU 0)], cMany G AH (f_X1_prepare_sv h sv xp) 7, cSt G AP xp]) (fl [[oP pa ga (f_X2_begin_v ((faultF q 80 (f_X2_begin_v v)).2))], [oH hi ha (f_X1_keepPrepared_h h)], [aS G ha 7 (fun k => some (AH k 0))], [aC G ga q], [oX a (AP 0) hi sl su pa (AT 0) (AU 0)], cMany G AH (f_X1_prepare_sv h sv xp) 7, cSt G AP xp]) (bperm (bs' := [[oP pa ga ((faultF q 80 (f_X2_begin_v v)).2)], [oH hi ha (f_X1_keepPrepared_h h)], [aS G ha 7 (fun k => some (AH k 0))], [aC G ga q], [oX a (AP 0) hi sl su pa (AT 0) (AU 0)], cMany G AH (f_X1_prepare_sv h sv xp) 7, cSt G AP xp]) [2, 0, 1, 3, 4, 5, 6] 7 rfl (by decide +kernel) rfl) rfl ?_
    refine j_iconst (v := 0) C dX4_carryOut_40 (by decide) ?_
    refine j_istore_n C [(1, .int 0), (0, .ref a)] dX4_carryOut_41 (by decide) rfl ?_
    have L5 : ∀ (n : Nat) (vv : Nat → Int32) (xq : StV) (i : Nat), i + n = 80 → carryF q n i vv xq = f_X4_carryOut_s h sv xp v q → WJ p l e (RM 7) s m args below meth c G A 2 0 0 Q (fl [[oP pa ga vv], [oH hi ha (f_X1_keepPrepared_h h)], [aS G ha 7 (fun k => some (AH k 0))], [aC G ga q], [oX a (AP 0) hi sl su pa (AT 0) (AU 0)], cMany G AH (f_X1_prepare_sv h sv xp) 7, cSt G AP xq]) [(1, .int (nI i)), (0, .ref a)] 42 [] := by
      intro n
      induction n with
      | zero =>
        intro vv xq i hIN hx
        refine j_iload_n C dX4_carryOut_42 0 rfl ?_
        refine j_bipush (v := 80) C dX4_carryOut_43 (by decide) ?_
        refine j_icmp_ge (tgt := 71) C dX4_carryOut_45 (by decide) (fun c45 => ?_) (fun h => absurd (by rw [show i = 80 by omega]; decide) h)
        refine j_aload_n C dX4_carryOut_71 1 rfl ?_
        refine j_get C kin4 rfl 4 rfl 4 (by decide) kw_144 rfl (v := .ref pa) rfl dX4_carryOut_72 ?_
        refine j_iconst (v := 0) C dX4_carryOut_75 (by decide) ?_
        refine j_put C kin2 rfl 0 rfl 1 (by decide) kw_121 rfl tyX2 tyX2_ok nmX2 rfl rfl rfl (Nat.le_of_ble_eq_true rfl) (fl [[oP pa ga (upd vv 1 0)], [oH hi ha (f_X1_keepPrepared_h h)], [aS G ha 7 (fun k => some (AH k 0))], [aC G ga q], [oX a (AP 0) hi sl su pa (AT 0) (AU 0)], cMany G AH (f_X1_prepare_sv h sv xp) 7, cSt G AP xq]) rfl dX4_carryOut_76 ?_
        refine j_iload_n C dX4_carryOut_79 0 rfl ?_
        refine j_perm (fl [[oX a (AP 0) hi sl su pa (AT 0) (AU 0)], [oH hi ha (f_X1_keepPrepared_h h)], [aS G ha 7 (fun k => some (AH k 0))], [oP pa ga (upd vv 1 0)], [aC G ga q], cMany G AH (f_X1_prepare_sv h sv xp) 7, cSt G AP xq]) (bperm [4, 1, 2, 0, 3, 5, 6] 7 rfl (by decide +kernel) rfl) ?_
        subst hQ; exact j_iret C hr hk (show nI i = (f_X4_carryOut_r h sv xp v q) from ((if_pos c9).trans (congrArg Prod.fst hx.symm)).symm) (by rw [show (f_X4_carryOut_h h sv xp v q) = (f_X1_keepPrepared_h h) from (if_pos c9), show (f_X4_carryOut_v h sv xp v q) = (upd vv 1 0) from ((if_pos c9).trans (congrArg (fun z => upd z.2.1 1 0) hx.symm)), show (f_X4_carryOut_sv h sv xp v q) = (f_X1_prepare_sv h sv xp) from (if_pos c9), show (f_X4_carryOut_xp h sv xp v q) = xq from ((if_pos c9).trans (congrArg (fun z => z.2.2) hx.symm))]) dX4_carryOut_80
      | succ n ih =>
        intro vv xq i hIN hx
        refine j_iload_n C dX4_carryOut_42 0 rfl ?_
        refine j_bipush (v := 80) C dX4_carryOut_43 (by decide) ?_
        refine j_icmp_ge (tgt := 71) C dX4_carryOut_45 (by decide) (fun h => absurd h (nI_ge (a := i) (b := 80) (by omega) (by decide))) (fun c45 => ?_)
        refine j_aload_n C dX4_carryOut_48 1 rfl ?_
        refine j_get C kin4 rfl 4 rfl 4 (by decide) kw_144 rfl (v := .ref pa) rfl dX4_carryOut_49 ?_
        refine j_callV_i (r := f_X2_readNext_r vv q) (wc' := [oP pa ga (f_X2_readNext_v vv q), aC G ga q]) C (m_X2_readNext l G pa ga vv q) rfl 0 rfl 0 (gV kw_451 kw_419 kw_420 kw_6 kw_421) (by decide +kernel) ⟨(Nat.le_of_ble_eq_true rfl), (Nat.le_of_ble_eq_true rfl)⟩ rfl rfl (Nat.le_of_ble_eq_true rfl) dX4_carryOut_52 ⟨(Nat.le_of_ble_eq_true rfl), (Nat.le_of_ble_eq_true rfl)⟩ (fl [[oH hi ha (f_X1_keepPrepared_h h)], [aS G ha 7 (fun k => some (AH k 0))], [oX a (AP 0) hi sl su pa (AT 0) (AU 0)], cMany G AH (f_X1_prepare_sv h sv xp) 7, cSt G AP xq]) (fl [[oP pa ga (f_X2_readNext_v vv q)], [aC G ga q], [oH hi ha (f_X1_keepPrepared_h h)], [aS G ha 7 (fun k => some (AH k 0))], [oX a (AP 0) hi sl su pa (AT 0) (AU 0)], cMany G AH (f_X1_prepare_sv h sv xp) 7, cSt G AP xq]) (bperm (bs' := [[oP pa ga vv], [aC G ga q], [oH hi ha (f_X1_keepPrepared_h h)], [aS G ha 7 (fun k => some (AH k 0))], [oX a (AP 0) hi sl su pa (AT 0) (AU 0)], cMany G AH (f_X1_prepare_sv h sv xp) 7, cSt G AP xq]) [0, 3, 1, 2, 4, 5, 6] 7 rfl (by decide +kernel) rfl) rfl ?_
        refine j_if_eq (tgt := 71) C dX4_carryOut_55 (by decide) (fun c55 => ?_) (fun c55 => ?_)
        · refine j_aload_n C dX4_carryOut_71 1 rfl ?_
          refine j_get C kin4 rfl 4 rfl 4 (by decide) kw_144 rfl (v := .ref pa) rfl dX4_carryOut_72 ?_
          refine j_iconst (v := 0) C dX4_carryOut_75 (by decide) ?_
          refine j_put C kin2 rfl 0 rfl 1 (by decide) kw_121 rfl tyX2 tyX2_ok nmX2 rfl rfl rfl (Nat.le_of_ble_eq_true rfl) (fl [[oP pa ga (upd (f_X2_readNext_v vv q) 1 0)], [aC G ga q], [oH hi ha (f_X1_keepPrepared_h h)], [aS G ha 7 (fun k => some (AH k 0))], [oX a (AP 0) hi sl su pa (AT 0) (AU 0)], cMany G AH (f_X1_prepare_sv h sv xp) 7, cSt G AP xq]) rfl dX4_carryOut_76 ?_
          refine j_iload_n C dX4_carryOut_79 0 rfl ?_
          refine j_perm (fl [[oX a (AP 0) hi sl su pa (AT 0) (AU 0)], [oH hi ha (f_X1_keepPrepared_h h)], [aS G ha 7 (fun k => some (AH k 0))], [oP pa ga (upd (f_X2_readNext_v vv q) 1 0)], [aC G ga q], cMany G AH (f_X1_prepare_sv h sv xp) 7, cSt G AP xq]) (bperm [4, 2, 3, 0, 1, 5, 6] 7 rfl (by decide +kernel) rfl) ?_
          subst hQ; exact j_iret C hr hk (show nI i = (f_X4_carryOut_r h sv xp v q) from ((if_pos c9).trans (congrArg Prod.fst (hx.symm.trans (if_pos c55)))).symm) (by rw [show (f_X4_carryOut_h h sv xp v q) = (f_X1_keepPrepared_h h) from (if_pos c9), show (f_X4_carryOut_v h sv xp v q) = (upd (f_X2_readNext_v vv q) 1 0) from ((if_pos c9).trans (congrArg (fun z => upd z.2.1 1 0) (hx.symm.trans (if_pos c55)))), show (f_X4_carryOut_sv h sv xp v q) = (f_X1_prepare_sv h sv xp) from (if_pos c9), show (f_X4_carryOut_xp h sv xp v q) = xq from ((if_pos c9).trans (congrArg (fun z => z.2.2) (hx.symm.trans (if_pos c55))))]) dX4_carryOut_80
        · refine j_aload_n C dX4_carryOut_58 1 rfl ?_
          refine j_callV_i (r := f_X4_carryOutOrder_r xq (f_X2_readNext_v vv q)) (wc' := fl [[oX a (AP 0) hi sl su pa (AT 0) (AU 0)], [oP pa ga (f_X2_readNext_v vv q)], cSt G AP (f_X4_carryOutOrder_xp xq (f_X2_readNext_v vv q))]) C (m_X4_carryOutOrder l G a hi sl su pa ga AP AT AU xq (f_X2_readNext_v vv q)) rfl 0 rfl 0 (gV kw_452 kw_453 kw_770 kw_1 kw_454) (by decide +kernel) ⟨(Nat.le_of_ble_eq_true rfl), (Nat.le_of_ble_eq_true rfl)⟩ rfl rfl (Nat.le_of_ble_eq_true rfl) dX4_carryOut_59 ⟨(Nat.le_of_ble_eq_true rfl), (Nat.le_of_ble_eq_true rfl)⟩ (fl [[aC G ga q], [oH hi ha (f_X1_keepPrepared_h h)], [aS G ha 7 (fun k => some (AH k 0))], cMany G AH (f_X1_prepare_sv h sv xp) 7]) (fl [[oX a (AP 0) hi sl su pa (AT 0) (AU 0)], [oP pa ga (f_X2_readNext_v vv q)], cSt G AP (f_X4_carryOutOrder_xp xq (f_X2_readNext_v vv q)), [aC G ga q], [oH hi ha (f_X1_keepPrepared_h h)], [aS G ha 7 (fun k => some (AH k 0))], cMany G AH (f_X1_prepare_sv h sv xp) 7]) (bperm2 (bC := [[oX a (AP 0) hi sl su pa (AT 0) (AU 0)], [oP pa ga (f_X2_readNext_v vv q)], cSt G AP xq]) (bR := [[aC G ga q], [oH hi ha (f_X1_keepPrepared_h h)], [aS G ha 7 (fun k => some (AH k 0))], cMany G AH (f_X1_prepare_sv h sv xp) 7]) [4, 0, 6, 1, 2, 3, 5] 7 rfl (by decide +kernel) rfl) (fl_app _ _) ?_
          refine j_if_lt (tgt := 71) C dX4_carryOut_62 (by decide) (fun c62 => ?_) (fun c62 => ?_)
          · refine j_perm (fl [[oX a (AP 0) hi sl su pa (AT 0) (AU 0)], [oP pa ga (f_X2_readNext_v vv q)], [aC G ga q], [oH hi ha (f_X1_keepPrepared_h h)], [aS G ha 7 (fun k => some (AH k 0))], cSt G AP (f_X4_carryOutOrder_xp xq (f_X2_readNext_v vv q)), cMany G AH (f_X1_prepare_sv h sv xp) 7]) (bperm [0, 1, 3, 4, 5, 2, 6] 7 rfl (by decide +kernel) rfl) ?_
            refine j_aload_n C dX4_carryOut_71 1 rfl ?_
            refine j_get C kin4 rfl 0 rfl 4 (by decide) kw_144 rfl (v := .ref pa) rfl dX4_carryOut_72 ?_
            refine j_iconst (v := 0) C dX4_carryOut_75 (by decide) ?_
            refine j_put C kin2 rfl 1 rfl 1 (by decide) kw_121 rfl tyX2 tyX2_ok nmX2 rfl rfl rfl (Nat.le_of_ble_eq_true rfl) (fl [[oX a (AP 0) hi sl su pa (AT 0) (AU 0)], [oP pa ga (upd (f_X2_readNext_v vv q) 1 0)], [aC G ga q], [oH hi ha (f_X1_keepPrepared_h h)], [aS G ha 7 (fun k => some (AH k 0))], cSt G AP (f_X4_carryOutOrder_xp xq (f_X2_readNext_v vv q)), cMany G AH (f_X1_prepare_sv h sv xp) 7]) rfl dX4_carryOut_76 ?_
            refine j_iload_n C dX4_carryOut_79 0 rfl ?_
            refine j_perm (fl [[oX a (AP 0) hi sl su pa (AT 0) (AU 0)], [oH hi ha (f_X1_keepPrepared_h h)], [aS G ha 7 (fun k => some (AH k 0))], [oP pa ga (upd (f_X2_readNext_v vv q) 1 0)], [aC G ga q], cMany G AH (f_X1_prepare_sv h sv xp) 7, cSt G AP (f_X4_carryOutOrder_xp xq (f_X2_readNext_v vv q))]) (bperm [0, 3, 4, 1, 2, 6, 5] 7 rfl (by decide +kernel) rfl) ?_
            subst hQ; exact j_iret C hr hk (show nI i = (f_X4_carryOut_r h sv xp v q) from ((if_pos c9).trans (congrArg Prod.fst (hx.symm.trans ((if_neg c55).trans (if_pos c62))))).symm) (by rw [show (f_X4_carryOut_h h sv xp v q) = (f_X1_keepPrepared_h h) from (if_pos c9), show (f_X4_carryOut_v h sv xp v q) = (upd (f_X2_readNext_v vv q) 1 0) from ((if_pos c9).trans (congrArg (fun z => upd z.2.1 1 0) (hx.symm.trans ((if_neg c55).trans (if_pos c62))))), show (f_X4_carryOut_sv h sv xp v q) = (f_X1_prepare_sv h sv xp) from (if_pos c9), show (f_X4_carryOut_xp h sv xp v q) = (f_X4_carryOutOrder_xp xq (f_X2_readNext_v vv q)) from ((if_pos c9).trans (congrArg (fun z => z.2.2) (hx.symm.trans ((if_neg c55).trans (if_pos c62)))))]) dX4_carryOut_80
          · refine j_perm (fl [[oX a (AP 0) hi sl su pa (AT 0) (AU 0)], [oP pa ga (f_X2_readNext_v vv q)], [aC G ga q], [oH hi ha (f_X1_keepPrepared_h h)], [aS G ha 7 (fun k => some (AH k 0))], cSt G AP (f_X4_carryOutOrder_xp xq (f_X2_readNext_v vv q)), cMany G AH (f_X1_prepare_sv h sv xp) 7]) (bperm [0, 1, 3, 4, 5, 2, 6] 7 rfl (by decide +kernel) rfl) ?_
            refine j_iinc (v := nI (i + 1)) C [(1, .int (nI (i + 1))), (0, .ref a)] dX4_carryOut_65 (k := 0) rfl (nI_1 i) (by decide) rfl ?_
            refine j_goto (tgt := 42) C dX4_carryOut_68 (by decide) ?_
            refine j_perm (fl [[oP pa ga (f_X2_readNext_v vv q)], [oH hi ha (f_X1_keepPrepared_h h)], [aS G ha 7 (fun k => some (AH k 0))], [aC G ga q], [oX a (AP 0) hi sl su pa (AT 0) (AU 0)], cMany G AH (f_X1_prepare_sv h sv xp) 7, cSt G AP (f_X4_carryOutOrder_xp xq (f_X2_readNext_v vv q))]) (bperm [1, 3, 4, 2, 0, 6, 5] 7 rfl (by decide +kernel) rfl) ?_
            exact j_eq rfl rfl rfl (ih (f_X2_readNext_v vv q) (f_X4_carryOutOrder_xp xq (f_X2_readNext_v vv q)) (i + 1) (by omega) (((if_neg c55).trans (if_neg c62)).symm.trans hx))
    exact j_eq rfl rfl rfl (L5 80 (f_X2_begin_v ((faultF q 80 (f_X2_begin_v v)).2)) xp 0 (by omega) rfl)
  · refine j_bipush (v := (-3)) C dX4_carryOut_12 (by decide) ?_
    refine j_perm (fl [[oX a (AP 0) hi sl su pa (AT 0) (AU 0)], [oH hi ha h], [aS G ha 7 (fun k => some (AH k 0))], [oP pa ga ((faultF q 80 (f_X2_begin_v v)).2)], [aC G ga q], cMany G AH sv 7, cSt G AP xp]) (bperm [2, 3, 4, 0, 1, 5, 6] 7 rfl (by decide +kernel) rfl) ?_
    subst hQ; exact j_iret C hr hk (show (-3) = (f_X4_carryOut_r h sv xp v q) from (if_neg c9).symm) (by rw [show (f_X4_carryOut_h h sv xp v q) = h from (if_neg c9), show (f_X4_carryOut_v h sv xp v q) = ((faultF q 80 (f_X2_begin_v v)).2) from (if_neg c9), show (f_X4_carryOut_sv h sv xp v q) = sv from (if_neg c9), show (f_X4_carryOut_xp h sv xp v q) = xp from (if_neg c9)]) dX4_carryOut_14
/-- the first safe hour: n hours left, the hour t; the answer, the trial and the sold trial then -/
noncomputable def soldAt (x : StV) (k t : Int32) : StV := (x.1, x.2.1, updF x.2.2.1 k.toNatClampNeg (x.2.2.1 k.toNatClampNeg), updF x.2.2.2 k.toNatClampNeg (f_X0_markHour_f (x.2.2.1 k.toNatClampNeg) (x.2.2.2 k.toNatClampNeg) t 1))
noncomputable def safeF (k l : Int32) : Nat → Int32 → StV → StV → Int32 × StV × StV
  | 0, _, xt, xu => (-6, xt, xu)
  | n + 1, t, xt, xu => if l < t then (-6, xt, xu) else if f_X0_hourState_r ((f_X3_passMinutes_x xt (t * 60 - xt.1 2)).2.2.1 k.toNatClampNeg) ((f_X3_passMinutes_x xt (t * 60 - xt.1 2)).2.2.2 k.toNatClampNeg) t = 0 then (if (noLoud (soldAt (f_X3_passMinutes_x xt (t * 60 - xt.1 2)) k t) (60 : Int32).toNatClampNeg).1 = 0 then safeF k l n (t + 1) (f_X3_passMinutes_x xt (t * 60 - xt.1 2)) (noLoud (soldAt (f_X3_passMinutes_x xt (t * 60 - xt.1 2)) k t) (60 : Int32).toNatClampNeg).2 else (t, f_X3_passMinutes_x xt (t * 60 - xt.1 2), (noLoud (soldAt (f_X3_passMinutes_x xt (t * 60 - xt.1 2)) k t) (60 : Int32).toNatClampNeg).2)) else safeF k l n (t + 1) (f_X3_passMinutes_x xt (t * 60 - xt.1 2)) xu
theorem safe_start {z : Int32} (h : ¬ z < 0) : (imin (z / 60 + 24) 99).toInt < (z / 60 + 1).toInt + (25 : Nat) ∧ (imin (z / 60 + 24) 99).toInt ≤ 99 := by
  obtain ⟨j, hj, rfl⟩ := nI_of h
  have e : nI j / 60 = nI (j / 60) := pk_div (d := 60) hj (by decide) (by decide)
  rw [e, nI_1, show nI (j / 60) + 24 = nI (j / 60 + 24) from nI_add (j / 60) 24, imin_eq, nI_toInt (by omega)]
  have h9 : (99 : Int32).toInt = 99 := rfl
  split
  · rename_i g
    rw [Int32.lt_iff_toInt_lt, nI_toInt (by omega), h9] at g
    rw [h9]
    omega
  · rename_i g
    rw [Int32.lt_iff_toInt_lt, nI_toInt (by omega), h9] at g
    rw [nI_toInt (by omega)]
    omega
theorem safe_step {l t : Int32} {n : Nat} (h : ¬ l < t) (h2 : l.toInt < t.toInt + ((n + 1 : Nat) : Int)) (h9 : l.toInt ≤ 99) : l.toInt < (t + 1).toInt + (n : Int) := by
  rw [Int32.lt_iff_toInt_lt] at h
  have h1 := Int32.le_toInt t
  rw [Int32.toInt_add, show (1 : Int32).toInt = 1 from rfl, Int.bmod_eq_of_le (by omega) (by omega)]
  omega
noncomputable def f_X4_firstSafe_s (xp : StV) (xt : StV) (xu : StV) (k : Int32) : Int32 × StV × StV := safeF k (imin ((f_X3_hourOfNow_r xp.1) + 24) 99) 25 ((f_X3_hourOfNow_r xp.1) + 1) xp xu
noncomputable def f_X4_firstSafe_r (xp : StV) (xt : StV) (xu : StV) (k : Int32) : Int32 := if f_X4_isDrive_r k = 0 then -1 else (f_X4_firstSafe_s xp xt xu k).1
noncomputable def f_X4_firstSafe_xt (xp : StV) (xt : StV) (xu : StV) (k : Int32) : StV := if f_X4_isDrive_r k = 0 then xt else (f_X4_firstSafe_s xp xt xu k).2.1
noncomputable def f_X4_firstSafe_xu (xp : StV) (xt : StV) (xu : StV) (k : Int32) : StV := if f_X4_isDrive_r k = 0 then xu else (f_X4_firstSafe_s xp xt xu k).2.2
noncomputable def f_X4_firstSafe_rq6 (xp : StV) (xt : StV) (xu : StV) (k : Int32) (t : Int32) (xq : StV) (uq : StV) (n : Nat) : Int32 := f_X0_hourState_r ((f_X3_passMinutes_x xq ((t * 60) - (xq.1 2))).2.2.1 k.toNatClampNeg) ((f_X3_passMinutes_x xq ((t * 60) - (xq.1 2))).2.2.2 k.toNatClampNeg) t
noncomputable def f_X4_firstSafe_fq8 (xp : StV) (xt : StV) (xu : StV) (k : Int32) (t : Int32) (xq : StV) (uq : StV) (n : Nat) : (Nat → Int8) := f_X0_markHour_f ((f_X3_passMinutes_x xq ((t * 60) - (xq.1 2))).2.2.1 k.toNatClampNeg) ((f_X3_passMinutes_x xq ((t * 60) - (xq.1 2))).2.2.2 k.toNatClampNeg) t 1
noncomputable def f_X4_firstSafe_rq9 (xp : StV) (xt : StV) (xu : StV) (k : Int32) (t : Int32) (xq : StV) (uq : StV) (n : Nat) : Int32 := (noLoud ((f_X3_passMinutes_x xq ((t * 60) - (xq.1 2))).1, (f_X3_passMinutes_x xq ((t * 60) - (xq.1 2))).2.1, (updF (f_X3_passMinutes_x xq ((t * 60) - (xq.1 2))).2.2.1 k.toNatClampNeg ((f_X3_passMinutes_x xq ((t * 60) - (xq.1 2))).2.2.1 k.toNatClampNeg)), (updF (f_X3_passMinutes_x xq ((t * 60) - (xq.1 2))).2.2.2 k.toNatClampNeg (f_X4_firstSafe_fq8 xp xt xu k t xq uq n))) (60 : Int32).toNatClampNeg).1
noncomputable def f_X4_firstSafe_xq9 (xp : StV) (xt : StV) (xu : StV) (k : Int32) (t : Int32) (xq : StV) (uq : StV) (n : Nat) : StV := (noLoud ((f_X3_passMinutes_x xq ((t * 60) - (xq.1 2))).1, (f_X3_passMinutes_x xq ((t * 60) - (xq.1 2))).2.1, (updF (f_X3_passMinutes_x xq ((t * 60) - (xq.1 2))).2.2.1 k.toNatClampNeg ((f_X3_passMinutes_x xq ((t * 60) - (xq.1 2))).2.2.1 k.toNatClampNeg)), (updF (f_X3_passMinutes_x xq ((t * 60) - (xq.1 2))).2.2.2 k.toNatClampNeg (f_X4_firstSafe_fq8 xp xt xu k t xq uq n))) (60 : Int32).toNatClampNeg).2
set_option maxRecDepth 100000 in
set_option maxHeartbeats 4000000 in
theorem m_X4_firstSafe (l : Launch) (G : GG) (a hi sl su pa : Nat) (AP AT AU : Nat → Nat) (xp : StV) (xt : StV) (xu : StV) (k : Int32) (hnow : ¬ xp.1 2 < 0) : CtI l yX4_firstSafe cX4_firstSafe 5 (some .int) (RM 6) G [.ref a, .int k] (fl [[oX a (AP 0) hi sl su pa (AT 0) (AU 0)], cSt G AP xp, cSt G AT xt, cSt G AU xu]) (f_X4_firstSafe_r xp xt xu k) (fl [[oX a (AP 0) hi sl su pa (AT 0) (AU 0)], cSt G AP xp, cSt G AT (f_X4_firstSafe_xt xp xt xu k), cSt G AU (f_X4_firstSafe_xu xp xt xu k)]) := by
  refine ct_I RX4 [(0, .ref a), (1, .int k)] rfl (by decide +kernel) (Nat.le_of_ble_eq_true rfl) rfl ?_
  intro p e s m args below meth c A C hr hk hnm
  generalize hQ : (MQ below (PostI G A (f_X4_firstSafe_r xp xt xu k) (fl [[oX a (AP 0) hi sl su pa (AT 0) (AU 0)], cSt G AP xp, cSt G AT (f_X4_firstSafe_xt xp xt xu k), cSt G AU (f_X4_firstSafe_xu xp xt xu k)])) args s (RM 6).cells (RM 6).slots A) = Q
  refine j_iload_n C dX4_firstSafe_0 1 rfl ?_
  refine j_pureS_i (r := f_X4_isDrive_r k) C (m_X4_isDrive l G k) 1 (gS kw_306 kw_193 kw_1 kw_194) (by decide +kernel) ⟨(Nat.le_of_ble_eq_true rfl), (Nat.le_of_ble_eq_true rfl)⟩ rfl rfl (Nat.le_of_ble_eq_true rfl) dX4_firstSafe_1 ⟨(Nat.le_of_ble_eq_true rfl), (Nat.le_of_ble_eq_true rfl)⟩ ?_
  refine j_if_ne (tgt := 9) C dX4_firstSafe_4 (by decide) (fun c4 => ?_) (fun c4 => ?_)
  · refine j_aload_n C dX4_firstSafe_9 0 rfl ?_
    refine j_get C kin4 rfl 0 rfl 5 (by decide) kw_145 rfl (v := .ref (AT 0)) rfl dX4_firstSafe_10 ?_
    refine j_aload_n C dX4_firstSafe_13 0 rfl ?_
    refine j_get C kin4 rfl 0 rfl 0 (by decide) kw_140 rfl (v := .ref (AP 0)) rfl dX4_firstSafe_14 ?_
    refine j_callV_v (wc' := fl [cSt G AT xp, cSt G AP xp]) C (m_X3_copyFrom l G AT AP xt xp) rfl 0 rfl 1 (gV kw_358 kw_163 kw_164 kw_2 kw_165) (by decide +kernel) ⟨(Nat.le_of_ble_eq_true rfl), (Nat.le_of_ble_eq_true rfl)⟩ rfl rfl (Nat.le_of_ble_eq_true rfl) dX4_firstSafe_17 ⟨(Nat.le_of_ble_eq_true rfl), (Nat.le_of_ble_eq_true rfl)⟩ (fl [[oX a (AP 0) hi sl su pa (AT 0) (AU 0)], cSt G AU xu]) (fl [cSt G AT xp, cSt G AP xp, [oX a (AP 0) hi sl su pa (AT 0) (AU 0)], cSt G AU xu]) (bperm2 (bC := [cSt G AT xt, cSt G AP xp]) (bR := [[oX a (AP 0) hi sl su pa (AT 0) (AU 0)], cSt G AU xu]) [2, 1, 0, 3] 4 rfl (by decide +kernel) rfl) (fl_app _ _) ?_
    refine j_perm (fl [[oX a (AP 0) hi sl su pa (AT 0) (AU 0)], cSt G AT xp, cSt G AP xp, cSt G AU xu]) (bperm [2, 0, 1, 3] 4 rfl (by decide +kernel) rfl) ?_
    refine j_aload_n C dX4_firstSafe_20 0 rfl ?_
    refine j_get C kin4 rfl 0 rfl 0 (by decide) kw_140 rfl (v := .ref (AP 0)) rfl dX4_firstSafe_21 ?_
    refine j_perm (fl [cSt G AP xp, [oX a (AP 0) hi sl su pa (AT 0) (AU 0)], cSt G AT xp, cSt G AU xu]) (bperm [2, 0, 1, 3] 4 rfl (by decide +kernel) rfl) ?_
    refine j_w (fl [[oS (AP 0) (AP 1) (AP 2) xp.1], [aI G (AP 1) 7 xp.2.1], [aD G (AP 2) 4 (fun k => some (AP (3 + 2 * k)))], cDrs G AP xp.2.2.1 xp.2.2.2, [oX a (AP 0) hi sl su pa (AT 0) (AU 0)], cSt G AT xp, cSt G AU xu]) rfl ?_
    refine j_perm (fl [[oS (AP 0) (AP 1) (AP 2) xp.1], [aI G (AP 1) 7 xp.2.1], [aD G (AP 2) 4 (fun k => some (AP (3 + 2 * k)))], [oX a (AP 0) hi sl su pa (AT 0) (AU 0)], cDrs G AP xp.2.2.1 xp.2.2.2, cSt G AT xp, cSt G AU xu]) (bperm [0, 1, 2, 4, 3, 5, 6] 7 rfl (by decide +kernel) rfl) ?_
    refine j_callV_i (r := f_X3_hourOfNow_r xp.1) (wc' := [oS (AP 0) (AP 1) (AP 2) xp.1]) C (m_X3_hourOfNow l G (AP 0) (AP 1) (AP 2) xp.1) rfl 0 rfl 0 (gV kw_307 kw_217 kw_218 kw_2 kw_219) (by decide +kernel) ⟨(Nat.le_of_ble_eq_true rfl), (Nat.le_of_ble_eq_true rfl)⟩ rfl rfl (Nat.le_of_ble_eq_true rfl) dX4_firstSafe_24 ⟨(Nat.le_of_ble_eq_true rfl), (Nat.le_of_ble_eq_true rfl)⟩ (fl [[aI G (AP 1) 7 xp.2.1], [aD G (AP 2) 4 (fun k => some (AP (3 + 2 * k)))], [oX a (AP 0) hi sl su pa (AT 0) (AU 0)], cDrs G AP xp.2.2.1 xp.2.2.2, cSt G AT xp, cSt G AU xu]) (fl [[oS (AP 0) (AP 1) (AP 2) xp.1], [aI G (AP 1) 7 xp.2.1], [aD G (AP 2) 4 (fun k => some (AP (3 + 2 * k)))], [oX a (AP 0) hi sl su pa (AT 0) (AU 0)], cDrs G AP xp.2.2.1 xp.2.2.2, cSt G AT xp, cSt G AU xu]) (bperm (bs' := [[oS (AP 0) (AP 1) (AP 2) xp.1], [aI G (AP 1) 7 xp.2.1], [aD G (AP 2) 4 (fun k => some (AP (3 + 2 * k)))], [oX a (AP 0) hi sl su pa (AT 0) (AU 0)], cDrs G AP xp.2.2.1 xp.2.2.2, cSt G AT xp, cSt G AU xu]) [0, 1, 2, 3, 4, 5, 6] 7 rfl (by decide +kernel) rfl) rfl ?_
    refine j_istore_n C [(2, .int (f_X3_hourOfNow_r xp.1)), (0, .ref a), (1, .int k)] dX4_firstSafe_27 (by decide) rfl ?_
    refine j_iload_n C dX4_firstSafe_28 0 rfl ?_
    refine j_bipush (v := 24) C dX4_firstSafe_29 (by decide) ?_
    refine j_iadd C dX4_firstSafe_31 rfl ?_
    refine j_bipush (v := 99) C dX4_firstSafe_32 (by decide) ?_
    refine j_mmin C kw_375 (Nat.le_of_ble_eq_true rfl) (Nat.le_of_ble_eq_true rfl) ⟨(Nat.le_of_ble_eq_true rfl), (Nat.le_of_ble_eq_true rfl)⟩ dX4_firstSafe_34 (v := imin ((f_X3_hourOfNow_r xp.1) + 24) 99) (imin_eq _ _).symm ?_
    refine j_istore_n C [(3, .int (imin ((f_X3_hourOfNow_r xp.1) + 24) 99)), (2, .int (f_X3_hourOfNow_r xp.1)), (0, .ref a), (1, .int k)] dX4_firstSafe_37 (by decide) rfl ?_
    refine j_iload_n C dX4_firstSafe_38 1 rfl ?_
    refine j_iconst (v := 1) C dX4_firstSafe_39 (by decide) ?_
    refine j_iadd C dX4_firstSafe_40 rfl ?_
    refine j_istore C [(4, .int ((f_X3_hourOfNow_r xp.1) + 1)), (3, .int (imin ((f_X3_hourOfNow_r xp.1) + 24) 99)), (2, .int (f_X3_hourOfNow_r xp.1)), (0, .ref a), (1, .int k)] dX4_firstSafe_41 (by decide) rfl ?_
    refine j_perm (fl [[oS (AP 0) (AP 1) (AP 2) xp.1], [aI G (AP 1) 7 xp.2.1], [aD G (AP 2) 4 (fun k => some (AP (3 + 2 * k)))], cDrs G AP xp.2.2.1 xp.2.2.2, [oX a (AP 0) hi sl su pa (AT 0) (AU 0)], cSt G AT xp, cSt G AU xu]) (bperm [0, 1, 2, 4, 3, 5, 6] 7 rfl (by decide +kernel) rfl) ?_
    refine j_w (fl [cSt G AP xp, [oX a (AP 0) hi sl su pa (AT 0) (AU 0)], cSt G AT xp, cSt G AU xu]) rfl ?_
    refine j_perm (fl [[oX a (AP 0) hi sl su pa (AT 0) (AU 0)], cSt G AP xp, cSt G AT xp, cSt G AU xu]) (bperm [1, 0, 2, 3] 4 rfl (by decide +kernel) rfl) ?_
    have L4 : ∀ (n : Nat) (t : Int32) (xq : StV) (uq : StV), (imin ((f_X3_hourOfNow_r xp.1) + 24) 99).toInt < t.toInt + (n : Int) → (imin ((f_X3_hourOfNow_r xp.1) + 24) 99).toInt ≤ 99 → safeF k (imin ((f_X3_hourOfNow_r xp.1) + 24) 99) n t xq uq = f_X4_firstSafe_s xp xt xu k → WJ p l e (RM 6) s m args below meth c G A 5 0 0 Q (fl [[oX a (AP 0) hi sl su pa (AT 0) (AU 0)], cSt G AP xp, cSt G AT xq, cSt G AU uq]) [(4, .int t), (3, .int (imin ((f_X3_hourOfNow_r xp.1) + 24) 99)), (2, .int (f_X3_hourOfNow_r xp.1)), (0, .ref a), (1, .int k)] 43 [] := by
      intro n
      induction n with
      | zero =>
        intro t xq uq hm h99 hx
        refine j_iload C dX4_firstSafe_43 0 rfl ?_
        refine j_iload_n C dX4_firstSafe_45 1 rfl ?_
        refine j_icmp_gt (tgt := 134) C dX4_firstSafe_46 (by decide) (fun c46 => ?_) (fun h => absurd (by rw [Int32.lt_iff_toInt_lt]; simpa using hm) h)
        refine j_bipush (v := (-6)) C dX4_firstSafe_134 (by decide) ?_
        subst hQ; exact j_iret C hr hk (show (-6) = (f_X4_firstSafe_r xp xt xu k) from ((if_neg c4).trans (congrArg Prod.fst hx.symm)).symm) (by rw [show (f_X4_firstSafe_xt xp xt xu k) = xq from (by have e := hx.symm; rw [f_X4_firstSafe_xt, if_neg c4, e] <;> rfl), show (f_X4_firstSafe_xu xp xt xu k) = uq from (by have e := hx.symm; rw [f_X4_firstSafe_xu, if_neg c4, e] <;> rfl)]) dX4_firstSafe_136
      | succ n ih =>
        intro t xq uq hm h99 hx
        refine j_iload C dX4_firstSafe_43 0 rfl ?_
        refine j_iload_n C dX4_firstSafe_45 1 rfl ?_
        refine j_icmp_gt (tgt := 134) C dX4_firstSafe_46 (by decide) (fun c46 => ?_) (fun c46 => ?_)
        · refine j_bipush (v := (-6)) C dX4_firstSafe_134 (by decide) ?_
          subst hQ; exact j_iret C hr hk (show (-6) = (f_X4_firstSafe_r xp xt xu k) from ((if_neg c4).trans (congrArg Prod.fst (hx.symm.trans (if_pos c46)))).symm) (by rw [show (f_X4_firstSafe_xt xp xt xu k) = xq from (by have e := (hx.symm.trans (if_pos c46)); rw [f_X4_firstSafe_xt, if_neg c4, e] <;> rfl), show (f_X4_firstSafe_xu xp xt xu k) = uq from (by have e := (hx.symm.trans (if_pos c46)); rw [f_X4_firstSafe_xu, if_neg c4, e] <;> rfl)]) dX4_firstSafe_136
        · refine j_aload_n C dX4_firstSafe_49 3 rfl ?_
          refine j_get C kin4 rfl 0 rfl 5 (by decide) kw_145 rfl (v := .ref (AT 0)) rfl dX4_firstSafe_50 ?_
          refine j_iload C dX4_firstSafe_53 0 rfl ?_
          refine j_bipush (v := 60) C dX4_firstSafe_55 (by decide) ?_
          refine j_imul C dX4_firstSafe_57 rfl ?_
          refine j_aload_n C dX4_firstSafe_58 3 rfl ?_
          refine j_get C kin4 rfl 0 rfl 5 (by decide) kw_145 rfl (v := .ref (AT 0)) rfl dX4_firstSafe_59 ?_
          refine j_perm (fl [cSt G AT xq, [oX a (AP 0) hi sl su pa (AT 0) (AU 0)], cSt G AP xp, cSt G AU uq]) (bperm [2, 0, 1, 3] 4 rfl (by decide +kernel) rfl) ?_
          refine j_w (fl [[oS (AT 0) (AT 1) (AT 2) xq.1], [aI G (AT 1) 7 xq.2.1], [aD G (AT 2) 4 (fun k => some (AT (3 + 2 * k)))], cDrs G AT xq.2.2.1 xq.2.2.2, [oX a (AP 0) hi sl su pa (AT 0) (AU 0)], cSt G AP xp, cSt G AU uq]) rfl ?_
          refine j_perm (fl [[oS (AT 0) (AT 1) (AT 2) xq.1], [aI G (AT 1) 7 xq.2.1], [aD G (AT 2) 4 (fun k => some (AT (3 + 2 * k)))], [oX a (AP 0) hi sl su pa (AT 0) (AU 0)], cDrs G AT xq.2.2.1 xq.2.2.2, cSt G AP xp, cSt G AU uq]) (bperm [0, 1, 2, 4, 3, 5, 6] 7 rfl (by decide +kernel) rfl) ?_
          refine j_get C kin3 rfl 0 rfl 2 (by decide) kw_83 rfl (v := .int (xq.1 2)) rfl dX4_firstSafe_62 ?_
          refine j_isub C dX4_firstSafe_65 rfl ?_
          refine j_perm (fl [[oS (AT 0) (AT 1) (AT 2) xq.1], [aI G (AT 1) 7 xq.2.1], [aD G (AT 2) 4 (fun k => some (AT (3 + 2 * k)))], cDrs G AT xq.2.2.1 xq.2.2.2, [oX a (AP 0) hi sl su pa (AT 0) (AU 0)], cSt G AP xp, cSt G AU uq]) (bperm [0, 1, 2, 4, 3, 5, 6] 7 rfl (by decide +kernel) rfl) ?_
          refine j_w (fl [cSt G AT xq, [oX a (AP 0) hi sl su pa (AT 0) (AU 0)], cSt G AP xp, cSt G AU uq]) rfl ?_
          refine j_perm (fl [[oX a (AP 0) hi sl su pa (AT 0) (AU 0)], cSt G AT xq, cSt G AP xp, cSt G AU uq]) (bperm [1, 0, 2, 3] 4 rfl (by decide +kernel) rfl) ?_
          refine j_callV_i (r := f_X3_passMinutes_r xq ((t * 60) - (xq.1 2))) (wc' := cSt G AT (f_X3_passMinutes_x xq ((t * 60) - (xq.1 2)))) C (m_X3_passMinutes l G AT xq ((t * 60) - (xq.1 2))) rfl 0 rfl 1 (gV kw_248 kw_249 kw_250 kw_2 kw_251) (by decide +kernel) ⟨(Nat.le_of_ble_eq_true rfl), (Nat.le_of_ble_eq_true rfl)⟩ rfl rfl (Nat.le_of_ble_eq_true rfl) dX4_firstSafe_66 ⟨(Nat.le_of_ble_eq_true rfl), (Nat.le_of_ble_eq_true rfl)⟩ (fl [[oX a (AP 0) hi sl su pa (AT 0) (AU 0)], cSt G AP xp, cSt G AU uq]) (fl [cSt G AT (f_X3_passMinutes_x xq ((t * 60) - (xq.1 2))), [oX a (AP 0) hi sl su pa (AT 0) (AU 0)], cSt G AP xp, cSt G AU uq]) (bperm (bs' := [cSt G AT xq, [oX a (AP 0) hi sl su pa (AT 0) (AU 0)], cSt G AP xp, cSt G AU uq]) [1, 0, 2, 3] 4 rfl (by decide +kernel) rfl) rfl ?_
          refine j_perm (fl [[oX a (AP 0) hi sl su pa (AT 0) (AU 0)], cSt G AT (f_X3_passMinutes_x xq ((t * 60) - (xq.1 2))), cSt G AP xp, cSt G AU uq]) (bperm [1, 0, 2, 3] 4 rfl (by decide +kernel) rfl) ?_
          refine j_pop C dX4_firstSafe_69 rfl ?_
          refine j_aload_n C dX4_firstSafe_70 3 rfl ?_
          refine j_get C kin4 rfl 0 rfl 5 (by decide) kw_145 rfl (v := .ref (AT 0)) rfl dX4_firstSafe_71 ?_
          refine j_perm (fl [cSt G AT (f_X3_passMinutes_x xq ((t * 60) - (xq.1 2))), [oX a (AP 0) hi sl su pa (AT 0) (AU 0)], cSt G AP xp, cSt G AU uq]) (bperm [1, 0, 2, 3] 4 rfl (by decide +kernel) rfl) ?_
          refine j_w (fl [[oS (AT 0) (AT 1) (AT 2) ((f_X3_passMinutes_x xq ((t * 60) - (xq.1 2))).1)], [aI G (AT 1) 7 ((f_X3_passMinutes_x xq ((t * 60) - (xq.1 2))).2.1)], [aD G (AT 2) 4 (fun k => some (AT (3 + 2 * k)))], cDrs G AT (f_X3_passMinutes_x xq ((t * 60) - (xq.1 2))).2.2.1 (f_X3_passMinutes_x xq ((t * 60) - (xq.1 2))).2.2.2, [oX a (AP 0) hi sl su pa (AT 0) (AU 0)], cSt G AP xp, cSt G AU uq]) rfl ?_
          refine j_perm (fl [[oS (AT 0) (AT 1) (AT 2) ((f_X3_passMinutes_x xq ((t * 60) - (xq.1 2))).1)], [aI G (AT 1) 7 ((f_X3_passMinutes_x xq ((t * 60) - (xq.1 2))).2.1)], [aD G (AT 2) 4 (fun k => some (AT (3 + 2 * k)))], [oX a (AP 0) hi sl su pa (AT 0) (AU 0)], cDrs G AT (f_X3_passMinutes_x xq ((t * 60) - (xq.1 2))).2.2.1 (f_X3_passMinutes_x xq ((t * 60) - (xq.1 2))).2.2.2, cSt G AP xp, cSt G AU uq]) (bperm [0, 1, 2, 4, 3, 5, 6] 7 rfl (by decide +kernel) rfl) ?_
          refine j_get C kin3 rfl 0 rfl 1 (by decide) kw_81 rfl (v := .ref (AT 2)) rfl dX4_firstSafe_74 ?_
          refine j_iload_n C dX4_firstSafe_77 4 rfl ?_
          refine j_perm (fl [cDrs G AT (f_X3_passMinutes_x xq ((t * 60) - (xq.1 2))).2.2.1 (f_X3_passMinutes_x xq ((t * 60) - (xq.1 2))).2.2.2, [oS (AT 0) (AT 1) (AT 2) ((f_X3_passMinutes_x xq ((t * 60) - (xq.1 2))).1)], [aI G (AT 1) 7 ((f_X3_passMinutes_x xq ((t * 60) - (xq.1 2))).2.1)], [aD G (AT 2) 4 (fun k => some (AT (3 + 2 * k)))], [oX a (AP 0) hi sl su pa (AT 0) (AU 0)], cSt G AP xp, cSt G AU uq]) (bperm [4, 0, 1, 2, 3, 5, 6] 7 rfl (by decide +kernel) rfl) ?_
          refine j_perm (fl [[oD (AT (3 + 2 * k.toNatClampNeg)) (AT (4 + 2 * k.toNatClampNeg)) ((f_X3_passMinutes_x xq ((t * 60) - (xq.1 2))).2.2.1 k.toNatClampNeg)], [aB G (AT (4 + 2 * k.toNatClampNeg)) ((f_X3_passMinutes_x xq ((t * 60) - (xq.1 2))).2.2.2 k.toNatClampNeg)], cRs G AT (f_X3_passMinutes_x xq ((t * 60) - (xq.1 2))).2.2.1 (f_X3_passMinutes_x xq ((t * 60) - (xq.1 2))).2.2.2 k.toNatClampNeg, [oS (AT 0) (AT 1) (AT 2) ((f_X3_passMinutes_x xq ((t * 60) - (xq.1 2))).1)], [aI G (AT 1) 7 ((f_X3_passMinutes_x xq ((t * 60) - (xq.1 2))).2.1)], [aD G (AT 2) 4 (fun k => some (AT (3 + 2 * k)))], [oX a (AP 0) hi sl su pa (AT 0) (AU 0)], cSt G AP xp, cSt G AU uq]) (open_at (openDrs G AT (f_X3_passMinutes_x xq ((t * 60) - (xq.1 2))).2.2.1 (f_X3_passMinutes_x xq ((t * 60) - (xq.1 2))).2.2.2 k.toNatClampNeg (vin_nat (lt_drive c4)))) ?_
          refine j_perm (fl [[oD (AT (3 + 2 * k.toNatClampNeg)) (AT (4 + 2 * k.toNatClampNeg)) ((f_X3_passMinutes_x xq ((t * 60) - (xq.1 2))).2.2.1 k.toNatClampNeg)], [aB G (AT (4 + 2 * k.toNatClampNeg)) ((f_X3_passMinutes_x xq ((t * 60) - (xq.1 2))).2.2.2 k.toNatClampNeg)], [oS (AT 0) (AT 1) (AT 2) ((f_X3_passMinutes_x xq ((t * 60) - (xq.1 2))).1)], [aI G (AT 1) 7 ((f_X3_passMinutes_x xq ((t * 60) - (xq.1 2))).2.1)], [aD G (AT 2) 4 (fun k => some (AT (3 + 2 * k)))], [oX a (AP 0) hi sl su pa (AT 0) (AU 0)], cRs G AT (f_X3_passMinutes_x xq ((t * 60) - (xq.1 2))).2.2.1 (f_X3_passMinutes_x xq ((t * 60) - (xq.1 2))).2.2.2 k.toNatClampNeg, cSt G AP xp, cSt G AU uq]) (bperm [0, 1, 3, 4, 5, 6, 2, 7, 8] 9 rfl (by decide +kernel) rfl) ?_
          refine j_aaldD C 4 rfl (lt_drive c4) (y := AT (3 + 2 * k.toNatClampNeg)) rfl dX4_firstSafe_78 ?_
          refine j_iload C dX4_firstSafe_79 0 rfl ?_
          refine j_callV_i (r := f_X0_hourState_r ((f_X3_passMinutes_x xq ((t * 60) - (xq.1 2))).2.2.1 k.toNatClampNeg) ((f_X3_passMinutes_x xq ((t * 60) - (xq.1 2))).2.2.2 k.toNatClampNeg) t) (wc' := [oD (AT (3 + 2 * k.toNatClampNeg)) (AT (4 + 2 * k.toNatClampNeg)) ((f_X3_passMinutes_x xq ((t * 60) - (xq.1 2))).2.2.1 k.toNatClampNeg), aB G (AT (4 + 2 * k.toNatClampNeg)) ((f_X3_passMinutes_x xq ((t * 60) - (xq.1 2))).2.2.2 k.toNatClampNeg)]) C (m_X0_hourState l G (AT (3 + 2 * k.toNatClampNeg)) (AT (4 + 2 * k.toNatClampNeg)) ((f_X3_passMinutes_x xq ((t * 60) - (xq.1 2))).2.2.1 k.toNatClampNeg) ((f_X3_passMinutes_x xq ((t * 60) - (xq.1 2))).2.2.2 k.toNatClampNeg) t) rfl 0 rfl 1 (gV kw_316 kw_221 kw_222 kw_4 kw_223) (by decide +kernel) ⟨(Nat.le_of_ble_eq_true rfl), (Nat.le_of_ble_eq_true rfl)⟩ rfl rfl (Nat.le_of_ble_eq_true rfl) dX4_firstSafe_81 ⟨(Nat.le_of_ble_eq_true rfl), (Nat.le_of_ble_eq_true rfl)⟩ (fl [[oS (AT 0) (AT 1) (AT 2) ((f_X3_passMinutes_x xq ((t * 60) - (xq.1 2))).1)], [aI G (AT 1) 7 ((f_X3_passMinutes_x xq ((t * 60) - (xq.1 2))).2.1)], [aD G (AT 2) 4 (fun k => some (AT (3 + 2 * k)))], [oX a (AP 0) hi sl su pa (AT 0) (AU 0)], cRs G AT (f_X3_passMinutes_x xq ((t * 60) - (xq.1 2))).2.2.1 (f_X3_passMinutes_x xq ((t * 60) - (xq.1 2))).2.2.2 k.toNatClampNeg, cSt G AP xp, cSt G AU uq]) (fl [[oD (AT (3 + 2 * k.toNatClampNeg)) (AT (4 + 2 * k.toNatClampNeg)) ((f_X3_passMinutes_x xq ((t * 60) - (xq.1 2))).2.2.1 k.toNatClampNeg)], [aB G (AT (4 + 2 * k.toNatClampNeg)) ((f_X3_passMinutes_x xq ((t * 60) - (xq.1 2))).2.2.2 k.toNatClampNeg)], [oS (AT 0) (AT 1) (AT 2) ((f_X3_passMinutes_x xq ((t * 60) - (xq.1 2))).1)], [aI G (AT 1) 7 ((f_X3_passMinutes_x xq ((t * 60) - (xq.1 2))).2.1)], [aD G (AT 2) 4 (fun k => some (AT (3 + 2 * k)))], [oX a (AP 0) hi sl su pa (AT 0) (AU 0)], cRs G AT (f_X3_passMinutes_x xq ((t * 60) - (xq.1 2))).2.2.1 (f_X3_passMinutes_x xq ((t * 60) - (xq.1 2))).2.2.2 k.toNatClampNeg, cSt G AP xp, cSt G AU uq]) (bperm (bs' := [[oD (AT (3 + 2 * k.toNatClampNeg)) (AT (4 + 2 * k.toNatClampNeg)) ((f_X3_passMinutes_x xq ((t * 60) - (xq.1 2))).2.2.1 k.toNatClampNeg)], [aB G (AT (4 + 2 * k.toNatClampNeg)) ((f_X3_passMinutes_x xq ((t * 60) - (xq.1 2))).2.2.2 k.toNatClampNeg)], [oS (AT 0) (AT 1) (AT 2) ((f_X3_passMinutes_x xq ((t * 60) - (xq.1 2))).1)], [aI G (AT 1) 7 ((f_X3_passMinutes_x xq ((t * 60) - (xq.1 2))).2.1)], [aD G (AT 2) 4 (fun k => some (AT (3 + 2 * k)))], [oX a (AP 0) hi sl su pa (AT 0) (AU 0)], cRs G AT (f_X3_passMinutes_x xq ((t * 60) - (xq.1 2))).2.2.1 (f_X3_passMinutes_x xq ((t * 60) - (xq.1 2))).2.2.2 k.toNatClampNeg, cSt G AP xp, cSt G AU uq]) [0, 1, 2, 3, 4, 5, 6, 7, 8] 9 rfl (by decide +kernel) rfl) rfl ?_
          generalize hzw0 : f_X0_hourState_r ((f_X3_passMinutes_x xq ((t * 60) - (xq.1 2))).2.2.1 k.toNatClampNeg) ((f_X3_passMinutes_x xq ((t * 60) - (xq.1 2))).2.2.2 k.toNatClampNeg) t = w0
          have hw0 : f_X4_firstSafe_rq6 xp xt xu k t xq uq n = w0 := by subst hzw0; rfl
          refine j_if_ne (tgt := 128) C dX4_firstSafe_84 (by decide) (fun c84 => ?_) (fun c84 => ?_)
          · refine j_iinc (v := t + 1) C [(4, .int (t + 1)), (3, .int (imin ((f_X3_hourOfNow_r xp.1) + 24) 99)), (2, .int (f_X3_hourOfNow_r xp.1)), (0, .ref a), (1, .int k)] dX4_firstSafe_128 (k := 0) rfl rfl (by decide) rfl ?_
            refine j_goto (tgt := 43) C dX4_firstSafe_131 (by decide) ?_
            refine j_perm (fl [[oD (AT (3 + 2 * k.toNatClampNeg)) (AT (4 + 2 * k.toNatClampNeg)) ((f_X3_passMinutes_x xq ((t * 60) - (xq.1 2))).2.2.1 k.toNatClampNeg)], [aB G (AT (4 + 2 * k.toNatClampNeg)) ((f_X3_passMinutes_x xq ((t * 60) - (xq.1 2))).2.2.2 k.toNatClampNeg)], cRs G AT (f_X3_passMinutes_x xq ((t * 60) - (xq.1 2))).2.2.1 (f_X3_passMinutes_x xq ((t * 60) - (xq.1 2))).2.2.2 k.toNatClampNeg, [oS (AT 0) (AT 1) (AT 2) ((f_X3_passMinutes_x xq ((t * 60) - (xq.1 2))).1)], [aI G (AT 1) 7 ((f_X3_passMinutes_x xq ((t * 60) - (xq.1 2))).2.1)], [aD G (AT 2) 4 (fun k => some (AT (3 + 2 * k)))], [oX a (AP 0) hi sl su pa (AT 0) (AU 0)], cSt G AP xp, cSt G AU uq]) (bperm [0, 1, 6, 2, 3, 4, 5, 7, 8] 9 rfl (by decide +kernel) rfl) ?_
            refine j_perm (fl [cDrs G AT (f_X3_passMinutes_x xq ((t * 60) - (xq.1 2))).2.2.1 (f_X3_passMinutes_x xq ((t * 60) - (xq.1 2))).2.2.2, [oS (AT 0) (AT 1) (AT 2) ((f_X3_passMinutes_x xq ((t * 60) - (xq.1 2))).1)], [aI G (AT 1) 7 ((f_X3_passMinutes_x xq ((t * 60) - (xq.1 2))).2.1)], [aD G (AT 2) 4 (fun k => some (AT (3 + 2 * k)))], [oX a (AP 0) hi sl su pa (AT 0) (AU 0)], cSt G AP xp, cSt G AU uq]) (shut_at (bs := [[oD (AT (3 + 2 * k.toNatClampNeg)) (AT (4 + 2 * k.toNatClampNeg)) ((f_X3_passMinutes_x xq ((t * 60) - (xq.1 2))).2.2.1 k.toNatClampNeg)], [aB G (AT (4 + 2 * k.toNatClampNeg)) ((f_X3_passMinutes_x xq ((t * 60) - (xq.1 2))).2.2.2 k.toNatClampNeg)], cRs G AT (f_X3_passMinutes_x xq ((t * 60) - (xq.1 2))).2.2.1 (f_X3_passMinutes_x xq ((t * 60) - (xq.1 2))).2.2.2 k.toNatClampNeg]) (openDrs G AT (f_X3_passMinutes_x xq ((t * 60) - (xq.1 2))).2.2.1 (f_X3_passMinutes_x xq ((t * 60) - (xq.1 2))).2.2.2 k.toNatClampNeg (vin_nat (lt_drive c4))).symm) ?_
            refine j_perm (fl [[oS (AT 0) (AT 1) (AT 2) ((f_X3_passMinutes_x xq ((t * 60) - (xq.1 2))).1)], [aI G (AT 1) 7 ((f_X3_passMinutes_x xq ((t * 60) - (xq.1 2))).2.1)], [aD G (AT 2) 4 (fun k => some (AT (3 + 2 * k)))], cDrs G AT (f_X3_passMinutes_x xq ((t * 60) - (xq.1 2))).2.2.1 (f_X3_passMinutes_x xq ((t * 60) - (xq.1 2))).2.2.2, [oX a (AP 0) hi sl su pa (AT 0) (AU 0)], cSt G AP xp, cSt G AU uq]) (bperm [1, 2, 3, 0, 4, 5, 6] 7 rfl (by decide +kernel) rfl) ?_
            refine j_w (fl [cSt G AT (f_X3_passMinutes_x xq ((t * 60) - (xq.1 2))), [oX a (AP 0) hi sl su pa (AT 0) (AU 0)], cSt G AP xp, cSt G AU uq]) rfl ?_
            refine j_perm (fl [[oX a (AP 0) hi sl su pa (AT 0) (AU 0)], cSt G AT (f_X3_passMinutes_x xq ((t * 60) - (xq.1 2))), cSt G AP xp, cSt G AU uq]) (bperm [1, 0, 2, 3] 4 rfl (by decide +kernel) rfl) ?_
            refine j_perm (fl [[oX a (AP 0) hi sl su pa (AT 0) (AU 0)], cSt G AP xp, cSt G AT (f_X3_passMinutes_x xq ((t * 60) - (xq.1 2))), cSt G AU uq]) (bperm [0, 2, 1, 3] 4 rfl (by decide +kernel) rfl) ?_
            subst hw0; exact j_eq rfl rfl rfl (ih (t + 1) (f_X3_passMinutes_x xq ((t * 60) - (xq.1 2))) uq (safe_step c46 hm h99) h99 (((if_neg c46).trans (if_neg c84)).symm.trans hx))
          · refine j_aload_n C dX4_firstSafe_87 3 rfl ?_
            refine j_get C kin4 rfl 5 rfl 6 (by decide) kw_146 rfl (v := .ref (AU 0)) rfl dX4_firstSafe_88 ?_
            refine j_aload_n C dX4_firstSafe_91 3 rfl ?_
            refine j_get C kin4 rfl 5 rfl 5 (by decide) kw_145 rfl (v := .ref (AT 0)) rfl dX4_firstSafe_92 ?_
            refine j_perm (fl [[oD (AT (3 + 2 * k.toNatClampNeg)) (AT (4 + 2 * k.toNatClampNeg)) ((f_X3_passMinutes_x xq ((t * 60) - (xq.1 2))).2.2.1 k.toNatClampNeg)], [aB G (AT (4 + 2 * k.toNatClampNeg)) ((f_X3_passMinutes_x xq ((t * 60) - (xq.1 2))).2.2.2 k.toNatClampNeg)], cRs G AT (f_X3_passMinutes_x xq ((t * 60) - (xq.1 2))).2.2.1 (f_X3_passMinutes_x xq ((t * 60) - (xq.1 2))).2.2.2 k.toNatClampNeg, [oS (AT 0) (AT 1) (AT 2) ((f_X3_passMinutes_x xq ((t * 60) - (xq.1 2))).1)], [aI G (AT 1) 7 ((f_X3_passMinutes_x xq ((t * 60) - (xq.1 2))).2.1)], [aD G (AT 2) 4 (fun k => some (AT (3 + 2 * k)))], [oX a (AP 0) hi sl su pa (AT 0) (AU 0)], cSt G AP xp, cSt G AU uq]) (bperm [0, 1, 6, 2, 3, 4, 5, 7, 8] 9 rfl (by decide +kernel) rfl) ?_
            refine j_perm (fl [cDrs G AT (f_X3_passMinutes_x xq ((t * 60) - (xq.1 2))).2.2.1 (f_X3_passMinutes_x xq ((t * 60) - (xq.1 2))).2.2.2, [oS (AT 0) (AT 1) (AT 2) ((f_X3_passMinutes_x xq ((t * 60) - (xq.1 2))).1)], [aI G (AT 1) 7 ((f_X3_passMinutes_x xq ((t * 60) - (xq.1 2))).2.1)], [aD G (AT 2) 4 (fun k => some (AT (3 + 2 * k)))], [oX a (AP 0) hi sl su pa (AT 0) (AU 0)], cSt G AP xp, cSt G AU uq]) (shut_at (bs := [[oD (AT (3 + 2 * k.toNatClampNeg)) (AT (4 + 2 * k.toNatClampNeg)) ((f_X3_passMinutes_x xq ((t * 60) - (xq.1 2))).2.2.1 k.toNatClampNeg)], [aB G (AT (4 + 2 * k.toNatClampNeg)) ((f_X3_passMinutes_x xq ((t * 60) - (xq.1 2))).2.2.2 k.toNatClampNeg)], cRs G AT (f_X3_passMinutes_x xq ((t * 60) - (xq.1 2))).2.2.1 (f_X3_passMinutes_x xq ((t * 60) - (xq.1 2))).2.2.2 k.toNatClampNeg]) (openDrs G AT (f_X3_passMinutes_x xq ((t * 60) - (xq.1 2))).2.2.1 (f_X3_passMinutes_x xq ((t * 60) - (xq.1 2))).2.2.2 k.toNatClampNeg (vin_nat (lt_drive c4))).symm) ?_
            refine j_perm (fl [[oS (AT 0) (AT 1) (AT 2) ((f_X3_passMinutes_x xq ((t * 60) - (xq.1 2))).1)], [aI G (AT 1) 7 ((f_X3_passMinutes_x xq ((t * 60) - (xq.1 2))).2.1)], [aD G (AT 2) 4 (fun k => some (AT (3 + 2 * k)))], cDrs G AT (f_X3_passMinutes_x xq ((t * 60) - (xq.1 2))).2.2.1 (f_X3_passMinutes_x xq ((t * 60) - (xq.1 2))).2.2.2, [oX a (AP 0) hi sl su pa (AT 0) (AU 0)], cSt G AP xp, cSt G AU uq]) (bperm [1, 2, 3, 0, 4, 5, 6] 7 rfl (by decide +kernel) rfl) ?_
            refine j_w (fl [cSt G AT (f_X3_passMinutes_x xq ((t * 60) - (xq.1 2))), [oX a (AP 0) hi sl su pa (AT 0) (AU 0)], cSt G AP xp, cSt G AU uq]) rfl ?_
            refine j_perm (fl [[oX a (AP 0) hi sl su pa (AT 0) (AU 0)], cSt G AT (f_X3_passMinutes_x xq ((t * 60) - (xq.1 2))), cSt G AP xp, cSt G AU uq]) (bperm [1, 0, 2, 3] 4 rfl (by decide +kernel) rfl) ?_
            refine j_callV_v (wc' := fl [cSt G AU (f_X3_passMinutes_x xq ((t * 60) - (xq.1 2))), cSt G AT (f_X3_passMinutes_x xq ((t * 60) - (xq.1 2)))]) C (m_X3_copyFrom l G AU AT uq (f_X3_passMinutes_x xq ((t * 60) - (xq.1 2)))) rfl 0 rfl 1 (gV kw_358 kw_163 kw_164 kw_2 kw_165) (by decide +kernel) ⟨(Nat.le_of_ble_eq_true rfl), (Nat.le_of_ble_eq_true rfl)⟩ rfl rfl (Nat.le_of_ble_eq_true rfl) dX4_firstSafe_95 ⟨(Nat.le_of_ble_eq_true rfl), (Nat.le_of_ble_eq_true rfl)⟩ (fl [[oX a (AP 0) hi sl su pa (AT 0) (AU 0)], cSt G AP xp]) (fl [cSt G AU (f_X3_passMinutes_x xq ((t * 60) - (xq.1 2))), cSt G AT (f_X3_passMinutes_x xq ((t * 60) - (xq.1 2))), [oX a (AP 0) hi sl su pa (AT 0) (AU 0)], cSt G AP xp]) (bperm2 (bC := [cSt G AU uq, cSt G AT (f_X3_passMinutes_x xq ((t * 60) - (xq.1 2)))]) (bR := [[oX a (AP 0) hi sl su pa (AT 0) (AU 0)], cSt G AP xp]) [3, 1, 0, 2] 4 rfl (by decide +kernel) rfl) (fl_app _ _) ?_
            refine j_perm (fl [[oX a (AP 0) hi sl su pa (AT 0) (AU 0)], cSt G AU (f_X3_passMinutes_x xq ((t * 60) - (xq.1 2))), cSt G AT (f_X3_passMinutes_x xq ((t * 60) - (xq.1 2))), cSt G AP xp]) (bperm [2, 0, 1, 3] 4 rfl (by decide +kernel) rfl) ?_
            refine j_aload_n C dX4_firstSafe_98 3 rfl ?_
            refine j_get C kin4 rfl 0 rfl 6 (by decide) kw_146 rfl (v := .ref (AU 0)) rfl dX4_firstSafe_99 ?_
            refine j_perm (fl [cSt G AU (f_X3_passMinutes_x xq ((t * 60) - (xq.1 2))), [oX a (AP 0) hi sl su pa (AT 0) (AU 0)], cSt G AT (f_X3_passMinutes_x xq ((t * 60) - (xq.1 2))), cSt G AP xp]) (bperm [1, 0, 2, 3] 4 rfl (by decide +kernel) rfl) ?_
            refine j_w (fl [[oS (AU 0) (AU 1) (AU 2) ((f_X3_passMinutes_x xq ((t * 60) - (xq.1 2))).1)], [aI G (AU 1) 7 ((f_X3_passMinutes_x xq ((t * 60) - (xq.1 2))).2.1)], [aD G (AU 2) 4 (fun k => some (AU (3 + 2 * k)))], cDrs G AU (f_X3_passMinutes_x xq ((t * 60) - (xq.1 2))).2.2.1 (f_X3_passMinutes_x xq ((t * 60) - (xq.1 2))).2.2.2, [oX a (AP 0) hi sl su pa (AT 0) (AU 0)], cSt G AT (f_X3_passMinutes_x xq ((t * 60) - (xq.1 2))), cSt G AP xp]) rfl ?_
            refine j_perm (fl [[oS (AU 0) (AU 1) (AU 2) ((f_X3_passMinutes_x xq ((t * 60) - (xq.1 2))).1)], [aI G (AU 1) 7 ((f_X3_passMinutes_x xq ((t * 60) - (xq.1 2))).2.1)], [aD G (AU 2) 4 (fun k => some (AU (3 + 2 * k)))], [oX a (AP 0) hi sl su pa (AT 0) (AU 0)], cDrs G AU (f_X3_passMinutes_x xq ((t * 60) - (xq.1 2))).2.2.1 (f_X3_passMinutes_x xq ((t * 60) - (xq.1 2))).2.2.2, cSt G AT (f_X3_passMinutes_x xq ((t * 60) - (xq.1 2))), cSt G AP xp]) (bperm [0, 1, 2, 4, 3, 5, 6] 7 rfl (by decide +kernel) rfl) ?_
            refine j_get C kin3 rfl 0 rfl 1 (by decide) kw_81 rfl (v := .ref (AU 2)) rfl dX4_firstSafe_102 ?_
            refine j_iload_n C dX4_firstSafe_105 4 rfl ?_
            refine j_perm (fl [cDrs G AU (f_X3_passMinutes_x xq ((t * 60) - (xq.1 2))).2.2.1 (f_X3_passMinutes_x xq ((t * 60) - (xq.1 2))).2.2.2, [oS (AU 0) (AU 1) (AU 2) ((f_X3_passMinutes_x xq ((t * 60) - (xq.1 2))).1)], [aI G (AU 1) 7 ((f_X3_passMinutes_x xq ((t * 60) - (xq.1 2))).2.1)], [aD G (AU 2) 4 (fun k => some (AU (3 + 2 * k)))], [oX a (AP 0) hi sl su pa (AT 0) (AU 0)], cSt G AT (f_X3_passMinutes_x xq ((t * 60) - (xq.1 2))), cSt G AP xp]) (bperm [4, 0, 1, 2, 3, 5, 6] 7 rfl (by decide +kernel) rfl) ?_
            refine j_perm (fl [[oD (AU (3 + 2 * k.toNatClampNeg)) (AU (4 + 2 * k.toNatClampNeg)) ((f_X3_passMinutes_x xq ((t * 60) - (xq.1 2))).2.2.1 k.toNatClampNeg)], [aB G (AU (4 + 2 * k.toNatClampNeg)) ((f_X3_passMinutes_x xq ((t * 60) - (xq.1 2))).2.2.2 k.toNatClampNeg)], cRs G AU (f_X3_passMinutes_x xq ((t * 60) - (xq.1 2))).2.2.1 (f_X3_passMinutes_x xq ((t * 60) - (xq.1 2))).2.2.2 k.toNatClampNeg, [oS (AU 0) (AU 1) (AU 2) ((f_X3_passMinutes_x xq ((t * 60) - (xq.1 2))).1)], [aI G (AU 1) 7 ((f_X3_passMinutes_x xq ((t * 60) - (xq.1 2))).2.1)], [aD G (AU 2) 4 (fun k => some (AU (3 + 2 * k)))], [oX a (AP 0) hi sl su pa (AT 0) (AU 0)], cSt G AT (f_X3_passMinutes_x xq ((t * 60) - (xq.1 2))), cSt G AP xp]) (open_at (openDrs G AU (f_X3_passMinutes_x xq ((t * 60) - (xq.1 2))).2.2.1 (f_X3_passMinutes_x xq ((t * 60) - (xq.1 2))).2.2.2 k.toNatClampNeg (vin_nat (lt_drive c4)))) ?_
            refine j_perm (fl [[oD (AU (3 + 2 * k.toNatClampNeg)) (AU (4 + 2 * k.toNatClampNeg)) ((f_X3_passMinutes_x xq ((t * 60) - (xq.1 2))).2.2.1 k.toNatClampNeg)], [aB G (AU (4 + 2 * k.toNatClampNeg)) ((f_X3_passMinutes_x xq ((t * 60) - (xq.1 2))).2.2.2 k.toNatClampNeg)], [oS (AU 0) (AU 1) (AU 2) ((f_X3_passMinutes_x xq ((t * 60) - (xq.1 2))).1)], [aI G (AU 1) 7 ((f_X3_passMinutes_x xq ((t * 60) - (xq.1 2))).2.1)], [aD G (AU 2) 4 (fun k => some (AU (3 + 2 * k)))], [oX a (AP 0) hi sl su pa (AT 0) (AU 0)], cRs G AU (f_X3_passMinutes_x xq ((t * 60) - (xq.1 2))).2.2.1 (f_X3_passMinutes_x xq ((t * 60) - (xq.1 2))).2.2.2 k.toNatClampNeg, cSt G AT (f_X3_passMinutes_x xq ((t * 60) - (xq.1 2))), cSt G AP xp]) (bperm [0, 1, 3, 4, 5, 6, 2, 7, 8] 9 rfl (by decide +kernel) rfl) ?_
            refine j_aaldD C 4 rfl (lt_drive c4) (y := AU (3 + 2 * k.toNatClampNeg)) rfl dX4_firstSafe_106 ?_
            refine j_iload C dX4_firstSafe_107 0 rfl ?_
            refine j_iconst (v := 1) C dX4_firstSafe_109 (by decide) ?_
            refine j_callV_v (wc' := [oD (AU (3 + 2 * k.toNatClampNeg)) (AU (4 + 2 * k.toNatClampNeg)) ((f_X3_passMinutes_x xq ((t * 60) - (xq.1 2))).2.2.1 k.toNatClampNeg), aB G (AU (4 + 2 * k.toNatClampNeg)) (f_X0_markHour_f ((f_X3_passMinutes_x xq ((t * 60) - (xq.1 2))).2.2.1 k.toNatClampNeg) ((f_X3_passMinutes_x xq ((t * 60) - (xq.1 2))).2.2.2 k.toNatClampNeg) t 1)]) C (m_X0_markHour l G (AU (3 + 2 * k.toNatClampNeg)) (AU (4 + 2 * k.toNatClampNeg)) ((f_X3_passMinutes_x xq ((t * 60) - (xq.1 2))).2.2.1 k.toNatClampNeg) ((f_X3_passMinutes_x xq ((t * 60) - (xq.1 2))).2.2.2 k.toNatClampNeg) t 1) rfl 0 rfl 2 (gV kw_376 kw_225 kw_226 kw_4 kw_227) (by decide +kernel) ⟨(Nat.le_of_ble_eq_true rfl), (Nat.le_of_ble_eq_true rfl)⟩ rfl rfl (Nat.le_of_ble_eq_true rfl) dX4_firstSafe_110 ⟨(Nat.le_of_ble_eq_true rfl), (Nat.le_of_ble_eq_true rfl)⟩ (fl [[oS (AU 0) (AU 1) (AU 2) ((f_X3_passMinutes_x xq ((t * 60) - (xq.1 2))).1)], [aI G (AU 1) 7 ((f_X3_passMinutes_x xq ((t * 60) - (xq.1 2))).2.1)], [aD G (AU 2) 4 (fun k => some (AU (3 + 2 * k)))], [oX a (AP 0) hi sl su pa (AT 0) (AU 0)], cRs G AU (f_X3_passMinutes_x xq ((t * 60) - (xq.1 2))).2.2.1 (f_X3_passMinutes_x xq ((t * 60) - (xq.1 2))).2.2.2 k.toNatClampNeg, cSt G AT (f_X3_passMinutes_x xq ((t * 60) - (xq.1 2))), cSt G AP xp]) (fl [[oD (AU (3 + 2 * k.toNatClampNeg)) (AU (4 + 2 * k.toNatClampNeg)) ((f_X3_passMinutes_x xq ((t * 60) - (xq.1 2))).2.2.1 k.toNatClampNeg)], [aB G (AU (4 + 2 * k.toNatClampNeg)) (f_X0_markHour_f ((f_X3_passMinutes_x xq ((t * 60) - (xq.1 2))).2.2.1 k.toNatClampNeg) ((f_X3_passMinutes_x xq ((t * 60) - (xq.1 2))).2.2.2 k.toNatClampNeg) t 1)], [oS (AU 0) (AU 1) (AU 2) ((f_X3_passMinutes_x xq ((t * 60) - (xq.1 2))).1)], [aI G (AU 1) 7 ((f_X3_passMinutes_x xq ((t * 60) - (xq.1 2))).2.1)], [aD G (AU 2) 4 (fun k => some (AU (3 + 2 * k)))], [oX a (AP 0) hi sl su pa (AT 0) (AU 0)], cRs G AU (f_X3_passMinutes_x xq ((t * 60) - (xq.1 2))).2.2.1 (f_X3_passMinutes_x xq ((t * 60) - (xq.1 2))).2.2.2 k.toNatClampNeg, cSt G AT (f_X3_passMinutes_x xq ((t * 60) - (xq.1 2))), cSt G AP xp]) (bperm (bs' := [[oD (AU (3 + 2 * k.toNatClampNeg)) (AU (4 + 2 * k.toNatClampNeg)) ((f_X3_passMinutes_x xq ((t * 60) - (xq.1 2))).2.2.1 k.toNatClampNeg)], [aB G (AU (4 + 2 * k.toNatClampNeg)) ((f_X3_passMinutes_x xq ((t * 60) - (xq.1 2))).2.2.2 k.toNatClampNeg)], [oS (AU 0) (AU 1) (AU 2) ((f_X3_passMinutes_x xq ((t * 60) - (xq.1 2))).1)], [aI G (AU 1) 7 ((f_X3_passMinutes_x xq ((t * 60) - (xq.1 2))).2.1)], [aD G (AU 2) 4 (fun k => some (AU (3 + 2 * k)))], [oX a (AP 0) hi sl su pa (AT 0) (AU 0)], cRs G AU (f_X3_passMinutes_x xq ((t * 60) - (xq.1 2))).2.2.1 (f_X3_passMinutes_x xq ((t * 60) - (xq.1 2))).2.2.2 k.toNatClampNeg, cSt G AT (f_X3_passMinutes_x xq ((t * 60) - (xq.1 2))), cSt G AP xp]) [0, 1, 2, 3, 4, 5, 6, 7, 8] 9 rfl (by decide +kernel) rfl) rfl ?_
            generalize hzw1 : f_X0_markHour_f ((f_X3_passMinutes_x xq ((t * 60) - (xq.1 2))).2.2.1 k.toNatClampNeg) ((f_X3_passMinutes_x xq ((t * 60) - (xq.1 2))).2.2.2 k.toNatClampNeg) t 1 = w1
            have hw1 : f_X4_firstSafe_fq8 xp xt xu k t xq uq n = w1 := by subst hw0; subst hzw1; rfl
            refine j_aload_n C dX4_firstSafe_113 3 rfl ?_
            refine j_get C kin4 rfl 5 rfl 6 (by decide) kw_146 rfl (v := .ref (AU 0)) rfl dX4_firstSafe_114 ?_
            refine j_bipush (v := 60) C dX4_firstSafe_117 (by decide) ?_
            refine j_perm (fl [[oD (AU (3 + 2 * k.toNatClampNeg)) (AU (4 + 2 * k.toNatClampNeg)) ((f_X3_passMinutes_x xq ((t * 60) - (xq.1 2))).2.2.1 k.toNatClampNeg)], [aB G (AU (4 + 2 * k.toNatClampNeg)) w1], cRs G AU (f_X3_passMinutes_x xq ((t * 60) - (xq.1 2))).2.2.1 (f_X3_passMinutes_x xq ((t * 60) - (xq.1 2))).2.2.2 k.toNatClampNeg, [oS (AU 0) (AU 1) (AU 2) ((f_X3_passMinutes_x xq ((t * 60) - (xq.1 2))).1)], [aI G (AU 1) 7 ((f_X3_passMinutes_x xq ((t * 60) - (xq.1 2))).2.1)], [aD G (AU 2) 4 (fun k => some (AU (3 + 2 * k)))], [oX a (AP 0) hi sl su pa (AT 0) (AU 0)], cSt G AT (f_X3_passMinutes_x xq ((t * 60) - (xq.1 2))), cSt G AP xp]) (bperm [0, 1, 6, 2, 3, 4, 5, 7, 8] 9 rfl (by decide +kernel) rfl) ?_
            refine j_perm (fl [cDrs G AU (updF (f_X3_passMinutes_x xq ((t * 60) - (xq.1 2))).2.2.1 k.toNatClampNeg ((f_X3_passMinutes_x xq ((t * 60) - (xq.1 2))).2.2.1 k.toNatClampNeg)) (updF (f_X3_passMinutes_x xq ((t * 60) - (xq.1 2))).2.2.2 k.toNatClampNeg w1), [oS (AU 0) (AU 1) (AU 2) ((f_X3_passMinutes_x xq ((t * 60) - (xq.1 2))).1)], [aI G (AU 1) 7 ((f_X3_passMinutes_x xq ((t * 60) - (xq.1 2))).2.1)], [aD G (AU 2) 4 (fun k => some (AU (3 + 2 * k)))], [oX a (AP 0) hi sl su pa (AT 0) (AU 0)], cSt G AT (f_X3_passMinutes_x xq ((t * 60) - (xq.1 2))), cSt G AP xp]) (shut_at (bs := [[oD (AU (3 + 2 * k.toNatClampNeg)) (AU (4 + 2 * k.toNatClampNeg)) ((f_X3_passMinutes_x xq ((t * 60) - (xq.1 2))).2.2.1 k.toNatClampNeg)], [aB G (AU (4 + 2 * k.toNatClampNeg)) w1], cRs G AU (f_X3_passMinutes_x xq ((t * 60) - (xq.1 2))).2.2.1 (f_X3_passMinutes_x xq ((t * 60) - (xq.1 2))).2.2.2 k.toNatClampNeg]) (closeDrs G AU (f_X3_passMinutes_x xq ((t * 60) - (xq.1 2))).2.2.1 (f_X3_passMinutes_x xq ((t * 60) - (xq.1 2))).2.2.2 k.toNatClampNeg (vin_nat (lt_drive c4)) _ _)) ?_
            refine j_perm (fl [[oS (AU 0) (AU 1) (AU 2) ((f_X3_passMinutes_x xq ((t * 60) - (xq.1 2))).1)], [aI G (AU 1) 7 ((f_X3_passMinutes_x xq ((t * 60) - (xq.1 2))).2.1)], [aD G (AU 2) 4 (fun k => some (AU (3 + 2 * k)))], cDrs G AU (updF (f_X3_passMinutes_x xq ((t * 60) - (xq.1 2))).2.2.1 k.toNatClampNeg ((f_X3_passMinutes_x xq ((t * 60) - (xq.1 2))).2.2.1 k.toNatClampNeg)) (updF (f_X3_passMinutes_x xq ((t * 60) - (xq.1 2))).2.2.2 k.toNatClampNeg w1), [oX a (AP 0) hi sl su pa (AT 0) (AU 0)], cSt G AT (f_X3_passMinutes_x xq ((t * 60) - (xq.1 2))), cSt G AP xp]) (bperm [1, 2, 3, 0, 4, 5, 6] 7 rfl (by decide +kernel) rfl) ?_
            refine j_w (fl [cSt G AU ((f_X3_passMinutes_x xq ((t * 60) - (xq.1 2))).1, (f_X3_passMinutes_x xq ((t * 60) - (xq.1 2))).2.1, (updF (f_X3_passMinutes_x xq ((t * 60) - (xq.1 2))).2.2.1 k.toNatClampNeg ((f_X3_passMinutes_x xq ((t * 60) - (xq.1 2))).2.2.1 k.toNatClampNeg)), (updF (f_X3_passMinutes_x xq ((t * 60) - (xq.1 2))).2.2.2 k.toNatClampNeg w1)), [oX a (AP 0) hi sl su pa (AT 0) (AU 0)], cSt G AT (f_X3_passMinutes_x xq ((t * 60) - (xq.1 2))), cSt G AP xp]) rfl ?_
            refine j_perm (fl [[oX a (AP 0) hi sl su pa (AT 0) (AU 0)], cSt G AU ((f_X3_passMinutes_x xq ((t * 60) - (xq.1 2))).1, (f_X3_passMinutes_x xq ((t * 60) - (xq.1 2))).2.1, (updF (f_X3_passMinutes_x xq ((t * 60) - (xq.1 2))).2.2.1 k.toNatClampNeg ((f_X3_passMinutes_x xq ((t * 60) - (xq.1 2))).2.2.1 k.toNatClampNeg)), (updF (f_X3_passMinutes_x xq ((t * 60) - (xq.1 2))).2.2.2 k.toNatClampNeg w1)), cSt G AT (f_X3_passMinutes_x xq ((t * 60) - (xq.1 2))), cSt G AP xp]) (bperm [1, 0, 2, 3] 4 rfl (by decide +kernel) rfl) ?_
            refine j_callV_i (r := (noLoud ((f_X3_passMinutes_x xq ((t * 60) - (xq.1 2))).1, (f_X3_passMinutes_x xq ((t * 60) - (xq.1 2))).2.1, (updF (f_X3_passMinutes_x xq ((t * 60) - (xq.1 2))).2.2.1 k.toNatClampNeg ((f_X3_passMinutes_x xq ((t * 60) - (xq.1 2))).2.2.1 k.toNatClampNeg)), (updF (f_X3_passMinutes_x xq ((t * 60) - (xq.1 2))).2.2.2 k.toNatClampNeg w1)) (60 : Int32).toNatClampNeg).1) (wc' := cSt G AU ((noLoud ((f_X3_passMinutes_x xq ((t * 60) - (xq.1 2))).1, (f_X3_passMinutes_x xq ((t * 60) - (xq.1 2))).2.1, (updF (f_X3_passMinutes_x xq ((t * 60) - (xq.1 2))).2.2.1 k.toNatClampNeg ((f_X3_passMinutes_x xq ((t * 60) - (xq.1 2))).2.2.1 k.toNatClampNeg)), (updF (f_X3_passMinutes_x xq ((t * 60) - (xq.1 2))).2.2.2 k.toNatClampNeg w1)) (60 : Int32).toNatClampNeg).2)) C (m_X3_passesWithoutOverrun l G AU ((f_X3_passMinutes_x xq ((t * 60) - (xq.1 2))).1, (f_X3_passMinutes_x xq ((t * 60) - (xq.1 2))).2.1, (updF (f_X3_passMinutes_x xq ((t * 60) - (xq.1 2))).2.2.1 k.toNatClampNeg ((f_X3_passMinutes_x xq ((t * 60) - (xq.1 2))).2.2.1 k.toNatClampNeg)), (updF (f_X3_passMinutes_x xq ((t * 60) - (xq.1 2))).2.2.2 k.toNatClampNeg w1)) 60) rfl 0 rfl 1 (gV kw_377 kw_378 kw_379 kw_2 kw_380) (by decide +kernel) ⟨(Nat.le_of_ble_eq_true rfl), (Nat.le_of_ble_eq_true rfl)⟩ rfl rfl (Nat.le_of_ble_eq_true rfl) dX4_firstSafe_119 ⟨(Nat.le_of_ble_eq_true rfl), (Nat.le_of_ble_eq_true rfl)⟩ (fl [[oX a (AP 0) hi sl su pa (AT 0) (AU 0)], cSt G AT (f_X3_passMinutes_x xq ((t * 60) - (xq.1 2))), cSt G AP xp]) (fl [cSt G AU ((noLoud ((f_X3_passMinutes_x xq ((t * 60) - (xq.1 2))).1, (f_X3_passMinutes_x xq ((t * 60) - (xq.1 2))).2.1, (updF (f_X3_passMinutes_x xq ((t * 60) - (xq.1 2))).2.2.1 k.toNatClampNeg ((f_X3_passMinutes_x xq ((t * 60) - (xq.1 2))).2.2.1 k.toNatClampNeg)), (updF (f_X3_passMinutes_x xq ((t * 60) - (xq.1 2))).2.2.2 k.toNatClampNeg w1)) (60 : Int32).toNatClampNeg).2), [oX a (AP 0) hi sl su pa (AT 0) (AU 0)], cSt G AT (f_X3_passMinutes_x xq ((t * 60) - (xq.1 2))), cSt G AP xp]) (bperm (bs' := [cSt G AU ((f_X3_passMinutes_x xq ((t * 60) - (xq.1 2))).1, (f_X3_passMinutes_x xq ((t * 60) - (xq.1 2))).2.1, (updF (f_X3_passMinutes_x xq ((t * 60) - (xq.1 2))).2.2.1 k.toNatClampNeg ((f_X3_passMinutes_x xq ((t * 60) - (xq.1 2))).2.2.1 k.toNatClampNeg)), (updF (f_X3_passMinutes_x xq ((t * 60) - (xq.1 2))).2.2.2 k.toNatClampNeg w1)), [oX a (AP 0) hi sl su pa (AT 0) (AU 0)], cSt G AT (f_X3_passMinutes_x xq ((t * 60) - (xq.1 2))), cSt G AP xp]) [1, 0, 2, 3] 4 rfl (by decide +kernel) rfl) rfl ?_
            generalize hzw2 : (noLoud ((f_X3_passMinutes_x xq ((t * 60) - (xq.1 2))).1, (f_X3_passMinutes_x xq ((t * 60) - (xq.1 2))).2.1, (updF (f_X3_passMinutes_x xq ((t * 60) - (xq.1 2))).2.2.1 k.toNatClampNeg ((f_X3_passMinutes_x xq ((t * 60) - (xq.1 2))).2.2.1 k.toNatClampNeg)), (updF (f_X3_passMinutes_x xq ((t * 60) - (xq.1 2))).2.2.2 k.toNatClampNeg w1)) (60 : Int32).toNatClampNeg).1 = w2
            have hw2 : f_X4_firstSafe_rq9 xp xt xu k t xq uq n = w2 := by subst hw0 hw1; subst hzw2; rfl
            generalize hzw3 : (noLoud ((f_X3_passMinutes_x xq ((t * 60) - (xq.1 2))).1, (f_X3_passMinutes_x xq ((t * 60) - (xq.1 2))).2.1, (updF (f_X3_passMinutes_x xq ((t * 60) - (xq.1 2))).2.2.1 k.toNatClampNeg ((f_X3_passMinutes_x xq ((t * 60) - (xq.1 2))).2.2.1 k.toNatClampNeg)), (updF (f_X3_passMinutes_x xq ((t * 60) - (xq.1 2))).2.2.2 k.toNatClampNeg w1)) (60 : Int32).toNatClampNeg).2 = w3
            have hw3 : f_X4_firstSafe_xq9 xp xt xu k t xq uq n = w3 := by subst hw0 hw1 hw2; subst hzw3; rfl
            refine j_if_eq (tgt := 128) C dX4_firstSafe_122 (by decide) (fun c122 => ?_) (fun c122 => ?_)
            · refine j_perm (fl [[oX a (AP 0) hi sl su pa (AT 0) (AU 0)], cSt G AU w3, cSt G AT (f_X3_passMinutes_x xq ((t * 60) - (xq.1 2))), cSt G AP xp]) (bperm [1, 0, 2, 3] 4 rfl (by decide +kernel) rfl) ?_
              refine j_iinc (v := t + 1) C [(4, .int (t + 1)), (3, .int (imin ((f_X3_hourOfNow_r xp.1) + 24) 99)), (2, .int (f_X3_hourOfNow_r xp.1)), (0, .ref a), (1, .int k)] dX4_firstSafe_128 (k := 0) rfl rfl (by decide) rfl ?_
              refine j_goto (tgt := 43) C dX4_firstSafe_131 (by decide) ?_
              refine j_perm (fl [[oX a (AP 0) hi sl su pa (AT 0) (AU 0)], cSt G AP xp, cSt G AT (f_X3_passMinutes_x xq ((t * 60) - (xq.1 2))), cSt G AU w3]) (bperm [0, 3, 2, 1] 4 rfl (by decide +kernel) rfl) ?_
              subst hw0 hw1 hw2 hw3; exact j_eq rfl rfl rfl (ih (t + 1) (f_X3_passMinutes_x xq ((t * 60) - (xq.1 2))) (f_X4_firstSafe_xq9 xp xt xu k t xq uq n) (safe_step c46 hm h99) h99 (((if_neg c46).trans ((if_pos c84).trans (if_pos c122))).symm.trans hx))
            · refine j_perm (fl [[oX a (AP 0) hi sl su pa (AT 0) (AU 0)], cSt G AU w3, cSt G AT (f_X3_passMinutes_x xq ((t * 60) - (xq.1 2))), cSt G AP xp]) (bperm [1, 0, 2, 3] 4 rfl (by decide +kernel) rfl) ?_
              refine j_iload C dX4_firstSafe_125 0 rfl ?_
              refine j_perm (fl [[oX a (AP 0) hi sl su pa (AT 0) (AU 0)], cSt G AP xp, cSt G AT (f_X3_passMinutes_x xq ((t * 60) - (xq.1 2))), cSt G AU w3]) (bperm [0, 3, 2, 1] 4 rfl (by decide +kernel) rfl) ?_
              subst hQ; subst hw0 hw1 hw2 hw3; exact j_iret C hr hk (show t = (f_X4_firstSafe_r xp xt xu k) from ((if_neg c4).trans (congrArg Prod.fst (hx.symm.trans ((if_neg c46).trans ((if_pos c84).trans (if_neg c122)))))).symm) (by rw [show (f_X4_firstSafe_xt xp xt xu k) = (f_X3_passMinutes_x xq ((t * 60) - (xq.1 2))) from (by have e := (hx.symm.trans ((if_neg c46).trans ((if_pos c84).trans (if_neg c122)))); rw [f_X4_firstSafe_xt, if_neg c4, e] <;> rfl), show (f_X4_firstSafe_xu xp xt xu k) = (f_X4_firstSafe_xq9 xp xt xu k t xq uq n) from (by have e := (hx.symm.trans ((if_neg c46).trans ((if_pos c84).trans (if_neg c122)))); rw [f_X4_firstSafe_xu, if_neg c4, e] <;> rfl)]) dX4_firstSafe_127
    exact j_eq rfl rfl rfl (L4 25 ((f_X3_hourOfNow_r xp.1) + 1) xp xu (safe_start hnow).1 (safe_start hnow).2 rfl)
  · refine j_iconst (v := (-1)) C dX4_firstSafe_7 (by decide) ?_
    subst hQ; exact j_iret C hr hk (show (-1) = (f_X4_firstSafe_r xp xt xu k) from (if_pos c4).symm) (by rw [show (f_X4_firstSafe_xt xp xt xu k) = xt from (if_pos c4), show (f_X4_firstSafe_xu xp xt xu k) = xu from (if_pos c4)]) dX4_firstSafe_8
