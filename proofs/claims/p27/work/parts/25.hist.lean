/-! THE HISTORY -/
noncomputable def f_X1_prepare_sv (h : Nat → Int32) (sv : Nat → StV) (xp : StV) : (Nat → StV) := updF sv ((h 1).toNatClampNeg) xp
set_option maxRecDepth 100000 in
set_option maxHeartbeats 4000000 in
theorem m_X1_prepare (l : Launch) (G : GG) (a ha : Nat) (AP : Nat → Nat) (AH : Nat → Nat → Nat) (h : Nat → Int32) (sv : Nat → StV) (xp : StV) (h7 : vp_in (h 1) 7) : CtV l yX1_prepare cX1_prepare 2 (none : Option Jvm.ClassFile.FieldType) (RM 3) G [.ref a, .ref (AP 0)] (fl [[oH a ha h], [aS G ha 7 (fun k => some (AH k 0))], cMany G AH sv 7, cSt G AP xp]) (fl [[oH a ha h], [aS G ha 7 (fun k => some (AH k 0))], cMany G AH (f_X1_prepare_sv h sv xp) 7, cSt G AP xp]) := by
  refine ct_V RX1 [(0, .ref a), (1, .ref (AP 0))] rfl (by decide +kernel) (Nat.le_of_ble_eq_true rfl) rfl ?_
  intro p e s m args below meth c A C hr hk hnm
  generalize hQ : (MQ below (PostV G A (fl [[oH a ha h], [aS G ha 7 (fun k => some (AH k 0))], cMany G AH (f_X1_prepare_sv h sv xp) 7, cSt G AP xp])) args s (RM 3).cells (RM 3).slots A) = Q
  refine j_aload_n C dX1_prepare_0 0 rfl ?_
  refine j_get C kin1 rfl 0 rfl 0 (by decide) kw_103 rfl (v := .ref ha) rfl dX1_prepare_1 ?_
  refine j_aload_n C dX1_prepare_4 0 rfl ?_
  refine j_get C kin1 rfl 0 rfl 1 (by decide) kw_104 rfl (v := .int (h 1)) rfl dX1_prepare_5 ?_
  refine j_perm (fl [cMany G AH sv 7, [oH a ha h], [aS G ha 7 (fun k => some (AH k 0))], cSt G AP xp]) (bperm [2, 0, 1, 3] 4 rfl (by decide +kernel) rfl) ?_
  refine j_perm (fl [cSt G (AH ((h 1).toNatClampNeg)) (sv ((h 1).toNatClampNeg)), cManyR G AH sv 7 ((h 1).toNatClampNeg), [oH a ha h], [aS G ha 7 (fun k => some (AH k 0))], cSt G AP xp]) (open_at (openMany G AH sv 7 ((h 1).toNatClampNeg) (vin_nat h7))) ?_
  refine j_perm (fl [[oH a ha h], [aS G ha 7 (fun k => some (AH k 0))], cSt G (AH ((h 1).toNatClampNeg)) (sv ((h 1).toNatClampNeg)), cManyR G AH sv 7 ((h 1).toNatClampNeg), cSt G AP xp]) (bperm [2, 3, 0, 1, 4] 5 rfl (by decide +kernel) rfl) ?_
  refine j_aaldS C 1 rfl h7 (y := AH ((h 1).toNatClampNeg) 0) rfl dX1_prepare_8 ?_
  refine j_aload_n C dX1_prepare_9 1 rfl ?_
  refine j_callV_v (wc' := fl [cSt G (AH ((h 1).toNatClampNeg)) xp, cSt G AP xp]) C (m_X3_copyFrom l G (AH ((h 1).toNatClampNeg)) AP (sv ((h 1).toNatClampNeg)) xp) rfl 0 rfl 1 (gV kw_148 kw_149 kw_150 kw_2 kw_151) (by decide +kernel) ⟨(Nat.le_of_ble_eq_true rfl), (Nat.le_of_ble_eq_true rfl)⟩ rfl rfl (Nat.le_of_ble_eq_true rfl) dX1_prepare_10 ⟨(Nat.le_of_ble_eq_true rfl), (Nat.le_of_ble_eq_true rfl)⟩ (fl [[oH a ha h], [aS G ha 7 (fun k => some (AH k 0))], cManyR G AH sv 7 ((h 1).toNatClampNeg)]) (fl [cSt G (AH ((h 1).toNatClampNeg)) xp, cSt G AP xp, [oH a ha h], [aS G ha 7 (fun k => some (AH k 0))], cManyR G AH sv 7 ((h 1).toNatClampNeg)]) (bperm2 (bC := [cSt G (AH ((h 1).toNatClampNeg)) (sv ((h 1).toNatClampNeg)), cSt G AP xp]) (bR := [[oH a ha h], [aS G ha 7 (fun k => some (AH k 0))], cManyR G AH sv 7 ((h 1).toNatClampNeg)]) [2, 4, 0, 1, 3] 5 rfl (by decide +kernel) rfl) (fl_app _ _) ?_
  refine j_perm (fl [cSt G (AH ((h 1).toNatClampNeg)) xp, cManyR G AH sv 7 ((h 1).toNatClampNeg), cSt G AP xp, [oH a ha h], [aS G ha 7 (fun k => some (AH k 0))]]) (bperm [0, 4, 1, 2, 3] 5 rfl (by decide +kernel) rfl) ?_
  refine j_perm (fl [cMany G AH (updF sv ((h 1).toNatClampNeg) xp) 7, cSt G AP xp, [oH a ha h], [aS G ha 7 (fun k => some (AH k 0))]]) (shut_at (bs := [cSt G (AH ((h 1).toNatClampNeg)) xp, cManyR G AH sv 7 ((h 1).toNatClampNeg)]) (closeMany G AH sv 7 ((h 1).toNatClampNeg) (vin_nat h7) _)) ?_
  refine j_perm (fl [[oH a ha h], [aS G ha 7 (fun k => some (AH k 0))], cMany G AH (updF sv ((h 1).toNatClampNeg) xp) 7, cSt G AP xp]) (bperm [2, 3, 0, 1] 4 rfl (by decide +kernel) rfl) ?_
  subst hQ; exact j_vret C hr hk (by rw [show f_X1_prepare_sv h sv xp = updF sv ((h 1).toNatClampNeg) xp from rfl]) dX1_prepare_13
noncomputable def f_X1_keepPrepared_x1 (h : Nat → Int32) : Int32 := (if 6 ≤ h 1 then 0 else (h 1) + 1)
noncomputable def f_X1_keepPrepared_h (h : Nat → Int32) : (Nat → Int32) := upd (upd h 1 (f_X1_keepPrepared_x1 h)) 2 (imin ((h 2) + 1) 6)
set_option maxRecDepth 100000 in
set_option maxHeartbeats 4000000 in
theorem m_X1_keepPrepared (l : Launch) (G : GG) (a ha : Nat) (h : Nat → Int32)  : CtV l yX1_keepPrepared cX1_keepPrepared 1 (none : Option Jvm.ClassFile.FieldType) (RM 1) G [.ref a] ([oH a ha h]) ([oH a ha (f_X1_keepPrepared_h h)]) := by
  refine ct_V RX1 [(0, .ref a)] rfl (by decide +kernel) (Nat.le_of_ble_eq_true rfl) rfl ?_
  intro p e s m args below meth c A C hr hk hnm
  generalize hQ : (MQ below (PostV G A ([oH a ha (f_X1_keepPrepared_h h)])) args s (RM 1).cells (RM 1).slots A) = Q
  refine j_aload_n C dX1_keepPrepared_0 0 rfl ?_
  refine j_aload_n C dX1_keepPrepared_1 0 rfl ?_
  refine j_get C kin1 rfl 0 rfl 1 (by decide) kw_104 rfl (v := .int (h 1)) rfl dX1_keepPrepared_2 ?_
  refine j_bipush (v := 6) C dX1_keepPrepared_5 (by decide) ?_
  have K20 : WJ p l e (RM 1) s m args below meth c G A 1 0 0 Q ([oH a ha h]) [(0, .ref a)] 20 [.int (f_X1_keepPrepared_x1 h), .ref a] := by
    generalize hw0 : f_X1_keepPrepared_x1 h = w0
    refine j_put C kin1 rfl 0 rfl 1 (by decide) kw_104 rfl tyX1 tyX1_ok nmX1 rfl rfl rfl (Nat.le_of_ble_eq_true rfl) ([oH a ha (upd h 1 w0)]) rfl dX1_keepPrepared_20 ?_
    refine j_aload_n C dX1_keepPrepared_23 0 rfl ?_
    refine j_aload_n C dX1_keepPrepared_24 0 rfl ?_
    refine j_get C kin1 rfl 0 rfl 2 (by decide) kw_105 rfl (v := .int (h 2)) rfl dX1_keepPrepared_25 ?_
    refine j_iconst (v := 1) C dX1_keepPrepared_28 (by decide) ?_
    refine j_iadd C dX1_keepPrepared_29 rfl ?_
    refine j_bipush (v := 6) C dX1_keepPrepared_30 (by decide) ?_
    refine j_mmin C kw_234 (Nat.le_of_ble_eq_true rfl) (Nat.le_of_ble_eq_true rfl) ⟨(Nat.le_of_ble_eq_true rfl), (Nat.le_of_ble_eq_true rfl)⟩ dX1_keepPrepared_32 (v := imin ((h 2) + 1) 6) (imin_eq _ _).symm ?_
    generalize hw1 : imin ((h 2) + 1) 6 = w1
    refine j_put C kin1 rfl 0 rfl 2 (by decide) kw_105 rfl tyX1 tyX1_ok nmX1 rfl rfl rfl (Nat.le_of_ble_eq_true rfl) ([oH a ha (upd (upd h 1 w0) 2 w1)]) rfl dX1_keepPrepared_35 ?_
    subst hQ; subst hw0 hw1; exact j_vret C hr hk (by rw [show f_X1_keepPrepared_h h = upd (upd h 1 (f_X1_keepPrepared_x1 h)) 2 (imin ((h 2) + 1) 6) from rfl]) dX1_keepPrepared_38
  refine j_icmp_ge (tgt := 19) C dX1_keepPrepared_7 (by decide) (fun c7 => ?_) (fun c7 => ?_)
  · refine j_iconst (v := 0) C dX1_keepPrepared_19 (by decide) ?_
    exact j_eq rfl rfl (by rw [show f_X1_keepPrepared_x1 h = 0 from (if_pos c7)]) K20
  · refine j_aload_n C dX1_keepPrepared_10 0 rfl ?_
    refine j_get C kin1 rfl 0 rfl 1 (by decide) kw_104 rfl (v := .int (h 1)) rfl dX1_keepPrepared_11 ?_
    refine j_iconst (v := 1) C dX1_keepPrepared_14 (by decide) ?_
    refine j_iadd C dX1_keepPrepared_15 rfl ?_
    refine j_goto (tgt := 20) C dX1_keepPrepared_16 (by decide) ?_
    exact j_eq rfl rfl (by rw [show f_X1_keepPrepared_x1 h = (h 1) + 1 from (if_neg c7)]) K20
