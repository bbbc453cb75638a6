/-! THE CHANGES OF A STATION -/
noncomputable def f_X3_changeSetting_x (x : StV) (k : Int32) (y : Int32) : StV := (if k < 0 then x else (if k < 7 then (if y < vLeast k.toNatClampNeg then x else (if y ≤ vMost k.toNatClampNeg then (x.1, upd x.2.1 k.toNatClampNeg y, x.2.2.1, x.2.2.2) else x)) else x))
noncomputable def f_X3_changeSetting_r (x : StV) (k : Int32) (y : Int32) : Int32 := (if k < 0 then (-2) else (if k < 7 then (if y < vLeast k.toNatClampNeg then (-2) else (if y ≤ vMost k.toNatClampNeg then x.2.1 k.toNatClampNeg else (-2))) else (-2)))
set_option maxRecDepth 100000 in
set_option maxHeartbeats 4000000 in
theorem m_X3_changeSetting (l : Launch) (G : GG) (ad : Nat → Nat) (x : StV) (k : Int32) (y : Int32)  : CtI l yX3_changeSetting cX3_changeSetting 4 (some .int) (RM 0) G [.ref (ad 0), .int k, .int y] (cSt G ad x) (f_X3_changeSetting_r x k y) (cSt G ad (f_X3_changeSetting_x x k y)) := by
  refine ct_I RX3 [(0, .ref (ad 0)), (1, .int k), (2, .int y)] rfl (by decide +kernel) (Nat.le_of_ble_eq_true rfl) rfl ?_
  intro p e s m args below meth c A C hr hk hnm
  generalize hQ : (MQ below (PostI G A (f_X3_changeSetting_r x k y) (cSt G ad (f_X3_changeSetting_x x k y))) args s (RM 0).cells (RM 0).slots A) = Q
  refine j_w (fl [cSt G ad x]) (fl_one _).symm ?_
  refine j_iload_n C dX3_changeSetting_0 1 rfl ?_
  refine j_if_lt (tgt := 10) C dX3_changeSetting_1 (by decide) (fun c1 => ?_) (fun c1 => ?_)
  · refine j_bipush (v := (-2)) C dX3_changeSetting_10 (by decide) ?_
    refine j_w (cSt G ad x) (fl_one _) ?_
    subst hQ; exact j_iret C hr hk ((show f_X3_changeSetting_r x k y = (-2) from (if_pos c1)).symm) (by rw [show f_X3_changeSetting_x x k y = x from (if_pos c1)]) dX3_changeSetting_12
  · refine j_iload_n C dX3_changeSetting_4 1 rfl ?_
    refine j_bipush (v := 7) C dX3_changeSetting_5 (by decide) ?_
    refine j_icmp_lt (tgt := 13) C dX3_changeSetting_7 (by decide) (fun c7 => ?_) (fun c7 => ?_)
    · refine j_iload_n C dX3_changeSetting_13 2 rfl ?_
      refine j_gstLN C (List.mem_of_getElem? (i := 8) rfl) dX3_changeSetting_14 ?_
      refine j_iload_n C dX3_changeSetting_17 1 rfl ?_
      refine j_stiL C (vin_lt (N := 7) rfl c1 c7) (v := vLeast k.toNatClampNeg) rfl dX3_changeSetting_18 ?_
      refine j_icmp_lt (tgt := 31) C dX3_changeSetting_19 (by decide) (fun c19 => ?_) (fun c19 => ?_)
      · refine j_bipush (v := (-2)) C dX3_changeSetting_31 (by decide) ?_
        refine j_w (cSt G ad x) (fl_one _) ?_
        subst hQ; exact j_iret C hr hk ((show f_X3_changeSetting_r x k y = (-2) from ((if_neg c1).trans ((if_pos c7).trans (if_pos c19)))).symm) (by rw [show f_X3_changeSetting_x x k y = x from ((if_neg c1).trans ((if_pos c7).trans (if_pos c19)))]) dX3_changeSetting_33
      · refine j_iload_n C dX3_changeSetting_22 2 rfl ?_
        refine j_gstMN C (List.mem_of_getElem? (i := 9) rfl) dX3_changeSetting_23 ?_
        refine j_iload_n C dX3_changeSetting_26 1 rfl ?_
        refine j_stiM C (vin_lt (N := 7) rfl c1 c7) (v := vMost k.toNatClampNeg) rfl dX3_changeSetting_27 ?_
        refine j_icmp_le (tgt := 34) C dX3_changeSetting_28 (by decide) (fun c28 => ?_) (fun c28 => ?_)
        · refine j_aload_n C dX3_changeSetting_34 0 rfl ?_
          refine j_w (fl [[oS (ad 0) (ad 1) (ad 2) x.1], [aI G (ad 1) 7 x.2.1], [aD G (ad 2) 4 (fun k => some (ad (3 + 2 * k)))], cDrs G ad x.2.2.1 x.2.2.2]) rfl ?_
          refine j_get C kin3 rfl 0 rfl 0 (by decide) kw_74 rfl (v := .ref (ad 1)) rfl dX3_changeSetting_35 ?_
          refine j_iload_n C dX3_changeSetting_38 1 rfl ?_
          refine j_iald C 1 rfl (vin_lt (N := 7) rfl c1 c7) (v := x.2.1 k.toNatClampNeg) rfl dX3_changeSetting_39 ?_
          refine j_istore_n C [(3, .int (x.2.1 k.toNatClampNeg)), (0, .ref (ad 0)), (1, .int k), (2, .int y)] dX3_changeSetting_40 (by decide) rfl ?_
          refine j_aload_n C dX3_changeSetting_41 1 rfl ?_
          refine j_get C kin3 rfl 0 rfl 0 (by decide) kw_74 rfl (v := .ref (ad 1)) rfl dX3_changeSetting_42 ?_
          refine j_iload_n C dX3_changeSetting_45 2 rfl ?_
          refine j_iload_n C dX3_changeSetting_46 3 rfl ?_
          refine j_iast C 1 rfl (vin_lt (N := 7) rfl c1 c7) (fl [[oS (ad 0) (ad 1) (ad 2) x.1], [aI G (ad 1) 7 (upd x.2.1 k.toNatClampNeg y)], [aD G (ad 2) 4 (fun k => some (ad (3 + 2 * k)))], cDrs G ad x.2.2.1 x.2.2.2]) rfl dX3_changeSetting_47 ?_
          refine j_iload_n C dX3_changeSetting_48 0 rfl ?_
          refine j_w (fl [cSt G ad (x.1, upd x.2.1 k.toNatClampNeg y, x.2.2.1, x.2.2.2)]) rfl ?_
          refine j_w (cSt G ad (x.1, upd x.2.1 k.toNatClampNeg y, x.2.2.1, x.2.2.2)) (fl_one _) ?_
          subst hQ; exact j_iret C hr hk ((show f_X3_changeSetting_r x k y = x.2.1 k.toNatClampNeg from ((if_neg c1).trans ((if_pos c7).trans ((if_neg c19).trans (if_pos c28))))).symm) (by rw [show f_X3_changeSetting_x x k y = (x.1, upd x.2.1 k.toNatClampNeg y, x.2.2.1, x.2.2.2) from ((if_neg c1).trans ((if_pos c7).trans ((if_neg c19).trans (if_pos c28))))]) dX3_changeSetting_49
        · refine j_bipush (v := (-2)) C dX3_changeSetting_31 (by decide) ?_
          refine j_w (cSt G ad x) (fl_one _) ?_
          subst hQ; exact j_iret C hr hk ((show f_X3_changeSetting_r x k y = (-2) from ((if_neg c1).trans ((if_pos c7).trans ((if_neg c19).trans (if_neg c28))))).symm) (by rw [show f_X3_changeSetting_x x k y = x from ((if_neg c1).trans ((if_pos c7).trans ((if_neg c19).trans (if_neg c28))))]) dX3_changeSetting_33
    · refine j_bipush (v := (-2)) C dX3_changeSetting_10 (by decide) ?_
      refine j_w (cSt G ad x) (fl_one _) ?_
      subst hQ; exact j_iret C hr hk ((show f_X3_changeSetting_r x k y = (-2) from ((if_neg c1).trans (if_neg c7))).symm) (by rw [show f_X3_changeSetting_x x k y = x from ((if_neg c1).trans (if_neg c7))]) dX3_changeSetting_12
noncomputable def f_X3_changeStream_x (x : StV) (k : Int32) (y : Int32) (z : Int32) : StV := (if f_X4_isDrive_r k = 0 then x else (if y < 1 then x else (if 60 < y then x else (if z < 0 then x else (if z ≤ 20 then (x.1, x.2.1, (updF x.2.2.1 k.toNatClampNeg (upd (upd ((x.2.2.1 k.toNatClampNeg).1) 8 y) 9 z, (x.2.2.1 k.toNatClampNeg).2)), (updF x.2.2.2 k.toNatClampNeg (x.2.2.2 k.toNatClampNeg))) else x)))))
noncomputable def f_X3_changeStream_r (x : StV) (k : Int32) (y : Int32) (z : Int32) : Int32 := (if f_X4_isDrive_r k = 0 then (-1) else (if y < 1 then (-2) else (if 60 < y then (-2) else (if z < 0 then (-2) else (if z ≤ 20 then (x.2.2.1 k.toNatClampNeg).1 9 else (-2))))))
set_option maxRecDepth 100000 in
set_option maxHeartbeats 4000000 in
theorem m_X3_changeStream (l : Launch) (G : GG) (ad : Nat → Nat) (x : StV) (k : Int32) (y : Int32) (z : Int32)  : CtI l yX3_changeStream cX3_changeStream 5 (some .int) (RM 1) G [.ref (ad 0), .int k, .int y, .int z] (cSt G ad x) (f_X3_changeStream_r x k y z) (cSt G ad (f_X3_changeStream_x x k y z)) := by
  refine ct_I RX3 [(0, .ref (ad 0)), (1, .int k), (2, .int y), (3, .int z)] rfl (by decide +kernel) (Nat.le_of_ble_eq_true rfl) rfl ?_
  intro p e s m args below meth c A C hr hk hnm
  generalize hQ : (MQ below (PostI G A (f_X3_changeStream_r x k y z) (cSt G ad (f_X3_changeStream_x x k y z))) args s (RM 1).cells (RM 1).slots A) = Q
  refine j_w (fl [cSt G ad x]) (fl_one _).symm ?_
  refine j_iload_n C dX3_changeStream_0 1 rfl ?_
  refine j_pureSN_i (r := f_X4_isDrive_r k) C (m_X4_isDrive l G k) 1 kw_241 (List.mem_of_getElem? (i := 2) rfl) kw_1 kw_240 (by decide +kernel) ⟨(Nat.le_of_ble_eq_true rfl), (Nat.le_of_ble_eq_true rfl)⟩ rfl rfl (Nat.le_of_ble_eq_true rfl) dX3_changeStream_1 ⟨(Nat.le_of_ble_eq_true rfl), (Nat.le_of_ble_eq_true rfl)⟩ ?_
  refine j_if_ne (tgt := 9) C dX3_changeStream_4 (by decide) (fun c4 => ?_) (fun c4 => ?_)
  · refine j_iload_n C dX3_changeStream_9 2 rfl ?_
    refine j_iconst (v := 1) C dX3_changeStream_10 (by decide) ?_
    refine j_icmp_lt (tgt := 30) C dX3_changeStream_11 (by decide) (fun c11 => ?_) (fun c11 => ?_)
    · refine j_bipush (v := (-2)) C dX3_changeStream_30 (by decide) ?_
      refine j_w (cSt G ad x) (fl_one _) ?_
      subst hQ; exact j_iret C hr hk ((show f_X3_changeStream_r x k y z = (-2) from ((if_neg c4).trans (if_pos c11))).symm) (by rw [show f_X3_changeStream_x x k y z = x from ((if_neg c4).trans (if_pos c11))]) dX3_changeStream_32
    · refine j_iload_n C dX3_changeStream_14 2 rfl ?_
      refine j_bipush (v := 60) C dX3_changeStream_15 (by decide) ?_
      refine j_icmp_gt (tgt := 30) C dX3_changeStream_17 (by decide) (fun c17 => ?_) (fun c17 => ?_)
      · refine j_bipush (v := (-2)) C dX3_changeStream_30 (by decide) ?_
        refine j_w (cSt G ad x) (fl_one _) ?_
        subst hQ; exact j_iret C hr hk ((show f_X3_changeStream_r x k y z = (-2) from ((if_neg c4).trans ((if_neg c11).trans (if_pos c17)))).symm) (by rw [show f_X3_changeStream_x x k y z = x from ((if_neg c4).trans ((if_neg c11).trans (if_pos c17)))]) dX3_changeStream_32
      · refine j_iload_n C dX3_changeStream_20 3 rfl ?_
        refine j_if_lt (tgt := 30) C dX3_changeStream_21 (by decide) (fun c21 => ?_) (fun c21 => ?_)
        · refine j_bipush (v := (-2)) C dX3_changeStream_30 (by decide) ?_
          refine j_w (cSt G ad x) (fl_one _) ?_
          subst hQ; exact j_iret C hr hk ((show f_X3_changeStream_r x k y z = (-2) from ((if_neg c4).trans ((if_neg c11).trans ((if_neg c17).trans (if_pos c21))))).symm) (by rw [show f_X3_changeStream_x x k y z = x from ((if_neg c4).trans ((if_neg c11).trans ((if_neg c17).trans (if_pos c21))))]) dX3_changeStream_32
        · refine j_iload_n C dX3_changeStream_24 3 rfl ?_
          refine j_bipush (v := 20) C dX3_changeStream_25 (by decide) ?_
          refine j_icmp_le (tgt := 33) C dX3_changeStream_27 (by decide) (fun c27 => ?_) (fun c27 => ?_)
          · refine j_aload_n C dX3_changeStream_33 0 rfl ?_
            refine j_w (fl [[oS (ad 0) (ad 1) (ad 2) x.1], [aI G (ad 1) 7 x.2.1], [aD G (ad 2) 4 (fun k => some (ad (3 + 2 * k)))], cDrs G ad x.2.2.1 x.2.2.2]) rfl ?_
            refine j_get C kin3 rfl 0 rfl 1 (by decide) kw_76 rfl (v := .ref (ad 2)) rfl dX3_changeStream_34 ?_
            refine j_iload_n C dX3_changeStream_37 1 rfl ?_
            refine j_perm (fl [cDrs G ad x.2.2.1 x.2.2.2, [oS (ad 0) (ad 1) (ad 2) x.1], [aI G (ad 1) 7 x.2.1], [aD G (ad 2) 4 (fun k => some (ad (3 + 2 * k)))]]) (bperm [3, 0, 1, 2] 4 rfl (by decide +kernel) rfl) ?_
            refine j_perm (fl [[oD (ad (3 + 2 * k.toNatClampNeg)) (ad (4 + 2 * k.toNatClampNeg)) (x.2.2.1 k.toNatClampNeg)], [aB G (ad (4 + 2 * k.toNatClampNeg)) (x.2.2.2 k.toNatClampNeg)], cRs G ad x.2.2.1 x.2.2.2 k.toNatClampNeg, [oS (ad 0) (ad 1) (ad 2) x.1], [aI G (ad 1) 7 x.2.1], [aD G (ad 2) 4 (fun k => some (ad (3 + 2 * k)))]]) (open_at (openDrs G ad x.2.2.1 x.2.2.2 k.toNatClampNeg (vin_nat (lt_drive c4)))) ?_
            refine j_perm (fl [[oD (ad (3 + 2 * k.toNatClampNeg)) (ad (4 + 2 * k.toNatClampNeg)) (x.2.2.1 k.toNatClampNeg)], [aB G (ad (4 + 2 * k.toNatClampNeg)) (x.2.2.2 k.toNatClampNeg)], [oS (ad 0) (ad 1) (ad 2) x.1], [aI G (ad 1) 7 x.2.1], [aD G (ad 2) 4 (fun k => some (ad (3 + 2 * k)))], cRs G ad x.2.2.1 x.2.2.2 k.toNatClampNeg]) (bperm [0, 1, 3, 4, 5, 2] 6 rfl (by decide +kernel) rfl) ?_
            refine j_aaldD C 4 rfl (lt_drive c4) (y := ad (3 + 2 * k.toNatClampNeg)) rfl dX3_changeStream_38 ?_
            refine j_get C kin0 rfl 0 rfl 9 (by decide) kw_55 rfl (v := .int ((x.2.2.1 k.toNatClampNeg).1 9)) rfl dX3_changeStream_39 ?_
            refine j_istore C [(4, .int ((x.2.2.1 k.toNatClampNeg).1 9)), (0, .ref (ad 0)), (1, .int k), (2, .int y), (3, .int z)] dX3_changeStream_42 (by decide) rfl ?_
            refine j_aload_n C dX3_changeStream_44 1 rfl ?_
            refine j_get C kin3 rfl 2 rfl 1 (by decide) kw_76 rfl (v := .ref (ad 2)) rfl dX3_changeStream_45 ?_
            refine j_iload_n C dX3_changeStream_48 2 rfl ?_
            refine j_aaldD C 4 rfl (lt_drive c4) (y := ad (3 + 2 * k.toNatClampNeg)) rfl dX3_changeStream_49 ?_
            refine j_iload_n C dX3_changeStream_50 3 rfl ?_
            refine j_put C kin0 rfl 0 rfl 8 (by decide) kw_52 rfl tyX0 tyX0_ok nmX0 rfl rfl rfl (Nat.le_of_ble_eq_true rfl) (fl [[oD (ad (3 + 2 * k.toNatClampNeg)) (ad (4 + 2 * k.toNatClampNeg)) (upd ((x.2.2.1 k.toNatClampNeg).1) 8 y, (x.2.2.1 k.toNatClampNeg).2)], [aB G (ad (4 + 2 * k.toNatClampNeg)) (x.2.2.2 k.toNatClampNeg)], [oS (ad 0) (ad 1) (ad 2) x.1], [aI G (ad 1) 7 x.2.1], [aD G (ad 2) 4 (fun k => some (ad (3 + 2 * k)))], cRs G ad x.2.2.1 x.2.2.2 k.toNatClampNeg]) rfl dX3_changeStream_51 ?_
            refine j_aload_n C dX3_changeStream_54 1 rfl ?_
            refine j_get C kin3 rfl 2 rfl 1 (by decide) kw_76 rfl (v := .ref (ad 2)) rfl dX3_changeStream_55 ?_
            refine j_iload_n C dX3_changeStream_58 2 rfl ?_
            refine j_aaldD C 4 rfl (lt_drive c4) (y := ad (3 + 2 * k.toNatClampNeg)) rfl dX3_changeStream_59 ?_
            refine j_iload_n C dX3_changeStream_60 4 rfl ?_
            refine j_put C kin0 rfl 0 rfl 9 (by decide) kw_55 rfl tyX0 tyX0_ok nmX0 rfl rfl rfl (Nat.le_of_ble_eq_true rfl) (fl [[oD (ad (3 + 2 * k.toNatClampNeg)) (ad (4 + 2 * k.toNatClampNeg)) (upd (upd ((x.2.2.1 k.toNatClampNeg).1) 8 y) 9 z, (x.2.2.1 k.toNatClampNeg).2)], [aB G (ad (4 + 2 * k.toNatClampNeg)) (x.2.2.2 k.toNatClampNeg)], [oS (ad 0) (ad 1) (ad 2) x.1], [aI G (ad 1) 7 x.2.1], [aD G (ad 2) 4 (fun k => some (ad (3 + 2 * k)))], cRs G ad x.2.2.1 x.2.2.2 k.toNatClampNeg]) rfl dX3_changeStream_61 ?_
            refine j_iload C dX3_changeStream_64 0 rfl ?_
            refine j_perm (fl [[oD (ad (3 + 2 * k.toNatClampNeg)) (ad (4 + 2 * k.toNatClampNeg)) (upd (upd ((x.2.2.1 k.toNatClampNeg).1) 8 y) 9 z, (x.2.2.1 k.toNatClampNeg).2)], [aB G (ad (4 + 2 * k.toNatClampNeg)) (x.2.2.2 k.toNatClampNeg)], cRs G ad x.2.2.1 x.2.2.2 k.toNatClampNeg, [oS (ad 0) (ad 1) (ad 2) x.1], [aI G (ad 1) 7 x.2.1], [aD G (ad 2) 4 (fun k => some (ad (3 + 2 * k)))]]) (bperm [0, 1, 5, 2, 3, 4] 6 rfl (by decide +kernel) rfl) ?_
            refine j_perm (fl [cDrs G ad (updF x.2.2.1 k.toNatClampNeg (upd (upd ((x.2.2.1 k.toNatClampNeg).1) 8 y) 9 z, (x.2.2.1 k.toNatClampNeg).2)) (updF x.2.2.2 k.toNatClampNeg (x.2.2.2 k.toNatClampNeg)), [oS (ad 0) (ad 1) (ad 2) x.1], [aI G (ad 1) 7 x.2.1], [aD G (ad 2) 4 (fun k => some (ad (3 + 2 * k)))]]) (shut_at (bs := [[oD (ad (3 + 2 * k.toNatClampNeg)) (ad (4 + 2 * k.toNatClampNeg)) (upd (upd ((x.2.2.1 k.toNatClampNeg).1) 8 y) 9 z, (x.2.2.1 k.toNatClampNeg).2)], [aB G (ad (4 + 2 * k.toNatClampNeg)) (x.2.2.2 k.toNatClampNeg)], cRs G ad x.2.2.1 x.2.2.2 k.toNatClampNeg]) (closeDrs G ad x.2.2.1 x.2.2.2 k.toNatClampNeg (vin_nat (lt_drive c4)) _ _)) ?_
            refine j_perm (fl [[oS (ad 0) (ad 1) (ad 2) x.1], [aI G (ad 1) 7 x.2.1], [aD G (ad 2) 4 (fun k => some (ad (3 + 2 * k)))], cDrs G ad (updF x.2.2.1 k.toNatClampNeg (upd (upd ((x.2.2.1 k.toNatClampNeg).1) 8 y) 9 z, (x.2.2.1 k.toNatClampNeg).2)) (updF x.2.2.2 k.toNatClampNeg (x.2.2.2 k.toNatClampNeg))]) (bperm [1, 2, 3, 0] 4 rfl (by decide +kernel) rfl) ?_
            refine j_w (fl [cSt G ad (x.1, x.2.1, (updF x.2.2.1 k.toNatClampNeg (upd (upd ((x.2.2.1 k.toNatClampNeg).1) 8 y) 9 z, (x.2.2.1 k.toNatClampNeg).2)), (updF x.2.2.2 k.toNatClampNeg (x.2.2.2 k.toNatClampNeg)))]) rfl ?_
            refine j_w (cSt G ad (x.1, x.2.1, (updF x.2.2.1 k.toNatClampNeg (upd (upd ((x.2.2.1 k.toNatClampNeg).1) 8 y) 9 z, (x.2.2.1 k.toNatClampNeg).2)), (updF x.2.2.2 k.toNatClampNeg (x.2.2.2 k.toNatClampNeg)))) (fl_one _) ?_
            subst hQ; exact j_iret C hr hk ((show f_X3_changeStream_r x k y z = (x.2.2.1 k.toNatClampNeg).1 9 from ((if_neg c4).trans ((if_neg c11).trans ((if_neg c17).trans ((if_neg c21).trans (if_pos c27)))))).symm) (by rw [show f_X3_changeStream_x x k y z = (x.1, x.2.1, (updF x.2.2.1 k.toNatClampNeg (upd (upd ((x.2.2.1 k.toNatClampNeg).1) 8 y) 9 z, (x.2.2.1 k.toNatClampNeg).2)), (updF x.2.2.2 k.toNatClampNeg (x.2.2.2 k.toNatClampNeg))) from ((if_neg c4).trans ((if_neg c11).trans ((if_neg c17).trans ((if_neg c21).trans (if_pos c27)))))]) dX3_changeStream_66
          · refine j_bipush (v := (-2)) C dX3_changeStream_30 (by decide) ?_
            refine j_w (cSt G ad x) (fl_one _) ?_
            subst hQ; exact j_iret C hr hk ((show f_X3_changeStream_r x k y z = (-2) from ((if_neg c4).trans ((if_neg c11).trans ((if_neg c17).trans ((if_neg c21).trans (if_neg c27)))))).symm) (by rw [show f_X3_changeStream_x x k y z = x from ((if_neg c4).trans ((if_neg c11).trans ((if_neg c17).trans ((if_neg c21).trans (if_neg c27)))))]) dX3_changeStream_32
  · refine j_iconst (v := (-1)) C dX3_changeStream_7 (by decide) ?_
    refine j_w (cSt G ad x) (fl_one _) ?_
    subst hQ; exact j_iret C hr hk ((show f_X3_changeStream_r x k y z = (-1) from (if_pos c4)).symm) (by rw [show f_X3_changeStream_x x k y z = x from (if_pos c4)]) dX3_changeStream_8
noncomputable def f_X3_bringUnits_x (x : StV) (k : Int32) (y : Int32) : StV := (if f_X4_isDrive_r k = 0 then x else (if y < 1 then x else (if y ≤ 200 then (if (x.2.2.1 k.toNatClampNeg).1 3 ≤ 9999 - y then (x.1, x.2.1, (updF x.2.2.1 k.toNatClampNeg (upd ((x.2.2.1 k.toNatClampNeg).1) 3 (((x.2.2.1 k.toNatClampNeg).1 3) + y), (x.2.2.1 k.toNatClampNeg).2)), (updF x.2.2.2 k.toNatClampNeg (x.2.2.2 k.toNatClampNeg))) else x) else x)))
noncomputable def f_X3_bringUnits_r (x : StV) (k : Int32) (y : Int32) : Int32 := (if f_X4_isDrive_r k = 0 then (-1) else (if y < 1 then (-2) else (if y ≤ 200 then (if (x.2.2.1 k.toNatClampNeg).1 3 ≤ 9999 - y then (((x.2.2.1 k.toNatClampNeg).1 3) + y) else (-4)) else (-2))))
set_option maxRecDepth 100000 in
set_option maxHeartbeats 4000000 in
theorem m_X3_bringUnits (l : Launch) (G : GG) (ad : Nat → Nat) (x : StV) (k : Int32) (y : Int32)  : CtI l yX3_bringUnits cX3_bringUnits 3 (some .int) (RM 1) G [.ref (ad 0), .int k, .int y] (cSt G ad x) (f_X3_bringUnits_r x k y) (cSt G ad (f_X3_bringUnits_x x k y)) := by
  refine ct_I RX3 [(0, .ref (ad 0)), (1, .int k), (2, .int y)] rfl (by decide +kernel) (Nat.le_of_ble_eq_true rfl) rfl ?_
  intro p e s m args below meth c A C hr hk hnm
  generalize hQ : (MQ below (PostI G A (f_X3_bringUnits_r x k y) (cSt G ad (f_X3_bringUnits_x x k y))) args s (RM 1).cells (RM 1).slots A) = Q
  refine j_w (fl [cSt G ad x]) (fl_one _).symm ?_
  refine j_iload_n C dX3_bringUnits_0 1 rfl ?_
  refine j_pureSN_i (r := f_X4_isDrive_r k) C (m_X4_isDrive l G k) 1 kw_241 (List.mem_of_getElem? (i := 2) rfl) kw_1 kw_240 (by decide +kernel) ⟨(Nat.le_of_ble_eq_true rfl), (Nat.le_of_ble_eq_true rfl)⟩ rfl rfl (Nat.le_of_ble_eq_true rfl) dX3_bringUnits_1 ⟨(Nat.le_of_ble_eq_true rfl), (Nat.le_of_ble_eq_true rfl)⟩ ?_
  refine j_if_ne (tgt := 9) C dX3_bringUnits_4 (by decide) (fun c4 => ?_) (fun c4 => ?_)
  · refine j_iload_n C dX3_bringUnits_9 2 rfl ?_
    refine j_iconst (v := 1) C dX3_bringUnits_10 (by decide) ?_
    refine j_icmp_lt (tgt := 21) C dX3_bringUnits_11 (by decide) (fun c11 => ?_) (fun c11 => ?_)
    · refine j_bipush (v := (-2)) C dX3_bringUnits_21 (by decide) ?_
      refine j_w (cSt G ad x) (fl_one _) ?_
      subst hQ; exact j_iret C hr hk ((show f_X3_bringUnits_r x k y = (-2) from ((if_neg c4).trans (if_pos c11))).symm) (by rw [show f_X3_bringUnits_x x k y = x from ((if_neg c4).trans (if_pos c11))]) dX3_bringUnits_23
    · refine j_iload_n C dX3_bringUnits_14 2 rfl ?_
      refine j_sipush (v := 200) C dX3_bringUnits_15 (by decide) ?_
      refine j_icmp_le (tgt := 24) C dX3_bringUnits_18 (by decide) (fun c18 => ?_) (fun c18 => ?_)
      · refine j_aload_n C dX3_bringUnits_24 0 rfl ?_
        refine j_w (fl [[oS (ad 0) (ad 1) (ad 2) x.1], [aI G (ad 1) 7 x.2.1], [aD G (ad 2) 4 (fun k => some (ad (3 + 2 * k)))], cDrs G ad x.2.2.1 x.2.2.2]) rfl ?_
        refine j_get C kin3 rfl 0 rfl 1 (by decide) kw_76 rfl (v := .ref (ad 2)) rfl dX3_bringUnits_25 ?_
        refine j_iload_n C dX3_bringUnits_28 1 rfl ?_
        refine j_perm (fl [cDrs G ad x.2.2.1 x.2.2.2, [oS (ad 0) (ad 1) (ad 2) x.1], [aI G (ad 1) 7 x.2.1], [aD G (ad 2) 4 (fun k => some (ad (3 + 2 * k)))]]) (bperm [3, 0, 1, 2] 4 rfl (by decide +kernel) rfl) ?_
        refine j_perm (fl [[oD (ad (3 + 2 * k.toNatClampNeg)) (ad (4 + 2 * k.toNatClampNeg)) (x.2.2.1 k.toNatClampNeg)], [aB G (ad (4 + 2 * k.toNatClampNeg)) (x.2.2.2 k.toNatClampNeg)], cRs G ad x.2.2.1 x.2.2.2 k.toNatClampNeg, [oS (ad 0) (ad 1) (ad 2) x.1], [aI G (ad 1) 7 x.2.1], [aD G (ad 2) 4 (fun k => some (ad (3 + 2 * k)))]]) (open_at (openDrs G ad x.2.2.1 x.2.2.2 k.toNatClampNeg (vin_nat (lt_drive c4)))) ?_
        refine j_perm (fl [[oD (ad (3 + 2 * k.toNatClampNeg)) (ad (4 + 2 * k.toNatClampNeg)) (x.2.2.1 k.toNatClampNeg)], [aB G (ad (4 + 2 * k.toNatClampNeg)) (x.2.2.2 k.toNatClampNeg)], [oS (ad 0) (ad 1) (ad 2) x.1], [aI G (ad 1) 7 x.2.1], [aD G (ad 2) 4 (fun k => some (ad (3 + 2 * k)))], cRs G ad x.2.2.1 x.2.2.2 k.toNatClampNeg]) (bperm [0, 1, 3, 4, 5, 2] 6 rfl (by decide +kernel) rfl) ?_
        refine j_aaldD C 4 rfl (lt_drive c4) (y := ad (3 + 2 * k.toNatClampNeg)) rfl dX3_bringUnits_29 ?_
        refine j_get C kin0 rfl 0 rfl 3 (by decide) kw_39 rfl (v := .int ((x.2.2.1 k.toNatClampNeg).1 3)) rfl dX3_bringUnits_30 ?_
        refine j_sipush (v := 9999) C dX3_bringUnits_33 (by decide) ?_
        refine j_iload_n C dX3_bringUnits_36 2 rfl ?_
        refine j_isub C dX3_bringUnits_37 rfl ?_
        refine j_icmp_le (tgt := 44) C dX3_bringUnits_38 (by decide) (fun c38 => ?_) (fun c38 => ?_)
        · refine j_aload_n C dX3_bringUnits_44 0 rfl ?_
          refine j_get C kin3 rfl 2 rfl 1 (by decide) kw_76 rfl (v := .ref (ad 2)) rfl dX3_bringUnits_45 ?_
          refine j_iload_n C dX3_bringUnits_48 1 rfl ?_
          refine j_aaldD C 4 rfl (lt_drive c4) (y := ad (3 + 2 * k.toNatClampNeg)) rfl dX3_bringUnits_49 ?_
          refine j_dup C dX3_bringUnits_50 rfl ?_
          refine j_get C kin0 rfl 0 rfl 3 (by decide) kw_39 rfl (v := .int ((x.2.2.1 k.toNatClampNeg).1 3)) rfl dX3_bringUnits_51 ?_
          refine j_iload_n C dX3_bringUnits_54 2 rfl ?_
          refine j_iadd C dX3_bringUnits_55 rfl ?_
          generalize hw0 : ((x.2.2.1 k.toNatClampNeg).1 3) + y = w0
          refine j_put C kin0 rfl 0 rfl 3 (by decide) kw_39 rfl tyX0 tyX0_ok nmX0 rfl rfl rfl (Nat.le_of_ble_eq_true rfl) (fl [[oD (ad (3 + 2 * k.toNatClampNeg)) (ad (4 + 2 * k.toNatClampNeg)) (upd ((x.2.2.1 k.toNatClampNeg).1) 3 w0, (x.2.2.1 k.toNatClampNeg).2)], [aB G (ad (4 + 2 * k.toNatClampNeg)) (x.2.2.2 k.toNatClampNeg)], [oS (ad 0) (ad 1) (ad 2) x.1], [aI G (ad 1) 7 x.2.1], [aD G (ad 2) 4 (fun k => some (ad (3 + 2 * k)))], cRs G ad x.2.2.1 x.2.2.2 k.toNatClampNeg]) rfl dX3_bringUnits_56 ?_
          refine j_aload_n C dX3_bringUnits_59 0 rfl ?_
          refine j_get C kin3 rfl 2 rfl 1 (by decide) kw_76 rfl (v := .ref (ad 2)) rfl dX3_bringUnits_60 ?_
          refine j_iload_n C dX3_bringUnits_63 1 rfl ?_
          refine j_aaldD C 4 rfl (lt_drive c4) (y := ad (3 + 2 * k.toNatClampNeg)) rfl dX3_bringUnits_64 ?_
          refine j_get C kin0 rfl 0 rfl 3 (by decide) kw_39 rfl (v := .int w0) rfl dX3_bringUnits_65 ?_
          refine j_perm (fl [[oD (ad (3 + 2 * k.toNatClampNeg)) (ad (4 + 2 * k.toNatClampNeg)) (upd ((x.2.2.1 k.toNatClampNeg).1) 3 w0, (x.2.2.1 k.toNatClampNeg).2)], [aB G (ad (4 + 2 * k.toNatClampNeg)) (x.2.2.2 k.toNatClampNeg)], cRs G ad x.2.2.1 x.2.2.2 k.toNatClampNeg, [oS (ad 0) (ad 1) (ad 2) x.1], [aI G (ad 1) 7 x.2.1], [aD G (ad 2) 4 (fun k => some (ad (3 + 2 * k)))]]) (bperm [0, 1, 5, 2, 3, 4] 6 rfl (by decide +kernel) rfl) ?_
          refine j_perm (fl [cDrs G ad (updF x.2.2.1 k.toNatClampNeg (upd ((x.2.2.1 k.toNatClampNeg).1) 3 w0, (x.2.2.1 k.toNatClampNeg).2)) (updF x.2.2.2 k.toNatClampNeg (x.2.2.2 k.toNatClampNeg)), [oS (ad 0) (ad 1) (ad 2) x.1], [aI G (ad 1) 7 x.2.1], [aD G (ad 2) 4 (fun k => some (ad (3 + 2 * k)))]]) (shut_at (bs := [[oD (ad (3 + 2 * k.toNatClampNeg)) (ad (4 + 2 * k.toNatClampNeg)) (upd ((x.2.2.1 k.toNatClampNeg).1) 3 w0, (x.2.2.1 k.toNatClampNeg).2)], [aB G (ad (4 + 2 * k.toNatClampNeg)) (x.2.2.2 k.toNatClampNeg)], cRs G ad x.2.2.1 x.2.2.2 k.toNatClampNeg]) (closeDrs G ad x.2.2.1 x.2.2.2 k.toNatClampNeg (vin_nat (lt_drive c4)) _ _)) ?_
          refine j_perm (fl [[oS (ad 0) (ad 1) (ad 2) x.1], [aI G (ad 1) 7 x.2.1], [aD G (ad 2) 4 (fun k => some (ad (3 + 2 * k)))], cDrs G ad (updF x.2.2.1 k.toNatClampNeg (upd ((x.2.2.1 k.toNatClampNeg).1) 3 w0, (x.2.2.1 k.toNatClampNeg).2)) (updF x.2.2.2 k.toNatClampNeg (x.2.2.2 k.toNatClampNeg))]) (bperm [1, 2, 3, 0] 4 rfl (by decide +kernel) rfl) ?_
          refine j_w (fl [cSt G ad (x.1, x.2.1, (updF x.2.2.1 k.toNatClampNeg (upd ((x.2.2.1 k.toNatClampNeg).1) 3 w0, (x.2.2.1 k.toNatClampNeg).2)), (updF x.2.2.2 k.toNatClampNeg (x.2.2.2 k.toNatClampNeg)))]) rfl ?_
          refine j_w (cSt G ad (x.1, x.2.1, (updF x.2.2.1 k.toNatClampNeg (upd ((x.2.2.1 k.toNatClampNeg).1) 3 w0, (x.2.2.1 k.toNatClampNeg).2)), (updF x.2.2.2 k.toNatClampNeg (x.2.2.2 k.toNatClampNeg)))) (fl_one _) ?_
          subst hQ; subst hw0; exact j_iret C hr hk ((show f_X3_bringUnits_r x k y = (((x.2.2.1 k.toNatClampNeg).1 3) + y) from ((if_neg c4).trans ((if_neg c11).trans ((if_pos c18).trans (if_pos c38))))).symm) (by rw [show f_X3_bringUnits_x x k y = (x.1, x.2.1, (updF x.2.2.1 k.toNatClampNeg (upd ((x.2.2.1 k.toNatClampNeg).1) 3 (((x.2.2.1 k.toNatClampNeg).1 3) + y), (x.2.2.1 k.toNatClampNeg).2)), (updF x.2.2.2 k.toNatClampNeg (x.2.2.2 k.toNatClampNeg))) from ((if_neg c4).trans ((if_neg c11).trans ((if_pos c18).trans (if_pos c38))))]) dX3_bringUnits_68
        · refine j_bipush (v := (-4)) C dX3_bringUnits_41 (by decide) ?_
          refine j_perm (fl [[oD (ad (3 + 2 * k.toNatClampNeg)) (ad (4 + 2 * k.toNatClampNeg)) (x.2.2.1 k.toNatClampNeg)], [aB G (ad (4 + 2 * k.toNatClampNeg)) (x.2.2.2 k.toNatClampNeg)], cRs G ad x.2.2.1 x.2.2.2 k.toNatClampNeg, [oS (ad 0) (ad 1) (ad 2) x.1], [aI G (ad 1) 7 x.2.1], [aD G (ad 2) 4 (fun k => some (ad (3 + 2 * k)))]]) (bperm [0, 1, 5, 2, 3, 4] 6 rfl (by decide +kernel) rfl) ?_
          refine j_perm (fl [cDrs G ad x.2.2.1 x.2.2.2, [oS (ad 0) (ad 1) (ad 2) x.1], [aI G (ad 1) 7 x.2.1], [aD G (ad 2) 4 (fun k => some (ad (3 + 2 * k)))]]) (shut_at (bs := [[oD (ad (3 + 2 * k.toNatClampNeg)) (ad (4 + 2 * k.toNatClampNeg)) (x.2.2.1 k.toNatClampNeg)], [aB G (ad (4 + 2 * k.toNatClampNeg)) (x.2.2.2 k.toNatClampNeg)], cRs G ad x.2.2.1 x.2.2.2 k.toNatClampNeg]) (openDrs G ad x.2.2.1 x.2.2.2 k.toNatClampNeg (vin_nat (lt_drive c4))).symm) ?_
          refine j_perm (fl [[oS (ad 0) (ad 1) (ad 2) x.1], [aI G (ad 1) 7 x.2.1], [aD G (ad 2) 4 (fun k => some (ad (3 + 2 * k)))], cDrs G ad x.2.2.1 x.2.2.2]) (bperm [1, 2, 3, 0] 4 rfl (by decide +kernel) rfl) ?_
          refine j_w (fl [cSt G ad x]) rfl ?_
          refine j_w (cSt G ad x) (fl_one _) ?_
          subst hQ; exact j_iret C hr hk ((show f_X3_bringUnits_r x k y = (-4) from ((if_neg c4).trans ((if_neg c11).trans ((if_pos c18).trans (if_neg c38))))).symm) (by rw [show f_X3_bringUnits_x x k y = x from ((if_neg c4).trans ((if_neg c11).trans ((if_pos c18).trans (if_neg c38))))]) dX3_bringUnits_43
      · refine j_bipush (v := (-2)) C dX3_bringUnits_21 (by decide) ?_
        refine j_w (cSt G ad x) (fl_one _) ?_
        subst hQ; exact j_iret C hr hk ((show f_X3_bringUnits_r x k y = (-2) from ((if_neg c4).trans ((if_neg c11).trans (if_neg c18)))).symm) (by rw [show f_X3_bringUnits_x x k y = x from ((if_neg c4).trans ((if_neg c11).trans (if_neg c18)))]) dX3_bringUnits_23
  · refine j_iconst (v := (-1)) C dX3_bringUnits_7 (by decide) ?_
    refine j_w (cSt G ad x) (fl_one _) ?_
    subst hQ; exact j_iret C hr hk ((show f_X3_bringUnits_r x k y = (-1) from (if_pos c4)).symm) (by rw [show f_X3_bringUnits_x x k y = x from (if_pos c4)]) dX3_bringUnits_8
noncomputable def f_X3_changeHour_rq4 (x : StV) (k : Int32) (y : Int32) (z : Int32) (u : Int32) : Int32 := f_X0_hourState_r (x.2.2.1 k.toNatClampNeg) (x.2.2.2 k.toNatClampNeg) y
noncomputable def f_X3_changeHour_fq5 (x : StV) (k : Int32) (y : Int32) (z : Int32) (u : Int32) : (Nat → Int8) := f_X0_markHour_f (x.2.2.1 k.toNatClampNeg) (x.2.2.2 k.toNatClampNeg) y u
noncomputable def f_X3_changeHour_rq6 (x : StV) (k : Int32) (y : Int32) (z : Int32) (u : Int32) : Int32 := f_X0_soldHours_r (x.2.2.1 k.toNatClampNeg) (f_X3_changeHour_fq5 x k y z u)
noncomputable def f_X3_changeHour_x (x : StV) (k : Int32) (y : Int32) (z : Int32) (u : Int32) : StV := (if f_X4_isDrive_r k = 0 then x else (if f_X4_isHour_r y = 0 then x else (if y ≤ f_X3_hourOfNow_r x.1 then x else (if (f_X3_changeHour_rq4 x k y z u) = z then (x.1, x.2.1, (updF x.2.2.1 k.toNatClampNeg (x.2.2.1 k.toNatClampNeg)), (updF x.2.2.2 k.toNatClampNeg (f_X3_changeHour_fq5 x k y z u))) else x))))
noncomputable def f_X3_changeHour_r (x : StV) (k : Int32) (y : Int32) (z : Int32) (u : Int32) : Int32 := (if f_X4_isDrive_r k = 0 then (-1) else (if f_X4_isHour_r y = 0 then (-2) else (if y ≤ f_X3_hourOfNow_r x.1 then (-5) else (if (f_X3_changeHour_rq4 x k y z u) = z then (f_X3_changeHour_rq6 x k y z u) else (-5)))))
set_option maxRecDepth 100000 in
set_option maxHeartbeats 4000000 in
theorem m_X3_changeHour (l : Launch) (G : GG) (ad : Nat → Nat) (x : StV) (k : Int32) (y : Int32) (z : Int32) (u : Int32)  : CtI l yX3_changeHour cX3_changeHour 5 (some .int) (RM 2) G [.ref (ad 0), .int k, .int y, .int z, .int u] (cSt G ad x) (f_X3_changeHour_r x k y z u) (cSt G ad (f_X3_changeHour_x x k y z u)) := by
  refine ct_I RX3 [(0, .ref (ad 0)), (1, .int k), (2, .int y), (3, .int z), (4, .int u)] rfl (by decide +kernel) (Nat.le_of_ble_eq_true rfl) rfl ?_
  intro p e s m args below meth c A C hr hk hnm
  generalize hQ : (MQ below (PostI G A (f_X3_changeHour_r x k y z u) (cSt G ad (f_X3_changeHour_x x k y z u))) args s (RM 2).cells (RM 2).slots A) = Q
  refine j_w (fl [cSt G ad x]) (fl_one _).symm ?_
  refine j_iload_n C dX3_changeHour_0 1 rfl ?_
  refine j_pureSN_i (r := f_X4_isDrive_r k) C (m_X4_isDrive l G k) 1 kw_241 (List.mem_of_getElem? (i := 2) rfl) kw_1 kw_240 (by decide +kernel) ⟨(Nat.le_of_ble_eq_true rfl), (Nat.le_of_ble_eq_true rfl)⟩ rfl rfl (Nat.le_of_ble_eq_true rfl) dX3_changeHour_1 ⟨(Nat.le_of_ble_eq_true rfl), (Nat.le_of_ble_eq_true rfl)⟩ ?_
  refine j_if_ne (tgt := 9) C dX3_changeHour_4 (by decide) (fun c4 => ?_) (fun c4 => ?_)
  · refine j_iload_n C dX3_changeHour_9 2 rfl ?_
    refine j_pureSN_i (r := f_X4_isHour_r y) C (m_X4_isHour l G y) 1 kw_185 (List.mem_of_getElem? (i := 3) rfl) kw_1 kw_184 (by decide +kernel) ⟨(Nat.le_of_ble_eq_true rfl), (Nat.le_of_ble_eq_true rfl)⟩ rfl rfl (Nat.le_of_ble_eq_true rfl) dX3_changeHour_10 ⟨(Nat.le_of_ble_eq_true rfl), (Nat.le_of_ble_eq_true rfl)⟩ ?_
    refine j_if_ne (tgt := 19) C dX3_changeHour_13 (by decide) (fun c13 => ?_) (fun c13 => ?_)
    · refine j_iload_n C dX3_changeHour_19 2 rfl ?_
      refine j_aload_n C dX3_changeHour_20 0 rfl ?_
      refine j_w (fl [[oS (ad 0) (ad 1) (ad 2) x.1], [aI G (ad 1) 7 x.2.1], [aD G (ad 2) 4 (fun k => some (ad (3 + 2 * k)))], cDrs G ad x.2.2.1 x.2.2.2]) rfl ?_
      refine j_callV_i (r := f_X3_hourOfNow_r x.1) (wc' := [oS (ad 0) (ad 1) (ad 2) x.1]) C (m_X3_hourOfNow l G (ad 0) (ad 1) (ad 2) x.1) rfl 0 rfl 0 (gV kw_172 kw_173 kw_174 kw_2 kw_175) (by decide +kernel) ⟨(Nat.le_of_ble_eq_true rfl), (Nat.le_of_ble_eq_true rfl)⟩ rfl rfl (Nat.le_of_ble_eq_true rfl) dX3_changeHour_21 ⟨(Nat.le_of_ble_eq_true rfl), (Nat.le_of_ble_eq_true rfl)⟩ (fl [[aI G (ad 1) 7 x.2.1], [aD G (ad 2) 4 (fun k => some (ad (3 + 2 * k)))], cDrs G ad x.2.2.1 x.2.2.2]) (fl [[oS (ad 0) (ad 1) (ad 2) x.1], [aI G (ad 1) 7 x.2.1], [aD G (ad 2) 4 (fun k => some (ad (3 + 2 * k)))], cDrs G ad x.2.2.1 x.2.2.2]) (bperm (bs' := [[oS (ad 0) (ad 1) (ad 2) x.1], [aI G (ad 1) 7 x.2.1], [aD G (ad 2) 4 (fun k => some (ad (3 + 2 * k)))], cDrs G ad x.2.2.1 x.2.2.2]) [0, 1, 2, 3] 4 rfl (by decide +kernel) rfl) rfl ?_
      refine j_icmp_le (tgt := 41) C dX3_changeHour_24 (by decide) (fun c24 => ?_) (fun c24 => ?_)
      · refine j_bipush (v := (-5)) C dX3_changeHour_41 (by decide) ?_
        refine j_w (fl [cSt G ad x]) rfl ?_
        refine j_w (cSt G ad x) (fl_one _) ?_
        subst hQ; exact j_iret C hr hk ((show f_X3_changeHour_r x k y z u = (-5) from ((if_neg c4).trans ((if_neg c13).trans (if_pos c24)))).symm) (by rw [show f_X3_changeHour_x x k y z u = x from ((if_neg c4).trans ((if_neg c13).trans (if_pos c24)))]) dX3_changeHour_43
      · refine j_aload_n C dX3_changeHour_27 0 rfl ?_
        refine j_get C kin3 rfl 0 rfl 1 (by decide) kw_76 rfl (v := .ref (ad 2)) rfl dX3_changeHour_28 ?_
        refine j_iload_n C dX3_changeHour_31 1 rfl ?_
        refine j_perm (fl [cDrs G ad x.2.2.1 x.2.2.2, [oS (ad 0) (ad 1) (ad 2) x.1], [aI G (ad 1) 7 x.2.1], [aD G (ad 2) 4 (fun k => some (ad (3 + 2 * k)))]]) (bperm [3, 0, 1, 2] 4 rfl (by decide +kernel) rfl) ?_
        refine j_perm (fl [[oD (ad (3 + 2 * k.toNatClampNeg)) (ad (4 + 2 * k.toNatClampNeg)) (x.2.2.1 k.toNatClampNeg)], [aB G (ad (4 + 2 * k.toNatClampNeg)) (x.2.2.2 k.toNatClampNeg)], cRs G ad x.2.2.1 x.2.2.2 k.toNatClampNeg, [oS (ad 0) (ad 1) (ad 2) x.1], [aI G (ad 1) 7 x.2.1], [aD G (ad 2) 4 (fun k => some (ad (3 + 2 * k)))]]) (open_at (openDrs G ad x.2.2.1 x.2.2.2 k.toNatClampNeg (vin_nat (lt_drive c4)))) ?_
        refine j_perm (fl [[oD (ad (3 + 2 * k.toNatClampNeg)) (ad (4 + 2 * k.toNatClampNeg)) (x.2.2.1 k.toNatClampNeg)], [aB G (ad (4 + 2 * k.toNatClampNeg)) (x.2.2.2 k.toNatClampNeg)], [oS (ad 0) (ad 1) (ad 2) x.1], [aI G (ad 1) 7 x.2.1], [aD G (ad 2) 4 (fun k => some (ad (3 + 2 * k)))], cRs G ad x.2.2.1 x.2.2.2 k.toNatClampNeg]) (bperm [0, 1, 3, 4, 5, 2] 6 rfl (by decide +kernel) rfl) ?_
        refine j_aaldD C 4 rfl (lt_drive c4) (y := ad (3 + 2 * k.toNatClampNeg)) rfl dX3_changeHour_32 ?_
        refine j_iload_n C dX3_changeHour_33 2 rfl ?_
        refine j_callV_i (r := f_X0_hourState_r (x.2.2.1 k.toNatClampNeg) (x.2.2.2 k.toNatClampNeg) y) (wc' := [oD (ad (3 + 2 * k.toNatClampNeg)) (ad (4 + 2 * k.toNatClampNeg)) (x.2.2.1 k.toNatClampNeg), aB G (ad (4 + 2 * k.toNatClampNeg)) (x.2.2.2 k.toNatClampNeg)]) C (m_X0_hourState l G (ad (3 + 2 * k.toNatClampNeg)) (ad (4 + 2 * k.toNatClampNeg)) (x.2.2.1 k.toNatClampNeg) (x.2.2.2 k.toNatClampNeg) y) rfl 0 rfl 1 (gV kw_189 kw_181 kw_182 kw_4 kw_183) (by decide +kernel) ⟨(Nat.le_of_ble_eq_true rfl), (Nat.le_of_ble_eq_true rfl)⟩ rfl rfl (Nat.le_of_ble_eq_true rfl) dX3_changeHour_34 ⟨(Nat.le_of_ble_eq_true rfl), (Nat.le_of_ble_eq_true rfl)⟩ (fl [[oS (ad 0) (ad 1) (ad 2) x.1], [aI G (ad 1) 7 x.2.1], [aD G (ad 2) 4 (fun k => some (ad (3 + 2 * k)))], cRs G ad x.2.2.1 x.2.2.2 k.toNatClampNeg]) (fl [[oD (ad (3 + 2 * k.toNatClampNeg)) (ad (4 + 2 * k.toNatClampNeg)) (x.2.2.1 k.toNatClampNeg)], [aB G (ad (4 + 2 * k.toNatClampNeg)) (x.2.2.2 k.toNatClampNeg)], [oS (ad 0) (ad 1) (ad 2) x.1], [aI G (ad 1) 7 x.2.1], [aD G (ad 2) 4 (fun k => some (ad (3 + 2 * k)))], cRs G ad x.2.2.1 x.2.2.2 k.toNatClampNeg]) (bperm (bs' := [[oD (ad (3 + 2 * k.toNatClampNeg)) (ad (4 + 2 * k.toNatClampNeg)) (x.2.2.1 k.toNatClampNeg)], [aB G (ad (4 + 2 * k.toNatClampNeg)) (x.2.2.2 k.toNatClampNeg)], [oS (ad 0) (ad 1) (ad 2) x.1], [aI G (ad 1) 7 x.2.1], [aD G (ad 2) 4 (fun k => some (ad (3 + 2 * k)))], cRs G ad x.2.2.1 x.2.2.2 k.toNatClampNeg]) [0, 1, 2, 3, 4, 5] 6 rfl (by decide +kernel) rfl) rfl ?_
        generalize hzw0 : f_X0_hourState_r (x.2.2.1 k.toNatClampNeg) (x.2.2.2 k.toNatClampNeg) y = w0
        have hw0 : f_X3_changeHour_rq4 x k y z u = w0 := by subst hzw0; rfl
        refine j_iload_n C dX3_changeHour_37 3 rfl ?_
        refine j_icmp_eq (tgt := 44) C dX3_changeHour_38 (by decide) (fun c38 => ?_) (fun c38 => ?_)
        · refine j_aload_n C dX3_changeHour_44 0 rfl ?_
          refine j_get C kin3 rfl 2 rfl 1 (by decide) kw_76 rfl (v := .ref (ad 2)) rfl dX3_changeHour_45 ?_
          refine j_iload_n C dX3_changeHour_48 1 rfl ?_
          refine j_aaldD C 4 rfl (lt_drive c4) (y := ad (3 + 2 * k.toNatClampNeg)) rfl dX3_changeHour_49 ?_
          refine j_iload_n C dX3_changeHour_50 2 rfl ?_
          refine j_iload C dX3_changeHour_51 4 rfl ?_
          refine j_callV_v (wc' := [oD (ad (3 + 2 * k.toNatClampNeg)) (ad (4 + 2 * k.toNatClampNeg)) (x.2.2.1 k.toNatClampNeg), aB G (ad (4 + 2 * k.toNatClampNeg)) (f_X0_markHour_f (x.2.2.1 k.toNatClampNeg) (x.2.2.2 k.toNatClampNeg) y u)]) C (m_X0_markHour l G (ad (3 + 2 * k.toNatClampNeg)) (ad (4 + 2 * k.toNatClampNeg)) (x.2.2.1 k.toNatClampNeg) (x.2.2.2 k.toNatClampNeg) y u) rfl 0 rfl 2 (gV kw_190 kw_191 kw_192 kw_4 kw_193) (by decide +kernel) ⟨(Nat.le_of_ble_eq_true rfl), (Nat.le_of_ble_eq_true rfl)⟩ rfl rfl (Nat.le_of_ble_eq_true rfl) dX3_changeHour_53 ⟨(Nat.le_of_ble_eq_true rfl), (Nat.le_of_ble_eq_true rfl)⟩ (fl [[oS (ad 0) (ad 1) (ad 2) x.1], [aI G (ad 1) 7 x.2.1], [aD G (ad 2) 4 (fun k => some (ad (3 + 2 * k)))], cRs G ad x.2.2.1 x.2.2.2 k.toNatClampNeg]) (fl [[oD (ad (3 + 2 * k.toNatClampNeg)) (ad (4 + 2 * k.toNatClampNeg)) (x.2.2.1 k.toNatClampNeg)], [aB G (ad (4 + 2 * k.toNatClampNeg)) (f_X0_markHour_f (x.2.2.1 k.toNatClampNeg) (x.2.2.2 k.toNatClampNeg) y u)], [oS (ad 0) (ad 1) (ad 2) x.1], [aI G (ad 1) 7 x.2.1], [aD G (ad 2) 4 (fun k => some (ad (3 + 2 * k)))], cRs G ad x.2.2.1 x.2.2.2 k.toNatClampNeg]) (bperm (bs' := [[oD (ad (3 + 2 * k.toNatClampNeg)) (ad (4 + 2 * k.toNatClampNeg)) (x.2.2.1 k.toNatClampNeg)], [aB G (ad (4 + 2 * k.toNatClampNeg)) (x.2.2.2 k.toNatClampNeg)], [oS (ad 0) (ad 1) (ad 2) x.1], [aI G (ad 1) 7 x.2.1], [aD G (ad 2) 4 (fun k => some (ad (3 + 2 * k)))], cRs G ad x.2.2.1 x.2.2.2 k.toNatClampNeg]) [0, 1, 2, 3, 4, 5] 6 rfl (by decide +kernel) rfl) rfl ?_
          generalize hzw1 : f_X0_markHour_f (x.2.2.1 k.toNatClampNeg) (x.2.2.2 k.toNatClampNeg) y u = w1
          have hw1 : f_X3_changeHour_fq5 x k y z u = w1 := by subst hw0; subst hzw1; rfl
          refine j_aload_n C dX3_changeHour_56 0 rfl ?_
          refine j_get C kin3 rfl 2 rfl 1 (by decide) kw_76 rfl (v := .ref (ad 2)) rfl dX3_changeHour_57 ?_
          refine j_iload_n C dX3_changeHour_60 1 rfl ?_
          refine j_aaldD C 4 rfl (lt_drive c4) (y := ad (3 + 2 * k.toNatClampNeg)) rfl dX3_changeHour_61 ?_
          refine j_callV_i (r := f_X0_soldHours_r (x.2.2.1 k.toNatClampNeg) w1) (wc' := [oD (ad (3 + 2 * k.toNatClampNeg)) (ad (4 + 2 * k.toNatClampNeg)) (x.2.2.1 k.toNatClampNeg), aB G (ad (4 + 2 * k.toNatClampNeg)) w1]) C (m_X0_soldHours l G (ad (3 + 2 * k.toNatClampNeg)) (ad (4 + 2 * k.toNatClampNeg)) (x.2.2.1 k.toNatClampNeg) w1) rfl 0 rfl 0 (gV kw_309 kw_245 kw_246 kw_4 kw_247) (by decide +kernel) ⟨(Nat.le_of_ble_eq_true rfl), (Nat.le_of_ble_eq_true rfl)⟩ rfl rfl (Nat.le_of_ble_eq_true rfl) dX3_changeHour_62 ⟨(Nat.le_of_ble_eq_true rfl), (Nat.le_of_ble_eq_true rfl)⟩ (fl [[oS (ad 0) (ad 1) (ad 2) x.1], [aI G (ad 1) 7 x.2.1], [aD G (ad 2) 4 (fun k => some (ad (3 + 2 * k)))], cRs G ad x.2.2.1 x.2.2.2 k.toNatClampNeg]) (fl [[oD (ad (3 + 2 * k.toNatClampNeg)) (ad (4 + 2 * k.toNatClampNeg)) (x.2.2.1 k.toNatClampNeg)], [aB G (ad (4 + 2 * k.toNatClampNeg)) w1], [oS (ad 0) (ad 1) (ad 2) x.1], [aI G (ad 1) 7 x.2.1], [aD G (ad 2) 4 (fun k => some (ad (3 + 2 * k)))], cRs G ad x.2.2.1 x.2.2.2 k.toNatClampNeg]) (bperm (bs' := [[oD (ad (3 + 2 * k.toNatClampNeg)) (ad (4 + 2 * k.toNatClampNeg)) (x.2.2.1 k.toNatClampNeg)], [aB G (ad (4 + 2 * k.toNatClampNeg)) w1], [oS (ad 0) (ad 1) (ad 2) x.1], [aI G (ad 1) 7 x.2.1], [aD G (ad 2) 4 (fun k => some (ad (3 + 2 * k)))], cRs G ad x.2.2.1 x.2.2.2 k.toNatClampNeg]) [0, 1, 2, 3, 4, 5] 6 rfl (by decide +kernel) rfl) rfl ?_
          generalize hzw2 : f_X0_soldHours_r (x.2.2.1 k.toNatClampNeg) w1 = w2
          have hw2 : f_X3_changeHour_rq6 x k y z u = w2 := by subst hw0 hw1; subst hzw2; rfl
          refine j_perm (fl [[oD (ad (3 + 2 * k.toNatClampNeg)) (ad (4 + 2 * k.toNatClampNeg)) (x.2.2.1 k.toNatClampNeg)], [aB G (ad (4 + 2 * k.toNatClampNeg)) w1], cRs G ad x.2.2.1 x.2.2.2 k.toNatClampNeg, [oS (ad 0) (ad 1) (ad 2) x.1], [aI G (ad 1) 7 x.2.1], [aD G (ad 2) 4 (fun k => some (ad (3 + 2 * k)))]]) (bperm [0, 1, 5, 2, 3, 4] 6 rfl (by decide +kernel) rfl) ?_
          refine j_perm (fl [cDrs G ad (updF x.2.2.1 k.toNatClampNeg (x.2.2.1 k.toNatClampNeg)) (updF x.2.2.2 k.toNatClampNeg w1), [oS (ad 0) (ad 1) (ad 2) x.1], [aI G (ad 1) 7 x.2.1], [aD G (ad 2) 4 (fun k => some (ad (3 + 2 * k)))]]) (shut_at (bs := [[oD (ad (3 + 2 * k.toNatClampNeg)) (ad (4 + 2 * k.toNatClampNeg)) (x.2.2.1 k.toNatClampNeg)], [aB G (ad (4 + 2 * k.toNatClampNeg)) w1], cRs G ad x.2.2.1 x.2.2.2 k.toNatClampNeg]) (closeDrs G ad x.2.2.1 x.2.2.2 k.toNatClampNeg (vin_nat (lt_drive c4)) _ _)) ?_
          refine j_perm (fl [[oS (ad 0) (ad 1) (ad 2) x.1], [aI G (ad 1) 7 x.2.1], [aD G (ad 2) 4 (fun k => some (ad (3 + 2 * k)))], cDrs G ad (updF x.2.2.1 k.toNatClampNeg (x.2.2.1 k.toNatClampNeg)) (updF x.2.2.2 k.toNatClampNeg w1)]) (bperm [1, 2, 3, 0] 4 rfl (by decide +kernel) rfl) ?_
          refine j_w (fl [cSt G ad (x.1, x.2.1, (updF x.2.2.1 k.toNatClampNeg (x.2.2.1 k.toNatClampNeg)), (updF x.2.2.2 k.toNatClampNeg w1))]) rfl ?_
          refine j_w (cSt G ad (x.1, x.2.1, (updF x.2.2.1 k.toNatClampNeg (x.2.2.1 k.toNatClampNeg)), (updF x.2.2.2 k.toNatClampNeg w1))) (fl_one _) ?_
          subst hQ; subst hw0 hw1 hw2; exact j_iret C hr hk ((show f_X3_changeHour_r x k y z u = (f_X3_changeHour_rq6 x k y z u) from ((if_neg c4).trans ((if_neg c13).trans ((if_neg c24).trans (if_pos c38))))).symm) (by rw [show f_X3_changeHour_x x k y z u = (x.1, x.2.1, (updF x.2.2.1 k.toNatClampNeg (x.2.2.1 k.toNatClampNeg)), (updF x.2.2.2 k.toNatClampNeg (f_X3_changeHour_fq5 x k y z u))) from ((if_neg c4).trans ((if_neg c13).trans ((if_neg c24).trans (if_pos c38))))]) dX3_changeHour_65
        · refine j_bipush (v := (-5)) C dX3_changeHour_41 (by decide) ?_
          refine j_perm (fl [[oD (ad (3 + 2 * k.toNatClampNeg)) (ad (4 + 2 * k.toNatClampNeg)) (x.2.2.1 k.toNatClampNeg)], [aB G (ad (4 + 2 * k.toNatClampNeg)) (x.2.2.2 k.toNatClampNeg)], cRs G ad x.2.2.1 x.2.2.2 k.toNatClampNeg, [oS (ad 0) (ad 1) (ad 2) x.1], [aI G (ad 1) 7 x.2.1], [aD G (ad 2) 4 (fun k => some (ad (3 + 2 * k)))]]) (bperm [0, 1, 5, 2, 3, 4] 6 rfl (by decide +kernel) rfl) ?_
          refine j_perm (fl [cDrs G ad x.2.2.1 x.2.2.2, [oS (ad 0) (ad 1) (ad 2) x.1], [aI G (ad 1) 7 x.2.1], [aD G (ad 2) 4 (fun k => some (ad (3 + 2 * k)))]]) (shut_at (bs := [[oD (ad (3 + 2 * k.toNatClampNeg)) (ad (4 + 2 * k.toNatClampNeg)) (x.2.2.1 k.toNatClampNeg)], [aB G (ad (4 + 2 * k.toNatClampNeg)) (x.2.2.2 k.toNatClampNeg)], cRs G ad x.2.2.1 x.2.2.2 k.toNatClampNeg]) (openDrs G ad x.2.2.1 x.2.2.2 k.toNatClampNeg (vin_nat (lt_drive c4))).symm) ?_
          refine j_perm (fl [[oS (ad 0) (ad 1) (ad 2) x.1], [aI G (ad 1) 7 x.2.1], [aD G (ad 2) 4 (fun k => some (ad (3 + 2 * k)))], cDrs G ad x.2.2.1 x.2.2.2]) (bperm [1, 2, 3, 0] 4 rfl (by decide +kernel) rfl) ?_
          refine j_w (fl [cSt G ad x]) rfl ?_
          refine j_w (cSt G ad x) (fl_one _) ?_
          subst hQ; subst hw0; exact j_iret C hr hk ((show f_X3_changeHour_r x k y z u = (-5) from ((if_neg c4).trans ((if_neg c13).trans ((if_neg c24).trans (if_neg c38))))).symm) (by rw [show f_X3_changeHour_x x k y z u = x from ((if_neg c4).trans ((if_neg c13).trans ((if_neg c24).trans (if_neg c38))))]) dX3_changeHour_43
    · refine j_bipush (v := (-2)) C dX3_changeHour_16 (by decide) ?_
      refine j_w (cSt G ad x) (fl_one _) ?_
      subst hQ; exact j_iret C hr hk ((show f_X3_changeHour_r x k y z u = (-2) from ((if_neg c4).trans (if_pos c13))).symm) (by rw [show f_X3_changeHour_x x k y z u = x from ((if_neg c4).trans (if_pos c13))]) dX3_changeHour_18
  · refine j_iconst (v := (-1)) C dX3_changeHour_7 (by decide) ?_
    refine j_w (cSt G ad x) (fl_one _) ?_
    subst hQ; exact j_iret C hr hk ((show f_X3_changeHour_r x k y z u = (-1) from (if_pos c4)).symm) (by rw [show f_X3_changeHour_x x k y z u = x from (if_pos c4)]) dX3_changeHour_8
noncomputable def f_X3_sellHour_x (x : StV) (k : Int32) (y : Int32) : StV := f_X3_changeHour_x x k y 0 1
noncomputable def f_X3_sellHour_r (x : StV) (k : Int32) (y : Int32) : Int32 := f_X3_changeHour_r x k y 0 1
set_option maxRecDepth 100000 in
set_option maxHeartbeats 4000000 in
theorem m_X3_sellHour (l : Launch) (G : GG) (ad : Nat → Nat) (x : StV) (k : Int32) (y : Int32)  : CtI l yX3_sellHour cX3_sellHour 3 (some .int) (RM 3) G [.ref (ad 0), .int k, .int y] (cSt G ad x) (f_X3_sellHour_r x k y) (cSt G ad (f_X3_sellHour_x x k y)) := by
  refine ct_I RX3 [(0, .ref (ad 0)), (1, .int k), (2, .int y)] rfl (by decide +kernel) (Nat.le_of_ble_eq_true rfl) rfl ?_
  intro p e s m args below meth c A C hr hk hnm
  generalize hQ : (MQ below (PostI G A (f_X3_sellHour_r x k y) (cSt G ad (f_X3_sellHour_x x k y))) args s (RM 3).cells (RM 3).slots A) = Q
  refine j_w (fl [cSt G ad x]) (fl_one _).symm ?_
  refine j_aload_n C dX3_sellHour_0 0 rfl ?_
  refine j_iload_n C dX3_sellHour_1 1 rfl ?_
  refine j_iload_n C dX3_sellHour_2 2 rfl ?_
  refine j_iconst (v := 0) C dX3_sellHour_3 (by decide) ?_
  refine j_iconst (v := 1) C dX3_sellHour_4 (by decide) ?_
  refine j_callV_i (r := f_X3_changeHour_r x k y 0 1) (wc' := cSt G ad (f_X3_changeHour_x x k y 0 1)) C (m_X3_changeHour l G ad x k y 0 1) rfl 0 rfl 4 (gV kw_306 kw_307 kw_348 kw_2 kw_308) (by decide +kernel) ⟨(Nat.le_of_ble_eq_true rfl), (Nat.le_of_ble_eq_true rfl)⟩ rfl rfl (Nat.le_of_ble_eq_true rfl) dX3_sellHour_5 ⟨(Nat.le_of_ble_eq_true rfl), (Nat.le_of_ble_eq_true rfl)⟩ (fl []) (fl [cSt G ad (f_X3_changeHour_x x k y 0 1)]) (bperm (bs' := [cSt G ad x]) [0] 1 rfl (by decide +kernel) rfl) rfl ?_
  refine j_w (cSt G ad (f_X3_changeHour_x x k y 0 1)) (fl_one _) ?_
  subst hQ; exact j_iret C hr hk ((show f_X3_sellHour_r x k y = f_X3_changeHour_r x k y 0 1 from rfl).symm) (by rw [show f_X3_sellHour_x x k y = f_X3_changeHour_x x k y 0 1 from rfl]) dX3_sellHour_8
noncomputable def f_X3_takeHourBack_x (x : StV) (k : Int32) (y : Int32) : StV := f_X3_changeHour_x x k y 1 0
noncomputable def f_X3_takeHourBack_r (x : StV) (k : Int32) (y : Int32) : Int32 := f_X3_changeHour_r x k y 1 0
set_option maxRecDepth 100000 in
set_option maxHeartbeats 4000000 in
theorem m_X3_takeHourBack (l : Launch) (G : GG) (ad : Nat → Nat) (x : StV) (k : Int32) (y : Int32)  : CtI l yX3_takeHourBack cX3_takeHourBack 3 (some .int) (RM 3) G [.ref (ad 0), .int k, .int y] (cSt G ad x) (f_X3_takeHourBack_r x k y) (cSt G ad (f_X3_takeHourBack_x x k y)) := by
  refine ct_I RX3 [(0, .ref (ad 0)), (1, .int k), (2, .int y)] rfl (by decide +kernel) (Nat.le_of_ble_eq_true rfl) rfl ?_
  intro p e s m args below meth c A C hr hk hnm
  generalize hQ : (MQ below (PostI G A (f_X3_takeHourBack_r x k y) (cSt G ad (f_X3_takeHourBack_x x k y))) args s (RM 3).cells (RM 3).slots A) = Q
  refine j_w (fl [cSt G ad x]) (fl_one _).symm ?_
  refine j_aload_n C dX3_takeHourBack_0 0 rfl ?_
  refine j_iload_n C dX3_takeHourBack_1 1 rfl ?_
  refine j_iload_n C dX3_takeHourBack_2 2 rfl ?_
  refine j_iconst (v := 1) C dX3_takeHourBack_3 (by decide) ?_
  refine j_iconst (v := 0) C dX3_takeHourBack_4 (by decide) ?_
  refine j_callV_i (r := f_X3_changeHour_r x k y 1 0) (wc' := cSt G ad (f_X3_changeHour_x x k y 1 0)) C (m_X3_changeHour l G ad x k y 1 0) rfl 0 rfl 4 (gV kw_306 kw_307 kw_348 kw_2 kw_308) (by decide +kernel) ⟨(Nat.le_of_ble_eq_true rfl), (Nat.le_of_ble_eq_true rfl)⟩ rfl rfl (Nat.le_of_ble_eq_true rfl) dX3_takeHourBack_5 ⟨(Nat.le_of_ble_eq_true rfl), (Nat.le_of_ble_eq_true rfl)⟩ (fl []) (fl [cSt G ad (f_X3_changeHour_x x k y 1 0)]) (bperm (bs' := [cSt G ad x]) [0] 1 rfl (by decide +kernel) rfl) rfl ?_
  refine j_w (cSt G ad (f_X3_changeHour_x x k y 1 0)) (fl_one _) ?_
  subst hQ; exact j_iret C hr hk ((show f_X3_takeHourBack_r x k y = f_X3_changeHour_r x k y 1 0 from rfl).symm) (by rw [show f_X3_takeHourBack_x x k y = f_X3_changeHour_x x k y 1 0 from rfl]) dX3_takeHourBack_8
