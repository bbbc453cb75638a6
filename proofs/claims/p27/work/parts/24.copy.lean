/-! COPIES -/
set_option maxRecDepth 100000 in
set_option maxHeartbeats 4000000 in
theorem m_X0_copyFrom (l : Launch) (G : GG) (a b h g : Nat) (v : DO) (f : Nat → Int8) (o : DO) (q : Nat → Int8)  : CtV l yX0_copyFrom cX0_copyFrom 2 (none : Option Jvm.ClassFile.FieldType) (RM 1) G [.ref a, .ref b] ([oD a h v, aB G h f, oD b g o, aB G g q]) ([oD a h o, aB G h q, oD b g o, aB G g q]) := by
  refine ct_V RX0 [(0, .ref a), (1, .ref b)] rfl (by decide +kernel) (Nat.le_of_ble_eq_true rfl) rfl ?_
  intro p e s m args below meth c A C hr hk hnm
  generalize hQ : (MQ below (PostV G A ([oD a h o, aB G h q, oD b g o, aB G g q])) args s (RM 1).cells (RM 1).slots A) = Q
  refine j_aload_n C dX0_copyFrom_0 0 rfl ?_
  refine j_aload_n C dX0_copyFrom_1 1 rfl ?_
  refine j_get C kin0 rfl 2 rfl 0 (by decide) kw_30 rfl (v := .int (o.1 0)) rfl dX0_copyFrom_2 ?_
  refine j_put C kin0 rfl 0 rfl 0 (by decide) kw_30 rfl tyX0 tyX0_ok nmX0 rfl rfl rfl (Nat.le_of_ble_eq_true rfl) ([oD a h (upd v.1 0 (o.1 0), v.2), aB G h f, oD b g o, aB G g q]) rfl dX0_copyFrom_5 ?_
  refine j_aload_n C dX0_copyFrom_8 0 rfl ?_
  refine j_aload_n C dX0_copyFrom_9 1 rfl ?_
  refine j_get C kin0 rfl 2 rfl 1 (by decide) kw_33 rfl (v := .int (o.1 1)) rfl dX0_copyFrom_10 ?_
  refine j_put C kin0 rfl 0 rfl 1 (by decide) kw_33 rfl tyX0 tyX0_ok nmX0 rfl rfl rfl (Nat.le_of_ble_eq_true rfl) ([oD a h (upd (upd v.1 0 (o.1 0)) 1 (o.1 1), v.2), aB G h f, oD b g o, aB G g q]) rfl dX0_copyFrom_13 ?_
  refine j_aload_n C dX0_copyFrom_16 0 rfl ?_
  refine j_aload_n C dX0_copyFrom_17 1 rfl ?_
  refine j_get C kin0 rfl 2 rfl 2 (by decide) kw_36 rfl (v := .int (o.1 2)) rfl dX0_copyFrom_18 ?_
  refine j_put C kin0 rfl 0 rfl 2 (by decide) kw_36 rfl tyX0 tyX0_ok nmX0 rfl rfl rfl (Nat.le_of_ble_eq_true rfl) ([oD a h (upd (upd (upd v.1 0 (o.1 0)) 1 (o.1 1)) 2 (o.1 2), v.2), aB G h f, oD b g o, aB G g q]) rfl dX0_copyFrom_21 ?_
  refine j_aload_n C dX0_copyFrom_24 0 rfl ?_
  refine j_aload_n C dX0_copyFrom_25 1 rfl ?_
  refine j_get C kin0 rfl 2 rfl 3 (by decide) kw_38 rfl (v := .int (o.1 3)) rfl dX0_copyFrom_26 ?_
  refine j_put C kin0 rfl 0 rfl 3 (by decide) kw_38 rfl tyX0 tyX0_ok nmX0 rfl rfl rfl (Nat.le_of_ble_eq_true rfl) ([oD a h (upd (upd (upd (upd v.1 0 (o.1 0)) 1 (o.1 1)) 2 (o.1 2)) 3 (o.1 3), v.2), aB G h f, oD b g o, aB G g q]) rfl dX0_copyFrom_29 ?_
  refine j_aload_n C dX0_copyFrom_32 0 rfl ?_
  refine j_aload_n C dX0_copyFrom_33 1 rfl ?_
  refine j_get C kin0 rfl 2 rfl 4 (by decide) kw_41 rfl (v := .int (b01 (o.1 4))) rfl dX0_copyFrom_34 ?_
  refine j_put C kin0 rfl 0 rfl 4 (by decide) kw_41 rfl tyX0 tyX0_ok nmX0 rfl (nar_b01 _) (fit_b01 _) (Nat.le_of_ble_eq_true rfl) ([oD a h (upd (upd (upd (upd (upd v.1 0 (o.1 0)) 1 (o.1 1)) 2 (o.1 2)) 3 (o.1 3)) 4 (o.1 4), v.2), aB G h f, oD b g o, aB G g q]) rfl dX0_copyFrom_37 ?_
  refine j_aload_n C dX0_copyFrom_40 0 rfl ?_
  refine j_aload_n C dX0_copyFrom_41 1 rfl ?_
  refine j_get C kin0 rfl 2 rfl 5 (by decide) kw_44 rfl (v := .int (o.1 5)) rfl dX0_copyFrom_42 ?_
  refine j_put C kin0 rfl 0 rfl 5 (by decide) kw_44 rfl tyX0 tyX0_ok nmX0 rfl rfl rfl (Nat.le_of_ble_eq_true rfl) ([oD a h (upd (upd (upd (upd (upd (upd v.1 0 (o.1 0)) 1 (o.1 1)) 2 (o.1 2)) 3 (o.1 3)) 4 (o.1 4)) 5 (o.1 5), v.2), aB G h f, oD b g o, aB G g q]) rfl dX0_copyFrom_45 ?_
  refine j_aload_n C dX0_copyFrom_48 0 rfl ?_
  refine j_aload_n C dX0_copyFrom_49 1 rfl ?_
  refine j_get C kin0 rfl 2 rfl 6 (by decide) kw_46 rfl (v := .int (o.1 6)) rfl dX0_copyFrom_50 ?_
  refine j_put C kin0 rfl 0 rfl 6 (by decide) kw_46 rfl tyX0 tyX0_ok nmX0 rfl rfl rfl (Nat.le_of_ble_eq_true rfl) ([oD a h (upd (upd (upd (upd (upd (upd (upd v.1 0 (o.1 0)) 1 (o.1 1)) 2 (o.1 2)) 3 (o.1 3)) 4 (o.1 4)) 5 (o.1 5)) 6 (o.1 6), v.2), aB G h f, oD b g o, aB G g q]) rfl dX0_copyFrom_53 ?_
  refine j_aload_n C dX0_copyFrom_56 0 rfl ?_
  refine j_aload_n C dX0_copyFrom_57 1 rfl ?_
  refine j_get C kin0 rfl 2 rfl 7 (by decide) kw_48 rfl (v := .int (o.1 7)) rfl dX0_copyFrom_58 ?_
  refine j_put C kin0 rfl 0 rfl 7 (by decide) kw_48 rfl tyX0 tyX0_ok nmX0 rfl rfl rfl (Nat.le_of_ble_eq_true rfl) ([oD a h (upd (upd (upd (upd (upd (upd (upd (upd v.1 0 (o.1 0)) 1 (o.1 1)) 2 (o.1 2)) 3 (o.1 3)) 4 (o.1 4)) 5 (o.1 5)) 6 (o.1 6)) 7 (o.1 7), v.2), aB G h f, oD b g o, aB G g q]) rfl dX0_copyFrom_61 ?_
  refine j_aload_n C dX0_copyFrom_64 0 rfl ?_
  refine j_aload_n C dX0_copyFrom_65 1 rfl ?_
  refine j_get C kin0 rfl 2 rfl 8 (by decide) kw_51 rfl (v := .int (o.1 8)) rfl dX0_copyFrom_66 ?_
  refine j_put C kin0 rfl 0 rfl 8 (by decide) kw_51 rfl tyX0 tyX0_ok nmX0 rfl rfl rfl (Nat.le_of_ble_eq_true rfl) ([oD a h (upd (upd (upd (upd (upd (upd (upd (upd (upd v.1 0 (o.1 0)) 1 (o.1 1)) 2 (o.1 2)) 3 (o.1 3)) 4 (o.1 4)) 5 (o.1 5)) 6 (o.1 6)) 7 (o.1 7)) 8 (o.1 8), v.2), aB G h f, oD b g o, aB G g q]) rfl dX0_copyFrom_69 ?_
  refine j_aload_n C dX0_copyFrom_72 0 rfl ?_
  refine j_aload_n C dX0_copyFrom_73 1 rfl ?_
  refine j_get C kin0 rfl 2 rfl 9 (by decide) kw_54 rfl (v := .int (o.1 9)) rfl dX0_copyFrom_74 ?_
  refine j_put C kin0 rfl 0 rfl 9 (by decide) kw_54 rfl tyX0 tyX0_ok nmX0 rfl rfl rfl (Nat.le_of_ble_eq_true rfl) ([oD a h (upd (upd (upd (upd (upd (upd (upd (upd (upd (upd v.1 0 (o.1 0)) 1 (o.1 1)) 2 (o.1 2)) 3 (o.1 3)) 4 (o.1 4)) 5 (o.1 5)) 6 (o.1 6)) 7 (o.1 7)) 8 (o.1 8)) 9 (o.1 9), v.2), aB G h f, oD b g o, aB G g q]) rfl dX0_copyFrom_77 ?_
  refine j_aload_n C dX0_copyFrom_80 0 rfl ?_
  refine j_aload_n C dX0_copyFrom_81 1 rfl ?_
  refine j_get C kin0 rfl 2 rfl 10 (by decide) kw_57 rfl (v := .long o.2) rfl dX0_copyFrom_82 ?_
  refine j_put C kin0 rfl 0 rfl 10 (by decide) kw_57 rfl tyX0 tyX0_ok nmX0 rfl rfl rfl (Nat.le_of_ble_eq_true rfl) ([oD a h (upd (upd (upd (upd (upd (upd (upd (upd (upd (upd v.1 0 (o.1 0)) 1 (o.1 1)) 2 (o.1 2)) 3 (o.1 3)) 4 (o.1 4)) 5 (o.1 5)) 6 (o.1 6)) 7 (o.1 7)) 8 (o.1 8)) 9 (o.1 9), o.2), aB G h f, oD b g o, aB G g q]) rfl dX0_copyFrom_85 ?_
  refine j_aload_n C dX0_copyFrom_88 1 rfl ?_
  refine j_get C kin0 rfl 2 rfl 11 (by decide) kw_59 rfl (v := .ref g) rfl dX0_copyFrom_89 ?_
  refine j_iconst (v := 0) C dX0_copyFrom_92 (by decide) ?_
  refine j_aload_n C dX0_copyFrom_93 0 rfl ?_
  refine j_get C kin0 rfl 0 rfl 11 (by decide) kw_59 rfl (v := .ref h) rfl dX0_copyFrom_94 ?_
  refine j_iconst (v := 0) C dX0_copyFrom_97 (by decide) ?_
  refine j_bipush (v := 100) C dX0_copyFrom_98 (by decide) ?_
  refine j_copyb C kw_156 3 1 rfl rfl (Nat.le_of_ble_eq_true rfl) (Nat.le_of_ble_eq_true rfl) (Nat.le_of_ble_eq_true rfl) ([oD a h (upd (upd (upd (upd (upd (upd (upd (upd (upd (upd v.1 0 (o.1 0)) 1 (o.1 1)) 2 (o.1 2)) 3 (o.1 3)) 4 (o.1 4)) 5 (o.1 5)) 6 (o.1 6)) 7 (o.1 7)) 8 (o.1 8)) 9 (o.1 9), o.2), aB G h q, oD b g o, aB G g q]) rfl dX0_copyFrom_100 ?_
  subst hQ; exact j_vret C hr hk rfl dX0_copyFrom_103
set_option maxRecDepth 100000 in
set_option maxHeartbeats 4000000 in
theorem m_X3_copyFrom (l : Launch) (G : GG) (ad bd : Nat → Nat) (x : StV) (y : StV)  : CtV l yX3_copyFrom cX3_copyFrom 3 (none : Option Jvm.ClassFile.FieldType) (RM 2) G [.ref (ad 0), .ref (bd 0)] (fl [cSt G ad x, cSt G bd y]) (fl [cSt G ad y, cSt G bd y]) := by
  refine ct_V RX3 [(0, .ref (ad 0)), (1, .ref (bd 0))] rfl (by decide +kernel) (Nat.le_of_ble_eq_true rfl) rfl ?_
  intro p e s m args below meth c A C hr hk hnm
  generalize hQ : (MQ below (PostV G A (fl [cSt G ad y, cSt G bd y])) args s (RM 2).cells (RM 2).slots A) = Q
  refine j_w ([oS (ad 0) (ad 1) (ad 2) x.1, aI G (ad 1) 7 x.2.1, aD G (ad 2) 4 (fun k => some (ad (3 + 2 * k))), oD (ad 3) (ad 4) (x.2.2.1 0), aB G (ad 4) (x.2.2.2 0), oD (ad 5) (ad 6) (x.2.2.1 1), aB G (ad 6) (x.2.2.2 1), oD (ad 7) (ad 8) (x.2.2.1 2), aB G (ad 8) (x.2.2.2 2), oD (ad 9) (ad 10) (x.2.2.1 3), aB G (ad 10) (x.2.2.2 3), oS (bd 0) (bd 1) (bd 2) y.1, aI G (bd 1) 7 y.2.1, aD G (bd 2) 4 (fun k => some (bd (3 + 2 * k))), oD (bd 3) (bd 4) (y.2.2.1 0), aB G (bd 4) (y.2.2.2 0), oD (bd 5) (bd 6) (y.2.2.1 1), aB G (bd 6) (y.2.2.2 1), oD (bd 7) (bd 8) (y.2.2.1 2), aB G (bd 8) (y.2.2.2 2), oD (bd 9) (bd 10) (y.2.2.1 3), aB G (bd 10) (y.2.2.2 3)]) rfl ?_
  refine j_aload_n C dX3_copyFrom_0 1 rfl ?_
  refine j_get C kin3 rfl 11 rfl 0 (by decide) kw_74 rfl (v := .ref (bd 1)) rfl dX3_copyFrom_1 ?_
  refine j_iconst (v := 0) C dX3_copyFrom_4 (by decide) ?_
  refine j_aload_n C dX3_copyFrom_5 0 rfl ?_
  refine j_get C kin3 rfl 0 rfl 0 (by decide) kw_74 rfl (v := .ref (ad 1)) rfl dX3_copyFrom_6 ?_
  refine j_iconst (v := 0) C dX3_copyFrom_9 (by decide) ?_
  refine j_bipush (v := 7) C dX3_copyFrom_10 (by decide) ?_
  refine j_copyI C kw_23 12 1 rfl rfl (Nat.le_of_ble_eq_true rfl) (Nat.le_of_ble_eq_true rfl) (Nat.le_of_ble_eq_true rfl) ([oS (ad 0) (ad 1) (ad 2) x.1, aI G (ad 1) 7 y.2.1, aD G (ad 2) 4 (fun k => some (ad (3 + 2 * k))), oD (ad 3) (ad 4) (x.2.2.1 0), aB G (ad 4) (x.2.2.2 0), oD (ad 5) (ad 6) (x.2.2.1 1), aB G (ad 6) (x.2.2.2 1), oD (ad 7) (ad 8) (x.2.2.1 2), aB G (ad 8) (x.2.2.2 2), oD (ad 9) (ad 10) (x.2.2.1 3), aB G (ad 10) (x.2.2.2 3), oS (bd 0) (bd 1) (bd 2) y.1, aI G (bd 1) 7 y.2.1, aD G (bd 2) 4 (fun k => some (bd (3 + 2 * k))), oD (bd 3) (bd 4) (y.2.2.1 0), aB G (bd 4) (y.2.2.2 0), oD (bd 5) (bd 6) (y.2.2.1 1), aB G (bd 6) (y.2.2.2 1), oD (bd 7) (bd 8) (y.2.2.1 2), aB G (bd 8) (y.2.2.2 2), oD (bd 9) (bd 10) (y.2.2.1 3), aB G (bd 10) (y.2.2.2 3)]) rfl dX3_copyFrom_12 ?_
  refine j_iconst (v := 0) C dX3_copyFrom_15 (by decide) ?_
  refine j_istore_n C [(2, .int 0), (0, .ref (ad 0)), (1, .ref (bd 0))] dX3_copyFrom_16 (by decide) rfl ?_
  refine j_iload_n C dX3_copyFrom_17 0 rfl ?_
  refine j_iconst (v := 4) C dX3_copyFrom_18 (by decide) ?_
  refine j_icmp_ge (tgt := 43) C dX3_copyFrom_19 (by decide) (fun h => absurd h (by decide)) (fun _ => ?_)
  refine j_aload_n C dX3_copyFrom_22 1 rfl ?_
  refine j_get C kin3 rfl 0 rfl 1 (by decide) kw_76 rfl (v := .ref (ad 2)) rfl dX3_copyFrom_23 ?_
  refine j_iload_n C dX3_copyFrom_26 0 rfl ?_
  refine j_aaldD C 2 rfl (vin_lit rfl) (y := ad 3) rfl dX3_copyFrom_27 ?_
  refine j_aload_n C dX3_copyFrom_28 2 rfl ?_
  refine j_get C kin3 rfl 11 rfl 1 (by decide) kw_76 rfl (v := .ref (bd 2)) rfl dX3_copyFrom_29 ?_
  refine j_iload_n C dX3_copyFrom_32 0 rfl ?_
  refine j_aaldD C 13 rfl (vin_lit rfl) (y := bd 3) rfl dX3_copyFrom_33 ?_
  refine j_callV_v (wc' := [oD (ad 3) (ad 4) (y.2.2.1 0), aB G (ad 4) (y.2.2.2 0), oD (bd 3) (bd 4) (y.2.2.1 0), aB G (bd 4) (y.2.2.2 0)]) C (m_X0_copyFrom l G (ad 3) (bd 3) (ad 4) (bd 4) (x.2.2.1 0) (x.2.2.2 0) (y.2.2.1 0) (y.2.2.2 0)) rfl 0 rfl 1 (gV kw_152 kw_153 kw_154 kw_4 kw_155) (by decide +kernel) ⟨(Nat.le_of_ble_eq_true rfl), (Nat.le_of_ble_eq_true rfl)⟩ rfl rfl (Nat.le_of_ble_eq_true rfl) dX3_copyFrom_34 ⟨(Nat.le_of_ble_eq_true rfl), (Nat.le_of_ble_eq_true rfl)⟩ [oS (ad 0) (ad 1) (ad 2) x.1, aI G (ad 1) 7 y.2.1, aD G (ad 2) 4 (fun k => some (ad (3 + 2 * k))), oD (ad 5) (ad 6) (x.2.2.1 1), aB G (ad 6) (x.2.2.2 1), oD (ad 7) (ad 8) (x.2.2.1 2), aB G (ad 8) (x.2.2.2 2), oD (ad 9) (ad 10) (x.2.2.1 3), aB G (ad 10) (x.2.2.2 3), oS (bd 0) (bd 1) (bd 2) y.1, aI G (bd 1) 7 y.2.1, aD G (bd 2) 4 (fun k => some (bd (3 + 2 * k))), oD (bd 5) (bd 6) (y.2.2.1 1), aB G (bd 6) (y.2.2.2 1), oD (bd 7) (bd 8) (y.2.2.1 2), aB G (bd 8) (y.2.2.2 2), oD (bd 9) (bd 10) (y.2.2.1 3), aB G (bd 10) (y.2.2.2 3)] [oD (ad 3) (ad 4) (y.2.2.1 0), aB G (ad 4) (y.2.2.2 0), oD (bd 3) (bd 4) (y.2.2.1 0), aB G (bd 4) (y.2.2.2 0), oS (ad 0) (ad 1) (ad 2) x.1, aI G (ad 1) 7 y.2.1, aD G (ad 2) 4 (fun k => some (ad (3 + 2 * k))), oD (ad 5) (ad 6) (x.2.2.1 1), aB G (ad 6) (x.2.2.2 1), oD (ad 7) (ad 8) (x.2.2.1 2), aB G (ad 8) (x.2.2.2 2), oD (ad 9) (ad 10) (x.2.2.1 3), aB G (ad 10) (x.2.2.2 3), oS (bd 0) (bd 1) (bd 2) y.1, aI G (bd 1) 7 y.2.1, aD G (bd 2) 4 (fun k => some (bd (3 + 2 * k))), oD (bd 5) (bd 6) (y.2.2.1 1), aB G (bd 6) (y.2.2.2 1), oD (bd 7) (bd 8) (y.2.2.1 2), aB G (bd 8) (y.2.2.2 2), oD (bd 9) (bd 10) (y.2.2.1 3), aB G (bd 10) (y.2.2.2 3)] (perm_idx [3, 4, 14, 15, 0, 1, 2, 5, 6, 7, 8, 9, 10, 11, 12, 13, 16, 17, 18, 19, 20, 21] 22 rfl (by decide +kernel) rfl) rfl ?_
  refine j_iinc (v := 1) C [(2, .int 1), (0, .ref (ad 0)), (1, .ref (bd 0))] dX3_copyFrom_37 (k := 0) rfl (by decide) (by decide) rfl ?_
  refine j_goto (tgt := 17) C dX3_copyFrom_40 (by decide) ?_
  refine j_iload_n C dX3_copyFrom_17 0 rfl ?_
  refine j_iconst (v := 4) C dX3_copyFrom_18 (by decide) ?_
  refine j_icmp_ge (tgt := 43) C dX3_copyFrom_19 (by decide) (fun h => absurd h (by decide)) (fun _ => ?_)
  refine j_aload_n C dX3_copyFrom_22 1 rfl ?_
  refine j_get C kin3 rfl 4 rfl 1 (by decide) kw_76 rfl (v := .ref (ad 2)) rfl dX3_copyFrom_23 ?_
  refine j_iload_n C dX3_copyFrom_26 0 rfl ?_
  refine j_aaldD C 6 rfl (vin_lit rfl) (y := ad 5) rfl dX3_copyFrom_27 ?_
  refine j_aload_n C dX3_copyFrom_28 2 rfl ?_
  refine j_get C kin3 rfl 13 rfl 1 (by decide) kw_76 rfl (v := .ref (bd 2)) rfl dX3_copyFrom_29 ?_
  refine j_iload_n C dX3_copyFrom_32 0 rfl ?_
  refine j_aaldD C 15 rfl (vin_lit rfl) (y := bd 5) rfl dX3_copyFrom_33 ?_
  refine j_callV_v (wc' := [oD (ad 5) (ad 6) (y.2.2.1 1), aB G (ad 6) (y.2.2.2 1), oD (bd 5) (bd 6) (y.2.2.1 1), aB G (bd 6) (y.2.2.2 1)]) C (m_X0_copyFrom l G (ad 5) (bd 5) (ad 6) (bd 6) (x.2.2.1 1) (x.2.2.2 1) (y.2.2.1 1) (y.2.2.2 1)) rfl 0 rfl 1 (gV kw_152 kw_153 kw_154 kw_4 kw_155) (by decide +kernel) ⟨(Nat.le_of_ble_eq_true rfl), (Nat.le_of_ble_eq_true rfl)⟩ rfl rfl (Nat.le_of_ble_eq_true rfl) dX3_copyFrom_34 ⟨(Nat.le_of_ble_eq_true rfl), (Nat.le_of_ble_eq_true rfl)⟩ [oD (ad 3) (ad 4) (y.2.2.1 0), aB G (ad 4) (y.2.2.2 0), oD (bd 3) (bd 4) (y.2.2.1 0), aB G (bd 4) (y.2.2.2 0), oS (ad 0) (ad 1) (ad 2) x.1, aI G (ad 1) 7 y.2.1, aD G (ad 2) 4 (fun k => some (ad (3 + 2 * k))), oD (ad 7) (ad 8) (x.2.2.1 2), aB G (ad 8) (x.2.2.2 2), oD (ad 9) (ad 10) (x.2.2.1 3), aB G (ad 10) (x.2.2.2 3), oS (bd 0) (bd 1) (bd 2) y.1, aI G (bd 1) 7 y.2.1, aD G (bd 2) 4 (fun k => some (bd (3 + 2 * k))), oD (bd 7) (bd 8) (y.2.2.1 2), aB G (bd 8) (y.2.2.2 2), oD (bd 9) (bd 10) (y.2.2.1 3), aB G (bd 10) (y.2.2.2 3)] [oD (ad 5) (ad 6) (y.2.2.1 1), aB G (ad 6) (y.2.2.2 1), oD (bd 5) (bd 6) (y.2.2.1 1), aB G (bd 6) (y.2.2.2 1), oD (ad 3) (ad 4) (y.2.2.1 0), aB G (ad 4) (y.2.2.2 0), oD (bd 3) (bd 4) (y.2.2.1 0), aB G (bd 4) (y.2.2.2 0), oS (ad 0) (ad 1) (ad 2) x.1, aI G (ad 1) 7 y.2.1, aD G (ad 2) 4 (fun k => some (ad (3 + 2 * k))), oD (ad 7) (ad 8) (x.2.2.1 2), aB G (ad 8) (x.2.2.2 2), oD (ad 9) (ad 10) (x.2.2.1 3), aB G (ad 10) (x.2.2.2 3), oS (bd 0) (bd 1) (bd 2) y.1, aI G (bd 1) 7 y.2.1, aD G (bd 2) 4 (fun k => some (bd (3 + 2 * k))), oD (bd 7) (bd 8) (y.2.2.1 2), aB G (bd 8) (y.2.2.2 2), oD (bd 9) (bd 10) (y.2.2.1 3), aB G (bd 10) (y.2.2.2 3)] (perm_idx [7, 8, 16, 17, 0, 1, 2, 3, 4, 5, 6, 9, 10, 11, 12, 13, 14, 15, 18, 19, 20, 21] 22 rfl (by decide +kernel) rfl) rfl ?_
  refine j_iinc (v := 2) C [(2, .int 2), (0, .ref (ad 0)), (1, .ref (bd 0))] dX3_copyFrom_37 (k := 0) rfl (by decide) (by decide) rfl ?_
  refine j_goto (tgt := 17) C dX3_copyFrom_40 (by decide) ?_
  refine j_iload_n C dX3_copyFrom_17 0 rfl ?_
  refine j_iconst (v := 4) C dX3_copyFrom_18 (by decide) ?_
  refine j_icmp_ge (tgt := 43) C dX3_copyFrom_19 (by decide) (fun h => absurd h (by decide)) (fun _ => ?_)
  refine j_aload_n C dX3_copyFrom_22 1 rfl ?_
  refine j_get C kin3 rfl 8 rfl 1 (by decide) kw_76 rfl (v := .ref (ad 2)) rfl dX3_copyFrom_23 ?_
  refine j_iload_n C dX3_copyFrom_26 0 rfl ?_
  refine j_aaldD C 10 rfl (vin_lit rfl) (y := ad 7) rfl dX3_copyFrom_27 ?_
  refine j_aload_n C dX3_copyFrom_28 2 rfl ?_
  refine j_get C kin3 rfl 15 rfl 1 (by decide) kw_76 rfl (v := .ref (bd 2)) rfl dX3_copyFrom_29 ?_
  refine j_iload_n C dX3_copyFrom_32 0 rfl ?_
  refine j_aaldD C 17 rfl (vin_lit rfl) (y := bd 7) rfl dX3_copyFrom_33 ?_
  refine j_callV_v (wc' := [oD (ad 7) (ad 8) (y.2.2.1 2), aB G (ad 8) (y.2.2.2 2), oD (bd 7) (bd 8) (y.2.2.1 2), aB G (bd 8) (y.2.2.2 2)]) C (m_X0_copyFrom l G (ad 7) (bd 7) (ad 8) (bd 8) (x.2.2.1 2) (x.2.2.2 2) (y.2.2.1 2) (y.2.2.2 2)) rfl 0 rfl 1 (gV kw_152 kw_153 kw_154 kw_4 kw_155) (by decide +kernel) ⟨(Nat.le_of_ble_eq_true rfl), (Nat.le_of_ble_eq_true rfl)⟩ rfl rfl (Nat.le_of_ble_eq_true rfl) dX3_copyFrom_34 ⟨(Nat.le_of_ble_eq_true rfl), (Nat.le_of_ble_eq_true rfl)⟩ [oD (ad 5) (ad 6) (y.2.2.1 1), aB G (ad 6) (y.2.2.2 1), oD (bd 5) (bd 6) (y.2.2.1 1), aB G (bd 6) (y.2.2.2 1), oD (ad 3) (ad 4) (y.2.2.1 0), aB G (ad 4) (y.2.2.2 0), oD (bd 3) (bd 4) (y.2.2.1 0), aB G (bd 4) (y.2.2.2 0), oS (ad 0) (ad 1) (ad 2) x.1, aI G (ad 1) 7 y.2.1, aD G (ad 2) 4 (fun k => some (ad (3 + 2 * k))), oD (ad 9) (ad 10) (x.2.2.1 3), aB G (ad 10) (x.2.2.2 3), oS (bd 0) (bd 1) (bd 2) y.1, aI G (bd 1) 7 y.2.1, aD G (bd 2) 4 (fun k => some (bd (3 + 2 * k))), oD (bd 9) (bd 10) (y.2.2.1 3), aB G (bd 10) (y.2.2.2 3)] [oD (ad 7) (ad 8) (y.2.2.1 2), aB G (ad 8) (y.2.2.2 2), oD (bd 7) (bd 8) (y.2.2.1 2), aB G (bd 8) (y.2.2.2 2), oD (ad 5) (ad 6) (y.2.2.1 1), aB G (ad 6) (y.2.2.2 1), oD (bd 5) (bd 6) (y.2.2.1 1), aB G (bd 6) (y.2.2.2 1), oD (ad 3) (ad 4) (y.2.2.1 0), aB G (ad 4) (y.2.2.2 0), oD (bd 3) (bd 4) (y.2.2.1 0), aB G (bd 4) (y.2.2.2 0), oS (ad 0) (ad 1) (ad 2) x.1, aI G (ad 1) 7 y.2.1, aD G (ad 2) 4 (fun k => some (ad (3 + 2 * k))), oD (ad 9) (ad 10) (x.2.2.1 3), aB G (ad 10) (x.2.2.2 3), oS (bd 0) (bd 1) (bd 2) y.1, aI G (bd 1) 7 y.2.1, aD G (bd 2) 4 (fun k => some (bd (3 + 2 * k))), oD (bd 9) (bd 10) (y.2.2.1 3), aB G (bd 10) (y.2.2.2 3)] (perm_idx [11, 12, 18, 19, 0, 1, 2, 3, 4, 5, 6, 7, 8, 9, 10, 13, 14, 15, 16, 17, 20, 21] 22 rfl (by decide +kernel) rfl) rfl ?_
  refine j_iinc (v := 3) C [(2, .int 3), (0, .ref (ad 0)), (1, .ref (bd 0))] dX3_copyFrom_37 (k := 0) rfl (by decide) (by decide) rfl ?_
  refine j_goto (tgt := 17) C dX3_copyFrom_40 (by decide) ?_
  refine j_iload_n C dX3_copyFrom_17 0 rfl ?_
  refine j_iconst (v := 4) C dX3_copyFrom_18 (by decide) ?_
  refine j_icmp_ge (tgt := 43) C dX3_copyFrom_19 (by decide) (fun h => absurd h (by decide)) (fun _ => ?_)
  refine j_aload_n C dX3_copyFrom_22 1 rfl ?_
  refine j_get C kin3 rfl 12 rfl 1 (by decide) kw_76 rfl (v := .ref (ad 2)) rfl dX3_copyFrom_23 ?_
  refine j_iload_n C dX3_copyFrom_26 0 rfl ?_
  refine j_aaldD C 14 rfl (vin_lit rfl) (y := ad 9) rfl dX3_copyFrom_27 ?_
  refine j_aload_n C dX3_copyFrom_28 2 rfl ?_
  refine j_get C kin3 rfl 17 rfl 1 (by decide) kw_76 rfl (v := .ref (bd 2)) rfl dX3_copyFrom_29 ?_
  refine j_iload_n C dX3_copyFrom_32 0 rfl ?_
  refine j_aaldD C 19 rfl (vin_lit rfl) (y := bd 9) rfl dX3_copyFrom_33 ?_
  refine j_callV_v (wc' := [oD (ad 9) (ad 10) (y.2.2.1 3), aB G (ad 10) (y.2.2.2 3), oD (bd 9) (bd 10) (y.2.2.1 3), aB G (bd 10) (y.2.2.2 3)]) C (m_X0_copyFrom l G (ad 9) (bd 9) (ad 10) (bd 10) (x.2.2.1 3) (x.2.2.2 3) (y.2.2.1 3) (y.2.2.2 3)) rfl 0 rfl 1 (gV kw_152 kw_153 kw_154 kw_4 kw_155) (by decide +kernel) ⟨(Nat.le_of_ble_eq_true rfl), (Nat.le_of_ble_eq_true rfl)⟩ rfl rfl (Nat.le_of_ble_eq_true rfl) dX3_copyFrom_34 ⟨(Nat.le_of_ble_eq_true rfl), (Nat.le_of_ble_eq_true rfl)⟩ [oD (ad 7) (ad 8) (y.2.2.1 2), aB G (ad 8) (y.2.2.2 2), oD (bd 7) (bd 8) (y.2.2.1 2), aB G (bd 8) (y.2.2.2 2), oD (ad 5) (ad 6) (y.2.2.1 1), aB G (ad 6) (y.2.2.2 1), oD (bd 5) (bd 6) (y.2.2.1 1), aB G (bd 6) (y.2.2.2 1), oD (ad 3) (ad 4) (y.2.2.1 0), aB G (ad 4) (y.2.2.2 0), oD (bd 3) (bd 4) (y.2.2.1 0), aB G (bd 4) (y.2.2.2 0), oS (ad 0) (ad 1) (ad 2) x.1, aI G (ad 1) 7 y.2.1, aD G (ad 2) 4 (fun k => some (ad (3 + 2 * k))), oS (bd 0) (bd 1) (bd 2) y.1, aI G (bd 1) 7 y.2.1, aD G (bd 2) 4 (fun k => some (bd (3 + 2 * k)))] [oD (ad 9) (ad 10) (y.2.2.1 3), aB G (ad 10) (y.2.2.2 3), oD (bd 9) (bd 10) (y.2.2.1 3), aB G (bd 10) (y.2.2.2 3), oD (ad 7) (ad 8) (y.2.2.1 2), aB G (ad 8) (y.2.2.2 2), oD (bd 7) (bd 8) (y.2.2.1 2), aB G (bd 8) (y.2.2.2 2), oD (ad 5) (ad 6) (y.2.2.1 1), aB G (ad 6) (y.2.2.2 1), oD (bd 5) (bd 6) (y.2.2.1 1), aB G (bd 6) (y.2.2.2 1), oD (ad 3) (ad 4) (y.2.2.1 0), aB G (ad 4) (y.2.2.2 0), oD (bd 3) (bd 4) (y.2.2.1 0), aB G (bd 4) (y.2.2.2 0), oS (ad 0) (ad 1) (ad 2) x.1, aI G (ad 1) 7 y.2.1, aD G (ad 2) 4 (fun k => some (ad (3 + 2 * k))), oS (bd 0) (bd 1) (bd 2) y.1, aI G (bd 1) 7 y.2.1, aD G (bd 2) 4 (fun k => some (bd (3 + 2 * k)))] (perm_idx [15, 16, 20, 21, 0, 1, 2, 3, 4, 5, 6, 7, 8, 9, 10, 11, 12, 13, 14, 17, 18, 19] 22 rfl (by decide +kernel) rfl) rfl ?_
  refine j_iinc (v := 4) C [(2, .int 4), (0, .ref (ad 0)), (1, .ref (bd 0))] dX3_copyFrom_37 (k := 0) rfl (by decide) (by decide) rfl ?_
  refine j_goto (tgt := 17) C dX3_copyFrom_40 (by decide) ?_
  refine j_iload_n C dX3_copyFrom_17 0 rfl ?_
  refine j_iconst (v := 4) C dX3_copyFrom_18 (by decide) ?_
  refine j_icmp_ge (tgt := 43) C dX3_copyFrom_19 (by decide) (fun _ => ?_) (fun h => absurd h (by decide))
  refine j_aload_n C dX3_copyFrom_43 1 rfl ?_
  refine j_aload_n C dX3_copyFrom_44 2 rfl ?_
  refine j_get C kin3 rfl 19 rfl 2 (by decide) kw_78 rfl (v := .int (y.1 2)) rfl dX3_copyFrom_45 ?_
  refine j_put C kin3 rfl 16 rfl 2 (by decide) kw_78 rfl tyX3 tyX3_ok nmX3 rfl rfl rfl (Nat.le_of_ble_eq_true rfl) ([oD (ad 9) (ad 10) (y.2.2.1 3), aB G (ad 10) (y.2.2.2 3), oD (bd 9) (bd 10) (y.2.2.1 3), aB G (bd 10) (y.2.2.2 3), oD (ad 7) (ad 8) (y.2.2.1 2), aB G (ad 8) (y.2.2.2 2), oD (bd 7) (bd 8) (y.2.2.1 2), aB G (bd 8) (y.2.2.2 2), oD (ad 5) (ad 6) (y.2.2.1 1), aB G (ad 6) (y.2.2.2 1), oD (bd 5) (bd 6) (y.2.2.1 1), aB G (bd 6) (y.2.2.2 1), oD (ad 3) (ad 4) (y.2.2.1 0), aB G (ad 4) (y.2.2.2 0), oD (bd 3) (bd 4) (y.2.2.1 0), aB G (bd 4) (y.2.2.2 0), oS (ad 0) (ad 1) (ad 2) (upd x.1 2 (y.1 2)), aI G (ad 1) 7 y.2.1, aD G (ad 2) 4 (fun k => some (ad (3 + 2 * k))), oS (bd 0) (bd 1) (bd 2) y.1, aI G (bd 1) 7 y.2.1, aD G (bd 2) 4 (fun k => some (bd (3 + 2 * k)))]) rfl dX3_copyFrom_48 ?_
  refine j_aload_n C dX3_copyFrom_51 1 rfl ?_
  refine j_aload_n C dX3_copyFrom_52 2 rfl ?_
  refine j_get C kin3 rfl 19 rfl 3 (by decide) kw_80 rfl (v := .int (y.1 3)) rfl dX3_copyFrom_53 ?_
  refine j_put C kin3 rfl 16 rfl 3 (by decide) kw_80 rfl tyX3 tyX3_ok nmX3 rfl rfl rfl (Nat.le_of_ble_eq_true rfl) ([oD (ad 9) (ad 10) (y.2.2.1 3), aB G (ad 10) (y.2.2.2 3), oD (bd 9) (bd 10) (y.2.2.1 3), aB G (bd 10) (y.2.2.2 3), oD (ad 7) (ad 8) (y.2.2.1 2), aB G (ad 8) (y.2.2.2 2), oD (bd 7) (bd 8) (y.2.2.1 2), aB G (bd 8) (y.2.2.2 2), oD (ad 5) (ad 6) (y.2.2.1 1), aB G (ad 6) (y.2.2.2 1), oD (bd 5) (bd 6) (y.2.2.1 1), aB G (bd 6) (y.2.2.2 1), oD (ad 3) (ad 4) (y.2.2.1 0), aB G (ad 4) (y.2.2.2 0), oD (bd 3) (bd 4) (y.2.2.1 0), aB G (bd 4) (y.2.2.2 0), oS (ad 0) (ad 1) (ad 2) (upd (upd x.1 2 (y.1 2)) 3 (y.1 3)), aI G (ad 1) 7 y.2.1, aD G (ad 2) 4 (fun k => some (ad (3 + 2 * k))), oS (bd 0) (bd 1) (bd 2) y.1, aI G (bd 1) 7 y.2.1, aD G (bd 2) 4 (fun k => some (bd (3 + 2 * k)))]) rfl dX3_copyFrom_56 ?_
  refine j_aload_n C dX3_copyFrom_59 1 rfl ?_
  refine j_aload_n C dX3_copyFrom_60 2 rfl ?_
  refine j_get C kin3 rfl 19 rfl 4 (by decide) kw_82 rfl (v := .int (y.1 4)) rfl dX3_copyFrom_61 ?_
  refine j_put C kin3 rfl 16 rfl 4 (by decide) kw_82 rfl tyX3 tyX3_ok nmX3 rfl rfl rfl (Nat.le_of_ble_eq_true rfl) ([oD (ad 9) (ad 10) (y.2.2.1 3), aB G (ad 10) (y.2.2.2 3), oD (bd 9) (bd 10) (y.2.2.1 3), aB G (bd 10) (y.2.2.2 3), oD (ad 7) (ad 8) (y.2.2.1 2), aB G (ad 8) (y.2.2.2 2), oD (bd 7) (bd 8) (y.2.2.1 2), aB G (bd 8) (y.2.2.2 2), oD (ad 5) (ad 6) (y.2.2.1 1), aB G (ad 6) (y.2.2.2 1), oD (bd 5) (bd 6) (y.2.2.1 1), aB G (bd 6) (y.2.2.2 1), oD (ad 3) (ad 4) (y.2.2.1 0), aB G (ad 4) (y.2.2.2 0), oD (bd 3) (bd 4) (y.2.2.1 0), aB G (bd 4) (y.2.2.2 0), oS (ad 0) (ad 1) (ad 2) (upd (upd (upd x.1 2 (y.1 2)) 3 (y.1 3)) 4 (y.1 4)), aI G (ad 1) 7 y.2.1, aD G (ad 2) 4 (fun k => some (ad (3 + 2 * k))), oS (bd 0) (bd 1) (bd 2) y.1, aI G (bd 1) 7 y.2.1, aD G (bd 2) 4 (fun k => some (bd (3 + 2 * k)))]) rfl dX3_copyFrom_64 ?_
  refine j_aload_n C dX3_copyFrom_67 1 rfl ?_
  refine j_aload_n C dX3_copyFrom_68 2 rfl ?_
  refine j_get C kin3 rfl 19 rfl 5 (by decide) kw_84 rfl (v := .int (y.1 5)) rfl dX3_copyFrom_69 ?_
  refine j_put C kin3 rfl 16 rfl 5 (by decide) kw_84 rfl tyX3 tyX3_ok nmX3 rfl rfl rfl (Nat.le_of_ble_eq_true rfl) ([oD (ad 9) (ad 10) (y.2.2.1 3), aB G (ad 10) (y.2.2.2 3), oD (bd 9) (bd 10) (y.2.2.1 3), aB G (bd 10) (y.2.2.2 3), oD (ad 7) (ad 8) (y.2.2.1 2), aB G (ad 8) (y.2.2.2 2), oD (bd 7) (bd 8) (y.2.2.1 2), aB G (bd 8) (y.2.2.2 2), oD (ad 5) (ad 6) (y.2.2.1 1), aB G (ad 6) (y.2.2.2 1), oD (bd 5) (bd 6) (y.2.2.1 1), aB G (bd 6) (y.2.2.2 1), oD (ad 3) (ad 4) (y.2.2.1 0), aB G (ad 4) (y.2.2.2 0), oD (bd 3) (bd 4) (y.2.2.1 0), aB G (bd 4) (y.2.2.2 0), oS (ad 0) (ad 1) (ad 2) (upd (upd (upd (upd x.1 2 (y.1 2)) 3 (y.1 3)) 4 (y.1 4)) 5 (y.1 5)), aI G (ad 1) 7 y.2.1, aD G (ad 2) 4 (fun k => some (ad (3 + 2 * k))), oS (bd 0) (bd 1) (bd 2) y.1, aI G (bd 1) 7 y.2.1, aD G (bd 2) 4 (fun k => some (bd (3 + 2 * k)))]) rfl dX3_copyFrom_72 ?_
  refine j_aload_n C dX3_copyFrom_75 1 rfl ?_
  refine j_aload_n C dX3_copyFrom_76 2 rfl ?_
  refine j_get C kin3 rfl 19 rfl 6 (by decide) kw_86 rfl (v := .int (y.1 6)) rfl dX3_copyFrom_77 ?_
  refine j_put C kin3 rfl 16 rfl 6 (by decide) kw_86 rfl tyX3 tyX3_ok nmX3 rfl rfl rfl (Nat.le_of_ble_eq_true rfl) ([oD (ad 9) (ad 10) (y.2.2.1 3), aB G (ad 10) (y.2.2.2 3), oD (bd 9) (bd 10) (y.2.2.1 3), aB G (bd 10) (y.2.2.2 3), oD (ad 7) (ad 8) (y.2.2.1 2), aB G (ad 8) (y.2.2.2 2), oD (bd 7) (bd 8) (y.2.2.1 2), aB G (bd 8) (y.2.2.2 2), oD (ad 5) (ad 6) (y.2.2.1 1), aB G (ad 6) (y.2.2.2 1), oD (bd 5) (bd 6) (y.2.2.1 1), aB G (bd 6) (y.2.2.2 1), oD (ad 3) (ad 4) (y.2.2.1 0), aB G (ad 4) (y.2.2.2 0), oD (bd 3) (bd 4) (y.2.2.1 0), aB G (bd 4) (y.2.2.2 0), oS (ad 0) (ad 1) (ad 2) (upd (upd (upd (upd (upd x.1 2 (y.1 2)) 3 (y.1 3)) 4 (y.1 4)) 5 (y.1 5)) 6 (y.1 6)), aI G (ad 1) 7 y.2.1, aD G (ad 2) 4 (fun k => some (ad (3 + 2 * k))), oS (bd 0) (bd 1) (bd 2) y.1, aI G (bd 1) 7 y.2.1, aD G (bd 2) 4 (fun k => some (bd (3 + 2 * k)))]) rfl dX3_copyFrom_80 ?_
  refine j_perm ([oS (ad 0) (ad 1) (ad 2) (upd (upd (upd (upd (upd x.1 2 (y.1 2)) 3 (y.1 3)) 4 (y.1 4)) 5 (y.1 5)) 6 (y.1 6)), aI G (ad 1) 7 y.2.1, aD G (ad 2) 4 (fun k => some (ad (3 + 2 * k))), oD (ad 3) (ad 4) (y.2.2.1 0), aB G (ad 4) (y.2.2.2 0), oD (ad 5) (ad 6) (y.2.2.1 1), aB G (ad 6) (y.2.2.2 1), oD (ad 7) (ad 8) (y.2.2.1 2), aB G (ad 8) (y.2.2.2 2), oD (ad 9) (ad 10) (y.2.2.1 3), aB G (ad 10) (y.2.2.2 3), oS (bd 0) (bd 1) (bd 2) y.1, aI G (bd 1) 7 y.2.1, aD G (bd 2) 4 (fun k => some (bd (3 + 2 * k))), oD (bd 3) (bd 4) (y.2.2.1 0), aB G (bd 4) (y.2.2.2 0), oD (bd 5) (bd 6) (y.2.2.1 1), aB G (bd 6) (y.2.2.2 1), oD (bd 7) (bd 8) (y.2.2.1 2), aB G (bd 8) (y.2.2.2 2), oD (bd 9) (bd 10) (y.2.2.1 3), aB G (bd 10) (y.2.2.2 3)]) (perm_idx [16, 17, 18, 12, 13, 8, 9, 4, 5, 0, 1, 19, 20, 21, 14, 15, 10, 11, 6, 7, 2, 3] 22 rfl (by decide +kernel) rfl) ?_
  subst hQ; exact j_vret C hr hk rfl dX3_copyFrom_83
