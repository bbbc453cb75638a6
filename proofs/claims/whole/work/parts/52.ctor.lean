/-! THE MODEL CONSTRUCTOR -/
noncomputable def mv0 : Nat → Int64 := vp_updL (vp_updL (vp_updL (vp_updL (vp_updL (vp_updL (vp_updL (vp_updL (vp_updL (vp_updL (vp_updL (vp_updL (vp_updL (vp_updL (vp_updL (fun _ => 0) 5 60) 6 5) 7 2) 8 20) 9 50) 10 4) 11 20) ((f_X5_row_r 0) + 0).toNatClampNeg 60) ((f_X5_row_r 0) + 8).toNatClampNeg 1) ((f_X5_row_r 1) + 0).toNatClampNeg 60) ((f_X5_row_r 1) + 8).toNatClampNeg 1) ((f_X5_row_r 2) + 0).toNatClampNeg 60) ((f_X5_row_r 2) + 8).toNatClampNeg 1) ((f_X5_row_r 3) + 0).toNatClampNeg 60) ((f_X5_row_r 3) + 8).toNatClampNeg 1
set_option maxRecDepth 100000 in
set_option maxHeartbeats 4000000 in
theorem m_X5_init (l : Launch) (G : GG) (a : Nat) : CtN l yX5_init cX5_init 2 (RC 1 7 4806) G [.ref a] ([(a, .inr (5, [.null, .null, .null, .int (zI 3), .null, .null, .null, .int (zI 7), .int (zI 8), .null, .int (zI 10)]))]) (fun (u : Nat → Nat) => True) (fun (u : Nat → Nat) => [oM a (u 0) (u 1) (u 2) (u 3) (u 4) (u 5) (u 6) zI, aJ G (u 0) 456 mv0, aJ G (u 1) 456 (fun _ => 0), aJ G (u 2) 2736 (fun _ => 0), aJ G (u 3) 912 (fun _ => 0), aZ G (u 4) 2 (fun _ => 0), aI G (u 5) 80 (fun _ => 0), aI G (u 6) 164 (fun _ => 0)]) := by
  refine ct_N RX5 [(0, .ref a)] rfl (by decide +kernel) (Nat.le_of_ble_eq_true rfl) rfl ?_
  intro p e s m args below meth c A C hr hk hnm
  generalize hQ : (MQ below (va_Qv (fun (u : Nat → Nat) => True) (fun u t => va_P G.1 vwCl ((fun (u : Nat → Nat) => [oM a (u 0) (u 1) (u 2) (u 3) (u 4) (u 5) (u 6) zI, aJ G (u 0) 456 mv0, aJ G (u 1) 456 (fun _ => 0), aJ G (u 2) 2736 (fun _ => 0), aJ G (u 3) 912 (fun _ => 0), aZ G (u 4) 2 (fun _ => 0), aI G (u 5) 80 (fun _ => 0), aI G (u 6) 164 (fun _ => 0)]) u) t.heap ∧ va_D A ((fun (u : Nat → Nat) => [oM a (u 0) (u 1) (u 2) (u 3) (u 4) (u 5) (u 6) zI, aJ G (u 0) 456 mv0, aJ G (u 1) 456 (fun _ => 0), aJ G (u 2) 2736 (fun _ => 0), aJ G (u 3) 912 (fun _ => 0), aZ G (u 4) 2 (fun _ => 0), aI G (u 5) 80 (fun _ => 0), aI G (u 6) 164 (fun _ => 0)]) u)) A) args s (RC 1 7 4806).cells (RC 1 7 4806).slots A) = Q
  refine j_aload_n C dX5_init_0 0 rfl ?_
  refine j_objinit C kw_479 rfl (Nat.le_of_ble_eq_true rfl) (Nat.le_of_ble_eq_true rfl) (Nat.le_of_ble_eq_true rfl) dX5_init_1 ?_
  refine j_aload_n C dX5_init_4 0 rfl ?_
  refine j_sipush (v := 456) C dX5_init_5 (by decide) ?_
  refine j_newaJ (N' := 456) C (by decide) (by decide) (Nat.le_of_ble_eq_true rfl) (Nat.le_of_ble_eq_true rfl) (Nat.le_of_ble_eq_true rfl) dX5_init_8 (fun q0 => ?_)
  refine j_w ([(a, .inr (5, [.null, .null, .null, .int (zI 3), .null, .null, .null, .int (zI 7), .int (zI 8), .null, .int (zI 10)])), aJ G q0 456 (fun _ => 0)]) rfl ?_
  refine j_putF C kin5 rfl 0 rfl 0 (by decide) kw_489 rfl hnm rfl tyX5 tyX5_ok nmX5 rfl rfl rfl (Nat.le_of_ble_eq_true rfl) ([(a, .inr (5, [.ref q0, .null, .null, .int (zI 3), .null, .null, .null, .int (zI 7), .int (zI 8), .null, .int (zI 10)])), aJ G q0 456 (fun _ => 0)]) rfl dX5_init_10 ?_
  refine j_aload_n C dX5_init_13 0 rfl ?_
  refine j_sipush (v := 456) C dX5_init_14 (by decide) ?_
  refine j_newaJ (N' := 456) C (by decide) (by decide) (Nat.le_of_ble_eq_true rfl) (Nat.le_of_ble_eq_true rfl) (Nat.le_of_ble_eq_true rfl) dX5_init_17 (fun q1 => ?_)
  refine j_w ([(a, .inr (5, [.ref q0, .null, .null, .int (zI 3), .null, .null, .null, .int (zI 7), .int (zI 8), .null, .int (zI 10)])), aJ G q0 456 (fun _ => 0), aJ G q1 456 (fun _ => 0)]) rfl ?_
  refine j_putF C kin5 rfl 0 rfl 1 (by decide) kw_490 rfl hnm rfl tyX5 tyX5_ok nmX5 rfl rfl rfl (Nat.le_of_ble_eq_true rfl) ([(a, .inr (5, [.ref q0, .ref q1, .null, .int (zI 3), .null, .null, .null, .int (zI 7), .int (zI 8), .null, .int (zI 10)])), aJ G q0 456 (fun _ => 0), aJ G q1 456 (fun _ => 0)]) rfl dX5_init_19 ?_
  refine j_aload_n C dX5_init_22 0 rfl ?_
  refine j_sipush (v := 2736) C dX5_init_23 (by decide) ?_
  refine j_newaJ (N' := 2736) C (by decide) (by decide) (Nat.le_of_ble_eq_true rfl) (Nat.le_of_ble_eq_true rfl) (Nat.le_of_ble_eq_true rfl) dX5_init_26 (fun q2 => ?_)
  refine j_w ([(a, .inr (5, [.ref q0, .ref q1, .null, .int (zI 3), .null, .null, .null, .int (zI 7), .int (zI 8), .null, .int (zI 10)])), aJ G q0 456 (fun _ => 0), aJ G q1 456 (fun _ => 0), aJ G q2 2736 (fun _ => 0)]) rfl ?_
  refine j_putF C kin5 rfl 0 rfl 2 (by decide) kw_491 rfl hnm rfl tyX5 tyX5_ok nmX5 rfl rfl rfl (Nat.le_of_ble_eq_true rfl) ([(a, .inr (5, [.ref q0, .ref q1, .ref q2, .int (zI 3), .null, .null, .null, .int (zI 7), .int (zI 8), .null, .int (zI 10)])), aJ G q0 456 (fun _ => 0), aJ G q1 456 (fun _ => 0), aJ G q2 2736 (fun _ => 0)]) rfl dX5_init_28 ?_
  refine j_aload_n C dX5_init_31 0 rfl ?_
  refine j_sipush (v := 912) C dX5_init_32 (by decide) ?_
  refine j_newaJ (N' := 912) C (by decide) (by decide) (Nat.le_of_ble_eq_true rfl) (Nat.le_of_ble_eq_true rfl) (Nat.le_of_ble_eq_true rfl) dX5_init_35 (fun q3 => ?_)
  refine j_w ([(a, .inr (5, [.ref q0, .ref q1, .ref q2, .int (zI 3), .null, .null, .null, .int (zI 7), .int (zI 8), .null, .int (zI 10)])), aJ G q0 456 (fun _ => 0), aJ G q1 456 (fun _ => 0), aJ G q2 2736 (fun _ => 0), aJ G q3 912 (fun _ => 0)]) rfl ?_
  refine j_putF C kin5 rfl 0 rfl 4 (by decide) kw_493 rfl hnm rfl tyX5 tyX5_ok nmX5 rfl rfl rfl (Nat.le_of_ble_eq_true rfl) ([(a, .inr (5, [.ref q0, .ref q1, .ref q2, .int (zI 3), .ref q3, .null, .null, .int (zI 7), .int (zI 8), .null, .int (zI 10)])), aJ G q0 456 (fun _ => 0), aJ G q1 456 (fun _ => 0), aJ G q2 2736 (fun _ => 0), aJ G q3 912 (fun _ => 0)]) rfl dX5_init_37 ?_
  refine j_aload_n C dX5_init_40 0 rfl ?_
  refine j_iconst (v := 2) C dX5_init_41 (by decide) ?_
  refine j_newaZ (N' := 2) C (by decide) (by decide) (Nat.le_of_ble_eq_true rfl) (Nat.le_of_ble_eq_true rfl) (Nat.le_of_ble_eq_true rfl) dX5_init_42 (fun q4 => ?_)
  refine j_w ([(a, .inr (5, [.ref q0, .ref q1, .ref q2, .int (zI 3), .ref q3, .null, .null, .int (zI 7), .int (zI 8), .null, .int (zI 10)])), aJ G q0 456 (fun _ => 0), aJ G q1 456 (fun _ => 0), aJ G q2 2736 (fun _ => 0), aJ G q3 912 (fun _ => 0), aZ G q4 2 (fun _ => 0)]) rfl ?_
  refine j_putF C kin5 rfl 0 rfl 5 (by decide) kw_494 rfl hnm rfl tyX5 tyX5_ok nmX5 rfl rfl rfl (Nat.le_of_ble_eq_true rfl) ([(a, .inr (5, [.ref q0, .ref q1, .ref q2, .int (zI 3), .ref q3, .ref q4, .null, .int (zI 7), .int (zI 8), .null, .int (zI 10)])), aJ G q0 456 (fun _ => 0), aJ G q1 456 (fun _ => 0), aJ G q2 2736 (fun _ => 0), aJ G q3 912 (fun _ => 0), aZ G q4 2 (fun _ => 0)]) rfl dX5_init_44 ?_
  refine j_aload_n C dX5_init_47 0 rfl ?_
  refine j_bipush (v := 80) C dX5_init_48 (by decide) ?_
  refine j_newaI (N' := 80) C (by decide) (by decide) (Nat.le_of_ble_eq_true rfl) (Nat.le_of_ble_eq_true rfl) (Nat.le_of_ble_eq_true rfl) dX5_init_50 (fun q5 => ?_)
  refine j_w ([(a, .inr (5, [.ref q0, .ref q1, .ref q2, .int (zI 3), .ref q3, .ref q4, .null, .int (zI 7), .int (zI 8), .null, .int (zI 10)])), aJ G q0 456 (fun _ => 0), aJ G q1 456 (fun _ => 0), aJ G q2 2736 (fun _ => 0), aJ G q3 912 (fun _ => 0), aZ G q4 2 (fun _ => 0), aI G q5 80 (fun _ => 0)]) rfl ?_
  refine j_putF C kin5 rfl 0 rfl 6 (by decide) kw_495 rfl hnm rfl tyX5 tyX5_ok nmX5 rfl rfl rfl (Nat.le_of_ble_eq_true rfl) ([(a, .inr (5, [.ref q0, .ref q1, .ref q2, .int (zI 3), .ref q3, .ref q4, .ref q5, .int (zI 7), .int (zI 8), .null, .int (zI 10)])), aJ G q0 456 (fun _ => 0), aJ G q1 456 (fun _ => 0), aJ G q2 2736 (fun _ => 0), aJ G q3 912 (fun _ => 0), aZ G q4 2 (fun _ => 0), aI G q5 80 (fun _ => 0)]) rfl dX5_init_52 ?_
  refine j_aload_n C dX5_init_55 0 rfl ?_
  refine j_sipush (v := 164) C dX5_init_56 (by decide) ?_
  refine j_newaI (N' := 164) C (by decide) (by decide) (Nat.le_of_ble_eq_true rfl) (Nat.le_of_ble_eq_true rfl) (Nat.le_of_ble_eq_true rfl) dX5_init_59 (fun q6 => ?_)
  refine j_w ([(a, .inr (5, [.ref q0, .ref q1, .ref q2, .int (zI 3), .ref q3, .ref q4, .ref q5, .int (zI 7), .int (zI 8), .null, .int (zI 10)])), aJ G q0 456 (fun _ => 0), aJ G q1 456 (fun _ => 0), aJ G q2 2736 (fun _ => 0), aJ G q3 912 (fun _ => 0), aZ G q4 2 (fun _ => 0), aI G q5 80 (fun _ => 0), aI G q6 164 (fun _ => 0)]) rfl ?_
  refine j_putF C kin5 rfl 0 rfl 9 (by decide) kw_498 rfl hnm rfl tyX5 tyX5_ok nmX5 rfl rfl rfl (Nat.le_of_ble_eq_true rfl) ([oM a q0 q1 q2 q3 q4 q5 q6 zI, aJ G q0 456 (fun _ => 0), aJ G q1 456 (fun _ => 0), aJ G q2 2736 (fun _ => 0), aJ G q3 912 (fun _ => 0), aZ G q4 2 (fun _ => 0), aI G q5 80 (fun _ => 0), aI G q6 164 (fun _ => 0)]) rfl dX5_init_61 ?_
  refine j_aload_n C dX5_init_64 0 rfl ?_
  refine j_get C kin5 rfl 0 rfl 0 (by decide) kw_489 rfl (v := .ref q0) rfl dX5_init_65 ?_
  refine j_iconst (v := 5) C dX5_init_68 (by decide) ?_
  refine j_ldc2 (v := 60) C kw_480 dX5_init_69 ?_
  refine j_last C 1 rfl (vin_lit rfl) ([oM a q0 q1 q2 q3 q4 q5 q6 zI, aJ G q0 456 (vp_updL (fun _ => 0) 5 60), aJ G q1 456 (fun _ => 0), aJ G q2 2736 (fun _ => 0), aJ G q3 912 (fun _ => 0), aZ G q4 2 (fun _ => 0), aI G q5 80 (fun _ => 0), aI G q6 164 (fun _ => 0)]) rfl dX5_init_72 ?_
  refine j_aload_n C dX5_init_73 0 rfl ?_
  refine j_get C kin5 rfl 0 rfl 0 (by decide) kw_489 rfl (v := .ref q0) rfl dX5_init_74 ?_
  refine j_bipush (v := 6) C dX5_init_77 (by decide) ?_
  refine j_ldc2 (v := 5) C kw_481 dX5_init_79 ?_
  refine j_last C 1 rfl (vin_lit rfl) ([oM a q0 q1 q2 q3 q4 q5 q6 zI, aJ G q0 456 (vp_updL (vp_updL (fun _ => 0) 5 60) 6 5), aJ G q1 456 (fun _ => 0), aJ G q2 2736 (fun _ => 0), aJ G q3 912 (fun _ => 0), aZ G q4 2 (fun _ => 0), aI G q5 80 (fun _ => 0), aI G q6 164 (fun _ => 0)]) rfl dX5_init_82 ?_
  refine j_aload_n C dX5_init_83 0 rfl ?_
  refine j_get C kin5 rfl 0 rfl 0 (by decide) kw_489 rfl (v := .ref q0) rfl dX5_init_84 ?_
  refine j_bipush (v := 7) C dX5_init_87 (by decide) ?_
  refine j_ldc2 (v := 2) C kw_482 dX5_init_89 ?_
  refine j_last C 1 rfl (vin_lit rfl) ([oM a q0 q1 q2 q3 q4 q5 q6 zI, aJ G q0 456 (vp_updL (vp_updL (vp_updL (fun _ => 0) 5 60) 6 5) 7 2), aJ G q1 456 (fun _ => 0), aJ G q2 2736 (fun _ => 0), aJ G q3 912 (fun _ => 0), aZ G q4 2 (fun _ => 0), aI G q5 80 (fun _ => 0), aI G q6 164 (fun _ => 0)]) rfl dX5_init_92 ?_
  refine j_aload_n C dX5_init_93 0 rfl ?_
  refine j_get C kin5 rfl 0 rfl 0 (by decide) kw_489 rfl (v := .ref q0) rfl dX5_init_94 ?_
  refine j_bipush (v := 8) C dX5_init_97 (by decide) ?_
  refine j_ldc2 (v := 20) C kw_483 dX5_init_99 ?_
  refine j_last C 1 rfl (vin_lit rfl) ([oM a q0 q1 q2 q3 q4 q5 q6 zI, aJ G q0 456 (vp_updL (vp_updL (vp_updL (vp_updL (fun _ => 0) 5 60) 6 5) 7 2) 8 20), aJ G q1 456 (fun _ => 0), aJ G q2 2736 (fun _ => 0), aJ G q3 912 (fun _ => 0), aZ G q4 2 (fun _ => 0), aI G q5 80 (fun _ => 0), aI G q6 164 (fun _ => 0)]) rfl dX5_init_102 ?_
  refine j_aload_n C dX5_init_103 0 rfl ?_
  refine j_get C kin5 rfl 0 rfl 0 (by decide) kw_489 rfl (v := .ref q0) rfl dX5_init_104 ?_
  refine j_bipush (v := 9) C dX5_init_107 (by decide) ?_
  refine j_ldc2 (v := 50) C kw_484 dX5_init_109 ?_
  refine j_last C 1 rfl (vin_lit rfl) ([oM a q0 q1 q2 q3 q4 q5 q6 zI, aJ G q0 456 (vp_updL (vp_updL (vp_updL (vp_updL (vp_updL (fun _ => 0) 5 60) 6 5) 7 2) 8 20) 9 50), aJ G q1 456 (fun _ => 0), aJ G q2 2736 (fun _ => 0), aJ G q3 912 (fun _ => 0), aZ G q4 2 (fun _ => 0), aI G q5 80 (fun _ => 0), aI G q6 164 (fun _ => 0)]) rfl dX5_init_112 ?_
  refine j_aload_n C dX5_init_113 0 rfl ?_
  refine j_get C kin5 rfl 0 rfl 0 (by decide) kw_489 rfl (v := .ref q0) rfl dX5_init_114 ?_
  refine j_bipush (v := 10) C dX5_init_117 (by decide) ?_
  refine j_ldc2 (v := 4) C kw_485 dX5_init_119 ?_
  refine j_last C 1 rfl (vin_lit rfl) ([oM a q0 q1 q2 q3 q4 q5 q6 zI, aJ G q0 456 (vp_updL (vp_updL (vp_updL (vp_updL (vp_updL (vp_updL (fun _ => 0) 5 60) 6 5) 7 2) 8 20) 9 50) 10 4), aJ G q1 456 (fun _ => 0), aJ G q2 2736 (fun _ => 0), aJ G q3 912 (fun _ => 0), aZ G q4 2 (fun _ => 0), aI G q5 80 (fun _ => 0), aI G q6 164 (fun _ => 0)]) rfl dX5_init_122 ?_
  refine j_aload_n C dX5_init_123 0 rfl ?_
  refine j_get C kin5 rfl 0 rfl 0 (by decide) kw_489 rfl (v := .ref q0) rfl dX5_init_124 ?_
  refine j_bipush (v := 11) C dX5_init_127 (by decide) ?_
  refine j_ldc2 (v := 20) C kw_483 dX5_init_129 ?_
  refine j_last C 1 rfl (vin_lit rfl) ([oM a q0 q1 q2 q3 q4 q5 q6 zI, aJ G q0 456 (vp_updL (vp_updL (vp_updL (vp_updL (vp_updL (vp_updL (vp_updL (fun _ => 0) 5 60) 6 5) 7 2) 8 20) 9 50) 10 4) 11 20), aJ G q1 456 (fun _ => 0), aJ G q2 2736 (fun _ => 0), aJ G q3 912 (fun _ => 0), aZ G q4 2 (fun _ => 0), aI G q5 80 (fun _ => 0), aI G q6 164 (fun _ => 0)]) rfl dX5_init_132 ?_
  refine j_iconst (v := 0) C dX5_init_133 (by decide) ?_
  refine j_istore_n C [(1, .int 0), (0, .ref a)] dX5_init_134 (by decide) rfl ?_
  refine j_iload_n C dX5_init_135 0 rfl ?_
  refine j_iconst (v := 4) C dX5_init_136 (by decide) ?_
  refine j_icmp_ge (tgt := 173) C dX5_init_137 (by decide) (fun h => absurd h (by decide)) (fun _ => ?_)
  refine j_aload_n C dX5_init_140 1 rfl ?_
  refine j_get C kin5 rfl 0 rfl 0 (by decide) kw_489 rfl (v := .ref q0) rfl dX5_init_141 ?_
  refine j_iload_n C dX5_init_144 0 rfl ?_
  refine j_pureS_i (r := f_X5_row_r 0) C (m_X5_row l G 0) 1 (gS kw_486 kw_487 kw_7 kw_488) (by decide +kernel) ⟨(Nat.le_of_ble_eq_true rfl), (Nat.le_of_ble_eq_true rfl)⟩ rfl rfl (Nat.le_of_ble_eq_true rfl) dX5_init_145 ⟨(Nat.le_of_ble_eq_true rfl), (Nat.le_of_ble_eq_true rfl)⟩ ?_
  refine j_iconst (v := 0) C dX5_init_148 (by decide) ?_
  refine j_iadd C dX5_init_149 rfl ?_
  refine j_ldc2 (v := 60) C kw_480 dX5_init_150 ?_
  refine j_last C 1 rfl (vin_row (vin_lit (by decide)) (by decide)) ([oM a q0 q1 q2 q3 q4 q5 q6 zI, aJ G q0 456 (vp_updL (vp_updL (vp_updL (vp_updL (vp_updL (vp_updL (vp_updL (vp_updL (fun _ => 0) 5 60) 6 5) 7 2) 8 20) 9 50) 10 4) 11 20) ((f_X5_row_r 0) + 0).toNatClampNeg 60), aJ G q1 456 (fun _ => 0), aJ G q2 2736 (fun _ => 0), aJ G q3 912 (fun _ => 0), aZ G q4 2 (fun _ => 0), aI G q5 80 (fun _ => 0), aI G q6 164 (fun _ => 0)]) rfl dX5_init_153 ?_
  refine j_aload_n C dX5_init_154 1 rfl ?_
  refine j_get C kin5 rfl 0 rfl 0 (by decide) kw_489 rfl (v := .ref q0) rfl dX5_init_155 ?_
  refine j_iload_n C dX5_init_158 0 rfl ?_
  refine j_pureS_i (r := f_X5_row_r 0) C (m_X5_row l G 0) 1 (gS kw_486 kw_487 kw_7 kw_488) (by decide +kernel) ⟨(Nat.le_of_ble_eq_true rfl), (Nat.le_of_ble_eq_true rfl)⟩ rfl rfl (Nat.le_of_ble_eq_true rfl) dX5_init_159 ⟨(Nat.le_of_ble_eq_true rfl), (Nat.le_of_ble_eq_true rfl)⟩ ?_
  refine j_bipush (v := 8) C dX5_init_162 (by decide) ?_
  refine j_iadd C dX5_init_164 rfl ?_
  refine j_lconst (v := 1) C dX5_init_165 (by decide) ?_
  refine j_last C 1 rfl (vin_row (vin_lit (by decide)) (by decide)) ([oM a q0 q1 q2 q3 q4 q5 q6 zI, aJ G q0 456 (vp_updL (vp_updL (vp_updL (vp_updL (vp_updL (vp_updL (vp_updL (vp_updL (vp_updL (fun _ => 0) 5 60) 6 5) 7 2) 8 20) 9 50) 10 4) 11 20) ((f_X5_row_r 0) + 0).toNatClampNeg 60) ((f_X5_row_r 0) + 8).toNatClampNeg 1), aJ G q1 456 (fun _ => 0), aJ G q2 2736 (fun _ => 0), aJ G q3 912 (fun _ => 0), aZ G q4 2 (fun _ => 0), aI G q5 80 (fun _ => 0), aI G q6 164 (fun _ => 0)]) rfl dX5_init_166 ?_
  refine j_iinc (v := 1) C [(1, .int 1), (0, .ref a)] dX5_init_167 (k := 0) rfl (by decide) (by decide) rfl ?_
  refine j_goto (tgt := 135) C dX5_init_170 (by decide) ?_
  refine j_iload_n C dX5_init_135 0 rfl ?_
  refine j_iconst (v := 4) C dX5_init_136 (by decide) ?_
  refine j_icmp_ge (tgt := 173) C dX5_init_137 (by decide) (fun h => absurd h (by decide)) (fun _ => ?_)
  refine j_aload_n C dX5_init_140 1 rfl ?_
  refine j_get C kin5 rfl 0 rfl 0 (by decide) kw_489 rfl (v := .ref q0) rfl dX5_init_141 ?_
  refine j_iload_n C dX5_init_144 0 rfl ?_
  refine j_pureS_i (r := f_X5_row_r 1) C (m_X5_row l G 1) 1 (gS kw_486 kw_487 kw_7 kw_488) (by decide +kernel) ⟨(Nat.le_of_ble_eq_true rfl), (Nat.le_of_ble_eq_true rfl)⟩ rfl rfl (Nat.le_of_ble_eq_true rfl) dX5_init_145 ⟨(Nat.le_of_ble_eq_true rfl), (Nat.le_of_ble_eq_true rfl)⟩ ?_
  refine j_iconst (v := 0) C dX5_init_148 (by decide) ?_
  refine j_iadd C dX5_init_149 rfl ?_
  refine j_ldc2 (v := 60) C kw_480 dX5_init_150 ?_
  refine j_last C 1 rfl (vin_row (vin_lit (by decide)) (by decide)) ([oM a q0 q1 q2 q3 q4 q5 q6 zI, aJ G q0 456 (vp_updL (vp_updL (vp_updL (vp_updL (vp_updL (vp_updL (vp_updL (vp_updL (vp_updL (vp_updL (fun _ => 0) 5 60) 6 5) 7 2) 8 20) 9 50) 10 4) 11 20) ((f_X5_row_r 0) + 0).toNatClampNeg 60) ((f_X5_row_r 0) + 8).toNatClampNeg 1) ((f_X5_row_r 1) + 0).toNatClampNeg 60), aJ G q1 456 (fun _ => 0), aJ G q2 2736 (fun _ => 0), aJ G q3 912 (fun _ => 0), aZ G q4 2 (fun _ => 0), aI G q5 80 (fun _ => 0), aI G q6 164 (fun _ => 0)]) rfl dX5_init_153 ?_
  refine j_aload_n C dX5_init_154 1 rfl ?_
  refine j_get C kin5 rfl 0 rfl 0 (by decide) kw_489 rfl (v := .ref q0) rfl dX5_init_155 ?_
  refine j_iload_n C dX5_init_158 0 rfl ?_
  refine j_pureS_i (r := f_X5_row_r 1) C (m_X5_row l G 1) 1 (gS kw_486 kw_487 kw_7 kw_488) (by decide +kernel) ⟨(Nat.le_of_ble_eq_true rfl), (Nat.le_of_ble_eq_true rfl)⟩ rfl rfl (Nat.le_of_ble_eq_true rfl) dX5_init_159 ⟨(Nat.le_of_ble_eq_true rfl), (Nat.le_of_ble_eq_true rfl)⟩ ?_
  refine j_bipush (v := 8) C dX5_init_162 (by decide) ?_
  refine j_iadd C dX5_init_164 rfl ?_
  refine j_lconst (v := 1) C dX5_init_165 (by decide) ?_
  refine j_last C 1 rfl (vin_row (vin_lit (by decide)) (by decide)) ([oM a q0 q1 q2 q3 q4 q5 q6 zI, aJ G q0 456 (vp_updL (vp_updL (vp_updL (vp_updL (vp_updL (vp_updL (vp_updL (vp_updL (vp_updL (vp_updL (vp_updL (fun _ => 0) 5 60) 6 5) 7 2) 8 20) 9 50) 10 4) 11 20) ((f_X5_row_r 0) + 0).toNatClampNeg 60) ((f_X5_row_r 0) + 8).toNatClampNeg 1) ((f_X5_row_r 1) + 0).toNatClampNeg 60) ((f_X5_row_r 1) + 8).toNatClampNeg 1), aJ G q1 456 (fun _ => 0), aJ G q2 2736 (fun _ => 0), aJ G q3 912 (fun _ => 0), aZ G q4 2 (fun _ => 0), aI G q5 80 (fun _ => 0), aI G q6 164 (fun _ => 0)]) rfl dX5_init_166 ?_
  refine j_iinc (v := 2) C [(1, .int 2), (0, .ref a)] dX5_init_167 (k := 0) rfl (by decide) (by decide) rfl ?_
  refine j_goto (tgt := 135) C dX5_init_170 (by decide) ?_
  refine j_iload_n C dX5_init_135 0 rfl ?_
  refine j_iconst (v := 4) C dX5_init_136 (by decide) ?_
  refine j_icmp_ge (tgt := 173) C dX5_init_137 (by decide) (fun h => absurd h (by decide)) (fun _ => ?_)
  refine j_aload_n C dX5_init_140 1 rfl ?_
  refine j_get C kin5 rfl 0 rfl 0 (by decide) kw_489 rfl (v := .ref q0) rfl dX5_init_141 ?_
  refine j_iload_n C dX5_init_144 0 rfl ?_
  refine j_pureS_i (r := f_X5_row_r 2) C (m_X5_row l G 2) 1 (gS kw_486 kw_487 kw_7 kw_488) (by decide +kernel) ⟨(Nat.le_of_ble_eq_true rfl), (Nat.le_of_ble_eq_true rfl)⟩ rfl rfl (Nat.le_of_ble_eq_true rfl) dX5_init_145 ⟨(Nat.le_of_ble_eq_true rfl), (Nat.le_of_ble_eq_true rfl)⟩ ?_
  refine j_iconst (v := 0) C dX5_init_148 (by decide) ?_
  refine j_iadd C dX5_init_149 rfl ?_
  refine j_ldc2 (v := 60) C kw_480 dX5_init_150 ?_
  refine j_last C 1 rfl (vin_row (vin_lit (by decide)) (by decide)) ([oM a q0 q1 q2 q3 q4 q5 q6 zI, aJ G q0 456 (vp_updL (vp_updL (vp_updL (vp_updL (vp_updL (vp_updL (vp_updL (vp_updL (vp_updL (vp_updL (vp_updL (vp_updL (fun _ => 0) 5 60) 6 5) 7 2) 8 20) 9 50) 10 4) 11 20) ((f_X5_row_r 0) + 0).toNatClampNeg 60) ((f_X5_row_r 0) + 8).toNatClampNeg 1) ((f_X5_row_r 1) + 0).toNatClampNeg 60) ((f_X5_row_r 1) + 8).toNatClampNeg 1) ((f_X5_row_r 2) + 0).toNatClampNeg 60), aJ G q1 456 (fun _ => 0), aJ G q2 2736 (fun _ => 0), aJ G q3 912 (fun _ => 0), aZ G q4 2 (fun _ => 0), aI G q5 80 (fun _ => 0), aI G q6 164 (fun _ => 0)]) rfl dX5_init_153 ?_
  refine j_aload_n C dX5_init_154 1 rfl ?_
  refine j_get C kin5 rfl 0 rfl 0 (by decide) kw_489 rfl (v := .ref q0) rfl dX5_init_155 ?_
  refine j_iload_n C dX5_init_158 0 rfl ?_
  refine j_pureS_i (r := f_X5_row_r 2) C (m_X5_row l G 2) 1 (gS kw_486 kw_487 kw_7 kw_488) (by decide +kernel) ⟨(Nat.le_of_ble_eq_true rfl), (Nat.le_of_ble_eq_true rfl)⟩ rfl rfl (Nat.le_of_ble_eq_true rfl) dX5_init_159 ⟨(Nat.le_of_ble_eq_true rfl), (Nat.le_of_ble_eq_true rfl)⟩ ?_
  refine j_bipush (v := 8) C dX5_init_162 (by decide) ?_
  refine j_iadd C dX5_init_164 rfl ?_
  refine j_lconst (v := 1) C dX5_init_165 (by decide) ?_
  refine j_last C 1 rfl (vin_row (vin_lit (by decide)) (by decide)) ([oM a q0 q1 q2 q3 q4 q5 q6 zI, aJ G q0 456 (vp_updL (vp_updL (vp_updL (vp_updL (vp_updL (vp_updL (vp_updL (vp_updL (vp_updL (vp_updL (vp_updL (vp_updL (vp_updL (fun _ => 0) 5 60) 6 5) 7 2) 8 20) 9 50) 10 4) 11 20) ((f_X5_row_r 0) + 0).toNatClampNeg 60) ((f_X5_row_r 0) + 8).toNatClampNeg 1) ((f_X5_row_r 1) + 0).toNatClampNeg 60) ((f_X5_row_r 1) + 8).toNatClampNeg 1) ((f_X5_row_r 2) + 0).toNatClampNeg 60) ((f_X5_row_r 2) + 8).toNatClampNeg 1), aJ G q1 456 (fun _ => 0), aJ G q2 2736 (fun _ => 0), aJ G q3 912 (fun _ => 0), aZ G q4 2 (fun _ => 0), aI G q5 80 (fun _ => 0), aI G q6 164 (fun _ => 0)]) rfl dX5_init_166 ?_
  refine j_iinc (v := 3) C [(1, .int 3), (0, .ref a)] dX5_init_167 (k := 0) rfl (by decide) (by decide) rfl ?_
  refine j_goto (tgt := 135) C dX5_init_170 (by decide) ?_
  refine j_iload_n C dX5_init_135 0 rfl ?_
  refine j_iconst (v := 4) C dX5_init_136 (by decide) ?_
  refine j_icmp_ge (tgt := 173) C dX5_init_137 (by decide) (fun h => absurd h (by decide)) (fun _ => ?_)
  refine j_aload_n C dX5_init_140 1 rfl ?_
  refine j_get C kin5 rfl 0 rfl 0 (by decide) kw_489 rfl (v := .ref q0) rfl dX5_init_141 ?_
  refine j_iload_n C dX5_init_144 0 rfl ?_
  refine j_pureS_i (r := f_X5_row_r 3) C (m_X5_row l G 3) 1 (gS kw_486 kw_487 kw_7 kw_488) (by decide +kernel) ⟨(Nat.le_of_ble_eq_true rfl), (Nat.le_of_ble_eq_true rfl)⟩ rfl rfl (Nat.le_of_ble_eq_true rfl) dX5_init_145 ⟨(Nat.le_of_ble_eq_true rfl), (Nat.le_of_ble_eq_true rfl)⟩ ?_
  refine j_iconst (v := 0) C dX5_init_148 (by decide) ?_
  refine j_iadd C dX5_init_149 rfl ?_
  refine j_ldc2 (v := 60) C kw_480 dX5_init_150 ?_
  refine j_last C 1 rfl (vin_row (vin_lit (by decide)) (by decide)) ([oM a q0 q1 q2 q3 q4 q5 q6 zI, aJ G q0 456 (vp_updL (vp_updL (vp_updL (vp_updL (vp_updL (vp_updL (vp_updL (vp_updL (vp_updL (vp_updL (vp_updL (vp_updL (vp_updL (vp_updL (fun _ => 0) 5 60) 6 5) 7 2) 8 20) 9 50) 10 4) 11 20) ((f_X5_row_r 0) + 0).toNatClampNeg 60) ((f_X5_row_r 0) + 8).toNatClampNeg 1) ((f_X5_row_r 1) + 0).toNatClampNeg 60) ((f_X5_row_r 1) + 8).toNatClampNeg 1) ((f_X5_row_r 2) + 0).toNatClampNeg 60) ((f_X5_row_r 2) + 8).toNatClampNeg 1) ((f_X5_row_r 3) + 0).toNatClampNeg 60), aJ G q1 456 (fun _ => 0), aJ G q2 2736 (fun _ => 0), aJ G q3 912 (fun _ => 0), aZ G q4 2 (fun _ => 0), aI G q5 80 (fun _ => 0), aI G q6 164 (fun _ => 0)]) rfl dX5_init_153 ?_
  refine j_aload_n C dX5_init_154 1 rfl ?_
  refine j_get C kin5 rfl 0 rfl 0 (by decide) kw_489 rfl (v := .ref q0) rfl dX5_init_155 ?_
  refine j_iload_n C dX5_init_158 0 rfl ?_
  refine j_pureS_i (r := f_X5_row_r 3) C (m_X5_row l G 3) 1 (gS kw_486 kw_487 kw_7 kw_488) (by decide +kernel) ⟨(Nat.le_of_ble_eq_true rfl), (Nat.le_of_ble_eq_true rfl)⟩ rfl rfl (Nat.le_of_ble_eq_true rfl) dX5_init_159 ⟨(Nat.le_of_ble_eq_true rfl), (Nat.le_of_ble_eq_true rfl)⟩ ?_
  refine j_bipush (v := 8) C dX5_init_162 (by decide) ?_
  refine j_iadd C dX5_init_164 rfl ?_
  refine j_lconst (v := 1) C dX5_init_165 (by decide) ?_
  refine j_last C 1 rfl (vin_row (vin_lit (by decide)) (by decide)) ([oM a q0 q1 q2 q3 q4 q5 q6 zI, aJ G q0 456 (vp_updL (vp_updL (vp_updL (vp_updL (vp_updL (vp_updL (vp_updL (vp_updL (vp_updL (vp_updL (vp_updL (vp_updL (vp_updL (vp_updL (vp_updL (fun _ => 0) 5 60) 6 5) 7 2) 8 20) 9 50) 10 4) 11 20) ((f_X5_row_r 0) + 0).toNatClampNeg 60) ((f_X5_row_r 0) + 8).toNatClampNeg 1) ((f_X5_row_r 1) + 0).toNatClampNeg 60) ((f_X5_row_r 1) + 8).toNatClampNeg 1) ((f_X5_row_r 2) + 0).toNatClampNeg 60) ((f_X5_row_r 2) + 8).toNatClampNeg 1) ((f_X5_row_r 3) + 0).toNatClampNeg 60) ((f_X5_row_r 3) + 8).toNatClampNeg 1), aJ G q1 456 (fun _ => 0), aJ G q2 2736 (fun _ => 0), aJ G q3 912 (fun _ => 0), aZ G q4 2 (fun _ => 0), aI G q5 80 (fun _ => 0), aI G q6 164 (fun _ => 0)]) rfl dX5_init_166 ?_
  refine j_iinc (v := 4) C [(1, .int 4), (0, .ref a)] dX5_init_167 (k := 0) rfl (by decide) (by decide) rfl ?_
  refine j_goto (tgt := 135) C dX5_init_170 (by decide) ?_
  refine j_iload_n C dX5_init_135 0 rfl ?_
  refine j_iconst (v := 4) C dX5_init_136 (by decide) ?_
  refine j_icmp_ge (tgt := 173) C dX5_init_137 (by decide) (fun _ => ?_) (fun h => absurd h (by decide))
  subst hQ; exact j_nret C hr hk (fun k => ([q0, q1, q2, q3, q4, q5, q6] : List Nat).getD k 0) (by first | trivial | rfl) rfl (Nat.le_of_ble_eq_true rfl) (Nat.le_of_ble_eq_true rfl) dX5_init_173
