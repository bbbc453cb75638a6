/-! THE PAD -/
noncomputable def f_X2_isDigit_x1 (k : Int32) : Int32 := (if k < 48 then 0 else (if 57 < k then 0 else 1))
noncomputable def f_X2_isDigit_r (k : Int32) : Int32 := (f_X2_isDigit_x1 k)
set_option maxRecDepth 100000 in
set_option maxHeartbeats 4000000 in
theorem m_X2_isDigit (l : Launch) (G : GG) (k : Int32)  : CtI l yX2_isDigit cX2_isDigit 1 (some .boolean) (RM 0) G [.int k] ([]) (f_X2_isDigit_r k) ([]) := by
  refine ct_I RX2 [(0, .int k)] rfl (by decide +kernel) (Nat.le_of_ble_eq_true rfl) rfl ?_
  intro p e s m args below meth c A C hr hk hnm
  generalize hQ : (MQ below (PostI G A (f_X2_isDigit_r k) ([])) args s (RM 0).cells (RM 0).slots A) = Q
  refine j_iload_n C dX2_isDigit_0 0 rfl ?_
  refine j_bipush (v := 48) C dX2_isDigit_1 (by decide) ?_
  have K17 : WJ p l e (RM 0) s m args below meth c G A 1 0 0 Q ([]) [(0, .int k)] 17 [.int (f_X2_isDigit_x1 k)] := by
    generalize hw0 : f_X2_isDigit_x1 k = w0
    subst hQ; subst hw0; exact j_zret C hr hk (by unfold f_X2_isDigit_x1; (repeat' split) <;> rfl) ((show f_X2_isDigit_r k = (f_X2_isDigit_x1 k) from rfl).symm) rfl dX2_isDigit_17
  refine j_icmp_lt (tgt := 16) C dX2_isDigit_3 (by decide) (fun c3 => ?_) (fun c3 => ?_)
  · refine j_iconst (v := 0) C dX2_isDigit_16 (by decide) ?_
    exact j_eq rfl rfl (by rw [show f_X2_isDigit_x1 k = 0 from (if_pos c3)]) K17
  · refine j_iload_n C dX2_isDigit_6 0 rfl ?_
    refine j_bipush (v := 57) C dX2_isDigit_7 (by decide) ?_
    refine j_icmp_gt (tgt := 16) C dX2_isDigit_9 (by decide) (fun c9 => ?_) (fun c9 => ?_)
    · refine j_iconst (v := 0) C dX2_isDigit_16 (by decide) ?_
      exact j_eq rfl rfl (by rw [show f_X2_isDigit_x1 k = 0 from ((if_neg c3).trans (if_pos c9))]) K17
    · refine j_iconst (v := 1) C dX2_isDigit_12 (by decide) ?_
      refine j_goto (tgt := 17) C dX2_isDigit_13 (by decide) ?_
      exact j_eq rfl rfl (by rw [show f_X2_isDigit_x1 k = 1 from ((if_neg c3).trans (if_neg c9))]) K17
noncomputable def f_X2_begin_v (v : Nat → Int32) : (Nat → Int32) := upd v 2 0
set_option maxRecDepth 100000 in
set_option maxHeartbeats 4000000 in
theorem m_X2_begin (l : Launch) (G : GG) (a ga : Nat) (v : Nat → Int32)  : CtV l yX2_begin cX2_begin 1 (none : Option Jvm.ClassFile.FieldType) (RM 0) G [.ref a] ([oP a ga v]) ([oP a ga (f_X2_begin_v v)]) := by
  refine ct_V RX2 [(0, .ref a)] rfl (by decide +kernel) (Nat.le_of_ble_eq_true rfl) rfl ?_
  intro p e s m args below meth c A C hr hk hnm
  generalize hQ : (MQ below (PostV G A ([oP a ga (f_X2_begin_v v)])) args s (RM 0).cells (RM 0).slots A) = Q
  refine j_aload_n C dX2_begin_0 0 rfl ?_
  refine j_iconst (v := 0) C dX2_begin_1 (by decide) ?_
  refine j_put C kin2 rfl 0 rfl 2 (by decide) kw_122 rfl tyX2 tyX2_ok nmX2 rfl rfl rfl (Nat.le_of_ble_eq_true rfl) ([oP a ga (upd v 2 0)]) rfl dX2_begin_2 ?_
  subst hQ; exact j_vret C hr hk (by rw [show f_X2_begin_v v = upd v 2 0 from rfl]) dX2_begin_5
noncomputable def f_X2_signHere_x1 (v : Nat → Int32) (q : Nat → UInt16) : Int32 := (if v 2 < 0 then 0 else (if v 1 ≤ v 2 then 0 else (if 80 ≤ v 2 then 0 else (q (v 2).toNatClampNeg).toUInt32.toInt32)))
noncomputable def f_X2_signHere_r (v : Nat → Int32) (q : Nat → UInt16) : Int32 := (f_X2_signHere_x1 v q)
set_option maxRecDepth 100000 in
set_option maxHeartbeats 4000000 in
theorem m_X2_signHere (l : Launch) (G : GG) (a ga : Nat) (v : Nat → Int32) (q : Nat → UInt16)  : CtI l yX2_signHere cX2_signHere 1 (some .char) (RM 0) G [.ref a] ([oP a ga v, aC G ga q]) (f_X2_signHere_r v q) ([oP a ga v, aC G ga q]) := by
  refine ct_I RX2 [(0, .ref a)] rfl (by decide +kernel) (Nat.le_of_ble_eq_true rfl) rfl ?_
  intro p e s m args below meth c A C hr hk hnm
  generalize hQ : (MQ below (PostI G A (f_X2_signHere_r v q) ([oP a ga v, aC G ga q])) args s (RM 0).cells (RM 0).slots A) = Q
  refine j_aload_n C dX2_signHere_0 0 rfl ?_
  refine j_get C kin2 rfl 0 rfl 2 (by decide) kw_122 rfl (v := .int (v 2)) rfl dX2_signHere_1 ?_
  have K40 : WJ p l e (RM 0) s m args below meth c G A 1 0 0 Q ([oP a ga v, aC G ga q]) [(0, .ref a)] 40 [.int (f_X2_signHere_x1 v q)] := by
    generalize hw0 : f_X2_signHere_x1 v q = w0
    subst hQ; subst hw0; exact j_zret C hr hk (by unfold f_X2_signHere_x1; (repeat' split) <;> first | rfl | exact nar_c _) ((show f_X2_signHere_r v q = (f_X2_signHere_x1 v q) from rfl).symm) rfl dX2_signHere_40
  refine j_if_lt (tgt := 39) C dX2_signHere_4 (by decide) (fun c4 => ?_) (fun c4 => ?_)
  · refine j_iconst (v := 0) C dX2_signHere_39 (by decide) ?_
    exact j_eq rfl rfl (by rw [show f_X2_signHere_x1 v q = 0 from (if_pos c4)]) K40
  · refine j_aload_n C dX2_signHere_7 0 rfl ?_
    refine j_get C kin2 rfl 0 rfl 2 (by decide) kw_122 rfl (v := .int (v 2)) rfl dX2_signHere_8 ?_
    refine j_aload_n C dX2_signHere_11 0 rfl ?_
    refine j_get C kin2 rfl 0 rfl 1 (by decide) kw_120 rfl (v := .int (v 1)) rfl dX2_signHere_12 ?_
    refine j_icmp_ge (tgt := 39) C dX2_signHere_15 (by decide) (fun c15 => ?_) (fun c15 => ?_)
    · refine j_iconst (v := 0) C dX2_signHere_39 (by decide) ?_
      exact j_eq rfl rfl (by rw [show f_X2_signHere_x1 v q = 0 from ((if_neg c4).trans (if_pos c15))]) K40
    · refine j_aload_n C dX2_signHere_18 0 rfl ?_
      refine j_get C kin2 rfl 0 rfl 2 (by decide) kw_122 rfl (v := .int (v 2)) rfl dX2_signHere_19 ?_
      refine j_bipush (v := 80) C dX2_signHere_22 (by decide) ?_
      refine j_icmp_ge (tgt := 39) C dX2_signHere_24 (by decide) (fun c24 => ?_) (fun c24 => ?_)
      · refine j_iconst (v := 0) C dX2_signHere_39 (by decide) ?_
        exact j_eq rfl rfl (by rw [show f_X2_signHere_x1 v q = 0 from ((if_neg c4).trans ((if_neg c15).trans (if_pos c24)))]) K40
      · refine j_aload_n C dX2_signHere_27 0 rfl ?_
        refine j_get C kin2 rfl 0 rfl 0 (by decide) kw_119 rfl (v := .ref ga) rfl dX2_signHere_28 ?_
        refine j_aload_n C dX2_signHere_31 0 rfl ?_
        refine j_get C kin2 rfl 0 rfl 2 (by decide) kw_122 rfl (v := .int (v 2)) rfl dX2_signHere_32 ?_
        refine j_cald C 1 rfl (vin_of (N := 80) rfl c4 c24) (v := (q (v 2).toNatClampNeg).toUInt32.toInt32) rfl dX2_signHere_35 ?_
        refine j_goto (tgt := 40) C dX2_signHere_36 (by decide) ?_
        exact j_eq rfl rfl (by rw [show f_X2_signHere_x1 v q = (q (v 2).toNatClampNeg).toUInt32.toInt32 from ((if_neg c4).trans ((if_neg c15).trans (if_neg c24)))]) K40
theorem nar_sign (v : Nat → Int32) (q : Nat → UInt16) : narrow .char (.int (f_X2_signHere_r v q)) = .int (f_X2_signHere_r v q) := by
  unfold f_X2_signHere_r f_X2_signHere_x1
  (repeat' split) <;> first | rfl | exact nar_c _
theorem fit_sign (v : Nat → Int32) (q : Nat → UInt16) : Jvm.fits .char (.int (f_X2_signHere_r v q)) = true := by
  unfold f_X2_signHere_r f_X2_signHere_x1
  (repeat' split) <;> first | rfl | exact fit_c _
theorem f_X2_readSign_v_ex : ∃ F : (Nat → Int32) → (Nat → UInt16) → Int32 → (Nat → Int32), ∀ (v : Nat → Int32) (q : Nat → UInt16) (k : Int32), F v q k = (if f_X2_signHere_r v q = k then upd v 2 ((v 2) + 1) else v) := ⟨fun v q k => (if f_X2_signHere_r v q = k then upd v 2 ((v 2) + 1) else v), fun _ _ _ => rfl⟩
noncomputable def f_X2_readSign_v : (Nat → Int32) → (Nat → UInt16) → Int32 → (Nat → Int32) := Classical.choose f_X2_readSign_v_ex
theorem f_X2_readSign_v_eq (v : Nat → Int32) (q : Nat → UInt16) (k : Int32) : f_X2_readSign_v v q k = (if f_X2_signHere_r v q = k then upd v 2 ((v 2) + 1) else v) := Classical.choose_spec f_X2_readSign_v_ex v q k
theorem f_X2_readSign_r_ex : ∃ F : (Nat → Int32) → (Nat → UInt16) → Int32 → Int32, ∀ (v : Nat → Int32) (q : Nat → UInt16) (k : Int32), F v q k = (if f_X2_signHere_r v q = k then 1 else 0) := ⟨fun v q k => (if f_X2_signHere_r v q = k then 1 else 0), fun _ _ _ => rfl⟩
noncomputable def f_X2_readSign_r : (Nat → Int32) → (Nat → UInt16) → Int32 → Int32 := Classical.choose f_X2_readSign_r_ex
theorem f_X2_readSign_r_eq (v : Nat → Int32) (q : Nat → UInt16) (k : Int32) : f_X2_readSign_r v q k = (if f_X2_signHere_r v q = k then 1 else 0) := Classical.choose_spec f_X2_readSign_r_ex v q k
set_option maxRecDepth 100000 in
set_option maxHeartbeats 4000000 in
theorem m_X2_readSign (l : Launch) (G : GG) (a ga : Nat) (v : Nat → Int32) (q : Nat → UInt16) (k : Int32)  : CtI l yX2_readSign cX2_readSign 2 (some .boolean) (RM 1) G [.ref a, .int k] ([oP a ga v, aC G ga q]) (f_X2_readSign_r v q k) ([oP a ga (f_X2_readSign_v v q k), aC G ga q]) := by
  refine ct_I RX2 [(0, .ref a), (1, .int k)] rfl (by decide +kernel) (Nat.le_of_ble_eq_true rfl) rfl ?_
  intro p e s m args below meth c A C hr hk hnm
  generalize hQ : (MQ below (PostI G A (f_X2_readSign_r v q k) ([oP a ga (f_X2_readSign_v v q k), aC G ga q])) args s (RM 1).cells (RM 1).slots A) = Q
  refine j_aload_n C dX2_readSign_0 0 rfl ?_
  refine j_callV_i (r := f_X2_signHere_r v q) (wc' := [oP a ga v, aC G ga q]) C (m_X2_signHere l G a ga v q) rfl 0 rfl 0 (gV kw_425 kw_426 kw_764 kw_6 kw_427) (by decide +kernel) ⟨(Nat.le_of_ble_eq_true rfl), (Nat.le_of_ble_eq_true rfl)⟩ rfl rfl (Nat.le_of_ble_eq_true rfl) dX2_readSign_1 ⟨(Nat.le_of_ble_eq_true rfl), (Nat.le_of_ble_eq_true rfl)⟩ [] [oP a ga v, aC G ga q] (perm_idx [0, 1] 2 rfl (by decide +kernel) rfl) rfl ?_
  refine j_iload_n C dX2_readSign_4 1 rfl ?_
  refine j_icmp_eq (tgt := 10) C dX2_readSign_5 (by decide) (fun c5 => ?_) (fun c5 => ?_)
  · refine j_aload_n C dX2_readSign_10 0 rfl ?_
    refine j_dup C dX2_readSign_11 rfl ?_
    refine j_get C kin2 rfl 0 rfl 2 (by decide) kw_122 rfl (v := .int (v 2)) rfl dX2_readSign_12 ?_
    refine j_iconst (v := 1) C dX2_readSign_15 (by decide) ?_
    refine j_iadd C dX2_readSign_16 rfl ?_
    generalize hw0 : (v 2) + 1 = w0
    refine j_put C kin2 rfl 0 rfl 2 (by decide) kw_122 rfl tyX2 tyX2_ok nmX2 rfl rfl rfl (Nat.le_of_ble_eq_true rfl) ([oP a ga (upd v 2 w0), aC G ga q]) rfl dX2_readSign_17 ?_
    refine j_iconst (v := 1) C dX2_readSign_20 (by decide) ?_
    subst hQ; subst hw0; exact j_zret C hr hk rfl ((show f_X2_readSign_r v q k = 1 from ((f_X2_readSign_r_eq v q k).trans (if_pos c5))).symm) (by rw [show f_X2_readSign_v v q k = upd v 2 ((v 2) + 1) from ((f_X2_readSign_v_eq v q k).trans (if_pos c5))]) dX2_readSign_21
  · refine j_iconst (v := 0) C dX2_readSign_8 (by decide) ?_
    subst hQ; exact j_zret C hr hk rfl ((show f_X2_readSign_r v q k = 0 from ((f_X2_readSign_r_eq v q k).trans (if_neg c5))).symm) (by rw [show f_X2_readSign_v v q k = v from ((f_X2_readSign_v_eq v q k).trans (if_neg c5))]) dX2_readSign_9
theorem f_X2_readKindAndDrive_rq2_ex : ∃ F : (Nat → Int32) → (Nat → UInt16) → Int32, ∀ (v : Nat → Int32) (q : Nat → UInt16), F v q = f_X4_isDrive_r ((f_X2_signHere_r (upd v 2 ((v 2) + 1)) q) - 48) := ⟨fun v q => f_X4_isDrive_r ((f_X2_signHere_r (upd v 2 ((v 2) + 1)) q) - 48), fun _ _ => rfl⟩
noncomputable def f_X2_readKindAndDrive_rq2 : (Nat → Int32) → (Nat → UInt16) → Int32 := Classical.choose f_X2_readKindAndDrive_rq2_ex
theorem f_X2_readKindAndDrive_rq2_eq (v : Nat → Int32) (q : Nat → UInt16) : f_X2_readKindAndDrive_rq2 v q = f_X4_isDrive_r ((f_X2_signHere_r (upd v 2 ((v 2) + 1)) q) - 48) := Classical.choose_spec f_X2_readKindAndDrive_rq2_ex v q
theorem f_X2_readKindAndDrive_v_ex : ∃ F : (Nat → Int32) → (Nat → UInt16) → (Nat → Int32), ∀ (v : Nat → Int32) (q : Nat → UInt16), F v q = (if (f_X2_readKindAndDrive_rq2 v q) = 0 then upd (upd v 2 ((v 2) + 1)) 4 ((f_X2_signHere_r (upd v 2 ((v 2) + 1)) q) - 48) else upd (upd v 2 (((v 2) + 1) + 1)) 4 ((f_X2_signHere_r (upd v 2 ((v 2) + 1)) q) - 48)) := ⟨fun v q => (if (f_X2_readKindAndDrive_rq2 v q) = 0 then upd (upd v 2 ((v 2) + 1)) 4 ((f_X2_signHere_r (upd v 2 ((v 2) + 1)) q) - 48) else upd (upd v 2 (((v 2) + 1) + 1)) 4 ((f_X2_signHere_r (upd v 2 ((v 2) + 1)) q) - 48)), fun _ _ => rfl⟩
noncomputable def f_X2_readKindAndDrive_v : (Nat → Int32) → (Nat → UInt16) → (Nat → Int32) := Classical.choose f_X2_readKindAndDrive_v_ex
theorem f_X2_readKindAndDrive_v_eq (v : Nat → Int32) (q : Nat → UInt16) : f_X2_readKindAndDrive_v v q = (if (f_X2_readKindAndDrive_rq2 v q) = 0 then upd (upd v 2 ((v 2) + 1)) 4 ((f_X2_signHere_r (upd v 2 ((v 2) + 1)) q) - 48) else upd (upd v 2 (((v 2) + 1) + 1)) 4 ((f_X2_signHere_r (upd v 2 ((v 2) + 1)) q) - 48)) := Classical.choose_spec f_X2_readKindAndDrive_v_ex v q
theorem f_X2_readKindAndDrive_r_ex : ∃ F : (Nat → Int32) → (Nat → UInt16) → Int32, ∀ (v : Nat → Int32) (q : Nat → UInt16), F v q = (if (f_X2_readKindAndDrive_rq2 v q) = 0 then 0 else 1) := ⟨fun v q => (if (f_X2_readKindAndDrive_rq2 v q) = 0 then 0 else 1), fun _ _ => rfl⟩
noncomputable def f_X2_readKindAndDrive_r : (Nat → Int32) → (Nat → UInt16) → Int32 := Classical.choose f_X2_readKindAndDrive_r_ex
theorem f_X2_readKindAndDrive_r_eq (v : Nat → Int32) (q : Nat → UInt16) : f_X2_readKindAndDrive_r v q = (if (f_X2_readKindAndDrive_rq2 v q) = 0 then 0 else 1) := Classical.choose_spec f_X2_readKindAndDrive_r_ex v q
set_option maxRecDepth 100000 in
set_option maxHeartbeats 4000000 in
theorem m_X2_readKindAndDrive (l : Launch) (G : GG) (a ga : Nat) (v : Nat → Int32) (q : Nat → UInt16)  : CtI l yX2_readKindAndDrive cX2_readKindAndDrive 1 (some .boolean) (RM 1) G [.ref a] ([oP a ga v, aC G ga q]) (f_X2_readKindAndDrive_r v q) ([oP a ga (f_X2_readKindAndDrive_v v q), aC G ga q]) := by
  refine ct_I RX2 [(0, .ref a)] rfl (by decide +kernel) (Nat.le_of_ble_eq_true rfl) rfl ?_
  intro p e s m args below meth c A C hr hk hnm
  generalize hQ : (MQ below (PostI G A (f_X2_readKindAndDrive_r v q) ([oP a ga (f_X2_readKindAndDrive_v v q), aC G ga q])) args s (RM 1).cells (RM 1).slots A) = Q
  refine j_aload_n C dX2_readKindAndDrive_0 0 rfl ?_
  refine j_dup C dX2_readKindAndDrive_1 rfl ?_
  refine j_get C kin2 rfl 0 rfl 2 (by decide) kw_122 rfl (v := .int (v 2)) rfl dX2_readKindAndDrive_2 ?_
  refine j_iconst (v := 1) C dX2_readKindAndDrive_5 (by decide) ?_
  refine j_iadd C dX2_readKindAndDrive_6 rfl ?_
  generalize hw0 : (v 2) + 1 = w0
  refine j_put C kin2 rfl 0 rfl 2 (by decide) kw_122 rfl tyX2 tyX2_ok nmX2 rfl rfl rfl (Nat.le_of_ble_eq_true rfl) ([oP a ga (upd v 2 w0), aC G ga q]) rfl dX2_readKindAndDrive_7 ?_
  refine j_aload_n C dX2_readKindAndDrive_10 0 rfl ?_
  refine j_aload_n C dX2_readKindAndDrive_11 0 rfl ?_
  refine j_callV_i (r := f_X2_signHere_r (upd v 2 w0) q) (wc' := [oP a ga (upd v 2 w0), aC G ga q]) C (m_X2_signHere l G a ga (upd v 2 w0) q) rfl 0 rfl 0 (gV kw_425 kw_426 kw_764 kw_6 kw_427) (by decide +kernel) ⟨(Nat.le_of_ble_eq_true rfl), (Nat.le_of_ble_eq_true rfl)⟩ rfl rfl (Nat.le_of_ble_eq_true rfl) dX2_readKindAndDrive_12 ⟨(Nat.le_of_ble_eq_true rfl), (Nat.le_of_ble_eq_true rfl)⟩ [] [oP a ga (upd v 2 w0), aC G ga q] (perm_idx [0, 1] 2 rfl (by decide +kernel) rfl) rfl ?_
  refine j_bipush (v := 48) C dX2_readKindAndDrive_15 (by decide) ?_
  refine j_isub C dX2_readKindAndDrive_17 rfl ?_
  generalize hw1 : (f_X2_signHere_r (upd v 2 w0) q) - 48 = w1
  refine j_put C kin2 rfl 0 rfl 4 (by decide) kw_125 rfl tyX2 tyX2_ok nmX2 rfl rfl rfl (Nat.le_of_ble_eq_true rfl) ([oP a ga (upd (upd v 2 w0) 4 w1), aC G ga q]) rfl dX2_readKindAndDrive_18 ?_
  refine j_aload_n C dX2_readKindAndDrive_21 0 rfl ?_
  refine j_get C kin2 rfl 0 rfl 4 (by decide) kw_125 rfl (v := .int w1) rfl dX2_readKindAndDrive_22 ?_
  refine j_pureSN_i (r := f_X4_isDrive_r w1) C (m_X4_isDrive l G w1) 1 kw_194 (List.mem_of_getElem? (i := 7) rfl) kw_1 kw_193 (by decide +kernel) ⟨(Nat.le_of_ble_eq_true rfl), (Nat.le_of_ble_eq_true rfl)⟩ rfl rfl (Nat.le_of_ble_eq_true rfl) dX2_readKindAndDrive_25 ⟨(Nat.le_of_ble_eq_true rfl), (Nat.le_of_ble_eq_true rfl)⟩ ?_
  generalize hzw2 : f_X4_isDrive_r w1 = w2
  have hw2 : f_X2_readKindAndDrive_rq2 v q = w2 := by subst hw0 hw1; subst hzw2; exact (f_X2_readKindAndDrive_rq2_eq v q)
  refine j_if_ne (tgt := 33) C dX2_readKindAndDrive_28 (by decide) (fun c28 => ?_) (fun c28 => ?_)
  · refine j_aload_n C dX2_readKindAndDrive_33 0 rfl ?_
    refine j_dup C dX2_readKindAndDrive_34 rfl ?_
    refine j_get C kin2 rfl 0 rfl 2 (by decide) kw_122 rfl (v := .int w0) rfl dX2_readKindAndDrive_35 ?_
    refine j_iconst (v := 1) C dX2_readKindAndDrive_38 (by decide) ?_
    refine j_iadd C dX2_readKindAndDrive_39 rfl ?_
    generalize hw3 : w0 + 1 = w3
    refine j_put C kin2 rfl 0 rfl 2 (by decide) kw_122 rfl tyX2 tyX2_ok nmX2 rfl rfl rfl (Nat.le_of_ble_eq_true rfl) ([oP a ga (upd (upd v 2 w3) 4 w1), aC G ga q]) rfl dX2_readKindAndDrive_40 ?_
    refine j_iconst (v := 1) C dX2_readKindAndDrive_43 (by decide) ?_
    subst hQ; subst hw0 hw1 hw2 hw3; exact j_zret C hr hk rfl ((show f_X2_readKindAndDrive_r v q = 1 from ((f_X2_readKindAndDrive_r_eq v q).trans (if_neg c28))).symm) (by rw [show f_X2_readKindAndDrive_v v q = upd (upd v 2 (((v 2) + 1) + 1)) 4 ((f_X2_signHere_r (upd v 2 ((v 2) + 1)) q) - 48) from ((f_X2_readKindAndDrive_v_eq v q).trans (if_neg c28))]) dX2_readKindAndDrive_44
  · refine j_iconst (v := 0) C dX2_readKindAndDrive_31 (by decide) ?_
    subst hQ; subst hw0 hw1 hw2; exact j_zret C hr hk rfl ((show f_X2_readKindAndDrive_r v q = 0 from ((f_X2_readKindAndDrive_r_eq v q).trans (if_pos c28))).symm) (by rw [show f_X2_readKindAndDrive_v v q = upd (upd v 2 ((v 2) + 1)) 4 ((f_X2_signHere_r (upd v 2 ((v 2) + 1)) q) - 48) from ((f_X2_readKindAndDrive_v_eq v q).trans (if_pos c28))]) dX2_readKindAndDrive_32
theorem f_X2_readNumber_rq8_ex : ∃ F : (Nat → Int32) → (Nat → UInt16) → Int32, ∀ (v : Nat → Int32) (q : Nat → UInt16), F v q = f_X2_isDigit_r (f_X2_signHere_r (upd v 2 (((v 2) + 1) + 1)) q) := ⟨fun v q => f_X2_isDigit_r (f_X2_signHere_r (upd v 2 (((v 2) + 1) + 1)) q), fun _ _ => rfl⟩
noncomputable def f_X2_readNumber_rq8 : (Nat → Int32) → (Nat → UInt16) → Int32 := Classical.choose f_X2_readNumber_rq8_ex
theorem f_X2_readNumber_rq8_eq (v : Nat → Int32) (q : Nat → UInt16) : f_X2_readNumber_rq8 v q = f_X2_isDigit_r (f_X2_signHere_r (upd v 2 (((v 2) + 1) + 1)) q) := Classical.choose_spec f_X2_readNumber_rq8_ex v q
theorem f_X2_readNumber_x10_ex : ∃ F : (Nat → Int32) → (Nat → UInt16) → Int32, ∀ (v : Nat → Int32) (q : Nat → UInt16), F v q = (if f_X2_isDigit_r (f_X2_signHere_r (upd v 2 ((v 2) + 1)) q) = 0 then 0 else (if (f_X2_readNumber_rq8 v q) = 0 then 1 else 2)) := ⟨fun v q => (if f_X2_isDigit_r (f_X2_signHere_r (upd v 2 ((v 2) + 1)) q) = 0 then 0 else (if (f_X2_readNumber_rq8 v q) = 0 then 1 else 2)), fun _ _ => rfl⟩
noncomputable def f_X2_readNumber_x10 : (Nat → Int32) → (Nat → UInt16) → Int32 := Classical.choose f_X2_readNumber_x10_ex
theorem f_X2_readNumber_x10_eq (v : Nat → Int32) (q : Nat → UInt16) : f_X2_readNumber_x10 v q = (if f_X2_isDigit_r (f_X2_signHere_r (upd v 2 ((v 2) + 1)) q) = 0 then 0 else (if (f_X2_readNumber_rq8 v q) = 0 then 1 else 2)) := Classical.choose_spec f_X2_readNumber_x10_ex v q
theorem f_X2_readNumber_x11_ex : ∃ F : (Nat → Int32) → (Nat → UInt16) → Int32, ∀ (v : Nat → Int32) (q : Nat → UInt16), F v q = (if f_X2_isDigit_r (f_X2_signHere_r (upd v 2 ((v 2) + 1)) q) = 0 then (f_X2_signHere_r v q) - 48 else (if (f_X2_readNumber_rq8 v q) = 0 then (((f_X2_signHere_r v q) - 48) * 10) + ((f_X2_signHere_r (upd v 2 ((v 2) + 1)) q) - 48) else (((((f_X2_signHere_r v q) - 48) * 10) + ((f_X2_signHere_r (upd v 2 ((v 2) + 1)) q) - 48)) * 10) + ((f_X2_signHere_r (upd v 2 (((v 2) + 1) + 1)) q) - 48))) := ⟨fun v q => (if f_X2_isDigit_r (f_X2_signHere_r (upd v 2 ((v 2) + 1)) q) = 0 then (f_X2_signHere_r v q) - 48 else (if (f_X2_readNumber_rq8 v q) = 0 then (((f_X2_signHere_r v q) - 48) * 10) + ((f_X2_signHere_r (upd v 2 ((v 2) + 1)) q) - 48) else (((((f_X2_signHere_r v q) - 48) * 10) + ((f_X2_signHere_r (upd v 2 ((v 2) + 1)) q) - 48)) * 10) + ((f_X2_signHere_r (upd v 2 (((v 2) + 1) + 1)) q) - 48))), fun _ _ => rfl⟩
noncomputable def f_X2_readNumber_x11 : (Nat → Int32) → (Nat → UInt16) → Int32 := Classical.choose f_X2_readNumber_x11_ex
theorem f_X2_readNumber_x11_eq (v : Nat → Int32) (q : Nat → UInt16) : f_X2_readNumber_x11 v q = (if f_X2_isDigit_r (f_X2_signHere_r (upd v 2 ((v 2) + 1)) q) = 0 then (f_X2_signHere_r v q) - 48 else (if (f_X2_readNumber_rq8 v q) = 0 then (((f_X2_signHere_r v q) - 48) * 10) + ((f_X2_signHere_r (upd v 2 ((v 2) + 1)) q) - 48) else (((((f_X2_signHere_r v q) - 48) * 10) + ((f_X2_signHere_r (upd v 2 ((v 2) + 1)) q) - 48)) * 10) + ((f_X2_signHere_r (upd v 2 (((v 2) + 1) + 1)) q) - 48))) := Classical.choose_spec f_X2_readNumber_x11_ex v q
theorem f_X2_readNumber_v12_ex : ∃ F : (Nat → Int32) → (Nat → UInt16) → (Nat → Int32), ∀ (v : Nat → Int32) (q : Nat → UInt16), F v q = (if f_X2_isDigit_r (f_X2_signHere_r (upd v 2 ((v 2) + 1)) q) = 0 then upd v 2 ((v 2) + 1) else (if (f_X2_readNumber_rq8 v q) = 0 then upd v 2 (((v 2) + 1) + 1) else upd v 2 ((((v 2) + 1) + 1) + 1))) := ⟨fun v q => (if f_X2_isDigit_r (f_X2_signHere_r (upd v 2 ((v 2) + 1)) q) = 0 then upd v 2 ((v 2) + 1) else (if (f_X2_readNumber_rq8 v q) = 0 then upd v 2 (((v 2) + 1) + 1) else upd v 2 ((((v 2) + 1) + 1) + 1))), fun _ _ => rfl⟩
noncomputable def f_X2_readNumber_v12 : (Nat → Int32) → (Nat → UInt16) → (Nat → Int32) := Classical.choose f_X2_readNumber_v12_ex
theorem f_X2_readNumber_v12_eq (v : Nat → Int32) (q : Nat → UInt16) : f_X2_readNumber_v12 v q = (if f_X2_isDigit_r (f_X2_signHere_r (upd v 2 ((v 2) + 1)) q) = 0 then upd v 2 ((v 2) + 1) else (if (f_X2_readNumber_rq8 v q) = 0 then upd v 2 (((v 2) + 1) + 1) else upd v 2 ((((v 2) + 1) + 1) + 1))) := Classical.choose_spec f_X2_readNumber_v12_ex v q
theorem f_X2_readNumber_v_ex : ∃ F : (Nat → Int32) → (Nat → UInt16) → (Nat → Int32), ∀ (v : Nat → Int32) (q : Nat → UInt16), F v q = (if f_X2_isDigit_r (f_X2_signHere_r v q) = 0 then v else (if (f_X2_signHere_r v q) - 48 = 0 then upd v 2 ((v 2) + 1) else (f_X2_readNumber_v12 v q))) := ⟨fun v q => (if f_X2_isDigit_r (f_X2_signHere_r v q) = 0 then v else (if (f_X2_signHere_r v q) - 48 = 0 then upd v 2 ((v 2) + 1) else (f_X2_readNumber_v12 v q))), fun _ _ => rfl⟩
noncomputable def f_X2_readNumber_v : (Nat → Int32) → (Nat → UInt16) → (Nat → Int32) := Classical.choose f_X2_readNumber_v_ex
theorem f_X2_readNumber_v_eq (v : Nat → Int32) (q : Nat → UInt16) : f_X2_readNumber_v v q = (if f_X2_isDigit_r (f_X2_signHere_r v q) = 0 then v else (if (f_X2_signHere_r v q) - 48 = 0 then upd v 2 ((v 2) + 1) else (f_X2_readNumber_v12 v q))) := Classical.choose_spec f_X2_readNumber_v_ex v q
theorem f_X2_readNumber_r_ex : ∃ F : (Nat → Int32) → (Nat → UInt16) → Int32, ∀ (v : Nat → Int32) (q : Nat → UInt16), F v q = (if f_X2_isDigit_r (f_X2_signHere_r v q) = 0 then (-1) else (if (f_X2_signHere_r v q) - 48 = 0 then (f_X2_signHere_r v q) - 48 else (f_X2_readNumber_x11 v q))) := ⟨fun v q => (if f_X2_isDigit_r (f_X2_signHere_r v q) = 0 then (-1) else (if (f_X2_signHere_r v q) - 48 = 0 then (f_X2_signHere_r v q) - 48 else (f_X2_readNumber_x11 v q))), fun _ _ => rfl⟩
noncomputable def f_X2_readNumber_r : (Nat → Int32) → (Nat → UInt16) → Int32 := Classical.choose f_X2_readNumber_r_ex
theorem f_X2_readNumber_r_eq (v : Nat → Int32) (q : Nat → UInt16) : f_X2_readNumber_r v q = (if f_X2_isDigit_r (f_X2_signHere_r v q) = 0 then (-1) else (if (f_X2_signHere_r v q) - 48 = 0 then (f_X2_signHere_r v q) - 48 else (f_X2_readNumber_x11 v q))) := Classical.choose_spec f_X2_readNumber_r_ex v q
set_option maxRecDepth 100000 in
set_option maxHeartbeats 4000000 in
theorem m_X2_readNumber (l : Launch) (G : GG) (a ga : Nat) (v : Nat → Int32) (q : Nat → UInt16)  : CtI l yX2_readNumber cX2_readNumber 4 (some .int) (RM 1) G [.ref a] ([oP a ga v, aC G ga q]) (f_X2_readNumber_r v q) ([oP a ga (f_X2_readNumber_v v q), aC G ga q]) := by
  refine ct_I RX2 [(0, .ref a)] rfl (by decide +kernel) (Nat.le_of_ble_eq_true rfl) rfl ?_
  intro p e s m args below meth c A C hr hk hnm
  generalize hQ : (MQ below (PostI G A (f_X2_readNumber_r v q) ([oP a ga (f_X2_readNumber_v v q), aC G ga q])) args s (RM 1).cells (RM 1).slots A) = Q
  refine j_aload_n C dX2_readNumber_0 0 rfl ?_
  refine j_callV_i (r := f_X2_signHere_r v q) (wc' := [oP a ga v, aC G ga q]) C (m_X2_signHere l G a ga v q) rfl 0 rfl 0 (gV kw_425 kw_426 kw_764 kw_6 kw_427) (by decide +kernel) ⟨(Nat.le_of_ble_eq_true rfl), (Nat.le_of_ble_eq_true rfl)⟩ rfl rfl (Nat.le_of_ble_eq_true rfl) dX2_readNumber_1 ⟨(Nat.le_of_ble_eq_true rfl), (Nat.le_of_ble_eq_true rfl)⟩ [] [oP a ga v, aC G ga q] (perm_idx [0, 1] 2 rfl (by decide +kernel) rfl) rfl ?_
  refine j_pureS_i (r := f_X2_isDigit_r (f_X2_signHere_r v q)) C (m_X2_isDigit l G (f_X2_signHere_r v q)) 1 (gS kw_440 kw_441 kw_6 kw_442) (by decide +kernel) ⟨(Nat.le_of_ble_eq_true rfl), (Nat.le_of_ble_eq_true rfl)⟩ rfl rfl (Nat.le_of_ble_eq_true rfl) dX2_readNumber_4 ⟨(Nat.le_of_ble_eq_true rfl), (Nat.le_of_ble_eq_true rfl)⟩ ?_
  refine j_if_ne (tgt := 12) C dX2_readNumber_7 (by decide) (fun c7 => ?_) (fun c7 => ?_)
  · refine j_aload_n C dX2_readNumber_12 0 rfl ?_
    refine j_callV_i (r := f_X2_signHere_r v q) (wc' := [oP a ga v, aC G ga q]) C (m_X2_signHere l G a ga v q) rfl 0 rfl 0 (gV kw_425 kw_426 kw_764 kw_6 kw_427) (by decide +kernel) ⟨(Nat.le_of_ble_eq_true rfl), (Nat.le_of_ble_eq_true rfl)⟩ rfl rfl (Nat.le_of_ble_eq_true rfl) dX2_readNumber_13 ⟨(Nat.le_of_ble_eq_true rfl), (Nat.le_of_ble_eq_true rfl)⟩ [] [oP a ga v, aC G ga q] (perm_idx [0, 1] 2 rfl (by decide +kernel) rfl) rfl ?_
    refine j_bipush (v := 48) C dX2_readNumber_16 (by decide) ?_
    refine j_isub C dX2_readNumber_18 rfl ?_
    refine j_istore_n C [(1, .int ((f_X2_signHere_r v q) - 48)), (0, .ref a)] dX2_readNumber_19 (by decide) rfl ?_
    refine j_aload_n C dX2_readNumber_20 1 rfl ?_
    refine j_dup C dX2_readNumber_21 rfl ?_
    refine j_get C kin2 rfl 0 rfl 2 (by decide) kw_122 rfl (v := .int (v 2)) rfl dX2_readNumber_22 ?_
    refine j_iconst (v := 1) C dX2_readNumber_25 (by decide) ?_
    refine j_iadd C dX2_readNumber_26 rfl ?_
    generalize hw0 : (v 2) + 1 = w0
    refine j_put C kin2 rfl 0 rfl 2 (by decide) kw_122 rfl tyX2 tyX2_ok nmX2 rfl rfl rfl (Nat.le_of_ble_eq_true rfl) ([oP a ga (upd v 2 w0), aC G ga q]) rfl dX2_readNumber_27 ?_
    refine j_iload_n C dX2_readNumber_30 0 rfl ?_
    refine j_if_ne (tgt := 38) C dX2_readNumber_31 (by decide) (fun c31 => ?_) (fun c31 => ?_)
    · refine j_iconst (v := 2) C dX2_readNumber_38 (by decide) ?_
      refine j_istore_n C [(2, .int 2), (1, .int ((f_X2_signHere_r v q) - 48)), (0, .ref a)] dX2_readNumber_39 (by decide) rfl ?_
      refine j_iconst (v := 0) C dX2_readNumber_40 (by decide) ?_
      refine j_istore_n C [(3, .int 0), (2, .int 2), (1, .int ((f_X2_signHere_r v q) - 48)), (0, .ref a)] dX2_readNumber_41 (by decide) rfl ?_
      refine j_iload_n C dX2_readNumber_42 0 rfl ?_
      refine j_iload_n C dX2_readNumber_43 1 rfl ?_
      refine j_icmp_ge (tgt := 86) C dX2_readNumber_44 (by decide) (fun h => absurd h (by decide)) (fun _ => ?_)
      refine j_aload_n C dX2_readNumber_47 3 rfl ?_
      refine j_callV_i (r := f_X2_signHere_r (upd v 2 w0) q) (wc' := [oP a ga (upd v 2 w0), aC G ga q]) C (m_X2_signHere l G a ga (upd v 2 w0) q) rfl 0 rfl 0 (gV kw_425 kw_426 kw_764 kw_6 kw_427) (by decide +kernel) ⟨(Nat.le_of_ble_eq_true rfl), (Nat.le_of_ble_eq_true rfl)⟩ rfl rfl (Nat.le_of_ble_eq_true rfl) dX2_readNumber_48 ⟨(Nat.le_of_ble_eq_true rfl), (Nat.le_of_ble_eq_true rfl)⟩ [] [oP a ga (upd v 2 w0), aC G ga q] (perm_idx [0, 1] 2 rfl (by decide +kernel) rfl) rfl ?_
      refine j_pureS_i (r := f_X2_isDigit_r (f_X2_signHere_r (upd v 2 w0) q)) C (m_X2_isDigit l G (f_X2_signHere_r (upd v 2 w0) q)) 1 (gS kw_440 kw_441 kw_6 kw_442) (by decide +kernel) ⟨(Nat.le_of_ble_eq_true rfl), (Nat.le_of_ble_eq_true rfl)⟩ rfl rfl (Nat.le_of_ble_eq_true rfl) dX2_readNumber_51 ⟨(Nat.le_of_ble_eq_true rfl), (Nat.le_of_ble_eq_true rfl)⟩ ?_
      have K86 : WJ p l e (RM 1) s m args below meth c G A 4 0 0 Q ([oP a ga (f_X2_readNumber_v12 v q), aC G ga q]) [(3, .int (f_X2_readNumber_x10 v q)), (2, .int 2), (1, .int (f_X2_readNumber_x11 v q)), (0, .ref a)] 86 [] := by
        generalize hw4 : f_X2_readNumber_x10 v q = w4
        generalize hw5 : f_X2_readNumber_x11 v q = w5
        generalize hw6 : f_X2_readNumber_v12 v q = w6
        refine j_iload_n C dX2_readNumber_86 2 rfl ?_
        subst hQ; subst hw0 hw4 hw5 hw6; exact j_iret C hr hk ((show f_X2_readNumber_r v q = (f_X2_readNumber_x11 v q) from ((f_X2_readNumber_r_eq v q).trans ((if_neg c7).trans (if_neg c31)))).symm) (by rw [show f_X2_readNumber_v v q = (f_X2_readNumber_v12 v q) from ((f_X2_readNumber_v_eq v q).trans ((if_neg c7).trans (if_neg c31)))]) dX2_readNumber_87
      refine j_if_eq (tgt := 86) C dX2_readNumber_54 (by decide) (fun c54 => ?_) (fun c54 => ?_)
      · subst hw0; exact j_eq (by rw [show f_X2_readNumber_v12 v q = upd v 2 ((v 2) + 1) from ((f_X2_readNumber_v12_eq v q).trans (if_pos c54))]) (by rw [show f_X2_readNumber_x10 v q = 0 from ((f_X2_readNumber_x10_eq v q).trans (if_pos c54)), show f_X2_readNumber_x11 v q = (f_X2_signHere_r v q) - 48 from ((f_X2_readNumber_x11_eq v q).trans (if_pos c54))]) rfl K86
      · refine j_iload_n C dX2_readNumber_57 2 rfl ?_
        refine j_bipush (v := 10) C dX2_readNumber_58 (by decide) ?_
        refine j_imul C dX2_readNumber_60 rfl ?_
        refine j_aload_n C dX2_readNumber_61 3 rfl ?_
        refine j_callV_i (r := f_X2_signHere_r (upd v 2 w0) q) (wc' := [oP a ga (upd v 2 w0), aC G ga q]) C (m_X2_signHere l G a ga (upd v 2 w0) q) rfl 0 rfl 0 (gV kw_425 kw_426 kw_764 kw_6 kw_427) (by decide +kernel) ⟨(Nat.le_of_ble_eq_true rfl), (Nat.le_of_ble_eq_true rfl)⟩ rfl rfl (Nat.le_of_ble_eq_true rfl) dX2_readNumber_62 ⟨(Nat.le_of_ble_eq_true rfl), (Nat.le_of_ble_eq_true rfl)⟩ [] [oP a ga (upd v 2 w0), aC G ga q] (perm_idx [0, 1] 2 rfl (by decide +kernel) rfl) rfl ?_
        refine j_bipush (v := 48) C dX2_readNumber_65 (by decide) ?_
        refine j_isub C dX2_readNumber_67 rfl ?_
        refine j_iadd C dX2_readNumber_68 rfl ?_
        refine j_istore_n C [(1, .int ((((f_X2_signHere_r v q) - 48) * 10) + ((f_X2_signHere_r (upd v 2 w0) q) - 48))), (3, .int 0), (2, .int 2), (0, .ref a)] dX2_readNumber_69 (by decide) rfl ?_
        refine j_aload_n C dX2_readNumber_70 3 rfl ?_
        refine j_dup C dX2_readNumber_71 rfl ?_
        refine j_get C kin2 rfl 0 rfl 2 (by decide) kw_122 rfl (v := .int w0) rfl dX2_readNumber_72 ?_
        refine j_iconst (v := 1) C dX2_readNumber_75 (by decide) ?_
        refine j_iadd C dX2_readNumber_76 rfl ?_
        generalize hw1 : w0 + 1 = w1
        refine j_put C kin2 rfl 0 rfl 2 (by decide) kw_122 rfl tyX2 tyX2_ok nmX2 rfl rfl rfl (Nat.le_of_ble_eq_true rfl) ([oP a ga (upd v 2 w1), aC G ga q]) rfl dX2_readNumber_77 ?_
        refine j_iinc (v := 1) C [(3, .int 1), (1, .int ((((f_X2_signHere_r v q) - 48) * 10) + ((f_X2_signHere_r (upd v 2 w0) q) - 48))), (2, .int 2), (0, .ref a)] dX2_readNumber_80 (k := 1) rfl (by decide) (by decide) rfl ?_
        refine j_goto (tgt := 42) C dX2_readNumber_83 (by decide) ?_
        refine j_iload_n C dX2_readNumber_42 0 rfl ?_
        refine j_iload_n C dX2_readNumber_43 2 rfl ?_
        refine j_icmp_ge (tgt := 86) C dX2_readNumber_44 (by decide) (fun h => absurd h (by decide)) (fun _ => ?_)
        refine j_aload_n C dX2_readNumber_47 3 rfl ?_
        refine j_callV_i (r := f_X2_signHere_r (upd v 2 w1) q) (wc' := [oP a ga (upd v 2 w1), aC G ga q]) C (m_X2_signHere l G a ga (upd v 2 w1) q) rfl 0 rfl 0 (gV kw_425 kw_426 kw_764 kw_6 kw_427) (by decide +kernel) ⟨(Nat.le_of_ble_eq_true rfl), (Nat.le_of_ble_eq_true rfl)⟩ rfl rfl (Nat.le_of_ble_eq_true rfl) dX2_readNumber_48 ⟨(Nat.le_of_ble_eq_true rfl), (Nat.le_of_ble_eq_true rfl)⟩ [] [oP a ga (upd v 2 w1), aC G ga q] (perm_idx [0, 1] 2 rfl (by decide +kernel) rfl) rfl ?_
        refine j_pureS_i (r := f_X2_isDigit_r (f_X2_signHere_r (upd v 2 w1) q)) C (m_X2_isDigit l G (f_X2_signHere_r (upd v 2 w1) q)) 1 (gS kw_440 kw_441 kw_6 kw_442) (by decide +kernel) ⟨(Nat.le_of_ble_eq_true rfl), (Nat.le_of_ble_eq_true rfl)⟩ rfl rfl (Nat.le_of_ble_eq_true rfl) dX2_readNumber_51 ⟨(Nat.le_of_ble_eq_true rfl), (Nat.le_of_ble_eq_true rfl)⟩ ?_
        generalize hzw2 : f_X2_isDigit_r (f_X2_signHere_r (upd v 2 w1) q) = w2
        have hw2 : f_X2_readNumber_rq8 v q = w2 := by subst hw0 hw1; subst hzw2; exact (f_X2_readNumber_rq8_eq v q)
        refine j_if_eq (tgt := 86) C dX2_readNumber_54 (by decide) (fun c54_2 => ?_) (fun c54_2 => ?_)
        · refine j_lv [0, 2, 1, 3] [(3, .int 1), (2, .int 2), (1, .int ((((f_X2_signHere_r v q) - 48) * 10) + ((f_X2_signHere_r (upd v 2 w0) q) - 48))), (0, .ref a)] rfl ?_
          subst hw0 hw1 hw2; exact j_eq (by rw [show f_X2_readNumber_v12 v q = upd v 2 (((v 2) + 1) + 1) from ((f_X2_readNumber_v12_eq v q).trans ((if_neg c54).trans (if_pos c54_2)))]) (by rw [show f_X2_readNumber_x10 v q = 1 from ((f_X2_readNumber_x10_eq v q).trans ((if_neg c54).trans (if_pos c54_2))), show f_X2_readNumber_x11 v q = (((f_X2_signHere_r v q) - 48) * 10) + ((f_X2_signHere_r (upd v 2 ((v 2) + 1)) q) - 48) from ((f_X2_readNumber_x11_eq v q).trans ((if_neg c54).trans (if_pos c54_2)))]) rfl K86
        · refine j_iload_n C dX2_readNumber_57 1 rfl ?_
          refine j_bipush (v := 10) C dX2_readNumber_58 (by decide) ?_
          refine j_imul C dX2_readNumber_60 rfl ?_
          refine j_aload_n C dX2_readNumber_61 3 rfl ?_
          refine j_callV_i (r := f_X2_signHere_r (upd v 2 w1) q) (wc' := [oP a ga (upd v 2 w1), aC G ga q]) C (m_X2_signHere l G a ga (upd v 2 w1) q) rfl 0 rfl 0 (gV kw_425 kw_426 kw_764 kw_6 kw_427) (by decide +kernel) ⟨(Nat.le_of_ble_eq_true rfl), (Nat.le_of_ble_eq_true rfl)⟩ rfl rfl (Nat.le_of_ble_eq_true rfl) dX2_readNumber_62 ⟨(Nat.le_of_ble_eq_true rfl), (Nat.le_of_ble_eq_true rfl)⟩ [] [oP a ga (upd v 2 w1), aC G ga q] (perm_idx [0, 1] 2 rfl (by decide +kernel) rfl) rfl ?_
          refine j_bipush (v := 48) C dX2_readNumber_65 (by decide) ?_
          refine j_isub C dX2_readNumber_67 rfl ?_
          refine j_iadd C dX2_readNumber_68 rfl ?_
          refine j_istore_n C [(1, .int ((((((f_X2_signHere_r v q) - 48) * 10) + ((f_X2_signHere_r (upd v 2 w0) q) - 48)) * 10) + ((f_X2_signHere_r (upd v 2 w1) q) - 48))), (3, .int 1), (2, .int 2), (0, .ref a)] dX2_readNumber_69 (by decide) rfl ?_
          refine j_aload_n C dX2_readNumber_70 3 rfl ?_
          refine j_dup C dX2_readNumber_71 rfl ?_
          refine j_get C kin2 rfl 0 rfl 2 (by decide) kw_122 rfl (v := .int w1) rfl dX2_readNumber_72 ?_
          refine j_iconst (v := 1) C dX2_readNumber_75 (by decide) ?_
          refine j_iadd C dX2_readNumber_76 rfl ?_
          generalize hw3 : w1 + 1 = w3
          refine j_put C kin2 rfl 0 rfl 2 (by decide) kw_122 rfl tyX2 tyX2_ok nmX2 rfl rfl rfl (Nat.le_of_ble_eq_true rfl) ([oP a ga (upd v 2 w3), aC G ga q]) rfl dX2_readNumber_77 ?_
          refine j_iinc (v := 2) C [(3, .int 2), (1, .int ((((((f_X2_signHere_r v q) - 48) * 10) + ((f_X2_signHere_r (upd v 2 w0) q) - 48)) * 10) + ((f_X2_signHere_r (upd v 2 w1) q) - 48))), (2, .int 2), (0, .ref a)] dX2_readNumber_80 (k := 1) rfl (by decide) (by decide) rfl ?_
          refine j_goto (tgt := 42) C dX2_readNumber_83 (by decide) ?_
          refine j_iload_n C dX2_readNumber_42 0 rfl ?_
          refine j_iload_n C dX2_readNumber_43 2 rfl ?_
          refine j_icmp_ge (tgt := 86) C dX2_readNumber_44 (by decide) (fun _ => ?_) (fun h => absurd h (by decide))
          refine j_lv [0, 2, 1, 3] [(3, .int 2), (2, .int 2), (1, .int ((((((f_X2_signHere_r v q) - 48) * 10) + ((f_X2_signHere_r (upd v 2 w0) q) - 48)) * 10) + ((f_X2_signHere_r (upd v 2 w1) q) - 48))), (0, .ref a)] rfl ?_
          subst hw0 hw1 hw2 hw3; exact j_eq (by rw [show f_X2_readNumber_v12 v q = upd v 2 ((((v 2) + 1) + 1) + 1) from ((f_X2_readNumber_v12_eq v q).trans ((if_neg c54).trans (if_neg c54_2)))]) (by rw [show f_X2_readNumber_x10 v q = 2 from ((f_X2_readNumber_x10_eq v q).trans ((if_neg c54).trans (if_neg c54_2))), show f_X2_readNumber_x11 v q = (((((f_X2_signHere_r v q) - 48) * 10) + ((f_X2_signHere_r (upd v 2 ((v 2) + 1)) q) - 48)) * 10) + ((f_X2_signHere_r (upd v 2 (((v 2) + 1) + 1)) q) - 48) from ((f_X2_readNumber_x11_eq v q).trans ((if_neg c54).trans (if_neg c54_2)))]) rfl K86
    · refine j_iconst (v := 0) C dX2_readNumber_34 (by decide) ?_
      refine j_goto (tgt := 39) C dX2_readNumber_35 (by decide) ?_
      refine j_istore_n C [(2, .int 0), (1, .int ((f_X2_signHere_r v q) - 48)), (0, .ref a)] dX2_readNumber_39 (by decide) rfl ?_
      refine j_iconst (v := 0) C dX2_readNumber_40 (by decide) ?_
      refine j_istore_n C [(3, .int 0), (2, .int 0), (1, .int ((f_X2_signHere_r v q) - 48)), (0, .ref a)] dX2_readNumber_41 (by decide) rfl ?_
      refine j_iload_n C dX2_readNumber_42 0 rfl ?_
      refine j_iload_n C dX2_readNumber_43 1 rfl ?_
      refine j_icmp_ge (tgt := 86) C dX2_readNumber_44 (by decide) (fun _ => ?_) (fun h => absurd h (by decide))
      refine j_iload_n C dX2_readNumber_86 2 rfl ?_
      subst hQ; subst hw0; exact j_iret C hr hk ((show f_X2_readNumber_r v q = (f_X2_signHere_r v q) - 48 from ((f_X2_readNumber_r_eq v q).trans ((if_neg c7).trans (if_pos c31)))).symm) (by rw [show f_X2_readNumber_v v q = upd v 2 ((v 2) + 1) from ((f_X2_readNumber_v_eq v q).trans ((if_neg c7).trans (if_pos c31)))]) dX2_readNumber_87
  · refine j_iconst (v := (-1)) C dX2_readNumber_10 (by decide) ?_
    subst hQ; exact j_iret C hr hk ((show f_X2_readNumber_r v q = (-1) from ((f_X2_readNumber_r_eq v q).trans (if_pos c7))).symm) (by rw [show f_X2_readNumber_v v q = v from ((f_X2_readNumber_v_eq v q).trans (if_pos c7))]) dX2_readNumber_11
theorem f_X2_readFirst_x2_ex : ∃ F : (Nat → Int32) → (Nat → UInt16) → Int32, ∀ (v : Nat → Int32) (q : Nat → UInt16), F v q = (if (f_X2_readNumber_r v q) = (-1) then 0 else 1) := ⟨fun v q => (if (f_X2_readNumber_r v q) = (-1) then 0 else 1), fun _ _ => rfl⟩
noncomputable def f_X2_readFirst_x2 : (Nat → Int32) → (Nat → UInt16) → Int32 := Classical.choose f_X2_readFirst_x2_ex
theorem f_X2_readFirst_x2_eq (v : Nat → Int32) (q : Nat → UInt16) : f_X2_readFirst_x2 v q = (if (f_X2_readNumber_r v q) = (-1) then 0 else 1) := Classical.choose_spec f_X2_readFirst_x2_ex v q
theorem f_X2_readFirst_v_ex : ∃ F : (Nat → Int32) → (Nat → UInt16) → (Nat → Int32), ∀ (v : Nat → Int32) (q : Nat → UInt16), F v q = upd (f_X2_readNumber_v v q) 5 (f_X2_readNumber_r v q) := ⟨fun v q => upd (f_X2_readNumber_v v q) 5 (f_X2_readNumber_r v q), fun _ _ => rfl⟩
noncomputable def f_X2_readFirst_v : (Nat → Int32) → (Nat → UInt16) → (Nat → Int32) := Classical.choose f_X2_readFirst_v_ex
theorem f_X2_readFirst_v_eq (v : Nat → Int32) (q : Nat → UInt16) : f_X2_readFirst_v v q = upd (f_X2_readNumber_v v q) 5 (f_X2_readNumber_r v q) := Classical.choose_spec f_X2_readFirst_v_ex v q
theorem f_X2_readFirst_r_ex : ∃ F : (Nat → Int32) → (Nat → UInt16) → Int32, ∀ (v : Nat → Int32) (q : Nat → UInt16), F v q = (f_X2_readFirst_x2 v q) := ⟨fun v q => (f_X2_readFirst_x2 v q), fun _ _ => rfl⟩
noncomputable def f_X2_readFirst_r : (Nat → Int32) → (Nat → UInt16) → Int32 := Classical.choose f_X2_readFirst_r_ex
theorem f_X2_readFirst_r_eq (v : Nat → Int32) (q : Nat → UInt16) : f_X2_readFirst_r v q = (f_X2_readFirst_x2 v q) := Classical.choose_spec f_X2_readFirst_r_ex v q
set_option maxRecDepth 100000 in
set_option maxHeartbeats 4000000 in
theorem m_X2_readFirst (l : Launch) (G : GG) (a ga : Nat) (v : Nat → Int32) (q : Nat → UInt16)  : CtI l yX2_readFirst cX2_readFirst 1 (some .boolean) (RM 2) G [.ref a] ([oP a ga v, aC G ga q]) (f_X2_readFirst_r v q) ([oP a ga (f_X2_readFirst_v v q), aC G ga q]) := by
  refine ct_I RX2 [(0, .ref a)] rfl (by decide +kernel) (Nat.le_of_ble_eq_true rfl) rfl ?_
  intro p e s m args below meth c A C hr hk hnm
  generalize hQ : (MQ below (PostI G A (f_X2_readFirst_r v q) ([oP a ga (f_X2_readFirst_v v q), aC G ga q])) args s (RM 2).cells (RM 2).slots A) = Q
  refine j_aload_n C dX2_readFirst_0 0 rfl ?_
  refine j_aload_n C dX2_readFirst_1 0 rfl ?_
  refine j_callV_i (r := f_X2_readNumber_r v q) (wc' := [oP a ga (f_X2_readNumber_v v q), aC G ga q]) C (m_X2_readNumber l G a ga v q) rfl 0 rfl 0 (gV kw_437 kw_438 kw_768 kw_6 kw_439) (by decide +kernel) ⟨(Nat.le_of_ble_eq_true rfl), (Nat.le_of_ble_eq_true rfl)⟩ rfl rfl (Nat.le_of_ble_eq_true rfl) dX2_readFirst_2 ⟨(Nat.le_of_ble_eq_true rfl), (Nat.le_of_ble_eq_true rfl)⟩ [] [oP a ga (f_X2_readNumber_v v q), aC G ga q] (perm_idx [0, 1] 2 rfl (by decide +kernel) rfl) rfl ?_
  generalize hw0 : f_X2_readNumber_r v q = w0
  refine j_put C kin2 rfl 0 rfl 5 (by decide) kw_127 rfl tyX2 tyX2_ok nmX2 rfl rfl rfl (Nat.le_of_ble_eq_true rfl) ([oP a ga (upd (f_X2_readNumber_v v q) 5 w0), aC G ga q]) rfl dX2_readFirst_5 ?_
  refine j_aload_n C dX2_readFirst_8 0 rfl ?_
  refine j_get C kin2 rfl 0 rfl 5 (by decide) kw_127 rfl (v := .int w0) rfl dX2_readFirst_9 ?_
  refine j_iconst (v := (-1)) C dX2_readFirst_12 (by decide) ?_
  have K21 : WJ p l e (RM 2) s m args below meth c G A 1 0 0 Q ([oP a ga (upd (f_X2_readNumber_v v q) 5 w0), aC G ga q]) [(0, .ref a)] 21 [.int (f_X2_readFirst_x2 v q)] := by
    generalize hw1 : f_X2_readFirst_x2 v q = w1
    subst hQ; subst hw0 hw1; exact j_zret C hr hk (by rw [f_X2_readFirst_x2_eq]; (repeat' split) <;> rfl) ((show f_X2_readFirst_r v q = (f_X2_readFirst_x2 v q) from (f_X2_readFirst_r_eq v q)).symm) (by rw [show f_X2_readFirst_v v q = upd (f_X2_readNumber_v v q) 5 (f_X2_readNumber_r v q) from (f_X2_readFirst_v_eq v q)]) dX2_readFirst_21
  refine j_icmp_eq (tgt := 20) C dX2_readFirst_13 (by decide) (fun c13 => ?_) (fun c13 => ?_)
  · refine j_iconst (v := 0) C dX2_readFirst_20 (by decide) ?_
    subst hw0; exact j_eq rfl rfl (by rw [show f_X2_readFirst_x2 v q = 0 from ((f_X2_readFirst_x2_eq v q).trans (if_pos c13))]) K21
  · refine j_iconst (v := 1) C dX2_readFirst_16 (by decide) ?_
    refine j_goto (tgt := 21) C dX2_readFirst_17 (by decide) ?_
    subst hw0; exact j_eq rfl rfl (by rw [show f_X2_readFirst_x2 v q = 1 from ((f_X2_readFirst_x2_eq v q).trans (if_neg c13))]) K21
theorem f_X2_readSecond_x2_ex : ∃ F : (Nat → Int32) → (Nat → UInt16) → Int32, ∀ (v : Nat → Int32) (q : Nat → UInt16), F v q = (if (f_X2_readNumber_r v q) = (-1) then 0 else 1) := ⟨fun v q => (if (f_X2_readNumber_r v q) = (-1) then 0 else 1), fun _ _ => rfl⟩
noncomputable def f_X2_readSecond_x2 : (Nat → Int32) → (Nat → UInt16) → Int32 := Classical.choose f_X2_readSecond_x2_ex
theorem f_X2_readSecond_x2_eq (v : Nat → Int32) (q : Nat → UInt16) : f_X2_readSecond_x2 v q = (if (f_X2_readNumber_r v q) = (-1) then 0 else 1) := Classical.choose_spec f_X2_readSecond_x2_ex v q
theorem f_X2_readSecond_v_ex : ∃ F : (Nat → Int32) → (Nat → UInt16) → (Nat → Int32), ∀ (v : Nat → Int32) (q : Nat → UInt16), F v q = upd (f_X2_readNumber_v v q) 6 (f_X2_readNumber_r v q) := ⟨fun v q => upd (f_X2_readNumber_v v q) 6 (f_X2_readNumber_r v q), fun _ _ => rfl⟩
noncomputable def f_X2_readSecond_v : (Nat → Int32) → (Nat → UInt16) → (Nat → Int32) := Classical.choose f_X2_readSecond_v_ex
theorem f_X2_readSecond_v_eq (v : Nat → Int32) (q : Nat → UInt16) : f_X2_readSecond_v v q = upd (f_X2_readNumber_v v q) 6 (f_X2_readNumber_r v q) := Classical.choose_spec f_X2_readSecond_v_ex v q
theorem f_X2_readSecond_r_ex : ∃ F : (Nat → Int32) → (Nat → UInt16) → Int32, ∀ (v : Nat → Int32) (q : Nat → UInt16), F v q = (f_X2_readSecond_x2 v q) := ⟨fun v q => (f_X2_readSecond_x2 v q), fun _ _ => rfl⟩
noncomputable def f_X2_readSecond_r : (Nat → Int32) → (Nat → UInt16) → Int32 := Classical.choose f_X2_readSecond_r_ex
theorem f_X2_readSecond_r_eq (v : Nat → Int32) (q : Nat → UInt16) : f_X2_readSecond_r v q = (f_X2_readSecond_x2 v q) := Classical.choose_spec f_X2_readSecond_r_ex v q
set_option maxRecDepth 100000 in
set_option maxHeartbeats 4000000 in
theorem m_X2_readSecond (l : Launch) (G : GG) (a ga : Nat) (v : Nat → Int32) (q : Nat → UInt16)  : CtI l yX2_readSecond cX2_readSecond 1 (some .boolean) (RM 2) G [.ref a] ([oP a ga v, aC G ga q]) (f_X2_readSecond_r v q) ([oP a ga (f_X2_readSecond_v v q), aC G ga q]) := by
  refine ct_I RX2 [(0, .ref a)] rfl (by decide +kernel) (Nat.le_of_ble_eq_true rfl) rfl ?_
  intro p e s m args below meth c A C hr hk hnm
  generalize hQ : (MQ below (PostI G A (f_X2_readSecond_r v q) ([oP a ga (f_X2_readSecond_v v q), aC G ga q])) args s (RM 2).cells (RM 2).slots A) = Q
  refine j_aload_n C dX2_readSecond_0 0 rfl ?_
  refine j_aload_n C dX2_readSecond_1 0 rfl ?_
  refine j_callV_i (r := f_X2_readNumber_r v q) (wc' := [oP a ga (f_X2_readNumber_v v q), aC G ga q]) C (m_X2_readNumber l G a ga v q) rfl 0 rfl 0 (gV kw_437 kw_438 kw_768 kw_6 kw_439) (by decide +kernel) ⟨(Nat.le_of_ble_eq_true rfl), (Nat.le_of_ble_eq_true rfl)⟩ rfl rfl (Nat.le_of_ble_eq_true rfl) dX2_readSecond_2 ⟨(Nat.le_of_ble_eq_true rfl), (Nat.le_of_ble_eq_true rfl)⟩ [] [oP a ga (f_X2_readNumber_v v q), aC G ga q] (perm_idx [0, 1] 2 rfl (by decide +kernel) rfl) rfl ?_
  generalize hw0 : f_X2_readNumber_r v q = w0
  refine j_put C kin2 rfl 0 rfl 6 (by decide) kw_129 rfl tyX2 tyX2_ok nmX2 rfl rfl rfl (Nat.le_of_ble_eq_true rfl) ([oP a ga (upd (f_X2_readNumber_v v q) 6 w0), aC G ga q]) rfl dX2_readSecond_5 ?_
  refine j_aload_n C dX2_readSecond_8 0 rfl ?_
  refine j_get C kin2 rfl 0 rfl 6 (by decide) kw_129 rfl (v := .int w0) rfl dX2_readSecond_9 ?_
  refine j_iconst (v := (-1)) C dX2_readSecond_12 (by decide) ?_
  have K21 : WJ p l e (RM 2) s m args below meth c G A 1 0 0 Q ([oP a ga (upd (f_X2_readNumber_v v q) 6 w0), aC G ga q]) [(0, .ref a)] 21 [.int (f_X2_readSecond_x2 v q)] := by
    generalize hw1 : f_X2_readSecond_x2 v q = w1
    subst hQ; subst hw0 hw1; exact j_zret C hr hk (by rw [f_X2_readSecond_x2_eq]; (repeat' split) <;> rfl) ((show f_X2_readSecond_r v q = (f_X2_readSecond_x2 v q) from (f_X2_readSecond_r_eq v q)).symm) (by rw [show f_X2_readSecond_v v q = upd (f_X2_readNumber_v v q) 6 (f_X2_readNumber_r v q) from (f_X2_readSecond_v_eq v q)]) dX2_readSecond_21
  refine j_icmp_eq (tgt := 20) C dX2_readSecond_13 (by decide) (fun c13 => ?_) (fun c13 => ?_)
  · refine j_iconst (v := 0) C dX2_readSecond_20 (by decide) ?_
    subst hw0; exact j_eq rfl rfl (by rw [show f_X2_readSecond_x2 v q = 0 from ((f_X2_readSecond_x2_eq v q).trans (if_pos c13))]) K21
  · refine j_iconst (v := 1) C dX2_readSecond_16 (by decide) ?_
    refine j_goto (tgt := 21) C dX2_readSecond_17 (by decide) ?_
    subst hw0; exact j_eq rfl rfl (by rw [show f_X2_readSecond_x2 v q = 1 from ((f_X2_readSecond_x2_eq v q).trans (if_neg c13))]) K21
theorem f_X2_readOrder_rq3_ex : ∃ F : (Nat → Int32) → (Nat → UInt16) → Int32, ∀ (v : Nat → Int32) (q : Nat → UInt16), F v q = f_X2_readSign_r (f_X2_readKindAndDrive_v (upd v 3 (f_X2_signHere_r v q)) q) q 64 := ⟨fun v q => f_X2_readSign_r (f_X2_readKindAndDrive_v (upd v 3 (f_X2_signHere_r v q)) q) q 64, fun _ _ => rfl⟩
noncomputable def f_X2_readOrder_rq3 : (Nat → Int32) → (Nat → UInt16) → Int32 := Classical.choose f_X2_readOrder_rq3_ex
theorem f_X2_readOrder_rq3_eq (v : Nat → Int32) (q : Nat → UInt16) : f_X2_readOrder_rq3 v q = f_X2_readSign_r (f_X2_readKindAndDrive_v (upd v 3 (f_X2_signHere_r v q)) q) q 64 := Classical.choose_spec f_X2_readOrder_rq3_ex v q
theorem f_X2_readOrder_vq3_ex : ∃ F : (Nat → Int32) → (Nat → UInt16) → (Nat → Int32), ∀ (v : Nat → Int32) (q : Nat → UInt16), F v q = f_X2_readSign_v (f_X2_readKindAndDrive_v (upd v 3 (f_X2_signHere_r v q)) q) q 64 := ⟨fun v q => f_X2_readSign_v (f_X2_readKindAndDrive_v (upd v 3 (f_X2_signHere_r v q)) q) q 64, fun _ _ => rfl⟩
noncomputable def f_X2_readOrder_vq3 : (Nat → Int32) → (Nat → UInt16) → (Nat → Int32) := Classical.choose f_X2_readOrder_vq3_ex
theorem f_X2_readOrder_vq3_eq (v : Nat → Int32) (q : Nat → UInt16) : f_X2_readOrder_vq3 v q = f_X2_readSign_v (f_X2_readKindAndDrive_v (upd v 3 (f_X2_signHere_r v q)) q) q 64 := Classical.choose_spec f_X2_readOrder_vq3_ex v q
theorem f_X2_readOrder_x5_ex : ∃ F : (Nat → Int32) → (Nat → UInt16) → Int32, ∀ (v : Nat → Int32) (q : Nat → UInt16), F v q = (if f_X2_readKindAndDrive_r (upd v 3 (f_X2_signHere_r v q)) q = 0 then 0 else (if (f_X2_readOrder_rq3 v q) = 0 then 0 else (if f_X2_readFirst_r (f_X2_readOrder_vq3 v q) q = 0 then 0 else 1))) := ⟨fun v q => (if f_X2_readKindAndDrive_r (upd v 3 (f_X2_signHere_r v q)) q = 0 then 0 else (if (f_X2_readOrder_rq3 v q) = 0 then 0 else (if f_X2_readFirst_r (f_X2_readOrder_vq3 v q) q = 0 then 0 else 1))), fun _ _ => rfl⟩
noncomputable def f_X2_readOrder_x5 : (Nat → Int32) → (Nat → UInt16) → Int32 := Classical.choose f_X2_readOrder_x5_ex
theorem f_X2_readOrder_x5_eq (v : Nat → Int32) (q : Nat → UInt16) : f_X2_readOrder_x5 v q = (if f_X2_readKindAndDrive_r (upd v 3 (f_X2_signHere_r v q)) q = 0 then 0 else (if (f_X2_readOrder_rq3 v q) = 0 then 0 else (if f_X2_readFirst_r (f_X2_readOrder_vq3 v q) q = 0 then 0 else 1))) := Classical.choose_spec f_X2_readOrder_x5_ex v q
theorem f_X2_readOrder_v6_ex : ∃ F : (Nat → Int32) → (Nat → UInt16) → (Nat → Int32), ∀ (v : Nat → Int32) (q : Nat → UInt16), F v q = (if f_X2_readKindAndDrive_r (upd v 3 (f_X2_signHere_r v q)) q = 0 then f_X2_readKindAndDrive_v (upd v 3 (f_X2_signHere_r v q)) q else (if (f_X2_readOrder_rq3 v q) = 0 then (f_X2_readOrder_vq3 v q) else f_X2_readFirst_v (f_X2_readOrder_vq3 v q) q)) := ⟨fun v q => (if f_X2_readKindAndDrive_r (upd v 3 (f_X2_signHere_r v q)) q = 0 then f_X2_readKindAndDrive_v (upd v 3 (f_X2_signHere_r v q)) q else (if (f_X2_readOrder_rq3 v q) = 0 then (f_X2_readOrder_vq3 v q) else f_X2_readFirst_v (f_X2_readOrder_vq3 v q) q)), fun _ _ => rfl⟩
noncomputable def f_X2_readOrder_v6 : (Nat → Int32) → (Nat → UInt16) → (Nat → Int32) := Classical.choose f_X2_readOrder_v6_ex
theorem f_X2_readOrder_v6_eq (v : Nat → Int32) (q : Nat → UInt16) : f_X2_readOrder_v6 v q = (if f_X2_readKindAndDrive_r (upd v 3 (f_X2_signHere_r v q)) q = 0 then f_X2_readKindAndDrive_v (upd v 3 (f_X2_signHere_r v q)) q else (if (f_X2_readOrder_rq3 v q) = 0 then (f_X2_readOrder_vq3 v q) else f_X2_readFirst_v (f_X2_readOrder_vq3 v q) q)) := Classical.choose_spec f_X2_readOrder_v6_ex v q
theorem f_X2_readOrder_rq8_ex : ∃ F : (Nat → Int32) → (Nat → UInt16) → Int32, ∀ (v : Nat → Int32) (q : Nat → UInt16), F v q = f_X2_readSign_r (f_X2_readKindAndDrive_v (upd v 3 (f_X2_signHere_r v q)) q) q 64 := ⟨fun v q => f_X2_readSign_r (f_X2_readKindAndDrive_v (upd v 3 (f_X2_signHere_r v q)) q) q 64, fun _ _ => rfl⟩
noncomputable def f_X2_readOrder_rq8 : (Nat → Int32) → (Nat → UInt16) → Int32 := Classical.choose f_X2_readOrder_rq8_ex
theorem f_X2_readOrder_rq8_eq (v : Nat → Int32) (q : Nat → UInt16) : f_X2_readOrder_rq8 v q = f_X2_readSign_r (f_X2_readKindAndDrive_v (upd v 3 (f_X2_signHere_r v q)) q) q 64 := Classical.choose_spec f_X2_readOrder_rq8_ex v q
theorem f_X2_readOrder_vq8_ex : ∃ F : (Nat → Int32) → (Nat → UInt16) → (Nat → Int32), ∀ (v : Nat → Int32) (q : Nat → UInt16), F v q = f_X2_readSign_v (f_X2_readKindAndDrive_v (upd v 3 (f_X2_signHere_r v q)) q) q 64 := ⟨fun v q => f_X2_readSign_v (f_X2_readKindAndDrive_v (upd v 3 (f_X2_signHere_r v q)) q) q 64, fun _ _ => rfl⟩
noncomputable def f_X2_readOrder_vq8 : (Nat → Int32) → (Nat → UInt16) → (Nat → Int32) := Classical.choose f_X2_readOrder_vq8_ex
theorem f_X2_readOrder_vq8_eq (v : Nat → Int32) (q : Nat → UInt16) : f_X2_readOrder_vq8 v q = f_X2_readSign_v (f_X2_readKindAndDrive_v (upd v 3 (f_X2_signHere_r v q)) q) q 64 := Classical.choose_spec f_X2_readOrder_vq8_ex v q
theorem f_X2_readOrder_x10_ex : ∃ F : (Nat → Int32) → (Nat → UInt16) → Int32, ∀ (v : Nat → Int32) (q : Nat → UInt16), F v q = (if f_X2_readKindAndDrive_r (upd v 3 (f_X2_signHere_r v q)) q = 0 then 0 else (if (f_X2_readOrder_rq8 v q) = 0 then 0 else (if f_X2_readFirst_r (f_X2_readOrder_vq8 v q) q = 0 then 0 else 1))) := ⟨fun v q => (if f_X2_readKindAndDrive_r (upd v 3 (f_X2_signHere_r v q)) q = 0 then 0 else (if (f_X2_readOrder_rq8 v q) = 0 then 0 else (if f_X2_readFirst_r (f_X2_readOrder_vq8 v q) q = 0 then 0 else 1))), fun _ _ => rfl⟩
noncomputable def f_X2_readOrder_x10 : (Nat → Int32) → (Nat → UInt16) → Int32 := Classical.choose f_X2_readOrder_x10_ex
theorem f_X2_readOrder_x10_eq (v : Nat → Int32) (q : Nat → UInt16) : f_X2_readOrder_x10 v q = (if f_X2_readKindAndDrive_r (upd v 3 (f_X2_signHere_r v q)) q = 0 then 0 else (if (f_X2_readOrder_rq8 v q) = 0 then 0 else (if f_X2_readFirst_r (f_X2_readOrder_vq8 v q) q = 0 then 0 else 1))) := Classical.choose_spec f_X2_readOrder_x10_ex v q
theorem f_X2_readOrder_v11_ex : ∃ F : (Nat → Int32) → (Nat → UInt16) → (Nat → Int32), ∀ (v : Nat → Int32) (q : Nat → UInt16), F v q = (if f_X2_readKindAndDrive_r (upd v 3 (f_X2_signHere_r v q)) q = 0 then f_X2_readKindAndDrive_v (upd v 3 (f_X2_signHere_r v q)) q else (if (f_X2_readOrder_rq8 v q) = 0 then (f_X2_readOrder_vq8 v q) else f_X2_readFirst_v (f_X2_readOrder_vq8 v q) q)) := ⟨fun v q => (if f_X2_readKindAndDrive_r (upd v 3 (f_X2_signHere_r v q)) q = 0 then f_X2_readKindAndDrive_v (upd v 3 (f_X2_signHere_r v q)) q else (if (f_X2_readOrder_rq8 v q) = 0 then (f_X2_readOrder_vq8 v q) else f_X2_readFirst_v (f_X2_readOrder_vq8 v q) q)), fun _ _ => rfl⟩
noncomputable def f_X2_readOrder_v11 : (Nat → Int32) → (Nat → UInt16) → (Nat → Int32) := Classical.choose f_X2_readOrder_v11_ex
theorem f_X2_readOrder_v11_eq (v : Nat → Int32) (q : Nat → UInt16) : f_X2_readOrder_v11 v q = (if f_X2_readKindAndDrive_r (upd v 3 (f_X2_signHere_r v q)) q = 0 then f_X2_readKindAndDrive_v (upd v 3 (f_X2_signHere_r v q)) q else (if (f_X2_readOrder_rq8 v q) = 0 then (f_X2_readOrder_vq8 v q) else f_X2_readFirst_v (f_X2_readOrder_vq8 v q) q)) := Classical.choose_spec f_X2_readOrder_v11_ex v q
theorem f_X2_readOrder_rq13_ex : ∃ F : (Nat → Int32) → (Nat → UInt16) → Int32, ∀ (v : Nat → Int32) (q : Nat → UInt16), F v q = f_X2_readFirst_r (f_X2_readSign_v (upd v 3 (f_X2_signHere_r v q)) q 116) q := ⟨fun v q => f_X2_readFirst_r (f_X2_readSign_v (upd v 3 (f_X2_signHere_r v q)) q 116) q, fun _ _ => rfl⟩
noncomputable def f_X2_readOrder_rq13 : (Nat → Int32) → (Nat → UInt16) → Int32 := Classical.choose f_X2_readOrder_rq13_ex
theorem f_X2_readOrder_rq13_eq (v : Nat → Int32) (q : Nat → UInt16) : f_X2_readOrder_rq13 v q = f_X2_readFirst_r (f_X2_readSign_v (upd v 3 (f_X2_signHere_r v q)) q 116) q := Classical.choose_spec f_X2_readOrder_rq13_ex v q
theorem f_X2_readOrder_vq13_ex : ∃ F : (Nat → Int32) → (Nat → UInt16) → (Nat → Int32), ∀ (v : Nat → Int32) (q : Nat → UInt16), F v q = f_X2_readFirst_v (f_X2_readSign_v (upd v 3 (f_X2_signHere_r v q)) q 116) q := ⟨fun v q => f_X2_readFirst_v (f_X2_readSign_v (upd v 3 (f_X2_signHere_r v q)) q 116) q, fun _ _ => rfl⟩
noncomputable def f_X2_readOrder_vq13 : (Nat → Int32) → (Nat → UInt16) → (Nat → Int32) := Classical.choose f_X2_readOrder_vq13_ex
theorem f_X2_readOrder_vq13_eq (v : Nat → Int32) (q : Nat → UInt16) : f_X2_readOrder_vq13 v q = f_X2_readFirst_v (f_X2_readSign_v (upd v 3 (f_X2_signHere_r v q)) q 116) q := Classical.choose_spec f_X2_readOrder_vq13_ex v q
theorem f_X2_readOrder_x14_ex : ∃ F : (Nat → Int32) → (Nat → UInt16) → Int32, ∀ (v : Nat → Int32) (q : Nat → UInt16), F v q = (if f_X2_readSign_r (upd v 3 (f_X2_signHere_r v q)) q 116 = 0 then 0 else (if (f_X2_readOrder_rq13 v q) = 0 then 0 else 1)) := ⟨fun v q => (if f_X2_readSign_r (upd v 3 (f_X2_signHere_r v q)) q 116 = 0 then 0 else (if (f_X2_readOrder_rq13 v q) = 0 then 0 else 1)), fun _ _ => rfl⟩
noncomputable def f_X2_readOrder_x14 : (Nat → Int32) → (Nat → UInt16) → Int32 := Classical.choose f_X2_readOrder_x14_ex
theorem f_X2_readOrder_x14_eq (v : Nat → Int32) (q : Nat → UInt16) : f_X2_readOrder_x14 v q = (if f_X2_readSign_r (upd v 3 (f_X2_signHere_r v q)) q 116 = 0 then 0 else (if (f_X2_readOrder_rq13 v q) = 0 then 0 else 1)) := Classical.choose_spec f_X2_readOrder_x14_ex v q
theorem f_X2_readOrder_v15_ex : ∃ F : (Nat → Int32) → (Nat → UInt16) → (Nat → Int32), ∀ (v : Nat → Int32) (q : Nat → UInt16), F v q = (if f_X2_readSign_r (upd v 3 (f_X2_signHere_r v q)) q 116 = 0 then f_X2_readSign_v (upd v 3 (f_X2_signHere_r v q)) q 116 else (f_X2_readOrder_vq13 v q)) := ⟨fun v q => (if f_X2_readSign_r (upd v 3 (f_X2_signHere_r v q)) q 116 = 0 then f_X2_readSign_v (upd v 3 (f_X2_signHere_r v q)) q 116 else (f_X2_readOrder_vq13 v q)), fun _ _ => rfl⟩
noncomputable def f_X2_readOrder_v15 : (Nat → Int32) → (Nat → UInt16) → (Nat → Int32) := Classical.choose f_X2_readOrder_v15_ex
theorem f_X2_readOrder_v15_eq (v : Nat → Int32) (q : Nat → UInt16) : f_X2_readOrder_v15 v q = (if f_X2_readSign_r (upd v 3 (f_X2_signHere_r v q)) q 116 = 0 then f_X2_readSign_v (upd v 3 (f_X2_signHere_r v q)) q 116 else (f_X2_readOrder_vq13 v q)) := Classical.choose_spec f_X2_readOrder_v15_ex v q
theorem f_X2_readOrder_rq17_ex : ∃ F : (Nat → Int32) → (Nat → UInt16) → Int32, ∀ (v : Nat → Int32) (q : Nat → UInt16), F v q = f_X2_readSign_r (f_X2_readKindAndDrive_v (upd v 3 (f_X2_signHere_r v q)) q) q 47 := ⟨fun v q => f_X2_readSign_r (f_X2_readKindAndDrive_v (upd v 3 (f_X2_signHere_r v q)) q) q 47, fun _ _ => rfl⟩
noncomputable def f_X2_readOrder_rq17 : (Nat → Int32) → (Nat → UInt16) → Int32 := Classical.choose f_X2_readOrder_rq17_ex
theorem f_X2_readOrder_rq17_eq (v : Nat → Int32) (q : Nat → UInt16) : f_X2_readOrder_rq17 v q = f_X2_readSign_r (f_X2_readKindAndDrive_v (upd v 3 (f_X2_signHere_r v q)) q) q 47 := Classical.choose_spec f_X2_readOrder_rq17_ex v q
theorem f_X2_readOrder_vq17_ex : ∃ F : (Nat → Int32) → (Nat → UInt16) → (Nat → Int32), ∀ (v : Nat → Int32) (q : Nat → UInt16), F v q = f_X2_readSign_v (f_X2_readKindAndDrive_v (upd v 3 (f_X2_signHere_r v q)) q) q 47 := ⟨fun v q => f_X2_readSign_v (f_X2_readKindAndDrive_v (upd v 3 (f_X2_signHere_r v q)) q) q 47, fun _ _ => rfl⟩
noncomputable def f_X2_readOrder_vq17 : (Nat → Int32) → (Nat → UInt16) → (Nat → Int32) := Classical.choose f_X2_readOrder_vq17_ex
theorem f_X2_readOrder_vq17_eq (v : Nat → Int32) (q : Nat → UInt16) : f_X2_readOrder_vq17 v q = f_X2_readSign_v (f_X2_readKindAndDrive_v (upd v 3 (f_X2_signHere_r v q)) q) q 47 := Classical.choose_spec f_X2_readOrder_vq17_ex v q
theorem f_X2_readOrder_rq19_ex : ∃ F : (Nat → Int32) → (Nat → UInt16) → Int32, ∀ (v : Nat → Int32) (q : Nat → UInt16), F v q = f_X2_readSign_r (f_X2_readFirst_v (f_X2_readOrder_vq17 v q) q) q 42 := ⟨fun v q => f_X2_readSign_r (f_X2_readFirst_v (f_X2_readOrder_vq17 v q) q) q 42, fun _ _ => rfl⟩
noncomputable def f_X2_readOrder_rq19 : (Nat → Int32) → (Nat → UInt16) → Int32 := Classical.choose f_X2_readOrder_rq19_ex
theorem f_X2_readOrder_rq19_eq (v : Nat → Int32) (q : Nat → UInt16) : f_X2_readOrder_rq19 v q = f_X2_readSign_r (f_X2_readFirst_v (f_X2_readOrder_vq17 v q) q) q 42 := Classical.choose_spec f_X2_readOrder_rq19_ex v q
theorem f_X2_readOrder_vq19_ex : ∃ F : (Nat → Int32) → (Nat → UInt16) → (Nat → Int32), ∀ (v : Nat → Int32) (q : Nat → UInt16), F v q = f_X2_readSign_v (f_X2_readFirst_v (f_X2_readOrder_vq17 v q) q) q 42 := ⟨fun v q => f_X2_readSign_v (f_X2_readFirst_v (f_X2_readOrder_vq17 v q) q) q 42, fun _ _ => rfl⟩
noncomputable def f_X2_readOrder_vq19 : (Nat → Int32) → (Nat → UInt16) → (Nat → Int32) := Classical.choose f_X2_readOrder_vq19_ex
theorem f_X2_readOrder_vq19_eq (v : Nat → Int32) (q : Nat → UInt16) : f_X2_readOrder_vq19 v q = f_X2_readSign_v (f_X2_readFirst_v (f_X2_readOrder_vq17 v q) q) q 42 := Classical.choose_spec f_X2_readOrder_vq19_ex v q
theorem f_X2_readOrder_x21_ex : ∃ F : (Nat → Int32) → (Nat → UInt16) → Int32, ∀ (v : Nat → Int32) (q : Nat → UInt16), F v q = (if f_X2_readKindAndDrive_r (upd v 3 (f_X2_signHere_r v q)) q = 0 then 0 else (if (f_X2_readOrder_rq17 v q) = 0 then 0 else (if f_X2_readFirst_r (f_X2_readOrder_vq17 v q) q = 0 then 0 else (if (f_X2_readOrder_rq19 v q) = 0 then 0 else (if f_X2_readSecond_r (f_X2_readOrder_vq19 v q) q = 0 then 0 else 1))))) := ⟨fun v q => (if f_X2_readKindAndDrive_r (upd v 3 (f_X2_signHere_r v q)) q = 0 then 0 else (if (f_X2_readOrder_rq17 v q) = 0 then 0 else (if f_X2_readFirst_r (f_X2_readOrder_vq17 v q) q = 0 then 0 else (if (f_X2_readOrder_rq19 v q) = 0 then 0 else (if f_X2_readSecond_r (f_X2_readOrder_vq19 v q) q = 0 then 0 else 1))))), fun _ _ => rfl⟩
noncomputable def f_X2_readOrder_x21 : (Nat → Int32) → (Nat → UInt16) → Int32 := Classical.choose f_X2_readOrder_x21_ex
theorem f_X2_readOrder_x21_eq (v : Nat → Int32) (q : Nat → UInt16) : f_X2_readOrder_x21 v q = (if f_X2_readKindAndDrive_r (upd v 3 (f_X2_signHere_r v q)) q = 0 then 0 else (if (f_X2_readOrder_rq17 v q) = 0 then 0 else (if f_X2_readFirst_r (f_X2_readOrder_vq17 v q) q = 0 then 0 else (if (f_X2_readOrder_rq19 v q) = 0 then 0 else (if f_X2_readSecond_r (f_X2_readOrder_vq19 v q) q = 0 then 0 else 1))))) := Classical.choose_spec f_X2_readOrder_x21_ex v q
theorem f_X2_readOrder_v22_ex : ∃ F : (Nat → Int32) → (Nat → UInt16) → (Nat → Int32), ∀ (v : Nat → Int32) (q : Nat → UInt16), F v q = (if f_X2_readKindAndDrive_r (upd v 3 (f_X2_signHere_r v q)) q = 0 then f_X2_readKindAndDrive_v (upd v 3 (f_X2_signHere_r v q)) q else (if (f_X2_readOrder_rq17 v q) = 0 then (f_X2_readOrder_vq17 v q) else (if f_X2_readFirst_r (f_X2_readOrder_vq17 v q) q = 0 then f_X2_readFirst_v (f_X2_readOrder_vq17 v q) q else (if (f_X2_readOrder_rq19 v q) = 0 then (f_X2_readOrder_vq19 v q) else f_X2_readSecond_v (f_X2_readOrder_vq19 v q) q)))) := ⟨fun v q => (if f_X2_readKindAndDrive_r (upd v 3 (f_X2_signHere_r v q)) q = 0 then f_X2_readKindAndDrive_v (upd v 3 (f_X2_signHere_r v q)) q else (if (f_X2_readOrder_rq17 v q) = 0 then (f_X2_readOrder_vq17 v q) else (if f_X2_readFirst_r (f_X2_readOrder_vq17 v q) q = 0 then f_X2_readFirst_v (f_X2_readOrder_vq17 v q) q else (if (f_X2_readOrder_rq19 v q) = 0 then (f_X2_readOrder_vq19 v q) else f_X2_readSecond_v (f_X2_readOrder_vq19 v q) q)))), fun _ _ => rfl⟩
noncomputable def f_X2_readOrder_v22 : (Nat → Int32) → (Nat → UInt16) → (Nat → Int32) := Classical.choose f_X2_readOrder_v22_ex
theorem f_X2_readOrder_v22_eq (v : Nat → Int32) (q : Nat → UInt16) : f_X2_readOrder_v22 v q = (if f_X2_readKindAndDrive_r (upd v 3 (f_X2_signHere_r v q)) q = 0 then f_X2_readKindAndDrive_v (upd v 3 (f_X2_signHere_r v q)) q else (if (f_X2_readOrder_rq17 v q) = 0 then (f_X2_readOrder_vq17 v q) else (if f_X2_readFirst_r (f_X2_readOrder_vq17 v q) q = 0 then f_X2_readFirst_v (f_X2_readOrder_vq17 v q) q else (if (f_X2_readOrder_rq19 v q) = 0 then (f_X2_readOrder_vq19 v q) else f_X2_readSecond_v (f_X2_readOrder_vq19 v q) q)))) := Classical.choose_spec f_X2_readOrder_v22_ex v q
theorem f_X2_readOrder_rq24_ex : ∃ F : (Nat → Int32) → (Nat → UInt16) → Int32, ∀ (v : Nat → Int32) (q : Nat → UInt16), F v q = f_X2_readSign_r (f_X2_readKindAndDrive_v (upd v 3 (f_X2_signHere_r v q)) q) q 42 := ⟨fun v q => f_X2_readSign_r (f_X2_readKindAndDrive_v (upd v 3 (f_X2_signHere_r v q)) q) q 42, fun _ _ => rfl⟩
noncomputable def f_X2_readOrder_rq24 : (Nat → Int32) → (Nat → UInt16) → Int32 := Classical.choose f_X2_readOrder_rq24_ex
theorem f_X2_readOrder_rq24_eq (v : Nat → Int32) (q : Nat → UInt16) : f_X2_readOrder_rq24 v q = f_X2_readSign_r (f_X2_readKindAndDrive_v (upd v 3 (f_X2_signHere_r v q)) q) q 42 := Classical.choose_spec f_X2_readOrder_rq24_ex v q
theorem f_X2_readOrder_vq24_ex : ∃ F : (Nat → Int32) → (Nat → UInt16) → (Nat → Int32), ∀ (v : Nat → Int32) (q : Nat → UInt16), F v q = f_X2_readSign_v (f_X2_readKindAndDrive_v (upd v 3 (f_X2_signHere_r v q)) q) q 42 := ⟨fun v q => f_X2_readSign_v (f_X2_readKindAndDrive_v (upd v 3 (f_X2_signHere_r v q)) q) q 42, fun _ _ => rfl⟩
noncomputable def f_X2_readOrder_vq24 : (Nat → Int32) → (Nat → UInt16) → (Nat → Int32) := Classical.choose f_X2_readOrder_vq24_ex
theorem f_X2_readOrder_vq24_eq (v : Nat → Int32) (q : Nat → UInt16) : f_X2_readOrder_vq24 v q = f_X2_readSign_v (f_X2_readKindAndDrive_v (upd v 3 (f_X2_signHere_r v q)) q) q 42 := Classical.choose_spec f_X2_readOrder_vq24_ex v q
theorem f_X2_readOrder_x26_ex : ∃ F : (Nat → Int32) → (Nat → UInt16) → Int32, ∀ (v : Nat → Int32) (q : Nat → UInt16), F v q = (if f_X2_readKindAndDrive_r (upd v 3 (f_X2_signHere_r v q)) q = 0 then 0 else (if (f_X2_readOrder_rq24 v q) = 0 then 0 else (if f_X2_readFirst_r (f_X2_readOrder_vq24 v q) q = 0 then 0 else 1))) := ⟨fun v q => (if f_X2_readKindAndDrive_r (upd v 3 (f_X2_signHere_r v q)) q = 0 then 0 else (if (f_X2_readOrder_rq24 v q) = 0 then 0 else (if f_X2_readFirst_r (f_X2_readOrder_vq24 v q) q = 0 then 0 else 1))), fun _ _ => rfl⟩
noncomputable def f_X2_readOrder_x26 : (Nat → Int32) → (Nat → UInt16) → Int32 := Classical.choose f_X2_readOrder_x26_ex
theorem f_X2_readOrder_x26_eq (v : Nat → Int32) (q : Nat → UInt16) : f_X2_readOrder_x26 v q = (if f_X2_readKindAndDrive_r (upd v 3 (f_X2_signHere_r v q)) q = 0 then 0 else (if (f_X2_readOrder_rq24 v q) = 0 then 0 else (if f_X2_readFirst_r (f_X2_readOrder_vq24 v q) q = 0 then 0 else 1))) := Classical.choose_spec f_X2_readOrder_x26_ex v q
theorem f_X2_readOrder_v27_ex : ∃ F : (Nat → Int32) → (Nat → UInt16) → (Nat → Int32), ∀ (v : Nat → Int32) (q : Nat → UInt16), F v q = (if f_X2_readKindAndDrive_r (upd v 3 (f_X2_signHere_r v q)) q = 0 then f_X2_readKindAndDrive_v (upd v 3 (f_X2_signHere_r v q)) q else (if (f_X2_readOrder_rq24 v q) = 0 then (f_X2_readOrder_vq24 v q) else f_X2_readFirst_v (f_X2_readOrder_vq24 v q) q)) := ⟨fun v q => (if f_X2_readKindAndDrive_r (upd v 3 (f_X2_signHere_r v q)) q = 0 then f_X2_readKindAndDrive_v (upd v 3 (f_X2_signHere_r v q)) q else (if (f_X2_readOrder_rq24 v q) = 0 then (f_X2_readOrder_vq24 v q) else f_X2_readFirst_v (f_X2_readOrder_vq24 v q) q)), fun _ _ => rfl⟩
noncomputable def f_X2_readOrder_v27 : (Nat → Int32) → (Nat → UInt16) → (Nat → Int32) := Classical.choose f_X2_readOrder_v27_ex
theorem f_X2_readOrder_v27_eq (v : Nat → Int32) (q : Nat → UInt16) : f_X2_readOrder_v27 v q = (if f_X2_readKindAndDrive_r (upd v 3 (f_X2_signHere_r v q)) q = 0 then f_X2_readKindAndDrive_v (upd v 3 (f_X2_signHere_r v q)) q else (if (f_X2_readOrder_rq24 v q) = 0 then (f_X2_readOrder_vq24 v q) else f_X2_readFirst_v (f_X2_readOrder_vq24 v q) q)) := Classical.choose_spec f_X2_readOrder_v27_ex v q
theorem f_X2_readOrder_v_ex : ∃ F : (Nat → Int32) → (Nat → UInt16) → (Nat → Int32), ∀ (v : Nat → Int32) (q : Nat → UInt16), F v q = (if (f_X2_signHere_r v q) = 103 then (f_X2_readOrder_v6 v q) else (if (f_X2_signHere_r v q) = 115 then (f_X2_readOrder_v11 v q) else (if (f_X2_signHere_r v q) = 116 then (f_X2_readOrder_v15 v q) else (if (f_X2_signHere_r v q) = 118 then (f_X2_readOrder_v22 v q) else (if (f_X2_signHere_r v q) = 119 then (f_X2_readOrder_v27 v q) else upd v 3 (f_X2_signHere_r v q)))))) := ⟨fun v q => (if (f_X2_signHere_r v q) = 103 then (f_X2_readOrder_v6 v q) else (if (f_X2_signHere_r v q) = 115 then (f_X2_readOrder_v11 v q) else (if (f_X2_signHere_r v q) = 116 then (f_X2_readOrder_v15 v q) else (if (f_X2_signHere_r v q) = 118 then (f_X2_readOrder_v22 v q) else (if (f_X2_signHere_r v q) = 119 then (f_X2_readOrder_v27 v q) else upd v 3 (f_X2_signHere_r v q)))))), fun _ _ => rfl⟩
noncomputable def f_X2_readOrder_v : (Nat → Int32) → (Nat → UInt16) → (Nat → Int32) := Classical.choose f_X2_readOrder_v_ex
theorem f_X2_readOrder_v_eq (v : Nat → Int32) (q : Nat → UInt16) : f_X2_readOrder_v v q = (if (f_X2_signHere_r v q) = 103 then (f_X2_readOrder_v6 v q) else (if (f_X2_signHere_r v q) = 115 then (f_X2_readOrder_v11 v q) else (if (f_X2_signHere_r v q) = 116 then (f_X2_readOrder_v15 v q) else (if (f_X2_signHere_r v q) = 118 then (f_X2_readOrder_v22 v q) else (if (f_X2_signHere_r v q) = 119 then (f_X2_readOrder_v27 v q) else upd v 3 (f_X2_signHere_r v q)))))) := Classical.choose_spec f_X2_readOrder_v_ex v q
theorem f_X2_readOrder_r_ex : ∃ F : (Nat → Int32) → (Nat → UInt16) → Int32, ∀ (v : Nat → Int32) (q : Nat → UInt16), F v q = (if (f_X2_signHere_r v q) = 103 then (f_X2_readOrder_x5 v q) else (if (f_X2_signHere_r v q) = 115 then (f_X2_readOrder_x10 v q) else (if (f_X2_signHere_r v q) = 116 then (f_X2_readOrder_x14 v q) else (if (f_X2_signHere_r v q) = 118 then (f_X2_readOrder_x21 v q) else (if (f_X2_signHere_r v q) = 119 then (f_X2_readOrder_x26 v q) else 0))))) := ⟨fun v q => (if (f_X2_signHere_r v q) = 103 then (f_X2_readOrder_x5 v q) else (if (f_X2_signHere_r v q) = 115 then (f_X2_readOrder_x10 v q) else (if (f_X2_signHere_r v q) = 116 then (f_X2_readOrder_x14 v q) else (if (f_X2_signHere_r v q) = 118 then (f_X2_readOrder_x21 v q) else (if (f_X2_signHere_r v q) = 119 then (f_X2_readOrder_x26 v q) else 0))))), fun _ _ => rfl⟩
noncomputable def f_X2_readOrder_r : (Nat → Int32) → (Nat → UInt16) → Int32 := Classical.choose f_X2_readOrder_r_ex
theorem f_X2_readOrder_r_eq (v : Nat → Int32) (q : Nat → UInt16) : f_X2_readOrder_r v q = (if (f_X2_signHere_r v q) = 103 then (f_X2_readOrder_x5 v q) else (if (f_X2_signHere_r v q) = 115 then (f_X2_readOrder_x10 v q) else (if (f_X2_signHere_r v q) = 116 then (f_X2_readOrder_x14 v q) else (if (f_X2_signHere_r v q) = 118 then (f_X2_readOrder_x21 v q) else (if (f_X2_signHere_r v q) = 119 then (f_X2_readOrder_x26 v q) else 0))))) := Classical.choose_spec f_X2_readOrder_r_ex v q
set_option maxRecDepth 100000 in
set_option maxHeartbeats 4000000 in
theorem m_X2_readOrder (l : Launch) (G : GG) (a ga : Nat) (v : Nat → Int32) (q : Nat → UInt16)  : CtI l yX2_readOrder cX2_readOrder 1 (some .boolean) (RM 3) G [.ref a] ([oP a ga v, aC G ga q]) (f_X2_readOrder_r v q) ([oP a ga (f_X2_readOrder_v v q), aC G ga q]) := by
  refine ct_I RX2 [(0, .ref a)] rfl (by decide +kernel) (Nat.le_of_ble_eq_true rfl) rfl ?_
  intro p e s m args below meth c A C hr hk hnm
  generalize hQ : (MQ below (PostI G A (f_X2_readOrder_r v q) ([oP a ga (f_X2_readOrder_v v q), aC G ga q])) args s (RM 3).cells (RM 3).slots A) = Q
  refine j_aload_n C dX2_readOrder_0 0 rfl ?_
  refine j_aload_n C dX2_readOrder_1 0 rfl ?_
  refine j_callV_i (r := f_X2_signHere_r v q) (wc' := [oP a ga v, aC G ga q]) C (m_X2_signHere l G a ga v q) rfl 0 rfl 0 (gV kw_425 kw_426 kw_764 kw_6 kw_427) (by decide +kernel) ⟨(Nat.le_of_ble_eq_true rfl), (Nat.le_of_ble_eq_true rfl)⟩ rfl rfl (Nat.le_of_ble_eq_true rfl) dX2_readOrder_2 ⟨(Nat.le_of_ble_eq_true rfl), (Nat.le_of_ble_eq_true rfl)⟩ [] [oP a ga v, aC G ga q] (perm_idx [0, 1] 2 rfl (by decide +kernel) rfl) rfl ?_
  generalize hw0 : f_X2_signHere_r v q = w0
  refine j_put C kin2 rfl 0 rfl 3 (by decide) kw_123 rfl tyX2 tyX2_ok nmX2 rfl (by subst hw0; exact nar_sign _ _) (by subst hw0; exact fit_sign _ _) (Nat.le_of_ble_eq_true rfl) ([oP a ga (upd v 3 w0), aC G ga q]) rfl dX2_readOrder_5 ?_
  refine j_aload_n C dX2_readOrder_8 0 rfl ?_
  refine j_get C kin2 rfl 0 rfl 3 (by decide) kw_123 rfl (v := .int w0) rfl dX2_readOrder_9 ?_
  by_cases c12_103 : w0 = 103
  · refine j_lookup (tgt := 64) C dX2_readOrder_12 rfl (by rw [c12_103] <;> rfl) (by decide) ?_
    refine j_aload_n C dX2_readOrder_64 0 rfl ?_
    refine j_callV_i (r := f_X2_readKindAndDrive_r (upd v 3 w0) q) (wc' := [oP a ga (f_X2_readKindAndDrive_v (upd v 3 w0) q), aC G ga q]) C (m_X2_readKindAndDrive l G a ga (upd v 3 w0) q) rfl 0 rfl 0 (gV kw_431 kw_432 kw_766 kw_6 kw_433) (by decide +kernel) ⟨(Nat.le_of_ble_eq_true rfl), (Nat.le_of_ble_eq_true rfl)⟩ rfl rfl (Nat.le_of_ble_eq_true rfl) dX2_readOrder_65 ⟨(Nat.le_of_ble_eq_true rfl), (Nat.le_of_ble_eq_true rfl)⟩ [] [oP a ga (f_X2_readKindAndDrive_v (upd v 3 w0) q), aC G ga q] (perm_idx [0, 1] 2 rfl (by decide +kernel) rfl) rfl ?_
    have K92 : WJ p l e (RM 3) s m args below meth c G A 1 0 0 Q ([oP a ga (f_X2_readOrder_v6 v q), aC G ga q]) [(0, .ref a)] 92 [.int (f_X2_readOrder_x5 v q)] := by
      generalize hw3 : f_X2_readOrder_x5 v q = w3
      generalize hw4 : f_X2_readOrder_v6 v q = w4
      subst hQ; subst hw0 hw3 hw4; exact j_zret C hr hk (by rw [f_X2_readOrder_x5_eq]; (repeat' split) <;> rfl) ((show f_X2_readOrder_r v q = (f_X2_readOrder_x5 v q) from ((f_X2_readOrder_r_eq v q).trans (if_pos c12_103))).symm) (by rw [show f_X2_readOrder_v v q = (f_X2_readOrder_v6 v q) from ((f_X2_readOrder_v_eq v q).trans (if_pos c12_103))]) dX2_readOrder_92
    refine j_if_eq (tgt := 91) C dX2_readOrder_68 (by decide) (fun c68 => ?_) (fun c68 => ?_)
    · refine j_iconst (v := 0) C dX2_readOrder_91 (by decide) ?_
      subst hw0; exact j_eq (by rw [show f_X2_readOrder_v6 v q = f_X2_readKindAndDrive_v (upd v 3 (f_X2_signHere_r v q)) q from ((f_X2_readOrder_v6_eq v q).trans (if_pos c68))]) rfl (by rw [show f_X2_readOrder_x5 v q = 0 from ((f_X2_readOrder_x5_eq v q).trans (if_pos c68))]) K92
    · refine j_aload_n C dX2_readOrder_71 0 rfl ?_
      refine j_bipush (v := 64) C dX2_readOrder_72 (by decide) ?_
      refine j_callV_i (r := f_X2_readSign_r (f_X2_readKindAndDrive_v (upd v 3 w0) q) q 64) (wc' := [oP a ga (f_X2_readSign_v (f_X2_readKindAndDrive_v (upd v 3 w0) q) q 64), aC G ga q]) C (m_X2_readSign l G a ga (f_X2_readKindAndDrive_v (upd v 3 w0) q) q 64) rfl 0 rfl 1 (gV kw_422 kw_423 kw_763 kw_6 kw_424) (by decide +kernel) ⟨(Nat.le_of_ble_eq_true rfl), (Nat.le_of_ble_eq_true rfl)⟩ rfl rfl (Nat.le_of_ble_eq_true rfl) dX2_readOrder_74 ⟨(Nat.le_of_ble_eq_true rfl), (Nat.le_of_ble_eq_true rfl)⟩ [] [oP a ga (f_X2_readSign_v (f_X2_readKindAndDrive_v (upd v 3 w0) q) q 64), aC G ga q] (perm_idx [0, 1] 2 rfl (by decide +kernel) rfl) rfl ?_
      generalize hzw1 : f_X2_readSign_r (f_X2_readKindAndDrive_v (upd v 3 w0) q) q 64 = w1
      have hw1 : f_X2_readOrder_rq3 v q = w1 := by subst hw0; subst hzw1; exact (f_X2_readOrder_rq3_eq v q)
      generalize hzw2 : f_X2_readSign_v (f_X2_readKindAndDrive_v (upd v 3 w0) q) q 64 = w2
      have hw2 : f_X2_readOrder_vq3 v q = w2 := by subst hw0 hw1; subst hzw2; exact (f_X2_readOrder_vq3_eq v q)
      refine j_if_eq (tgt := 91) C dX2_readOrder_77 (by decide) (fun c77 => ?_) (fun c77 => ?_)
      · refine j_iconst (v := 0) C dX2_readOrder_91 (by decide) ?_
        subst hw0 hw1 hw2; exact j_eq (by rw [show f_X2_readOrder_v6 v q = (f_X2_readOrder_vq3 v q) from ((f_X2_readOrder_v6_eq v q).trans ((if_neg c68).trans (if_pos c77)))]) rfl (by rw [show f_X2_readOrder_x5 v q = 0 from ((f_X2_readOrder_x5_eq v q).trans ((if_neg c68).trans (if_pos c77)))]) K92
      · refine j_aload_n C dX2_readOrder_80 0 rfl ?_
        refine j_callV_i (r := f_X2_readFirst_r w2 q) (wc' := [oP a ga (f_X2_readFirst_v w2 q), aC G ga q]) C (m_X2_readFirst l G a ga w2 q) rfl 0 rfl 0 (gV kw_434 kw_435 kw_767 kw_6 kw_436) (by decide +kernel) ⟨(Nat.le_of_ble_eq_true rfl), (Nat.le_of_ble_eq_true rfl)⟩ rfl rfl (Nat.le_of_ble_eq_true rfl) dX2_readOrder_81 ⟨(Nat.le_of_ble_eq_true rfl), (Nat.le_of_ble_eq_true rfl)⟩ [] [oP a ga (f_X2_readFirst_v w2 q), aC G ga q] (perm_idx [0, 1] 2 rfl (by decide +kernel) rfl) rfl ?_
        refine j_if_eq (tgt := 91) C dX2_readOrder_84 (by decide) (fun c84 => ?_) (fun c84 => ?_)
        · refine j_iconst (v := 0) C dX2_readOrder_91 (by decide) ?_
          subst hw0 hw1 hw2; exact j_eq (by rw [show f_X2_readOrder_v6 v q = f_X2_readFirst_v (f_X2_readOrder_vq3 v q) q from ((f_X2_readOrder_v6_eq v q).trans ((if_neg c68).trans (if_neg c77)))]) rfl (by rw [show f_X2_readOrder_x5 v q = 0 from ((f_X2_readOrder_x5_eq v q).trans ((if_neg c68).trans ((if_neg c77).trans (if_pos c84))))]) K92
        · refine j_iconst (v := 1) C dX2_readOrder_87 (by decide) ?_
          refine j_goto (tgt := 92) C dX2_readOrder_88 (by decide) ?_
          subst hw0 hw1 hw2; exact j_eq (by rw [show f_X2_readOrder_v6 v q = f_X2_readFirst_v (f_X2_readOrder_vq3 v q) q from ((f_X2_readOrder_v6_eq v q).trans ((if_neg c68).trans (if_neg c77)))]) rfl (by rw [show f_X2_readOrder_x5 v q = 1 from ((f_X2_readOrder_x5_eq v q).trans ((if_neg c68).trans ((if_neg c77).trans (if_neg c84))))]) K92
  · by_cases c12_115 : w0 = 115
    · refine j_lookup (tgt := 64) C dX2_readOrder_12 rfl (by rw [c12_115] <;> rfl) (by decide) ?_
      refine j_aload_n C dX2_readOrder_64 0 rfl ?_
      refine j_callV_i (r := f_X2_readKindAndDrive_r (upd v 3 w0) q) (wc' := [oP a ga (f_X2_readKindAndDrive_v (upd v 3 w0) q), aC G ga q]) C (m_X2_readKindAndDrive l G a ga (upd v 3 w0) q) rfl 0 rfl 0 (gV kw_431 kw_432 kw_766 kw_6 kw_433) (by decide +kernel) ⟨(Nat.le_of_ble_eq_true rfl), (Nat.le_of_ble_eq_true rfl)⟩ rfl rfl (Nat.le_of_ble_eq_true rfl) dX2_readOrder_65 ⟨(Nat.le_of_ble_eq_true rfl), (Nat.le_of_ble_eq_true rfl)⟩ [] [oP a ga (f_X2_readKindAndDrive_v (upd v 3 w0) q), aC G ga q] (perm_idx [0, 1] 2 rfl (by decide +kernel) rfl) rfl ?_
      have K92_1 : WJ p l e (RM 3) s m args below meth c G A 1 0 0 Q ([oP a ga (f_X2_readOrder_v11 v q), aC G ga q]) [(0, .ref a)] 92 [.int (f_X2_readOrder_x10 v q)] := by
        generalize hw7 : f_X2_readOrder_x10 v q = w7
        generalize hw8 : f_X2_readOrder_v11 v q = w8
        subst hQ; subst hw0 hw7 hw8; exact j_zret C hr hk (by rw [f_X2_readOrder_x10_eq]; (repeat' split) <;> rfl) ((show f_X2_readOrder_r v q = (f_X2_readOrder_x10 v q) from ((f_X2_readOrder_r_eq v q).trans ((if_neg c12_103).trans (if_pos c12_115)))).symm) (by rw [show f_X2_readOrder_v v q = (f_X2_readOrder_v11 v q) from ((f_X2_readOrder_v_eq v q).trans ((if_neg c12_103).trans (if_pos c12_115)))]) dX2_readOrder_92
      refine j_if_eq (tgt := 91) C dX2_readOrder_68 (by decide) (fun c68 => ?_) (fun c68 => ?_)
      · refine j_iconst (v := 0) C dX2_readOrder_91 (by decide) ?_
        subst hw0; exact j_eq (by rw [show f_X2_readOrder_v11 v q = f_X2_readKindAndDrive_v (upd v 3 (f_X2_signHere_r v q)) q from ((f_X2_readOrder_v11_eq v q).trans (if_pos c68))]) rfl (by rw [show f_X2_readOrder_x10 v q = 0 from ((f_X2_readOrder_x10_eq v q).trans (if_pos c68))]) K92_1
      · refine j_aload_n C dX2_readOrder_71 0 rfl ?_
        refine j_bipush (v := 64) C dX2_readOrder_72 (by decide) ?_
        refine j_callV_i (r := f_X2_readSign_r (f_X2_readKindAndDrive_v (upd v 3 w0) q) q 64) (wc' := [oP a ga (f_X2_readSign_v (f_X2_readKindAndDrive_v (upd v 3 w0) q) q 64), aC G ga q]) C (m_X2_readSign l G a ga (f_X2_readKindAndDrive_v (upd v 3 w0) q) q 64) rfl 0 rfl 1 (gV kw_422 kw_423 kw_763 kw_6 kw_424) (by decide +kernel) ⟨(Nat.le_of_ble_eq_true rfl), (Nat.le_of_ble_eq_true rfl)⟩ rfl rfl (Nat.le_of_ble_eq_true rfl) dX2_readOrder_74 ⟨(Nat.le_of_ble_eq_true rfl), (Nat.le_of_ble_eq_true rfl)⟩ [] [oP a ga (f_X2_readSign_v (f_X2_readKindAndDrive_v (upd v 3 w0) q) q 64), aC G ga q] (perm_idx [0, 1] 2 rfl (by decide +kernel) rfl) rfl ?_
        generalize hzw5 : f_X2_readSign_r (f_X2_readKindAndDrive_v (upd v 3 w0) q) q 64 = w5
        have hw5 : f_X2_readOrder_rq8 v q = w5 := by subst hw0; subst hzw5; exact (f_X2_readOrder_rq8_eq v q)
        generalize hzw6 : f_X2_readSign_v (f_X2_readKindAndDrive_v (upd v 3 w0) q) q 64 = w6
        have hw6 : f_X2_readOrder_vq8 v q = w6 := by subst hw0 hw5; subst hzw6; exact (f_X2_readOrder_vq8_eq v q)
        refine j_if_eq (tgt := 91) C dX2_readOrder_77 (by decide) (fun c77 => ?_) (fun c77 => ?_)
        · refine j_iconst (v := 0) C dX2_readOrder_91 (by decide) ?_
          subst hw0 hw5 hw6; exact j_eq (by rw [show f_X2_readOrder_v11 v q = (f_X2_readOrder_vq8 v q) from ((f_X2_readOrder_v11_eq v q).trans ((if_neg c68).trans (if_pos c77)))]) rfl (by rw [show f_X2_readOrder_x10 v q = 0 from ((f_X2_readOrder_x10_eq v q).trans ((if_neg c68).trans (if_pos c77)))]) K92_1
        · refine j_aload_n C dX2_readOrder_80 0 rfl ?_
          refine j_callV_i (r := f_X2_readFirst_r w6 q) (wc' := [oP a ga (f_X2_readFirst_v w6 q), aC G ga q]) C (m_X2_readFirst l G a ga w6 q) rfl 0 rfl 0 (gV kw_434 kw_435 kw_767 kw_6 kw_436) (by decide +kernel) ⟨(Nat.le_of_ble_eq_true rfl), (Nat.le_of_ble_eq_true rfl)⟩ rfl rfl (Nat.le_of_ble_eq_true rfl) dX2_readOrder_81 ⟨(Nat.le_of_ble_eq_true rfl), (Nat.le_of_ble_eq_true rfl)⟩ [] [oP a ga (f_X2_readFirst_v w6 q), aC G ga q] (perm_idx [0, 1] 2 rfl (by decide +kernel) rfl) rfl ?_
          refine j_if_eq (tgt := 91) C dX2_readOrder_84 (by decide) (fun c84 => ?_) (fun c84 => ?_)
          · refine j_iconst (v := 0) C dX2_readOrder_91 (by decide) ?_
            subst hw0 hw5 hw6; exact j_eq (by rw [show f_X2_readOrder_v11 v q = f_X2_readFirst_v (f_X2_readOrder_vq8 v q) q from ((f_X2_readOrder_v11_eq v q).trans ((if_neg c68).trans (if_neg c77)))]) rfl (by rw [show f_X2_readOrder_x10 v q = 0 from ((f_X2_readOrder_x10_eq v q).trans ((if_neg c68).trans ((if_neg c77).trans (if_pos c84))))]) K92_1
          · refine j_iconst (v := 1) C dX2_readOrder_87 (by decide) ?_
            refine j_goto (tgt := 92) C dX2_readOrder_88 (by decide) ?_
            subst hw0 hw5 hw6; exact j_eq (by rw [show f_X2_readOrder_v11 v q = f_X2_readFirst_v (f_X2_readOrder_vq8 v q) q from ((f_X2_readOrder_v11_eq v q).trans ((if_neg c68).trans (if_neg c77)))]) rfl (by rw [show f_X2_readOrder_x10 v q = 1 from ((f_X2_readOrder_x10_eq v q).trans ((if_neg c68).trans ((if_neg c77).trans (if_neg c84))))]) K92_1
    · by_cases c12_116 : w0 = 116
      · refine j_lookup (tgt := 167) C dX2_readOrder_12 rfl (by rw [c12_116] <;> rfl) (by decide) ?_
        refine j_aload_n C dX2_readOrder_167 0 rfl ?_
        refine j_bipush (v := 116) C dX2_readOrder_168 (by decide) ?_
        refine j_callV_i (r := f_X2_readSign_r (upd v 3 w0) q 116) (wc' := [oP a ga (f_X2_readSign_v (upd v 3 w0) q 116), aC G ga q]) C (m_X2_readSign l G a ga (upd v 3 w0) q 116) rfl 0 rfl 1 (gV kw_422 kw_423 kw_763 kw_6 kw_424) (by decide +kernel) ⟨(Nat.le_of_ble_eq_true rfl), (Nat.le_of_ble_eq_true rfl)⟩ rfl rfl (Nat.le_of_ble_eq_true rfl) dX2_readOrder_170 ⟨(Nat.le_of_ble_eq_true rfl), (Nat.le_of_ble_eq_true rfl)⟩ [] [oP a ga (f_X2_readSign_v (upd v 3 w0) q 116), aC G ga q] (perm_idx [0, 1] 2 rfl (by decide +kernel) rfl) rfl ?_
        have K188 : WJ p l e (RM 3) s m args below meth c G A 1 0 0 Q ([oP a ga (f_X2_readOrder_v15 v q), aC G ga q]) [(0, .ref a)] 188 [.int (f_X2_readOrder_x14 v q)] := by
          generalize hw11 : f_X2_readOrder_x14 v q = w11
          generalize hw12 : f_X2_readOrder_v15 v q = w12
          subst hQ; subst hw0 hw11 hw12; exact j_zret C hr hk (by rw [f_X2_readOrder_x14_eq]; (repeat' split) <;> rfl) ((show f_X2_readOrder_r v q = (f_X2_readOrder_x14 v q) from ((f_X2_readOrder_r_eq v q).trans ((if_neg c12_103).trans ((if_neg c12_115).trans (if_pos c12_116))))).symm) (by rw [show f_X2_readOrder_v v q = (f_X2_readOrder_v15 v q) from ((f_X2_readOrder_v_eq v q).trans ((if_neg c12_103).trans ((if_neg c12_115).trans (if_pos c12_116))))]) dX2_readOrder_188
        refine j_if_eq (tgt := 187) C dX2_readOrder_173 (by decide) (fun c173 => ?_) (fun c173 => ?_)
        · refine j_iconst (v := 0) C dX2_readOrder_187 (by decide) ?_
          subst hw0; exact j_eq (by rw [show f_X2_readOrder_v15 v q = f_X2_readSign_v (upd v 3 (f_X2_signHere_r v q)) q 116 from ((f_X2_readOrder_v15_eq v q).trans (if_pos c173))]) rfl (by rw [show f_X2_readOrder_x14 v q = 0 from ((f_X2_readOrder_x14_eq v q).trans (if_pos c173))]) K188
        · refine j_aload_n C dX2_readOrder_176 0 rfl ?_
          refine j_callV_i (r := f_X2_readFirst_r (f_X2_readSign_v (upd v 3 w0) q 116) q) (wc' := [oP a ga (f_X2_readFirst_v (f_X2_readSign_v (upd v 3 w0) q 116) q), aC G ga q]) C (m_X2_readFirst l G a ga (f_X2_readSign_v (upd v 3 w0) q 116) q) rfl 0 rfl 0 (gV kw_434 kw_435 kw_767 kw_6 kw_436) (by decide +kernel) ⟨(Nat.le_of_ble_eq_true rfl), (Nat.le_of_ble_eq_true rfl)⟩ rfl rfl (Nat.le_of_ble_eq_true rfl) dX2_readOrder_177 ⟨(Nat.le_of_ble_eq_true rfl), (Nat.le_of_ble_eq_true rfl)⟩ [] [oP a ga (f_X2_readFirst_v (f_X2_readSign_v (upd v 3 w0) q 116) q), aC G ga q] (perm_idx [0, 1] 2 rfl (by decide +kernel) rfl) rfl ?_
          generalize hzw9 : f_X2_readFirst_r (f_X2_readSign_v (upd v 3 w0) q 116) q = w9
          have hw9 : f_X2_readOrder_rq13 v q = w9 := by subst hw0; subst hzw9; exact (f_X2_readOrder_rq13_eq v q)
          generalize hzw10 : f_X2_readFirst_v (f_X2_readSign_v (upd v 3 w0) q 116) q = w10
          have hw10 : f_X2_readOrder_vq13 v q = w10 := by subst hw0 hw9; subst hzw10; exact (f_X2_readOrder_vq13_eq v q)
          refine j_if_eq (tgt := 187) C dX2_readOrder_180 (by decide) (fun c180 => ?_) (fun c180 => ?_)
          · refine j_iconst (v := 0) C dX2_readOrder_187 (by decide) ?_
            subst hw0 hw9 hw10; exact j_eq (by rw [show f_X2_readOrder_v15 v q = (f_X2_readOrder_vq13 v q) from ((f_X2_readOrder_v15_eq v q).trans (if_neg c173))]) rfl (by rw [show f_X2_readOrder_x14 v q = 0 from ((f_X2_readOrder_x14_eq v q).trans ((if_neg c173).trans (if_pos c180)))]) K188
          · refine j_iconst (v := 1) C dX2_readOrder_183 (by decide) ?_
            refine j_goto (tgt := 188) C dX2_readOrder_184 (by decide) ?_
            subst hw0 hw9 hw10; exact j_eq (by rw [show f_X2_readOrder_v15 v q = (f_X2_readOrder_vq13 v q) from ((f_X2_readOrder_v15_eq v q).trans (if_neg c173))]) rfl (by rw [show f_X2_readOrder_x14 v q = 1 from ((f_X2_readOrder_x14_eq v q).trans ((if_neg c173).trans (if_neg c180)))]) K188
      · by_cases c12_118 : w0 = 118
        · refine j_lookup (tgt := 122) C dX2_readOrder_12 rfl (by rw [c12_118] <;> rfl) (by decide) ?_
          refine j_aload_n C dX2_readOrder_122 0 rfl ?_
          refine j_callV_i (r := f_X2_readKindAndDrive_r (upd v 3 w0) q) (wc' := [oP a ga (f_X2_readKindAndDrive_v (upd v 3 w0) q), aC G ga q]) C (m_X2_readKindAndDrive l G a ga (upd v 3 w0) q) rfl 0 rfl 0 (gV kw_431 kw_432 kw_766 kw_6 kw_433) (by decide +kernel) ⟨(Nat.le_of_ble_eq_true rfl), (Nat.le_of_ble_eq_true rfl)⟩ rfl rfl (Nat.le_of_ble_eq_true rfl) dX2_readOrder_123 ⟨(Nat.le_of_ble_eq_true rfl), (Nat.le_of_ble_eq_true rfl)⟩ [] [oP a ga (f_X2_readKindAndDrive_v (upd v 3 w0) q), aC G ga q] (perm_idx [0, 1] 2 rfl (by decide +kernel) rfl) rfl ?_
          have K166 : WJ p l e (RM 3) s m args below meth c G A 1 0 0 Q ([oP a ga (f_X2_readOrder_v22 v q), aC G ga q]) [(0, .ref a)] 166 [.int (f_X2_readOrder_x21 v q)] := by
            generalize hw17 : f_X2_readOrder_x21 v q = w17
            generalize hw18 : f_X2_readOrder_v22 v q = w18
            subst hQ; subst hw0 hw17 hw18; exact j_zret C hr hk (by rw [f_X2_readOrder_x21_eq]; (repeat' split) <;> rfl) ((show f_X2_readOrder_r v q = (f_X2_readOrder_x21 v q) from ((f_X2_readOrder_r_eq v q).trans ((if_neg c12_103).trans ((if_neg c12_115).trans ((if_neg c12_116).trans (if_pos c12_118)))))).symm) (by rw [show f_X2_readOrder_v v q = (f_X2_readOrder_v22 v q) from ((f_X2_readOrder_v_eq v q).trans ((if_neg c12_103).trans ((if_neg c12_115).trans ((if_neg c12_116).trans (if_pos c12_118)))))]) dX2_readOrder_166
          refine j_if_eq (tgt := 165) C dX2_readOrder_126 (by decide) (fun c126 => ?_) (fun c126 => ?_)
          · refine j_iconst (v := 0) C dX2_readOrder_165 (by decide) ?_
            subst hw0; exact j_eq (by rw [show f_X2_readOrder_v22 v q = f_X2_readKindAndDrive_v (upd v 3 (f_X2_signHere_r v q)) q from ((f_X2_readOrder_v22_eq v q).trans (if_pos c126))]) rfl (by rw [show f_X2_readOrder_x21 v q = 0 from ((f_X2_readOrder_x21_eq v q).trans (if_pos c126))]) K166
          · refine j_aload_n C dX2_readOrder_129 0 rfl ?_
            refine j_bipush (v := 47) C dX2_readOrder_130 (by decide) ?_
            refine j_callV_i (r := f_X2_readSign_r (f_X2_readKindAndDrive_v (upd v 3 w0) q) q 47) (wc' := [oP a ga (f_X2_readSign_v (f_X2_readKindAndDrive_v (upd v 3 w0) q) q 47), aC G ga q]) C (m_X2_readSign l G a ga (f_X2_readKindAndDrive_v (upd v 3 w0) q) q 47) rfl 0 rfl 1 (gV kw_422 kw_423 kw_763 kw_6 kw_424) (by decide +kernel) ⟨(Nat.le_of_ble_eq_true rfl), (Nat.le_of_ble_eq_true rfl)⟩ rfl rfl (Nat.le_of_ble_eq_true rfl) dX2_readOrder_132 ⟨(Nat.le_of_ble_eq_true rfl), (Nat.le_of_ble_eq_true rfl)⟩ [] [oP a ga (f_X2_readSign_v (f_X2_readKindAndDrive_v (upd v 3 w0) q) q 47), aC G ga q] (perm_idx [0, 1] 2 rfl (by decide +kernel) rfl) rfl ?_
            generalize hzw13 : f_X2_readSign_r (f_X2_readKindAndDrive_v (upd v 3 w0) q) q 47 = w13
            have hw13 : f_X2_readOrder_rq17 v q = w13 := by subst hw0; subst hzw13; exact (f_X2_readOrder_rq17_eq v q)
            generalize hzw14 : f_X2_readSign_v (f_X2_readKindAndDrive_v (upd v 3 w0) q) q 47 = w14
            have hw14 : f_X2_readOrder_vq17 v q = w14 := by subst hw0 hw13; subst hzw14; exact (f_X2_readOrder_vq17_eq v q)
            refine j_if_eq (tgt := 165) C dX2_readOrder_135 (by decide) (fun c135 => ?_) (fun c135 => ?_)
            · refine j_iconst (v := 0) C dX2_readOrder_165 (by decide) ?_
              subst hw0 hw13 hw14; exact j_eq (by rw [show f_X2_readOrder_v22 v q = (f_X2_readOrder_vq17 v q) from ((f_X2_readOrder_v22_eq v q).trans ((if_neg c126).trans (if_pos c135)))]) rfl (by rw [show f_X2_readOrder_x21 v q = 0 from ((f_X2_readOrder_x21_eq v q).trans ((if_neg c126).trans (if_pos c135)))]) K166
            · refine j_aload_n C dX2_readOrder_138 0 rfl ?_
              refine j_callV_i (r := f_X2_readFirst_r w14 q) (wc' := [oP a ga (f_X2_readFirst_v w14 q), aC G ga q]) C (m_X2_readFirst l G a ga w14 q) rfl 0 rfl 0 (gV kw_434 kw_435 kw_767 kw_6 kw_436) (by decide +kernel) ⟨(Nat.le_of_ble_eq_true rfl), (Nat.le_of_ble_eq_true rfl)⟩ rfl rfl (Nat.le_of_ble_eq_true rfl) dX2_readOrder_139 ⟨(Nat.le_of_ble_eq_true rfl), (Nat.le_of_ble_eq_true rfl)⟩ [] [oP a ga (f_X2_readFirst_v w14 q), aC G ga q] (perm_idx [0, 1] 2 rfl (by decide +kernel) rfl) rfl ?_
              refine j_if_eq (tgt := 165) C dX2_readOrder_142 (by decide) (fun c142 => ?_) (fun c142 => ?_)
              · refine j_iconst (v := 0) C dX2_readOrder_165 (by decide) ?_
                subst hw0 hw13 hw14; exact j_eq (by rw [show f_X2_readOrder_v22 v q = f_X2_readFirst_v (f_X2_readOrder_vq17 v q) q from ((f_X2_readOrder_v22_eq v q).trans ((if_neg c126).trans ((if_neg c135).trans (if_pos c142))))]) rfl (by rw [show f_X2_readOrder_x21 v q = 0 from ((f_X2_readOrder_x21_eq v q).trans ((if_neg c126).trans ((if_neg c135).trans (if_pos c142))))]) K166
              · refine j_aload_n C dX2_readOrder_145 0 rfl ?_
                refine j_bipush (v := 42) C dX2_readOrder_146 (by decide) ?_
                refine j_callV_i (r := f_X2_readSign_r (f_X2_readFirst_v w14 q) q 42) (wc' := [oP a ga (f_X2_readSign_v (f_X2_readFirst_v w14 q) q 42), aC G ga q]) C (m_X2_readSign l G a ga (f_X2_readFirst_v w14 q) q 42) rfl 0 rfl 1 (gV kw_422 kw_423 kw_763 kw_6 kw_424) (by decide +kernel) ⟨(Nat.le_of_ble_eq_true rfl), (Nat.le_of_ble_eq_true rfl)⟩ rfl rfl (Nat.le_of_ble_eq_true rfl) dX2_readOrder_148 ⟨(Nat.le_of_ble_eq_true rfl), (Nat.le_of_ble_eq_true rfl)⟩ [] [oP a ga (f_X2_readSign_v (f_X2_readFirst_v w14 q) q 42), aC G ga q] (perm_idx [0, 1] 2 rfl (by decide +kernel) rfl) rfl ?_
                generalize hzw15 : f_X2_readSign_r (f_X2_readFirst_v w14 q) q 42 = w15
                have hw15 : f_X2_readOrder_rq19 v q = w15 := by subst hw0 hw13 hw14; subst hzw15; exact (f_X2_readOrder_rq19_eq v q)
                generalize hzw16 : f_X2_readSign_v (f_X2_readFirst_v w14 q) q 42 = w16
                have hw16 : f_X2_readOrder_vq19 v q = w16 := by subst hw0 hw13 hw14 hw15; subst hzw16; exact (f_X2_readOrder_vq19_eq v q)
                refine j_if_eq (tgt := 165) C dX2_readOrder_151 (by decide) (fun c151 => ?_) (fun c151 => ?_)
                · refine j_iconst (v := 0) C dX2_readOrder_165 (by decide) ?_
                  subst hw0 hw13 hw14 hw15 hw16; exact j_eq (by rw [show f_X2_readOrder_v22 v q = (f_X2_readOrder_vq19 v q) from ((f_X2_readOrder_v22_eq v q).trans ((if_neg c126).trans ((if_neg c135).trans ((if_neg c142).trans (if_pos c151)))))]) rfl (by rw [show f_X2_readOrder_x21 v q = 0 from ((f_X2_readOrder_x21_eq v q).trans ((if_neg c126).trans ((if_neg c135).trans ((if_neg c142).trans (if_pos c151)))))]) K166
                · refine j_aload_n C dX2_readOrder_154 0 rfl ?_
                  refine j_callV_i (r := f_X2_readSecond_r w16 q) (wc' := [oP a ga (f_X2_readSecond_v w16 q), aC G ga q]) C (m_X2_readSecond l G a ga w16 q) rfl 0 rfl 0 (gV kw_443 kw_444 kw_769 kw_6 kw_445) (by decide +kernel) ⟨(Nat.le_of_ble_eq_true rfl), (Nat.le_of_ble_eq_true rfl)⟩ rfl rfl (Nat.le_of_ble_eq_true rfl) dX2_readOrder_155 ⟨(Nat.le_of_ble_eq_true rfl), (Nat.le_of_ble_eq_true rfl)⟩ [] [oP a ga (f_X2_readSecond_v w16 q), aC G ga q] (perm_idx [0, 1] 2 rfl (by decide +kernel) rfl) rfl ?_
                  refine j_if_eq (tgt := 165) C dX2_readOrder_158 (by decide) (fun c158 => ?_) (fun c158 => ?_)
                  · refine j_iconst (v := 0) C dX2_readOrder_165 (by decide) ?_
                    subst hw0 hw13 hw14 hw15 hw16; exact j_eq (by rw [show f_X2_readOrder_v22 v q = f_X2_readSecond_v (f_X2_readOrder_vq19 v q) q from ((f_X2_readOrder_v22_eq v q).trans ((if_neg c126).trans ((if_neg c135).trans ((if_neg c142).trans (if_neg c151)))))]) rfl (by rw [show f_X2_readOrder_x21 v q = 0 from ((f_X2_readOrder_x21_eq v q).trans ((if_neg c126).trans ((if_neg c135).trans ((if_neg c142).trans ((if_neg c151).trans (if_pos c158))))))]) K166
                  · refine j_iconst (v := 1) C dX2_readOrder_161 (by decide) ?_
                    refine j_goto (tgt := 166) C dX2_readOrder_162 (by decide) ?_
                    subst hw0 hw13 hw14 hw15 hw16; exact j_eq (by rw [show f_X2_readOrder_v22 v q = f_X2_readSecond_v (f_X2_readOrder_vq19 v q) q from ((f_X2_readOrder_v22_eq v q).trans ((if_neg c126).trans ((if_neg c135).trans ((if_neg c142).trans (if_neg c151)))))]) rfl (by rw [show f_X2_readOrder_x21 v q = 1 from ((f_X2_readOrder_x21_eq v q).trans ((if_neg c126).trans ((if_neg c135).trans ((if_neg c142).trans ((if_neg c151).trans (if_neg c158))))))]) K166
        · by_cases c12_119 : w0 = 119
          · refine j_lookup (tgt := 93) C dX2_readOrder_12 rfl (by rw [c12_119] <;> rfl) (by decide) ?_
            refine j_aload_n C dX2_readOrder_93 0 rfl ?_
            refine j_callV_i (r := f_X2_readKindAndDrive_r (upd v 3 w0) q) (wc' := [oP a ga (f_X2_readKindAndDrive_v (upd v 3 w0) q), aC G ga q]) C (m_X2_readKindAndDrive l G a ga (upd v 3 w0) q) rfl 0 rfl 0 (gV kw_431 kw_432 kw_766 kw_6 kw_433) (by decide +kernel) ⟨(Nat.le_of_ble_eq_true rfl), (Nat.le_of_ble_eq_true rfl)⟩ rfl rfl (Nat.le_of_ble_eq_true rfl) dX2_readOrder_94 ⟨(Nat.le_of_ble_eq_true rfl), (Nat.le_of_ble_eq_true rfl)⟩ [] [oP a ga (f_X2_readKindAndDrive_v (upd v 3 w0) q), aC G ga q] (perm_idx [0, 1] 2 rfl (by decide +kernel) rfl) rfl ?_
            have K121 : WJ p l e (RM 3) s m args below meth c G A 1 0 0 Q ([oP a ga (f_X2_readOrder_v27 v q), aC G ga q]) [(0, .ref a)] 121 [.int (f_X2_readOrder_x26 v q)] := by
              generalize hw21 : f_X2_readOrder_x26 v q = w21
              generalize hw22 : f_X2_readOrder_v27 v q = w22
              subst hQ; subst hw0 hw21 hw22; exact j_zret C hr hk (by rw [f_X2_readOrder_x26_eq]; (repeat' split) <;> rfl) ((show f_X2_readOrder_r v q = (f_X2_readOrder_x26 v q) from ((f_X2_readOrder_r_eq v q).trans ((if_neg c12_103).trans ((if_neg c12_115).trans ((if_neg c12_116).trans ((if_neg c12_118).trans (if_pos c12_119))))))).symm) (by rw [show f_X2_readOrder_v v q = (f_X2_readOrder_v27 v q) from ((f_X2_readOrder_v_eq v q).trans ((if_neg c12_103).trans ((if_neg c12_115).trans ((if_neg c12_116).trans ((if_neg c12_118).trans (if_pos c12_119))))))]) dX2_readOrder_121
            refine j_if_eq (tgt := 120) C dX2_readOrder_97 (by decide) (fun c97 => ?_) (fun c97 => ?_)
            · refine j_iconst (v := 0) C dX2_readOrder_120 (by decide) ?_
              subst hw0; exact j_eq (by rw [show f_X2_readOrder_v27 v q = f_X2_readKindAndDrive_v (upd v 3 (f_X2_signHere_r v q)) q from ((f_X2_readOrder_v27_eq v q).trans (if_pos c97))]) rfl (by rw [show f_X2_readOrder_x26 v q = 0 from ((f_X2_readOrder_x26_eq v q).trans (if_pos c97))]) K121
            · refine j_aload_n C dX2_readOrder_100 0 rfl ?_
              refine j_bipush (v := 42) C dX2_readOrder_101 (by decide) ?_
              refine j_callV_i (r := f_X2_readSign_r (f_X2_readKindAndDrive_v (upd v 3 w0) q) q 42) (wc' := [oP a ga (f_X2_readSign_v (f_X2_readKindAndDrive_v (upd v 3 w0) q) q 42), aC G ga q]) C (m_X2_readSign l G a ga (f_X2_readKindAndDrive_v (upd v 3 w0) q) q 42) rfl 0 rfl 1 (gV kw_422 kw_423 kw_763 kw_6 kw_424) (by decide +kernel) ⟨(Nat.le_of_ble_eq_true rfl), (Nat.le_of_ble_eq_true rfl)⟩ rfl rfl (Nat.le_of_ble_eq_true rfl) dX2_readOrder_103 ⟨(Nat.le_of_ble_eq_true rfl), (Nat.le_of_ble_eq_true rfl)⟩ [] [oP a ga (f_X2_readSign_v (f_X2_readKindAndDrive_v (upd v 3 w0) q) q 42), aC G ga q] (perm_idx [0, 1] 2 rfl (by decide +kernel) rfl) rfl ?_
              generalize hzw19 : f_X2_readSign_r (f_X2_readKindAndDrive_v (upd v 3 w0) q) q 42 = w19
              have hw19 : f_X2_readOrder_rq24 v q = w19 := by subst hw0; subst hzw19; exact (f_X2_readOrder_rq24_eq v q)
              generalize hzw20 : f_X2_readSign_v (f_X2_readKindAndDrive_v (upd v 3 w0) q) q 42 = w20
              have hw20 : f_X2_readOrder_vq24 v q = w20 := by subst hw0 hw19; subst hzw20; exact (f_X2_readOrder_vq24_eq v q)
              refine j_if_eq (tgt := 120) C dX2_readOrder_106 (by decide) (fun c106 => ?_) (fun c106 => ?_)
              · refine j_iconst (v := 0) C dX2_readOrder_120 (by decide) ?_
                subst hw0 hw19 hw20; exact j_eq (by rw [show f_X2_readOrder_v27 v q = (f_X2_readOrder_vq24 v q) from ((f_X2_readOrder_v27_eq v q).trans ((if_neg c97).trans (if_pos c106)))]) rfl (by rw [show f_X2_readOrder_x26 v q = 0 from ((f_X2_readOrder_x26_eq v q).trans ((if_neg c97).trans (if_pos c106)))]) K121
              · refine j_aload_n C dX2_readOrder_109 0 rfl ?_
                refine j_callV_i (r := f_X2_readFirst_r w20 q) (wc' := [oP a ga (f_X2_readFirst_v w20 q), aC G ga q]) C (m_X2_readFirst l G a ga w20 q) rfl 0 rfl 0 (gV kw_434 kw_435 kw_767 kw_6 kw_436) (by decide +kernel) ⟨(Nat.le_of_ble_eq_true rfl), (Nat.le_of_ble_eq_true rfl)⟩ rfl rfl (Nat.le_of_ble_eq_true rfl) dX2_readOrder_110 ⟨(Nat.le_of_ble_eq_true rfl), (Nat.le_of_ble_eq_true rfl)⟩ [] [oP a ga (f_X2_readFirst_v w20 q), aC G ga q] (perm_idx [0, 1] 2 rfl (by decide +kernel) rfl) rfl ?_
                refine j_if_eq (tgt := 120) C dX2_readOrder_113 (by decide) (fun c113 => ?_) (fun c113 => ?_)
                · refine j_iconst (v := 0) C dX2_readOrder_120 (by decide) ?_
                  subst hw0 hw19 hw20; exact j_eq (by rw [show f_X2_readOrder_v27 v q = f_X2_readFirst_v (f_X2_readOrder_vq24 v q) q from ((f_X2_readOrder_v27_eq v q).trans ((if_neg c97).trans (if_neg c106)))]) rfl (by rw [show f_X2_readOrder_x26 v q = 0 from ((f_X2_readOrder_x26_eq v q).trans ((if_neg c97).trans ((if_neg c106).trans (if_pos c113))))]) K121
                · refine j_iconst (v := 1) C dX2_readOrder_116 (by decide) ?_
                  refine j_goto (tgt := 121) C dX2_readOrder_117 (by decide) ?_
                  subst hw0 hw19 hw20; exact j_eq (by rw [show f_X2_readOrder_v27 v q = f_X2_readFirst_v (f_X2_readOrder_vq24 v q) q from ((f_X2_readOrder_v27_eq v q).trans ((if_neg c97).trans (if_neg c106)))]) rfl (by rw [show f_X2_readOrder_x26 v q = 1 from ((f_X2_readOrder_x26_eq v q).trans ((if_neg c97).trans ((if_neg c106).trans (if_neg c113))))]) K121
          · have n12_103 : (w0).toInt ≠ 103 := fun h => c12_103 (Int32.toInt_inj.mp h)
            have n12_115 : (w0).toInt ≠ 115 := fun h => c12_115 (Int32.toInt_inj.mp h)
            have n12_116 : (w0).toInt ≠ 116 := fun h => c12_116 (Int32.toInt_inj.mp h)
            have n12_118 : (w0).toInt ≠ 118 := fun h => c12_118 (Int32.toInt_inj.mp h)
            have n12_119 : (w0).toInt ≠ 119 := fun h => c12_119 (Int32.toInt_inj.mp h)
            refine j_lookup (off := 177) (tgt := 189) C dX2_readOrder_12 rfl (by simp [Op.lookupswitch.offset, n12_103, n12_115, n12_116, n12_118, n12_119, Ne.symm n12_103, Ne.symm n12_115, Ne.symm n12_116, Ne.symm n12_118, Ne.symm n12_119]) (by decide) ?_
            refine j_iconst (v := 0) C dX2_readOrder_189 (by decide) ?_
            subst hQ; subst hw0; exact j_zret C hr hk rfl ((show f_X2_readOrder_r v q = 0 from ((f_X2_readOrder_r_eq v q).trans ((if_neg c12_103).trans ((if_neg c12_115).trans ((if_neg c12_116).trans ((if_neg c12_118).trans (if_neg c12_119))))))).symm) (by rw [show f_X2_readOrder_v v q = upd v 3 (f_X2_signHere_r v q) from ((f_X2_readOrder_v_eq v q).trans ((if_neg c12_103).trans ((if_neg c12_115).trans ((if_neg c12_116).trans ((if_neg c12_118).trans (if_neg c12_119))))))]) dX2_readOrder_190
theorem f_X2_readNext_x4_ex : ∃ F : (Nat → Int32) → (Nat → UInt16) → Int32, ∀ (v : Nat → Int32) (q : Nat → UInt16), F v q = (if v 2 = 0 then (if f_X2_readOrder_r v q = 0 then 0 else 1) else (if f_X2_readSign_r v q 59 = 0 then 0 else (if f_X2_readOrder_r (f_X2_readSign_v v q 59) q = 0 then 0 else 1))) := ⟨fun v q => (if v 2 = 0 then (if f_X2_readOrder_r v q = 0 then 0 else 1) else (if f_X2_readSign_r v q 59 = 0 then 0 else (if f_X2_readOrder_r (f_X2_readSign_v v q 59) q = 0 then 0 else 1))), fun _ _ => rfl⟩
noncomputable def f_X2_readNext_x4 : (Nat → Int32) → (Nat → UInt16) → Int32 := Classical.choose f_X2_readNext_x4_ex
theorem f_X2_readNext_x4_eq (v : Nat → Int32) (q : Nat → UInt16) : f_X2_readNext_x4 v q = (if v 2 = 0 then (if f_X2_readOrder_r v q = 0 then 0 else 1) else (if f_X2_readSign_r v q 59 = 0 then 0 else (if f_X2_readOrder_r (f_X2_readSign_v v q 59) q = 0 then 0 else 1))) := Classical.choose_spec f_X2_readNext_x4_ex v q
theorem f_X2_readNext_v5_ex : ∃ F : (Nat → Int32) → (Nat → UInt16) → (Nat → Int32), ∀ (v : Nat → Int32) (q : Nat → UInt16), F v q = (if v 2 = 0 then f_X2_readOrder_v v q else (if f_X2_readSign_r v q 59 = 0 then f_X2_readSign_v v q 59 else f_X2_readOrder_v (f_X2_readSign_v v q 59) q)) := ⟨fun v q => (if v 2 = 0 then f_X2_readOrder_v v q else (if f_X2_readSign_r v q 59 = 0 then f_X2_readSign_v v q 59 else f_X2_readOrder_v (f_X2_readSign_v v q 59) q)), fun _ _ => rfl⟩
noncomputable def f_X2_readNext_v5 : (Nat → Int32) → (Nat → UInt16) → (Nat → Int32) := Classical.choose f_X2_readNext_v5_ex
theorem f_X2_readNext_v5_eq (v : Nat → Int32) (q : Nat → UInt16) : f_X2_readNext_v5 v q = (if v 2 = 0 then f_X2_readOrder_v v q else (if f_X2_readSign_r v q 59 = 0 then f_X2_readSign_v v q 59 else f_X2_readOrder_v (f_X2_readSign_v v q 59) q)) := Classical.choose_spec f_X2_readNext_v5_ex v q
theorem f_X2_readNext_v_ex : ∃ F : (Nat → Int32) → (Nat → UInt16) → (Nat → Int32), ∀ (v : Nat → Int32) (q : Nat → UInt16), F v q = (f_X2_readNext_v5 v q) := ⟨fun v q => (f_X2_readNext_v5 v q), fun _ _ => rfl⟩
noncomputable def f_X2_readNext_v : (Nat → Int32) → (Nat → UInt16) → (Nat → Int32) := Classical.choose f_X2_readNext_v_ex
theorem f_X2_readNext_v_eq (v : Nat → Int32) (q : Nat → UInt16) : f_X2_readNext_v v q = (f_X2_readNext_v5 v q) := Classical.choose_spec f_X2_readNext_v_ex v q
theorem f_X2_readNext_r_ex : ∃ F : (Nat → Int32) → (Nat → UInt16) → Int32, ∀ (v : Nat → Int32) (q : Nat → UInt16), F v q = (f_X2_readNext_x4 v q) := ⟨fun v q => (f_X2_readNext_x4 v q), fun _ _ => rfl⟩
noncomputable def f_X2_readNext_r : (Nat → Int32) → (Nat → UInt16) → Int32 := Classical.choose f_X2_readNext_r_ex
theorem f_X2_readNext_r_eq (v : Nat → Int32) (q : Nat → UInt16) : f_X2_readNext_r v q = (f_X2_readNext_x4 v q) := Classical.choose_spec f_X2_readNext_r_ex v q
set_option maxRecDepth 100000 in
set_option maxHeartbeats 4000000 in
theorem m_X2_readNext (l : Launch) (G : GG) (a ga : Nat) (v : Nat → Int32) (q : Nat → UInt16)  : CtI l yX2_readNext cX2_readNext 1 (some .boolean) (RM 4) G [.ref a] ([oP a ga v, aC G ga q]) (f_X2_readNext_r v q) ([oP a ga (f_X2_readNext_v v q), aC G ga q]) := by
  refine ct_I RX2 [(0, .ref a)] rfl (by decide +kernel) (Nat.le_of_ble_eq_true rfl) rfl ?_
  intro p e s m args below meth c A C hr hk hnm
  generalize hQ : (MQ below (PostI G A (f_X2_readNext_r v q) ([oP a ga (f_X2_readNext_v v q), aC G ga q])) args s (RM 4).cells (RM 4).slots A) = Q
  refine j_aload_n C dX2_readNext_0 0 rfl ?_
  refine j_get C kin2 rfl 0 rfl 2 (by decide) kw_122 rfl (v := .int (v 2)) rfl dX2_readNext_1 ?_
  have K28 : WJ p l e (RM 4) s m args below meth c G A 1 0 0 Q ([oP a ga (f_X2_readNext_v5 v q), aC G ga q]) [(0, .ref a)] 28 [.int (f_X2_readNext_x4 v q)] := by
    generalize hw0 : f_X2_readNext_x4 v q = w0
    generalize hw1 : f_X2_readNext_v5 v q = w1
    subst hQ; subst hw0 hw1; exact j_zret C hr hk (by rw [f_X2_readNext_x4_eq]; (repeat' split) <;> rfl) ((show f_X2_readNext_r v q = (f_X2_readNext_x4 v q) from (f_X2_readNext_r_eq v q)).symm) (by rw [show f_X2_readNext_v v q = (f_X2_readNext_v5 v q) from (f_X2_readNext_v_eq v q)]) dX2_readNext_28
  refine j_if_eq (tgt := 16) C dX2_readNext_4 (by decide) (fun c4 => ?_) (fun c4 => ?_)
  · refine j_aload_n C dX2_readNext_16 0 rfl ?_
    refine j_callV_i (r := f_X2_readOrder_r v q) (wc' := [oP a ga (f_X2_readOrder_v v q), aC G ga q]) C (m_X2_readOrder l G a ga v q) rfl 0 rfl 0 (gV kw_428 kw_429 kw_765 kw_6 kw_430) (by decide +kernel) ⟨(Nat.le_of_ble_eq_true rfl), (Nat.le_of_ble_eq_true rfl)⟩ rfl rfl (Nat.le_of_ble_eq_true rfl) dX2_readNext_17 ⟨(Nat.le_of_ble_eq_true rfl), (Nat.le_of_ble_eq_true rfl)⟩ [] [oP a ga (f_X2_readOrder_v v q), aC G ga q] (perm_idx [0, 1] 2 rfl (by decide +kernel) rfl) rfl ?_
    refine j_if_eq (tgt := 27) C dX2_readNext_20 (by decide) (fun c20 => ?_) (fun c20 => ?_)
    · refine j_iconst (v := 0) C dX2_readNext_27 (by decide) ?_
      exact j_eq (by rw [show f_X2_readNext_v5 v q = f_X2_readOrder_v v q from ((f_X2_readNext_v5_eq v q).trans (if_pos c4))]) rfl (by rw [show f_X2_readNext_x4 v q = 0 from ((f_X2_readNext_x4_eq v q).trans ((if_pos c4).trans (if_pos c20)))]) K28
    · refine j_iconst (v := 1) C dX2_readNext_23 (by decide) ?_
      refine j_goto (tgt := 28) C dX2_readNext_24 (by decide) ?_
      exact j_eq (by rw [show f_X2_readNext_v5 v q = f_X2_readOrder_v v q from ((f_X2_readNext_v5_eq v q).trans (if_pos c4))]) rfl (by rw [show f_X2_readNext_x4 v q = 1 from ((f_X2_readNext_x4_eq v q).trans ((if_pos c4).trans (if_neg c20)))]) K28
  · refine j_aload_n C dX2_readNext_7 0 rfl ?_
    refine j_bipush (v := 59) C dX2_readNext_8 (by decide) ?_
    refine j_callV_i (r := f_X2_readSign_r v q 59) (wc' := [oP a ga (f_X2_readSign_v v q 59), aC G ga q]) C (m_X2_readSign l G a ga v q 59) rfl 0 rfl 1 (gV kw_422 kw_423 kw_763 kw_6 kw_424) (by decide +kernel) ⟨(Nat.le_of_ble_eq_true rfl), (Nat.le_of_ble_eq_true rfl)⟩ rfl rfl (Nat.le_of_ble_eq_true rfl) dX2_readNext_10 ⟨(Nat.le_of_ble_eq_true rfl), (Nat.le_of_ble_eq_true rfl)⟩ [] [oP a ga (f_X2_readSign_v v q 59), aC G ga q] (perm_idx [0, 1] 2 rfl (by decide +kernel) rfl) rfl ?_
    refine j_if_eq (tgt := 27) C dX2_readNext_13 (by decide) (fun c13 => ?_) (fun c13 => ?_)
    · refine j_iconst (v := 0) C dX2_readNext_27 (by decide) ?_
      exact j_eq (by rw [show f_X2_readNext_v5 v q = f_X2_readSign_v v q 59 from ((f_X2_readNext_v5_eq v q).trans ((if_neg c4).trans (if_pos c13)))]) rfl (by rw [show f_X2_readNext_x4 v q = 0 from ((f_X2_readNext_x4_eq v q).trans ((if_neg c4).trans (if_pos c13)))]) K28
    · refine j_aload_n C dX2_readNext_16 0 rfl ?_
      refine j_callV_i (r := f_X2_readOrder_r (f_X2_readSign_v v q 59) q) (wc' := [oP a ga (f_X2_readOrder_v (f_X2_readSign_v v q 59) q), aC G ga q]) C (m_X2_readOrder l G a ga (f_X2_readSign_v v q 59) q) rfl 0 rfl 0 (gV kw_428 kw_429 kw_765 kw_6 kw_430) (by decide +kernel) ⟨(Nat.le_of_ble_eq_true rfl), (Nat.le_of_ble_eq_true rfl)⟩ rfl rfl (Nat.le_of_ble_eq_true rfl) dX2_readNext_17 ⟨(Nat.le_of_ble_eq_true rfl), (Nat.le_of_ble_eq_true rfl)⟩ [] [oP a ga (f_X2_readOrder_v (f_X2_readSign_v v q 59) q), aC G ga q] (perm_idx [0, 1] 2 rfl (by decide +kernel) rfl) rfl ?_
      refine j_if_eq (tgt := 27) C dX2_readNext_20 (by decide) (fun c20 => ?_) (fun c20 => ?_)
      · refine j_iconst (v := 0) C dX2_readNext_27 (by decide) ?_
        exact j_eq (by rw [show f_X2_readNext_v5 v q = f_X2_readOrder_v (f_X2_readSign_v v q 59) q from ((f_X2_readNext_v5_eq v q).trans ((if_neg c4).trans (if_neg c13)))]) rfl (by rw [show f_X2_readNext_x4 v q = 0 from ((f_X2_readNext_x4_eq v q).trans ((if_neg c4).trans ((if_neg c13).trans (if_pos c20))))]) K28
      · refine j_iconst (v := 1) C dX2_readNext_23 (by decide) ?_
        refine j_goto (tgt := 28) C dX2_readNext_24 (by decide) ?_
        exact j_eq (by rw [show f_X2_readNext_v5 v q = f_X2_readOrder_v (f_X2_readSign_v v q 59) q from ((f_X2_readNext_v5_eq v q).trans ((if_neg c4).trans (if_neg c13)))]) rfl (by rw [show f_X2_readNext_x4 v q = 1 from ((f_X2_readNext_x4_eq v q).trans ((if_neg c4).trans ((if_neg c13).trans (if_neg c20))))]) K28
/-- the orders are read one after the other: the answer of the fault, and the pad's numbers then -/
noncomputable def faultF (q : Nat → UInt16) : Nat → (Nat → Int32) → Int32 × (Nat → Int32)
  | 0, v => (v 2, v)
  | n + 1, v => if f_X2_readNext_r v q = 0 then (f_X2_readNext_v v q 2, f_X2_readNext_v v q) else if f_X2_readNext_v v q 2 = f_X2_readNext_v v q 1 then (-6, f_X2_readNext_v v q) else faultF q n (f_X2_readNext_v v q)
noncomputable def signAt (ch : Int64) (n : Nat) : Int32 := (((ch.toUInt64 >>> ((8 * nI n).toInt64.toUInt64 &&& Int64.toUInt64 63)).toInt64 &&& 255).toInt32.toUInt32 % 65536).toInt32
/-- signs are appended, from the sign n - 1 of the number down, while there is room -/
noncomputable def runP (ch : Int64) : Nat → (Nat → Int32) × (Nat → UInt16) → (Nat → Int32) × (Nat → UInt16)
  | 0, s => s
  | n + 1, s => if 80 ≤ s.1 1 then s else runP ch n (upd s.1 1 (s.1 1 + 1), updC s.2 (s.1 1).toNatClampNeg (signAt ch n))
theorem inc_pos {x : Int32} (h0 : ¬ x < 0) (h1 : ¬ 80 ≤ x) : ¬ x + 1 < 0 := by
  obtain ⟨j, hj, rfl⟩ := vp_in_of (vin_of (n := 80) (N := 80) rfl h0 h1) (by decide)
  rw [nI_1]
  exact nI_pos (by omega)
set_option maxRecDepth 100000 in
set_option maxHeartbeats 4000000 in
theorem m_X2_firstFault (l : Launch) (G : GG) (a ga : Nat) (v : Nat → Int32) (q : Nat → UInt16)  : CtI l yX2_firstFault cX2_firstFault 2 (some .int) (RM 5) G [.ref a] ([oP a ga v, aC G ga q]) ((faultF q 80 (f_X2_begin_v v)).1) ([oP a ga ((faultF q 80 (f_X2_begin_v v)).2), aC G ga q]) := by
  refine ct_I RX2 [(0, .ref a)] rfl (by decide +kernel) (Nat.le_of_ble_eq_true rfl) rfl ?_
  intro p e s m args below meth c A C hr hk hnm
  generalize hQ : (MQ below (PostI G A ((faultF q 80 (f_X2_begin_v v)).1) ([oP a ga ((faultF q 80 (f_X2_begin_v v)).2), aC G ga q])) args s (RM 5).cells (RM 5).slots A) = Q
  refine j_aload_n C dX2_firstFault_0 0 rfl ?_
  refine j_callV_v (wc' := [oP a ga (f_X2_begin_v v)]) C (m_X2_begin l G a ga v) rfl 0 rfl 0 (gV kw_414 kw_415 kw_416 kw_6 kw_417) (by decide +kernel) ⟨(Nat.le_of_ble_eq_true rfl), (Nat.le_of_ble_eq_true rfl)⟩ rfl rfl (Nat.le_of_ble_eq_true rfl) dX2_firstFault_1 ⟨(Nat.le_of_ble_eq_true rfl), (Nat.le_of_ble_eq_true rfl)⟩ [aC G ga q] [oP a ga (f_X2_begin_v v), aC G ga q] (perm_idx [0, 1] 2 rfl (by decide +kernel) rfl) rfl ?_
  refine j_iconst (v := 0) C dX2_firstFault_4 (by decide) ?_
  refine j_istore_n C [(1, .int 0), (0, .ref a)] dX2_firstFault_5 (by decide) rfl ?_
  have L2 : ∀ (n : Nat) (vv : Nat → Int32), n ≤ 80 → faultF q n vv = faultF q 80 (f_X2_begin_v v) → WJ p l e (RM 5) s m args below meth c G A 2 0 0 Q ([oP a ga vv, aC G ga q]) [(1, .int (nI (80 - n))), (0, .ref a)] 6 [] := by
    intro n
    induction n with
    | zero =>
      intro vv hn hx
      refine j_iload_n C dX2_firstFault_6 0 rfl ?_
      refine j_bipush (v := 80) C dX2_firstFault_7 (by decide) ?_
      refine j_icmp_ge (tgt := 39) C dX2_firstFault_9 (by decide) (fun c9 => ?_) (fun h => absurd (by decide) h)
      refine j_aload_n C dX2_firstFault_39 1 rfl ?_
      refine j_get C kin2 rfl 0 rfl 2 (by decide) kw_122 rfl (v := .int (vv 2)) rfl dX2_firstFault_40 ?_
      subst hQ; exact j_iret C hr hk (show vv 2 = ((faultF q 80 (f_X2_begin_v v)).1) from (by rw [← hx]; rfl)) (by rw [show ((faultF q 80 (f_X2_begin_v v)).2) = vv from (by rw [← hx]; rfl)]) dX2_firstFault_43
    | succ n ih =>
      intro vv hn hx
      refine j_iload_n C dX2_firstFault_6 0 rfl ?_
      refine j_bipush (v := 80) C dX2_firstFault_7 (by decide) ?_
      refine j_icmp_ge (tgt := 39) C dX2_firstFault_9 (by decide) (fun h => absurd h (nI_ge (b := 80) (by omega) (by decide))) (fun c9 => ?_)
      refine j_aload_n C dX2_firstFault_12 1 rfl ?_
      refine j_callV_i (r := f_X2_readNext_r vv q) (wc' := [oP a ga (f_X2_readNext_v vv q), aC G ga q]) C (m_X2_readNext l G a ga vv q) rfl 0 rfl 0 (gV kw_418 kw_419 kw_420 kw_6 kw_421) (by decide +kernel) ⟨(Nat.le_of_ble_eq_true rfl), (Nat.le_of_ble_eq_true rfl)⟩ rfl rfl (Nat.le_of_ble_eq_true rfl) dX2_firstFault_13 ⟨(Nat.le_of_ble_eq_true rfl), (Nat.le_of_ble_eq_true rfl)⟩ [] [oP a ga (f_X2_readNext_v vv q), aC G ga q] (perm_idx [0, 1] 2 rfl (by decide +kernel) rfl) rfl ?_
      refine j_if_eq (tgt := 39) C dX2_firstFault_16 (by decide) (fun c16 => ?_) (fun c16 => ?_)
      · refine j_aload_n C dX2_firstFault_39 1 rfl ?_
        refine j_get C kin2 rfl 0 rfl 2 (by decide) kw_122 rfl (v := .int ((f_X2_readNext_v vv q) 2)) rfl dX2_firstFault_40 ?_
        subst hQ; exact j_iret C hr hk (show (f_X2_readNext_v vv q) 2 = ((faultF q 80 (f_X2_begin_v v)).1) from (by rw [← hx, faultF, if_pos c16])) (by rw [show ((faultF q 80 (f_X2_begin_v v)).2) = (f_X2_readNext_v vv q) from (by rw [← hx, faultF, if_pos c16])]) dX2_firstFault_43
      · refine j_aload_n C dX2_firstFault_19 1 rfl ?_
        refine j_get C kin2 rfl 0 rfl 2 (by decide) kw_122 rfl (v := .int ((f_X2_readNext_v vv q) 2)) rfl dX2_firstFault_20 ?_
        refine j_aload_n C dX2_firstFault_23 1 rfl ?_
        refine j_get C kin2 rfl 0 rfl 1 (by decide) kw_120 rfl (v := .int ((f_X2_readNext_v vv q) 1)) rfl dX2_firstFault_24 ?_
        refine j_icmp_ne (tgt := 33) C dX2_firstFault_27 (by decide) (fun c27 => ?_) (fun c27 => ?_)
        · refine j_iinc (v := (nI (80 - (n + 1))) + 1) C [(1, .int ((nI (80 - (n + 1))) + 1)), (0, .ref a)] dX2_firstFault_33 (k := 0) rfl rfl (by decide) rfl ?_
          refine j_goto (tgt := 6) C dX2_firstFault_36 (by decide) ?_
          exact j_eq rfl (by rw [show nI (80 - n) = (nI (80 - (n + 1))) + 1 from (by rw [nI_1, show 80 - (n + 1) + 1 = 80 - n by omega])]) rfl (ih (f_X2_readNext_v vv q) (by omega) (by rw [faultF, if_neg c16, if_neg c27] at hx; exact hx))
        · refine j_bipush (v := (-6)) C dX2_firstFault_30 (by decide) ?_
          subst hQ; exact j_iret C hr hk (show (-6) = ((faultF q 80 (f_X2_begin_v v)).1) from (by rw [← hx, faultF, if_neg c16, if_pos c27])) (by rw [show ((faultF q 80 (f_X2_begin_v v)).2) = (f_X2_readNext_v vv q) from (by rw [← hx, faultF, if_neg c16, if_pos c27])]) dX2_firstFault_32
  exact j_eq rfl (by rw [show nI (80 - 80) = 0 from (by decide)]) rfl (L2 80 (f_X2_begin_v v) (by omega) rfl)
set_option maxRecDepth 100000 in
set_option maxHeartbeats 4000000 in
theorem m_X2_append (l : Launch) (G : GG) (a ga : Nat) (v : Nat → Int32) (q : Nat → UInt16) (ch : Int64) (k : Int32) (hkk : nI k.toNatClampNeg = k) (hk8 : k.toNatClampNeg ≤ 8) (hv : ¬ v 1 < 0) : CtV l yX2_append cX2_append 5 (none : Option Jvm.ClassFile.FieldType) (RM 0) G [.ref a, .long ch, .int k] ([oP a ga v, aC G ga q]) ([oP a ga ((runP ch k.toNatClampNeg (v, q)).1), aC G ga ((runP ch k.toNatClampNeg (v, q)).2)]) := by
  refine ct_V RX2 [(0, .ref a), (1, .long ch), (3, .int k)] rfl (by decide +kernel) (Nat.le_of_ble_eq_true rfl) rfl ?_
  intro p e s m args below meth c A C hr hk hnm
  generalize hQ : (MQ below (PostV G A ([oP a ga ((runP ch k.toNatClampNeg (v, q)).1), aC G ga ((runP ch k.toNatClampNeg (v, q)).2)])) args s (RM 0).cells (RM 0).slots A) = Q
  refine j_iload_n C dX2_append_0 2 rfl ?_
  refine j_iconst (v := 1) C dX2_append_1 (by decide) ?_
  refine j_isub C dX2_append_2 rfl ?_
  refine j_istore C [(4, .int (k - 1)), (0, .ref a), (1, .long ch), (3, .int k)] dX2_append_3 (by decide) rfl ?_
  have L1 : ∀ (n : Nat) (vv : Nat → Int32) (qq : Nat → UInt16), n ≤ 8 → ¬ vv 1 < 0 → runP ch n (vv, qq) = runP ch k.toNatClampNeg (v, q) → WJ p l e (RM 0) s m args below meth c G A 5 0 0 Q ([oP a ga vv, aC G ga qq]) [(4, .int (nI n + (-1))), (0, .ref a), (1, .long ch), (3, .int k)] 5 [] := by
    intro n
    induction n with
    | zero =>
      intro vv qq hn hv2 hx
      refine j_eq rfl (by rw [show nI 0 + (-1) = (-1) from (by decide)]) rfl ?_
      refine j_iload C dX2_append_5 0 rfl ?_
      refine j_if_lt (tgt := 57) C dX2_append_7 (by decide) (fun _ => ?_) (fun h => absurd h (by decide))
      subst hQ; exact j_vret C hr hk (by rw [show ((runP ch k.toNatClampNeg (v, q)).1) = vv from (by rw [← hx]; rfl), show ((runP ch k.toNatClampNeg (v, q)).2) = qq from (by rw [← hx]; rfl)]) dX2_append_57
    | succ n ih =>
      intro vv qq hn hv2 hx
      refine j_eq rfl (by rw [show nI (n + 1) + (-1) = nI n from (pk_m1 n)]) rfl ?_
      refine j_iload C dX2_append_5 0 rfl ?_
      refine j_if_lt (tgt := 57) C dX2_append_7 (by decide) (fun h => absurd h (nI_pos (by omega))) (fun c7 => ?_)
      refine j_aload_n C dX2_append_10 1 rfl ?_
      refine j_get C kin2 rfl 0 rfl 1 (by decide) kw_120 rfl (v := .int (vv 1)) rfl dX2_append_11 ?_
      refine j_bipush (v := 80) C dX2_append_14 (by decide) ?_
      refine j_icmp_ge (tgt := 57) C dX2_append_16 (by decide) (fun c16 => ?_) (fun c16 => ?_)
      · subst hQ; exact j_vret C hr hk (by rw [show ((runP ch k.toNatClampNeg (v, q)).1) = vv from (by rw [← hx, runP, if_pos c16]), show ((runP ch k.toNatClampNeg (v, q)).2) = qq from (by rw [← hx, runP, if_pos c16])]) dX2_append_57
      · refine j_aload_n C dX2_append_19 1 rfl ?_
        refine j_get C kin2 rfl 0 rfl 0 (by decide) kw_119 rfl (v := .ref ga) rfl dX2_append_20 ?_
        refine j_aload_n C dX2_append_23 1 rfl ?_
        refine j_get C kin2 rfl 0 rfl 1 (by decide) kw_120 rfl (v := .int (vv 1)) rfl dX2_append_24 ?_
        refine j_lload_n C dX2_append_27 2 rfl ?_
        refine j_bipush (v := 8) C dX2_append_28 (by decide) ?_
        refine j_iload C dX2_append_30 0 rfl ?_
        refine j_imul C dX2_append_32 rfl ?_
        refine j_lushr C dX2_append_33 ?_
        refine j_ldc2 (v := 255) C kw_401 dX2_append_34 ?_
        refine j_land C dX2_append_37 rfl ?_
        refine j_l2i C dX2_append_38 rfl ?_
        refine j_i2c C dX2_append_39 rfl ?_
        generalize hw0 : (((((ch.toUInt64 >>> ((8 * (nI n)).toInt64.toUInt64 &&& Int64.toUInt64 63)).toInt64) &&& 255).toInt32).toUInt32 % 65536).toInt32 = w0
        refine j_castC C 1 rfl (vin_of (N := 80) rfl hv2 c16) ([oP a ga vv, aC G ga (updC qq (vv 1).toNatClampNeg w0)]) rfl dX2_append_40 ?_
        refine j_aload_n C dX2_append_41 1 rfl ?_
        refine j_dup C dX2_append_42 rfl ?_
        refine j_get C kin2 rfl 0 rfl 1 (by decide) kw_120 rfl (v := .int (vv 1)) rfl dX2_append_43 ?_
        refine j_iconst (v := 1) C dX2_append_46 (by decide) ?_
        refine j_iadd C dX2_append_47 rfl ?_
        generalize hw1 : (vv 1) + 1 = w1
        refine j_put C kin2 rfl 0 rfl 1 (by decide) kw_120 rfl tyX2 tyX2_ok nmX2 rfl rfl rfl (Nat.le_of_ble_eq_true rfl) ([oP a ga (upd vv 1 w1), aC G ga (updC qq (vv 1).toNatClampNeg w0)]) rfl dX2_append_48 ?_
        refine j_iinc (v := (nI n) + (-1)) C [(4, .int ((nI n) + (-1))), (0, .ref a), (1, .long ch), (3, .int k)] dX2_append_51 (k := 0) rfl rfl (by decide) rfl ?_
        refine j_goto (tgt := 5) C dX2_append_54 (by decide) ?_
        subst hw0 hw1; exact j_eq rfl (by rw [show nI n + (-1) = (nI n) + (-1) from rfl]) rfl (ih (upd vv 1 ((vv 1) + 1)) (updC qq (vv 1).toNatClampNeg ((((((ch.toUInt64 >>> ((8 * (nI n)).toInt64.toUInt64 &&& Int64.toUInt64 63)).toInt64) &&& 255).toInt32).toUInt32 % 65536).toInt32)) (by omega) (inc_pos hv2 c16) (by rw [runP, if_neg c16] at hx; exact hx))
  exact j_eq rfl (by rw [show nI k.toNatClampNeg + (-1) = k - 1 from (by rw [hkk, Int32.sub_eq_add_neg])]) rfl (L1 k.toNatClampNeg v q hk8 hv rfl)
