/-! THE LAW: its own methods -/
/-- the rest of a number made positive -/
def lowF (v n : Int32) : Int32 := (v &&& 2147483647) - (v &&& 2147483647) / n * n
set_option maxRecDepth 100000 in
set_option maxHeartbeats 4000000 in
theorem m_L_low (l : Launch) (G : GG) (x : Int32) (n : Int32) (hn : ¬ n = 0) : CtI l yL_low cL_low 2 (some .int) (RM 0) G [.int x, .int n] ([]) (lowF x n) ([]) := by
  refine ct_I RL [(0, .int x), (1, .int n)] rfl (by decide +kernel) (Nat.le_of_ble_eq_true rfl) rfl ?_
  intro p e s m args below meth c A C hr hk hnm
  generalize hQ : (MQ below (PostI G A (lowF x n) ([])) args s (RM 0).cells (RM 0).slots A) = Q
  refine j_iload_n C dL_low_0 0 rfl ?_
  refine j_ldc (v := 2147483647) C kw_260 dL_low_1 ?_
  refine j_iand C dL_low_3 rfl ?_
  refine j_iload_n C dL_low_4 1 rfl ?_
  refine j_irem C dL_low_5 hn rfl ?_
  subst hQ; exact j_iret C hr hk (show (x &&& 2147483647) - (x &&& 2147483647) / n * n = (lowF x n) from rfl) rfl dL_low_6
set_option maxRecDepth 100000 in
set_option maxHeartbeats 4000000 in
theorem m_L_cell (l : Launch) (G : GG) (z : Nat → Int32) (k : Int32) (hz : scr G = z) (hin : vp_in k (G.2.2 4)) (hL : ¬ nI (G.2.2 4) ≤ k) : CtI l yL_cell cL_cell 2 (some .int) (RM 0) G [.ref (G.2.2 3), .int k] ([]) (z k.toNatClampNeg) ([]) := by
  refine ct_I RL [(0, .ref (G.2.2 3)), (1, .int k)] rfl (by decide +kernel) (Nat.le_of_ble_eq_true rfl) rfl ?_
  intro p e s m args below meth c A C hr hk hnm
  generalize hQ : (MQ below (PostI G A (z k.toNatClampNeg) ([])) args s (RM 0).cells (RM 0).slots A) = Q
  refine j_iload_n C dL_cell_0 1 rfl ?_
  refine j_aload_n C dL_cell_1 0 rfl ?_
  refine j_slen C dL_cell_2 ?_
  refine j_icmp_ge (tgt := 12) C dL_cell_3 (by decide) (fun h => absurd h hL) (fun c3 => ?_)
  refine j_aload_n C dL_cell_6 0 rfl ?_
  refine j_iload_n C dL_cell_7 1 rfl ?_
  refine j_sld C hin (v := z k.toNatClampNeg) (by rw [hz]) dL_cell_8 ?_
  refine j_goto (tgt := 20) C dL_cell_9 (by decide) ?_
  subst hQ; exact j_iret C hr hk rfl rfl dL_cell_20
noncomputable def f_L_act_rq8 (h : Nat → Int32) (sv : Nat → StV) (xp : StV) (w : Nat → Int32) (z : Nat → Int32) (k : Int32) : Int32 := f_X4_sell_r h sv xp (lowF (z (k + 1).toNatClampNeg) 4) ((f_X4_count_r h xp w 1) + (lowF (z (k + 2).toNatClampNeg) 3))
noncomputable def f_L_act_hq8 (h : Nat → Int32) (sv : Nat → StV) (xp : StV) (w : Nat → Int32) (z : Nat → Int32) (k : Int32) : (Nat → Int32) := f_X4_sell_h h sv xp (lowF (z (k + 1).toNatClampNeg) 4) ((f_X4_count_r h xp w 1) + (lowF (z (k + 2).toNatClampNeg) 3))
noncomputable def f_L_act_svq8 (h : Nat → Int32) (sv : Nat → StV) (xp : StV) (w : Nat → Int32) (z : Nat → Int32) (k : Int32) : Nat → StV := f_X4_sell_sv h sv xp (lowF (z (k + 1).toNatClampNeg) 4) ((f_X4_count_r h xp w 1) + (lowF (z (k + 2).toNatClampNeg) 3))
noncomputable def f_L_act_xpq8 (h : Nat → Int32) (sv : Nat → StV) (xp : StV) (w : Nat → Int32) (z : Nat → Int32) (k : Int32) : StV := f_X4_sell_xp h sv xp (lowF (z (k + 1).toNatClampNeg) 4) ((f_X4_count_r h xp w 1) + (lowF (z (k + 2).toNatClampNeg) 3))
noncomputable def f_L_act_rq11 (h : Nat → Int32) (sv : Nat → StV) (xp : StV) (w : Nat → Int32) (z : Nat → Int32) (k : Int32) : Int32 := f_X4_giveBack_r h sv xp (lowF (z (k + 1).toNatClampNeg) 4) ((f_X4_count_r h xp w 1) + (lowF (z (k + 2).toNatClampNeg) 3))
noncomputable def f_L_act_hq11 (h : Nat → Int32) (sv : Nat → StV) (xp : StV) (w : Nat → Int32) (z : Nat → Int32) (k : Int32) : (Nat → Int32) := f_X4_giveBack_h h sv xp (lowF (z (k + 1).toNatClampNeg) 4) ((f_X4_count_r h xp w 1) + (lowF (z (k + 2).toNatClampNeg) 3))
noncomputable def f_L_act_svq11 (h : Nat → Int32) (sv : Nat → StV) (xp : StV) (w : Nat → Int32) (z : Nat → Int32) (k : Int32) : Nat → StV := f_X4_giveBack_sv h sv xp (lowF (z (k + 1).toNatClampNeg) 4) ((f_X4_count_r h xp w 1) + (lowF (z (k + 2).toNatClampNeg) 3))
noncomputable def f_L_act_xpq11 (h : Nat → Int32) (sv : Nat → StV) (xp : StV) (w : Nat → Int32) (z : Nat → Int32) (k : Int32) : StV := f_X4_giveBack_xp h sv xp (lowF (z (k + 1).toNatClampNeg) 4) ((f_X4_count_r h xp w 1) + (lowF (z (k + 2).toNatClampNeg) 3))
noncomputable def f_L_act_rq15 (h : Nat → Int32) (sv : Nat → StV) (xp : StV) (w : Nat → Int32) (z : Nat → Int32) (k : Int32) : Int32 := f_X4_stream_r h sv xp (lowF (z (k + 1).toNatClampNeg) 4) (1 + (lowF (z (k + 2).toNatClampNeg) 9)) (lowF (z (k + 3).toNatClampNeg) 8)
noncomputable def f_L_act_hq15 (h : Nat → Int32) (sv : Nat → StV) (xp : StV) (w : Nat → Int32) (z : Nat → Int32) (k : Int32) : (Nat → Int32) := f_X4_stream_h h sv xp (lowF (z (k + 1).toNatClampNeg) 4) (1 + (lowF (z (k + 2).toNatClampNeg) 9)) (lowF (z (k + 3).toNatClampNeg) 8)
noncomputable def f_L_act_svq15 (h : Nat → Int32) (sv : Nat → StV) (xp : StV) (w : Nat → Int32) (z : Nat → Int32) (k : Int32) : Nat → StV := f_X4_stream_sv h sv xp (lowF (z (k + 1).toNatClampNeg) 4) (1 + (lowF (z (k + 2).toNatClampNeg) 9)) (lowF (z (k + 3).toNatClampNeg) 8)
noncomputable def f_L_act_xpq15 (h : Nat → Int32) (sv : Nat → StV) (xp : StV) (w : Nat → Int32) (z : Nat → Int32) (k : Int32) : StV := f_X4_stream_xp h sv xp (lowF (z (k + 1).toNatClampNeg) 4) (1 + (lowF (z (k + 2).toNatClampNeg) 9)) (lowF (z (k + 3).toNatClampNeg) 8)
noncomputable def f_L_act_rq19 (h : Nat → Int32) (sv : Nat → StV) (xp : StV) (w : Nat → Int32) (z : Nat → Int32) (k : Int32) : Int32 := f_X4_set_r h sv xp (3 + (lowF (z (k + 2).toNatClampNeg) 4)) (1 + (lowF (z (k + 3).toNatClampNeg) 20))
noncomputable def f_L_act_hq19 (h : Nat → Int32) (sv : Nat → StV) (xp : StV) (w : Nat → Int32) (z : Nat → Int32) (k : Int32) : (Nat → Int32) := f_X4_set_h h sv xp (3 + (lowF (z (k + 2).toNatClampNeg) 4)) (1 + (lowF (z (k + 3).toNatClampNeg) 20))
noncomputable def f_L_act_svq19 (h : Nat → Int32) (sv : Nat → StV) (xp : StV) (w : Nat → Int32) (z : Nat → Int32) (k : Int32) : Nat → StV := f_X4_set_sv h sv xp (3 + (lowF (z (k + 2).toNatClampNeg) 4)) (1 + (lowF (z (k + 3).toNatClampNeg) 20))
noncomputable def f_L_act_xpq19 (h : Nat → Int32) (sv : Nat → StV) (xp : StV) (w : Nat → Int32) (z : Nat → Int32) (k : Int32) : StV := f_X4_set_xp h sv xp (3 + (lowF (z (k + 2).toNatClampNeg) 4)) (1 + (lowF (z (k + 3).toNatClampNeg) 20))
noncomputable def f_L_act_rq21 (h : Nat → Int32) (sv : Nat → StV) (xp : StV) (w : Nat → Int32) (z : Nat → Int32) (k : Int32) : Int32 := f_X4_write_r h sv xp (lowF (z (k + 1).toNatClampNeg) 4) (1 + (lowF (z (k + 2).toNatClampNeg) 70))
noncomputable def f_L_act_hq21 (h : Nat → Int32) (sv : Nat → StV) (xp : StV) (w : Nat → Int32) (z : Nat → Int32) (k : Int32) : (Nat → Int32) := f_X4_write_h h sv xp (lowF (z (k + 1).toNatClampNeg) 4) (1 + (lowF (z (k + 2).toNatClampNeg) 70))
noncomputable def f_L_act_svq21 (h : Nat → Int32) (sv : Nat → StV) (xp : StV) (w : Nat → Int32) (z : Nat → Int32) (k : Int32) : Nat → StV := f_X4_write_sv h sv xp (lowF (z (k + 1).toNatClampNeg) 4) (1 + (lowF (z (k + 2).toNatClampNeg) 70))
noncomputable def f_L_act_xpq21 (h : Nat → Int32) (sv : Nat → StV) (xp : StV) (w : Nat → Int32) (z : Nat → Int32) (k : Int32) : StV := f_X4_write_xp h sv xp (lowF (z (k + 1).toNatClampNeg) 4) (1 + (lowF (z (k + 2).toNatClampNeg) 70))
noncomputable def f_L_act_h (h : Nat → Int32) (sv : Nat → StV) (xp : StV) (w : Nat → Int32) (z : Nat → Int32) (k : Int32) : (Nat → Int32) := (if lowF (z k.toNatClampNeg) 6 = 0 then (f_L_act_hq8 h sv xp w z k) else (if lowF (z k.toNatClampNeg) 6 = 1 then (f_L_act_hq11 h sv xp w z k) else (if lowF (z k.toNatClampNeg) 6 = 2 then (f_L_act_hq15 h sv xp w z k) else (if lowF (z k.toNatClampNeg) 6 = 3 then (f_L_act_hq19 h sv xp w z k) else (f_L_act_hq21 h sv xp w z k)))))
noncomputable def f_L_act_sv (h : Nat → Int32) (sv : Nat → StV) (xp : StV) (w : Nat → Int32) (z : Nat → Int32) (k : Int32) : (Nat → StV) := (if lowF (z k.toNatClampNeg) 6 = 0 then (f_L_act_svq8 h sv xp w z k) else (if lowF (z k.toNatClampNeg) 6 = 1 then (f_L_act_svq11 h sv xp w z k) else (if lowF (z k.toNatClampNeg) 6 = 2 then (f_L_act_svq15 h sv xp w z k) else (if lowF (z k.toNatClampNeg) 6 = 3 then (f_L_act_svq19 h sv xp w z k) else (f_L_act_svq21 h sv xp w z k)))))
noncomputable def f_L_act_xp (h : Nat → Int32) (sv : Nat → StV) (xp : StV) (w : Nat → Int32) (z : Nat → Int32) (k : Int32) : StV := (if lowF (z k.toNatClampNeg) 6 = 0 then (f_L_act_xpq8 h sv xp w z k) else (if lowF (z k.toNatClampNeg) 6 = 1 then (f_L_act_xpq11 h sv xp w z k) else (if lowF (z k.toNatClampNeg) 6 = 2 then (f_L_act_xpq15 h sv xp w z k) else (if lowF (z k.toNatClampNeg) 6 = 3 then (f_L_act_xpq19 h sv xp w z k) else (f_L_act_xpq21 h sv xp w z k)))))
noncomputable def f_L_act_r (h : Nat → Int32) (sv : Nat → StV) (xp : StV) (w : Nat → Int32) (z : Nat → Int32) (k : Int32) : Int32 := (if lowF (z k.toNatClampNeg) 6 = 0 then (f_L_act_rq8 h sv xp w z k) else (if lowF (z k.toNatClampNeg) 6 = 1 then (f_L_act_rq11 h sv xp w z k) else (if lowF (z k.toNatClampNeg) 6 = 2 then (f_L_act_rq15 h sv xp w z k) else (if lowF (z k.toNatClampNeg) 6 = 3 then (f_L_act_rq19 h sv xp w z k) else (f_L_act_rq21 h sv xp w z k)))))
set_option maxRecDepth 100000 in
set_option maxHeartbeats 4000000 in
theorem m_L_act (l : Launch) (G : GG) (a hi sl su pa ha ga : Nat) (AP AT AU : Nat → Nat) (AH : Nat → Nat → Nat) (h : Nat → Int32) (sv : Nat → StV) (xp : StV) (w : Nat → Int32) (z : Nat → Int32) (k : Int32) (h7 : vp_in (h 1) 7) (hz : scr G = z) (k0 : vp_in k (G.2.2 4)) (l0 : ¬ nI (G.2.2 4) ≤ k) (k1 : vp_in (k + 1) (G.2.2 4)) (l1 : ¬ nI (G.2.2 4) ≤ k + 1) (k2 : vp_in (k + 2) (G.2.2 4)) (l2 : ¬ nI (G.2.2 4) ≤ k + 2) (k3 : vp_in (k + 3) (G.2.2 4)) (l3 : ¬ nI (G.2.2 4) ≤ k + 3) : CtI l yL_act cL_act 5 (some .int) (RM 5) G [.ref a, .ref (G.2.2 3), .int k] (fl [[oX a (AP 0) hi sl su pa (AT 0) (AU 0)], [oH hi ha h], [aS G ha 7 (fun k => some (AH k 0))], cMany G AH sv 7, cSt G AP xp, [oP pa ga w]]) (f_L_act_r h sv xp w z k) (fl [[oX a (AP 0) hi sl su pa (AT 0) (AU 0)], [oH hi ha (f_L_act_h h sv xp w z k)], [aS G ha 7 (fun k => some (AH k 0))], cMany G AH (f_L_act_sv h sv xp w z k) 7, cSt G AP (f_L_act_xp h sv xp w z k), [oP pa ga w]]) := by
  refine ct_I RL [(0, .ref a), (1, .ref (G.2.2 3)), (2, .int k)] rfl (by decide +kernel) (Nat.le_of_ble_eq_true rfl) rfl ?_
  intro p e s m args below meth c A C hr hk hnm
  generalize hQ : (MQ below (PostI G A (f_L_act_r h sv xp w z k) (fl [[oX a (AP 0) hi sl su pa (AT 0) (AU 0)], [oH hi ha (f_L_act_h h sv xp w z k)], [aS G ha 7 (fun k => some (AH k 0))], cMany G AH (f_L_act_sv h sv xp w z k) 7, cSt G AP (f_L_act_xp h sv xp w z k), [oP pa ga w]])) args s (RM 5).cells (RM 5).slots A) = Q
  refine j_perm (fl [[oX a (AP 0) hi sl su pa (AT 0) (AU 0)], [oH hi ha h], [aS G ha 7 (fun k => some (AH k 0))], [oP pa ga w], cMany G AH sv 7, cSt G AP xp]) (bperm [0, 1, 2, 5, 3, 4] 6 rfl (by decide +kernel) rfl) ?_
  refine j_aload_n C dL_act_0 1 rfl ?_
  refine j_iload_n C dL_act_1 2 rfl ?_
  refine j_iconst (v := 1) C dL_act_2 (by decide) ?_
  refine j_iadd C dL_act_3 rfl ?_
  refine j_pureS_i (r := z (k + 1).toNatClampNeg) C (m_L_cell l G z (k + 1) hz k1 l1) 2 (gS kw_261 kw_262 kw_0 kw_263) (by decide +kernel) ⟨(Nat.le_of_ble_eq_true rfl), (Nat.le_of_ble_eq_true rfl)⟩ rfl rfl (Nat.le_of_ble_eq_true rfl) dL_act_4 ⟨(Nat.le_of_ble_eq_true rfl), (Nat.le_of_ble_eq_true rfl)⟩ ?_
  refine j_iconst (v := 4) C dL_act_7 (by decide) ?_
  refine j_pureS_i (r := lowF (z (k + 1).toNatClampNeg) 4) C (m_L_low l G (z (k + 1).toNatClampNeg) 4 (by decide)) 2 (gS kw_257 kw_258 kw_0 kw_259) (by decide +kernel) ⟨(Nat.le_of_ble_eq_true rfl), (Nat.le_of_ble_eq_true rfl)⟩ rfl rfl (Nat.le_of_ble_eq_true rfl) dL_act_8 ⟨(Nat.le_of_ble_eq_true rfl), (Nat.le_of_ble_eq_true rfl)⟩ ?_
  refine j_istore_n C [(3, .int (lowF (z (k + 1).toNatClampNeg) 4)), (0, .ref a), (1, .ref (G.2.2 3)), (2, .int k)] dL_act_11 (by decide) rfl ?_
  refine j_aload_n C dL_act_12 2 rfl ?_
  refine j_iload_n C dL_act_13 3 rfl ?_
  refine j_iconst (v := 2) C dL_act_14 (by decide) ?_
  refine j_iadd C dL_act_15 rfl ?_
  refine j_pureS_i (r := z (k + 2).toNatClampNeg) C (m_L_cell l G z (k + 2) hz k2 l2) 2 (gS kw_261 kw_262 kw_0 kw_263) (by decide +kernel) ⟨(Nat.le_of_ble_eq_true rfl), (Nat.le_of_ble_eq_true rfl)⟩ rfl rfl (Nat.le_of_ble_eq_true rfl) dL_act_16 ⟨(Nat.le_of_ble_eq_true rfl), (Nat.le_of_ble_eq_true rfl)⟩ ?_
  refine j_istore C [(4, .int (z (k + 2).toNatClampNeg)), (3, .int (lowF (z (k + 1).toNatClampNeg) 4)), (0, .ref a), (1, .ref (G.2.2 3)), (2, .int k)] dL_act_19 (by decide) rfl ?_
  refine j_aload_n C dL_act_21 3 rfl ?_
  refine j_iload_n C dL_act_22 4 rfl ?_
  refine j_pureS_i (r := z k.toNatClampNeg) C (m_L_cell l G z k hz k0 l0) 2 (gS kw_261 kw_262 kw_0 kw_263) (by decide +kernel) ⟨(Nat.le_of_ble_eq_true rfl), (Nat.le_of_ble_eq_true rfl)⟩ rfl rfl (Nat.le_of_ble_eq_true rfl) dL_act_23 ⟨(Nat.le_of_ble_eq_true rfl), (Nat.le_of_ble_eq_true rfl)⟩ ?_
  refine j_bipush (v := 6) C dL_act_26 (by decide) ?_
  refine j_pureS_i (r := lowF (z k.toNatClampNeg) 6) C (m_L_low l G (z k.toNatClampNeg) 6 (by decide)) 2 (gS kw_257 kw_258 kw_0 kw_259) (by decide +kernel) ⟨(Nat.le_of_ble_eq_true rfl), (Nat.le_of_ble_eq_true rfl)⟩ rfl rfl (Nat.le_of_ble_eq_true rfl) dL_act_28 ⟨(Nat.le_of_ble_eq_true rfl), (Nat.le_of_ble_eq_true rfl)⟩ ?_
  by_cases c31_0 : lowF (z k.toNatClampNeg) 6 = 0
  · refine j_tableIn (tgt := 60) C dL_act_31 (by rw [c31_0] <;> decide) (by rw [c31_0] <;> decide) (by rw [c31_0] <;> rfl) (by decide) ?_
    refine j_aload_n C dL_act_60 2 rfl ?_
    refine j_iload_n C dL_act_61 1 rfl ?_
    refine j_aload_n C dL_act_62 2 rfl ?_
    refine j_iconst (v := 1) C dL_act_63 (by decide) ?_
    refine j_callV_i (r := f_X4_count_r h xp w 1) (wc' := fl [[oX a (AP 0) hi sl su pa (AT 0) (AU 0)], [oH hi ha h], cSt G AP xp, [oP pa ga w]]) C (m_X4_count l G a hi sl su pa ha ga AP AT AU h xp w 1) rfl 0 rfl 1 (gV kw_253 kw_254 kw_255 kw_1 kw_256) (by decide +kernel) ⟨(Nat.le_of_ble_eq_true rfl), (Nat.le_of_ble_eq_true rfl)⟩ rfl rfl (Nat.le_of_ble_eq_true rfl) dL_act_64 ⟨(Nat.le_of_ble_eq_true rfl), (Nat.le_of_ble_eq_true rfl)⟩ (fl [[aS G ha 7 (fun k => some (AH k 0))], cMany G AH sv 7]) (fl [[oX a (AP 0) hi sl su pa (AT 0) (AU 0)], [oH hi ha h], cSt G AP xp, [oP pa ga w], [aS G ha 7 (fun k => some (AH k 0))], cMany G AH sv 7]) (bperm2 (bC := [[oX a (AP 0) hi sl su pa (AT 0) (AU 0)], [oH hi ha h], cSt G AP xp, [oP pa ga w]]) (bR := [[aS G ha 7 (fun k => some (AH k 0))], cMany G AH sv 7]) [0, 1, 5, 3, 2, 4] 6 rfl (by decide +kernel) rfl) (fl_app _ _) ?_
    refine j_perm (fl [[oX a (AP 0) hi sl su pa (AT 0) (AU 0)], [oH hi ha h], [oP pa ga w], [aS G ha 7 (fun k => some (AH k 0))], cSt G AP xp, cMany G AH sv 7]) (bperm [0, 1, 3, 4, 2, 5] 6 rfl (by decide +kernel) rfl) ?_
    refine j_iload C dL_act_67 0 rfl ?_
    refine j_iconst (v := 3) C dL_act_69 (by decide) ?_
    refine j_pureS_i (r := lowF (z (k + 2).toNatClampNeg) 3) C (m_L_low l G (z (k + 2).toNatClampNeg) 3 (by decide)) 2 (gS kw_257 kw_258 kw_0 kw_259) (by decide +kernel) ⟨(Nat.le_of_ble_eq_true rfl), (Nat.le_of_ble_eq_true rfl)⟩ rfl rfl (Nat.le_of_ble_eq_true rfl) dL_act_70 ⟨(Nat.le_of_ble_eq_true rfl), (Nat.le_of_ble_eq_true rfl)⟩ ?_
    refine j_iadd C dL_act_73 rfl ?_
    refine j_callV_i (r := f_X4_sell_r h sv xp (lowF (z (k + 1).toNatClampNeg) 4) ((f_X4_count_r h xp w 1) + (lowF (z (k + 2).toNatClampNeg) 3))) (wc' := fl [[oX a (AP 0) hi sl su pa (AT 0) (AU 0)], [oH hi ha (f_X4_sell_h h sv xp (lowF (z (k + 1).toNatClampNeg) 4) ((f_X4_count_r h xp w 1) + (lowF (z (k + 2).toNatClampNeg) 3)))], [aS G ha 7 (fun k => some (AH k 0))], cMany G AH (f_X4_sell_sv h sv xp (lowF (z (k + 1).toNatClampNeg) 4) ((f_X4_count_r h xp w 1) + (lowF (z (k + 2).toNatClampNeg) 3))) 7, cSt G AP (f_X4_sell_xp h sv xp (lowF (z (k + 1).toNatClampNeg) 4) ((f_X4_count_r h xp w 1) + (lowF (z (k + 2).toNatClampNeg) 3)))]) C (m_X4_sell l G a hi sl su pa ha AP AT AU AH h sv xp (lowF (z (k + 1).toNatClampNeg) 4) ((f_X4_count_r h xp w 1) + (lowF (z (k + 2).toNatClampNeg) 3)) h7) rfl 0 rfl 2 (gV kw_298 kw_299 kw_300 kw_1 kw_301) (by decide +kernel) ⟨(Nat.le_of_ble_eq_true rfl), (Nat.le_of_ble_eq_true rfl)⟩ rfl rfl (Nat.le_of_ble_eq_true rfl) dL_act_74 ⟨(Nat.le_of_ble_eq_true rfl), (Nat.le_of_ble_eq_true rfl)⟩ (fl [[oP pa ga w]]) (fl [[oX a (AP 0) hi sl su pa (AT 0) (AU 0)], [oH hi ha (f_X4_sell_h h sv xp (lowF (z (k + 1).toNatClampNeg) 4) ((f_X4_count_r h xp w 1) + (lowF (z (k + 2).toNatClampNeg) 3)))], [aS G ha 7 (fun k => some (AH k 0))], cMany G AH (f_X4_sell_sv h sv xp (lowF (z (k + 1).toNatClampNeg) 4) ((f_X4_count_r h xp w 1) + (lowF (z (k + 2).toNatClampNeg) 3))) 7, cSt G AP (f_X4_sell_xp h sv xp (lowF (z (k + 1).toNatClampNeg) 4) ((f_X4_count_r h xp w 1) + (lowF (z (k + 2).toNatClampNeg) 3))), [oP pa ga w]]) (bperm2 (bC := [[oX a (AP 0) hi sl su pa (AT 0) (AU 0)], [oH hi ha h], [aS G ha 7 (fun k => some (AH k 0))], cMany G AH sv 7, cSt G AP xp]) (bR := [[oP pa ga w]]) [0, 1, 3, 5, 4, 2] 6 rfl (by decide +kernel) rfl) (fl_app _ _) ?_
    generalize hzw0 : f_X4_sell_r h sv xp (lowF (z (k + 1).toNatClampNeg) 4) ((f_X4_count_r h xp w 1) + (lowF (z (k + 2).toNatClampNeg) 3)) = w0
    have hw0 : f_L_act_rq8 h sv xp w z k = w0 := by subst hzw0; rfl
    generalize hzw1 : f_X4_sell_h h sv xp (lowF (z (k + 1).toNatClampNeg) 4) ((f_X4_count_r h xp w 1) + (lowF (z (k + 2).toNatClampNeg) 3)) = w1
    have hw1 : f_L_act_hq8 h sv xp w z k = w1 := by subst hw0; subst hzw1; rfl
    generalize hzw2 : f_X4_sell_sv h sv xp (lowF (z (k + 1).toNatClampNeg) 4) ((f_X4_count_r h xp w 1) + (lowF (z (k + 2).toNatClampNeg) 3)) = w2
    have hw2 : f_L_act_svq8 h sv xp w z k = w2 := by subst hw0 hw1; subst hzw2; rfl
    generalize hzw3 : f_X4_sell_xp h sv xp (lowF (z (k + 1).toNatClampNeg) 4) ((f_X4_count_r h xp w 1) + (lowF (z (k + 2).toNatClampNeg) 3)) = w3
    have hw3 : f_L_act_xpq8 h sv xp w z k = w3 := by subst hw0 hw1 hw2; subst hzw3; rfl
    subst hQ; subst hw0 hw1 hw2 hw3; exact j_iret C hr hk ((show f_L_act_r h sv xp w z k = (f_L_act_rq8 h sv xp w z k) from (if_pos c31_0)).symm) (by rw [show f_L_act_h h sv xp w z k = (f_L_act_hq8 h sv xp w z k) from (if_pos c31_0), show f_L_act_sv h sv xp w z k = (f_L_act_svq8 h sv xp w z k) from (if_pos c31_0), show f_L_act_xp h sv xp w z k = (f_L_act_xpq8 h sv xp w z k) from (if_pos c31_0)]) dL_act_77
  · by_cases c31_1 : lowF (z k.toNatClampNeg) 6 = 1
    · refine j_tableIn (tgt := 78) C dL_act_31 (by rw [c31_1] <;> decide) (by rw [c31_1] <;> decide) (by rw [c31_1] <;> rfl) (by decide) ?_
      refine j_aload_n C dL_act_78 2 rfl ?_
      refine j_iload_n C dL_act_79 1 rfl ?_
      refine j_aload_n C dL_act_80 2 rfl ?_
      refine j_iconst (v := 1) C dL_act_81 (by decide) ?_
      refine j_callV_i (r := f_X4_count_r h xp w 1) (wc' := fl [[oX a (AP 0) hi sl su pa (AT 0) (AU 0)], [oH hi ha h], cSt G AP xp, [oP pa ga w]]) C (m_X4_count l G a hi sl su pa ha ga AP AT AU h xp w 1) rfl 0 rfl 1 (gV kw_253 kw_254 kw_255 kw_1 kw_256) (by decide +kernel) ⟨(Nat.le_of_ble_eq_true rfl), (Nat.le_of_ble_eq_true rfl)⟩ rfl rfl (Nat.le_of_ble_eq_true rfl) dL_act_82 ⟨(Nat.le_of_ble_eq_true rfl), (Nat.le_of_ble_eq_true rfl)⟩ (fl [[aS G ha 7 (fun k => some (AH k 0))], cMany G AH sv 7]) (fl [[oX a (AP 0) hi sl su pa (AT 0) (AU 0)], [oH hi ha h], cSt G AP xp, [oP pa ga w], [aS G ha 7 (fun k => some (AH k 0))], cMany G AH sv 7]) (bperm2 (bC := [[oX a (AP 0) hi sl su pa (AT 0) (AU 0)], [oH hi ha h], cSt G AP xp, [oP pa ga w]]) (bR := [[aS G ha 7 (fun k => some (AH k 0))], cMany G AH sv 7]) [0, 1, 5, 3, 2, 4] 6 rfl (by decide +kernel) rfl) (fl_app _ _) ?_
      refine j_perm (fl [[oX a (AP 0) hi sl su pa (AT 0) (AU 0)], [oH hi ha h], [oP pa ga w], [aS G ha 7 (fun k => some (AH k 0))], cSt G AP xp, cMany G AH sv 7]) (bperm [0, 1, 3, 4, 2, 5] 6 rfl (by decide +kernel) rfl) ?_
      refine j_iload C dL_act_85 0 rfl ?_
      refine j_iconst (v := 3) C dL_act_87 (by decide) ?_
      refine j_pureS_i (r := lowF (z (k + 2).toNatClampNeg) 3) C (m_L_low l G (z (k + 2).toNatClampNeg) 3 (by decide)) 2 (gS kw_257 kw_258 kw_0 kw_259) (by decide +kernel) ⟨(Nat.le_of_ble_eq_true rfl), (Nat.le_of_ble_eq_true rfl)⟩ rfl rfl (Nat.le_of_ble_eq_true rfl) dL_act_88 ⟨(Nat.le_of_ble_eq_true rfl), (Nat.le_of_ble_eq_true rfl)⟩ ?_
      refine j_iadd C dL_act_91 rfl ?_
      refine j_callV_i (r := f_X4_giveBack_r h sv xp (lowF (z (k + 1).toNatClampNeg) 4) ((f_X4_count_r h xp w 1) + (lowF (z (k + 2).toNatClampNeg) 3))) (wc' := fl [[oX a (AP 0) hi sl su pa (AT 0) (AU 0)], [oH hi ha (f_X4_giveBack_h h sv xp (lowF (z (k + 1).toNatClampNeg) 4) ((f_X4_count_r h xp w 1) + (lowF (z (k + 2).toNatClampNeg) 3)))], [aS G ha 7 (fun k => some (AH k 0))], cMany G AH (f_X4_giveBack_sv h sv xp (lowF (z (k + 1).toNatClampNeg) 4) ((f_X4_count_r h xp w 1) + (lowF (z (k + 2).toNatClampNeg) 3))) 7, cSt G AP (f_X4_giveBack_xp h sv xp (lowF (z (k + 1).toNatClampNeg) 4) ((f_X4_count_r h xp w 1) + (lowF (z (k + 2).toNatClampNeg) 3)))]) C (m_X4_giveBack l G a hi sl su pa ha AP AT AU AH h sv xp (lowF (z (k + 1).toNatClampNeg) 4) ((f_X4_count_r h xp w 1) + (lowF (z (k + 2).toNatClampNeg) 3)) h7) rfl 0 rfl 2 (gV kw_310 kw_311 kw_312 kw_1 kw_313) (by decide +kernel) ⟨(Nat.le_of_ble_eq_true rfl), (Nat.le_of_ble_eq_true rfl)⟩ rfl rfl (Nat.le_of_ble_eq_true rfl) dL_act_92 ⟨(Nat.le_of_ble_eq_true rfl), (Nat.le_of_ble_eq_true rfl)⟩ (fl [[oP pa ga w]]) (fl [[oX a (AP 0) hi sl su pa (AT 0) (AU 0)], [oH hi ha (f_X4_giveBack_h h sv xp (lowF (z (k + 1).toNatClampNeg) 4) ((f_X4_count_r h xp w 1) + (lowF (z (k + 2).toNatClampNeg) 3)))], [aS G ha 7 (fun k => some (AH k 0))], cMany G AH (f_X4_giveBack_sv h sv xp (lowF (z (k + 1).toNatClampNeg) 4) ((f_X4_count_r h xp w 1) + (lowF (z (k + 2).toNatClampNeg) 3))) 7, cSt G AP (f_X4_giveBack_xp h sv xp (lowF (z (k + 1).toNatClampNeg) 4) ((f_X4_count_r h xp w 1) + (lowF (z (k + 2).toNatClampNeg) 3))), [oP pa ga w]]) (bperm2 (bC := [[oX a (AP 0) hi sl su pa (AT 0) (AU 0)], [oH hi ha h], [aS G ha 7 (fun k => some (AH k 0))], cMany G AH sv 7, cSt G AP xp]) (bR := [[oP pa ga w]]) [0, 1, 3, 5, 4, 2] 6 rfl (by decide +kernel) rfl) (fl_app _ _) ?_
      generalize hzw4 : f_X4_giveBack_r h sv xp (lowF (z (k + 1).toNatClampNeg) 4) ((f_X4_count_r h xp w 1) + (lowF (z (k + 2).toNatClampNeg) 3)) = w4
      have hw4 : f_L_act_rq11 h sv xp w z k = w4 := by subst hzw4; rfl
      generalize hzw5 : f_X4_giveBack_h h sv xp (lowF (z (k + 1).toNatClampNeg) 4) ((f_X4_count_r h xp w 1) + (lowF (z (k + 2).toNatClampNeg) 3)) = w5
      have hw5 : f_L_act_hq11 h sv xp w z k = w5 := by subst hw4; subst hzw5; rfl
      generalize hzw6 : f_X4_giveBack_sv h sv xp (lowF (z (k + 1).toNatClampNeg) 4) ((f_X4_count_r h xp w 1) + (lowF (z (k + 2).toNatClampNeg) 3)) = w6
      have hw6 : f_L_act_svq11 h sv xp w z k = w6 := by subst hw4 hw5; subst hzw6; rfl
      generalize hzw7 : f_X4_giveBack_xp h sv xp (lowF (z (k + 1).toNatClampNeg) 4) ((f_X4_count_r h xp w 1) + (lowF (z (k + 2).toNatClampNeg) 3)) = w7
      have hw7 : f_L_act_xpq11 h sv xp w z k = w7 := by subst hw4 hw5 hw6; subst hzw7; rfl
      subst hQ; subst hw4 hw5 hw6 hw7; exact j_iret C hr hk ((show f_L_act_r h sv xp w z k = (f_L_act_rq11 h sv xp w z k) from ((if_neg c31_0).trans (if_pos c31_1))).symm) (by rw [show f_L_act_h h sv xp w z k = (f_L_act_hq11 h sv xp w z k) from ((if_neg c31_0).trans (if_pos c31_1)), show f_L_act_sv h sv xp w z k = (f_L_act_svq11 h sv xp w z k) from ((if_neg c31_0).trans (if_pos c31_1)), show f_L_act_xp h sv xp w z k = (f_L_act_xpq11 h sv xp w z k) from ((if_neg c31_0).trans (if_pos c31_1))]) dL_act_95
    · by_cases c31_2 : lowF (z k.toNatClampNeg) 6 = 2
      · refine j_tableIn (tgt := 96) C dL_act_31 (by rw [c31_2] <;> decide) (by rw [c31_2] <;> decide) (by rw [c31_2] <;> rfl) (by decide) ?_
        refine j_aload_n C dL_act_96 2 rfl ?_
        refine j_iload_n C dL_act_97 1 rfl ?_
        refine j_iconst (v := 1) C dL_act_98 (by decide) ?_
        refine j_iload C dL_act_99 0 rfl ?_
        refine j_bipush (v := 9) C dL_act_101 (by decide) ?_
        refine j_pureS_i (r := lowF (z (k + 2).toNatClampNeg) 9) C (m_L_low l G (z (k + 2).toNatClampNeg) 9 (by decide)) 2 (gS kw_257 kw_258 kw_0 kw_259) (by decide +kernel) ⟨(Nat.le_of_ble_eq_true rfl), (Nat.le_of_ble_eq_true rfl)⟩ rfl rfl (Nat.le_of_ble_eq_true rfl) dL_act_103 ⟨(Nat.le_of_ble_eq_true rfl), (Nat.le_of_ble_eq_true rfl)⟩ ?_
        refine j_iadd C dL_act_106 rfl ?_
        refine j_aload_n C dL_act_107 3 rfl ?_
        refine j_iload_n C dL_act_108 4 rfl ?_
        refine j_iconst (v := 3) C dL_act_109 (by decide) ?_
        refine j_iadd C dL_act_110 rfl ?_
        refine j_pureS_i (r := z (k + 3).toNatClampNeg) C (m_L_cell l G z (k + 3) hz k3 l3) 2 (gS kw_261 kw_262 kw_0 kw_263) (by decide +kernel) ⟨(Nat.le_of_ble_eq_true rfl), (Nat.le_of_ble_eq_true rfl)⟩ rfl rfl (Nat.le_of_ble_eq_true rfl) dL_act_111 ⟨(Nat.le_of_ble_eq_true rfl), (Nat.le_of_ble_eq_true rfl)⟩ ?_
        refine j_bipush (v := 8) C dL_act_114 (by decide) ?_
        refine j_pureS_i (r := lowF (z (k + 3).toNatClampNeg) 8) C (m_L_low l G (z (k + 3).toNatClampNeg) 8 (by decide)) 2 (gS kw_257 kw_258 kw_0 kw_259) (by decide +kernel) ⟨(Nat.le_of_ble_eq_true rfl), (Nat.le_of_ble_eq_true rfl)⟩ rfl rfl (Nat.le_of_ble_eq_true rfl) dL_act_116 ⟨(Nat.le_of_ble_eq_true rfl), (Nat.le_of_ble_eq_true rfl)⟩ ?_
        refine j_callV_i (r := f_X4_stream_r h sv xp (lowF (z (k + 1).toNatClampNeg) 4) (1 + (lowF (z (k + 2).toNatClampNeg) 9)) (lowF (z (k + 3).toNatClampNeg) 8)) (wc' := fl [[oX a (AP 0) hi sl su pa (AT 0) (AU 0)], [oH hi ha (f_X4_stream_h h sv xp (lowF (z (k + 1).toNatClampNeg) 4) (1 + (lowF (z (k + 2).toNatClampNeg) 9)) (lowF (z (k + 3).toNatClampNeg) 8))], [aS G ha 7 (fun k => some (AH k 0))], cMany G AH (f_X4_stream_sv h sv xp (lowF (z (k + 1).toNatClampNeg) 4) (1 + (lowF (z (k + 2).toNatClampNeg) 9)) (lowF (z (k + 3).toNatClampNeg) 8)) 7, cSt G AP (f_X4_stream_xp h sv xp (lowF (z (k + 1).toNatClampNeg) 4) (1 + (lowF (z (k + 2).toNatClampNeg) 9)) (lowF (z (k + 3).toNatClampNeg) 8))]) C (m_X4_stream l G a hi sl su pa ha AP AT AU AH h sv xp (lowF (z (k + 1).toNatClampNeg) 4) (1 + (lowF (z (k + 2).toNatClampNeg) 9)) (lowF (z (k + 3).toNatClampNeg) 8) h7) rfl 0 rfl 3 (gV kw_318 kw_319 kw_320 kw_1 kw_321) (by decide +kernel) ⟨(Nat.le_of_ble_eq_true rfl), (Nat.le_of_ble_eq_true rfl)⟩ rfl rfl (Nat.le_of_ble_eq_true rfl) dL_act_119 ⟨(Nat.le_of_ble_eq_true rfl), (Nat.le_of_ble_eq_true rfl)⟩ (fl [[oP pa ga w]]) (fl [[oX a (AP 0) hi sl su pa (AT 0) (AU 0)], [oH hi ha (f_X4_stream_h h sv xp (lowF (z (k + 1).toNatClampNeg) 4) (1 + (lowF (z (k + 2).toNatClampNeg) 9)) (lowF (z (k + 3).toNatClampNeg) 8))], [aS G ha 7 (fun k => some (AH k 0))], cMany G AH (f_X4_stream_sv h sv xp (lowF (z (k + 1).toNatClampNeg) 4) (1 + (lowF (z (k + 2).toNatClampNeg) 9)) (lowF (z (k + 3).toNatClampNeg) 8)) 7, cSt G AP (f_X4_stream_xp h sv xp (lowF (z (k + 1).toNatClampNeg) 4) (1 + (lowF (z (k + 2).toNatClampNeg) 9)) (lowF (z (k + 3).toNatClampNeg) 8)), [oP pa ga w]]) (bperm2 (bC := [[oX a (AP 0) hi sl su pa (AT 0) (AU 0)], [oH hi ha h], [aS G ha 7 (fun k => some (AH k 0))], cMany G AH sv 7, cSt G AP xp]) (bR := [[oP pa ga w]]) [0, 1, 2, 4, 5, 3] 6 rfl (by decide +kernel) rfl) (fl_app _ _) ?_
        generalize hzw8 : f_X4_stream_r h sv xp (lowF (z (k + 1).toNatClampNeg) 4) (1 + (lowF (z (k + 2).toNatClampNeg) 9)) (lowF (z (k + 3).toNatClampNeg) 8) = w8
        have hw8 : f_L_act_rq15 h sv xp w z k = w8 := by subst hzw8; rfl
        generalize hzw9 : f_X4_stream_h h sv xp (lowF (z (k + 1).toNatClampNeg) 4) (1 + (lowF (z (k + 2).toNatClampNeg) 9)) (lowF (z (k + 3).toNatClampNeg) 8) = w9
        have hw9 : f_L_act_hq15 h sv xp w z k = w9 := by subst hw8; subst hzw9; rfl
        generalize hzw10 : f_X4_stream_sv h sv xp (lowF (z (k + 1).toNatClampNeg) 4) (1 + (lowF (z (k + 2).toNatClampNeg) 9)) (lowF (z (k + 3).toNatClampNeg) 8) = w10
        have hw10 : f_L_act_svq15 h sv xp w z k = w10 := by subst hw8 hw9; subst hzw10; rfl
        generalize hzw11 : f_X4_stream_xp h sv xp (lowF (z (k + 1).toNatClampNeg) 4) (1 + (lowF (z (k + 2).toNatClampNeg) 9)) (lowF (z (k + 3).toNatClampNeg) 8) = w11
        have hw11 : f_L_act_xpq15 h sv xp w z k = w11 := by subst hw8 hw9 hw10; subst hzw11; rfl
        subst hQ; subst hw8 hw9 hw10 hw11; exact j_iret C hr hk ((show f_L_act_r h sv xp w z k = (f_L_act_rq15 h sv xp w z k) from ((if_neg c31_0).trans ((if_neg c31_1).trans (if_pos c31_2)))).symm) (by rw [show f_L_act_h h sv xp w z k = (f_L_act_hq15 h sv xp w z k) from ((if_neg c31_0).trans ((if_neg c31_1).trans (if_pos c31_2))), show f_L_act_sv h sv xp w z k = (f_L_act_svq15 h sv xp w z k) from ((if_neg c31_0).trans ((if_neg c31_1).trans (if_pos c31_2))), show f_L_act_xp h sv xp w z k = (f_L_act_xpq15 h sv xp w z k) from ((if_neg c31_0).trans ((if_neg c31_1).trans (if_pos c31_2)))]) dL_act_122
      · by_cases c31_3 : lowF (z k.toNatClampNeg) 6 = 3
        · refine j_tableIn (tgt := 123) C dL_act_31 (by rw [c31_3] <;> decide) (by rw [c31_3] <;> decide) (by rw [c31_3] <;> rfl) (by decide) ?_
          refine j_aload_n C dL_act_123 2 rfl ?_
          refine j_iconst (v := 3) C dL_act_124 (by decide) ?_
          refine j_iload C dL_act_125 0 rfl ?_
          refine j_iconst (v := 4) C dL_act_127 (by decide) ?_
          refine j_pureS_i (r := lowF (z (k + 2).toNatClampNeg) 4) C (m_L_low l G (z (k + 2).toNatClampNeg) 4 (by decide)) 2 (gS kw_257 kw_258 kw_0 kw_259) (by decide +kernel) ⟨(Nat.le_of_ble_eq_true rfl), (Nat.le_of_ble_eq_true rfl)⟩ rfl rfl (Nat.le_of_ble_eq_true rfl) dL_act_128 ⟨(Nat.le_of_ble_eq_true rfl), (Nat.le_of_ble_eq_true rfl)⟩ ?_
          refine j_iadd C dL_act_131 rfl ?_
          refine j_iconst (v := 1) C dL_act_132 (by decide) ?_
          refine j_aload_n C dL_act_133 3 rfl ?_
          refine j_iload_n C dL_act_134 4 rfl ?_
          refine j_iconst (v := 3) C dL_act_135 (by decide) ?_
          refine j_iadd C dL_act_136 rfl ?_
          refine j_pureS_i (r := z (k + 3).toNatClampNeg) C (m_L_cell l G z (k + 3) hz k3 l3) 2 (gS kw_261 kw_262 kw_0 kw_263) (by decide +kernel) ⟨(Nat.le_of_ble_eq_true rfl), (Nat.le_of_ble_eq_true rfl)⟩ rfl rfl (Nat.le_of_ble_eq_true rfl) dL_act_137 ⟨(Nat.le_of_ble_eq_true rfl), (Nat.le_of_ble_eq_true rfl)⟩ ?_
          refine j_bipush (v := 20) C dL_act_140 (by decide) ?_
          refine j_pureS_i (r := lowF (z (k + 3).toNatClampNeg) 20) C (m_L_low l G (z (k + 3).toNatClampNeg) 20 (by decide)) 2 (gS kw_257 kw_258 kw_0 kw_259) (by decide +kernel) ⟨(Nat.le_of_ble_eq_true rfl), (Nat.le_of_ble_eq_true rfl)⟩ rfl rfl (Nat.le_of_ble_eq_true rfl) dL_act_142 ⟨(Nat.le_of_ble_eq_true rfl), (Nat.le_of_ble_eq_true rfl)⟩ ?_
          refine j_iadd C dL_act_145 rfl ?_
          refine j_callV_i (r := f_X4_set_r h sv xp (3 + (lowF (z (k + 2).toNatClampNeg) 4)) (1 + (lowF (z (k + 3).toNatClampNeg) 20))) (wc' := fl [[oX a (AP 0) hi sl su pa (AT 0) (AU 0)], [oH hi ha (f_X4_set_h h sv xp (3 + (lowF (z (k + 2).toNatClampNeg) 4)) (1 + (lowF (z (k + 3).toNatClampNeg) 20)))], [aS G ha 7 (fun k => some (AH k 0))], cMany G AH (f_X4_set_sv h sv xp (3 + (lowF (z (k + 2).toNatClampNeg) 4)) (1 + (lowF (z (k + 3).toNatClampNeg) 20))) 7, cSt G AP (f_X4_set_xp h sv xp (3 + (lowF (z (k + 2).toNatClampNeg) 4)) (1 + (lowF (z (k + 3).toNatClampNeg) 20)))]) C (m_X4_set l G a hi sl su pa ha AP AT AU AH h sv xp (3 + (lowF (z (k + 2).toNatClampNeg) 4)) (1 + (lowF (z (k + 3).toNatClampNeg) 20)) h7) rfl 0 rfl 2 (gV kw_326 kw_327 kw_328 kw_1 kw_329) (by decide +kernel) ⟨(Nat.le_of_ble_eq_true rfl), (Nat.le_of_ble_eq_true rfl)⟩ rfl rfl (Nat.le_of_ble_eq_true rfl) dL_act_146 ⟨(Nat.le_of_ble_eq_true rfl), (Nat.le_of_ble_eq_true rfl)⟩ (fl [[oP pa ga w]]) (fl [[oX a (AP 0) hi sl su pa (AT 0) (AU 0)], [oH hi ha (f_X4_set_h h sv xp (3 + (lowF (z (k + 2).toNatClampNeg) 4)) (1 + (lowF (z (k + 3).toNatClampNeg) 20)))], [aS G ha 7 (fun k => some (AH k 0))], cMany G AH (f_X4_set_sv h sv xp (3 + (lowF (z (k + 2).toNatClampNeg) 4)) (1 + (lowF (z (k + 3).toNatClampNeg) 20))) 7, cSt G AP (f_X4_set_xp h sv xp (3 + (lowF (z (k + 2).toNatClampNeg) 4)) (1 + (lowF (z (k + 3).toNatClampNeg) 20))), [oP pa ga w]]) (bperm2 (bC := [[oX a (AP 0) hi sl su pa (AT 0) (AU 0)], [oH hi ha h], [aS G ha 7 (fun k => some (AH k 0))], cMany G AH sv 7, cSt G AP xp]) (bR := [[oP pa ga w]]) [0, 1, 2, 4, 5, 3] 6 rfl (by decide +kernel) rfl) (fl_app _ _) ?_
          generalize hzw12 : f_X4_set_r h sv xp (3 + (lowF (z (k + 2).toNatClampNeg) 4)) (1 + (lowF (z (k + 3).toNatClampNeg) 20)) = w12
          have hw12 : f_L_act_rq19 h sv xp w z k = w12 := by subst hzw12; rfl
          generalize hzw13 : f_X4_set_h h sv xp (3 + (lowF (z (k + 2).toNatClampNeg) 4)) (1 + (lowF (z (k + 3).toNatClampNeg) 20)) = w13
          have hw13 : f_L_act_hq19 h sv xp w z k = w13 := by subst hw12; subst hzw13; rfl
          generalize hzw14 : f_X4_set_sv h sv xp (3 + (lowF (z (k + 2).toNatClampNeg) 4)) (1 + (lowF (z (k + 3).toNatClampNeg) 20)) = w14
          have hw14 : f_L_act_svq19 h sv xp w z k = w14 := by subst hw12 hw13; subst hzw14; rfl
          generalize hzw15 : f_X4_set_xp h sv xp (3 + (lowF (z (k + 2).toNatClampNeg) 4)) (1 + (lowF (z (k + 3).toNatClampNeg) 20)) = w15
          have hw15 : f_L_act_xpq19 h sv xp w z k = w15 := by subst hw12 hw13 hw14; subst hzw15; rfl
          subst hQ; subst hw12 hw13 hw14 hw15; exact j_iret C hr hk ((show f_L_act_r h sv xp w z k = (f_L_act_rq19 h sv xp w z k) from ((if_neg c31_0).trans ((if_neg c31_1).trans ((if_neg c31_2).trans (if_pos c31_3))))).symm) (by rw [show f_L_act_h h sv xp w z k = (f_L_act_hq19 h sv xp w z k) from ((if_neg c31_0).trans ((if_neg c31_1).trans ((if_neg c31_2).trans (if_pos c31_3)))), show f_L_act_sv h sv xp w z k = (f_L_act_svq19 h sv xp w z k) from ((if_neg c31_0).trans ((if_neg c31_1).trans ((if_neg c31_2).trans (if_pos c31_3)))), show f_L_act_xp h sv xp w z k = (f_L_act_xpq19 h sv xp w z k) from ((if_neg c31_0).trans ((if_neg c31_1).trans ((if_neg c31_2).trans (if_pos c31_3))))]) dL_act_149
        · have n31_0 : (lowF (z k.toNatClampNeg) 6).toInt ≠ 0 := fun h => c31_0 (Int32.toInt_inj.mp h)
          have n31_1 : (lowF (z k.toNatClampNeg) 6).toInt ≠ 1 := fun h => c31_1 (Int32.toInt_inj.mp h)
          have n31_2 : (lowF (z k.toNatClampNeg) 6).toInt ≠ 2 := fun h => c31_2 (Int32.toInt_inj.mp h)
          have n31_3 : (lowF (z k.toNatClampNeg) 6).toInt ≠ 3 := fun h => c31_3 (Int32.toInt_inj.mp h)
          refine j_tableOut (tgt := 150) C dL_act_31 (by omega) (by decide) ?_
          refine j_aload_n C dL_act_150 2 rfl ?_
          refine j_iload_n C dL_act_151 1 rfl ?_
          refine j_iconst (v := 1) C dL_act_152 (by decide) ?_
          refine j_iload C dL_act_153 0 rfl ?_
          refine j_bipush (v := 70) C dL_act_155 (by decide) ?_
          refine j_pureS_i (r := lowF (z (k + 2).toNatClampNeg) 70) C (m_L_low l G (z (k + 2).toNatClampNeg) 70 (by decide)) 2 (gS kw_257 kw_258 kw_0 kw_259) (by decide +kernel) ⟨(Nat.le_of_ble_eq_true rfl), (Nat.le_of_ble_eq_true rfl)⟩ rfl rfl (Nat.le_of_ble_eq_true rfl) dL_act_157 ⟨(Nat.le_of_ble_eq_true rfl), (Nat.le_of_ble_eq_true rfl)⟩ ?_
          refine j_iadd C dL_act_160 rfl ?_
          refine j_callV_i (r := f_X4_write_r h sv xp (lowF (z (k + 1).toNatClampNeg) 4) (1 + (lowF (z (k + 2).toNatClampNeg) 70))) (wc' := fl [[oX a (AP 0) hi sl su pa (AT 0) (AU 0)], [oH hi ha (f_X4_write_h h sv xp (lowF (z (k + 1).toNatClampNeg) 4) (1 + (lowF (z (k + 2).toNatClampNeg) 70)))], [aS G ha 7 (fun k => some (AH k 0))], cMany G AH (f_X4_write_sv h sv xp (lowF (z (k + 1).toNatClampNeg) 4) (1 + (lowF (z (k + 2).toNatClampNeg) 70))) 7, cSt G AP (f_X4_write_xp h sv xp (lowF (z (k + 1).toNatClampNeg) 4) (1 + (lowF (z (k + 2).toNatClampNeg) 70)))]) C (m_X4_write l G a hi sl su pa ha AP AT AU AH h sv xp (lowF (z (k + 1).toNatClampNeg) 4) (1 + (lowF (z (k + 2).toNatClampNeg) 70)) h7) rfl 0 rfl 2 (gV kw_334 kw_335 kw_336 kw_1 kw_337) (by decide +kernel) ⟨(Nat.le_of_ble_eq_true rfl), (Nat.le_of_ble_eq_true rfl)⟩ rfl rfl (Nat.le_of_ble_eq_true rfl) dL_act_161 ⟨(Nat.le_of_ble_eq_true rfl), (Nat.le_of_ble_eq_true rfl)⟩ (fl [[oP pa ga w]]) (fl [[oX a (AP 0) hi sl su pa (AT 0) (AU 0)], [oH hi ha (f_X4_write_h h sv xp (lowF (z (k + 1).toNatClampNeg) 4) (1 + (lowF (z (k + 2).toNatClampNeg) 70)))], [aS G ha 7 (fun k => some (AH k 0))], cMany G AH (f_X4_write_sv h sv xp (lowF (z (k + 1).toNatClampNeg) 4) (1 + (lowF (z (k + 2).toNatClampNeg) 70))) 7, cSt G AP (f_X4_write_xp h sv xp (lowF (z (k + 1).toNatClampNeg) 4) (1 + (lowF (z (k + 2).toNatClampNeg) 70))), [oP pa ga w]]) (bperm2 (bC := [[oX a (AP 0) hi sl su pa (AT 0) (AU 0)], [oH hi ha h], [aS G ha 7 (fun k => some (AH k 0))], cMany G AH sv 7, cSt G AP xp]) (bR := [[oP pa ga w]]) [0, 1, 2, 4, 5, 3] 6 rfl (by decide +kernel) rfl) (fl_app _ _) ?_
          generalize hzw16 : f_X4_write_r h sv xp (lowF (z (k + 1).toNatClampNeg) 4) (1 + (lowF (z (k + 2).toNatClampNeg) 70)) = w16
          have hw16 : f_L_act_rq21 h sv xp w z k = w16 := by subst hzw16; rfl
          generalize hzw17 : f_X4_write_h h sv xp (lowF (z (k + 1).toNatClampNeg) 4) (1 + (lowF (z (k + 2).toNatClampNeg) 70)) = w17
          have hw17 : f_L_act_hq21 h sv xp w z k = w17 := by subst hw16; subst hzw17; rfl
          generalize hzw18 : f_X4_write_sv h sv xp (lowF (z (k + 1).toNatClampNeg) 4) (1 + (lowF (z (k + 2).toNatClampNeg) 70)) = w18
          have hw18 : f_L_act_svq21 h sv xp w z k = w18 := by subst hw16 hw17; subst hzw18; rfl
          generalize hzw19 : f_X4_write_xp h sv xp (lowF (z (k + 1).toNatClampNeg) 4) (1 + (lowF (z (k + 2).toNatClampNeg) 70)) = w19
          have hw19 : f_L_act_xpq21 h sv xp w z k = w19 := by subst hw16 hw17 hw18; subst hzw19; rfl
          subst hQ; subst hw16 hw17 hw18 hw19; exact j_iret C hr hk ((show f_L_act_r h sv xp w z k = (f_L_act_rq21 h sv xp w z k) from ((if_neg c31_0).trans ((if_neg c31_1).trans ((if_neg c31_2).trans (if_neg c31_3))))).symm) (by rw [show f_L_act_h h sv xp w z k = (f_L_act_hq21 h sv xp w z k) from ((if_neg c31_0).trans ((if_neg c31_1).trans ((if_neg c31_2).trans (if_neg c31_3)))), show f_L_act_sv h sv xp w z k = (f_L_act_svq21 h sv xp w z k) from ((if_neg c31_0).trans ((if_neg c31_1).trans ((if_neg c31_2).trans (if_neg c31_3)))), show f_L_act_xp h sv xp w z k = (f_L_act_xpq21 h sv xp w z k) from ((if_neg c31_0).trans ((if_neg c31_1).trans ((if_neg c31_2).trans (if_neg c31_3))))]) dL_act_164
/-- what the law's check of a drive counts in its first n hours: sold, kept, spoiled, the streak -/
noncomputable def accS (xp : StV) (k : Int32) : Nat → Int32
  | 0 => 0
  | i + 1 => accS xp k i + (if f_X4_hour_r xp k (nI i) ≤ 0 then 0 else 1)
noncomputable def accK (xp : StV) (k : Int32) : Nat → Int32
  | 0 => 0
  | i + 1 => accK xp k i + (if f_X4_hour_r xp k (nI i) = 2 then 1 else 0)
noncomputable def accP (xp : StV) (k : Int32) : Nat → Int32
  | 0 => 0
  | i + 1 => accP xp k i + (if f_X4_hour_r xp k (nI i) = 3 then 1 else 0)
noncomputable def stkA (xp : StV) (k : Int32) : Nat → Int32
  | 0 => 0
  | i + 1 => if f_X4_hour_r xp k (nI i) = 3 then 0 else (if f_X4_hour_r xp k (nI i) = 2 then stkA xp k i + 1 else stkA xp k i)
noncomputable def f_L_drive_x17 (h : Nat → Int32) (xp : StV) (w : Nat → Int32) (k : Int32) : Int32 := (if f_X4_hour_r xp k (f_X4_count_r h xp w 1) ≤ 0 then 0 else 1)
noncomputable def f_L_drive_x24 (h : Nat → Int32) (xp : StV) (w : Nat → Int32) (k : Int32) : Int32 := (if f_X4_share_r xp k = (-6) then 1 else 0)
noncomputable def f_L_drive_x25 (h : Nat → Int32) (xp : StV) (w : Nat → Int32) (k : Int32) : Int32 := (if (accK xp k 100) + (accP xp k 100) = 0 then 1 else 0)
noncomputable def f_L_drive_x28 (h : Nat → Int32) (xp : StV) (w : Nat → Int32) (k : Int32) (i : Nat) : Int32 := (if f_X4_hour_r xp k (nI i) ≤ 0 then 0 else 1)
noncomputable def f_L_drive_x29 (h : Nat → Int32) (xp : StV) (w : Nat → Int32) (k : Int32) (i : Nat) : Int32 := (if f_X4_hour_r xp k (nI i) = 2 then 1 else 0)
noncomputable def f_L_drive_x30 (h : Nat → Int32) (xp : StV) (w : Nat → Int32) (k : Int32) (i : Nat) : Int32 := (if f_X4_hour_r xp k (nI i) = 3 then 1 else 0)
noncomputable def f_L_drive_x31 (h : Nat → Int32) (xp : StV) (w : Nat → Int32) (k : Int32) (i : Nat) : Int32 := (if f_X4_hour_r xp k (nI i) = 3 then 0 else (if f_X4_hour_r xp k (nI i) = 2 then (stkA xp k i) + 1 else stkA xp k i))
set_option maxRecDepth 100000 in
set_option maxHeartbeats 4000000 in
theorem m_L_drive (l : Launch) (G : GG) (a hi sl su pa ha ga : Nat) (AP AT AU : Nat → Nat) (h : Nat → Int32) (xp : StV) (w : Nat → Int32) (k : Int32) (d0 : ¬ f_X4_ofDrive_r xp k 0 < 0) (d1 : ¬ f_X4_ofDrive_r xp k 1 < 0) (d2 : ¬ f_X4_ofDrive_r xp k 2 < 0) (d60 : f_X4_ofDrive_r xp k 0 + f_X4_ofDrive_r xp k 1 + f_X4_ofDrive_r xp k 2 = 60) (dh : ∀ i : Nat, i < 100 → ¬ f_X4_hour_r xp k (nI i) < 2 → ¬ f_X4_count_r h xp w 1 < nI i) (dk : ∀ i : Nat, i < 100 → f_X4_hour_r xp k (nI i) = 2 → ¬ f_X4_count_r h xp w 0 ≤ 60 * nI i + 60) (ds : ∀ i : Nat, i < 100 → f_X4_hour_r xp k (nI i) = 1 → ¬ 60 * nI i + 60 < f_X4_count_r h xp w 0) (e9 : f_X4_ofDrive_r xp k 9 = accS xp k 100) (e10 : f_X4_ofDrive_r xp k 10 = accK xp k 100) (e11 : f_X4_ofDrive_r xp k 11 = accP xp k 100) (est : f_X4_streak_r xp k = stkA xp k 100) (d100 : ¬ 100 ≤ f_X4_count_r h xp w 1) (e4 : f_X4_ofDrive_r xp k 4 = (if f_X4_hour_r xp k (f_X4_count_r h xp w 1) ≤ 0 then 0 else 1)) (o87 : ¬ f_X4_ofDrive_r xp k 7 < f_X4_ofDrive_r xp k 8) (o7n : ¬ f_X4_count_r h xp w 0 < f_X4_ofDrive_r xp k 7) (o8p : ¬ f_X4_ofDrive_r xp k 8 < accP xp k 100) (esh : (if f_X4_share_r xp k = (-6) then 1 else 0) = (if accK xp k 100 + accP xp k 100 = 0 then (1 : Int32) else 0)) (okp : ¬ accK xp k 100 < f_X4_streak_r xp k) : CtI l yL_drive cL_drive 9 (some .boolean) (RM 5) G [.ref a, .int k] (fl [[oX a (AP 0) hi sl su pa (AT 0) (AU 0)], [oH hi ha h], cSt G AP xp, [oP pa ga w]]) (1) (fl [[oX a (AP 0) hi sl su pa (AT 0) (AU 0)], [oH hi ha h], cSt G AP xp, [oP pa ga w]]) := by
  refine ct_I RL [(0, .ref a), (1, .int k)] rfl (by decide +kernel) (Nat.le_of_ble_eq_true rfl) rfl ?_
  intro p e s m args below meth c A C hr hk hnm
  generalize hQ : (MQ below (PostI G A (1) (fl [[oX a (AP 0) hi sl su pa (AT 0) (AU 0)], [oH hi ha h], cSt G AP xp, [oP pa ga w]])) args s (RM 5).cells (RM 5).slots A) = Q
  refine j_perm (fl [[oX a (AP 0) hi sl su pa (AT 0) (AU 0)], [oH hi ha h], [oP pa ga w], cSt G AP xp]) (bperm [0, 1, 3, 2] 4 rfl (by decide +kernel) rfl) ?_
  refine j_aload_n C dL_drive_0 0 rfl ?_
  refine j_iload_n C dL_drive_1 1 rfl ?_
  refine j_iconst (v := 0) C dL_drive_2 (by decide) ?_
  refine j_callV_i (r := f_X4_ofDrive_r xp k 0) (wc' := fl [[oX a (AP 0) hi sl su pa (AT 0) (AU 0)], cSt G AP xp]) C (m_X4_ofDrive l G a hi sl su pa AP AT AU xp k 0) rfl 0 rfl 2 (gV kw_235 kw_236 kw_237 kw_1 kw_238) (by decide +kernel) ⟨(Nat.le_of_ble_eq_true rfl), (Nat.le_of_ble_eq_true rfl)⟩ rfl rfl (Nat.le_of_ble_eq_true rfl) dL_drive_3 ⟨(Nat.le_of_ble_eq_true rfl), (Nat.le_of_ble_eq_true rfl)⟩ (fl [[oH hi ha h], [oP pa ga w]]) (fl [[oX a (AP 0) hi sl su pa (AT 0) (AU 0)], cSt G AP xp, [oH hi ha h], [oP pa ga w]]) (bperm2 (bC := [[oX a (AP 0) hi sl su pa (AT 0) (AU 0)], cSt G AP xp]) (bR := [[oH hi ha h], [oP pa ga w]]) [0, 3, 1, 2] 4 rfl (by decide +kernel) rfl) (fl_app _ _) ?_
  refine j_if_lt (tgt := 56) C dL_drive_6 (by decide) (fun h => absurd h (by exact d0)) (fun c6 => ?_)
  refine j_perm (fl [[oX a (AP 0) hi sl su pa (AT 0) (AU 0)], [oH hi ha h], [oP pa ga w], cSt G AP xp]) (bperm [0, 2, 3, 1] 4 rfl (by decide +kernel) rfl) ?_
  refine j_aload_n C dL_drive_9 0 rfl ?_
  refine j_iload_n C dL_drive_10 1 rfl ?_
  refine j_iconst (v := 1) C dL_drive_11 (by decide) ?_
  refine j_callV_i (r := f_X4_ofDrive_r xp k 1) (wc' := fl [[oX a (AP 0) hi sl su pa (AT 0) (AU 0)], cSt G AP xp]) C (m_X4_ofDrive l G a hi sl su pa AP AT AU xp k 1) rfl 0 rfl 2 (gV kw_235 kw_236 kw_237 kw_1 kw_238) (by decide +kernel) ⟨(Nat.le_of_ble_eq_true rfl), (Nat.le_of_ble_eq_true rfl)⟩ rfl rfl (Nat.le_of_ble_eq_true rfl) dL_drive_12 ⟨(Nat.le_of_ble_eq_true rfl), (Nat.le_of_ble_eq_true rfl)⟩ (fl [[oH hi ha h], [oP pa ga w]]) (fl [[oX a (AP 0) hi sl su pa (AT 0) (AU 0)], cSt G AP xp, [oH hi ha h], [oP pa ga w]]) (bperm2 (bC := [[oX a (AP 0) hi sl su pa (AT 0) (AU 0)], cSt G AP xp]) (bR := [[oH hi ha h], [oP pa ga w]]) [0, 3, 1, 2] 4 rfl (by decide +kernel) rfl) (fl_app _ _) ?_
  refine j_if_lt (tgt := 56) C dL_drive_15 (by decide) (fun h => absurd h (by exact d1)) (fun c15 => ?_)
  refine j_perm (fl [[oX a (AP 0) hi sl su pa (AT 0) (AU 0)], [oH hi ha h], [oP pa ga w], cSt G AP xp]) (bperm [0, 2, 3, 1] 4 rfl (by decide +kernel) rfl) ?_
  refine j_aload_n C dL_drive_18 0 rfl ?_
  refine j_iload_n C dL_drive_19 1 rfl ?_
  refine j_iconst (v := 2) C dL_drive_20 (by decide) ?_
  refine j_callV_i (r := f_X4_ofDrive_r xp k 2) (wc' := fl [[oX a (AP 0) hi sl su pa (AT 0) (AU 0)], cSt G AP xp]) C (m_X4_ofDrive l G a hi sl su pa AP AT AU xp k 2) rfl 0 rfl 2 (gV kw_235 kw_236 kw_237 kw_1 kw_238) (by decide +kernel) ⟨(Nat.le_of_ble_eq_true rfl), (Nat.le_of_ble_eq_true rfl)⟩ rfl rfl (Nat.le_of_ble_eq_true rfl) dL_drive_21 ⟨(Nat.le_of_ble_eq_true rfl), (Nat.le_of_ble_eq_true rfl)⟩ (fl [[oH hi ha h], [oP pa ga w]]) (fl [[oX a (AP 0) hi sl su pa (AT 0) (AU 0)], cSt G AP xp, [oH hi ha h], [oP pa ga w]]) (bperm2 (bC := [[oX a (AP 0) hi sl su pa (AT 0) (AU 0)], cSt G AP xp]) (bR := [[oH hi ha h], [oP pa ga w]]) [0, 3, 1, 2] 4 rfl (by decide +kernel) rfl) (fl_app _ _) ?_
  refine j_if_lt (tgt := 56) C dL_drive_24 (by decide) (fun h => absurd h (by exact d2)) (fun c24 => ?_)
  refine j_perm (fl [[oX a (AP 0) hi sl su pa (AT 0) (AU 0)], [oH hi ha h], [oP pa ga w], cSt G AP xp]) (bperm [0, 2, 3, 1] 4 rfl (by decide +kernel) rfl) ?_
  refine j_aload_n C dL_drive_27 0 rfl ?_
  refine j_iload_n C dL_drive_28 1 rfl ?_
  refine j_iconst (v := 0) C dL_drive_29 (by decide) ?_
  refine j_callV_i (r := f_X4_ofDrive_r xp k 0) (wc' := fl [[oX a (AP 0) hi sl su pa (AT 0) (AU 0)], cSt G AP xp]) C (m_X4_ofDrive l G a hi sl su pa AP AT AU xp k 0) rfl 0 rfl 2 (gV kw_235 kw_236 kw_237 kw_1 kw_238) (by decide +kernel) ⟨(Nat.le_of_ble_eq_true rfl), (Nat.le_of_ble_eq_true rfl)⟩ rfl rfl (Nat.le_of_ble_eq_true rfl) dL_drive_30 ⟨(Nat.le_of_ble_eq_true rfl), (Nat.le_of_ble_eq_true rfl)⟩ (fl [[oH hi ha h], [oP pa ga w]]) (fl [[oX a (AP 0) hi sl su pa (AT 0) (AU 0)], cSt G AP xp, [oH hi ha h], [oP pa ga w]]) (bperm2 (bC := [[oX a (AP 0) hi sl su pa (AT 0) (AU 0)], cSt G AP xp]) (bR := [[oH hi ha h], [oP pa ga w]]) [0, 3, 1, 2] 4 rfl (by decide +kernel) rfl) (fl_app _ _) ?_
  refine j_perm (fl [[oX a (AP 0) hi sl su pa (AT 0) (AU 0)], [oH hi ha h], [oP pa ga w], cSt G AP xp]) (bperm [0, 2, 3, 1] 4 rfl (by decide +kernel) rfl) ?_
  refine j_aload_n C dL_drive_33 0 rfl ?_
  refine j_iload_n C dL_drive_34 1 rfl ?_
  refine j_iconst (v := 1) C dL_drive_35 (by decide) ?_
  refine j_callV_i (r := f_X4_ofDrive_r xp k 1) (wc' := fl [[oX a (AP 0) hi sl su pa (AT 0) (AU 0)], cSt G AP xp]) C (m_X4_ofDrive l G a hi sl su pa AP AT AU xp k 1) rfl 0 rfl 2 (gV kw_235 kw_236 kw_237 kw_1 kw_238) (by decide +kernel) ⟨(Nat.le_of_ble_eq_true rfl), (Nat.le_of_ble_eq_true rfl)⟩ rfl rfl (Nat.le_of_ble_eq_true rfl) dL_drive_36 ⟨(Nat.le_of_ble_eq_true rfl), (Nat.le_of_ble_eq_true rfl)⟩ (fl [[oH hi ha h], [oP pa ga w]]) (fl [[oX a (AP 0) hi sl su pa (AT 0) (AU 0)], cSt G AP xp, [oH hi ha h], [oP pa ga w]]) (bperm2 (bC := [[oX a (AP 0) hi sl su pa (AT 0) (AU 0)], cSt G AP xp]) (bR := [[oH hi ha h], [oP pa ga w]]) [0, 3, 1, 2] 4 rfl (by decide +kernel) rfl) (fl_app _ _) ?_
  refine j_perm (fl [[oX a (AP 0) hi sl su pa (AT 0) (AU 0)], [oH hi ha h], [oP pa ga w], cSt G AP xp]) (bperm [0, 2, 3, 1] 4 rfl (by decide +kernel) rfl) ?_
  refine j_iadd C dL_drive_39 rfl ?_
  refine j_aload_n C dL_drive_40 0 rfl ?_
  refine j_iload_n C dL_drive_41 1 rfl ?_
  refine j_iconst (v := 2) C dL_drive_42 (by decide) ?_
  refine j_callV_i (r := f_X4_ofDrive_r xp k 2) (wc' := fl [[oX a (AP 0) hi sl su pa (AT 0) (AU 0)], cSt G AP xp]) C (m_X4_ofDrive l G a hi sl su pa AP AT AU xp k 2) rfl 0 rfl 2 (gV kw_235 kw_236 kw_237 kw_1 kw_238) (by decide +kernel) ⟨(Nat.le_of_ble_eq_true rfl), (Nat.le_of_ble_eq_true rfl)⟩ rfl rfl (Nat.le_of_ble_eq_true rfl) dL_drive_43 ⟨(Nat.le_of_ble_eq_true rfl), (Nat.le_of_ble_eq_true rfl)⟩ (fl [[oH hi ha h], [oP pa ga w]]) (fl [[oX a (AP 0) hi sl su pa (AT 0) (AU 0)], cSt G AP xp, [oH hi ha h], [oP pa ga w]]) (bperm2 (bC := [[oX a (AP 0) hi sl su pa (AT 0) (AU 0)], cSt G AP xp]) (bR := [[oH hi ha h], [oP pa ga w]]) [0, 3, 1, 2] 4 rfl (by decide +kernel) rfl) (fl_app _ _) ?_
  refine j_perm (fl [[oX a (AP 0) hi sl su pa (AT 0) (AU 0)], [oH hi ha h], [oP pa ga w], cSt G AP xp]) (bperm [0, 2, 3, 1] 4 rfl (by decide +kernel) rfl) ?_
  refine j_iadd C dL_drive_46 rfl ?_
  refine j_bipush (v := 60) C dL_drive_47 (by decide) ?_
  refine j_icmp_ne (tgt := 56) C dL_drive_49 (by decide) (fun h => absurd h (by exact (fun g => g d60))) (fun c49 => ?_)
  refine j_iconst (v := 1) C dL_drive_52 (by decide) ?_
  refine j_goto (tgt := 57) C dL_drive_53 (by decide) ?_
  refine j_istore_n C [(2, .int 1), (0, .ref a), (1, .int k)] dL_drive_57 (by decide) rfl ?_
  refine j_iconst (v := 0) C dL_drive_58 (by decide) ?_
  refine j_istore_n C [(3, .int 0), (2, .int 1), (0, .ref a), (1, .int k)] dL_drive_59 (by decide) rfl ?_
  refine j_iconst (v := 0) C dL_drive_60 (by decide) ?_
  refine j_istore C [(4, .int 0), (3, .int 0), (2, .int 1), (0, .ref a), (1, .int k)] dL_drive_61 (by decide) rfl ?_
  refine j_iconst (v := 0) C dL_drive_63 (by decide) ?_
  refine j_istore C [(5, .int 0), (4, .int 0), (3, .int 0), (2, .int 1), (0, .ref a), (1, .int k)] dL_drive_64 (by decide) rfl ?_
  refine j_iconst (v := 0) C dL_drive_66 (by decide) ?_
  refine j_istore C [(6, .int 0), (5, .int 0), (4, .int 0), (3, .int 0), (2, .int 1), (0, .ref a), (1, .int k)] dL_drive_67 (by decide) rfl ?_
  refine j_iconst (v := 0) C dL_drive_69 (by decide) ?_
  refine j_istore C [(7, .int 0), (6, .int 0), (5, .int 0), (4, .int 0), (3, .int 0), (2, .int 1), (0, .ref a), (1, .int k)] dL_drive_70 (by decide) rfl ?_
  have L7 : ∀ (n i : Nat), i + n = 100 → WJ p l e (RM 5) s m args below meth c G A 9 0 0 Q (fl [[oX a (AP 0) hi sl su pa (AT 0) (AU 0)], [oH hi ha h], [oP pa ga w], cSt G AP xp]) [(7, .int (nI i)), (6, .int (stkA xp k i)), (5, .int (accP xp k i)), (4, .int (accK xp k i)), (3, .int (accS xp k i)), (2, .int 1), (0, .ref a), (1, .int k)] 72 [] := by
    intro n
    induction n with
    | zero =>
      intro i hIN
      have hN : i = 100 := by omega
      subst hN
      refine j_iload C dL_drive_72 0 rfl ?_
      refine j_bipush (v := 100) C dL_drive_74 (by decide) ?_
      refine j_icmp_ge (tgt := 236) C dL_drive_76 (by decide) (fun c76 => ?_) (fun h => absurd (by decide) h)
      refine j_iload_n C dL_drive_236 5 rfl ?_
      refine j_if_eq (tgt := 289) C dL_drive_237 (by decide) (fun h => absurd h (by decide)) (fun _ => ?_)
      refine j_aload_n C dL_drive_240 6 rfl ?_
      refine j_iload_n C dL_drive_241 7 rfl ?_
      refine j_bipush (v := 9) C dL_drive_242 (by decide) ?_
      refine j_callV_i (r := f_X4_ofDrive_r xp k 9) (wc' := fl [[oX a (AP 0) hi sl su pa (AT 0) (AU 0)], cSt G AP xp]) C (m_X4_ofDrive l G a hi sl su pa AP AT AU xp k 9) rfl 0 rfl 2 (gV kw_235 kw_236 kw_237 kw_1 kw_238) (by decide +kernel) ⟨(Nat.le_of_ble_eq_true rfl), (Nat.le_of_ble_eq_true rfl)⟩ rfl rfl (Nat.le_of_ble_eq_true rfl) dL_drive_244 ⟨(Nat.le_of_ble_eq_true rfl), (Nat.le_of_ble_eq_true rfl)⟩ (fl [[oH hi ha h], [oP pa ga w]]) (fl [[oX a (AP 0) hi sl su pa (AT 0) (AU 0)], cSt G AP xp, [oH hi ha h], [oP pa ga w]]) (bperm2 (bC := [[oX a (AP 0) hi sl su pa (AT 0) (AU 0)], cSt G AP xp]) (bR := [[oH hi ha h], [oP pa ga w]]) [0, 3, 1, 2] 4 rfl (by decide +kernel) rfl) (fl_app _ _) ?_
      refine j_perm (fl [[oX a (AP 0) hi sl su pa (AT 0) (AU 0)], [oH hi ha h], [oP pa ga w], cSt G AP xp]) (bperm [0, 2, 3, 1] 4 rfl (by decide +kernel) rfl) ?_
      refine j_iload_n C dL_drive_247 4 rfl ?_
      refine j_icmp_ne (tgt := 289) C dL_drive_248 (by decide) (fun h => absurd h (by exact (fun g => g e9))) (fun c248 => ?_)
      refine j_aload_n C dL_drive_251 6 rfl ?_
      refine j_iload_n C dL_drive_252 7 rfl ?_
      refine j_bipush (v := 10) C dL_drive_253 (by decide) ?_
      refine j_callV_i (r := f_X4_ofDrive_r xp k 10) (wc' := fl [[oX a (AP 0) hi sl su pa (AT 0) (AU 0)], cSt G AP xp]) C (m_X4_ofDrive l G a hi sl su pa AP AT AU xp k 10) rfl 0 rfl 2 (gV kw_235 kw_236 kw_237 kw_1 kw_238) (by decide +kernel) ⟨(Nat.le_of_ble_eq_true rfl), (Nat.le_of_ble_eq_true rfl)⟩ rfl rfl (Nat.le_of_ble_eq_true rfl) dL_drive_255 ⟨(Nat.le_of_ble_eq_true rfl), (Nat.le_of_ble_eq_true rfl)⟩ (fl [[oH hi ha h], [oP pa ga w]]) (fl [[oX a (AP 0) hi sl su pa (AT 0) (AU 0)], cSt G AP xp, [oH hi ha h], [oP pa ga w]]) (bperm2 (bC := [[oX a (AP 0) hi sl su pa (AT 0) (AU 0)], cSt G AP xp]) (bR := [[oH hi ha h], [oP pa ga w]]) [0, 3, 1, 2] 4 rfl (by decide +kernel) rfl) (fl_app _ _) ?_
      refine j_perm (fl [[oX a (AP 0) hi sl su pa (AT 0) (AU 0)], [oH hi ha h], [oP pa ga w], cSt G AP xp]) (bperm [0, 2, 3, 1] 4 rfl (by decide +kernel) rfl) ?_
      refine j_iload C dL_drive_258 3 rfl ?_
      refine j_icmp_ne (tgt := 289) C dL_drive_260 (by decide) (fun h => absurd h (by exact (fun g => g e10))) (fun c260 => ?_)
      refine j_aload_n C dL_drive_263 6 rfl ?_
      refine j_iload_n C dL_drive_264 7 rfl ?_
      refine j_bipush (v := 11) C dL_drive_265 (by decide) ?_
      refine j_callV_i (r := f_X4_ofDrive_r xp k 11) (wc' := fl [[oX a (AP 0) hi sl su pa (AT 0) (AU 0)], cSt G AP xp]) C (m_X4_ofDrive l G a hi sl su pa AP AT AU xp k 11) rfl 0 rfl 2 (gV kw_235 kw_236 kw_237 kw_1 kw_238) (by decide +kernel) ⟨(Nat.le_of_ble_eq_true rfl), (Nat.le_of_ble_eq_true rfl)⟩ rfl rfl (Nat.le_of_ble_eq_true rfl) dL_drive_267 ⟨(Nat.le_of_ble_eq_true rfl), (Nat.le_of_ble_eq_true rfl)⟩ (fl [[oH hi ha h], [oP pa ga w]]) (fl [[oX a (AP 0) hi sl su pa (AT 0) (AU 0)], cSt G AP xp, [oH hi ha h], [oP pa ga w]]) (bperm2 (bC := [[oX a (AP 0) hi sl su pa (AT 0) (AU 0)], cSt G AP xp]) (bR := [[oH hi ha h], [oP pa ga w]]) [0, 3, 1, 2] 4 rfl (by decide +kernel) rfl) (fl_app _ _) ?_
      refine j_perm (fl [[oX a (AP 0) hi sl su pa (AT 0) (AU 0)], [oH hi ha h], [oP pa ga w], cSt G AP xp]) (bperm [0, 2, 3, 1] 4 rfl (by decide +kernel) rfl) ?_
      refine j_iload C dL_drive_270 2 rfl ?_
      refine j_icmp_ne (tgt := 289) C dL_drive_272 (by decide) (fun h => absurd h (by exact (fun g => g e11))) (fun c272 => ?_)
      refine j_aload_n C dL_drive_275 6 rfl ?_
      refine j_iload_n C dL_drive_276 7 rfl ?_
      refine j_callV_i (r := f_X4_streak_r xp k) (wc' := fl [[oX a (AP 0) hi sl su pa (AT 0) (AU 0)], cSt G AP xp]) C (m_X4_streak l G a hi sl su pa AP AT AU xp k) rfl 0 rfl 1 (gV kw_274 kw_275 kw_276 kw_1 kw_277) (by decide +kernel) ⟨(Nat.le_of_ble_eq_true rfl), (Nat.le_of_ble_eq_true rfl)⟩ rfl rfl (Nat.le_of_ble_eq_true rfl) dL_drive_277 ⟨(Nat.le_of_ble_eq_true rfl), (Nat.le_of_ble_eq_true rfl)⟩ (fl [[oH hi ha h], [oP pa ga w]]) (fl [[oX a (AP 0) hi sl su pa (AT 0) (AU 0)], cSt G AP xp, [oH hi ha h], [oP pa ga w]]) (bperm2 (bC := [[oX a (AP 0) hi sl su pa (AT 0) (AU 0)], cSt G AP xp]) (bR := [[oH hi ha h], [oP pa ga w]]) [0, 3, 1, 2] 4 rfl (by decide +kernel) rfl) (fl_app _ _) ?_
      refine j_perm (fl [[oX a (AP 0) hi sl su pa (AT 0) (AU 0)], [oH hi ha h], [oP pa ga w], cSt G AP xp]) (bperm [0, 2, 3, 1] 4 rfl (by decide +kernel) rfl) ?_
      refine j_iload C dL_drive_280 1 rfl ?_
      refine j_icmp_ne (tgt := 289) C dL_drive_282 (by decide) (fun h => absurd h (by exact (fun g => g est))) (fun c282 => ?_)
      refine j_iconst (v := 1) C dL_drive_285 (by decide) ?_
      refine j_goto (tgt := 290) C dL_drive_286 (by decide) ?_
      refine j_istore_n C [(2, .int 1), (7, .int (nI 100)), (6, .int (stkA xp k 100)), (5, .int (accP xp k 100)), (4, .int (accK xp k 100)), (3, .int (accS xp k 100)), (0, .ref a), (1, .int k)] dL_drive_290 (by decide) rfl ?_
      refine j_iload_n C dL_drive_291 0 rfl ?_
      refine j_if_eq (tgt := 350) C dL_drive_292 (by decide) (fun h => absurd h (by decide)) (fun _ => ?_)
      refine j_aload_n C dL_drive_295 6 rfl ?_
      refine j_iload_n C dL_drive_296 7 rfl ?_
      refine j_iconst (v := 4) C dL_drive_297 (by decide) ?_
      refine j_callV_i (r := f_X4_ofDrive_r xp k 4) (wc' := fl [[oX a (AP 0) hi sl su pa (AT 0) (AU 0)], cSt G AP xp]) C (m_X4_ofDrive l G a hi sl su pa AP AT AU xp k 4) rfl 0 rfl 2 (gV kw_235 kw_236 kw_237 kw_1 kw_238) (by decide +kernel) ⟨(Nat.le_of_ble_eq_true rfl), (Nat.le_of_ble_eq_true rfl)⟩ rfl rfl (Nat.le_of_ble_eq_true rfl) dL_drive_298 ⟨(Nat.le_of_ble_eq_true rfl), (Nat.le_of_ble_eq_true rfl)⟩ (fl [[oH hi ha h], [oP pa ga w]]) (fl [[oX a (AP 0) hi sl su pa (AT 0) (AU 0)], cSt G AP xp, [oH hi ha h], [oP pa ga w]]) (bperm2 (bC := [[oX a (AP 0) hi sl su pa (AT 0) (AU 0)], cSt G AP xp]) (bR := [[oH hi ha h], [oP pa ga w]]) [0, 3, 1, 2] 4 rfl (by decide +kernel) rfl) (fl_app _ _) ?_
      refine j_perm (fl [[oX a (AP 0) hi sl su pa (AT 0) (AU 0)], [oH hi ha h], [oP pa ga w], cSt G AP xp]) (bperm [0, 2, 3, 1] 4 rfl (by decide +kernel) rfl) ?_
      refine j_aload_n C dL_drive_301 6 rfl ?_
      refine j_iconst (v := 1) C dL_drive_302 (by decide) ?_
      refine j_callV_i (r := f_X4_count_r h xp w 1) (wc' := fl [[oX a (AP 0) hi sl su pa (AT 0) (AU 0)], [oH hi ha h], cSt G AP xp, [oP pa ga w]]) C (m_X4_count l G a hi sl su pa ha ga AP AT AU h xp w 1) rfl 0 rfl 1 (gV kw_253 kw_254 kw_255 kw_1 kw_256) (by decide +kernel) ⟨(Nat.le_of_ble_eq_true rfl), (Nat.le_of_ble_eq_true rfl)⟩ rfl rfl (Nat.le_of_ble_eq_true rfl) dL_drive_303 ⟨(Nat.le_of_ble_eq_true rfl), (Nat.le_of_ble_eq_true rfl)⟩ (fl []) (fl [[oX a (AP 0) hi sl su pa (AT 0) (AU 0)], [oH hi ha h], cSt G AP xp, [oP pa ga w]]) (bperm2 (bC := [[oX a (AP 0) hi sl su pa (AT 0) (AU 0)], [oH hi ha h], cSt G AP xp, [oP pa ga w]]) (bR := []) [0, 1, 3, 2] 4 rfl (by decide +kernel) rfl) (fl_app _ _) ?_
      refine j_perm (fl [[oX a (AP 0) hi sl su pa (AT 0) (AU 0)], [oH hi ha h], [oP pa ga w], cSt G AP xp]) (bperm [0, 1, 3, 2] 4 rfl (by decide +kernel) rfl) ?_
      refine j_bipush (v := 100) C dL_drive_306 (by decide) ?_
      refine j_icmp_ge (tgt := 342) C dL_drive_308 (by decide) (fun h => absurd h (by exact d100)) (fun c308 => ?_)
      refine j_aload_n C dL_drive_311 6 rfl ?_
      refine j_iload_n C dL_drive_312 7 rfl ?_
      refine j_aload_n C dL_drive_313 6 rfl ?_
      refine j_iconst (v := 1) C dL_drive_314 (by decide) ?_
      refine j_callV_i (r := f_X4_count_r h xp w 1) (wc' := fl [[oX a (AP 0) hi sl su pa (AT 0) (AU 0)], [oH hi ha h], cSt G AP xp, [oP pa ga w]]) C (m_X4_count l G a hi sl su pa ha ga AP AT AU h xp w 1) rfl 0 rfl 1 (gV kw_253 kw_254 kw_255 kw_1 kw_256) (by decide +kernel) ⟨(Nat.le_of_ble_eq_true rfl), (Nat.le_of_ble_eq_true rfl)⟩ rfl rfl (Nat.le_of_ble_eq_true rfl) dL_drive_315 ⟨(Nat.le_of_ble_eq_true rfl), (Nat.le_of_ble_eq_true rfl)⟩ (fl []) (fl [[oX a (AP 0) hi sl su pa (AT 0) (AU 0)], [oH hi ha h], cSt G AP xp, [oP pa ga w]]) (bperm2 (bC := [[oX a (AP 0) hi sl su pa (AT 0) (AU 0)], [oH hi ha h], cSt G AP xp, [oP pa ga w]]) (bR := []) [0, 1, 3, 2] 4 rfl (by decide +kernel) rfl) (fl_app _ _) ?_
      refine j_perm (fl [[oX a (AP 0) hi sl su pa (AT 0) (AU 0)], [oH hi ha h], [oP pa ga w], cSt G AP xp]) (bperm [0, 1, 3, 2] 4 rfl (by decide +kernel) rfl) ?_
      refine j_bipush (v := 100) C dL_drive_318 (by decide) ?_
      refine j_icmp_ge (tgt := 331) C dL_drive_320 (by decide) (fun h => absurd h (by exact d100)) (fun c320 => ?_)
      refine j_aload_n C dL_drive_323 6 rfl ?_
      refine j_iconst (v := 1) C dL_drive_324 (by decide) ?_
      refine j_callV_i (r := f_X4_count_r h xp w 1) (wc' := fl [[oX a (AP 0) hi sl su pa (AT 0) (AU 0)], [oH hi ha h], cSt G AP xp, [oP pa ga w]]) C (m_X4_count l G a hi sl su pa ha ga AP AT AU h xp w 1) rfl 0 rfl 1 (gV kw_253 kw_254 kw_255 kw_1 kw_256) (by decide +kernel) ⟨(Nat.le_of_ble_eq_true rfl), (Nat.le_of_ble_eq_true rfl)⟩ rfl rfl (Nat.le_of_ble_eq_true rfl) dL_drive_325 ⟨(Nat.le_of_ble_eq_true rfl), (Nat.le_of_ble_eq_true rfl)⟩ (fl []) (fl [[oX a (AP 0) hi sl su pa (AT 0) (AU 0)], [oH hi ha h], cSt G AP xp, [oP pa ga w]]) (bperm2 (bC := [[oX a (AP 0) hi sl su pa (AT 0) (AU 0)], [oH hi ha h], cSt G AP xp, [oP pa ga w]]) (bR := []) [0, 1, 3, 2] 4 rfl (by decide +kernel) rfl) (fl_app _ _) ?_
      refine j_goto (tgt := 332) C dL_drive_328 (by decide) ?_
      refine j_perm (fl [[oX a (AP 0) hi sl su pa (AT 0) (AU 0)], [oH hi ha h], [oP pa ga w], cSt G AP xp]) (bperm [0, 1, 3, 2] 4 rfl (by decide +kernel) rfl) ?_
      refine j_callV_i (r := f_X4_hour_r xp k (f_X4_count_r h xp w 1)) (wc' := fl [[oX a (AP 0) hi sl su pa (AT 0) (AU 0)], cSt G AP xp]) C (m_X4_hour l G a hi sl su pa AP AT AU xp k (f_X4_count_r h xp w 1)) rfl 0 rfl 2 (gV kw_268 kw_269 kw_270 kw_1 kw_271) (by decide +kernel) ⟨(Nat.le_of_ble_eq_true rfl), (Nat.le_of_ble_eq_true rfl)⟩ rfl rfl (Nat.le_of_ble_eq_true rfl) dL_drive_332 ⟨(Nat.le_of_ble_eq_true rfl), (Nat.le_of_ble_eq_true rfl)⟩ (fl [[oH hi ha h], [oP pa ga w]]) (fl [[oX a (AP 0) hi sl su pa (AT 0) (AU 0)], cSt G AP xp, [oH hi ha h], [oP pa ga w]]) (bperm2 (bC := [[oX a (AP 0) hi sl su pa (AT 0) (AU 0)], cSt G AP xp]) (bR := [[oH hi ha h], [oP pa ga w]]) [0, 3, 1, 2] 4 rfl (by decide +kernel) rfl) (fl_app _ _) ?_
      have K343 : WJ p l e (RM 5) s m args below meth c G A 9 0 0 Q (fl [[oX a (AP 0) hi sl su pa (AT 0) (AU 0)], [oH hi ha h], [oP pa ga w], cSt G AP xp]) [(2, .int 1), (7, .int (nI 100)), (6, .int (stkA xp k 100)), (5, .int (accP xp k 100)), (4, .int (accK xp k 100)), (3, .int (accS xp k 100)), (0, .ref a), (1, .int k)] 343 [.int (f_L_drive_x17 h xp w k), .int (f_X4_ofDrive_r xp k 4)] := by
        generalize hw0 : f_L_drive_x17 h xp w k = w0
        refine j_icmp_ne (tgt := 350) C dL_drive_343 (by decide) (fun h => absurd h (by subst hw0; exact (fun g => g e4))) (fun c343 => ?_)
        refine j_iconst (v := 1) C dL_drive_346 (by decide) ?_
        refine j_goto (tgt := 351) C dL_drive_347 (by decide) ?_
        refine j_istore_n C [(2, .int 1), (7, .int (nI 100)), (6, .int (stkA xp k 100)), (5, .int (accP xp k 100)), (4, .int (accK xp k 100)), (3, .int (accS xp k 100)), (0, .ref a), (1, .int k)] dL_drive_351 (by decide) rfl ?_
        refine j_iload_n C dL_drive_352 0 rfl ?_
        refine j_if_eq (tgt := 404) C dL_drive_353 (by decide) (fun h => absurd h (by decide)) (fun _ => ?_)
        refine j_aload_n C dL_drive_356 6 rfl ?_
        refine j_iload_n C dL_drive_357 7 rfl ?_
        refine j_bipush (v := 8) C dL_drive_358 (by decide) ?_
        refine j_callV_i (r := f_X4_ofDrive_r xp k 8) (wc' := fl [[oX a (AP 0) hi sl su pa (AT 0) (AU 0)], cSt G AP xp]) C (m_X4_ofDrive l G a hi sl su pa AP AT AU xp k 8) rfl 0 rfl 2 (gV kw_235 kw_236 kw_237 kw_1 kw_238) (by decide +kernel) ⟨(Nat.le_of_ble_eq_true rfl), (Nat.le_of_ble_eq_true rfl)⟩ rfl rfl (Nat.le_of_ble_eq_true rfl) dL_drive_360 ⟨(Nat.le_of_ble_eq_true rfl), (Nat.le_of_ble_eq_true rfl)⟩ (fl [[oH hi ha h], [oP pa ga w]]) (fl [[oX a (AP 0) hi sl su pa (AT 0) (AU 0)], cSt G AP xp, [oH hi ha h], [oP pa ga w]]) (bperm2 (bC := [[oX a (AP 0) hi sl su pa (AT 0) (AU 0)], cSt G AP xp]) (bR := [[oH hi ha h], [oP pa ga w]]) [0, 3, 1, 2] 4 rfl (by decide +kernel) rfl) (fl_app _ _) ?_
        refine j_perm (fl [[oX a (AP 0) hi sl su pa (AT 0) (AU 0)], [oH hi ha h], [oP pa ga w], cSt G AP xp]) (bperm [0, 2, 3, 1] 4 rfl (by decide +kernel) rfl) ?_
        refine j_aload_n C dL_drive_363 6 rfl ?_
        refine j_iload_n C dL_drive_364 7 rfl ?_
        refine j_bipush (v := 7) C dL_drive_365 (by decide) ?_
        refine j_callV_i (r := f_X4_ofDrive_r xp k 7) (wc' := fl [[oX a (AP 0) hi sl su pa (AT 0) (AU 0)], cSt G AP xp]) C (m_X4_ofDrive l G a hi sl su pa AP AT AU xp k 7) rfl 0 rfl 2 (gV kw_235 kw_236 kw_237 kw_1 kw_238) (by decide +kernel) ⟨(Nat.le_of_ble_eq_true rfl), (Nat.le_of_ble_eq_true rfl)⟩ rfl rfl (Nat.le_of_ble_eq_true rfl) dL_drive_367 ⟨(Nat.le_of_ble_eq_true rfl), (Nat.le_of_ble_eq_true rfl)⟩ (fl [[oH hi ha h], [oP pa ga w]]) (fl [[oX a (AP 0) hi sl su pa (AT 0) (AU 0)], cSt G AP xp, [oH hi ha h], [oP pa ga w]]) (bperm2 (bC := [[oX a (AP 0) hi sl su pa (AT 0) (AU 0)], cSt G AP xp]) (bR := [[oH hi ha h], [oP pa ga w]]) [0, 3, 1, 2] 4 rfl (by decide +kernel) rfl) (fl_app _ _) ?_
        refine j_icmp_gt (tgt := 404) C dL_drive_370 (by decide) (fun h => absurd h (by subst hw0; exact o87)) (fun c370 => ?_)
        refine j_perm (fl [[oX a (AP 0) hi sl su pa (AT 0) (AU 0)], [oH hi ha h], [oP pa ga w], cSt G AP xp]) (bperm [0, 2, 3, 1] 4 rfl (by decide +kernel) rfl) ?_
        refine j_aload_n C dL_drive_373 6 rfl ?_
        refine j_iload_n C dL_drive_374 7 rfl ?_
        refine j_bipush (v := 7) C dL_drive_375 (by decide) ?_
        refine j_callV_i (r := f_X4_ofDrive_r xp k 7) (wc' := fl [[oX a (AP 0) hi sl su pa (AT 0) (AU 0)], cSt G AP xp]) C (m_X4_ofDrive l G a hi sl su pa AP AT AU xp k 7) rfl 0 rfl 2 (gV kw_235 kw_236 kw_237 kw_1 kw_238) (by decide +kernel) ⟨(Nat.le_of_ble_eq_true rfl), (Nat.le_of_ble_eq_true rfl)⟩ rfl rfl (Nat.le_of_ble_eq_true rfl) dL_drive_377 ⟨(Nat.le_of_ble_eq_true rfl), (Nat.le_of_ble_eq_true rfl)⟩ (fl [[oH hi ha h], [oP pa ga w]]) (fl [[oX a (AP 0) hi sl su pa (AT 0) (AU 0)], cSt G AP xp, [oH hi ha h], [oP pa ga w]]) (bperm2 (bC := [[oX a (AP 0) hi sl su pa (AT 0) (AU 0)], cSt G AP xp]) (bR := [[oH hi ha h], [oP pa ga w]]) [0, 3, 1, 2] 4 rfl (by decide +kernel) rfl) (fl_app _ _) ?_
        refine j_perm (fl [[oX a (AP 0) hi sl su pa (AT 0) (AU 0)], [oH hi ha h], [oP pa ga w], cSt G AP xp]) (bperm [0, 2, 3, 1] 4 rfl (by decide +kernel) rfl) ?_
        refine j_aload_n C dL_drive_380 6 rfl ?_
        refine j_iconst (v := 0) C dL_drive_381 (by decide) ?_
        refine j_callV_i (r := f_X4_count_r h xp w 0) (wc' := fl [[oX a (AP 0) hi sl su pa (AT 0) (AU 0)], [oH hi ha h], cSt G AP xp, [oP pa ga w]]) C (m_X4_count l G a hi sl su pa ha ga AP AT AU h xp w 0) rfl 0 rfl 1 (gV kw_253 kw_254 kw_255 kw_1 kw_256) (by decide +kernel) ⟨(Nat.le_of_ble_eq_true rfl), (Nat.le_of_ble_eq_true rfl)⟩ rfl rfl (Nat.le_of_ble_eq_true rfl) dL_drive_382 ⟨(Nat.le_of_ble_eq_true rfl), (Nat.le_of_ble_eq_true rfl)⟩ (fl []) (fl [[oX a (AP 0) hi sl su pa (AT 0) (AU 0)], [oH hi ha h], cSt G AP xp, [oP pa ga w]]) (bperm2 (bC := [[oX a (AP 0) hi sl su pa (AT 0) (AU 0)], [oH hi ha h], cSt G AP xp, [oP pa ga w]]) (bR := []) [0, 1, 3, 2] 4 rfl (by decide +kernel) rfl) (fl_app _ _) ?_
        refine j_icmp_gt (tgt := 404) C dL_drive_385 (by decide) (fun h => absurd h (by subst hw0; exact o7n)) (fun c385 => ?_)
        refine j_perm (fl [[oX a (AP 0) hi sl su pa (AT 0) (AU 0)], [oH hi ha h], [oP pa ga w], cSt G AP xp]) (bperm [0, 1, 3, 2] 4 rfl (by decide +kernel) rfl) ?_
        refine j_iload C dL_drive_388 3 rfl ?_
        refine j_aload_n C dL_drive_390 6 rfl ?_
        refine j_iload_n C dL_drive_391 7 rfl ?_
        refine j_bipush (v := 8) C dL_drive_392 (by decide) ?_
        refine j_callV_i (r := f_X4_ofDrive_r xp k 8) (wc' := fl [[oX a (AP 0) hi sl su pa (AT 0) (AU 0)], cSt G AP xp]) C (m_X4_ofDrive l G a hi sl su pa AP AT AU xp k 8) rfl 0 rfl 2 (gV kw_235 kw_236 kw_237 kw_1 kw_238) (by decide +kernel) ⟨(Nat.le_of_ble_eq_true rfl), (Nat.le_of_ble_eq_true rfl)⟩ rfl rfl (Nat.le_of_ble_eq_true rfl) dL_drive_394 ⟨(Nat.le_of_ble_eq_true rfl), (Nat.le_of_ble_eq_true rfl)⟩ (fl [[oH hi ha h], [oP pa ga w]]) (fl [[oX a (AP 0) hi sl su pa (AT 0) (AU 0)], cSt G AP xp, [oH hi ha h], [oP pa ga w]]) (bperm2 (bC := [[oX a (AP 0) hi sl su pa (AT 0) (AU 0)], cSt G AP xp]) (bR := [[oH hi ha h], [oP pa ga w]]) [0, 3, 1, 2] 4 rfl (by decide +kernel) rfl) (fl_app _ _) ?_
        refine j_icmp_gt (tgt := 404) C dL_drive_397 (by decide) (fun h => absurd h (by subst hw0; exact o8p)) (fun c397 => ?_)
        refine j_perm (fl [[oX a (AP 0) hi sl su pa (AT 0) (AU 0)], [oH hi ha h], [oP pa ga w], cSt G AP xp]) (bperm [0, 2, 3, 1] 4 rfl (by decide +kernel) rfl) ?_
        refine j_iconst (v := 1) C dL_drive_400 (by decide) ?_
        refine j_goto (tgt := 405) C dL_drive_401 (by decide) ?_
        refine j_istore_n C [(2, .int 1), (7, .int (nI 100)), (6, .int (stkA xp k 100)), (5, .int (accP xp k 100)), (4, .int (accK xp k 100)), (3, .int (accS xp k 100)), (0, .ref a), (1, .int k)] dL_drive_405 (by decide) rfl ?_
        refine j_iload_n C dL_drive_406 0 rfl ?_
        refine j_if_eq (tgt := 455) C dL_drive_407 (by decide) (fun h => absurd h (by decide)) (fun _ => ?_)
        refine j_aload_n C dL_drive_410 6 rfl ?_
        refine j_iload_n C dL_drive_411 7 rfl ?_
        refine j_callV_i (r := f_X4_share_r xp k) (wc' := fl [[oX a (AP 0) hi sl su pa (AT 0) (AU 0)], cSt G AP xp]) C (m_X4_share l G a hi sl su pa AP AT AU xp k) rfl 0 rfl 1 (gV kw_282 kw_283 kw_284 kw_1 kw_285) (by decide +kernel) ⟨(Nat.le_of_ble_eq_true rfl), (Nat.le_of_ble_eq_true rfl)⟩ rfl rfl (Nat.le_of_ble_eq_true rfl) dL_drive_412 ⟨(Nat.le_of_ble_eq_true rfl), (Nat.le_of_ble_eq_true rfl)⟩ (fl [[oH hi ha h], [oP pa ga w]]) (fl [[oX a (AP 0) hi sl su pa (AT 0) (AU 0)], cSt G AP xp, [oH hi ha h], [oP pa ga w]]) (bperm2 (bC := [[oX a (AP 0) hi sl su pa (AT 0) (AU 0)], cSt G AP xp]) (bR := [[oH hi ha h], [oP pa ga w]]) [0, 3, 1, 2] 4 rfl (by decide +kernel) rfl) (fl_app _ _) ?_
        refine j_perm (fl [[oX a (AP 0) hi sl su pa (AT 0) (AU 0)], [oH hi ha h], [oP pa ga w], cSt G AP xp]) (bperm [0, 2, 3, 1] 4 rfl (by decide +kernel) rfl) ?_
        refine j_bipush (v := (-6)) C dL_drive_415 (by decide) ?_
        have K425 : WJ p l e (RM 5) s m args below meth c G A 9 0 0 Q (fl [[oX a (AP 0) hi sl su pa (AT 0) (AU 0)], [oH hi ha h], [oP pa ga w], cSt G AP xp]) [(2, .int 1), (7, .int (nI 100)), (6, .int (stkA xp k 100)), (5, .int (accP xp k 100)), (4, .int (accK xp k 100)), (3, .int (accS xp k 100)), (0, .ref a), (1, .int k)] 425 [.int (f_L_drive_x24 h xp w k)] := by
          generalize hw1 : f_L_drive_x24 h xp w k = w1
          refine j_iload C dL_drive_425 4 rfl ?_
          refine j_iload C dL_drive_427 3 rfl ?_
          refine j_iadd C dL_drive_429 rfl ?_
          have K438 : WJ p l e (RM 5) s m args below meth c G A 9 0 0 Q (fl [[oX a (AP 0) hi sl su pa (AT 0) (AU 0)], [oH hi ha h], [oP pa ga w], cSt G AP xp]) [(2, .int 1), (7, .int (nI 100)), (6, .int (stkA xp k 100)), (5, .int (accP xp k 100)), (4, .int (accK xp k 100)), (3, .int (accS xp k 100)), (0, .ref a), (1, .int k)] 438 [.int (f_L_drive_x25 h xp w k), .int w1] := by
            generalize hw2 : f_L_drive_x25 h xp w k = w2
            refine j_icmp_ne (tgt := 455) C dL_drive_438 (by decide) (fun h => absurd h (by subst hw0 hw1 hw2; exact (fun g => g esh))) (fun c438 => ?_)
            refine j_aload_n C dL_drive_441 6 rfl ?_
            refine j_iload_n C dL_drive_442 7 rfl ?_
            refine j_callV_i (r := f_X4_streak_r xp k) (wc' := fl [[oX a (AP 0) hi sl su pa (AT 0) (AU 0)], cSt G AP xp]) C (m_X4_streak l G a hi sl su pa AP AT AU xp k) rfl 0 rfl 1 (gV kw_274 kw_275 kw_276 kw_1 kw_277) (by decide +kernel) ⟨(Nat.le_of_ble_eq_true rfl), (Nat.le_of_ble_eq_true rfl)⟩ rfl rfl (Nat.le_of_ble_eq_true rfl) dL_drive_443 ⟨(Nat.le_of_ble_eq_true rfl), (Nat.le_of_ble_eq_true rfl)⟩ (fl [[oH hi ha h], [oP pa ga w]]) (fl [[oX a (AP 0) hi sl su pa (AT 0) (AU 0)], cSt G AP xp, [oH hi ha h], [oP pa ga w]]) (bperm2 (bC := [[oX a (AP 0) hi sl su pa (AT 0) (AU 0)], cSt G AP xp]) (bR := [[oH hi ha h], [oP pa ga w]]) [0, 3, 1, 2] 4 rfl (by decide +kernel) rfl) (fl_app _ _) ?_
            refine j_perm (fl [[oX a (AP 0) hi sl su pa (AT 0) (AU 0)], [oH hi ha h], [oP pa ga w], cSt G AP xp]) (bperm [0, 2, 3, 1] 4 rfl (by decide +kernel) rfl) ?_
            refine j_iload C dL_drive_446 4 rfl ?_
            refine j_icmp_gt (tgt := 455) C dL_drive_448 (by decide) (fun h => absurd h (by subst hw0 hw1 hw2; exact okp)) (fun c448 => ?_)
            refine j_iconst (v := 1) C dL_drive_451 (by decide) ?_
            refine j_goto (tgt := 456) C dL_drive_452 (by decide) ?_
            refine j_perm (fl [[oX a (AP 0) hi sl su pa (AT 0) (AU 0)], [oH hi ha h], cSt G AP xp, [oP pa ga w]]) (bperm [0, 1, 3, 2] 4 rfl (by decide +kernel) rfl) ?_
            subst hQ; subst hw0 hw1 hw2; exact j_zret C hr hk rfl rfl rfl dL_drive_456
          refine j_if_ne (tgt := 437) C dL_drive_430 (by decide) (fun c430 => ?_) (fun c430 => ?_)
          · refine j_iconst (v := 0) C dL_drive_437 (by decide) ?_
            subst hw0 hw1; exact j_eq rfl rfl (by rw [show f_L_drive_x25 h xp w k = 0 from (if_neg c430)]) K438
          · refine j_iconst (v := 1) C dL_drive_433 (by decide) ?_
            refine j_goto (tgt := 438) C dL_drive_434 (by decide) ?_
            subst hw0 hw1; exact j_eq rfl rfl (by rw [show f_L_drive_x25 h xp w k = 1 from (if_pos c430)]) K438
        refine j_icmp_ne (tgt := 424) C dL_drive_417 (by decide) (fun c417 => ?_) (fun c417 => ?_)
        · refine j_iconst (v := 0) C dL_drive_424 (by decide) ?_
          subst hw0; exact j_eq rfl rfl (by rw [show f_L_drive_x24 h xp w k = 0 from (if_neg c417)]) K425
        · refine j_iconst (v := 1) C dL_drive_420 (by decide) ?_
          refine j_goto (tgt := 425) C dL_drive_421 (by decide) ?_
          subst hw0; exact j_eq rfl rfl (by rw [show f_L_drive_x24 h xp w k = 1 from (if_pos c417)]) K425
      refine j_if_le (tgt := 342) C dL_drive_335 (by decide) (fun c335 => ?_) (fun c335 => ?_)
      · refine j_perm (fl [[oX a (AP 0) hi sl su pa (AT 0) (AU 0)], [oH hi ha h], [oP pa ga w], cSt G AP xp]) (bperm [0, 2, 3, 1] 4 rfl (by decide +kernel) rfl) ?_
        refine j_iconst (v := 0) C dL_drive_342 (by decide) ?_
        exact j_eq rfl rfl (by rw [show f_L_drive_x17 h xp w k = 0 from (if_pos c335)]) K343
      · refine j_perm (fl [[oX a (AP 0) hi sl su pa (AT 0) (AU 0)], [oH hi ha h], [oP pa ga w], cSt G AP xp]) (bperm [0, 2, 3, 1] 4 rfl (by decide +kernel) rfl) ?_
        refine j_iconst (v := 1) C dL_drive_338 (by decide) ?_
        refine j_goto (tgt := 343) C dL_drive_339 (by decide) ?_
        exact j_eq rfl rfl (by rw [show f_L_drive_x17 h xp w k = 1 from (if_neg c335)]) K343
    | succ n ih =>
      intro i hIN
      have hlt : i < 100 := by omega
      refine j_iload C dL_drive_72 0 rfl ?_
      refine j_bipush (v := 100) C dL_drive_74 (by decide) ?_
      refine j_icmp_ge (tgt := 236) C dL_drive_76 (by decide) (fun h => absurd h (nI_ge (b := 100) hlt (by decide))) (fun c76 => ?_)
      refine j_iload_n C dL_drive_79 5 rfl ?_
      refine j_if_eq (tgt := 236) C dL_drive_80 (by decide) (fun h => absurd h (by decide)) (fun _ => ?_)
      refine j_aload_n C dL_drive_83 6 rfl ?_
      refine j_iload_n C dL_drive_84 7 rfl ?_
      refine j_iload C dL_drive_85 0 rfl ?_
      refine j_callV_i (r := f_X4_hour_r xp k (nI i)) (wc' := fl [[oX a (AP 0) hi sl su pa (AT 0) (AU 0)], cSt G AP xp]) C (m_X4_hour l G a hi sl su pa AP AT AU xp k (nI i)) rfl 0 rfl 2 (gV kw_268 kw_269 kw_270 kw_1 kw_271) (by decide +kernel) ⟨(Nat.le_of_ble_eq_true rfl), (Nat.le_of_ble_eq_true rfl)⟩ rfl rfl (Nat.le_of_ble_eq_true rfl) dL_drive_87 ⟨(Nat.le_of_ble_eq_true rfl), (Nat.le_of_ble_eq_true rfl)⟩ (fl [[oH hi ha h], [oP pa ga w]]) (fl [[oX a (AP 0) hi sl su pa (AT 0) (AU 0)], cSt G AP xp, [oH hi ha h], [oP pa ga w]]) (bperm2 (bC := [[oX a (AP 0) hi sl su pa (AT 0) (AU 0)], cSt G AP xp]) (bR := [[oH hi ha h], [oP pa ga w]]) [0, 3, 1, 2] 4 rfl (by decide +kernel) rfl) (fl_app _ _) ?_
      refine j_perm (fl [[oX a (AP 0) hi sl su pa (AT 0) (AU 0)], [oH hi ha h], [oP pa ga w], cSt G AP xp]) (bperm [0, 2, 3, 1] 4 rfl (by decide +kernel) rfl) ?_
      refine j_istore C [(8, .int (f_X4_hour_r xp k (nI i))), (7, .int (nI i)), (6, .int (stkA xp k i)), (5, .int (accP xp k i)), (4, .int (accK xp k i)), (3, .int (accS xp k i)), (2, .int 1), (0, .ref a), (1, .int k)] dL_drive_90 (by decide) rfl ?_
      refine j_iload_n C dL_drive_92 5 rfl ?_
      refine j_iload C dL_drive_93 0 rfl ?_
      have K103 : WJ p l e (RM 5) s m args below meth c G A 9 0 0 Q (fl [[oX a (AP 0) hi sl su pa (AT 0) (AU 0)], [oH hi ha h], [oP pa ga w], cSt G AP xp]) [(8, .int (f_X4_hour_r xp k (nI i))), (7, .int (nI i)), (6, .int (stkA xp k i)), (5, .int (accP xp k i)), (4, .int (accK xp k i)), (3, .int (accS xp k i)), (2, .int 1), (0, .ref a), (1, .int k)] 103 [.int (f_L_drive_x28 h xp w k i), .int (accS xp k i)] := by
        generalize hw3 : f_L_drive_x28 h xp w k i = w3
        refine j_iadd C dL_drive_103 rfl ?_
        refine j_istore_n C [(3, .int ((accS xp k i) + w3)), (8, .int (f_X4_hour_r xp k (nI i))), (7, .int (nI i)), (6, .int (stkA xp k i)), (5, .int (accP xp k i)), (4, .int (accK xp k i)), (2, .int 1), (0, .ref a), (1, .int k)] dL_drive_104 (by decide) rfl ?_
        refine j_iload C dL_drive_105 5 rfl ?_
        refine j_iload C dL_drive_107 1 rfl ?_
        refine j_iconst (v := 2) C dL_drive_109 (by decide) ?_
        have K118 : WJ p l e (RM 5) s m args below meth c G A 9 0 0 Q (fl [[oX a (AP 0) hi sl su pa (AT 0) (AU 0)], [oH hi ha h], [oP pa ga w], cSt G AP xp]) [(3, .int ((accS xp k i) + w3)), (8, .int (f_X4_hour_r xp k (nI i))), (7, .int (nI i)), (6, .int (stkA xp k i)), (5, .int (accP xp k i)), (4, .int (accK xp k i)), (2, .int 1), (0, .ref a), (1, .int k)] 118 [.int (f_L_drive_x29 h xp w k i), .int (accK xp k i)] := by
          generalize hw4 : f_L_drive_x29 h xp w k i = w4
          refine j_iadd C dL_drive_118 rfl ?_
          refine j_istore C [(4, .int ((accK xp k i) + w4)), (3, .int ((accS xp k i) + w3)), (8, .int (f_X4_hour_r xp k (nI i))), (7, .int (nI i)), (6, .int (stkA xp k i)), (5, .int (accP xp k i)), (2, .int 1), (0, .ref a), (1, .int k)] dL_drive_119 (by decide) rfl ?_
          refine j_iload C dL_drive_121 5 rfl ?_
          refine j_iload C dL_drive_123 2 rfl ?_
          refine j_iconst (v := 3) C dL_drive_125 (by decide) ?_
          have K134 : WJ p l e (RM 5) s m args below meth c G A 9 0 0 Q (fl [[oX a (AP 0) hi sl su pa (AT 0) (AU 0)], [oH hi ha h], [oP pa ga w], cSt G AP xp]) [(4, .int ((accK xp k i) + w4)), (3, .int ((accS xp k i) + w3)), (8, .int (f_X4_hour_r xp k (nI i))), (7, .int (nI i)), (6, .int (stkA xp k i)), (5, .int (accP xp k i)), (2, .int 1), (0, .ref a), (1, .int k)] 134 [.int (f_L_drive_x30 h xp w k i), .int (accP xp k i)] := by
            generalize hw5 : f_L_drive_x30 h xp w k i = w5
            refine j_iadd C dL_drive_134 rfl ?_
            refine j_istore C [(5, .int ((accP xp k i) + w5)), (4, .int ((accK xp k i) + w4)), (3, .int ((accS xp k i) + w3)), (8, .int (f_X4_hour_r xp k (nI i))), (7, .int (nI i)), (6, .int (stkA xp k i)), (2, .int 1), (0, .ref a), (1, .int k)] dL_drive_135 (by decide) rfl ?_
            refine j_iload C dL_drive_137 3 rfl ?_
            refine j_iconst (v := 3) C dL_drive_139 (by decide) ?_
            have K162 : WJ p l e (RM 5) s m args below meth c G A 9 0 0 Q (fl [[oX a (AP 0) hi sl su pa (AT 0) (AU 0)], [oH hi ha h], [oP pa ga w], cSt G AP xp]) [(5, .int ((accP xp k i) + w5)), (4, .int ((accK xp k i) + w4)), (3, .int ((accS xp k i) + w3)), (8, .int (f_X4_hour_r xp k (nI i))), (7, .int (nI i)), (6, .int (stkA xp k i)), (2, .int 1), (0, .ref a), (1, .int k)] 162 [.int (f_L_drive_x31 h xp w k i)] := by
              generalize hw6 : f_L_drive_x31 h xp w k i = w6
              refine j_istore C [(6, .int w6), (5, .int ((accP xp k i) + w5)), (4, .int ((accK xp k i) + w4)), (3, .int ((accS xp k i) + w3)), (8, .int (f_X4_hour_r xp k (nI i))), (7, .int (nI i)), (2, .int 1), (0, .ref a), (1, .int k)] dL_drive_162 (by decide) rfl ?_
              refine j_iload C dL_drive_164 4 rfl ?_
              refine j_iconst (v := 2) C dL_drive_166 (by decide) ?_
              have K229 : WJ p l e (RM 5) s m args below meth c G A 9 0 0 Q (fl [[oX a (AP 0) hi sl su pa (AT 0) (AU 0)], [oH hi ha h], [oP pa ga w], cSt G AP xp]) [(6, .int w6), (5, .int ((accP xp k i) + w5)), (4, .int ((accK xp k i) + w4)), (3, .int ((accS xp k i) + w3)), (8, .int (f_X4_hour_r xp k (nI i))), (7, .int (nI i)), (2, .int 1), (0, .ref a), (1, .int k)] 229 [.int 1] := by
                refine j_istore_n C [(2, .int 1), (6, .int w6), (5, .int ((accP xp k i) + w5)), (4, .int ((accK xp k i) + w4)), (3, .int ((accS xp k i) + w3)), (8, .int (f_X4_hour_r xp k (nI i))), (7, .int (nI i)), (0, .ref a), (1, .int k)] dL_drive_229 (by decide) rfl ?_
                refine j_iinc (v := nI (i + 1)) C [(7, .int (nI (i + 1))), (2, .int 1), (6, .int w6), (5, .int ((accP xp k i) + w5)), (4, .int ((accK xp k i) + w4)), (3, .int ((accS xp k i) + w3)), (8, .int (f_X4_hour_r xp k (nI i))), (0, .ref a), (1, .int k)] dL_drive_230 (k := 6) rfl (nI_1 i) (by decide) rfl ?_
                refine j_goto (tgt := 72) C dL_drive_233 (by decide) ?_
                refine j_lv [0, 2, 3, 4, 5, 1, 7, 8] [(7, .int (nI (i + 1))), (6, .int w6), (5, .int ((accP xp k i) + w5)), (4, .int ((accK xp k i) + w4)), (3, .int ((accS xp k i) + w3)), (2, .int 1), (0, .ref a), (1, .int k)] rfl ?_
                subst hw3 hw4 hw5 hw6; exact j_eq rfl (by rw [show stkA xp k (i + 1) = (f_L_drive_x31 h xp w k i) from rfl, show accP xp k (i + 1) = (accP xp k i) + (f_L_drive_x30 h xp w k i) from rfl, show accK xp k (i + 1) = (accK xp k i) + (f_L_drive_x29 h xp w k i) from rfl, show accS xp k (i + 1) = (accS xp k i) + (f_L_drive_x28 h xp w k i) from rfl]) rfl (ih (i + 1) (by omega))
              refine j_icmp_lt (tgt := 180) C dL_drive_167 (by decide) (fun c167 => ?_) (fun c167 => ?_)
              · refine j_iload C dL_drive_180 4 rfl ?_
                refine j_iconst (v := 2) C dL_drive_182 (by decide) ?_
                refine j_icmp_ne (tgt := 202) C dL_drive_183 (by decide) (fun c183 => ?_) (fun c183 => ?_)
                · refine j_iload C dL_drive_202 4 rfl ?_
                  refine j_iconst (v := 1) C dL_drive_204 (by decide) ?_
                  refine j_icmp_ne (tgt := 224) C dL_drive_205 (by decide) (fun c205 => ?_) (fun c205 => ?_)
                  · refine j_iconst (v := 1) C dL_drive_224 (by decide) ?_
                    refine j_goto (tgt := 229) C dL_drive_225 (by decide) ?_
                    subst hw3 hw4 hw5 hw6; exact j_eq rfl rfl rfl K229
                  · refine j_bipush (v := 60) C dL_drive_208 (by decide) ?_
                    refine j_iload C dL_drive_210 5 rfl ?_
                    refine j_imul C dL_drive_212 rfl ?_
                    refine j_bipush (v := 60) C dL_drive_213 (by decide) ?_
                    refine j_iadd C dL_drive_215 rfl ?_
                    refine j_aload_n C dL_drive_216 7 rfl ?_
                    refine j_iconst (v := 0) C dL_drive_217 (by decide) ?_
                    refine j_callV_i (r := f_X4_count_r h xp w 0) (wc' := fl [[oX a (AP 0) hi sl su pa (AT 0) (AU 0)], [oH hi ha h], cSt G AP xp, [oP pa ga w]]) C (m_X4_count l G a hi sl su pa ha ga AP AT AU h xp w 0) rfl 0 rfl 1 (gV kw_253 kw_254 kw_255 kw_1 kw_256) (by decide +kernel) ⟨(Nat.le_of_ble_eq_true rfl), (Nat.le_of_ble_eq_true rfl)⟩ rfl rfl (Nat.le_of_ble_eq_true rfl) dL_drive_218 ⟨(Nat.le_of_ble_eq_true rfl), (Nat.le_of_ble_eq_true rfl)⟩ (fl []) (fl [[oX a (AP 0) hi sl su pa (AT 0) (AU 0)], [oH hi ha h], cSt G AP xp, [oP pa ga w]]) (bperm2 (bC := [[oX a (AP 0) hi sl su pa (AT 0) (AU 0)], [oH hi ha h], cSt G AP xp, [oP pa ga w]]) (bR := []) [0, 1, 3, 2] 4 rfl (by decide +kernel) rfl) (fl_app _ _) ?_
                    refine j_icmp_lt (tgt := 228) C dL_drive_221 (by decide) (fun h => absurd h (by subst hw3 hw4 hw5 hw6; exact ds i hlt c205)) (fun c221 => ?_)
                    refine j_perm (fl [[oX a (AP 0) hi sl su pa (AT 0) (AU 0)], [oH hi ha h], [oP pa ga w], cSt G AP xp]) (bperm [0, 1, 3, 2] 4 rfl (by decide +kernel) rfl) ?_
                    refine j_iconst (v := 1) C dL_drive_224 (by decide) ?_
                    refine j_goto (tgt := 229) C dL_drive_225 (by decide) ?_
                    subst hw3 hw4 hw5 hw6; exact j_eq rfl rfl rfl K229
                · refine j_bipush (v := 60) C dL_drive_186 (by decide) ?_
                  refine j_iload C dL_drive_188 5 rfl ?_
                  refine j_imul C dL_drive_190 rfl ?_
                  refine j_bipush (v := 60) C dL_drive_191 (by decide) ?_
                  refine j_iadd C dL_drive_193 rfl ?_
                  refine j_aload_n C dL_drive_194 7 rfl ?_
                  refine j_iconst (v := 0) C dL_drive_195 (by decide) ?_
                  refine j_callV_i (r := f_X4_count_r h xp w 0) (wc' := fl [[oX a (AP 0) hi sl su pa (AT 0) (AU 0)], [oH hi ha h], cSt G AP xp, [oP pa ga w]]) C (m_X4_count l G a hi sl su pa ha ga AP AT AU h xp w 0) rfl 0 rfl 1 (gV kw_253 kw_254 kw_255 kw_1 kw_256) (by decide +kernel) ⟨(Nat.le_of_ble_eq_true rfl), (Nat.le_of_ble_eq_true rfl)⟩ rfl rfl (Nat.le_of_ble_eq_true rfl) dL_drive_196 ⟨(Nat.le_of_ble_eq_true rfl), (Nat.le_of_ble_eq_true rfl)⟩ (fl []) (fl [[oX a (AP 0) hi sl su pa (AT 0) (AU 0)], [oH hi ha h], cSt G AP xp, [oP pa ga w]]) (bperm2 (bC := [[oX a (AP 0) hi sl su pa (AT 0) (AU 0)], [oH hi ha h], cSt G AP xp, [oP pa ga w]]) (bR := []) [0, 1, 3, 2] 4 rfl (by decide +kernel) rfl) (fl_app _ _) ?_
                  refine j_icmp_ge (tgt := 228) C dL_drive_199 (by decide) (fun h => absurd h (by subst hw3 hw4 hw5 hw6; exact dk i hlt c183)) (fun c199 => ?_)
                  refine j_perm (fl [[oX a (AP 0) hi sl su pa (AT 0) (AU 0)], [oH hi ha h], [oP pa ga w], cSt G AP xp]) (bperm [0, 1, 3, 2] 4 rfl (by decide +kernel) rfl) ?_
                  refine j_iload C dL_drive_202 4 rfl ?_
                  refine j_iconst (v := 1) C dL_drive_204 (by decide) ?_
                  refine j_icmp_ne (tgt := 224) C dL_drive_205 (by decide) (fun c205 => ?_) (fun c205 => ?_)
                  · refine j_iconst (v := 1) C dL_drive_224 (by decide) ?_
                    refine j_goto (tgt := 229) C dL_drive_225 (by decide) ?_
                    subst hw3 hw4 hw5 hw6; exact j_eq rfl rfl rfl K229
                  · refine j_bipush (v := 60) C dL_drive_208 (by decide) ?_
                    refine j_iload C dL_drive_210 5 rfl ?_
                    refine j_imul C dL_drive_212 rfl ?_
                    refine j_bipush (v := 60) C dL_drive_213 (by decide) ?_
                    refine j_iadd C dL_drive_215 rfl ?_
                    refine j_aload_n C dL_drive_216 7 rfl ?_
                    refine j_iconst (v := 0) C dL_drive_217 (by decide) ?_
                    refine j_callV_i (r := f_X4_count_r h xp w 0) (wc' := fl [[oX a (AP 0) hi sl su pa (AT 0) (AU 0)], [oH hi ha h], cSt G AP xp, [oP pa ga w]]) C (m_X4_count l G a hi sl su pa ha ga AP AT AU h xp w 0) rfl 0 rfl 1 (gV kw_253 kw_254 kw_255 kw_1 kw_256) (by decide +kernel) ⟨(Nat.le_of_ble_eq_true rfl), (Nat.le_of_ble_eq_true rfl)⟩ rfl rfl (Nat.le_of_ble_eq_true rfl) dL_drive_218 ⟨(Nat.le_of_ble_eq_true rfl), (Nat.le_of_ble_eq_true rfl)⟩ (fl []) (fl [[oX a (AP 0) hi sl su pa (AT 0) (AU 0)], [oH hi ha h], cSt G AP xp, [oP pa ga w]]) (bperm2 (bC := [[oX a (AP 0) hi sl su pa (AT 0) (AU 0)], [oH hi ha h], cSt G AP xp, [oP pa ga w]]) (bR := []) [0, 1, 3, 2] 4 rfl (by decide +kernel) rfl) (fl_app _ _) ?_
                    refine j_icmp_lt (tgt := 228) C dL_drive_221 (by decide) (fun h => absurd h (by subst hw3 hw4 hw5 hw6; exact ds i hlt c205)) (fun c221 => ?_)
                    refine j_perm (fl [[oX a (AP 0) hi sl su pa (AT 0) (AU 0)], [oH hi ha h], [oP pa ga w], cSt G AP xp]) (bperm [0, 1, 3, 2] 4 rfl (by decide +kernel) rfl) ?_
                    refine j_iconst (v := 1) C dL_drive_224 (by decide) ?_
                    refine j_goto (tgt := 229) C dL_drive_225 (by decide) ?_
                    subst hw3 hw4 hw5 hw6; exact j_eq rfl rfl rfl K229
              · refine j_iload C dL_drive_170 5 rfl ?_
                refine j_aload_n C dL_drive_172 7 rfl ?_
                refine j_iconst (v := 1) C dL_drive_173 (by decide) ?_
                refine j_callV_i (r := f_X4_count_r h xp w 1) (wc' := fl [[oX a (AP 0) hi sl su pa (AT 0) (AU 0)], [oH hi ha h], cSt G AP xp, [oP pa ga w]]) C (m_X4_count l G a hi sl su pa ha ga AP AT AU h xp w 1) rfl 0 rfl 1 (gV kw_253 kw_254 kw_255 kw_1 kw_256) (by decide +kernel) ⟨(Nat.le_of_ble_eq_true rfl), (Nat.le_of_ble_eq_true rfl)⟩ rfl rfl (Nat.le_of_ble_eq_true rfl) dL_drive_174 ⟨(Nat.le_of_ble_eq_true rfl), (Nat.le_of_ble_eq_true rfl)⟩ (fl []) (fl [[oX a (AP 0) hi sl su pa (AT 0) (AU 0)], [oH hi ha h], cSt G AP xp, [oP pa ga w]]) (bperm2 (bC := [[oX a (AP 0) hi sl su pa (AT 0) (AU 0)], [oH hi ha h], cSt G AP xp, [oP pa ga w]]) (bR := []) [0, 1, 3, 2] 4 rfl (by decide +kernel) rfl) (fl_app _ _) ?_
                refine j_icmp_gt (tgt := 228) C dL_drive_177 (by decide) (fun h => absurd h (by subst hw3 hw4 hw5 hw6; exact dh i hlt c167)) (fun c177 => ?_)
                refine j_perm (fl [[oX a (AP 0) hi sl su pa (AT 0) (AU 0)], [oH hi ha h], [oP pa ga w], cSt G AP xp]) (bperm [0, 1, 3, 2] 4 rfl (by decide +kernel) rfl) ?_
                refine j_iload C dL_drive_180 4 rfl ?_
                refine j_iconst (v := 2) C dL_drive_182 (by decide) ?_
                refine j_icmp_ne (tgt := 202) C dL_drive_183 (by decide) (fun c183 => ?_) (fun c183 => ?_)
                · refine j_iload C dL_drive_202 4 rfl ?_
                  refine j_iconst (v := 1) C dL_drive_204 (by decide) ?_
                  refine j_icmp_ne (tgt := 224) C dL_drive_205 (by decide) (fun c205 => ?_) (fun c205 => ?_)
                  · refine j_iconst (v := 1) C dL_drive_224 (by decide) ?_
                    refine j_goto (tgt := 229) C dL_drive_225 (by decide) ?_
                    subst hw3 hw4 hw5 hw6; exact j_eq rfl rfl rfl K229
                  · refine j_bipush (v := 60) C dL_drive_208 (by decide) ?_
                    refine j_iload C dL_drive_210 5 rfl ?_
                    refine j_imul C dL_drive_212 rfl ?_
                    refine j_bipush (v := 60) C dL_drive_213 (by decide) ?_
                    refine j_iadd C dL_drive_215 rfl ?_
                    refine j_aload_n C dL_drive_216 7 rfl ?_
                    refine j_iconst (v := 0) C dL_drive_217 (by decide) ?_
                    refine j_callV_i (r := f_X4_count_r h xp w 0) (wc' := fl [[oX a (AP 0) hi sl su pa (AT 0) (AU 0)], [oH hi ha h], cSt G AP xp, [oP pa ga w]]) C (m_X4_count l G a hi sl su pa ha ga AP AT AU h xp w 0) rfl 0 rfl 1 (gV kw_253 kw_254 kw_255 kw_1 kw_256) (by decide +kernel) ⟨(Nat.le_of_ble_eq_true rfl), (Nat.le_of_ble_eq_true rfl)⟩ rfl rfl (Nat.le_of_ble_eq_true rfl) dL_drive_218 ⟨(Nat.le_of_ble_eq_true rfl), (Nat.le_of_ble_eq_true rfl)⟩ (fl []) (fl [[oX a (AP 0) hi sl su pa (AT 0) (AU 0)], [oH hi ha h], cSt G AP xp, [oP pa ga w]]) (bperm2 (bC := [[oX a (AP 0) hi sl su pa (AT 0) (AU 0)], [oH hi ha h], cSt G AP xp, [oP pa ga w]]) (bR := []) [0, 1, 3, 2] 4 rfl (by decide +kernel) rfl) (fl_app _ _) ?_
                    refine j_icmp_lt (tgt := 228) C dL_drive_221 (by decide) (fun h => absurd h (by subst hw3 hw4 hw5 hw6; exact ds i hlt c205)) (fun c221 => ?_)
                    refine j_perm (fl [[oX a (AP 0) hi sl su pa (AT 0) (AU 0)], [oH hi ha h], [oP pa ga w], cSt G AP xp]) (bperm [0, 1, 3, 2] 4 rfl (by decide +kernel) rfl) ?_
                    refine j_iconst (v := 1) C dL_drive_224 (by decide) ?_
                    refine j_goto (tgt := 229) C dL_drive_225 (by decide) ?_
                    subst hw3 hw4 hw5 hw6; exact j_eq rfl rfl rfl K229
                · refine j_bipush (v := 60) C dL_drive_186 (by decide) ?_
                  refine j_iload C dL_drive_188 5 rfl ?_
                  refine j_imul C dL_drive_190 rfl ?_
                  refine j_bipush (v := 60) C dL_drive_191 (by decide) ?_
                  refine j_iadd C dL_drive_193 rfl ?_
                  refine j_aload_n C dL_drive_194 7 rfl ?_
                  refine j_iconst (v := 0) C dL_drive_195 (by decide) ?_
                  refine j_callV_i (r := f_X4_count_r h xp w 0) (wc' := fl [[oX a (AP 0) hi sl su pa (AT 0) (AU 0)], [oH hi ha h], cSt G AP xp, [oP pa ga w]]) C (m_X4_count l G a hi sl su pa ha ga AP AT AU h xp w 0) rfl 0 rfl 1 (gV kw_253 kw_254 kw_255 kw_1 kw_256) (by decide +kernel) ⟨(Nat.le_of_ble_eq_true rfl), (Nat.le_of_ble_eq_true rfl)⟩ rfl rfl (Nat.le_of_ble_eq_true rfl) dL_drive_196 ⟨(Nat.le_of_ble_eq_true rfl), (Nat.le_of_ble_eq_true rfl)⟩ (fl []) (fl [[oX a (AP 0) hi sl su pa (AT 0) (AU 0)], [oH hi ha h], cSt G AP xp, [oP pa ga w]]) (bperm2 (bC := [[oX a (AP 0) hi sl su pa (AT 0) (AU 0)], [oH hi ha h], cSt G AP xp, [oP pa ga w]]) (bR := []) [0, 1, 3, 2] 4 rfl (by decide +kernel) rfl) (fl_app _ _) ?_
                  refine j_icmp_ge (tgt := 228) C dL_drive_199 (by decide) (fun h => absurd h (by subst hw3 hw4 hw5 hw6; exact dk i hlt c183)) (fun c199 => ?_)
                  refine j_perm (fl [[oX a (AP 0) hi sl su pa (AT 0) (AU 0)], [oH hi ha h], [oP pa ga w], cSt G AP xp]) (bperm [0, 1, 3, 2] 4 rfl (by decide +kernel) rfl) ?_
                  refine j_iload C dL_drive_202 4 rfl ?_
                  refine j_iconst (v := 1) C dL_drive_204 (by decide) ?_
                  refine j_icmp_ne (tgt := 224) C dL_drive_205 (by decide) (fun c205 => ?_) (fun c205 => ?_)
                  · refine j_iconst (v := 1) C dL_drive_224 (by decide) ?_
                    refine j_goto (tgt := 229) C dL_drive_225 (by decide) ?_
                    subst hw3 hw4 hw5 hw6; exact j_eq rfl rfl rfl K229
                  · refine j_bipush (v := 60) C dL_drive_208 (by decide) ?_
                    refine j_iload C dL_drive_210 5 rfl ?_
                    refine j_imul C dL_drive_212 rfl ?_
                    refine j_bipush (v := 60) C dL_drive_213 (by decide) ?_
                    refine j_iadd C dL_drive_215 rfl ?_
                    refine j_aload_n C dL_drive_216 7 rfl ?_
                    refine j_iconst (v := 0) C dL_drive_217 (by decide) ?_
                    refine j_callV_i (r := f_X4_count_r h xp w 0) (wc' := fl [[oX a (AP 0) hi sl su pa (AT 0) (AU 0)], [oH hi ha h], cSt G AP xp, [oP pa ga w]]) C (m_X4_count l G a hi sl su pa ha ga AP AT AU h xp w 0) rfl 0 rfl 1 (gV kw_253 kw_254 kw_255 kw_1 kw_256) (by decide +kernel) ⟨(Nat.le_of_ble_eq_true rfl), (Nat.le_of_ble_eq_true rfl)⟩ rfl rfl (Nat.le_of_ble_eq_true rfl) dL_drive_218 ⟨(Nat.le_of_ble_eq_true rfl), (Nat.le_of_ble_eq_true rfl)⟩ (fl []) (fl [[oX a (AP 0) hi sl su pa (AT 0) (AU 0)], [oH hi ha h], cSt G AP xp, [oP pa ga w]]) (bperm2 (bC := [[oX a (AP 0) hi sl su pa (AT 0) (AU 0)], [oH hi ha h], cSt G AP xp, [oP pa ga w]]) (bR := []) [0, 1, 3, 2] 4 rfl (by decide +kernel) rfl) (fl_app _ _) ?_
                    refine j_icmp_lt (tgt := 228) C dL_drive_221 (by decide) (fun h => absurd h (by subst hw3 hw4 hw5 hw6; exact ds i hlt c205)) (fun c221 => ?_)
                    refine j_perm (fl [[oX a (AP 0) hi sl su pa (AT 0) (AU 0)], [oH hi ha h], [oP pa ga w], cSt G AP xp]) (bperm [0, 1, 3, 2] 4 rfl (by decide +kernel) rfl) ?_
                    refine j_iconst (v := 1) C dL_drive_224 (by decide) ?_
                    refine j_goto (tgt := 229) C dL_drive_225 (by decide) ?_
                    subst hw3 hw4 hw5 hw6; exact j_eq rfl rfl rfl K229
            refine j_icmp_ne (tgt := 147) C dL_drive_140 (by decide) (fun c140 => ?_) (fun c140 => ?_)
            · refine j_iload C dL_drive_147 3 rfl ?_
              refine j_iconst (v := 2) C dL_drive_149 (by decide) ?_
              refine j_icmp_ne (tgt := 160) C dL_drive_150 (by decide) (fun c150 => ?_) (fun c150 => ?_)
              · refine j_iload C dL_drive_160 5 rfl ?_
                subst hw3 hw4 hw5; exact j_eq rfl rfl (by rw [show f_L_drive_x31 h xp w k i = stkA xp k i from ((if_neg c140).trans (if_neg c150))]) K162
              · refine j_iload C dL_drive_153 5 rfl ?_
                refine j_iconst (v := 1) C dL_drive_155 (by decide) ?_
                refine j_iadd C dL_drive_156 rfl ?_
                refine j_goto (tgt := 162) C dL_drive_157 (by decide) ?_
                subst hw3 hw4 hw5; exact j_eq rfl rfl (by rw [show f_L_drive_x31 h xp w k i = (stkA xp k i) + 1 from ((if_neg c140).trans (if_pos c150))]) K162
            · refine j_iconst (v := 0) C dL_drive_143 (by decide) ?_
              refine j_goto (tgt := 162) C dL_drive_144 (by decide) ?_
              subst hw3 hw4 hw5; exact j_eq rfl rfl (by rw [show f_L_drive_x31 h xp w k i = 0 from (if_pos c140)]) K162
          refine j_icmp_ne (tgt := 133) C dL_drive_126 (by decide) (fun c126 => ?_) (fun c126 => ?_)
          · refine j_iconst (v := 0) C dL_drive_133 (by decide) ?_
            subst hw3 hw4; exact j_eq rfl rfl (by rw [show f_L_drive_x30 h xp w k i = 0 from (if_neg c126)]) K134
          · refine j_iconst (v := 1) C dL_drive_129 (by decide) ?_
            refine j_goto (tgt := 134) C dL_drive_130 (by decide) ?_
            subst hw3 hw4; exact j_eq rfl rfl (by rw [show f_L_drive_x30 h xp w k i = 1 from (if_pos c126)]) K134
        refine j_icmp_ne (tgt := 117) C dL_drive_110 (by decide) (fun c110 => ?_) (fun c110 => ?_)
        · refine j_iconst (v := 0) C dL_drive_117 (by decide) ?_
          subst hw3; exact j_eq rfl rfl (by rw [show f_L_drive_x29 h xp w k i = 0 from (if_neg c110)]) K118
        · refine j_iconst (v := 1) C dL_drive_113 (by decide) ?_
          refine j_goto (tgt := 118) C dL_drive_114 (by decide) ?_
          subst hw3; exact j_eq rfl rfl (by rw [show f_L_drive_x29 h xp w k i = 1 from (if_pos c110)]) K118
      refine j_if_le (tgt := 102) C dL_drive_95 (by decide) (fun c95 => ?_) (fun c95 => ?_)
      · refine j_iconst (v := 0) C dL_drive_102 (by decide) ?_
        exact j_eq rfl rfl (by rw [show f_L_drive_x28 h xp w k i = 0 from (if_pos c95)]) K103
      · refine j_iconst (v := 1) C dL_drive_98 (by decide) ?_
        refine j_goto (tgt := 103) C dL_drive_99 (by decide) ?_
        exact j_eq rfl rfl (by rw [show f_L_drive_x28 h xp w k i = 1 from (if_neg c95)]) K103
  exact j_eq rfl (by rw [show nI 0 = 0 from rfl, show stkA xp k 0 = 0 from rfl, show accP xp k 0 = 0 from rfl, show accK xp k 0 = 0 from rfl, show accS xp k 0 = 0 from rfl]) rfl (L7 100 0 (by omega))
