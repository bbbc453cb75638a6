/-! THE FACE, SECOND HALF -/
theorem eoq_drive {k y : Int32} (h : f_X4_errorOfQuestion_r k y = 0) : vp_in k 4 := by
  refine lt_drive fun h0 => ?_
  unfold f_X4_errorOfQuestion_r at h
  rw [if_pos h0] at h
  exact absurd h (by decide)
theorem lt_slot {k : Int32} (h : ¬ f_X4_isSlot_r k = 0) : vp_in k 2 := by
  unfold f_X4_isSlot_r f_X4_isSlot_x1 at h
  split at h
  · exact absurd rfl h
  · rename_i h0
    split at h
    · exact absurd rfl h
    · rename_i h1
      exact vin_of (N := 2) rfl h0 h1
theorem vin_m6 {k : Int32} (h0 : ¬ k < 6) (h1 : ¬ 13 ≤ k) : vp_in (k - 6) 7 := by
  have g0 : ¬ k < 0 := fun h => h0 (Int32.lt_trans h (by decide))
  obtain ⟨j, hj, rfl⟩ := vp_in_of (vin_of (n := 13) (N := 13) rfl g0 h1) (by decide)
  rcases (show j = 0 ∨ j = 1 ∨ j = 2 ∨ j = 3 ∨ j = 4 ∨ j = 5 ∨ j = 6 ∨ j = 7 ∨ j = 8 ∨ j = 9 ∨ j = 10 ∨ j = 11 ∨ j = 12 by omega) with rfl | rfl | rfl | rfl | rfl | rfl | rfl | rfl | rfl | rfl | rfl | rfl | rfl <;> first | exact vin_lit (by decide) | exact absurd (by decide) h0
noncomputable def f_X4_count_r (h : Nat → Int32) (xp : StV) (v : Nat → Int32) (k : Int32) : Int32 := (if k < 6 then (if k = 0 then xp.1 2 else (if k = 1 then f_X3_hourOfNow_r xp.1 else (if k = 2 then xp.1 3 else (if k = 3 then xp.1 4 else (if k = 4 then xp.1 5 else (if k = 5 then xp.1 6 else (if k = 13 then v 1 else (if k = 14 then h 2 else (-2))))))))) else (if 13 ≤ k then (if k = 0 then xp.1 2 else (if k = 1 then f_X3_hourOfNow_r xp.1 else (if k = 2 then xp.1 3 else (if k = 3 then xp.1 4 else (if k = 4 then xp.1 5 else (if k = 5 then xp.1 6 else (if k = 13 then v 1 else (if k = 14 then h 2 else (-2))))))))) else xp.2.1 (k - 6).toNatClampNeg))
set_option maxRecDepth 100000 in
set_option maxHeartbeats 4000000 in
theorem m_X4_count (l : Launch) (G : GG) (a hi sl su pa ha ga : Nat) (AP AT AU : Nat → Nat) (h : Nat → Int32) (xp : StV) (v : Nat → Int32) (k : Int32)  : CtI l yX4_count cX4_count 2 (some .int) (RM 1) G [.ref a, .int k] (fl [[oX a (AP 0) hi sl su pa (AT 0) (AU 0)], [oH hi ha h], cSt G AP xp, [oP pa ga v]]) (f_X4_count_r h xp v k) (fl [[oX a (AP 0) hi sl su pa (AT 0) (AU 0)], [oH hi ha h], cSt G AP xp, [oP pa ga v]]) := by
  refine ct_I RX4 [(0, .ref a), (1, .int k)] rfl (by decide +kernel) (Nat.le_of_ble_eq_true rfl) rfl ?_
  intro p e s m args below meth c A C hr hk hnm
  generalize hQ : (MQ below (PostI G A (f_X4_count_r h xp v k) (fl [[oX a (AP 0) hi sl su pa (AT 0) (AU 0)], [oH hi ha h], cSt G AP xp, [oP pa ga v]])) args s (RM 1).cells (RM 1).slots A) = Q
  refine j_perm (fl [[oX a (AP 0) hi sl su pa (AT 0) (AU 0)], [oH hi ha h], [oP pa ga v], cSt G AP xp]) (bperm [0, 1, 3, 2] 4 rfl (by decide +kernel) rfl) ?_
  refine j_iload_n C dX4_count_0 1 rfl ?_
  refine j_bipush (v := 6) C dX4_count_1 (by decide) ?_
  refine j_icmp_lt (tgt := 25) C dX4_count_3 (by decide) (fun c3 => ?_) (fun c3 => ?_)
  · refine j_iload_n C dX4_count_25 1 rfl ?_
    by_cases c26_0 : k = 0
    · refine j_tableIn (tgt := 100) C dX4_count_26 (by rw [c26_0] <;> decide) (by rw [c26_0] <;> decide) (by rw [c26_0] <;> rfl) (by decide) ?_
      refine j_aload_n C dX4_count_100 0 rfl ?_
      refine j_get C kin4 rfl 0 rfl 0 (by decide) kw_140 rfl (v := .ref (AP 0)) rfl dX4_count_101 ?_
      refine j_perm (fl [cSt G AP xp, [oX a (AP 0) hi sl su pa (AT 0) (AU 0)], [oH hi ha h], [oP pa ga v]]) (bperm [3, 0, 1, 2] 4 rfl (by decide +kernel) rfl) ?_
      refine j_w (fl [[oS (AP 0) (AP 1) (AP 2) xp.1], [aI G (AP 1) 7 xp.2.1], [aD G (AP 2) 4 (fun k => some (AP (3 + 2 * k)))], cDrs G AP xp.2.2.1 xp.2.2.2, [oX a (AP 0) hi sl su pa (AT 0) (AU 0)], [oH hi ha h], [oP pa ga v]]) rfl ?_
      refine j_perm (fl [[oS (AP 0) (AP 1) (AP 2) xp.1], [aI G (AP 1) 7 xp.2.1], [aD G (AP 2) 4 (fun k => some (AP (3 + 2 * k)))], [oX a (AP 0) hi sl su pa (AT 0) (AU 0)], [oH hi ha h], [oP pa ga v], cDrs G AP xp.2.2.1 xp.2.2.2]) (bperm [0, 1, 2, 4, 5, 6, 3] 7 rfl (by decide +kernel) rfl) ?_
      refine j_get C kin3 rfl 0 rfl 2 (by decide) kw_83 rfl (v := .int (xp.1 2)) rfl dX4_count_104 ?_
      refine j_perm (fl [[oS (AP 0) (AP 1) (AP 2) xp.1], [aI G (AP 1) 7 xp.2.1], [aD G (AP 2) 4 (fun k => some (AP (3 + 2 * k)))], cDrs G AP xp.2.2.1 xp.2.2.2, [oX a (AP 0) hi sl su pa (AT 0) (AU 0)], [oH hi ha h], [oP pa ga v]]) (bperm [0, 1, 2, 6, 3, 4, 5] 7 rfl (by decide +kernel) rfl) ?_
      refine j_w (fl [cSt G AP xp, [oX a (AP 0) hi sl su pa (AT 0) (AU 0)], [oH hi ha h], [oP pa ga v]]) rfl ?_
      refine j_perm (fl [[oX a (AP 0) hi sl su pa (AT 0) (AU 0)], [oH hi ha h], cSt G AP xp, [oP pa ga v]]) (bperm [1, 2, 0, 3] 4 rfl (by decide +kernel) rfl) ?_
      subst hQ; exact j_iret C hr hk ((show f_X4_count_r h xp v k = xp.1 2 from ((if_pos c3).trans (if_pos c26_0))).symm) rfl dX4_count_107
    · by_cases c26_1 : k = 1
      · refine j_tableIn (tgt := 108) C dX4_count_26 (by rw [c26_1] <;> decide) (by rw [c26_1] <;> decide) (by rw [c26_1] <;> rfl) (by decide) ?_
        refine j_aload_n C dX4_count_108 0 rfl ?_
        refine j_get C kin4 rfl 0 rfl 0 (by decide) kw_140 rfl (v := .ref (AP 0)) rfl dX4_count_109 ?_
        refine j_perm (fl [cSt G AP xp, [oX a (AP 0) hi sl su pa (AT 0) (AU 0)], [oH hi ha h], [oP pa ga v]]) (bperm [3, 0, 1, 2] 4 rfl (by decide +kernel) rfl) ?_
        refine j_w (fl [[oS (AP 0) (AP 1) (AP 2) xp.1], [aI G (AP 1) 7 xp.2.1], [aD G (AP 2) 4 (fun k => some (AP (3 + 2 * k)))], cDrs G AP xp.2.2.1 xp.2.2.2, [oX a (AP 0) hi sl su pa (AT 0) (AU 0)], [oH hi ha h], [oP pa ga v]]) rfl ?_
        refine j_perm (fl [[oS (AP 0) (AP 1) (AP 2) xp.1], [aI G (AP 1) 7 xp.2.1], [aD G (AP 2) 4 (fun k => some (AP (3 + 2 * k)))], [oX a (AP 0) hi sl su pa (AT 0) (AU 0)], [oH hi ha h], [oP pa ga v], cDrs G AP xp.2.2.1 xp.2.2.2]) (bperm [0, 1, 2, 4, 5, 6, 3] 7 rfl (by decide +kernel) rfl) ?_
        refine j_callV_i (r := f_X3_hourOfNow_r xp.1) (wc' := [oS (AP 0) (AP 1) (AP 2) xp.1]) C (m_X3_hourOfNow l G (AP 0) (AP 1) (AP 2) xp.1) rfl 0 rfl 0 (gV kw_307 kw_217 kw_218 kw_2 kw_219) (by decide +kernel) ⟨(Nat.le_of_ble_eq_true rfl), (Nat.le_of_ble_eq_true rfl)⟩ rfl rfl (Nat.le_of_ble_eq_true rfl) dX4_count_112 ⟨(Nat.le_of_ble_eq_true rfl), (Nat.le_of_ble_eq_true rfl)⟩ (fl [[aI G (AP 1) 7 xp.2.1], [aD G (AP 2) 4 (fun k => some (AP (3 + 2 * k)))], [oX a (AP 0) hi sl su pa (AT 0) (AU 0)], [oH hi ha h], [oP pa ga v], cDrs G AP xp.2.2.1 xp.2.2.2]) (fl [[oS (AP 0) (AP 1) (AP 2) xp.1], [aI G (AP 1) 7 xp.2.1], [aD G (AP 2) 4 (fun k => some (AP (3 + 2 * k)))], [oX a (AP 0) hi sl su pa (AT 0) (AU 0)], [oH hi ha h], [oP pa ga v], cDrs G AP xp.2.2.1 xp.2.2.2]) (bperm (bs' := [[oS (AP 0) (AP 1) (AP 2) xp.1], [aI G (AP 1) 7 xp.2.1], [aD G (AP 2) 4 (fun k => some (AP (3 + 2 * k)))], [oX a (AP 0) hi sl su pa (AT 0) (AU 0)], [oH hi ha h], [oP pa ga v], cDrs G AP xp.2.2.1 xp.2.2.2]) [0, 1, 2, 3, 4, 5, 6] 7 rfl (by decide +kernel) rfl) rfl ?_
        refine j_perm (fl [[oS (AP 0) (AP 1) (AP 2) xp.1], [aI G (AP 1) 7 xp.2.1], [aD G (AP 2) 4 (fun k => some (AP (3 + 2 * k)))], cDrs G AP xp.2.2.1 xp.2.2.2, [oX a (AP 0) hi sl su pa (AT 0) (AU 0)], [oH hi ha h], [oP pa ga v]]) (bperm [0, 1, 2, 6, 3, 4, 5] 7 rfl (by decide +kernel) rfl) ?_
        refine j_w (fl [cSt G AP xp, [oX a (AP 0) hi sl su pa (AT 0) (AU 0)], [oH hi ha h], [oP pa ga v]]) rfl ?_
        refine j_perm (fl [[oX a (AP 0) hi sl su pa (AT 0) (AU 0)], [oH hi ha h], cSt G AP xp, [oP pa ga v]]) (bperm [1, 2, 0, 3] 4 rfl (by decide +kernel) rfl) ?_
        subst hQ; exact j_iret C hr hk ((show f_X4_count_r h xp v k = f_X3_hourOfNow_r xp.1 from ((if_pos c3).trans ((if_neg c26_0).trans (if_pos c26_1)))).symm) rfl dX4_count_115
      · by_cases c26_2 : k = 2
        · refine j_tableIn (tgt := 116) C dX4_count_26 (by rw [c26_2] <;> decide) (by rw [c26_2] <;> decide) (by rw [c26_2] <;> rfl) (by decide) ?_
          refine j_aload_n C dX4_count_116 0 rfl ?_
          refine j_get C kin4 rfl 0 rfl 0 (by decide) kw_140 rfl (v := .ref (AP 0)) rfl dX4_count_117 ?_
          refine j_perm (fl [cSt G AP xp, [oX a (AP 0) hi sl su pa (AT 0) (AU 0)], [oH hi ha h], [oP pa ga v]]) (bperm [3, 0, 1, 2] 4 rfl (by decide +kernel) rfl) ?_
          refine j_w (fl [[oS (AP 0) (AP 1) (AP 2) xp.1], [aI G (AP 1) 7 xp.2.1], [aD G (AP 2) 4 (fun k => some (AP (3 + 2 * k)))], cDrs G AP xp.2.2.1 xp.2.2.2, [oX a (AP 0) hi sl su pa (AT 0) (AU 0)], [oH hi ha h], [oP pa ga v]]) rfl ?_
          refine j_perm (fl [[oS (AP 0) (AP 1) (AP 2) xp.1], [aI G (AP 1) 7 xp.2.1], [aD G (AP 2) 4 (fun k => some (AP (3 + 2 * k)))], [oX a (AP 0) hi sl su pa (AT 0) (AU 0)], [oH hi ha h], [oP pa ga v], cDrs G AP xp.2.2.1 xp.2.2.2]) (bperm [0, 1, 2, 4, 5, 6, 3] 7 rfl (by decide +kernel) rfl) ?_
          refine j_get C kin3 rfl 0 rfl 3 (by decide) kw_85 rfl (v := .int (xp.1 3)) rfl dX4_count_120 ?_
          refine j_perm (fl [[oS (AP 0) (AP 1) (AP 2) xp.1], [aI G (AP 1) 7 xp.2.1], [aD G (AP 2) 4 (fun k => some (AP (3 + 2 * k)))], cDrs G AP xp.2.2.1 xp.2.2.2, [oX a (AP 0) hi sl su pa (AT 0) (AU 0)], [oH hi ha h], [oP pa ga v]]) (bperm [0, 1, 2, 6, 3, 4, 5] 7 rfl (by decide +kernel) rfl) ?_
          refine j_w (fl [cSt G AP xp, [oX a (AP 0) hi sl su pa (AT 0) (AU 0)], [oH hi ha h], [oP pa ga v]]) rfl ?_
          refine j_perm (fl [[oX a (AP 0) hi sl su pa (AT 0) (AU 0)], [oH hi ha h], cSt G AP xp, [oP pa ga v]]) (bperm [1, 2, 0, 3] 4 rfl (by decide +kernel) rfl) ?_
          subst hQ; exact j_iret C hr hk ((show f_X4_count_r h xp v k = xp.1 3 from ((if_pos c3).trans ((if_neg c26_0).trans ((if_neg c26_1).trans (if_pos c26_2))))).symm) rfl dX4_count_123
        · by_cases c26_3 : k = 3
          · refine j_tableIn (tgt := 124) C dX4_count_26 (by rw [c26_3] <;> decide) (by rw [c26_3] <;> decide) (by rw [c26_3] <;> rfl) (by decide) ?_
            refine j_aload_n C dX4_count_124 0 rfl ?_
            refine j_get C kin4 rfl 0 rfl 0 (by decide) kw_140 rfl (v := .ref (AP 0)) rfl dX4_count_125 ?_
            refine j_perm (fl [cSt G AP xp, [oX a (AP 0) hi sl su pa (AT 0) (AU 0)], [oH hi ha h], [oP pa ga v]]) (bperm [3, 0, 1, 2] 4 rfl (by decide +kernel) rfl) ?_
            refine j_w (fl [[oS (AP 0) (AP 1) (AP 2) xp.1], [aI G (AP 1) 7 xp.2.1], [aD G (AP 2) 4 (fun k => some (AP (3 + 2 * k)))], cDrs G AP xp.2.2.1 xp.2.2.2, [oX a (AP 0) hi sl su pa (AT 0) (AU 0)], [oH hi ha h], [oP pa ga v]]) rfl ?_
            refine j_perm (fl [[oS (AP 0) (AP 1) (AP 2) xp.1], [aI G (AP 1) 7 xp.2.1], [aD G (AP 2) 4 (fun k => some (AP (3 + 2 * k)))], [oX a (AP 0) hi sl su pa (AT 0) (AU 0)], [oH hi ha h], [oP pa ga v], cDrs G AP xp.2.2.1 xp.2.2.2]) (bperm [0, 1, 2, 4, 5, 6, 3] 7 rfl (by decide +kernel) rfl) ?_
            refine j_get C kin3 rfl 0 rfl 4 (by decide) kw_87 rfl (v := .int (xp.1 4)) rfl dX4_count_128 ?_
            refine j_perm (fl [[oS (AP 0) (AP 1) (AP 2) xp.1], [aI G (AP 1) 7 xp.2.1], [aD G (AP 2) 4 (fun k => some (AP (3 + 2 * k)))], cDrs G AP xp.2.2.1 xp.2.2.2, [oX a (AP 0) hi sl su pa (AT 0) (AU 0)], [oH hi ha h], [oP pa ga v]]) (bperm [0, 1, 2, 6, 3, 4, 5] 7 rfl (by decide +kernel) rfl) ?_
            refine j_w (fl [cSt G AP xp, [oX a (AP 0) hi sl su pa (AT 0) (AU 0)], [oH hi ha h], [oP pa ga v]]) rfl ?_
            refine j_perm (fl [[oX a (AP 0) hi sl su pa (AT 0) (AU 0)], [oH hi ha h], cSt G AP xp, [oP pa ga v]]) (bperm [1, 2, 0, 3] 4 rfl (by decide +kernel) rfl) ?_
            subst hQ; exact j_iret C hr hk ((show f_X4_count_r h xp v k = xp.1 4 from ((if_pos c3).trans ((if_neg c26_0).trans ((if_neg c26_1).trans ((if_neg c26_2).trans (if_pos c26_3)))))).symm) rfl dX4_count_131
          · by_cases c26_4 : k = 4
            · refine j_tableIn (tgt := 132) C dX4_count_26 (by rw [c26_4] <;> decide) (by rw [c26_4] <;> decide) (by rw [c26_4] <;> rfl) (by decide) ?_
              refine j_aload_n C dX4_count_132 0 rfl ?_
              refine j_get C kin4 rfl 0 rfl 0 (by decide) kw_140 rfl (v := .ref (AP 0)) rfl dX4_count_133 ?_
              refine j_perm (fl [cSt G AP xp, [oX a (AP 0) hi sl su pa (AT 0) (AU 0)], [oH hi ha h], [oP pa ga v]]) (bperm [3, 0, 1, 2] 4 rfl (by decide +kernel) rfl) ?_
              refine j_w (fl [[oS (AP 0) (AP 1) (AP 2) xp.1], [aI G (AP 1) 7 xp.2.1], [aD G (AP 2) 4 (fun k => some (AP (3 + 2 * k)))], cDrs G AP xp.2.2.1 xp.2.2.2, [oX a (AP 0) hi sl su pa (AT 0) (AU 0)], [oH hi ha h], [oP pa ga v]]) rfl ?_
              refine j_perm (fl [[oS (AP 0) (AP 1) (AP 2) xp.1], [aI G (AP 1) 7 xp.2.1], [aD G (AP 2) 4 (fun k => some (AP (3 + 2 * k)))], [oX a (AP 0) hi sl su pa (AT 0) (AU 0)], [oH hi ha h], [oP pa ga v], cDrs G AP xp.2.2.1 xp.2.2.2]) (bperm [0, 1, 2, 4, 5, 6, 3] 7 rfl (by decide +kernel) rfl) ?_
              refine j_get C kin3 rfl 0 rfl 5 (by decide) kw_89 rfl (v := .int (xp.1 5)) rfl dX4_count_136 ?_
              refine j_perm (fl [[oS (AP 0) (AP 1) (AP 2) xp.1], [aI G (AP 1) 7 xp.2.1], [aD G (AP 2) 4 (fun k => some (AP (3 + 2 * k)))], cDrs G AP xp.2.2.1 xp.2.2.2, [oX a (AP 0) hi sl su pa (AT 0) (AU 0)], [oH hi ha h], [oP pa ga v]]) (bperm [0, 1, 2, 6, 3, 4, 5] 7 rfl (by decide +kernel) rfl) ?_
              refine j_w (fl [cSt G AP xp, [oX a (AP 0) hi sl su pa (AT 0) (AU 0)], [oH hi ha h], [oP pa ga v]]) rfl ?_
              refine j_perm (fl [[oX a (AP 0) hi sl su pa (AT 0) (AU 0)], [oH hi ha h], cSt G AP xp, [oP pa ga v]]) (bperm [1, 2, 0, 3] 4 rfl (by decide +kernel) rfl) ?_
              subst hQ; exact j_iret C hr hk ((show f_X4_count_r h xp v k = xp.1 5 from ((if_pos c3).trans ((if_neg c26_0).trans ((if_neg c26_1).trans ((if_neg c26_2).trans ((if_neg c26_3).trans (if_pos c26_4))))))).symm) rfl dX4_count_139
            · by_cases c26_5 : k = 5
              · refine j_tableIn (tgt := 140) C dX4_count_26 (by rw [c26_5] <;> decide) (by rw [c26_5] <;> decide) (by rw [c26_5] <;> rfl) (by decide) ?_
                refine j_aload_n C dX4_count_140 0 rfl ?_
                refine j_get C kin4 rfl 0 rfl 0 (by decide) kw_140 rfl (v := .ref (AP 0)) rfl dX4_count_141 ?_
                refine j_perm (fl [cSt G AP xp, [oX a (AP 0) hi sl su pa (AT 0) (AU 0)], [oH hi ha h], [oP pa ga v]]) (bperm [3, 0, 1, 2] 4 rfl (by decide +kernel) rfl) ?_
                refine j_w (fl [[oS (AP 0) (AP 1) (AP 2) xp.1], [aI G (AP 1) 7 xp.2.1], [aD G (AP 2) 4 (fun k => some (AP (3 + 2 * k)))], cDrs G AP xp.2.2.1 xp.2.2.2, [oX a (AP 0) hi sl su pa (AT 0) (AU 0)], [oH hi ha h], [oP pa ga v]]) rfl ?_
                refine j_perm (fl [[oS (AP 0) (AP 1) (AP 2) xp.1], [aI G (AP 1) 7 xp.2.1], [aD G (AP 2) 4 (fun k => some (AP (3 + 2 * k)))], [oX a (AP 0) hi sl su pa (AT 0) (AU 0)], [oH hi ha h], [oP pa ga v], cDrs G AP xp.2.2.1 xp.2.2.2]) (bperm [0, 1, 2, 4, 5, 6, 3] 7 rfl (by decide +kernel) rfl) ?_
                refine j_get C kin3 rfl 0 rfl 6 (by decide) kw_91 rfl (v := .int (xp.1 6)) rfl dX4_count_144 ?_
                refine j_perm (fl [[oS (AP 0) (AP 1) (AP 2) xp.1], [aI G (AP 1) 7 xp.2.1], [aD G (AP 2) 4 (fun k => some (AP (3 + 2 * k)))], cDrs G AP xp.2.2.1 xp.2.2.2, [oX a (AP 0) hi sl su pa (AT 0) (AU 0)], [oH hi ha h], [oP pa ga v]]) (bperm [0, 1, 2, 6, 3, 4, 5] 7 rfl (by decide +kernel) rfl) ?_
                refine j_w (fl [cSt G AP xp, [oX a (AP 0) hi sl su pa (AT 0) (AU 0)], [oH hi ha h], [oP pa ga v]]) rfl ?_
                refine j_perm (fl [[oX a (AP 0) hi sl su pa (AT 0) (AU 0)], [oH hi ha h], cSt G AP xp, [oP pa ga v]]) (bperm [1, 2, 0, 3] 4 rfl (by decide +kernel) rfl) ?_
                subst hQ; exact j_iret C hr hk ((show f_X4_count_r h xp v k = xp.1 6 from ((if_pos c3).trans ((if_neg c26_0).trans ((if_neg c26_1).trans ((if_neg c26_2).trans ((if_neg c26_3).trans ((if_neg c26_4).trans (if_pos c26_5)))))))).symm) rfl dX4_count_147
              · by_cases c26_13 : k = 13
                · refine j_tableIn (tgt := 148) C dX4_count_26 (by rw [c26_13] <;> decide) (by rw [c26_13] <;> decide) (by rw [c26_13] <;> rfl) (by decide) ?_
                  refine j_aload_n C dX4_count_148 0 rfl ?_
                  refine j_get C kin4 rfl 0 rfl 4 (by decide) kw_144 rfl (v := .ref pa) rfl dX4_count_149 ?_
                  refine j_get C kin2 rfl 2 rfl 1 (by decide) kw_121 rfl (v := .int (v 1)) rfl dX4_count_152 ?_
                  refine j_perm (fl [[oX a (AP 0) hi sl su pa (AT 0) (AU 0)], [oH hi ha h], cSt G AP xp, [oP pa ga v]]) (bperm [0, 1, 3, 2] 4 rfl (by decide +kernel) rfl) ?_
                  subst hQ; exact j_iret C hr hk ((show f_X4_count_r h xp v k = v 1 from ((if_pos c3).trans ((if_neg c26_0).trans ((if_neg c26_1).trans ((if_neg c26_2).trans ((if_neg c26_3).trans ((if_neg c26_4).trans ((if_neg c26_5).trans (if_pos c26_13))))))))).symm) rfl dX4_count_155
                · by_cases c26_14 : k = 14
                  · refine j_tableIn (tgt := 156) C dX4_count_26 (by rw [c26_14] <;> decide) (by rw [c26_14] <;> decide) (by rw [c26_14] <;> rfl) (by decide) ?_
                    refine j_aload_n C dX4_count_156 0 rfl ?_
                    refine j_get C kin4 rfl 0 rfl 1 (by decide) kw_141 rfl (v := .ref hi) rfl dX4_count_157 ?_
                    refine j_get C kin1 rfl 1 rfl 2 (by decide) kw_110 rfl (v := .int (h 2)) rfl dX4_count_160 ?_
                    refine j_perm (fl [[oX a (AP 0) hi sl su pa (AT 0) (AU 0)], [oH hi ha h], cSt G AP xp, [oP pa ga v]]) (bperm [0, 1, 3, 2] 4 rfl (by decide +kernel) rfl) ?_
                    subst hQ; exact j_iret C hr hk ((show f_X4_count_r h xp v k = h 2 from ((if_pos c3).trans ((if_neg c26_0).trans ((if_neg c26_1).trans ((if_neg c26_2).trans ((if_neg c26_3).trans ((if_neg c26_4).trans ((if_neg c26_5).trans ((if_neg c26_13).trans (if_pos c26_14)))))))))).symm) rfl dX4_count_163
                  · have n26_0 : (k).toInt ≠ 0 := fun h => c26_0 (Int32.toInt_inj.mp h)
                    have n26_1 : (k).toInt ≠ 1 := fun h => c26_1 (Int32.toInt_inj.mp h)
                    have n26_2 : (k).toInt ≠ 2 := fun h => c26_2 (Int32.toInt_inj.mp h)
                    have n26_3 : (k).toInt ≠ 3 := fun h => c26_3 (Int32.toInt_inj.mp h)
                    have n26_4 : (k).toInt ≠ 4 := fun h => c26_4 (Int32.toInt_inj.mp h)
                    have n26_5 : (k).toInt ≠ 5 := fun h => c26_5 (Int32.toInt_inj.mp h)
                    have n26_13 : (k).toInt ≠ 13 := fun h => c26_13 (Int32.toInt_inj.mp h)
                    have n26_14 : (k).toInt ≠ 14 := fun h => c26_14 (Int32.toInt_inj.mp h)
                    by_cases hz26 : (k).toInt < 0 ∨ 14 < (k).toInt
                    · refine j_tableOut (tgt := 164) C dX4_count_26 hz26 (by decide) ?_
                      refine j_bipush (v := (-2)) C dX4_count_164 (by decide) ?_
                      refine j_perm (fl [[oX a (AP 0) hi sl su pa (AT 0) (AU 0)], [oH hi ha h], cSt G AP xp, [oP pa ga v]]) (bperm [0, 1, 3, 2] 4 rfl (by decide +kernel) rfl) ?_
                      subst hQ; exact j_iret C hr hk ((show f_X4_count_r h xp v k = (-2) from ((if_pos c3).trans ((if_neg c26_0).trans ((if_neg c26_1).trans ((if_neg c26_2).trans ((if_neg c26_3).trans ((if_neg c26_4).trans ((if_neg c26_5).trans ((if_neg c26_13).trans (if_neg c26_14)))))))))).symm) rfl dX4_count_166
                    · refine j_tableIn (off := 138) (tgt := 164) C dX4_count_26 (by omega) (by omega) (by have hm : (k).toInt = 6 ∨ (k).toInt = 7 ∨ (k).toInt = 8 ∨ (k).toInt = 9 ∨ (k).toInt = 10 ∨ (k).toInt = 11 ∨ (k).toInt = 12 := (by omega); rcases hm with hm | hm | hm | hm | hm | hm | hm <;> (rw [hm]; try rfl)) (by decide) ?_
                      refine j_bipush (v := (-2)) C dX4_count_164 (by decide) ?_
                      refine j_perm (fl [[oX a (AP 0) hi sl su pa (AT 0) (AU 0)], [oH hi ha h], cSt G AP xp, [oP pa ga v]]) (bperm [0, 1, 3, 2] 4 rfl (by decide +kernel) rfl) ?_
                      subst hQ; exact j_iret C hr hk ((show f_X4_count_r h xp v k = (-2) from ((if_pos c3).trans ((if_neg c26_0).trans ((if_neg c26_1).trans ((if_neg c26_2).trans ((if_neg c26_3).trans ((if_neg c26_4).trans ((if_neg c26_5).trans ((if_neg c26_13).trans (if_neg c26_14)))))))))).symm) rfl dX4_count_166
  · refine j_iload_n C dX4_count_6 1 rfl ?_
    refine j_bipush (v := 13) C dX4_count_7 (by decide) ?_
    refine j_icmp_ge (tgt := 25) C dX4_count_9 (by decide) (fun c9 => ?_) (fun c9 => ?_)
    · refine j_iload_n C dX4_count_25 1 rfl ?_
      by_cases c26_0 : k = 0
      · refine j_tableIn (tgt := 100) C dX4_count_26 (by rw [c26_0] <;> decide) (by rw [c26_0] <;> decide) (by rw [c26_0] <;> rfl) (by decide) ?_
        refine j_aload_n C dX4_count_100 0 rfl ?_
        refine j_get C kin4 rfl 0 rfl 0 (by decide) kw_140 rfl (v := .ref (AP 0)) rfl dX4_count_101 ?_
        refine j_perm (fl [cSt G AP xp, [oX a (AP 0) hi sl su pa (AT 0) (AU 0)], [oH hi ha h], [oP pa ga v]]) (bperm [3, 0, 1, 2] 4 rfl (by decide +kernel) rfl) ?_
        refine j_w (fl [[oS (AP 0) (AP 1) (AP 2) xp.1], [aI G (AP 1) 7 xp.2.1], [aD G (AP 2) 4 (fun k => some (AP (3 + 2 * k)))], cDrs G AP xp.2.2.1 xp.2.2.2, [oX a (AP 0) hi sl su pa (AT 0) (AU 0)], [oH hi ha h], [oP pa ga v]]) rfl ?_
        refine j_perm (fl [[oS (AP 0) (AP 1) (AP 2) xp.1], [aI G (AP 1) 7 xp.2.1], [aD G (AP 2) 4 (fun k => some (AP (3 + 2 * k)))], [oX a (AP 0) hi sl su pa (AT 0) (AU 0)], [oH hi ha h], [oP pa ga v], cDrs G AP xp.2.2.1 xp.2.2.2]) (bperm [0, 1, 2, 4, 5, 6, 3] 7 rfl (by decide +kernel) rfl) ?_
        refine j_get C kin3 rfl 0 rfl 2 (by decide) kw_83 rfl (v := .int (xp.1 2)) rfl dX4_count_104 ?_
        refine j_perm (fl [[oS (AP 0) (AP 1) (AP 2) xp.1], [aI G (AP 1) 7 xp.2.1], [aD G (AP 2) 4 (fun k => some (AP (3 + 2 * k)))], cDrs G AP xp.2.2.1 xp.2.2.2, [oX a (AP 0) hi sl su pa (AT 0) (AU 0)], [oH hi ha h], [oP pa ga v]]) (bperm [0, 1, 2, 6, 3, 4, 5] 7 rfl (by decide +kernel) rfl) ?_
        refine j_w (fl [cSt G AP xp, [oX a (AP 0) hi sl su pa (AT 0) (AU 0)], [oH hi ha h], [oP pa ga v]]) rfl ?_
        refine j_perm (fl [[oX a (AP 0) hi sl su pa (AT 0) (AU 0)], [oH hi ha h], cSt G AP xp, [oP pa ga v]]) (bperm [1, 2, 0, 3] 4 rfl (by decide +kernel) rfl) ?_
        subst hQ; exact j_iret C hr hk ((show f_X4_count_r h xp v k = xp.1 2 from ((if_neg c3).trans ((if_pos c9).trans (if_pos c26_0)))).symm) rfl dX4_count_107
      · by_cases c26_1 : k = 1
        · refine j_tableIn (tgt := 108) C dX4_count_26 (by rw [c26_1] <;> decide) (by rw [c26_1] <;> decide) (by rw [c26_1] <;> rfl) (by decide) ?_
          refine j_aload_n C dX4_count_108 0 rfl ?_
          refine j_get C kin4 rfl 0 rfl 0 (by decide) kw_140 rfl (v := .ref (AP 0)) rfl dX4_count_109 ?_
          refine j_perm (fl [cSt G AP xp, [oX a (AP 0) hi sl su pa (AT 0) (AU 0)], [oH hi ha h], [oP pa ga v]]) (bperm [3, 0, 1, 2] 4 rfl (by decide +kernel) rfl) ?_
          refine j_w (fl [[oS (AP 0) (AP 1) (AP 2) xp.1], [aI G (AP 1) 7 xp.2.1], [aD G (AP 2) 4 (fun k => some (AP (3 + 2 * k)))], cDrs G AP xp.2.2.1 xp.2.2.2, [oX a (AP 0) hi sl su pa (AT 0) (AU 0)], [oH hi ha h], [oP pa ga v]]) rfl ?_
          refine j_perm (fl [[oS (AP 0) (AP 1) (AP 2) xp.1], [aI G (AP 1) 7 xp.2.1], [aD G (AP 2) 4 (fun k => some (AP (3 + 2 * k)))], [oX a (AP 0) hi sl su pa (AT 0) (AU 0)], [oH hi ha h], [oP pa ga v], cDrs G AP xp.2.2.1 xp.2.2.2]) (bperm [0, 1, 2, 4, 5, 6, 3] 7 rfl (by decide +kernel) rfl) ?_
          refine j_callV_i (r := f_X3_hourOfNow_r xp.1) (wc' := [oS (AP 0) (AP 1) (AP 2) xp.1]) C (m_X3_hourOfNow l G (AP 0) (AP 1) (AP 2) xp.1) rfl 0 rfl 0 (gV kw_307 kw_217 kw_218 kw_2 kw_219) (by decide +kernel) ⟨(Nat.le_of_ble_eq_true rfl), (Nat.le_of_ble_eq_true rfl)⟩ rfl rfl (Nat.le_of_ble_eq_true rfl) dX4_count_112 ⟨(Nat.le_of_ble_eq_true rfl), (Nat.le_of_ble_eq_true rfl)⟩ (fl [[aI G (AP 1) 7 xp.2.1], [aD G (AP 2) 4 (fun k => some (AP (3 + 2 * k)))], [oX a (AP 0) hi sl su pa (AT 0) (AU 0)], [oH hi ha h], [oP pa ga v], cDrs G AP xp.2.2.1 xp.2.2.2]) (fl [[oS (AP 0) (AP 1) (AP 2) xp.1], [aI G (AP 1) 7 xp.2.1], [aD G (AP 2) 4 (fun k => some (AP (3 + 2 * k)))], [oX a (AP 0) hi sl su pa (AT 0) (AU 0)], [oH hi ha h], [oP pa ga v], cDrs G AP xp.2.2.1 xp.2.2.2]) (bperm (bs' := [[oS (AP 0) (AP 1) (AP 2) xp.1], [aI G (AP 1) 7 xp.2.1], [aD G (AP 2) 4 (fun k => some (AP (3 + 2 * k)))], [oX a (AP 0) hi sl su pa (AT 0) (AU 0)], [oH hi ha h], [oP pa ga v], cDrs G AP xp.2.2.1 xp.2.2.2]) [0, 1, 2, 3, 4, 5, 6] 7 rfl (by decide +kernel) rfl) rfl ?_
          refine j_perm (fl [[oS (AP 0) (AP 1) (AP 2) xp.1], [aI G (AP 1) 7 xp.2.1], [aD G (AP 2) 4 (fun k => some (AP (3 + 2 * k)))], cDrs G AP xp.2.2.1 xp.2.2.2, [oX a (AP 0) hi sl su pa (AT 0) (AU 0)], [oH hi ha h], [oP pa ga v]]) (bperm [0, 1, 2, 6, 3, 4, 5] 7 rfl (by decide +kernel) rfl) ?_
          refine j_w (fl [cSt G AP xp, [oX a (AP 0) hi sl su pa (AT 0) (AU 0)], [oH hi ha h], [oP pa ga v]]) rfl ?_
          refine j_perm (fl [[oX a (AP 0) hi sl su pa (AT 0) (AU 0)], [oH hi ha h], cSt G AP xp, [oP pa ga v]]) (bperm [1, 2, 0, 3] 4 rfl (by decide +kernel) rfl) ?_
          subst hQ; exact j_iret C hr hk ((show f_X4_count_r h xp v k = f_X3_hourOfNow_r xp.1 from ((if_neg c3).trans ((if_pos c9).trans ((if_neg c26_0).trans (if_pos c26_1))))).symm) rfl dX4_count_115
        · by_cases c26_2 : k = 2
          · refine j_tableIn (tgt := 116) C dX4_count_26 (by rw [c26_2] <;> decide) (by rw [c26_2] <;> decide) (by rw [c26_2] <;> rfl) (by decide) ?_
            refine j_aload_n C dX4_count_116 0 rfl ?_
            refine j_get C kin4 rfl 0 rfl 0 (by decide) kw_140 rfl (v := .ref (AP 0)) rfl dX4_count_117 ?_
            refine j_perm (fl [cSt G AP xp, [oX a (AP 0) hi sl su pa (AT 0) (AU 0)], [oH hi ha h], [oP pa ga v]]) (bperm [3, 0, 1, 2] 4 rfl (by decide +kernel) rfl) ?_
            refine j_w (fl [[oS (AP 0) (AP 1) (AP 2) xp.1], [aI G (AP 1) 7 xp.2.1], [aD G (AP 2) 4 (fun k => some (AP (3 + 2 * k)))], cDrs G AP xp.2.2.1 xp.2.2.2, [oX a (AP 0) hi sl su pa (AT 0) (AU 0)], [oH hi ha h], [oP pa ga v]]) rfl ?_
            refine j_perm (fl [[oS (AP 0) (AP 1) (AP 2) xp.1], [aI G (AP 1) 7 xp.2.1], [aD G (AP 2) 4 (fun k => some (AP (3 + 2 * k)))], [oX a (AP 0) hi sl su pa (AT 0) (AU 0)], [oH hi ha h], [oP pa ga v], cDrs G AP xp.2.2.1 xp.2.2.2]) (bperm [0, 1, 2, 4, 5, 6, 3] 7 rfl (by decide +kernel) rfl) ?_
            refine j_get C kin3 rfl 0 rfl 3 (by decide) kw_85 rfl (v := .int (xp.1 3)) rfl dX4_count_120 ?_
            refine j_perm (fl [[oS (AP 0) (AP 1) (AP 2) xp.1], [aI G (AP 1) 7 xp.2.1], [aD G (AP 2) 4 (fun k => some (AP (3 + 2 * k)))], cDrs G AP xp.2.2.1 xp.2.2.2, [oX a (AP 0) hi sl su pa (AT 0) (AU 0)], [oH hi ha h], [oP pa ga v]]) (bperm [0, 1, 2, 6, 3, 4, 5] 7 rfl (by decide +kernel) rfl) ?_
            refine j_w (fl [cSt G AP xp, [oX a (AP 0) hi sl su pa (AT 0) (AU 0)], [oH hi ha h], [oP pa ga v]]) rfl ?_
            refine j_perm (fl [[oX a (AP 0) hi sl su pa (AT 0) (AU 0)], [oH hi ha h], cSt G AP xp, [oP pa ga v]]) (bperm [1, 2, 0, 3] 4 rfl (by decide +kernel) rfl) ?_
            subst hQ; exact j_iret C hr hk ((show f_X4_count_r h xp v k = xp.1 3 from ((if_neg c3).trans ((if_pos c9).trans ((if_neg c26_0).trans ((if_neg c26_1).trans (if_pos c26_2)))))).symm) rfl dX4_count_123
          · by_cases c26_3 : k = 3
            · refine j_tableIn (tgt := 124) C dX4_count_26 (by rw [c26_3] <;> decide) (by rw [c26_3] <;> decide) (by rw [c26_3] <;> rfl) (by decide) ?_
              refine j_aload_n C dX4_count_124 0 rfl ?_
              refine j_get C kin4 rfl 0 rfl 0 (by decide) kw_140 rfl (v := .ref (AP 0)) rfl dX4_count_125 ?_
              refine j_perm (fl [cSt G AP xp, [oX a (AP 0) hi sl su pa (AT 0) (AU 0)], [oH hi ha h], [oP pa ga v]]) (bperm [3, 0, 1, 2] 4 rfl (by decide +kernel) rfl) ?_
              refine j_w (fl [[oS (AP 0) (AP 1) (AP 2) xp.1], [aI G (AP 1) 7 xp.2.1], [aD G (AP 2) 4 (fun k => some (AP (3 + 2 * k)))], cDrs G AP xp.2.2.1 xp.2.2.2, [oX a (AP 0) hi sl su pa (AT 0) (AU 0)], [oH hi ha h], [oP pa ga v]]) rfl ?_
              refine j_perm (fl [[oS (AP 0) (AP 1) (AP 2) xp.1], [aI G (AP 1) 7 xp.2.1], [aD G (AP 2) 4 (fun k => some (AP (3 + 2 * k)))], [oX a (AP 0) hi sl su pa (AT 0) (AU 0)], [oH hi ha h], [oP pa ga v], cDrs G AP xp.2.2.1 xp.2.2.2]) (bperm [0, 1, 2, 4, 5, 6, 3] 7 rfl (by decide +kernel) rfl) ?_
              refine j_get C kin3 rfl 0 rfl 4 (by decide) kw_87 rfl (v := .int (xp.1 4)) rfl dX4_count_128 ?_
              refine j_perm (fl [[oS (AP 0) (AP 1) (AP 2) xp.1], [aI G (AP 1) 7 xp.2.1], [aD G (AP 2) 4 (fun k => some (AP (3 + 2 * k)))], cDrs G AP xp.2.2.1 xp.2.2.2, [oX a (AP 0) hi sl su pa (AT 0) (AU 0)], [oH hi ha h], [oP pa ga v]]) (bperm [0, 1, 2, 6, 3, 4, 5] 7 rfl (by decide +kernel) rfl) ?_
              refine j_w (fl [cSt G AP xp, [oX a (AP 0) hi sl su pa (AT 0) (AU 0)], [oH hi ha h], [oP pa ga v]]) rfl ?_
              refine j_perm (fl [[oX a (AP 0) hi sl su pa (AT 0) (AU 0)], [oH hi ha h], cSt G AP xp, [oP pa ga v]]) (bperm [1, 2, 0, 3] 4 rfl (by decide +kernel) rfl) ?_
              subst hQ; exact j_iret C hr hk ((show f_X4_count_r h xp v k = xp.1 4 from ((if_neg c3).trans ((if_pos c9).trans ((if_neg c26_0).trans ((if_neg c26_1).trans ((if_neg c26_2).trans (if_pos c26_3))))))).symm) rfl dX4_count_131
            · by_cases c26_4 : k = 4
              · refine j_tableIn (tgt := 132) C dX4_count_26 (by rw [c26_4] <;> decide) (by rw [c26_4] <;> decide) (by rw [c26_4] <;> rfl) (by decide) ?_
                refine j_aload_n C dX4_count_132 0 rfl ?_
                refine j_get C kin4 rfl 0 rfl 0 (by decide) kw_140 rfl (v := .ref (AP 0)) rfl dX4_count_133 ?_
                refine j_perm (fl [cSt G AP xp, [oX a (AP 0) hi sl su pa (AT 0) (AU 0)], [oH hi ha h], [oP pa ga v]]) (bperm [3, 0, 1, 2] 4 rfl (by decide +kernel) rfl) ?_
                refine j_w (fl [[oS (AP 0) (AP 1) (AP 2) xp.1], [aI G (AP 1) 7 xp.2.1], [aD G (AP 2) 4 (fun k => some (AP (3 + 2 * k)))], cDrs G AP xp.2.2.1 xp.2.2.2, [oX a (AP 0) hi sl su pa (AT 0) (AU 0)], [oH hi ha h], [oP pa ga v]]) rfl ?_
                refine j_perm (fl [[oS (AP 0) (AP 1) (AP 2) xp.1], [aI G (AP 1) 7 xp.2.1], [aD G (AP 2) 4 (fun k => some (AP (3 + 2 * k)))], [oX a (AP 0) hi sl su pa (AT 0) (AU 0)], [oH hi ha h], [oP pa ga v], cDrs G AP xp.2.2.1 xp.2.2.2]) (bperm [0, 1, 2, 4, 5, 6, 3] 7 rfl (by decide +kernel) rfl) ?_
                refine j_get C kin3 rfl 0 rfl 5 (by decide) kw_89 rfl (v := .int (xp.1 5)) rfl dX4_count_136 ?_
                refine j_perm (fl [[oS (AP 0) (AP 1) (AP 2) xp.1], [aI G (AP 1) 7 xp.2.1], [aD G (AP 2) 4 (fun k => some (AP (3 + 2 * k)))], cDrs G AP xp.2.2.1 xp.2.2.2, [oX a (AP 0) hi sl su pa (AT 0) (AU 0)], [oH hi ha h], [oP pa ga v]]) (bperm [0, 1, 2, 6, 3, 4, 5] 7 rfl (by decide +kernel) rfl) ?_
                refine j_w (fl [cSt G AP xp, [oX a (AP 0) hi sl su pa (AT 0) (AU 0)], [oH hi ha h], [oP pa ga v]]) rfl ?_
                refine j_perm (fl [[oX a (AP 0) hi sl su pa (AT 0) (AU 0)], [oH hi ha h], cSt G AP xp, [oP pa ga v]]) (bperm [1, 2, 0, 3] 4 rfl (by decide +kernel) rfl) ?_
                subst hQ; exact j_iret C hr hk ((show f_X4_count_r h xp v k = xp.1 5 from ((if_neg c3).trans ((if_pos c9).trans ((if_neg c26_0).trans ((if_neg c26_1).trans ((if_neg c26_2).trans ((if_neg c26_3).trans (if_pos c26_4)))))))).symm) rfl dX4_count_139
              · by_cases c26_5 : k = 5
                · refine j_tableIn (tgt := 140) C dX4_count_26 (by rw [c26_5] <;> decide) (by rw [c26_5] <;> decide) (by rw [c26_5] <;> rfl) (by decide) ?_
                  refine j_aload_n C dX4_count_140 0 rfl ?_
                  refine j_get C kin4 rfl 0 rfl 0 (by decide) kw_140 rfl (v := .ref (AP 0)) rfl dX4_count_141 ?_
                  refine j_perm (fl [cSt G AP xp, [oX a (AP 0) hi sl su pa (AT 0) (AU 0)], [oH hi ha h], [oP pa ga v]]) (bperm [3, 0, 1, 2] 4 rfl (by decide +kernel) rfl) ?_
                  refine j_w (fl [[oS (AP 0) (AP 1) (AP 2) xp.1], [aI G (AP 1) 7 xp.2.1], [aD G (AP 2) 4 (fun k => some (AP (3 + 2 * k)))], cDrs G AP xp.2.2.1 xp.2.2.2, [oX a (AP 0) hi sl su pa (AT 0) (AU 0)], [oH hi ha h], [oP pa ga v]]) rfl ?_
                  refine j_perm (fl [[oS (AP 0) (AP 1) (AP 2) xp.1], [aI G (AP 1) 7 xp.2.1], [aD G (AP 2) 4 (fun k => some (AP (3 + 2 * k)))], [oX a (AP 0) hi sl su pa (AT 0) (AU 0)], [oH hi ha h], [oP pa ga v], cDrs G AP xp.2.2.1 xp.2.2.2]) (bperm [0, 1, 2, 4, 5, 6, 3] 7 rfl (by decide +kernel) rfl) ?_
                  refine j_get C kin3 rfl 0 rfl 6 (by decide) kw_91 rfl (v := .int (xp.1 6)) rfl dX4_count_144 ?_
                  refine j_perm (fl [[oS (AP 0) (AP 1) (AP 2) xp.1], [aI G (AP 1) 7 xp.2.1], [aD G (AP 2) 4 (fun k => some (AP (3 + 2 * k)))], cDrs G AP xp.2.2.1 xp.2.2.2, [oX a (AP 0) hi sl su pa (AT 0) (AU 0)], [oH hi ha h], [oP pa ga v]]) (bperm [0, 1, 2, 6, 3, 4, 5] 7 rfl (by decide +kernel) rfl) ?_
                  refine j_w (fl [cSt G AP xp, [oX a (AP 0) hi sl su pa (AT 0) (AU 0)], [oH hi ha h], [oP pa ga v]]) rfl ?_
                  refine j_perm (fl [[oX a (AP 0) hi sl su pa (AT 0) (AU 0)], [oH hi ha h], cSt G AP xp, [oP pa ga v]]) (bperm [1, 2, 0, 3] 4 rfl (by decide +kernel) rfl) ?_
                  subst hQ; exact j_iret C hr hk ((show f_X4_count_r h xp v k = xp.1 6 from ((if_neg c3).trans ((if_pos c9).trans ((if_neg c26_0).trans ((if_neg c26_1).trans ((if_neg c26_2).trans ((if_neg c26_3).trans ((if_neg c26_4).trans (if_pos c26_5))))))))).symm) rfl dX4_count_147
                · by_cases c26_13 : k = 13
                  · refine j_tableIn (tgt := 148) C dX4_count_26 (by rw [c26_13] <;> decide) (by rw [c26_13] <;> decide) (by rw [c26_13] <;> rfl) (by decide) ?_
                    refine j_aload_n C dX4_count_148 0 rfl ?_
                    refine j_get C kin4 rfl 0 rfl 4 (by decide) kw_144 rfl (v := .ref pa) rfl dX4_count_149 ?_
                    refine j_get C kin2 rfl 2 rfl 1 (by decide) kw_121 rfl (v := .int (v 1)) rfl dX4_count_152 ?_
                    refine j_perm (fl [[oX a (AP 0) hi sl su pa (AT 0) (AU 0)], [oH hi ha h], cSt G AP xp, [oP pa ga v]]) (bperm [0, 1, 3, 2] 4 rfl (by decide +kernel) rfl) ?_
                    subst hQ; exact j_iret C hr hk ((show f_X4_count_r h xp v k = v 1 from ((if_neg c3).trans ((if_pos c9).trans ((if_neg c26_0).trans ((if_neg c26_1).trans ((if_neg c26_2).trans ((if_neg c26_3).trans ((if_neg c26_4).trans ((if_neg c26_5).trans (if_pos c26_13)))))))))).symm) rfl dX4_count_155
                  · by_cases c26_14 : k = 14
                    · refine j_tableIn (tgt := 156) C dX4_count_26 (by rw [c26_14] <;> decide) (by rw [c26_14] <;> decide) (by rw [c26_14] <;> rfl) (by decide) ?_
                      refine j_aload_n C dX4_count_156 0 rfl ?_
                      refine j_get C kin4 rfl 0 rfl 1 (by decide) kw_141 rfl (v := .ref hi) rfl dX4_count_157 ?_
                      refine j_get C kin1 rfl 1 rfl 2 (by decide) kw_110 rfl (v := .int (h 2)) rfl dX4_count_160 ?_
                      refine j_perm (fl [[oX a (AP 0) hi sl su pa (AT 0) (AU 0)], [oH hi ha h], cSt G AP xp, [oP pa ga v]]) (bperm [0, 1, 3, 2] 4 rfl (by decide +kernel) rfl) ?_
                      subst hQ; exact j_iret C hr hk ((show f_X4_count_r h xp v k = h 2 from ((if_neg c3).trans ((if_pos c9).trans ((if_neg c26_0).trans ((if_neg c26_1).trans ((if_neg c26_2).trans ((if_neg c26_3).trans ((if_neg c26_4).trans ((if_neg c26_5).trans ((if_neg c26_13).trans (if_pos c26_14))))))))))).symm) rfl dX4_count_163
                    · have n26_0 : (k).toInt ≠ 0 := fun h => c26_0 (Int32.toInt_inj.mp h)
                      have n26_1 : (k).toInt ≠ 1 := fun h => c26_1 (Int32.toInt_inj.mp h)
                      have n26_2 : (k).toInt ≠ 2 := fun h => c26_2 (Int32.toInt_inj.mp h)
                      have n26_3 : (k).toInt ≠ 3 := fun h => c26_3 (Int32.toInt_inj.mp h)
                      have n26_4 : (k).toInt ≠ 4 := fun h => c26_4 (Int32.toInt_inj.mp h)
                      have n26_5 : (k).toInt ≠ 5 := fun h => c26_5 (Int32.toInt_inj.mp h)
                      have n26_13 : (k).toInt ≠ 13 := fun h => c26_13 (Int32.toInt_inj.mp h)
                      have n26_14 : (k).toInt ≠ 14 := fun h => c26_14 (Int32.toInt_inj.mp h)
                      by_cases hz26 : (k).toInt < 0 ∨ 14 < (k).toInt
                      · refine j_tableOut (tgt := 164) C dX4_count_26 hz26 (by decide) ?_
                        refine j_bipush (v := (-2)) C dX4_count_164 (by decide) ?_
                        refine j_perm (fl [[oX a (AP 0) hi sl su pa (AT 0) (AU 0)], [oH hi ha h], cSt G AP xp, [oP pa ga v]]) (bperm [0, 1, 3, 2] 4 rfl (by decide +kernel) rfl) ?_
                        subst hQ; exact j_iret C hr hk ((show f_X4_count_r h xp v k = (-2) from ((if_neg c3).trans ((if_pos c9).trans ((if_neg c26_0).trans ((if_neg c26_1).trans ((if_neg c26_2).trans ((if_neg c26_3).trans ((if_neg c26_4).trans ((if_neg c26_5).trans ((if_neg c26_13).trans (if_neg c26_14))))))))))).symm) rfl dX4_count_166
                      · refine j_tableIn (off := 138) (tgt := 164) C dX4_count_26 (by omega) (by omega) (by have hm : (k).toInt = 6 ∨ (k).toInt = 7 ∨ (k).toInt = 8 ∨ (k).toInt = 9 ∨ (k).toInt = 10 ∨ (k).toInt = 11 ∨ (k).toInt = 12 := (by omega); rcases hm with hm | hm | hm | hm | hm | hm | hm <;> (rw [hm]; try rfl)) (by decide) ?_
                        refine j_bipush (v := (-2)) C dX4_count_164 (by decide) ?_
                        refine j_perm (fl [[oX a (AP 0) hi sl su pa (AT 0) (AU 0)], [oH hi ha h], cSt G AP xp, [oP pa ga v]]) (bperm [0, 1, 3, 2] 4 rfl (by decide +kernel) rfl) ?_
                        subst hQ; exact j_iret C hr hk ((show f_X4_count_r h xp v k = (-2) from ((if_neg c3).trans ((if_pos c9).trans ((if_neg c26_0).trans ((if_neg c26_1).trans ((if_neg c26_2).trans ((if_neg c26_3).trans ((if_neg c26_4).trans ((if_neg c26_5).trans ((if_neg c26_13).trans (if_neg c26_14))))))))))).symm) rfl dX4_count_166
    · refine j_aload_n C dX4_count_12 0 rfl ?_
      refine j_get C kin4 rfl 0 rfl 0 (by decide) kw_140 rfl (v := .ref (AP 0)) rfl dX4_count_13 ?_
      refine j_perm (fl [cSt G AP xp, [oX a (AP 0) hi sl su pa (AT 0) (AU 0)], [oH hi ha h], [oP pa ga v]]) (bperm [3, 0, 1, 2] 4 rfl (by decide +kernel) rfl) ?_
      refine j_w (fl [[oS (AP 0) (AP 1) (AP 2) xp.1], [aI G (AP 1) 7 xp.2.1], [aD G (AP 2) 4 (fun k => some (AP (3 + 2 * k)))], cDrs G AP xp.2.2.1 xp.2.2.2, [oX a (AP 0) hi sl su pa (AT 0) (AU 0)], [oH hi ha h], [oP pa ga v]]) rfl ?_
      refine j_perm (fl [[oS (AP 0) (AP 1) (AP 2) xp.1], [aI G (AP 1) 7 xp.2.1], [aD G (AP 2) 4 (fun k => some (AP (3 + 2 * k)))], [oX a (AP 0) hi sl su pa (AT 0) (AU 0)], [oH hi ha h], [oP pa ga v], cDrs G AP xp.2.2.1 xp.2.2.2]) (bperm [0, 1, 2, 4, 5, 6, 3] 7 rfl (by decide +kernel) rfl) ?_
      refine j_get C kin3 rfl 0 rfl 0 (by decide) kw_79 rfl (v := .ref (AP 1)) rfl dX4_count_16 ?_
      refine j_iload_n C dX4_count_19 1 rfl ?_
      refine j_bipush (v := 6) C dX4_count_20 (by decide) ?_
      refine j_isub C dX4_count_22 rfl ?_
      refine j_iald C 1 rfl (vin_m6 c3 c9) (v := xp.2.1 (k - 6).toNatClampNeg) rfl dX4_count_23 ?_
      refine j_perm (fl [[oS (AP 0) (AP 1) (AP 2) xp.1], [aI G (AP 1) 7 xp.2.1], [aD G (AP 2) 4 (fun k => some (AP (3 + 2 * k)))], cDrs G AP xp.2.2.1 xp.2.2.2, [oX a (AP 0) hi sl su pa (AT 0) (AU 0)], [oH hi ha h], [oP pa ga v]]) (bperm [0, 1, 2, 6, 3, 4, 5] 7 rfl (by decide +kernel) rfl) ?_
      refine j_w (fl [cSt G AP xp, [oX a (AP 0) hi sl su pa (AT 0) (AU 0)], [oH hi ha h], [oP pa ga v]]) rfl ?_
      refine j_perm (fl [[oX a (AP 0) hi sl su pa (AT 0) (AU 0)], [oH hi ha h], cSt G AP xp, [oP pa ga v]]) (bperm [1, 2, 0, 3] 4 rfl (by decide +kernel) rfl) ?_
      subst hQ; exact j_iret C hr hk ((show f_X4_count_r h xp v k = xp.2.1 (k - 6).toNatClampNeg from ((if_neg c3).trans (if_neg c9))).symm) rfl dX4_count_24
noncomputable def f_X4_loudIn_xt (xp : StV) (xt : StV) (k : Int32) (y : Int32) : StV := (if f_X4_errorOfQuestion_r k y = 0 then f_X4_tryMinutes_xt xp xt y else xt)
noncomputable def f_X4_loudIn_r (xp : StV) (xt : StV) (k : Int32) (y : Int32) : Int32 := (if f_X4_errorOfQuestion_r k y = 0 then (((f_X4_tryMinutes_xt xp xt y).2.2.1 k.toNatClampNeg).1 7) - ((xp.2.2.1 k.toNatClampNeg).1 7) else f_X4_errorOfQuestion_r k y)
set_option maxRecDepth 100000 in
set_option maxHeartbeats 4000000 in
theorem m_X4_loudIn (l : Launch) (G : GG) (a hi sl su pa : Nat) (AP AT AU : Nat → Nat) (xp : StV) (xt : StV) (k : Int32) (y : Int32)  : CtI l yX4_loudIn cX4_loudIn 4 (some .int) (RM 7) G [.ref a, .int k, .int y] (fl [[oX a (AP 0) hi sl su pa (AT 0) (AU 0)], cSt G AP xp, cSt G AT xt]) (f_X4_loudIn_r xp xt k y) (fl [[oX a (AP 0) hi sl su pa (AT 0) (AU 0)], cSt G AP xp, cSt G AT (f_X4_loudIn_xt xp xt k y)]) := by
  refine ct_I RX4 [(0, .ref a), (1, .int k), (2, .int y)] rfl (by decide +kernel) (Nat.le_of_ble_eq_true rfl) rfl ?_
  intro p e s m args below meth c A C hr hk hnm
  generalize hQ : (MQ below (PostI G A (f_X4_loudIn_r xp xt k y) (fl [[oX a (AP 0) hi sl su pa (AT 0) (AU 0)], cSt G AP xp, cSt G AT (f_X4_loudIn_xt xp xt k y)])) args s (RM 7).cells (RM 7).slots A) = Q
  refine j_aload_n C dX4_loudIn_0 0 rfl ?_
  refine j_iload_n C dX4_loudIn_1 1 rfl ?_
  refine j_iload_n C dX4_loudIn_2 2 rfl ?_
  refine j_callV_i (r := f_X4_errorOfQuestion_r k y) (wc' := [oX a (AP 0) hi sl su pa (AT 0) (AU 0)]) C (m_X4_errorOfQuestion l G a hi sl su pa AP AT AU k y) rfl 0 rfl 2 (gV kw_351 kw_352 kw_761 kw_1 kw_353) (by decide +kernel) ⟨(Nat.le_of_ble_eq_true rfl), (Nat.le_of_ble_eq_true rfl)⟩ rfl rfl (Nat.le_of_ble_eq_true rfl) dX4_loudIn_3 ⟨(Nat.le_of_ble_eq_true rfl), (Nat.le_of_ble_eq_true rfl)⟩ (fl [cSt G AP xp, cSt G AT xt]) (fl [[oX a (AP 0) hi sl su pa (AT 0) (AU 0)], cSt G AP xp, cSt G AT xt]) (bperm (bs' := [[oX a (AP 0) hi sl su pa (AT 0) (AU 0)], cSt G AP xp, cSt G AT xt]) [0, 1, 2] 3 rfl (by decide +kernel) rfl) rfl ?_
  refine j_istore_n C [(3, .int (f_X4_errorOfQuestion_r k y)), (0, .ref a), (1, .int k), (2, .int y)] dX4_loudIn_6 (by decide) rfl ?_
  refine j_iload_n C dX4_loudIn_7 0 rfl ?_
  refine j_if_eq (tgt := 13) C dX4_loudIn_8 (by decide) (fun c8 => ?_) (fun c8 => ?_)
  · refine j_aload_n C dX4_loudIn_13 1 rfl ?_
    refine j_iload_n C dX4_loudIn_14 3 rfl ?_
    refine j_callV_v (wc' := fl [[oX a (AP 0) hi sl su pa (AT 0) (AU 0)], cSt G AP xp, cSt G AT (f_X4_tryMinutes_xt xp xt y)]) C (m_X4_tryMinutes l G a hi sl su pa AP AT AU xp xt y) rfl 0 rfl 1 (gV kw_355 kw_356 kw_762 kw_1 kw_357) (by decide +kernel) ⟨(Nat.le_of_ble_eq_true rfl), (Nat.le_of_ble_eq_true rfl)⟩ rfl rfl (Nat.le_of_ble_eq_true rfl) dX4_loudIn_15 ⟨(Nat.le_of_ble_eq_true rfl), (Nat.le_of_ble_eq_true rfl)⟩ (fl []) (fl [[oX a (AP 0) hi sl su pa (AT 0) (AU 0)], cSt G AP xp, cSt G AT (f_X4_tryMinutes_xt xp xt y)]) (bperm2 (bC := [[oX a (AP 0) hi sl su pa (AT 0) (AU 0)], cSt G AP xp, cSt G AT xt]) (bR := []) [0, 1, 2] 3 rfl (by decide +kernel) rfl) (fl_app _ _) ?_
    refine j_aload_n C dX4_loudIn_18 1 rfl ?_
    refine j_get C kin4 rfl 0 rfl 5 (by decide) kw_145 rfl (v := .ref (AT 0)) rfl dX4_loudIn_19 ?_
    refine j_perm (fl [cSt G AT (f_X4_tryMinutes_xt xp xt y), [oX a (AP 0) hi sl su pa (AT 0) (AU 0)], cSt G AP xp]) (bperm [2, 0, 1] 3 rfl (by decide +kernel) rfl) ?_
    refine j_w (fl [[oS (AT 0) (AT 1) (AT 2) ((f_X4_tryMinutes_xt xp xt y).1)], [aI G (AT 1) 7 ((f_X4_tryMinutes_xt xp xt y).2.1)], [aD G (AT 2) 4 (fun k => some (AT (3 + 2 * k)))], cDrs G AT (f_X4_tryMinutes_xt xp xt y).2.2.1 (f_X4_tryMinutes_xt xp xt y).2.2.2, [oX a (AP 0) hi sl su pa (AT 0) (AU 0)], cSt G AP xp]) rfl ?_
    refine j_perm (fl [[oS (AT 0) (AT 1) (AT 2) ((f_X4_tryMinutes_xt xp xt y).1)], [aI G (AT 1) 7 ((f_X4_tryMinutes_xt xp xt y).2.1)], [aD G (AT 2) 4 (fun k => some (AT (3 + 2 * k)))], [oX a (AP 0) hi sl su pa (AT 0) (AU 0)], cDrs G AT (f_X4_tryMinutes_xt xp xt y).2.2.1 (f_X4_tryMinutes_xt xp xt y).2.2.2, cSt G AP xp]) (bperm [0, 1, 2, 4, 3, 5] 6 rfl (by decide +kernel) rfl) ?_
    refine j_get C kin3 rfl 0 rfl 1 (by decide) kw_81 rfl (v := .ref (AT 2)) rfl dX4_loudIn_22 ?_
    refine j_iload_n C dX4_loudIn_25 2 rfl ?_
    refine j_perm (fl [cDrs G AT (f_X4_tryMinutes_xt xp xt y).2.2.1 (f_X4_tryMinutes_xt xp xt y).2.2.2, [oS (AT 0) (AT 1) (AT 2) ((f_X4_tryMinutes_xt xp xt y).1)], [aI G (AT 1) 7 ((f_X4_tryMinutes_xt xp xt y).2.1)], [aD G (AT 2) 4 (fun k => some (AT (3 + 2 * k)))], [oX a (AP 0) hi sl su pa (AT 0) (AU 0)], cSt G AP xp]) (bperm [4, 0, 1, 2, 3, 5] 6 rfl (by decide +kernel) rfl) ?_
    refine j_perm (fl [[oD (AT (3 + 2 * k.toNatClampNeg)) (AT (4 + 2 * k.toNatClampNeg)) ((f_X4_tryMinutes_xt xp xt y).2.2.1 k.toNatClampNeg)], [aB G (AT (4 + 2 * k.toNatClampNeg)) ((f_X4_tryMinutes_xt xp xt y).2.2.2 k.toNatClampNeg)], cRs G AT (f_X4_tryMinutes_xt xp xt y).2.2.1 (f_X4_tryMinutes_xt xp xt y).2.2.2 k.toNatClampNeg, [oS (AT 0) (AT 1) (AT 2) ((f_X4_tryMinutes_xt xp xt y).1)], [aI G (AT 1) 7 ((f_X4_tryMinutes_xt xp xt y).2.1)], [aD G (AT 2) 4 (fun k => some (AT (3 + 2 * k)))], [oX a (AP 0) hi sl su pa (AT 0) (AU 0)], cSt G AP xp]) (open_at (openDrs G AT (f_X4_tryMinutes_xt xp xt y).2.2.1 (f_X4_tryMinutes_xt xp xt y).2.2.2 k.toNatClampNeg (vin_nat (eoq_drive c8)))) ?_
    refine j_perm (fl [[oD (AT (3 + 2 * k.toNatClampNeg)) (AT (4 + 2 * k.toNatClampNeg)) ((f_X4_tryMinutes_xt xp xt y).2.2.1 k.toNatClampNeg)], [aB G (AT (4 + 2 * k.toNatClampNeg)) ((f_X4_tryMinutes_xt xp xt y).2.2.2 k.toNatClampNeg)], [oS (AT 0) (AT 1) (AT 2) ((f_X4_tryMinutes_xt xp xt y).1)], [aI G (AT 1) 7 ((f_X4_tryMinutes_xt xp xt y).2.1)], [aD G (AT 2) 4 (fun k => some (AT (3 + 2 * k)))], [oX a (AP 0) hi sl su pa (AT 0) (AU 0)], cRs G AT (f_X4_tryMinutes_xt xp xt y).2.2.1 (f_X4_tryMinutes_xt xp xt y).2.2.2 k.toNatClampNeg, cSt G AP xp]) (bperm [0, 1, 3, 4, 5, 6, 2, 7] 8 rfl (by decide +kernel) rfl) ?_
    refine j_aaldD C 4 rfl (eoq_drive c8) (y := AT (3 + 2 * k.toNatClampNeg)) rfl dX4_loudIn_26 ?_
    refine j_get C kin0 rfl 0 rfl 7 (by decide) kw_52 rfl (v := .int (((f_X4_tryMinutes_xt xp xt y).2.2.1 k.toNatClampNeg).1 7)) rfl dX4_loudIn_27 ?_
    refine j_aload_n C dX4_loudIn_30 1 rfl ?_
    refine j_get C kin4 rfl 5 rfl 0 (by decide) kw_140 rfl (v := .ref (AP 0)) rfl dX4_loudIn_31 ?_
    refine j_perm (fl [cSt G AP xp, [oD (AT (3 + 2 * k.toNatClampNeg)) (AT (4 + 2 * k.toNatClampNeg)) ((f_X4_tryMinutes_xt xp xt y).2.2.1 k.toNatClampNeg)], [aB G (AT (4 + 2 * k.toNatClampNeg)) ((f_X4_tryMinutes_xt xp xt y).2.2.2 k.toNatClampNeg)], [oS (AT 0) (AT 1) (AT 2) ((f_X4_tryMinutes_xt xp xt y).1)], [aI G (AT 1) 7 ((f_X4_tryMinutes_xt xp xt y).2.1)], [aD G (AT 2) 4 (fun k => some (AT (3 + 2 * k)))], [oX a (AP 0) hi sl su pa (AT 0) (AU 0)], cRs G AT (f_X4_tryMinutes_xt xp xt y).2.2.1 (f_X4_tryMinutes_xt xp xt y).2.2.2 k.toNatClampNeg]) (bperm [7, 0, 1, 2, 3, 4, 5, 6] 8 rfl (by decide +kernel) rfl) ?_
    refine j_w (fl [[oS (AP 0) (AP 1) (AP 2) xp.1], [aI G (AP 1) 7 xp.2.1], [aD G (AP 2) 4 (fun k => some (AP (3 + 2 * k)))], cDrs G AP xp.2.2.1 xp.2.2.2, [oD (AT (3 + 2 * k.toNatClampNeg)) (AT (4 + 2 * k.toNatClampNeg)) ((f_X4_tryMinutes_xt xp xt y).2.2.1 k.toNatClampNeg)], [aB G (AT (4 + 2 * k.toNatClampNeg)) ((f_X4_tryMinutes_xt xp xt y).2.2.2 k.toNatClampNeg)], [oS (AT 0) (AT 1) (AT 2) ((f_X4_tryMinutes_xt xp xt y).1)], [aI G (AT 1) 7 ((f_X4_tryMinutes_xt xp xt y).2.1)], [aD G (AT 2) 4 (fun k => some (AT (3 + 2 * k)))], [oX a (AP 0) hi sl su pa (AT 0) (AU 0)], cRs G AT (f_X4_tryMinutes_xt xp xt y).2.2.1 (f_X4_tryMinutes_xt xp xt y).2.2.2 k.toNatClampNeg]) rfl ?_
    refine j_perm (fl [[oS (AP 0) (AP 1) (AP 2) xp.1], [aI G (AP 1) 7 xp.2.1], [aD G (AP 2) 4 (fun k => some (AP (3 + 2 * k)))], [oD (AT (3 + 2 * k.toNatClampNeg)) (AT (4 + 2 * k.toNatClampNeg)) ((f_X4_tryMinutes_xt xp xt y).2.2.1 k.toNatClampNeg)], [aB G (AT (4 + 2 * k.toNatClampNeg)) ((f_X4_tryMinutes_xt xp xt y).2.2.2 k.toNatClampNeg)], [oS (AT 0) (AT 1) (AT 2) ((f_X4_tryMinutes_xt xp xt y).1)], [aI G (AT 1) 7 ((f_X4_tryMinutes_xt xp xt y).2.1)], [aD G (AT 2) 4 (fun k => some (AT (3 + 2 * k)))], [oX a (AP 0) hi sl su pa (AT 0) (AU 0)], cDrs G AP xp.2.2.1 xp.2.2.2, cRs G AT (f_X4_tryMinutes_xt xp xt y).2.2.1 (f_X4_tryMinutes_xt xp xt y).2.2.2 k.toNatClampNeg]) (bperm [0, 1, 2, 4, 5, 6, 7, 8, 9, 3, 10] 11 rfl (by decide +kernel) rfl) ?_
    refine j_get C kin3 rfl 0 rfl 1 (by decide) kw_81 rfl (v := .ref (AP 2)) rfl dX4_loudIn_34 ?_
    refine j_iload_n C dX4_loudIn_37 2 rfl ?_
    refine j_perm (fl [cDrs G AP xp.2.2.1 xp.2.2.2, [oS (AP 0) (AP 1) (AP 2) xp.1], [aI G (AP 1) 7 xp.2.1], [aD G (AP 2) 4 (fun k => some (AP (3 + 2 * k)))], [oD (AT (3 + 2 * k.toNatClampNeg)) (AT (4 + 2 * k.toNatClampNeg)) ((f_X4_tryMinutes_xt xp xt y).2.2.1 k.toNatClampNeg)], [aB G (AT (4 + 2 * k.toNatClampNeg)) ((f_X4_tryMinutes_xt xp xt y).2.2.2 k.toNatClampNeg)], [oS (AT 0) (AT 1) (AT 2) ((f_X4_tryMinutes_xt xp xt y).1)], [aI G (AT 1) 7 ((f_X4_tryMinutes_xt xp xt y).2.1)], [aD G (AT 2) 4 (fun k => some (AT (3 + 2 * k)))], [oX a (AP 0) hi sl su pa (AT 0) (AU 0)], cRs G AT (f_X4_tryMinutes_xt xp xt y).2.2.1 (f_X4_tryMinutes_xt xp xt y).2.2.2 k.toNatClampNeg]) (bperm [9, 0, 1, 2, 3, 4, 5, 6, 7, 8, 10] 11 rfl (by decide +kernel) rfl) ?_
    refine j_perm (fl [[oD (AP (3 + 2 * k.toNatClampNeg)) (AP (4 + 2 * k.toNatClampNeg)) (xp.2.2.1 k.toNatClampNeg)], [aB G (AP (4 + 2 * k.toNatClampNeg)) (xp.2.2.2 k.toNatClampNeg)], cRs G AP xp.2.2.1 xp.2.2.2 k.toNatClampNeg, [oS (AP 0) (AP 1) (AP 2) xp.1], [aI G (AP 1) 7 xp.2.1], [aD G (AP 2) 4 (fun k => some (AP (3 + 2 * k)))], [oD (AT (3 + 2 * k.toNatClampNeg)) (AT (4 + 2 * k.toNatClampNeg)) ((f_X4_tryMinutes_xt xp xt y).2.2.1 k.toNatClampNeg)], [aB G (AT (4 + 2 * k.toNatClampNeg)) ((f_X4_tryMinutes_xt xp xt y).2.2.2 k.toNatClampNeg)], [oS (AT 0) (AT 1) (AT 2) ((f_X4_tryMinutes_xt xp xt y).1)], [aI G (AT 1) 7 ((f_X4_tryMinutes_xt xp xt y).2.1)], [aD G (AT 2) 4 (fun k => some (AT (3 + 2 * k)))], [oX a (AP 0) hi sl su pa (AT 0) (AU 0)], cRs G AT (f_X4_tryMinutes_xt xp xt y).2.2.1 (f_X4_tryMinutes_xt xp xt y).2.2.2 k.toNatClampNeg]) (open_at (openDrs G AP xp.2.2.1 xp.2.2.2 k.toNatClampNeg (vin_nat (eoq_drive c8)))) ?_
    refine j_perm (fl [[oD (AP (3 + 2 * k.toNatClampNeg)) (AP (4 + 2 * k.toNatClampNeg)) (xp.2.2.1 k.toNatClampNeg)], [aB G (AP (4 + 2 * k.toNatClampNeg)) (xp.2.2.2 k.toNatClampNeg)], [oS (AP 0) (AP 1) (AP 2) xp.1], [aI G (AP 1) 7 xp.2.1], [aD G (AP 2) 4 (fun k => some (AP (3 + 2 * k)))], [oD (AT (3 + 2 * k.toNatClampNeg)) (AT (4 + 2 * k.toNatClampNeg)) ((f_X4_tryMinutes_xt xp xt y).2.2.1 k.toNatClampNeg)], [aB G (AT (4 + 2 * k.toNatClampNeg)) ((f_X4_tryMinutes_xt xp xt y).2.2.2 k.toNatClampNeg)], [oS (AT 0) (AT 1) (AT 2) ((f_X4_tryMinutes_xt xp xt y).1)], [aI G (AT 1) 7 ((f_X4_tryMinutes_xt xp xt y).2.1)], [aD G (AT 2) 4 (fun k => some (AT (3 + 2 * k)))], [oX a (AP 0) hi sl su pa (AT 0) (AU 0)], cRs G AP xp.2.2.1 xp.2.2.2 k.toNatClampNeg, cRs G AT (f_X4_tryMinutes_xt xp xt y).2.2.1 (f_X4_tryMinutes_xt xp xt y).2.2.2 k.toNatClampNeg]) (bperm [0, 1, 3, 4, 5, 6, 7, 8, 9, 10, 11, 2, 12] 13 rfl (by decide +kernel) rfl) ?_
    refine j_aaldD C 4 rfl (eoq_drive c8) (y := AP (3 + 2 * k.toNatClampNeg)) rfl dX4_loudIn_38 ?_
    refine j_get C kin0 rfl 0 rfl 7 (by decide) kw_52 rfl (v := .int ((xp.2.2.1 k.toNatClampNeg).1 7)) rfl dX4_loudIn_39 ?_
    refine j_isub C dX4_loudIn_42 rfl ?_
    refine j_perm (fl [[oD (AP (3 + 2 * k.toNatClampNeg)) (AP (4 + 2 * k.toNatClampNeg)) (xp.2.2.1 k.toNatClampNeg)], [aB G (AP (4 + 2 * k.toNatClampNeg)) (xp.2.2.2 k.toNatClampNeg)], cRs G AP xp.2.2.1 xp.2.2.2 k.toNatClampNeg, [oS (AP 0) (AP 1) (AP 2) xp.1], [aI G (AP 1) 7 xp.2.1], [aD G (AP 2) 4 (fun k => some (AP (3 + 2 * k)))], [oD (AT (3 + 2 * k.toNatClampNeg)) (AT (4 + 2 * k.toNatClampNeg)) ((f_X4_tryMinutes_xt xp xt y).2.2.1 k.toNatClampNeg)], [aB G (AT (4 + 2 * k.toNatClampNeg)) ((f_X4_tryMinutes_xt xp xt y).2.2.2 k.toNatClampNeg)], [oS (AT 0) (AT 1) (AT 2) ((f_X4_tryMinutes_xt xp xt y).1)], [aI G (AT 1) 7 ((f_X4_tryMinutes_xt xp xt y).2.1)], [aD G (AT 2) 4 (fun k => some (AT (3 + 2 * k)))], [oX a (AP 0) hi sl su pa (AT 0) (AU 0)], cRs G AT (f_X4_tryMinutes_xt xp xt y).2.2.1 (f_X4_tryMinutes_xt xp xt y).2.2.2 k.toNatClampNeg]) (bperm [0, 1, 11, 2, 3, 4, 5, 6, 7, 8, 9, 10, 12] 13 rfl (by decide +kernel) rfl) ?_
    refine j_perm (fl [cDrs G AP xp.2.2.1 xp.2.2.2, [oS (AP 0) (AP 1) (AP 2) xp.1], [aI G (AP 1) 7 xp.2.1], [aD G (AP 2) 4 (fun k => some (AP (3 + 2 * k)))], [oD (AT (3 + 2 * k.toNatClampNeg)) (AT (4 + 2 * k.toNatClampNeg)) ((f_X4_tryMinutes_xt xp xt y).2.2.1 k.toNatClampNeg)], [aB G (AT (4 + 2 * k.toNatClampNeg)) ((f_X4_tryMinutes_xt xp xt y).2.2.2 k.toNatClampNeg)], [oS (AT 0) (AT 1) (AT 2) ((f_X4_tryMinutes_xt xp xt y).1)], [aI G (AT 1) 7 ((f_X4_tryMinutes_xt xp xt y).2.1)], [aD G (AT 2) 4 (fun k => some (AT (3 + 2 * k)))], [oX a (AP 0) hi sl su pa (AT 0) (AU 0)], cRs G AT (f_X4_tryMinutes_xt xp xt y).2.2.1 (f_X4_tryMinutes_xt xp xt y).2.2.2 k.toNatClampNeg]) (shut_at (bs := [[oD (AP (3 + 2 * k.toNatClampNeg)) (AP (4 + 2 * k.toNatClampNeg)) (xp.2.2.1 k.toNatClampNeg)], [aB G (AP (4 + 2 * k.toNatClampNeg)) (xp.2.2.2 k.toNatClampNeg)], cRs G AP xp.2.2.1 xp.2.2.2 k.toNatClampNeg]) (openDrs G AP xp.2.2.1 xp.2.2.2 k.toNatClampNeg (vin_nat (eoq_drive c8))).symm) ?_
    refine j_perm (fl [[oD (AT (3 + 2 * k.toNatClampNeg)) (AT (4 + 2 * k.toNatClampNeg)) ((f_X4_tryMinutes_xt xp xt y).2.2.1 k.toNatClampNeg)], [aB G (AT (4 + 2 * k.toNatClampNeg)) ((f_X4_tryMinutes_xt xp xt y).2.2.2 k.toNatClampNeg)], cRs G AT (f_X4_tryMinutes_xt xp xt y).2.2.1 (f_X4_tryMinutes_xt xp xt y).2.2.2 k.toNatClampNeg, cDrs G AP xp.2.2.1 xp.2.2.2, [oS (AP 0) (AP 1) (AP 2) xp.1], [aI G (AP 1) 7 xp.2.1], [aD G (AP 2) 4 (fun k => some (AP (3 + 2 * k)))], [oS (AT 0) (AT 1) (AT 2) ((f_X4_tryMinutes_xt xp xt y).1)], [aI G (AT 1) 7 ((f_X4_tryMinutes_xt xp xt y).2.1)], [aD G (AT 2) 4 (fun k => some (AT (3 + 2 * k)))], [oX a (AP 0) hi sl su pa (AT 0) (AU 0)]]) (bperm [4, 5, 10, 0, 1, 2, 3, 6, 7, 8, 9] 11 rfl (by decide +kernel) rfl) ?_
    refine j_perm (fl [cDrs G AT (f_X4_tryMinutes_xt xp xt y).2.2.1 (f_X4_tryMinutes_xt xp xt y).2.2.2, cDrs G AP xp.2.2.1 xp.2.2.2, [oS (AP 0) (AP 1) (AP 2) xp.1], [aI G (AP 1) 7 xp.2.1], [aD G (AP 2) 4 (fun k => some (AP (3 + 2 * k)))], [oS (AT 0) (AT 1) (AT 2) ((f_X4_tryMinutes_xt xp xt y).1)], [aI G (AT 1) 7 ((f_X4_tryMinutes_xt xp xt y).2.1)], [aD G (AT 2) 4 (fun k => some (AT (3 + 2 * k)))], [oX a (AP 0) hi sl su pa (AT 0) (AU 0)]]) (shut_at (bs := [[oD (AT (3 + 2 * k.toNatClampNeg)) (AT (4 + 2 * k.toNatClampNeg)) ((f_X4_tryMinutes_xt xp xt y).2.2.1 k.toNatClampNeg)], [aB G (AT (4 + 2 * k.toNatClampNeg)) ((f_X4_tryMinutes_xt xp xt y).2.2.2 k.toNatClampNeg)], cRs G AT (f_X4_tryMinutes_xt xp xt y).2.2.1 (f_X4_tryMinutes_xt xp xt y).2.2.2 k.toNatClampNeg]) (openDrs G AT (f_X4_tryMinutes_xt xp xt y).2.2.1 (f_X4_tryMinutes_xt xp xt y).2.2.2 k.toNatClampNeg (vin_nat (eoq_drive c8))).symm) ?_
    refine j_perm (fl [[oS (AP 0) (AP 1) (AP 2) xp.1], [aI G (AP 1) 7 xp.2.1], [aD G (AP 2) 4 (fun k => some (AP (3 + 2 * k)))], cDrs G AP xp.2.2.1 xp.2.2.2, cDrs G AT (f_X4_tryMinutes_xt xp xt y).2.2.1 (f_X4_tryMinutes_xt xp xt y).2.2.2, [oS (AT 0) (AT 1) (AT 2) ((f_X4_tryMinutes_xt xp xt y).1)], [aI G (AT 1) 7 ((f_X4_tryMinutes_xt xp xt y).2.1)], [aD G (AT 2) 4 (fun k => some (AT (3 + 2 * k)))], [oX a (AP 0) hi sl su pa (AT 0) (AU 0)]]) (bperm [2, 3, 4, 1, 0, 5, 6, 7, 8] 9 rfl (by decide +kernel) rfl) ?_
    refine j_w (fl [cSt G AP xp, cDrs G AT (f_X4_tryMinutes_xt xp xt y).2.2.1 (f_X4_tryMinutes_xt xp xt y).2.2.2, [oS (AT 0) (AT 1) (AT 2) ((f_X4_tryMinutes_xt xp xt y).1)], [aI G (AT 1) 7 ((f_X4_tryMinutes_xt xp xt y).2.1)], [aD G (AT 2) 4 (fun k => some (AT (3 + 2 * k)))], [oX a (AP 0) hi sl su pa (AT 0) (AU 0)]]) rfl ?_
    refine j_perm (fl [[oS (AT 0) (AT 1) (AT 2) ((f_X4_tryMinutes_xt xp xt y).1)], [aI G (AT 1) 7 ((f_X4_tryMinutes_xt xp xt y).2.1)], [aD G (AT 2) 4 (fun k => some (AT (3 + 2 * k)))], cDrs G AT (f_X4_tryMinutes_xt xp xt y).2.2.1 (f_X4_tryMinutes_xt xp xt y).2.2.2, cSt G AP xp, [oX a (AP 0) hi sl su pa (AT 0) (AU 0)]]) (bperm [2, 3, 4, 1, 0, 5] 6 rfl (by decide +kernel) rfl) ?_
    refine j_w (fl [cSt G AT (f_X4_tryMinutes_xt xp xt y), cSt G AP xp, [oX a (AP 0) hi sl su pa (AT 0) (AU 0)]]) rfl ?_
    refine j_perm (fl [[oX a (AP 0) hi sl su pa (AT 0) (AU 0)], cSt G AP xp, cSt G AT (f_X4_tryMinutes_xt xp xt y)]) (bperm [2, 1, 0] 3 rfl (by decide +kernel) rfl) ?_
    subst hQ; exact j_iret C hr hk ((show f_X4_loudIn_r xp xt k y = (((f_X4_tryMinutes_xt xp xt y).2.2.1 k.toNatClampNeg).1 7) - ((xp.2.2.1 k.toNatClampNeg).1 7) from (if_pos c8)).symm) (by rw [show f_X4_loudIn_xt xp xt k y = f_X4_tryMinutes_xt xp xt y from (if_pos c8)]) dX4_loudIn_43
  · refine j_iload_n C dX4_loudIn_11 0 rfl ?_
    subst hQ; exact j_iret C hr hk ((show f_X4_loudIn_r xp xt k y = f_X4_errorOfQuestion_r k y from (if_neg c8)).symm) (by rw [show f_X4_loudIn_xt xp xt k y = xt from (if_neg c8)]) dX4_loudIn_12
noncomputable def f_X4_freeIn_xt (xp : StV) (xt : StV) (k : Int32) (y : Int32) : StV := (if f_X4_errorOfQuestion_r k y = 0 then f_X4_tryMinutes_xt xp xt y else xt)
noncomputable def f_X4_freeIn_r (xp : StV) (xt : StV) (k : Int32) (y : Int32) : Int32 := (if f_X4_errorOfQuestion_r k y = 0 then ((f_X4_tryMinutes_xt xp xt y).2.2.1 k.toNatClampNeg).1 0 else f_X4_errorOfQuestion_r k y)
set_option maxRecDepth 100000 in
set_option maxHeartbeats 4000000 in
theorem m_X4_freeIn (l : Launch) (G : GG) (a hi sl su pa : Nat) (AP AT AU : Nat → Nat) (xp : StV) (xt : StV) (k : Int32) (y : Int32)  : CtI l yX4_freeIn cX4_freeIn 4 (some .int) (RM 7) G [.ref a, .int k, .int y] (fl [[oX a (AP 0) hi sl su pa (AT 0) (AU 0)], cSt G AP xp, cSt G AT xt]) (f_X4_freeIn_r xp xt k y) (fl [[oX a (AP 0) hi sl su pa (AT 0) (AU 0)], cSt G AP xp, cSt G AT (f_X4_freeIn_xt xp xt k y)]) := by
  refine ct_I RX4 [(0, .ref a), (1, .int k), (2, .int y)] rfl (by decide +kernel) (Nat.le_of_ble_eq_true rfl) rfl ?_
  intro p e s m args below meth c A C hr hk hnm
  generalize hQ : (MQ below (PostI G A (f_X4_freeIn_r xp xt k y) (fl [[oX a (AP 0) hi sl su pa (AT 0) (AU 0)], cSt G AP xp, cSt G AT (f_X4_freeIn_xt xp xt k y)])) args s (RM 7).cells (RM 7).slots A) = Q
  refine j_aload_n C dX4_freeIn_0 0 rfl ?_
  refine j_iload_n C dX4_freeIn_1 1 rfl ?_
  refine j_iload_n C dX4_freeIn_2 2 rfl ?_
  refine j_callV_i (r := f_X4_errorOfQuestion_r k y) (wc' := [oX a (AP 0) hi sl su pa (AT 0) (AU 0)]) C (m_X4_errorOfQuestion l G a hi sl su pa AP AT AU k y) rfl 0 rfl 2 (gV kw_351 kw_352 kw_761 kw_1 kw_353) (by decide +kernel) ⟨(Nat.le_of_ble_eq_true rfl), (Nat.le_of_ble_eq_true rfl)⟩ rfl rfl (Nat.le_of_ble_eq_true rfl) dX4_freeIn_3 ⟨(Nat.le_of_ble_eq_true rfl), (Nat.le_of_ble_eq_true rfl)⟩ (fl [cSt G AP xp, cSt G AT xt]) (fl [[oX a (AP 0) hi sl su pa (AT 0) (AU 0)], cSt G AP xp, cSt G AT xt]) (bperm (bs' := [[oX a (AP 0) hi sl su pa (AT 0) (AU 0)], cSt G AP xp, cSt G AT xt]) [0, 1, 2] 3 rfl (by decide +kernel) rfl) rfl ?_
  refine j_istore_n C [(3, .int (f_X4_errorOfQuestion_r k y)), (0, .ref a), (1, .int k), (2, .int y)] dX4_freeIn_6 (by decide) rfl ?_
  refine j_iload_n C dX4_freeIn_7 0 rfl ?_
  refine j_if_eq (tgt := 13) C dX4_freeIn_8 (by decide) (fun c8 => ?_) (fun c8 => ?_)
  · refine j_aload_n C dX4_freeIn_13 1 rfl ?_
    refine j_iload_n C dX4_freeIn_14 3 rfl ?_
    refine j_callV_v (wc' := fl [[oX a (AP 0) hi sl su pa (AT 0) (AU 0)], cSt G AP xp, cSt G AT (f_X4_tryMinutes_xt xp xt y)]) C (m_X4_tryMinutes l G a hi sl su pa AP AT AU xp xt y) rfl 0 rfl 1 (gV kw_355 kw_356 kw_762 kw_1 kw_357) (by decide +kernel) ⟨(Nat.le_of_ble_eq_true rfl), (Nat.le_of_ble_eq_true rfl)⟩ rfl rfl (Nat.le_of_ble_eq_true rfl) dX4_freeIn_15 ⟨(Nat.le_of_ble_eq_true rfl), (Nat.le_of_ble_eq_true rfl)⟩ (fl []) (fl [[oX a (AP 0) hi sl su pa (AT 0) (AU 0)], cSt G AP xp, cSt G AT (f_X4_tryMinutes_xt xp xt y)]) (bperm2 (bC := [[oX a (AP 0) hi sl su pa (AT 0) (AU 0)], cSt G AP xp, cSt G AT xt]) (bR := []) [0, 1, 2] 3 rfl (by decide +kernel) rfl) (fl_app _ _) ?_
    refine j_aload_n C dX4_freeIn_18 1 rfl ?_
    refine j_get C kin4 rfl 0 rfl 5 (by decide) kw_145 rfl (v := .ref (AT 0)) rfl dX4_freeIn_19 ?_
    refine j_perm (fl [cSt G AT (f_X4_tryMinutes_xt xp xt y), [oX a (AP 0) hi sl su pa (AT 0) (AU 0)], cSt G AP xp]) (bperm [2, 0, 1] 3 rfl (by decide +kernel) rfl) ?_
    refine j_w (fl [[oS (AT 0) (AT 1) (AT 2) ((f_X4_tryMinutes_xt xp xt y).1)], [aI G (AT 1) 7 ((f_X4_tryMinutes_xt xp xt y).2.1)], [aD G (AT 2) 4 (fun k => some (AT (3 + 2 * k)))], cDrs G AT (f_X4_tryMinutes_xt xp xt y).2.2.1 (f_X4_tryMinutes_xt xp xt y).2.2.2, [oX a (AP 0) hi sl su pa (AT 0) (AU 0)], cSt G AP xp]) rfl ?_
    refine j_perm (fl [[oS (AT 0) (AT 1) (AT 2) ((f_X4_tryMinutes_xt xp xt y).1)], [aI G (AT 1) 7 ((f_X4_tryMinutes_xt xp xt y).2.1)], [aD G (AT 2) 4 (fun k => some (AT (3 + 2 * k)))], [oX a (AP 0) hi sl su pa (AT 0) (AU 0)], cDrs G AT (f_X4_tryMinutes_xt xp xt y).2.2.1 (f_X4_tryMinutes_xt xp xt y).2.2.2, cSt G AP xp]) (bperm [0, 1, 2, 4, 3, 5] 6 rfl (by decide +kernel) rfl) ?_
    refine j_get C kin3 rfl 0 rfl 1 (by decide) kw_81 rfl (v := .ref (AT 2)) rfl dX4_freeIn_22 ?_
    refine j_iload_n C dX4_freeIn_25 2 rfl ?_
    refine j_perm (fl [cDrs G AT (f_X4_tryMinutes_xt xp xt y).2.2.1 (f_X4_tryMinutes_xt xp xt y).2.2.2, [oS (AT 0) (AT 1) (AT 2) ((f_X4_tryMinutes_xt xp xt y).1)], [aI G (AT 1) 7 ((f_X4_tryMinutes_xt xp xt y).2.1)], [aD G (AT 2) 4 (fun k => some (AT (3 + 2 * k)))], [oX a (AP 0) hi sl su pa (AT 0) (AU 0)], cSt G AP xp]) (bperm [4, 0, 1, 2, 3, 5] 6 rfl (by decide +kernel) rfl) ?_
    refine j_perm (fl [[oD (AT (3 + 2 * k.toNatClampNeg)) (AT (4 + 2 * k.toNatClampNeg)) ((f_X4_tryMinutes_xt xp xt y).2.2.1 k.toNatClampNeg)], [aB G (AT (4 + 2 * k.toNatClampNeg)) ((f_X4_tryMinutes_xt xp xt y).2.2.2 k.toNatClampNeg)], cRs G AT (f_X4_tryMinutes_xt xp xt y).2.2.1 (f_X4_tryMinutes_xt xp xt y).2.2.2 k.toNatClampNeg, [oS (AT 0) (AT 1) (AT 2) ((f_X4_tryMinutes_xt xp xt y).1)], [aI G (AT 1) 7 ((f_X4_tryMinutes_xt xp xt y).2.1)], [aD G (AT 2) 4 (fun k => some (AT (3 + 2 * k)))], [oX a (AP 0) hi sl su pa (AT 0) (AU 0)], cSt G AP xp]) (open_at (openDrs G AT (f_X4_tryMinutes_xt xp xt y).2.2.1 (f_X4_tryMinutes_xt xp xt y).2.2.2 k.toNatClampNeg (vin_nat (eoq_drive c8)))) ?_
    refine j_perm (fl [[oD (AT (3 + 2 * k.toNatClampNeg)) (AT (4 + 2 * k.toNatClampNeg)) ((f_X4_tryMinutes_xt xp xt y).2.2.1 k.toNatClampNeg)], [aB G (AT (4 + 2 * k.toNatClampNeg)) ((f_X4_tryMinutes_xt xp xt y).2.2.2 k.toNatClampNeg)], [oS (AT 0) (AT 1) (AT 2) ((f_X4_tryMinutes_xt xp xt y).1)], [aI G (AT 1) 7 ((f_X4_tryMinutes_xt xp xt y).2.1)], [aD G (AT 2) 4 (fun k => some (AT (3 + 2 * k)))], [oX a (AP 0) hi sl su pa (AT 0) (AU 0)], cRs G AT (f_X4_tryMinutes_xt xp xt y).2.2.1 (f_X4_tryMinutes_xt xp xt y).2.2.2 k.toNatClampNeg, cSt G AP xp]) (bperm [0, 1, 3, 4, 5, 6, 2, 7] 8 rfl (by decide +kernel) rfl) ?_
    refine j_aaldD C 4 rfl (eoq_drive c8) (y := AT (3 + 2 * k.toNatClampNeg)) rfl dX4_freeIn_26 ?_
    refine j_get C kin0 rfl 0 rfl 0 (by decide) kw_34 rfl (v := .int (((f_X4_tryMinutes_xt xp xt y).2.2.1 k.toNatClampNeg).1 0)) rfl dX4_freeIn_27 ?_
    refine j_perm (fl [[oD (AT (3 + 2 * k.toNatClampNeg)) (AT (4 + 2 * k.toNatClampNeg)) ((f_X4_tryMinutes_xt xp xt y).2.2.1 k.toNatClampNeg)], [aB G (AT (4 + 2 * k.toNatClampNeg)) ((f_X4_tryMinutes_xt xp xt y).2.2.2 k.toNatClampNeg)], cRs G AT (f_X4_tryMinutes_xt xp xt y).2.2.1 (f_X4_tryMinutes_xt xp xt y).2.2.2 k.toNatClampNeg, [oS (AT 0) (AT 1) (AT 2) ((f_X4_tryMinutes_xt xp xt y).1)], [aI G (AT 1) 7 ((f_X4_tryMinutes_xt xp xt y).2.1)], [aD G (AT 2) 4 (fun k => some (AT (3 + 2 * k)))], [oX a (AP 0) hi sl su pa (AT 0) (AU 0)], cSt G AP xp]) (bperm [0, 1, 6, 2, 3, 4, 5, 7] 8 rfl (by decide +kernel) rfl) ?_
    refine j_perm (fl [cDrs G AT (f_X4_tryMinutes_xt xp xt y).2.2.1 (f_X4_tryMinutes_xt xp xt y).2.2.2, [oS (AT 0) (AT 1) (AT 2) ((f_X4_tryMinutes_xt xp xt y).1)], [aI G (AT 1) 7 ((f_X4_tryMinutes_xt xp xt y).2.1)], [aD G (AT 2) 4 (fun k => some (AT (3 + 2 * k)))], [oX a (AP 0) hi sl su pa (AT 0) (AU 0)], cSt G AP xp]) (shut_at (bs := [[oD (AT (3 + 2 * k.toNatClampNeg)) (AT (4 + 2 * k.toNatClampNeg)) ((f_X4_tryMinutes_xt xp xt y).2.2.1 k.toNatClampNeg)], [aB G (AT (4 + 2 * k.toNatClampNeg)) ((f_X4_tryMinutes_xt xp xt y).2.2.2 k.toNatClampNeg)], cRs G AT (f_X4_tryMinutes_xt xp xt y).2.2.1 (f_X4_tryMinutes_xt xp xt y).2.2.2 k.toNatClampNeg]) (openDrs G AT (f_X4_tryMinutes_xt xp xt y).2.2.1 (f_X4_tryMinutes_xt xp xt y).2.2.2 k.toNatClampNeg (vin_nat (eoq_drive c8))).symm) ?_
    refine j_perm (fl [[oS (AT 0) (AT 1) (AT 2) ((f_X4_tryMinutes_xt xp xt y).1)], [aI G (AT 1) 7 ((f_X4_tryMinutes_xt xp xt y).2.1)], [aD G (AT 2) 4 (fun k => some (AT (3 + 2 * k)))], cDrs G AT (f_X4_tryMinutes_xt xp xt y).2.2.1 (f_X4_tryMinutes_xt xp xt y).2.2.2, [oX a (AP 0) hi sl su pa (AT 0) (AU 0)], cSt G AP xp]) (bperm [1, 2, 3, 0, 4, 5] 6 rfl (by decide +kernel) rfl) ?_
    refine j_w (fl [cSt G AT (f_X4_tryMinutes_xt xp xt y), [oX a (AP 0) hi sl su pa (AT 0) (AU 0)], cSt G AP xp]) rfl ?_
    refine j_perm (fl [[oX a (AP 0) hi sl su pa (AT 0) (AU 0)], cSt G AP xp, cSt G AT (f_X4_tryMinutes_xt xp xt y)]) (bperm [1, 2, 0] 3 rfl (by decide +kernel) rfl) ?_
    subst hQ; exact j_iret C hr hk ((show f_X4_freeIn_r xp xt k y = ((f_X4_tryMinutes_xt xp xt y).2.2.1 k.toNatClampNeg).1 0 from (if_pos c8)).symm) (by rw [show f_X4_freeIn_xt xp xt k y = f_X4_tryMinutes_xt xp xt y from (if_pos c8)]) dX4_freeIn_30
  · refine j_iload_n C dX4_freeIn_11 0 rfl ?_
    subst hQ; exact j_iret C hr hk ((show f_X4_freeIn_r xp xt k y = f_X4_errorOfQuestion_r k y from (if_neg c8)).symm) (by rw [show f_X4_freeIn_xt xp xt k y = xt from (if_neg c8)]) dX4_freeIn_12
noncomputable def f_X4_save_us (xp : StV) (zv : Nat → StV) (us : Nat → Int32) (k : Int32) : (Nat → Int32) := (if f_X4_isSlot_r k = 0 then us else upd us k.toNatClampNeg 1)
noncomputable def f_X4_save_zv (xp : StV) (zv : Nat → StV) (us : Nat → Int32) (k : Int32) : (Nat → StV) := (if f_X4_isSlot_r k = 0 then zv else updF zv k.toNatClampNeg xp)
noncomputable def f_X4_save_r (xp : StV) (zv : Nat → StV) (us : Nat → Int32) (k : Int32) : Int32 := (if f_X4_isSlot_r k = 0 then (-2) else xp.1 2)
set_option maxRecDepth 100000 in
set_option maxHeartbeats 4000000 in
theorem m_X4_save (l : Launch) (G : GG) (a hi sl su pa : Nat) (AP AT AU : Nat → Nat) (AS : Nat → Nat → Nat) (xp : StV) (zv : Nat → StV) (us : Nat → Int32) (k : Int32)  : CtI l yX4_save cX4_save 2 (some .int) (RM 4) G [.ref a, .int k] (fl [[oX a (AP 0) hi sl su pa (AT 0) (AU 0)], [aS G sl 2 (fun k => some (AS k 0))], [aZ G su 2 us], cMany G AS zv 2, cSt G AP xp]) (f_X4_save_r xp zv us k) (fl [[oX a (AP 0) hi sl su pa (AT 0) (AU 0)], [aS G sl 2 (fun k => some (AS k 0))], [aZ G su 2 (f_X4_save_us xp zv us k)], cMany G AS (f_X4_save_zv xp zv us k) 2, cSt G AP xp]) := by
  refine ct_I RX4 [(0, .ref a), (1, .int k)] rfl (by decide +kernel) (Nat.le_of_ble_eq_true rfl) rfl ?_
  intro p e s m args below meth c A C hr hk hnm
  generalize hQ : (MQ below (PostI G A (f_X4_save_r xp zv us k) (fl [[oX a (AP 0) hi sl su pa (AT 0) (AU 0)], [aS G sl 2 (fun k => some (AS k 0))], [aZ G su 2 (f_X4_save_us xp zv us k)], cMany G AS (f_X4_save_zv xp zv us k) 2, cSt G AP xp])) args s (RM 4).cells (RM 4).slots A) = Q
  refine j_iload_n C dX4_save_0 1 rfl ?_
  refine j_pureS_i (r := f_X4_isSlot_r k) C (m_X4_isSlot l G k) 1 (gS kw_467 kw_468 kw_1 kw_469) (by decide +kernel) ⟨(Nat.le_of_ble_eq_true rfl), (Nat.le_of_ble_eq_true rfl)⟩ rfl rfl (Nat.le_of_ble_eq_true rfl) dX4_save_1 ⟨(Nat.le_of_ble_eq_true rfl), (Nat.le_of_ble_eq_true rfl)⟩ ?_
  refine j_if_ne (tgt := 10) C dX4_save_4 (by decide) (fun c4 => ?_) (fun c4 => ?_)
  · refine j_aload_n C dX4_save_10 0 rfl ?_
    refine j_get C kin4 rfl 0 rfl 2 (by decide) kw_142 rfl (v := .ref sl) rfl dX4_save_11 ?_
    refine j_iload_n C dX4_save_14 1 rfl ?_
    refine j_perm (fl [cMany G AS zv 2, [oX a (AP 0) hi sl su pa (AT 0) (AU 0)], [aS G sl 2 (fun k => some (AS k 0))], [aZ G su 2 us], cSt G AP xp]) (bperm [3, 0, 1, 2, 4] 5 rfl (by decide +kernel) rfl) ?_
    refine j_perm (fl [cSt G (AS k.toNatClampNeg) (zv k.toNatClampNeg), cManyR G AS zv 2 k.toNatClampNeg, [oX a (AP 0) hi sl su pa (AT 0) (AU 0)], [aS G sl 2 (fun k => some (AS k 0))], [aZ G su 2 us], cSt G AP xp]) (open_at (openMany G AS zv 2 k.toNatClampNeg (vin_nat (lt_slot c4)))) ?_
    refine j_perm (fl [[oX a (AP 0) hi sl su pa (AT 0) (AU 0)], [aS G sl 2 (fun k => some (AS k 0))], [aZ G su 2 us], cSt G (AS k.toNatClampNeg) (zv k.toNatClampNeg), cManyR G AS zv 2 k.toNatClampNeg, cSt G AP xp]) (bperm [2, 3, 4, 0, 1, 5] 6 rfl (by decide +kernel) rfl) ?_
    refine j_aaldS C 1 rfl (lt_slot c4) (y := AS k.toNatClampNeg 0) rfl dX4_save_15 ?_
    refine j_aload_n C dX4_save_16 0 rfl ?_
    refine j_get C kin4 rfl 0 rfl 0 (by decide) kw_140 rfl (v := .ref (AP 0)) rfl dX4_save_17 ?_
    refine j_callV_v (wc' := fl [cSt G (AS k.toNatClampNeg) xp, cSt G AP xp]) C (m_X3_copyFrom l G (AS k.toNatClampNeg) AP (zv k.toNatClampNeg) xp) rfl 0 rfl 1 (gV kw_358 kw_163 kw_164 kw_2 kw_165) (by decide +kernel) ⟨(Nat.le_of_ble_eq_true rfl), (Nat.le_of_ble_eq_true rfl)⟩ rfl rfl (Nat.le_of_ble_eq_true rfl) dX4_save_20 ⟨(Nat.le_of_ble_eq_true rfl), (Nat.le_of_ble_eq_true rfl)⟩ (fl [[oX a (AP 0) hi sl su pa (AT 0) (AU 0)], [aS G sl 2 (fun k => some (AS k 0))], [aZ G su 2 us], cManyR G AS zv 2 k.toNatClampNeg]) (fl [cSt G (AS k.toNatClampNeg) xp, cSt G AP xp, [oX a (AP 0) hi sl su pa (AT 0) (AU 0)], [aS G sl 2 (fun k => some (AS k 0))], [aZ G su 2 us], cManyR G AS zv 2 k.toNatClampNeg]) (bperm2 (bC := [cSt G (AS k.toNatClampNeg) (zv k.toNatClampNeg), cSt G AP xp]) (bR := [[oX a (AP 0) hi sl su pa (AT 0) (AU 0)], [aS G sl 2 (fun k => some (AS k 0))], [aZ G su 2 us], cManyR G AS zv 2 k.toNatClampNeg]) [3, 5, 0, 1, 2, 4] 6 rfl (by decide +kernel) rfl) (fl_app _ _) ?_
    refine j_perm (fl [[oX a (AP 0) hi sl su pa (AT 0) (AU 0)], [aS G sl 2 (fun k => some (AS k 0))], [aZ G su 2 us], cSt G (AS k.toNatClampNeg) xp, cSt G AP xp, cManyR G AS zv 2 k.toNatClampNeg]) (bperm [2, 3, 4, 0, 1, 5] 6 rfl (by decide +kernel) rfl) ?_
    refine j_aload_n C dX4_save_23 0 rfl ?_
    refine j_get C kin4 rfl 0 rfl 3 (by decide) kw_143 rfl (v := .ref su) rfl dX4_save_24 ?_
    refine j_iload_n C dX4_save_27 1 rfl ?_
    refine j_iconst (v := 1) C dX4_save_28 (by decide) ?_
    refine j_zast C 2 rfl (lt_slot c4) (fl [[oX a (AP 0) hi sl su pa (AT 0) (AU 0)], [aS G sl 2 (fun k => some (AS k 0))], [aZ G su 2 (upd us k.toNatClampNeg 1)], cSt G (AS k.toNatClampNeg) xp, cSt G AP xp, cManyR G AS zv 2 k.toNatClampNeg]) rfl dX4_save_29 ?_
    refine j_aload_n C dX4_save_30 0 rfl ?_
    refine j_get C kin4 rfl 0 rfl 0 (by decide) kw_140 rfl (v := .ref (AP 0)) rfl dX4_save_31 ?_
    refine j_perm (fl [cSt G AP xp, [oX a (AP 0) hi sl su pa (AT 0) (AU 0)], [aS G sl 2 (fun k => some (AS k 0))], [aZ G su 2 (upd us k.toNatClampNeg 1)], cSt G (AS k.toNatClampNeg) xp, cManyR G AS zv 2 k.toNatClampNeg]) (bperm [4, 0, 1, 2, 3, 5] 6 rfl (by decide +kernel) rfl) ?_
    refine j_w (fl [[oS (AP 0) (AP 1) (AP 2) xp.1], [aI G (AP 1) 7 xp.2.1], [aD G (AP 2) 4 (fun k => some (AP (3 + 2 * k)))], cDrs G AP xp.2.2.1 xp.2.2.2, [oX a (AP 0) hi sl su pa (AT 0) (AU 0)], [aS G sl 2 (fun k => some (AS k 0))], [aZ G su 2 (upd us k.toNatClampNeg 1)], cSt G (AS k.toNatClampNeg) xp, cManyR G AS zv 2 k.toNatClampNeg]) rfl ?_
    refine j_perm (fl [[oS (AP 0) (AP 1) (AP 2) xp.1], [aI G (AP 1) 7 xp.2.1], [aD G (AP 2) 4 (fun k => some (AP (3 + 2 * k)))], [oX a (AP 0) hi sl su pa (AT 0) (AU 0)], [aS G sl 2 (fun k => some (AS k 0))], [aZ G su 2 (upd us k.toNatClampNeg 1)], cDrs G AP xp.2.2.1 xp.2.2.2, cSt G (AS k.toNatClampNeg) xp, cManyR G AS zv 2 k.toNatClampNeg]) (bperm [0, 1, 2, 4, 5, 6, 3, 7, 8] 9 rfl (by decide +kernel) rfl) ?_
    refine j_get C kin3 rfl 0 rfl 2 (by decide) kw_83 rfl (v := .int (xp.1 2)) rfl dX4_save_34 ?_
    refine j_perm (fl [[oS (AP 0) (AP 1) (AP 2) xp.1], [aI G (AP 1) 7 xp.2.1], [aD G (AP 2) 4 (fun k => some (AP (3 + 2 * k)))], cDrs G AP xp.2.2.1 xp.2.2.2, [oX a (AP 0) hi sl su pa (AT 0) (AU 0)], [aS G sl 2 (fun k => some (AS k 0))], [aZ G su 2 (upd us k.toNatClampNeg 1)], cSt G (AS k.toNatClampNeg) xp, cManyR G AS zv 2 k.toNatClampNeg]) (bperm [0, 1, 2, 6, 3, 4, 5, 7, 8] 9 rfl (by decide +kernel) rfl) ?_
    refine j_w (fl [cSt G AP xp, [oX a (AP 0) hi sl su pa (AT 0) (AU 0)], [aS G sl 2 (fun k => some (AS k 0))], [aZ G su 2 (upd us k.toNatClampNeg 1)], cSt G (AS k.toNatClampNeg) xp, cManyR G AS zv 2 k.toNatClampNeg]) rfl ?_
    refine j_perm (fl [cSt G (AS k.toNatClampNeg) xp, cManyR G AS zv 2 k.toNatClampNeg, cSt G AP xp, [oX a (AP 0) hi sl su pa (AT 0) (AU 0)], [aS G sl 2 (fun k => some (AS k 0))], [aZ G su 2 (upd us k.toNatClampNeg 1)]]) (bperm [4, 5, 0, 1, 2, 3] 6 rfl (by decide +kernel) rfl) ?_
    refine j_perm (fl [cMany G AS (updF zv k.toNatClampNeg xp) 2, cSt G AP xp, [oX a (AP 0) hi sl su pa (AT 0) (AU 0)], [aS G sl 2 (fun k => some (AS k 0))], [aZ G su 2 (upd us k.toNatClampNeg 1)]]) (shut_at (bs := [cSt G (AS k.toNatClampNeg) xp, cManyR G AS zv 2 k.toNatClampNeg]) (closeMany G AS zv 2 k.toNatClampNeg (vin_nat (lt_slot c4)) _)) ?_
    refine j_perm (fl [[oX a (AP 0) hi sl su pa (AT 0) (AU 0)], [aS G sl 2 (fun k => some (AS k 0))], [aZ G su 2 (upd us k.toNatClampNeg 1)], cMany G AS (updF zv k.toNatClampNeg xp) 2, cSt G AP xp]) (bperm [2, 3, 4, 0, 1] 5 rfl (by decide +kernel) rfl) ?_
    subst hQ; exact j_iret C hr hk ((show f_X4_save_r xp zv us k = xp.1 2 from (if_neg c4)).symm) (by rw [show f_X4_save_us xp zv us k = upd us k.toNatClampNeg 1 from (if_neg c4), show f_X4_save_zv xp zv us k = updF zv k.toNatClampNeg xp from (if_neg c4)]) dX4_save_37
  · refine j_bipush (v := (-2)) C dX4_save_7 (by decide) ?_
    subst hQ; exact j_iret C hr hk ((show f_X4_save_r xp zv us k = (-2) from (if_pos c4)).symm) (by rw [show f_X4_save_us xp zv us k = us from (if_pos c4), show f_X4_save_zv xp zv us k = zv from (if_pos c4)]) dX4_save_9
noncomputable def f_X4_restore_h (h : Nat → Int32) (sv : Nat → StV) (xp : StV) (zv : Nat → StV) (us : Nat → Int32) (k : Int32) : (Nat → Int32) := (if f_X4_isSlot_r k = 0 then h else (if us k.toNatClampNeg = 0 then h else f_X4_recorded_h h (((zv k.toNatClampNeg).1) 2)))
noncomputable def f_X4_restore_sv (h : Nat → Int32) (sv : Nat → StV) (xp : StV) (zv : Nat → StV) (us : Nat → Int32) (k : Int32) : (Nat → StV) := (if f_X4_isSlot_r k = 0 then sv else (if us k.toNatClampNeg = 0 then sv else f_X1_prepare_sv h sv xp))
noncomputable def f_X4_restore_xp (h : Nat → Int32) (sv : Nat → StV) (xp : StV) (zv : Nat → StV) (us : Nat → Int32) (k : Int32) : StV := (if f_X4_isSlot_r k = 0 then xp else (if us k.toNatClampNeg = 0 then xp else (zv k.toNatClampNeg)))
noncomputable def f_X4_restore_r (h : Nat → Int32) (sv : Nat → StV) (xp : StV) (zv : Nat → StV) (us : Nat → Int32) (k : Int32) : Int32 := (if f_X4_isSlot_r k = 0 then (-2) else (if us k.toNatClampNeg = 0 then (-5) else f_X4_recorded_r h (((zv k.toNatClampNeg).1) 2)))
set_option maxRecDepth 100000 in
set_option maxHeartbeats 4000000 in
theorem m_X4_restore (l : Launch) (G : GG) (a hi sl su pa ha : Nat) (AP AT AU : Nat → Nat) (AH AS : Nat → Nat → Nat) (h : Nat → Int32) (sv : Nat → StV) (xp : StV) (zv : Nat → StV) (us : Nat → Int32) (k : Int32) (h7 : vp_in (h 1) 7) : CtI l yX4_restore cX4_restore 2 (some .int) (RM 4) G [.ref a, .int k] (fl [[oX a (AP 0) hi sl su pa (AT 0) (AU 0)], [oH hi ha h], [aS G ha 7 (fun k => some (AH k 0))], [aS G sl 2 (fun k => some (AS k 0))], [aZ G su 2 us], cMany G AH sv 7, cMany G AS zv 2, cSt G AP xp]) (f_X4_restore_r h sv xp zv us k) (fl [[oX a (AP 0) hi sl su pa (AT 0) (AU 0)], [oH hi ha (f_X4_restore_h h sv xp zv us k)], [aS G ha 7 (fun k => some (AH k 0))], [aS G sl 2 (fun k => some (AS k 0))], [aZ G su 2 us], cMany G AH (f_X4_restore_sv h sv xp zv us k) 7, cMany G AS zv 2, cSt G AP (f_X4_restore_xp h sv xp zv us k)]) := by
  refine ct_I RX4 [(0, .ref a), (1, .int k)] rfl (by decide +kernel) (Nat.le_of_ble_eq_true rfl) rfl ?_
  intro p e s m args below meth c A C hr hk hnm
  generalize hQ : (MQ below (PostI G A (f_X4_restore_r h sv xp zv us k) (fl [[oX a (AP 0) hi sl su pa (AT 0) (AU 0)], [oH hi ha (f_X4_restore_h h sv xp zv us k)], [aS G ha 7 (fun k => some (AH k 0))], [aS G sl 2 (fun k => some (AS k 0))], [aZ G su 2 us], cMany G AH (f_X4_restore_sv h sv xp zv us k) 7, cMany G AS zv 2, cSt G AP (f_X4_restore_xp h sv xp zv us k)])) args s (RM 4).cells (RM 4).slots A) = Q
  refine j_iload_n C dX4_restore_0 1 rfl ?_
  refine j_pureS_i (r := f_X4_isSlot_r k) C (m_X4_isSlot l G k) 1 (gS kw_467 kw_468 kw_1 kw_469) (by decide +kernel) ⟨(Nat.le_of_ble_eq_true rfl), (Nat.le_of_ble_eq_true rfl)⟩ rfl rfl (Nat.le_of_ble_eq_true rfl) dX4_restore_1 ⟨(Nat.le_of_ble_eq_true rfl), (Nat.le_of_ble_eq_true rfl)⟩ ?_
  refine j_if_ne (tgt := 10) C dX4_restore_4 (by decide) (fun c4 => ?_) (fun c4 => ?_)
  · refine j_aload_n C dX4_restore_10 0 rfl ?_
    refine j_get C kin4 rfl 0 rfl 3 (by decide) kw_143 rfl (v := .ref su) rfl dX4_restore_11 ?_
    refine j_iload_n C dX4_restore_14 1 rfl ?_
    refine j_zald C 4 rfl (lt_slot c4) (v := us k.toNatClampNeg) rfl dX4_restore_15 ?_
    refine j_if_ne (tgt := 22) C dX4_restore_16 (by decide) (fun c16 => ?_) (fun c16 => ?_)
    · refine j_aload_n C dX4_restore_22 0 rfl ?_
      refine j_get C kin4 rfl 0 rfl 1 (by decide) kw_141 rfl (v := .ref hi) rfl dX4_restore_23 ?_
      refine j_aload_n C dX4_restore_26 0 rfl ?_
      refine j_get C kin4 rfl 0 rfl 0 (by decide) kw_140 rfl (v := .ref (AP 0)) rfl dX4_restore_27 ?_
      refine j_callV_v (wc' := fl [[oH hi ha h], [aS G ha 7 (fun k => some (AH k 0))], cMany G AH (f_X1_prepare_sv h sv xp) 7, cSt G AP xp]) C (m_X1_prepare l G hi ha AP AH h sv xp h7) rfl 0 rfl 1 (gV kw_158 kw_159 kw_160 kw_5 kw_161) (by decide +kernel) ⟨(Nat.le_of_ble_eq_true rfl), (Nat.le_of_ble_eq_true rfl)⟩ rfl rfl (Nat.le_of_ble_eq_true rfl) dX4_restore_30 ⟨(Nat.le_of_ble_eq_true rfl), (Nat.le_of_ble_eq_true rfl)⟩ (fl [[oX a (AP 0) hi sl su pa (AT 0) (AU 0)], [aS G sl 2 (fun k => some (AS k 0))], [aZ G su 2 us], cMany G AS zv 2]) (fl [[oH hi ha h], [aS G ha 7 (fun k => some (AH k 0))], cMany G AH (f_X1_prepare_sv h sv xp) 7, cSt G AP xp, [oX a (AP 0) hi sl su pa (AT 0) (AU 0)], [aS G sl 2 (fun k => some (AS k 0))], [aZ G su 2 us], cMany G AS zv 2]) (bperm2 (bC := [[oH hi ha h], [aS G ha 7 (fun k => some (AH k 0))], cMany G AH sv 7, cSt G AP xp]) (bR := [[oX a (AP 0) hi sl su pa (AT 0) (AU 0)], [aS G sl 2 (fun k => some (AS k 0))], [aZ G su 2 us], cMany G AS zv 2]) [1, 2, 5, 7, 0, 3, 4, 6] 8 rfl (by decide +kernel) rfl) (fl_app _ _) ?_
      refine j_perm (fl [[oH hi ha h], [aS G ha 7 (fun k => some (AH k 0))], [oX a (AP 0) hi sl su pa (AT 0) (AU 0)], [aS G sl 2 (fun k => some (AS k 0))], [aZ G su 2 us], cMany G AH (f_X1_prepare_sv h sv xp) 7, cSt G AP xp, cMany G AS zv 2]) (bperm [0, 1, 4, 5, 6, 2, 3, 7] 8 rfl (by decide +kernel) rfl) ?_
      refine j_aload_n C dX4_restore_33 0 rfl ?_
      refine j_get C kin4 rfl 2 rfl 0 (by decide) kw_140 rfl (v := .ref (AP 0)) rfl dX4_restore_34 ?_
      refine j_aload_n C dX4_restore_37 0 rfl ?_
      refine j_get C kin4 rfl 2 rfl 2 (by decide) kw_142 rfl (v := .ref sl) rfl dX4_restore_38 ?_
      refine j_iload_n C dX4_restore_41 1 rfl ?_
      refine j_perm (fl [cMany G AS zv 2, [oH hi ha h], [aS G ha 7 (fun k => some (AH k 0))], [oX a (AP 0) hi sl su pa (AT 0) (AU 0)], [aS G sl 2 (fun k => some (AS k 0))], [aZ G su 2 us], cMany G AH (f_X1_prepare_sv h sv xp) 7, cSt G AP xp]) (bperm [7, 0, 1, 2, 3, 4, 5, 6] 8 rfl (by decide +kernel) rfl) ?_
      refine j_perm (fl [cSt G (AS k.toNatClampNeg) (zv k.toNatClampNeg), cManyR G AS zv 2 k.toNatClampNeg, [oH hi ha h], [aS G ha 7 (fun k => some (AH k 0))], [oX a (AP 0) hi sl su pa (AT 0) (AU 0)], [aS G sl 2 (fun k => some (AS k 0))], [aZ G su 2 us], cMany G AH (f_X1_prepare_sv h sv xp) 7, cSt G AP xp]) (open_at (openMany G AS zv 2 k.toNatClampNeg (vin_nat (lt_slot c4)))) ?_
      refine j_perm (fl [[oH hi ha h], [aS G ha 7 (fun k => some (AH k 0))], [oX a (AP 0) hi sl su pa (AT 0) (AU 0)], [aS G sl 2 (fun k => some (AS k 0))], [aZ G su 2 us], cSt G (AS k.toNatClampNeg) (zv k.toNatClampNeg), cManyR G AS zv 2 k.toNatClampNeg, cMany G AH (f_X1_prepare_sv h sv xp) 7, cSt G AP xp]) (bperm [2, 3, 4, 5, 6, 0, 1, 7, 8] 9 rfl (by decide +kernel) rfl) ?_
      refine j_aaldS C 3 rfl (lt_slot c4) (y := AS k.toNatClampNeg 0) rfl dX4_restore_42 ?_
      refine j_callV_v (wc' := fl [cSt G AP (zv k.toNatClampNeg), cSt G (AS k.toNatClampNeg) (zv k.toNatClampNeg)]) C (m_X3_copyFrom l G AP (AS k.toNatClampNeg) xp (zv k.toNatClampNeg)) rfl 0 rfl 1 (gV kw_358 kw_163 kw_164 kw_2 kw_165) (by decide +kernel) ⟨(Nat.le_of_ble_eq_true rfl), (Nat.le_of_ble_eq_true rfl)⟩ rfl rfl (Nat.le_of_ble_eq_true rfl) dX4_restore_43 ⟨(Nat.le_of_ble_eq_true rfl), (Nat.le_of_ble_eq_true rfl)⟩ (fl [[oH hi ha h], [aS G ha 7 (fun k => some (AH k 0))], [oX a (AP 0) hi sl su pa (AT 0) (AU 0)], [aS G sl 2 (fun k => some (AS k 0))], [aZ G su 2 us], cManyR G AS zv 2 k.toNatClampNeg, cMany G AH (f_X1_prepare_sv h sv xp) 7]) (fl [cSt G AP (zv k.toNatClampNeg), cSt G (AS k.toNatClampNeg) (zv k.toNatClampNeg), [oH hi ha h], [aS G ha 7 (fun k => some (AH k 0))], [oX a (AP 0) hi sl su pa (AT 0) (AU 0)], [aS G sl 2 (fun k => some (AS k 0))], [aZ G su 2 us], cManyR G AS zv 2 k.toNatClampNeg, cMany G AH (f_X1_prepare_sv h sv xp) 7]) (bperm2 (bC := [cSt G AP xp, cSt G (AS k.toNatClampNeg) (zv k.toNatClampNeg)]) (bR := [[oH hi ha h], [aS G ha 7 (fun k => some (AH k 0))], [oX a (AP 0) hi sl su pa (AT 0) (AU 0)], [aS G sl 2 (fun k => some (AS k 0))], [aZ G su 2 us], cManyR G AS zv 2 k.toNatClampNeg, cMany G AH (f_X1_prepare_sv h sv xp) 7]) [8, 5, 0, 1, 2, 3, 4, 6, 7] 9 rfl (by decide +kernel) rfl) (fl_app _ _) ?_
      refine j_perm (fl [[oH hi ha h], [aS G ha 7 (fun k => some (AH k 0))], [oX a (AP 0) hi sl su pa (AT 0) (AU 0)], [aS G sl 2 (fun k => some (AS k 0))], [aZ G su 2 us], cSt G AP (zv k.toNatClampNeg), cSt G (AS k.toNatClampNeg) (zv k.toNatClampNeg), cManyR G AS zv 2 k.toNatClampNeg, cMany G AH (f_X1_prepare_sv h sv xp) 7]) (bperm [2, 3, 4, 5, 6, 0, 1, 7, 8] 9 rfl (by decide +kernel) rfl) ?_
      refine j_aload_n C dX4_restore_46 0 rfl ?_
      refine j_aload_n C dX4_restore_47 0 rfl ?_
      refine j_get C kin4 rfl 2 rfl 0 (by decide) kw_140 rfl (v := .ref (AP 0)) rfl dX4_restore_48 ?_
      refine j_perm (fl [cSt G AP (zv k.toNatClampNeg), [oH hi ha h], [aS G ha 7 (fun k => some (AH k 0))], [oX a (AP 0) hi sl su pa (AT 0) (AU 0)], [aS G sl 2 (fun k => some (AS k 0))], [aZ G su 2 us], cSt G (AS k.toNatClampNeg) (zv k.toNatClampNeg), cManyR G AS zv 2 k.toNatClampNeg, cMany G AH (f_X1_prepare_sv h sv xp) 7]) (bperm [5, 0, 1, 2, 3, 4, 6, 7, 8] 9 rfl (by decide +kernel) rfl) ?_
      refine j_w (fl [[oS (AP 0) (AP 1) (AP 2) ((zv k.toNatClampNeg).1)], [aI G (AP 1) 7 ((zv k.toNatClampNeg).2.1)], [aD G (AP 2) 4 (fun k => some (AP (3 + 2 * k)))], cDrs G AP (zv k.toNatClampNeg).2.2.1 (zv k.toNatClampNeg).2.2.2, [oH hi ha h], [aS G ha 7 (fun k => some (AH k 0))], [oX a (AP 0) hi sl su pa (AT 0) (AU 0)], [aS G sl 2 (fun k => some (AS k 0))], [aZ G su 2 us], cSt G (AS k.toNatClampNeg) (zv k.toNatClampNeg), cManyR G AS zv 2 k.toNatClampNeg, cMany G AH (f_X1_prepare_sv h sv xp) 7]) rfl ?_
      refine j_perm (fl [[oS (AP 0) (AP 1) (AP 2) ((zv k.toNatClampNeg).1)], [aI G (AP 1) 7 ((zv k.toNatClampNeg).2.1)], [aD G (AP 2) 4 (fun k => some (AP (3 + 2 * k)))], [oH hi ha h], [aS G ha 7 (fun k => some (AH k 0))], [oX a (AP 0) hi sl su pa (AT 0) (AU 0)], [aS G sl 2 (fun k => some (AS k 0))], [aZ G su 2 us], cDrs G AP (zv k.toNatClampNeg).2.2.1 (zv k.toNatClampNeg).2.2.2, cSt G (AS k.toNatClampNeg) (zv k.toNatClampNeg), cManyR G AS zv 2 k.toNatClampNeg, cMany G AH (f_X1_prepare_sv h sv xp) 7]) (bperm [0, 1, 2, 4, 5, 6, 7, 8, 3, 9, 10, 11] 12 rfl (by decide +kernel) rfl) ?_
      refine j_get C kin3 rfl 0 rfl 2 (by decide) kw_83 rfl (v := .int (((zv k.toNatClampNeg).1) 2)) rfl dX4_restore_51 ?_
      refine j_callV_i (r := f_X4_recorded_r h (((zv k.toNatClampNeg).1) 2)) (wc' := [oX a (AP 0) hi sl su pa (AT 0) (AU 0), oH hi ha (f_X4_recorded_h h (((zv k.toNatClampNeg).1) 2))]) C (m_X4_recorded l G a hi sl su pa ha AP AT AU h (((zv k.toNatClampNeg).1) 2)) rfl 0 rfl 1 (gV kw_175 kw_176 kw_754 kw_1 kw_177) (by decide +kernel) ⟨(Nat.le_of_ble_eq_true rfl), (Nat.le_of_ble_eq_true rfl)⟩ rfl rfl (Nat.le_of_ble_eq_true rfl) dX4_restore_54 ⟨(Nat.le_of_ble_eq_true rfl), (Nat.le_of_ble_eq_true rfl)⟩ (fl [[oS (AP 0) (AP 1) (AP 2) ((zv k.toNatClampNeg).1)], [aI G (AP 1) 7 ((zv k.toNatClampNeg).2.1)], [aD G (AP 2) 4 (fun k => some (AP (3 + 2 * k)))], [aS G ha 7 (fun k => some (AH k 0))], [aS G sl 2 (fun k => some (AS k 0))], [aZ G su 2 us], cDrs G AP (zv k.toNatClampNeg).2.2.1 (zv k.toNatClampNeg).2.2.2, cSt G (AS k.toNatClampNeg) (zv k.toNatClampNeg), cManyR G AS zv 2 k.toNatClampNeg, cMany G AH (f_X1_prepare_sv h sv xp) 7]) (fl [[oX a (AP 0) hi sl su pa (AT 0) (AU 0)], [oH hi ha (f_X4_recorded_h h (((zv k.toNatClampNeg).1) 2))], [oS (AP 0) (AP 1) (AP 2) ((zv k.toNatClampNeg).1)], [aI G (AP 1) 7 ((zv k.toNatClampNeg).2.1)], [aD G (AP 2) 4 (fun k => some (AP (3 + 2 * k)))], [aS G ha 7 (fun k => some (AH k 0))], [aS G sl 2 (fun k => some (AS k 0))], [aZ G su 2 us], cDrs G AP (zv k.toNatClampNeg).2.2.1 (zv k.toNatClampNeg).2.2.2, cSt G (AS k.toNatClampNeg) (zv k.toNatClampNeg), cManyR G AS zv 2 k.toNatClampNeg, cMany G AH (f_X1_prepare_sv h sv xp) 7]) (bperm (bs' := [[oX a (AP 0) hi sl su pa (AT 0) (AU 0)], [oH hi ha h], [oS (AP 0) (AP 1) (AP 2) ((zv k.toNatClampNeg).1)], [aI G (AP 1) 7 ((zv k.toNatClampNeg).2.1)], [aD G (AP 2) 4 (fun k => some (AP (3 + 2 * k)))], [aS G ha 7 (fun k => some (AH k 0))], [aS G sl 2 (fun k => some (AS k 0))], [aZ G su 2 us], cDrs G AP (zv k.toNatClampNeg).2.2.1 (zv k.toNatClampNeg).2.2.2, cSt G (AS k.toNatClampNeg) (zv k.toNatClampNeg), cManyR G AS zv 2 k.toNatClampNeg, cMany G AH (f_X1_prepare_sv h sv xp) 7]) [5, 3, 0, 1, 2, 4, 6, 7, 8, 9, 10, 11] 12 rfl (by decide +kernel) rfl) rfl ?_
      refine j_perm (fl [[oS (AP 0) (AP 1) (AP 2) ((zv k.toNatClampNeg).1)], [aI G (AP 1) 7 ((zv k.toNatClampNeg).2.1)], [aD G (AP 2) 4 (fun k => some (AP (3 + 2 * k)))], cDrs G AP (zv k.toNatClampNeg).2.2.1 (zv k.toNatClampNeg).2.2.2, [oX a (AP 0) hi sl su pa (AT 0) (AU 0)], [oH hi ha (f_X4_recorded_h h (((zv k.toNatClampNeg).1) 2))], [aS G ha 7 (fun k => some (AH k 0))], [aS G sl 2 (fun k => some (AS k 0))], [aZ G su 2 us], cSt G (AS k.toNatClampNeg) (zv k.toNatClampNeg), cManyR G AS zv 2 k.toNatClampNeg, cMany G AH (f_X1_prepare_sv h sv xp) 7]) (bperm [2, 3, 4, 8, 0, 1, 5, 6, 7, 9, 10, 11] 12 rfl (by decide +kernel) rfl) ?_
      refine j_w (fl [cSt G AP (zv k.toNatClampNeg), [oX a (AP 0) hi sl su pa (AT 0) (AU 0)], [oH hi ha (f_X4_recorded_h h (((zv k.toNatClampNeg).1) 2))], [aS G ha 7 (fun k => some (AH k 0))], [aS G sl 2 (fun k => some (AS k 0))], [aZ G su 2 us], cSt G (AS k.toNatClampNeg) (zv k.toNatClampNeg), cManyR G AS zv 2 k.toNatClampNeg, cMany G AH (f_X1_prepare_sv h sv xp) 7]) rfl ?_
      refine j_perm (fl [cSt G (AS k.toNatClampNeg) (zv k.toNatClampNeg), cManyR G AS zv 2 k.toNatClampNeg, cSt G AP (zv k.toNatClampNeg), [oX a (AP 0) hi sl su pa (AT 0) (AU 0)], [oH hi ha (f_X4_recorded_h h (((zv k.toNatClampNeg).1) 2))], [aS G ha 7 (fun k => some (AH k 0))], [aS G sl 2 (fun k => some (AS k 0))], [aZ G su 2 us], cMany G AH (f_X1_prepare_sv h sv xp) 7]) (bperm [6, 7, 0, 1, 2, 3, 4, 5, 8] 9 rfl (by decide +kernel) rfl) ?_
      refine j_perm (fl [cMany G AS zv 2, cSt G AP (zv k.toNatClampNeg), [oX a (AP 0) hi sl su pa (AT 0) (AU 0)], [oH hi ha (f_X4_recorded_h h (((zv k.toNatClampNeg).1) 2))], [aS G ha 7 (fun k => some (AH k 0))], [aS G sl 2 (fun k => some (AS k 0))], [aZ G su 2 us], cMany G AH (f_X1_prepare_sv h sv xp) 7]) (shut_at (bs := [cSt G (AS k.toNatClampNeg) (zv k.toNatClampNeg), cManyR G AS zv 2 k.toNatClampNeg]) (openMany G AS zv 2 k.toNatClampNeg (vin_nat (lt_slot c4))).symm) ?_
      refine j_perm (fl [[oX a (AP 0) hi sl su pa (AT 0) (AU 0)], [oH hi ha (f_X4_recorded_h h (((zv k.toNatClampNeg).1) 2))], [aS G ha 7 (fun k => some (AH k 0))], [aS G sl 2 (fun k => some (AS k 0))], [aZ G su 2 us], cMany G AH (f_X1_prepare_sv h sv xp) 7, cMany G AS zv 2, cSt G AP (zv k.toNatClampNeg)]) (bperm [2, 3, 4, 5, 6, 7, 0, 1] 8 rfl (by decide +kernel) rfl) ?_
      subst hQ; exact j_iret C hr hk ((show f_X4_restore_r h sv xp zv us k = f_X4_recorded_r h (((zv k.toNatClampNeg).1) 2) from ((if_neg c4).trans (if_neg c16))).symm) (by rw [show f_X4_restore_h h sv xp zv us k = f_X4_recorded_h h (((zv k.toNatClampNeg).1) 2) from ((if_neg c4).trans (if_neg c16)), show f_X4_restore_sv h sv xp zv us k = f_X1_prepare_sv h sv xp from ((if_neg c4).trans (if_neg c16)), show f_X4_restore_xp h sv xp zv us k = (zv k.toNatClampNeg) from ((if_neg c4).trans (if_neg c16))]) dX4_restore_57
    · refine j_bipush (v := (-5)) C dX4_restore_19 (by decide) ?_
      subst hQ; exact j_iret C hr hk ((show f_X4_restore_r h sv xp zv us k = (-5) from ((if_neg c4).trans (if_pos c16))).symm) (by rw [show f_X4_restore_h h sv xp zv us k = h from ((if_neg c4).trans (if_pos c16)), show f_X4_restore_sv h sv xp zv us k = sv from ((if_neg c4).trans (if_pos c16)), show f_X4_restore_xp h sv xp zv us k = xp from ((if_neg c4).trans (if_pos c16))]) dX4_restore_21
  · refine j_bipush (v := (-2)) C dX4_restore_7 (by decide) ?_
    subst hQ; exact j_iret C hr hk ((show f_X4_restore_r h sv xp zv us k = (-2) from (if_pos c4)).symm) (by rw [show f_X4_restore_h h sv xp zv us k = h from (if_pos c4), show f_X4_restore_sv h sv xp zv us k = sv from (if_pos c4), show f_X4_restore_xp h sv xp zv us k = xp from (if_pos c4)]) dX4_restore_9
noncomputable def f_X4_carryOutOrder_xp (xp : StV) (v : Nat → Int32) : StV := (if v 3 = 103 then f_X3_takeHourBack_x xp (v 4) (v 5) else (if v 3 = 115 then f_X3_sellHour_x xp (v 4) (v 5) else (if v 3 = 118 then f_X3_changeStream_x xp (v 4) (v 5) (v 6) else (if v 3 = 119 then f_X3_bringUnits_x xp (v 4) (v 5) else f_X3_passMinutes_x xp (v 5)))))
noncomputable def f_X4_carryOutOrder_r (xp : StV) (v : Nat → Int32) : Int32 := (if v 3 = 103 then f_X3_takeHourBack_r xp (v 4) (v 5) else (if v 3 = 115 then f_X3_sellHour_r xp (v 4) (v 5) else (if v 3 = 118 then f_X3_changeStream_r xp (v 4) (v 5) (v 6) else (if v 3 = 119 then f_X3_bringUnits_r xp (v 4) (v 5) else f_X3_passMinutes_r xp (v 5)))))
set_option maxRecDepth 100000 in
set_option maxHeartbeats 4000000 in
theorem m_X4_carryOutOrder (l : Launch) (G : GG) (a hi sl su pa ga : Nat) (AP AT AU : Nat → Nat) (xp : StV) (v : Nat → Int32)  : CtI l yX4_carryOutOrder cX4_carryOutOrder 1 (some .int) (RM 6) G [.ref a] (fl [[oX a (AP 0) hi sl su pa (AT 0) (AU 0)], [oP pa ga v], cSt G AP xp]) (f_X4_carryOutOrder_r xp v) (fl [[oX a (AP 0) hi sl su pa (AT 0) (AU 0)], [oP pa ga v], cSt G AP (f_X4_carryOutOrder_xp xp v)]) := by
  refine ct_I RX4 [(0, .ref a)] rfl (by decide +kernel) (Nat.le_of_ble_eq_true rfl) rfl ?_
  intro p e s m args below meth c A C hr hk hnm
  generalize hQ : (MQ below (PostI G A (f_X4_carryOutOrder_r xp v) (fl [[oX a (AP 0) hi sl su pa (AT 0) (AU 0)], [oP pa ga v], cSt G AP (f_X4_carryOutOrder_xp xp v)])) args s (RM 6).cells (RM 6).slots A) = Q
  refine j_aload_n C dX4_carryOutOrder_0 0 rfl ?_
  refine j_get C kin4 rfl 0 rfl 4 (by decide) kw_144 rfl (v := .ref pa) rfl dX4_carryOutOrder_1 ?_
  refine j_get C kin2 rfl 1 rfl 3 (by decide) kw_124 rfl (v := .int (v 3)) rfl dX4_carryOutOrder_4 ?_
  by_cases c7_103 : v 3 = 103
  · refine j_lookup (tgt := 70) C dX4_carryOutOrder_7 rfl (by rw [c7_103] <;> rfl) (by decide) ?_
    refine j_aload_n C dX4_carryOutOrder_70 0 rfl ?_
    refine j_get C kin4 rfl 0 rfl 0 (by decide) kw_140 rfl (v := .ref (AP 0)) rfl dX4_carryOutOrder_71 ?_
    refine j_aload_n C dX4_carryOutOrder_74 0 rfl ?_
    refine j_get C kin4 rfl 0 rfl 4 (by decide) kw_144 rfl (v := .ref pa) rfl dX4_carryOutOrder_75 ?_
    refine j_get C kin2 rfl 1 rfl 4 (by decide) kw_126 rfl (v := .int (v 4)) rfl dX4_carryOutOrder_78 ?_
    refine j_aload_n C dX4_carryOutOrder_81 0 rfl ?_
    refine j_get C kin4 rfl 0 rfl 4 (by decide) kw_144 rfl (v := .ref pa) rfl dX4_carryOutOrder_82 ?_
    refine j_get C kin2 rfl 1 rfl 5 (by decide) kw_128 rfl (v := .int (v 5)) rfl dX4_carryOutOrder_85 ?_
    refine j_callV_i (r := f_X3_takeHourBack_r xp (v 4) (v 5)) (wc' := cSt G AP (f_X3_takeHourBack_x xp (v 4) (v 5))) C (m_X3_takeHourBack l G AP xp (v 4) (v 5)) rfl 0 rfl 2 (gV kw_240 kw_241 kw_242 kw_2 kw_243) (by decide +kernel) ⟨(Nat.le_of_ble_eq_true rfl), (Nat.le_of_ble_eq_true rfl)⟩ rfl rfl (Nat.le_of_ble_eq_true rfl) dX4_carryOutOrder_88 ⟨(Nat.le_of_ble_eq_true rfl), (Nat.le_of_ble_eq_true rfl)⟩ (fl [[oX a (AP 0) hi sl su pa (AT 0) (AU 0)], [oP pa ga v]]) (fl [cSt G AP (f_X3_takeHourBack_x xp (v 4) (v 5)), [oX a (AP 0) hi sl su pa (AT 0) (AU 0)], [oP pa ga v]]) (bperm (bs' := [cSt G AP xp, [oX a (AP 0) hi sl su pa (AT 0) (AU 0)], [oP pa ga v]]) [2, 0, 1] 3 rfl (by decide +kernel) rfl) rfl ?_
    refine j_perm (fl [[oX a (AP 0) hi sl su pa (AT 0) (AU 0)], [oP pa ga v], cSt G AP (f_X3_takeHourBack_x xp (v 4) (v 5))]) (bperm [1, 2, 0] 3 rfl (by decide +kernel) rfl) ?_
    subst hQ; exact j_iret C hr hk ((show f_X4_carryOutOrder_r xp v = f_X3_takeHourBack_r xp (v 4) (v 5) from (if_pos c7_103)).symm) (by rw [show f_X4_carryOutOrder_xp xp v = f_X3_takeHourBack_x xp (v 4) (v 5) from (if_pos c7_103)]) dX4_carryOutOrder_91
  · by_cases c7_115 : v 3 = 115
    · refine j_lookup (tgt := 48) C dX4_carryOutOrder_7 rfl (by rw [c7_115] <;> rfl) (by decide) ?_
      refine j_aload_n C dX4_carryOutOrder_48 0 rfl ?_
      refine j_get C kin4 rfl 0 rfl 0 (by decide) kw_140 rfl (v := .ref (AP 0)) rfl dX4_carryOutOrder_49 ?_
      refine j_aload_n C dX4_carryOutOrder_52 0 rfl ?_
      refine j_get C kin4 rfl 0 rfl 4 (by decide) kw_144 rfl (v := .ref pa) rfl dX4_carryOutOrder_53 ?_
      refine j_get C kin2 rfl 1 rfl 4 (by decide) kw_126 rfl (v := .int (v 4)) rfl dX4_carryOutOrder_56 ?_
      refine j_aload_n C dX4_carryOutOrder_59 0 rfl ?_
      refine j_get C kin4 rfl 0 rfl 4 (by decide) kw_144 rfl (v := .ref pa) rfl dX4_carryOutOrder_60 ?_
      refine j_get C kin2 rfl 1 rfl 5 (by decide) kw_128 rfl (v := .int (v 5)) rfl dX4_carryOutOrder_63 ?_
      refine j_callV_i (r := f_X3_sellHour_r xp (v 4) (v 5)) (wc' := cSt G AP (f_X3_sellHour_x xp (v 4) (v 5))) C (m_X3_sellHour l G AP xp (v 4) (v 5)) rfl 0 rfl 2 (gV kw_207 kw_208 kw_209 kw_2 kw_210) (by decide +kernel) ⟨(Nat.le_of_ble_eq_true rfl), (Nat.le_of_ble_eq_true rfl)⟩ rfl rfl (Nat.le_of_ble_eq_true rfl) dX4_carryOutOrder_66 ⟨(Nat.le_of_ble_eq_true rfl), (Nat.le_of_ble_eq_true rfl)⟩ (fl [[oX a (AP 0) hi sl su pa (AT 0) (AU 0)], [oP pa ga v]]) (fl [cSt G AP (f_X3_sellHour_x xp (v 4) (v 5)), [oX a (AP 0) hi sl su pa (AT 0) (AU 0)], [oP pa ga v]]) (bperm (bs' := [cSt G AP xp, [oX a (AP 0) hi sl su pa (AT 0) (AU 0)], [oP pa ga v]]) [2, 0, 1] 3 rfl (by decide +kernel) rfl) rfl ?_
      refine j_perm (fl [[oX a (AP 0) hi sl su pa (AT 0) (AU 0)], [oP pa ga v], cSt G AP (f_X3_sellHour_x xp (v 4) (v 5))]) (bperm [1, 2, 0] 3 rfl (by decide +kernel) rfl) ?_
      subst hQ; exact j_iret C hr hk ((show f_X4_carryOutOrder_r xp v = f_X3_sellHour_r xp (v 4) (v 5) from ((if_neg c7_103).trans (if_pos c7_115))).symm) (by rw [show f_X4_carryOutOrder_xp xp v = f_X3_sellHour_x xp (v 4) (v 5) from ((if_neg c7_103).trans (if_pos c7_115))]) dX4_carryOutOrder_69
    · by_cases c7_118 : v 3 = 118
      · refine j_lookup (tgt := 114) C dX4_carryOutOrder_7 rfl (by rw [c7_118] <;> rfl) (by decide) ?_
        refine j_aload_n C dX4_carryOutOrder_114 0 rfl ?_
        refine j_get C kin4 rfl 0 rfl 0 (by decide) kw_140 rfl (v := .ref (AP 0)) rfl dX4_carryOutOrder_115 ?_
        refine j_aload_n C dX4_carryOutOrder_118 0 rfl ?_
        refine j_get C kin4 rfl 0 rfl 4 (by decide) kw_144 rfl (v := .ref pa) rfl dX4_carryOutOrder_119 ?_
        refine j_get C kin2 rfl 1 rfl 4 (by decide) kw_126 rfl (v := .int (v 4)) rfl dX4_carryOutOrder_122 ?_
        refine j_aload_n C dX4_carryOutOrder_125 0 rfl ?_
        refine j_get C kin4 rfl 0 rfl 4 (by decide) kw_144 rfl (v := .ref pa) rfl dX4_carryOutOrder_126 ?_
        refine j_get C kin2 rfl 1 rfl 5 (by decide) kw_128 rfl (v := .int (v 5)) rfl dX4_carryOutOrder_129 ?_
        refine j_aload_n C dX4_carryOutOrder_132 0 rfl ?_
        refine j_get C kin4 rfl 0 rfl 4 (by decide) kw_144 rfl (v := .ref pa) rfl dX4_carryOutOrder_133 ?_
        refine j_get C kin2 rfl 1 rfl 6 (by decide) kw_130 rfl (v := .int (v 6)) rfl dX4_carryOutOrder_136 ?_
        refine j_callV_i (r := f_X3_changeStream_r xp (v 4) (v 5) (v 6)) (wc' := cSt G AP (f_X3_changeStream_x xp (v 4) (v 5) (v 6))) C (m_X3_changeStream l G AP xp (v 4) (v 5) (v 6)) rfl 0 rfl 3 (gV kw_189 kw_190 kw_191 kw_2 kw_192) (by decide +kernel) ⟨(Nat.le_of_ble_eq_true rfl), (Nat.le_of_ble_eq_true rfl)⟩ rfl rfl (Nat.le_of_ble_eq_true rfl) dX4_carryOutOrder_139 ⟨(Nat.le_of_ble_eq_true rfl), (Nat.le_of_ble_eq_true rfl)⟩ (fl [[oX a (AP 0) hi sl su pa (AT 0) (AU 0)], [oP pa ga v]]) (fl [cSt G AP (f_X3_changeStream_x xp (v 4) (v 5) (v 6)), [oX a (AP 0) hi sl su pa (AT 0) (AU 0)], [oP pa ga v]]) (bperm (bs' := [cSt G AP xp, [oX a (AP 0) hi sl su pa (AT 0) (AU 0)], [oP pa ga v]]) [2, 0, 1] 3 rfl (by decide +kernel) rfl) rfl ?_
        refine j_perm (fl [[oX a (AP 0) hi sl su pa (AT 0) (AU 0)], [oP pa ga v], cSt G AP (f_X3_changeStream_x xp (v 4) (v 5) (v 6))]) (bperm [1, 2, 0] 3 rfl (by decide +kernel) rfl) ?_
        subst hQ; exact j_iret C hr hk ((show f_X4_carryOutOrder_r xp v = f_X3_changeStream_r xp (v 4) (v 5) (v 6) from ((if_neg c7_103).trans ((if_neg c7_115).trans (if_pos c7_118)))).symm) (by rw [show f_X4_carryOutOrder_xp xp v = f_X3_changeStream_x xp (v 4) (v 5) (v 6) from ((if_neg c7_103).trans ((if_neg c7_115).trans (if_pos c7_118)))]) dX4_carryOutOrder_142
      · by_cases c7_119 : v 3 = 119
        · refine j_lookup (tgt := 92) C dX4_carryOutOrder_7 rfl (by rw [c7_119] <;> rfl) (by decide) ?_
          refine j_aload_n C dX4_carryOutOrder_92 0 rfl ?_
          refine j_get C kin4 rfl 0 rfl 0 (by decide) kw_140 rfl (v := .ref (AP 0)) rfl dX4_carryOutOrder_93 ?_
          refine j_aload_n C dX4_carryOutOrder_96 0 rfl ?_
          refine j_get C kin4 rfl 0 rfl 4 (by decide) kw_144 rfl (v := .ref pa) rfl dX4_carryOutOrder_97 ?_
          refine j_get C kin2 rfl 1 rfl 4 (by decide) kw_126 rfl (v := .int (v 4)) rfl dX4_carryOutOrder_100 ?_
          refine j_aload_n C dX4_carryOutOrder_103 0 rfl ?_
          refine j_get C kin4 rfl 0 rfl 4 (by decide) kw_144 rfl (v := .ref pa) rfl dX4_carryOutOrder_104 ?_
          refine j_get C kin2 rfl 1 rfl 5 (by decide) kw_128 rfl (v := .int (v 5)) rfl dX4_carryOutOrder_107 ?_
          refine j_callV_i (r := f_X3_bringUnits_r xp (v 4) (v 5)) (wc' := cSt G AP (f_X3_bringUnits_x xp (v 4) (v 5))) C (m_X3_bringUnits l G AP xp (v 4) (v 5)) rfl 0 rfl 2 (gV kw_199 kw_200 kw_201 kw_2 kw_202) (by decide +kernel) ⟨(Nat.le_of_ble_eq_true rfl), (Nat.le_of_ble_eq_true rfl)⟩ rfl rfl (Nat.le_of_ble_eq_true rfl) dX4_carryOutOrder_110 ⟨(Nat.le_of_ble_eq_true rfl), (Nat.le_of_ble_eq_true rfl)⟩ (fl [[oX a (AP 0) hi sl su pa (AT 0) (AU 0)], [oP pa ga v]]) (fl [cSt G AP (f_X3_bringUnits_x xp (v 4) (v 5)), [oX a (AP 0) hi sl su pa (AT 0) (AU 0)], [oP pa ga v]]) (bperm (bs' := [cSt G AP xp, [oX a (AP 0) hi sl su pa (AT 0) (AU 0)], [oP pa ga v]]) [2, 0, 1] 3 rfl (by decide +kernel) rfl) rfl ?_
          refine j_perm (fl [[oX a (AP 0) hi sl su pa (AT 0) (AU 0)], [oP pa ga v], cSt G AP (f_X3_bringUnits_x xp (v 4) (v 5))]) (bperm [1, 2, 0] 3 rfl (by decide +kernel) rfl) ?_
          subst hQ; exact j_iret C hr hk ((show f_X4_carryOutOrder_r xp v = f_X3_bringUnits_r xp (v 4) (v 5) from ((if_neg c7_103).trans ((if_neg c7_115).trans ((if_neg c7_118).trans (if_pos c7_119))))).symm) (by rw [show f_X4_carryOutOrder_xp xp v = f_X3_bringUnits_x xp (v 4) (v 5) from ((if_neg c7_103).trans ((if_neg c7_115).trans ((if_neg c7_118).trans (if_pos c7_119))))]) dX4_carryOutOrder_113
        · have n7_103 : (v 3).toInt ≠ 103 := fun h => c7_103 (Int32.toInt_inj.mp h)
          have n7_115 : (v 3).toInt ≠ 115 := fun h => c7_115 (Int32.toInt_inj.mp h)
          have n7_118 : (v 3).toInt ≠ 118 := fun h => c7_118 (Int32.toInt_inj.mp h)
          have n7_119 : (v 3).toInt ≠ 119 := fun h => c7_119 (Int32.toInt_inj.mp h)
          refine j_lookup (off := 136) (tgt := 143) C dX4_carryOutOrder_7 rfl (by simp [Op.lookupswitch.offset, n7_103, n7_115, n7_118, n7_119, Ne.symm n7_103, Ne.symm n7_115, Ne.symm n7_118, Ne.symm n7_119]) (by decide) ?_
          refine j_aload_n C dX4_carryOutOrder_143 0 rfl ?_
          refine j_get C kin4 rfl 0 rfl 0 (by decide) kw_140 rfl (v := .ref (AP 0)) rfl dX4_carryOutOrder_144 ?_
          refine j_aload_n C dX4_carryOutOrder_147 0 rfl ?_
          refine j_get C kin4 rfl 0 rfl 4 (by decide) kw_144 rfl (v := .ref pa) rfl dX4_carryOutOrder_148 ?_
          refine j_get C kin2 rfl 1 rfl 5 (by decide) kw_128 rfl (v := .int (v 5)) rfl dX4_carryOutOrder_151 ?_
          refine j_callV_i (r := f_X3_passMinutes_r xp (v 5)) (wc' := cSt G AP (f_X3_passMinutes_x xp (v 5))) C (m_X3_passMinutes l G AP xp (v 5)) rfl 0 rfl 1 (gV kw_248 kw_249 kw_250 kw_2 kw_251) (by decide +kernel) ⟨(Nat.le_of_ble_eq_true rfl), (Nat.le_of_ble_eq_true rfl)⟩ rfl rfl (Nat.le_of_ble_eq_true rfl) dX4_carryOutOrder_154 ⟨(Nat.le_of_ble_eq_true rfl), (Nat.le_of_ble_eq_true rfl)⟩ (fl [[oX a (AP 0) hi sl su pa (AT 0) (AU 0)], [oP pa ga v]]) (fl [cSt G AP (f_X3_passMinutes_x xp (v 5)), [oX a (AP 0) hi sl su pa (AT 0) (AU 0)], [oP pa ga v]]) (bperm (bs' := [cSt G AP xp, [oX a (AP 0) hi sl su pa (AT 0) (AU 0)], [oP pa ga v]]) [2, 0, 1] 3 rfl (by decide +kernel) rfl) rfl ?_
          refine j_perm (fl [[oX a (AP 0) hi sl su pa (AT 0) (AU 0)], [oP pa ga v], cSt G AP (f_X3_passMinutes_x xp (v 5))]) (bperm [1, 2, 0] 3 rfl (by decide +kernel) rfl) ?_
          subst hQ; exact j_iret C hr hk ((show f_X4_carryOutOrder_r xp v = f_X3_passMinutes_r xp (v 5) from ((if_neg c7_103).trans ((if_neg c7_115).trans ((if_neg c7_118).trans (if_neg c7_119))))).symm) (by rw [show f_X4_carryOutOrder_xp xp v = f_X3_passMinutes_x xp (v 5) from ((if_neg c7_103).trans ((if_neg c7_115).trans ((if_neg c7_118).trans (if_neg c7_119))))]) dX4_carryOutOrder_157
