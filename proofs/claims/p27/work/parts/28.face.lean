/-! THE FACE, SECOND HALF -/
theorem vin_m6 {k : Int32} (h0 : ¬ k < 6) (h1 : ¬ 13 ≤ k) : vp_in (k - 6) 7 := by
  have g0 : ¬ k < 0 := fun h => h0 (Int32.lt_trans h (by decide))
  obtain ⟨j, hj, rfl⟩ := vp_in_of (vin_of (n := 13) (N := 13) rfl g0 h1) (by decide)
  rcases (show j = 0 ∨ j = 1 ∨ j = 2 ∨ j = 3 ∨ j = 4 ∨ j = 5 ∨ j = 6 ∨ j = 7 ∨ j = 8 ∨ j = 9 ∨ j = 10 ∨ j = 11 ∨ j = 12 by omega) with rfl | rfl | rfl | rfl | rfl | rfl | rfl | rfl | rfl | rfl | rfl | rfl | rfl <;> first | exact vin_lit (by decide) | exact absurd (by decide) h0
noncomputable def f_X4_count_r (h : Nat → Int32) (xp : StV) (v : Nat → Int32) (k : Int32) : Int32 := (if k < 6 then (if k = 0 then xp.1 2 else (if k = 1 then f_X3_hourOfNow_r xp.1 else (if k = 2 then xp.1 3 else (if k = 3 then xp.1 4 else (if k = 4 then xp.1 5 else (if k = 5 then xp.1 6 else (if k = 13 then v 1 else (if k = 14 then h 2 else (-2))))))))) else (if 13 ≤ k then (if k = 0 then xp.1 2 else (if k = 1 then f_X3_hourOfNow_r xp.1 else (if k = 2 then xp.1 3 else (if k = 3 then xp.1 4 else (if k = 4 then xp.1 5 else (if k = 5 then xp.1 6 else (if k = 13 then v 1 else (if k = 14 then h 2 else (-2))))))))) else xp.2.1 (k - 6).toNatClampNeg))
set_option maxRecDepth 100000 in
set_option maxHeartbeats 4000000 in
theorem m_X4_count (l : Launch) (G : GG) (a hi sl su pa ha ga : Nat) (AP AT AU : Nat → Nat) (h : Nat → Int32) (xp : StV) (v : Nat → Int32) (k : Int32)  : CtI l yX4_count cX4_count 2 (some .int) (RM 1) G [.ref a, .int k] (fl [[oX a (AP 0) hi sl su pa (AT 0) (AU 0)], [oH hi ha h], cSt G AP xp, [oP pa ga v]]) (f_X4_count_r h xp v k) (fl [[oX a (AP 0) hi sl su pa (AT 0) (AU 0)], [oH hi ha h], cSt G AP xp, [oP pa ga v]]) := by
  refine ct_I RX4 [(0, .ref a), (1, .int k)] rfl (by decide +kernel) (Nat.le_of_ble_eq_true rfl) rfl ?_
  intro p e s m args below meth c A C hr hk hnm
  generalize hQ : (MQ below (PostI G A (f_X4_count_r h xp v k) (fl [[oX a (AP 0) hi sl su pa (AT 0) (AU 0)], [oH hi ha h], cSt G AP xp, [oP pa ga v]])) args s (RM 1).cells (RM 1).slots A) = Q
  refine j_perm (fl [[oX a (AP 0) hi sl su pa (AT 0) (AU 0)], [oH hi ha h], [oP pa ga v], cSt G AP xp]) (bperm [0, 1, 3, 2] 4 rfl (by decide +kernel) rfl) ?_
  refine j_iload_n C dX4_count_0 1 rfl ?_
  refine j_bipush (v := 6) C dX4_count_1 (by decide) ?_
  refine j_icmp_lt (tgt := 25) C dX4_count_3 (by decide) (fun c3 => ?_) (fun c3 => ?_)
  · refine j_iload_n C dX4_count_25 1 rfl ?_
    by_cases c26_0 : k = 0
    · refine j_tableIn (tgt := 100) C dX4_count_26 (by rw [c26_0] <;> decide) (by rw [c26_0] <;> decide) (by rw [c26_0] <;> rfl) (by decide) ?_
      refine j_aload_n C dX4_count_100 0 rfl ?_
      refine j_get C kin4 rfl 0 rfl 0 (by decide) kw_126 rfl (v := .ref (AP 0)) rfl dX4_count_101 ?_
      refine j_perm (fl [cSt G AP xp, [oX a (AP 0) hi sl su pa (AT 0) (AU 0)], [oH hi ha h], [oP pa ga v]]) (bperm [3, 0, 1, 2] 4 rfl (by decide +kernel) rfl) ?_
      refine j_w (fl [[oS (AP 0) (AP 1) (AP 2) xp.1], [aI G (AP 1) 7 xp.2.1], [aD G (AP 2) 4 (fun k => some (AP (3 + 2 * k)))], cDrs G AP xp.2.2.1 xp.2.2.2, [oX a (AP 0) hi sl su pa (AT 0) (AU 0)], [oH hi ha h], [oP pa ga v]]) rfl ?_
      refine j_perm (fl [[oS (AP 0) (AP 1) (AP 2) xp.1], [aI G (AP 1) 7 xp.2.1], [aD G (AP 2) 4 (fun k => some (AP (3 + 2 * k)))], [oX a (AP 0) hi sl su pa (AT 0) (AU 0)], [oH hi ha h], [oP pa ga v], cDrs G AP xp.2.2.1 xp.2.2.2]) (bperm [0, 1, 2, 4, 5, 6, 3] 7 rfl (by decide +kernel) rfl) ?_
      refine j_get C kin3 rfl 0 rfl 2 (by decide) kw_79 rfl (v := .int (xp.1 2)) rfl dX4_count_104 ?_
      refine j_perm (fl [[oS (AP 0) (AP 1) (AP 2) xp.1], [aI G (AP 1) 7 xp.2.1], [aD G (AP 2) 4 (fun k => some (AP (3 + 2 * k)))], cDrs G AP xp.2.2.1 xp.2.2.2, [oX a (AP 0) hi sl su pa (AT 0) (AU 0)], [oH hi ha h], [oP pa ga v]]) (bperm [0, 1, 2, 6, 3, 4, 5] 7 rfl (by decide +kernel) rfl) ?_
      refine j_w (fl [cSt G AP xp, [oX a (AP 0) hi sl su pa (AT 0) (AU 0)], [oH hi ha h], [oP pa ga v]]) rfl ?_
      refine j_perm (fl [[oX a (AP 0) hi sl su pa (AT 0) (AU 0)], [oH hi ha h], cSt G AP xp, [oP pa ga v]]) (bperm [1, 2, 0, 3] 4 rfl (by decide +kernel) rfl) ?_
      subst hQ; exact j_iret C hr hk ((show f_X4_count_r h xp v k = xp.1 2 from ((if_pos c3).trans (if_pos c26_0))).symm) rfl dX4_count_107
    · by_cases c26_1 : k = 1
      · refine j_tableIn (tgt := 108) C dX4_count_26 (by rw [c26_1] <;> decide) (by rw [c26_1] <;> decide) (by rw [c26_1] <;> rfl) (by decide) ?_
        refine j_aload_n C dX4_count_108 0 rfl ?_
        refine j_get C kin4 rfl 0 rfl 0 (by decide) kw_126 rfl (v := .ref (AP 0)) rfl dX4_count_109 ?_
        refine j_perm (fl [cSt G AP xp, [oX a (AP 0) hi sl su pa (AT 0) (AU 0)], [oH hi ha h], [oP pa ga v]]) (bperm [3, 0, 1, 2] 4 rfl (by decide +kernel) rfl) ?_
        refine j_w (fl [[oS (AP 0) (AP 1) (AP 2) xp.1], [aI G (AP 1) 7 xp.2.1], [aD G (AP 2) 4 (fun k => some (AP (3 + 2 * k)))], cDrs G AP xp.2.2.1 xp.2.2.2, [oX a (AP 0) hi sl su pa (AT 0) (AU 0)], [oH hi ha h], [oP pa ga v]]) rfl ?_
        refine j_perm (fl [[oS (AP 0) (AP 1) (AP 2) xp.1], [aI G (AP 1) 7 xp.2.1], [aD G (AP 2) 4 (fun k => some (AP (3 + 2 * k)))], [oX a (AP 0) hi sl su pa (AT 0) (AU 0)], [oH hi ha h], [oP pa ga v], cDrs G AP xp.2.2.1 xp.2.2.2]) (bperm [0, 1, 2, 4, 5, 6, 3] 7 rfl (by decide +kernel) rfl) ?_
        refine j_callV_i (r := f_X3_hourOfNow_r xp.1) (wc' := [oS (AP 0) (AP 1) (AP 2) xp.1]) C (m_X3_hourOfNow l G (AP 0) (AP 1) (AP 2) xp.1) rfl 0 rfl 0 (gV kw_242 kw_173 kw_174 kw_2 kw_175) (by decide +kernel) ⟨(Nat.le_of_ble_eq_true rfl), (Nat.le_of_ble_eq_true rfl)⟩ rfl rfl (Nat.le_of_ble_eq_true rfl) dX4_count_112 ⟨(Nat.le_of_ble_eq_true rfl), (Nat.le_of_ble_eq_true rfl)⟩ (fl [[aI G (AP 1) 7 xp.2.1], [aD G (AP 2) 4 (fun k => some (AP (3 + 2 * k)))], [oX a (AP 0) hi sl su pa (AT 0) (AU 0)], [oH hi ha h], [oP pa ga v], cDrs G AP xp.2.2.1 xp.2.2.2]) (fl [[oS (AP 0) (AP 1) (AP 2) xp.1], [aI G (AP 1) 7 xp.2.1], [aD G (AP 2) 4 (fun k => some (AP (3 + 2 * k)))], [oX a (AP 0) hi sl su pa (AT 0) (AU 0)], [oH hi ha h], [oP pa ga v], cDrs G AP xp.2.2.1 xp.2.2.2]) (bperm (bs' := [[oS (AP 0) (AP 1) (AP 2) xp.1], [aI G (AP 1) 7 xp.2.1], [aD G (AP 2) 4 (fun k => some (AP (3 + 2 * k)))], [oX a (AP 0) hi sl su pa (AT 0) (AU 0)], [oH hi ha h], [oP pa ga v], cDrs G AP xp.2.2.1 xp.2.2.2]) [0, 1, 2, 3, 4, 5, 6] 7 rfl (by decide +kernel) rfl) rfl ?_
        refine j_perm (fl [[oS (AP 0) (AP 1) (AP 2) xp.1], [aI G (AP 1) 7 xp.2.1], [aD G (AP 2) 4 (fun k => some (AP (3 + 2 * k)))], cDrs G AP xp.2.2.1 xp.2.2.2, [oX a (AP 0) hi sl su pa (AT 0) (AU 0)], [oH hi ha h], [oP pa ga v]]) (bperm [0, 1, 2, 6, 3, 4, 5] 7 rfl (by decide +kernel) rfl) ?_
        refine j_w (fl [cSt G AP xp, [oX a (AP 0) hi sl su pa (AT 0) (AU 0)], [oH hi ha h], [oP pa ga v]]) rfl ?_
        refine j_perm (fl [[oX a (AP 0) hi sl su pa (AT 0) (AU 0)], [oH hi ha h], cSt G AP xp, [oP pa ga v]]) (bperm [1, 2, 0, 3] 4 rfl (by decide +kernel) rfl) ?_
        subst hQ; exact j_iret C hr hk ((show f_X4_count_r h xp v k = f_X3_hourOfNow_r xp.1 from ((if_pos c3).trans ((if_neg c26_0).trans (if_pos c26_1)))).symm) rfl dX4_count_115
      · by_cases c26_2 : k = 2
        · refine j_tableIn (tgt := 116) C dX4_count_26 (by rw [c26_2] <;> decide) (by rw [c26_2] <;> decide) (by rw [c26_2] <;> rfl) (by decide) ?_
          refine j_aload_n C dX4_count_116 0 rfl ?_
          refine j_get C kin4 rfl 0 rfl 0 (by decide) kw_126 rfl (v := .ref (AP 0)) rfl dX4_count_117 ?_
          refine j_perm (fl [cSt G AP xp, [oX a (AP 0) hi sl su pa (AT 0) (AU 0)], [oH hi ha h], [oP pa ga v]]) (bperm [3, 0, 1, 2] 4 rfl (by decide +kernel) rfl) ?_
          refine j_w (fl [[oS (AP 0) (AP 1) (AP 2) xp.1], [aI G (AP 1) 7 xp.2.1], [aD G (AP 2) 4 (fun k => some (AP (3 + 2 * k)))], cDrs G AP xp.2.2.1 xp.2.2.2, [oX a (AP 0) hi sl su pa (AT 0) (AU 0)], [oH hi ha h], [oP pa ga v]]) rfl ?_
          refine j_perm (fl [[oS (AP 0) (AP 1) (AP 2) xp.1], [aI G (AP 1) 7 xp.2.1], [aD G (AP 2) 4 (fun k => some (AP (3 + 2 * k)))], [oX a (AP 0) hi sl su pa (AT 0) (AU 0)], [oH hi ha h], [oP pa ga v], cDrs G AP xp.2.2.1 xp.2.2.2]) (bperm [0, 1, 2, 4, 5, 6, 3] 7 rfl (by decide +kernel) rfl) ?_
          refine j_get C kin3 rfl 0 rfl 3 (by decide) kw_81 rfl (v := .int (xp.1 3)) rfl dX4_count_120 ?_
          refine j_perm (fl [[oS (AP 0) (AP 1) (AP 2) xp.1], [aI G (AP 1) 7 xp.2.1], [aD G (AP 2) 4 (fun k => some (AP (3 + 2 * k)))], cDrs G AP xp.2.2.1 xp.2.2.2, [oX a (AP 0) hi sl su pa (AT 0) (AU 0)], [oH hi ha h], [oP pa ga v]]) (bperm [0, 1, 2, 6, 3, 4, 5] 7 rfl (by decide +kernel) rfl) ?_
          refine j_w (fl [cSt G AP xp, [oX a (AP 0) hi sl su pa (AT 0) (AU 0)], [oH hi ha h], [oP pa ga v]]) rfl ?_
          refine j_perm (fl [[oX a (AP 0) hi sl su pa (AT 0) (AU 0)], [oH hi ha h], cSt G AP xp, [oP pa ga v]]) (bperm [1, 2, 0, 3] 4 rfl (by decide +kernel) rfl) ?_
          subst hQ; exact j_iret C hr hk ((show f_X4_count_r h xp v k = xp.1 3 from ((if_pos c3).trans ((if_neg c26_0).trans ((if_neg c26_1).trans (if_pos c26_2))))).symm) rfl dX4_count_123
        · by_cases c26_3 : k = 3
          · refine j_tableIn (tgt := 124) C dX4_count_26 (by rw [c26_3] <;> decide) (by rw [c26_3] <;> decide) (by rw [c26_3] <;> rfl) (by decide) ?_
            refine j_aload_n C dX4_count_124 0 rfl ?_
            refine j_get C kin4 rfl 0 rfl 0 (by decide) kw_126 rfl (v := .ref (AP 0)) rfl dX4_count_125 ?_
            refine j_perm (fl [cSt G AP xp, [oX a (AP 0) hi sl su pa (AT 0) (AU 0)], [oH hi ha h], [oP pa ga v]]) (bperm [3, 0, 1, 2] 4 rfl (by decide +kernel) rfl) ?_
            refine j_w (fl [[oS (AP 0) (AP 1) (AP 2) xp.1], [aI G (AP 1) 7 xp.2.1], [aD G (AP 2) 4 (fun k => some (AP (3 + 2 * k)))], cDrs G AP xp.2.2.1 xp.2.2.2, [oX a (AP 0) hi sl su pa (AT 0) (AU 0)], [oH hi ha h], [oP pa ga v]]) rfl ?_
            refine j_perm (fl [[oS (AP 0) (AP 1) (AP 2) xp.1], [aI G (AP 1) 7 xp.2.1], [aD G (AP 2) 4 (fun k => some (AP (3 + 2 * k)))], [oX a (AP 0) hi sl su pa (AT 0) (AU 0)], [oH hi ha h], [oP pa ga v], cDrs G AP xp.2.2.1 xp.2.2.2]) (bperm [0, 1, 2, 4, 5, 6, 3] 7 rfl (by decide +kernel) rfl) ?_
            refine j_get C kin3 rfl 0 rfl 4 (by decide) kw_83 rfl (v := .int (xp.1 4)) rfl dX4_count_128 ?_
            refine j_perm (fl [[oS (AP 0) (AP 1) (AP 2) xp.1], [aI G (AP 1) 7 xp.2.1], [aD G (AP 2) 4 (fun k => some (AP (3 + 2 * k)))], cDrs G AP xp.2.2.1 xp.2.2.2, [oX a (AP 0) hi sl su pa (AT 0) (AU 0)], [oH hi ha h], [oP pa ga v]]) (bperm [0, 1, 2, 6, 3, 4, 5] 7 rfl (by decide +kernel) rfl) ?_
            refine j_w (fl [cSt G AP xp, [oX a (AP 0) hi sl su pa (AT 0) (AU 0)], [oH hi ha h], [oP pa ga v]]) rfl ?_
            refine j_perm (fl [[oX a (AP 0) hi sl su pa (AT 0) (AU 0)], [oH hi ha h], cSt G AP xp, [oP pa ga v]]) (bperm [1, 2, 0, 3] 4 rfl (by decide +kernel) rfl) ?_
            subst hQ; exact j_iret C hr hk ((show f_X4_count_r h xp v k = xp.1 4 from ((if_pos c3).trans ((if_neg c26_0).trans ((if_neg c26_1).trans ((if_neg c26_2).trans (if_pos c26_3)))))).symm) rfl dX4_count_131
          · by_cases c26_4 : k = 4
            · refine j_tableIn (tgt := 132) C dX4_count_26 (by rw [c26_4] <;> decide) (by rw [c26_4] <;> decide) (by rw [c26_4] <;> rfl) (by decide) ?_
              refine j_aload_n C dX4_count_132 0 rfl ?_
              refine j_get C kin4 rfl 0 rfl 0 (by decide) kw_126 rfl (v := .ref (AP 0)) rfl dX4_count_133 ?_
              refine j_perm (fl [cSt G AP xp, [oX a (AP 0) hi sl su pa (AT 0) (AU 0)], [oH hi ha h], [oP pa ga v]]) (bperm [3, 0, 1, 2] 4 rfl (by decide +kernel) rfl) ?_
              refine j_w (fl [[oS (AP 0) (AP 1) (AP 2) xp.1], [aI G (AP 1) 7 xp.2.1], [aD G (AP 2) 4 (fun k => some (AP (3 + 2 * k)))], cDrs G AP xp.2.2.1 xp.2.2.2, [oX a (AP 0) hi sl su pa (AT 0) (AU 0)], [oH hi ha h], [oP pa ga v]]) rfl ?_
              refine j_perm (fl [[oS (AP 0) (AP 1) (AP 2) xp.1], [aI G (AP 1) 7 xp.2.1], [aD G (AP 2) 4 (fun k => some (AP (3 + 2 * k)))], [oX a (AP 0) hi sl su pa (AT 0) (AU 0)], [oH hi ha h], [oP pa ga v], cDrs G AP xp.2.2.1 xp.2.2.2]) (bperm [0, 1, 2, 4, 5, 6, 3] 7 rfl (by decide +kernel) rfl) ?_
              refine j_get C kin3 rfl 0 rfl 5 (by decide) kw_85 rfl (v := .int (xp.1 5)) rfl dX4_count_136 ?_
              refine j_perm (fl [[oS (AP 0) (AP 1) (AP 2) xp.1], [aI G (AP 1) 7 xp.2.1], [aD G (AP 2) 4 (fun k => some (AP (3 + 2 * k)))], cDrs G AP xp.2.2.1 xp.2.2.2, [oX a (AP 0) hi sl su pa (AT 0) (AU 0)], [oH hi ha h], [oP pa ga v]]) (bperm [0, 1, 2, 6, 3, 4, 5] 7 rfl (by decide +kernel) rfl) ?_
              refine j_w (fl [cSt G AP xp, [oX a (AP 0) hi sl su pa (AT 0) (AU 0)], [oH hi ha h], [oP pa ga v]]) rfl ?_
              refine j_perm (fl [[oX a (AP 0) hi sl su pa (AT 0) (AU 0)], [oH hi ha h], cSt G AP xp, [oP pa ga v]]) (bperm [1, 2, 0, 3] 4 rfl (by decide +kernel) rfl) ?_
              subst hQ; exact j_iret C hr hk ((show f_X4_count_r h xp v k = xp.1 5 from ((if_pos c3).trans ((if_neg c26_0).trans ((if_neg c26_1).trans ((if_neg c26_2).trans ((if_neg c26_3).trans (if_pos c26_4))))))).symm) rfl dX4_count_139
            · by_cases c26_5 : k = 5
              · refine j_tableIn (tgt := 140) C dX4_count_26 (by rw [c26_5] <;> decide) (by rw [c26_5] <;> decide) (by rw [c26_5] <;> rfl) (by decide) ?_
                refine j_aload_n C dX4_count_140 0 rfl ?_
                refine j_get C kin4 rfl 0 rfl 0 (by decide) kw_126 rfl (v := .ref (AP 0)) rfl dX4_count_141 ?_
                refine j_perm (fl [cSt G AP xp, [oX a (AP 0) hi sl su pa (AT 0) (AU 0)], [oH hi ha h], [oP pa ga v]]) (bperm [3, 0, 1, 2] 4 rfl (by decide +kernel) rfl) ?_
                refine j_w (fl [[oS (AP 0) (AP 1) (AP 2) xp.1], [aI G (AP 1) 7 xp.2.1], [aD G (AP 2) 4 (fun k => some (AP (3 + 2 * k)))], cDrs G AP xp.2.2.1 xp.2.2.2, [oX a (AP 0) hi sl su pa (AT 0) (AU 0)], [oH hi ha h], [oP pa ga v]]) rfl ?_
                refine j_perm (fl [[oS (AP 0) (AP 1) (AP 2) xp.1], [aI G (AP 1) 7 xp.2.1], [aD G (AP 2) 4 (fun k => some (AP (3 + 2 * k)))], [oX a (AP 0) hi sl su pa (AT 0) (AU 0)], [oH hi ha h], [oP pa ga v], cDrs G AP xp.2.2.1 xp.2.2.2]) (bperm [0, 1, 2, 4, 5, 6, 3] 7 rfl (by decide +kernel) rfl) ?_
                refine j_get C kin3 rfl 0 rfl 6 (by decide) kw_87 rfl (v := .int (xp.1 6)) rfl dX4_count_144 ?_
                refine j_perm (fl [[oS (AP 0) (AP 1) (AP 2) xp.1], [aI G (AP 1) 7 xp.2.1], [aD G (AP 2) 4 (fun k => some (AP (3 + 2 * k)))], cDrs G AP xp.2.2.1 xp.2.2.2, [oX a (AP 0) hi sl su pa (AT 0) (AU 0)], [oH hi ha h], [oP pa ga v]]) (bperm [0, 1, 2, 6, 3, 4, 5] 7 rfl (by decide +kernel) rfl) ?_
                refine j_w (fl [cSt G AP xp, [oX a (AP 0) hi sl su pa (AT 0) (AU 0)], [oH hi ha h], [oP pa ga v]]) rfl ?_
                refine j_perm (fl [[oX a (AP 0) hi sl su pa (AT 0) (AU 0)], [oH hi ha h], cSt G AP xp, [oP pa ga v]]) (bperm [1, 2, 0, 3] 4 rfl (by decide +kernel) rfl) ?_
                subst hQ; exact j_iret C hr hk ((show f_X4_count_r h xp v k = xp.1 6 from ((if_pos c3).trans ((if_neg c26_0).trans ((if_neg c26_1).trans ((if_neg c26_2).trans ((if_neg c26_3).trans ((if_neg c26_4).trans (if_pos c26_5)))))))).symm) rfl dX4_count_147
              · by_cases c26_13 : k = 13
                · refine j_tableIn (tgt := 148) C dX4_count_26 (by rw [c26_13] <;> decide) (by rw [c26_13] <;> decide) (by rw [c26_13] <;> rfl) (by decide) ?_
                  refine j_aload_n C dX4_count_148 0 rfl ?_
                  refine j_get C kin4 rfl 0 rfl 4 (by decide) kw_130 rfl (v := .ref pa) rfl dX4_count_149 ?_
                  refine j_get C kin2 rfl 2 rfl 1 (by decide) kw_116 rfl (v := .int (v 1)) rfl dX4_count_152 ?_
                  refine j_perm (fl [[oX a (AP 0) hi sl su pa (AT 0) (AU 0)], [oH hi ha h], cSt G AP xp, [oP pa ga v]]) (bperm [0, 1, 3, 2] 4 rfl (by decide +kernel) rfl) ?_
                  subst hQ; exact j_iret C hr hk ((show f_X4_count_r h xp v k = v 1 from ((if_pos c3).trans ((if_neg c26_0).trans ((if_neg c26_1).trans ((if_neg c26_2).trans ((if_neg c26_3).trans ((if_neg c26_4).trans ((if_neg c26_5).trans (if_pos c26_13))))))))).symm) rfl dX4_count_155
                · by_cases c26_14 : k = 14
                  · refine j_tableIn (tgt := 156) C dX4_count_26 (by rw [c26_14] <;> decide) (by rw [c26_14] <;> decide) (by rw [c26_14] <;> rfl) (by decide) ?_
                    refine j_aload_n C dX4_count_156 0 rfl ?_
                    refine j_get C kin4 rfl 0 rfl 1 (by decide) kw_127 rfl (v := .ref hi) rfl dX4_count_157 ?_
                    refine j_get C kin1 rfl 1 rfl 2 (by decide) kw_106 rfl (v := .int (h 2)) rfl dX4_count_160 ?_
                    refine j_perm (fl [[oX a (AP 0) hi sl su pa (AT 0) (AU 0)], [oH hi ha h], cSt G AP xp, [oP pa ga v]]) (bperm [0, 1, 3, 2] 4 rfl (by decide +kernel) rfl) ?_
                    subst hQ; exact j_iret C hr hk ((show f_X4_count_r h xp v k = h 2 from ((if_pos c3).trans ((if_neg c26_0).trans ((if_neg c26_1).trans ((if_neg c26_2).trans ((if_neg c26_3).trans ((if_neg c26_4).trans ((if_neg c26_5).trans ((if_neg c26_13).trans (if_pos c26_14)))))))))).symm) rfl dX4_count_163
                  · have n26_0 : (k).toInt ≠ 0 := fun h => c26_0 (Int32.toInt_inj.mp h)
                    have n26_1 : (k).toInt ≠ 1 := fun h => c26_1 (Int32.toInt_inj.mp h)
                    have n26_2 : (k).toInt ≠ 2 := fun h => c26_2 (Int32.toInt_inj.mp h)
                    have n26_3 : (k).toInt ≠ 3 := fun h => c26_3 (Int32.toInt_inj.mp h)
                    have n26_4 : (k).toInt ≠ 4 := fun h => c26_4 (Int32.toInt_inj.mp h)
                    have n26_5 : (k).toInt ≠ 5 := fun h => c26_5 (Int32.toInt_inj.mp h)
                    have n26_13 : (k).toInt ≠ 13 := fun h => c26_13 (Int32.toInt_inj.mp h)
                    have n26_14 : (k).toInt ≠ 14 := fun h => c26_14 (Int32.toInt_inj.mp h)
                    by_cases hz26 : (k).toInt < 0 ∨ 14 < (k).toInt
                    · refine j_tableOut (tgt := 164) C dX4_count_26 hz26 (by decide) ?_
                      refine j_bipush (v := (-2)) C dX4_count_164 (by decide) ?_
                      refine j_perm (fl [[oX a (AP 0) hi sl su pa (AT 0) (AU 0)], [oH hi ha h], cSt G AP xp, [oP pa ga v]]) (bperm [0, 1, 3, 2] 4 rfl (by decide +kernel) rfl) ?_
                      subst hQ; exact j_iret C hr hk ((show f_X4_count_r h xp v k = (-2) from ((if_pos c3).trans ((if_neg c26_0).trans ((if_neg c26_1).trans ((if_neg c26_2).trans ((if_neg c26_3).trans ((if_neg c26_4).trans ((if_neg c26_5).trans ((if_neg c26_13).trans (if_neg c26_14)))))))))).symm) rfl dX4_count_166
                    · refine j_tableIn (off := 138) (tgt := 164) C dX4_count_26 (by omega) (by omega) (by have hm : (k).toInt = 6 ∨ (k).toInt = 7 ∨ (k).toInt = 8 ∨ (k).toInt = 9 ∨ (k).toInt = 10 ∨ (k).toInt = 11 ∨ (k).toInt = 12 := (by omega); rcases hm with hm | hm | hm | hm | hm | hm | hm <;> (rw [hm]; try rfl)) (by decide) ?_
                      refine j_bipush (v := (-2)) C dX4_count_164 (by decide) ?_
                      refine j_perm (fl [[oX a (AP 0) hi sl su pa (AT 0) (AU 0)], [oH hi ha h], cSt G AP xp, [oP pa ga v]]) (bperm [0, 1, 3, 2] 4 rfl (by decide +kernel) rfl) ?_
                      subst hQ; exact j_iret C hr hk ((show f_X4_count_r h xp v k = (-2) from ((if_pos c3).trans ((if_neg c26_0).trans ((if_neg c26_1).trans ((if_neg c26_2).trans ((if_neg c26_3).trans ((if_neg c26_4).trans ((if_neg c26_5).trans ((if_neg c26_13).trans (if_neg c26_14)))))))))).symm) rfl dX4_count_166
  · refine j_iload_n C dX4_count_6 1 rfl ?_
    refine j_bipush (v := 13) C dX4_count_7 (by decide) ?_
    refine j_icmp_ge (tgt := 25) C dX4_count_9 (by decide) (fun c9 => ?_) (fun c9 => ?_)
    · refine j_iload_n C dX4_count_25 1 rfl ?_
      by_cases c26_0 : k = 0
      · refine j_tableIn (tgt := 100) C dX4_count_26 (by rw [c26_0] <;> decide) (by rw [c26_0] <;> decide) (by rw [c26_0] <;> rfl) (by decide) ?_
        refine j_aload_n C dX4_count_100 0 rfl ?_
        refine j_get C kin4 rfl 0 rfl 0 (by decide) kw_126 rfl (v := .ref (AP 0)) rfl dX4_count_101 ?_
        refine j_perm (fl [cSt G AP xp, [oX a (AP 0) hi sl su pa (AT 0) (AU 0)], [oH hi ha h], [oP pa ga v]]) (bperm [3, 0, 1, 2] 4 rfl (by decide +kernel) rfl) ?_
        refine j_w (fl [[oS (AP 0) (AP 1) (AP 2) xp.1], [aI G (AP 1) 7 xp.2.1], [aD G (AP 2) 4 (fun k => some (AP (3 + 2 * k)))], cDrs G AP xp.2.2.1 xp.2.2.2, [oX a (AP 0) hi sl su pa (AT 0) (AU 0)], [oH hi ha h], [oP pa ga v]]) rfl ?_
        refine j_perm (fl [[oS (AP 0) (AP 1) (AP 2) xp.1], [aI G (AP 1) 7 xp.2.1], [aD G (AP 2) 4 (fun k => some (AP (3 + 2 * k)))], [oX a (AP 0) hi sl su pa (AT 0) (AU 0)], [oH hi ha h], [oP pa ga v], cDrs G AP xp.2.2.1 xp.2.2.2]) (bperm [0, 1, 2, 4, 5, 6, 3] 7 rfl (by decide +kernel) rfl) ?_
        refine j_get C kin3 rfl 0 rfl 2 (by decide) kw_79 rfl (v := .int (xp.1 2)) rfl dX4_count_104 ?_
        refine j_perm (fl [[oS (AP 0) (AP 1) (AP 2) xp.1], [aI G (AP 1) 7 xp.2.1], [aD G (AP 2) 4 (fun k => some (AP (3 + 2 * k)))], cDrs G AP xp.2.2.1 xp.2.2.2, [oX a (AP 0) hi sl su pa (AT 0) (AU 0)], [oH hi ha h], [oP pa ga v]]) (bperm [0, 1, 2, 6, 3, 4, 5] 7 rfl (by decide +kernel) rfl) ?_
        refine j_w (fl [cSt G AP xp, [oX a (AP 0) hi sl su pa (AT 0) (AU 0)], [oH hi ha h], [oP pa ga v]]) rfl ?_
        refine j_perm (fl [[oX a (AP 0) hi sl su pa (AT 0) (AU 0)], [oH hi ha h], cSt G AP xp, [oP pa ga v]]) (bperm [1, 2, 0, 3] 4 rfl (by decide +kernel) rfl) ?_
        subst hQ; exact j_iret C hr hk ((show f_X4_count_r h xp v k = xp.1 2 from ((if_neg c3).trans ((if_pos c9).trans (if_pos c26_0)))).symm) rfl dX4_count_107
      · by_cases c26_1 : k = 1
        · refine j_tableIn (tgt := 108) C dX4_count_26 (by rw [c26_1] <;> decide) (by rw [c26_1] <;> decide) (by rw [c26_1] <;> rfl) (by decide) ?_
          refine j_aload_n C dX4_count_108 0 rfl ?_
          refine j_get C kin4 rfl 0 rfl 0 (by decide) kw_126 rfl (v := .ref (AP 0)) rfl dX4_count_109 ?_
          refine j_perm (fl [cSt G AP xp, [oX a (AP 0) hi sl su pa (AT 0) (AU 0)], [oH hi ha h], [oP pa ga v]]) (bperm [3, 0, 1, 2] 4 rfl (by decide +kernel) rfl) ?_
          refine j_w (fl [[oS (AP 0) (AP 1) (AP 2) xp.1], [aI G (AP 1) 7 xp.2.1], [aD G (AP 2) 4 (fun k => some (AP (3 + 2 * k)))], cDrs G AP xp.2.2.1 xp.2.2.2, [oX a (AP 0) hi sl su pa (AT 0) (AU 0)], [oH hi ha h], [oP pa ga v]]) rfl ?_
          refine j_perm (fl [[oS (AP 0) (AP 1) (AP 2) xp.1], [aI G (AP 1) 7 xp.2.1], [aD G (AP 2) 4 (fun k => some (AP (3 + 2 * k)))], [oX a (AP 0) hi sl su pa (AT 0) (AU 0)], [oH hi ha h], [oP pa ga v], cDrs G AP xp.2.2.1 xp.2.2.2]) (bperm [0, 1, 2, 4, 5, 6, 3] 7 rfl (by decide +kernel) rfl) ?_
          refine j_callV_i (r := f_X3_hourOfNow_r xp.1) (wc' := [oS (AP 0) (AP 1) (AP 2) xp.1]) C (m_X3_hourOfNow l G (AP 0) (AP 1) (AP 2) xp.1) rfl 0 rfl 0 (gV kw_242 kw_173 kw_174 kw_2 kw_175) (by decide +kernel) ⟨(Nat.le_of_ble_eq_true rfl), (Nat.le_of_ble_eq_true rfl)⟩ rfl rfl (Nat.le_of_ble_eq_true rfl) dX4_count_112 ⟨(Nat.le_of_ble_eq_true rfl), (Nat.le_of_ble_eq_true rfl)⟩ (fl [[aI G (AP 1) 7 xp.2.1], [aD G (AP 2) 4 (fun k => some (AP (3 + 2 * k)))], [oX a (AP 0) hi sl su pa (AT 0) (AU 0)], [oH hi ha h], [oP pa ga v], cDrs G AP xp.2.2.1 xp.2.2.2]) (fl [[oS (AP 0) (AP 1) (AP 2) xp.1], [aI G (AP 1) 7 xp.2.1], [aD G (AP 2) 4 (fun k => some (AP (3 + 2 * k)))], [oX a (AP 0) hi sl su pa (AT 0) (AU 0)], [oH hi ha h], [oP pa ga v], cDrs G AP xp.2.2.1 xp.2.2.2]) (bperm (bs' := [[oS (AP 0) (AP 1) (AP 2) xp.1], [aI G (AP 1) 7 xp.2.1], [aD G (AP 2) 4 (fun k => some (AP (3 + 2 * k)))], [oX a (AP 0) hi sl su pa (AT 0) (AU 0)], [oH hi ha h], [oP pa ga v], cDrs G AP xp.2.2.1 xp.2.2.2]) [0, 1, 2, 3, 4, 5, 6] 7 rfl (by decide +kernel) rfl) rfl ?_
          refine j_perm (fl [[oS (AP 0) (AP 1) (AP 2) xp.1], [aI G (AP 1) 7 xp.2.1], [aD G (AP 2) 4 (fun k => some (AP (3 + 2 * k)))], cDrs G AP xp.2.2.1 xp.2.2.2, [oX a (AP 0) hi sl su pa (AT 0) (AU 0)], [oH hi ha h], [oP pa ga v]]) (bperm [0, 1, 2, 6, 3, 4, 5] 7 rfl (by decide +kernel) rfl) ?_
          refine j_w (fl [cSt G AP xp, [oX a (AP 0) hi sl su pa (AT 0) (AU 0)], [oH hi ha h], [oP pa ga v]]) rfl ?_
          refine j_perm (fl [[oX a (AP 0) hi sl su pa (AT 0) (AU 0)], [oH hi ha h], cSt G AP xp, [oP pa ga v]]) (bperm [1, 2, 0, 3] 4 rfl (by decide +kernel) rfl) ?_
          subst hQ; exact j_iret C hr hk ((show f_X4_count_r h xp v k = f_X3_hourOfNow_r xp.1 from ((if_neg c3).trans ((if_pos c9).trans ((if_neg c26_0).trans (if_pos c26_1))))).symm) rfl dX4_count_115
        · by_cases c26_2 : k = 2
          · refine j_tableIn (tgt := 116) C dX4_count_26 (by rw [c26_2] <;> decide) (by rw [c26_2] <;> decide) (by rw [c26_2] <;> rfl) (by decide) ?_
            refine j_aload_n C dX4_count_116 0 rfl ?_
            refine j_get C kin4 rfl 0 rfl 0 (by decide) kw_126 rfl (v := .ref (AP 0)) rfl dX4_count_117 ?_
            refine j_perm (fl [cSt G AP xp, [oX a (AP 0) hi sl su pa (AT 0) (AU 0)], [oH hi ha h], [oP pa ga v]]) (bperm [3, 0, 1, 2] 4 rfl (by decide +kernel) rfl) ?_
            refine j_w (fl [[oS (AP 0) (AP 1) (AP 2) xp.1], [aI G (AP 1) 7 xp.2.1], [aD G (AP 2) 4 (fun k => some (AP (3 + 2 * k)))], cDrs G AP xp.2.2.1 xp.2.2.2, [oX a (AP 0) hi sl su pa (AT 0) (AU 0)], [oH hi ha h], [oP pa ga v]]) rfl ?_
            refine j_perm (fl [[oS (AP 0) (AP 1) (AP 2) xp.1], [aI G (AP 1) 7 xp.2.1], [aD G (AP 2) 4 (fun k => some (AP (3 + 2 * k)))], [oX a (AP 0) hi sl su pa (AT 0) (AU 0)], [oH hi ha h], [oP pa ga v], cDrs G AP xp.2.2.1 xp.2.2.2]) (bperm [0, 1, 2, 4, 5, 6, 3] 7 rfl (by decide +kernel) rfl) ?_
            refine j_get C kin3 rfl 0 rfl 3 (by decide) kw_81 rfl (v := .int (xp.1 3)) rfl dX4_count_120 ?_
            refine j_perm (fl [[oS (AP 0) (AP 1) (AP 2) xp.1], [aI G (AP 1) 7 xp.2.1], [aD G (AP 2) 4 (fun k => some (AP (3 + 2 * k)))], cDrs G AP xp.2.2.1 xp.2.2.2, [oX a (AP 0) hi sl su pa (AT 0) (AU 0)], [oH hi ha h], [oP pa ga v]]) (bperm [0, 1, 2, 6, 3, 4, 5] 7 rfl (by decide +kernel) rfl) ?_
            refine j_w (fl [cSt G AP xp, [oX a (AP 0) hi sl su pa (AT 0) (AU 0)], [oH hi ha h], [oP pa ga v]]) rfl ?_
            refine j_perm (fl [[oX a (AP 0) hi sl su pa (AT 0) (AU 0)], [oH hi ha h], cSt G AP xp, [oP pa ga v]]) (bperm [1, 2, 0, 3] 4 rfl (by decide +kernel) rfl) ?_
            subst hQ; exact j_iret C hr hk ((show f_X4_count_r h xp v k = xp.1 3 from ((if_neg c3).trans ((if_pos c9).trans ((if_neg c26_0).trans ((if_neg c26_1).trans (if_pos c26_2)))))).symm) rfl dX4_count_123
          · by_cases c26_3 : k = 3
            · refine j_tableIn (tgt := 124) C dX4_count_26 (by rw [c26_3] <;> decide) (by rw [c26_3] <;> decide) (by rw [c26_3] <;> rfl) (by decide) ?_
              refine j_aload_n C dX4_count_124 0 rfl ?_
              refine j_get C kin4 rfl 0 rfl 0 (by decide) kw_126 rfl (v := .ref (AP 0)) rfl dX4_count_125 ?_
              refine j_perm (fl [cSt G AP xp, [oX a (AP 0) hi sl su pa (AT 0) (AU 0)], [oH hi ha h], [oP pa ga v]]) (bperm [3, 0, 1, 2] 4 rfl (by decide +kernel) rfl) ?_
              refine j_w (fl [[oS (AP 0) (AP 1) (AP 2) xp.1], [aI G (AP 1) 7 xp.2.1], [aD G (AP 2) 4 (fun k => some (AP (3 + 2 * k)))], cDrs G AP xp.2.2.1 xp.2.2.2, [oX a (AP 0) hi sl su pa (AT 0) (AU 0)], [oH hi ha h], [oP pa ga v]]) rfl ?_
              refine j_perm (fl [[oS (AP 0) (AP 1) (AP 2) xp.1], [aI G (AP 1) 7 xp.2.1], [aD G (AP 2) 4 (fun k => some (AP (3 + 2 * k)))], [oX a (AP 0) hi sl su pa (AT 0) (AU 0)], [oH hi ha h], [oP pa ga v], cDrs G AP xp.2.2.1 xp.2.2.2]) (bperm [0, 1, 2, 4, 5, 6, 3] 7 rfl (by decide +kernel) rfl) ?_
              refine j_get C kin3 rfl 0 rfl 4 (by decide) kw_83 rfl (v := .int (xp.1 4)) rfl dX4_count_128 ?_
              refine j_perm (fl [[oS (AP 0) (AP 1) (AP 2) xp.1], [aI G (AP 1) 7 xp.2.1], [aD G (AP 2) 4 (fun k => some (AP (3 + 2 * k)))], cDrs G AP xp.2.2.1 xp.2.2.2, [oX a (AP 0) hi sl su pa (AT 0) (AU 0)], [oH hi ha h], [oP pa ga v]]) (bperm [0, 1, 2, 6, 3, 4, 5] 7 rfl (by decide +kernel) rfl) ?_
              refine j_w (fl [cSt G AP xp, [oX a (AP 0) hi sl su pa (AT 0) (AU 0)], [oH hi ha h], [oP pa ga v]]) rfl ?_
              refine j_perm (fl [[oX a (AP 0) hi sl su pa (AT 0) (AU 0)], [oH hi ha h], cSt G AP xp, [oP pa ga v]]) (bperm [1, 2, 0, 3] 4 rfl (by decide +kernel) rfl) ?_
              subst hQ; exact j_iret C hr hk ((show f_X4_count_r h xp v k = xp.1 4 from ((if_neg c3).trans ((if_pos c9).trans ((if_neg c26_0).trans ((if_neg c26_1).trans ((if_neg c26_2).trans (if_pos c26_3))))))).symm) rfl dX4_count_131
            · by_cases c26_4 : k = 4
              · refine j_tableIn (tgt := 132) C dX4_count_26 (by rw [c26_4] <;> decide) (by rw [c26_4] <;> decide) (by rw [c26_4] <;> rfl) (by decide) ?_
                refine j_aload_n C dX4_count_132 0 rfl ?_
                refine j_get C kin4 rfl 0 rfl 0 (by decide) kw_126 rfl (v := .ref (AP 0)) rfl dX4_count_133 ?_
                refine j_perm (fl [cSt G AP xp, [oX a (AP 0) hi sl su pa (AT 0) (AU 0)], [oH hi ha h], [oP pa ga v]]) (bperm [3, 0, 1, 2] 4 rfl (by decide +kernel) rfl) ?_
                refine j_w (fl [[oS (AP 0) (AP 1) (AP 2) xp.1], [aI G (AP 1) 7 xp.2.1], [aD G (AP 2) 4 (fun k => some (AP (3 + 2 * k)))], cDrs G AP xp.2.2.1 xp.2.2.2, [oX a (AP 0) hi sl su pa (AT 0) (AU 0)], [oH hi ha h], [oP pa ga v]]) rfl ?_
                refine j_perm (fl [[oS (AP 0) (AP 1) (AP 2) xp.1], [aI G (AP 1) 7 xp.2.1], [aD G (AP 2) 4 (fun k => some (AP (3 + 2 * k)))], [oX a (AP 0) hi sl su pa (AT 0) (AU 0)], [oH hi ha h], [oP pa ga v], cDrs G AP xp.2.2.1 xp.2.2.2]) (bperm [0, 1, 2, 4, 5, 6, 3] 7 rfl (by decide +kernel) rfl) ?_
                refine j_get C kin3 rfl 0 rfl 5 (by decide) kw_85 rfl (v := .int (xp.1 5)) rfl dX4_count_136 ?_
                refine j_perm (fl [[oS (AP 0) (AP 1) (AP 2) xp.1], [aI G (AP 1) 7 xp.2.1], [aD G (AP 2) 4 (fun k => some (AP (3 + 2 * k)))], cDrs G AP xp.2.2.1 xp.2.2.2, [oX a (AP 0) hi sl su pa (AT 0) (AU 0)], [oH hi ha h], [oP pa ga v]]) (bperm [0, 1, 2, 6, 3, 4, 5] 7 rfl (by decide +kernel) rfl) ?_
                refine j_w (fl [cSt G AP xp, [oX a (AP 0) hi sl su pa (AT 0) (AU 0)], [oH hi ha h], [oP pa ga v]]) rfl ?_
                refine j_perm (fl [[oX a (AP 0) hi sl su pa (AT 0) (AU 0)], [oH hi ha h], cSt G AP xp, [oP pa ga v]]) (bperm [1, 2, 0, 3] 4 rfl (by decide +kernel) rfl) ?_
                subst hQ; exact j_iret C hr hk ((show f_X4_count_r h xp v k = xp.1 5 from ((if_neg c3).trans ((if_pos c9).trans ((if_neg c26_0).trans ((if_neg c26_1).trans ((if_neg c26_2).trans ((if_neg c26_3).trans (if_pos c26_4)))))))).symm) rfl dX4_count_139
              · by_cases c26_5 : k = 5
                · refine j_tableIn (tgt := 140) C dX4_count_26 (by rw [c26_5] <;> decide) (by rw [c26_5] <;> decide) (by rw [c26_5] <;> rfl) (by decide) ?_
                  refine j_aload_n C dX4_count_140 0 rfl ?_
                  refine j_get C kin4 rfl 0 rfl 0 (by decide) kw_126 rfl (v := .ref (AP 0)) rfl dX4_count_141 ?_
                  refine j_perm (fl [cSt G AP xp, [oX a (AP 0) hi sl su pa (AT 0) (AU 0)], [oH hi ha h], [oP pa ga v]]) (bperm [3, 0, 1, 2] 4 rfl (by decide +kernel) rfl) ?_
                  refine j_w (fl [[oS (AP 0) (AP 1) (AP 2) xp.1], [aI G (AP 1) 7 xp.2.1], [aD G (AP 2) 4 (fun k => some (AP (3 + 2 * k)))], cDrs G AP xp.2.2.1 xp.2.2.2, [oX a (AP 0) hi sl su pa (AT 0) (AU 0)], [oH hi ha h], [oP pa ga v]]) rfl ?_
                  refine j_perm (fl [[oS (AP 0) (AP 1) (AP 2) xp.1], [aI G (AP 1) 7 xp.2.1], [aD G (AP 2) 4 (fun k => some (AP (3 + 2 * k)))], [oX a (AP 0) hi sl su pa (AT 0) (AU 0)], [oH hi ha h], [oP pa ga v], cDrs G AP xp.2.2.1 xp.2.2.2]) (bperm [0, 1, 2, 4, 5, 6, 3] 7 rfl (by decide +kernel) rfl) ?_
                  refine j_get C kin3 rfl 0 rfl 6 (by decide) kw_87 rfl (v := .int (xp.1 6)) rfl dX4_count_144 ?_
                  refine j_perm (fl [[oS (AP 0) (AP 1) (AP 2) xp.1], [aI G (AP 1) 7 xp.2.1], [aD G (AP 2) 4 (fun k => some (AP (3 + 2 * k)))], cDrs G AP xp.2.2.1 xp.2.2.2, [oX a (AP 0) hi sl su pa (AT 0) (AU 0)], [oH hi ha h], [oP pa ga v]]) (bperm [0, 1, 2, 6, 3, 4, 5] 7 rfl (by decide +kernel) rfl) ?_
                  refine j_w (fl [cSt G AP xp, [oX a (AP 0) hi sl su pa (AT 0) (AU 0)], [oH hi ha h], [oP pa ga v]]) rfl ?_
                  refine j_perm (fl [[oX a (AP 0) hi sl su pa (AT 0) (AU 0)], [oH hi ha h], cSt G AP xp, [oP pa ga v]]) (bperm [1, 2, 0, 3] 4 rfl (by decide +kernel) rfl) ?_
                  subst hQ; exact j_iret C hr hk ((show f_X4_count_r h xp v k = xp.1 6 from ((if_neg c3).trans ((if_pos c9).trans ((if_neg c26_0).trans ((if_neg c26_1).trans ((if_neg c26_2).trans ((if_neg c26_3).trans ((if_neg c26_4).trans (if_pos c26_5))))))))).symm) rfl dX4_count_147
                · by_cases c26_13 : k = 13
                  · refine j_tableIn (tgt := 148) C dX4_count_26 (by rw [c26_13] <;> decide) (by rw [c26_13] <;> decide) (by rw [c26_13] <;> rfl) (by decide) ?_
                    refine j_aload_n C dX4_count_148 0 rfl ?_
                    refine j_get C kin4 rfl 0 rfl 4 (by decide) kw_130 rfl (v := .ref pa) rfl dX4_count_149 ?_
                    refine j_get C kin2 rfl 2 rfl 1 (by decide) kw_116 rfl (v := .int (v 1)) rfl dX4_count_152 ?_
                    refine j_perm (fl [[oX a (AP 0) hi sl su pa (AT 0) (AU 0)], [oH hi ha h], cSt G AP xp, [oP pa ga v]]) (bperm [0, 1, 3, 2] 4 rfl (by decide +kernel) rfl) ?_
                    subst hQ; exact j_iret C hr hk ((show f_X4_count_r h xp v k = v 1 from ((if_neg c3).trans ((if_pos c9).trans ((if_neg c26_0).trans ((if_neg c26_1).trans ((if_neg c26_2).trans ((if_neg c26_3).trans ((if_neg c26_4).trans ((if_neg c26_5).trans (if_pos c26_13)))))))))).symm) rfl dX4_count_155
                  · by_cases c26_14 : k = 14
                    · refine j_tableIn (tgt := 156) C dX4_count_26 (by rw [c26_14] <;> decide) (by rw [c26_14] <;> decide) (by rw [c26_14] <;> rfl) (by decide) ?_
                      refine j_aload_n C dX4_count_156 0 rfl ?_
                      refine j_get C kin4 rfl 0 rfl 1 (by decide) kw_127 rfl (v := .ref hi) rfl dX4_count_157 ?_
                      refine j_get C kin1 rfl 1 rfl 2 (by decide) kw_106 rfl (v := .int (h 2)) rfl dX4_count_160 ?_
                      refine j_perm (fl [[oX a (AP 0) hi sl su pa (AT 0) (AU 0)], [oH hi ha h], cSt G AP xp, [oP pa ga v]]) (bperm [0, 1, 3, 2] 4 rfl (by decide +kernel) rfl) ?_
                      subst hQ; exact j_iret C hr hk ((show f_X4_count_r h xp v k = h 2 from ((if_neg c3).trans ((if_pos c9).trans ((if_neg c26_0).trans ((if_neg c26_1).trans ((if_neg c26_2).trans ((if_neg c26_3).trans ((if_neg c26_4).trans ((if_neg c26_5).trans ((if_neg c26_13).trans (if_pos c26_14))))))))))).symm) rfl dX4_count_163
                    · have n26_0 : (k).toInt ≠ 0 := fun h => c26_0 (Int32.toInt_inj.mp h)
                      have n26_1 : (k).toInt ≠ 1 := fun h => c26_1 (Int32.toInt_inj.mp h)
                      have n26_2 : (k).toInt ≠ 2 := fun h => c26_2 (Int32.toInt_inj.mp h)
                      have n26_3 : (k).toInt ≠ 3 := fun h => c26_3 (Int32.toInt_inj.mp h)
                      have n26_4 : (k).toInt ≠ 4 := fun h => c26_4 (Int32.toInt_inj.mp h)
                      have n26_5 : (k).toInt ≠ 5 := fun h => c26_5 (Int32.toInt_inj.mp h)
                      have n26_13 : (k).toInt ≠ 13 := fun h => c26_13 (Int32.toInt_inj.mp h)
                      have n26_14 : (k).toInt ≠ 14 := fun h => c26_14 (Int32.toInt_inj.mp h)
                      by_cases hz26 : (k).toInt < 0 ∨ 14 < (k).toInt
                      · refine j_tableOut (tgt := 164) C dX4_count_26 hz26 (by decide) ?_
                        refine j_bipush (v := (-2)) C dX4_count_164 (by decide) ?_
                        refine j_perm (fl [[oX a (AP 0) hi sl su pa (AT 0) (AU 0)], [oH hi ha h], cSt G AP xp, [oP pa ga v]]) (bperm [0, 1, 3, 2] 4 rfl (by decide +kernel) rfl) ?_
                        subst hQ; exact j_iret C hr hk ((show f_X4_count_r h xp v k = (-2) from ((if_neg c3).trans ((if_pos c9).trans ((if_neg c26_0).trans ((if_neg c26_1).trans ((if_neg c26_2).trans ((if_neg c26_3).trans ((if_neg c26_4).trans ((if_neg c26_5).trans ((if_neg c26_13).trans (if_neg c26_14))))))))))).symm) rfl dX4_count_166
                      · refine j_tableIn (off := 138) (tgt := 164) C dX4_count_26 (by omega) (by omega) (by have hm : (k).toInt = 6 ∨ (k).toInt = 7 ∨ (k).toInt = 8 ∨ (k).toInt = 9 ∨ (k).toInt = 10 ∨ (k).toInt = 11 ∨ (k).toInt = 12 := (by omega); rcases hm with hm | hm | hm | hm | hm | hm | hm <;> (rw [hm]; try rfl)) (by decide) ?_
                        refine j_bipush (v := (-2)) C dX4_count_164 (by decide) ?_
                        refine j_perm (fl [[oX a (AP 0) hi sl su pa (AT 0) (AU 0)], [oH hi ha h], cSt G AP xp, [oP pa ga v]]) (bperm [0, 1, 3, 2] 4 rfl (by decide +kernel) rfl) ?_
                        subst hQ; exact j_iret C hr hk ((show f_X4_count_r h xp v k = (-2) from ((if_neg c3).trans ((if_pos c9).trans ((if_neg c26_0).trans ((if_neg c26_1).trans ((if_neg c26_2).trans ((if_neg c26_3).trans ((if_neg c26_4).trans ((if_neg c26_5).trans ((if_neg c26_13).trans (if_neg c26_14))))))))))).symm) rfl dX4_count_166
    · refine j_aload_n C dX4_count_12 0 rfl ?_
      refine j_get C kin4 rfl 0 rfl 0 (by decide) kw_126 rfl (v := .ref (AP 0)) rfl dX4_count_13 ?_
      refine j_perm (fl [cSt G AP xp, [oX a (AP 0) hi sl su pa (AT 0) (AU 0)], [oH hi ha h], [oP pa ga v]]) (bperm [3, 0, 1, 2] 4 rfl (by decide +kernel) rfl) ?_
      refine j_w (fl [[oS (AP 0) (AP 1) (AP 2) xp.1], [aI G (AP 1) 7 xp.2.1], [aD G (AP 2) 4 (fun k => some (AP (3 + 2 * k)))], cDrs G AP xp.2.2.1 xp.2.2.2, [oX a (AP 0) hi sl su pa (AT 0) (AU 0)], [oH hi ha h], [oP pa ga v]]) rfl ?_
      refine j_perm (fl [[oS (AP 0) (AP 1) (AP 2) xp.1], [aI G (AP 1) 7 xp.2.1], [aD G (AP 2) 4 (fun k => some (AP (3 + 2 * k)))], [oX a (AP 0) hi sl su pa (AT 0) (AU 0)], [oH hi ha h], [oP pa ga v], cDrs G AP xp.2.2.1 xp.2.2.2]) (bperm [0, 1, 2, 4, 5, 6, 3] 7 rfl (by decide +kernel) rfl) ?_
      refine j_get C kin3 rfl 0 rfl 0 (by decide) kw_75 rfl (v := .ref (AP 1)) rfl dX4_count_16 ?_
      refine j_iload_n C dX4_count_19 1 rfl ?_
      refine j_bipush (v := 6) C dX4_count_20 (by decide) ?_
      refine j_isub C dX4_count_22 rfl ?_
      refine j_iald C 1 rfl (vin_m6 c3 c9) (v := xp.2.1 (k - 6).toNatClampNeg) rfl dX4_count_23 ?_
      refine j_perm (fl [[oS (AP 0) (AP 1) (AP 2) xp.1], [aI G (AP 1) 7 xp.2.1], [aD G (AP 2) 4 (fun k => some (AP (3 + 2 * k)))], cDrs G AP xp.2.2.1 xp.2.2.2, [oX a (AP 0) hi sl su pa (AT 0) (AU 0)], [oH hi ha h], [oP pa ga v]]) (bperm [0, 1, 2, 6, 3, 4, 5] 7 rfl (by decide +kernel) rfl) ?_
      refine j_w (fl [cSt G AP xp, [oX a (AP 0) hi sl su pa (AT 0) (AU 0)], [oH hi ha h], [oP pa ga v]]) rfl ?_
      refine j_perm (fl [[oX a (AP 0) hi sl su pa (AT 0) (AU 0)], [oH hi ha h], cSt G AP xp, [oP pa ga v]]) (bperm [1, 2, 0, 3] 4 rfl (by decide +kernel) rfl) ?_
      subst hQ; exact j_iret C hr hk ((show f_X4_count_r h xp v k = xp.2.1 (k - 6).toNatClampNeg from ((if_neg c3).trans (if_neg c9))).symm) rfl dX4_count_24
