/-! A DRIVE'S TURN, whole -/
/-- an overrun or none, paid by a credit or fined -/
def MON (g g' s v v' : Nat → Int32) : Prop := ∃ o p : Nat, p ≤ o ∧ o ≤ 1 ∧ v' 7 = v 7 + nI o ∧ g' 6 = g 6 + nI p ∧ g' 4 = g 4 + nI (o - p) * s 1
section TW
variable {g s : Nat → Int32} {v t : DO} {hk he : Nat → Int8} {n c : Int}
theorem set_5 (hs : SI s) (hc : 0 ≤ (g 5).toInt ∧ (g 5).toInt ≤ c) (hcc : c ≤ 100000000) : 0 ≤ (f_X3_passMinuteOf_v4 g s v hk t he 5).toInt ∧ (f_X3_passMinuteOf_v4 g s v hk t he 5).toInt ≤ c + 9 := by
  have s2 := hs.2.2.1
  have e := T_add (x := g 5) (y := s 2) (by omega) (by omega)
  have A : 0 ≤ (g 5 + s 2).toInt ∧ (g 5 + s 2).toInt ≤ c + 9 := by omega
  have B : 0 ≤ (g 5).toInt ∧ (g 5).toInt ≤ c + 9 := by omega
  rw [pm_4]
  unfold f_X3_settleHours_g f_X3_settleHours_v5 f_X3_settleHours_v4
  (repeat' split) <;> first | exact A | exact B
theorem tt_eq {a b : Nat → Int32} (h2 : a 2 = b 2) (h3 : a 3 = b 3) (h5 : a 5 = b 5) : tt a = tt b := by
  unfold tt
  rw [h2, h3, h5]
theorem mon_0 {w : Nat → Int32} {a b : Nat → Int32} (h7 : b 7 = a 7) (h6 : w 6 = g 6) (h4 : w 4 = g 4) : MON g w s a b := by
  refine ⟨0, 0, by omega, by omega, ?_, ?_, ?_⟩
  · rw [h7, show nI 0 = 0 from rfl, Int32.add_zero]
  · rw [h6, show nI 0 = 0 from rfl, Int32.add_zero]
  · rw [h4, show nI (0 - 0) = 0 from rfl, Int32.zero_mul, Int32.add_zero]
theorem turn_D {H W S O : Int} (hn : (g 2).toInt = n) (h0 : 0 ≤ n ∧ n ≤ 100000) (hs : SI s) (V : DRV v.1 hk n) (T : DI t.1 H W S O) (hc : 0 ≤ (g 5).toInt ∧ (g 5).toInt ≤ c) (hcc : c ≤ 100000000) :
    DRV (f_X3_passMinuteOf_v g s v hk t he).1 (f_X3_passMinuteOf_f g s v hk t he) (n + 1) ∧ DI (f_X3_passMinuteOf_tv g s v hk t he).1 H W S O ∧ f_X3_passMinuteOf_g g s v hk t he 2 = g 2 ∧ (0 ≤ (f_X3_passMinuteOf_g g s v hk t he 5).toInt ∧ (f_X3_passMinuteOf_g g s v hk t he 5).toInt ≤ c + 9) ∧ tt (f_X3_passMinuteOf_v g s v hk t he).1 + tt (f_X3_passMinuteOf_tv g s v hk t he).1 = tt v.1 + tt t.1 + (if g 2 - g 2 / v.1 8 * v.1 8 = 0 then v.1 9 else 0) ∧ (f_X3_passMinuteOf_v g s v hk t he).1 8 = v.1 8 ∧ (f_X3_passMinuteOf_v g s v hk t he).1 9 = v.1 9 ∧ MON g (f_X3_passMinuteOf_g g s v hk t he) s v.1 (f_X3_passMinuteOf_v g s v hk t he).1 := by
  obtain ⟨D, I, V76, V37, Q⟩ := V
  obtain ⟨h1, h2⟩ := set_H (s := s) (v := v) (t := t) (he := he) (g := g) (hk := hk) (by omega) (by rw [hn]; exact I)
  obtain ⟨k1, k2⟩ := set_D (s := s) (v := v) (t := t) (he := he) hn h0.1 I Q
  obtain ⟨e4, e6⟩ := set_4 g s v t hk he
  have e2 := pm_42 g s v t hk he
  have e5 := set_5 (v := v) (t := t) (hk := hk) (he := he) hs hc hcc
  have h8 : ¬ v.1 8 ≤ 0 := fun h => by
    have := le_T.mp h
    rw [T_0] at this
    have := D.2.2.2.2.2.2.2.2.2.2.2.2.2.1
    omega
  have D2 := (st_DI D (by omega) (f_X3_passMinuteOf_v4 g s v hk t he 2)).1
  obtain ⟨D3, T3⟩ := wr_DI D2 T (by omega) (by omega) hs.2.2.2.2.2.2 (f_X0_isQuietIn_r v hk (f_X3_hourOfNow_r g)) (f_X3_passMinuteOf_rq11 g s v hk t he)
  have tot := tt_wr (f_X0_takeStream_v v (f_X3_passMinuteOf_v4 g s v hk t he 2)) t (s 6) (f_X0_isQuietIn_r v hk (f_X3_hourOfNow_r g)) (f_X3_passMinuteOf_rq11 g s v hk t he)
  rw [tt_stream _ _ h8] at tot
  have oth : ∀ j : Nat, ¬ j = 0 ∧ ¬ j = 1 ∧ ¬ j = 3 ∧ ¬ j = 5 → (f_X3_passMinuteOf_v13 g s v hk t he).1 j = v.1 j := fun j hj => by
    rw [pm_13, wrV_oth _ _ _ _ _ hj, st_oth _ _ hj.2.2.1]
  rw [← pm_13 g s v t hk he] at D3 tot
  rw [← pm_14 g s v t hk he] at T3 tot
  rw [e2] at tot
  have tv : f_X3_passMinuteOf_tv g s v hk t he = f_X3_passMinuteOf_v14 g s v hk t he := f_X3_passMinuteOf_tv_eq g s v hk t he
  have v1 : (f_X3_passMinuteOf_v g s v hk t he).1 = (f_X3_passMinuteOf_v18 g s v hk t he).1 := by rw [f_X3_passMinuteOf_v_eq g s v hk t he]
  rw [tv, v1, pm_v, pm_g, pm_f]
  have u6 := oth 6 (by decide)
  have u7 := oth 7 (by decide)
  have u8 := oth 8 (by decide)
  have u9 := oth 9 (by decide)
  generalize f_X3_passMinuteOf_v4 g s v hk t he = w at *
  generalize f_X3_passMinuteOf_v13 g s v hk t he = u at *
  generalize f_X3_passMinuteOf_v14 g s v hk t he = tv' at *
  generalize f_X3_passMinuteOf_v5 g s v hk t he = k at *
  generalize f_X0_isQuietIn_r v hk (f_X3_hourOfNow_r g) = q
  have hw2 : (w 2).toInt = n := by rw [e2, hn]
  have hk' : HI k n := by rw [hn] at h1; exact h1
  have s5 := hs.2.2.2.2.2.1
  have c7 : (f_X3_cleanUp_v w s u q).1 7 = v.1 7 := by rw [cu_oth _ _ _ _ (by decide), u7]
  have c8 : (f_X3_cleanUp_v w s u q).1 8 = v.1 8 := by rw [cu_oth _ _ _ _ (by decide), u8]
  have c9 : (f_X3_cleanUp_v w s u q).1 9 = v.1 9 := by rw [cu_oth _ _ _ _ (by decide), u9]
  have ct : tt (f_X3_cleanUp_v w s u q).1 = tt u.1 := tt_eq (cu_oth _ _ _ _ (by decide)) (cu_oth _ _ _ _ (by decide)) (cu_oth _ _ _ _ (by decide))
  have tot' : tt (f_X3_cleanUp_v w s u q).1 + tt tv'.1 = tt v.1 + tt t.1 + (if g 2 - g 2 / v.1 8 * v.1 8 = 0 then v.1 9 else 0) := by
    rw [ct, tot]
    grind
  have b6 : 0 ≤ (v.1 6).toInt ∧ (v.1 6).toInt ≤ n := ⟨D.2.2.2.2.2.2.2.2.2.1, D.2.2.2.2.2.2.2.2.2.2.1⟩
  have b7 : 0 ≤ (v.1 7).toInt ∧ (v.1 7).toInt ≤ n := ⟨D.2.2.2.2.2.2.2.2.2.2.2.1, D.2.2.2.2.2.2.2.2.2.2.2.2.1⟩
  unfold clV clG clH
  rcases cu_DI (g := w) D3 (by omega) s5 q with ⟨r0, F, f6⟩ | ⟨r1, F, f6⟩
  · rw [if_pos r0, if_pos r0, if_pos r0]
    refine ⟨⟨F.mono (by omega) (by omega) (by omega) (by omega), hk'.mono (by omega), ?_, ?_, k2⟩, T3, e2, e5, tot', c8, c9, mon_0 c7 e6 e4⟩
    · rw [c7, f6, u6]
      exact V76
    · rw [c7, k1]
      exact V37
  · rw [if_neg r1, if_neg r1, if_neg r1]
    have t6 := T_add (x := v.1 6) (y := 1) (by rw [T_1]; omega) (by rw [T_1]; omega)
    rw [T_1] at t6
    by_cases q0 : q = 0
    · rw [if_pos q0, if_pos q0, if_pos q0]
      refine ⟨⟨F.mono (by omega) (by omega) (by omega) (by omega), hk'.mono (by omega), ?_, ?_, k2⟩, T3, e2, e5, tot', c8, c9, mon_0 c7 e6 e4⟩
      · rw [c7, f6, u6, t6]
        omega
      · rw [c7, k1]
        exact V37
    · rw [if_neg q0, if_neg q0, if_neg q0]
      have t7 := T_add (x := v.1 7) (y := 1) (by rw [T_1]; omega) (by rw [T_1]; omega)
      rw [T_1] at t7
      obtain ⟨m1, m2⟩ := over_D (f_X3_cleanUp_v w s u q) hw2 h0.1 k2
      have hh : HI (f_X3_chargeOverrun_f w s (f_X3_cleanUp_v w s u q) k (w 2 / 60)) (n + 1) := by
        unfold f_X3_chargeOverrun_f
        rw [mk_eq]
        split
        · rename_i hr
          have hd : (w 2 / 60).toInt = (w 2).toInt / 60 := T_div (by omega) (by decide)
          exact (hk'.mono (by omega)).mark hr (by decide) (fun h => by omega)
        · exact hk'.mono (by omega)
      have c71 : (f_X3_chargeOverrun_v w s (f_X3_cleanUp_v w s u q) k (w 2 / 60)).1 7 = v.1 7 + 1 := by
        show (f_X3_cleanUp_v w s u q).1 7 + 1 = _
        rw [c7]
      have G : f_X3_chargeOverrun_g w s (f_X3_cleanUp_v w s u q) k (w 2 / 60) 2 = g 2 ∧ (0 ≤ (f_X3_chargeOverrun_g w s (f_X3_cleanUp_v w s u q) k (w 2 / 60) 5).toInt ∧ (f_X3_chargeOverrun_g w s (f_X3_cleanUp_v w s u q) k (w 2 / 60) 5).toInt ≤ c + 9) ∧ ∃ p : Nat, p ≤ 1 ∧ f_X3_chargeOverrun_g w s (f_X3_cleanUp_v w s u q) k (w 2 / 60) 6 = g 6 + nI p ∧ f_X3_chargeOverrun_g w s (f_X3_cleanUp_v w s u q) k (w 2 / 60) 4 = g 4 + nI (1 - p) * s 1 := by
        unfold f_X3_chargeOverrun_g f_X3_chargeOverrun_v2
        by_cases x3 : w 5 ≤ 0
        · rw [if_pos x3]
          refine ⟨e2, e5, 0, by omega, ?_, ?_⟩
          · show w 6 = _
            rw [e6, show nI 0 = 0 from rfl, Int32.add_zero]
          · show w 4 + s 1 = _
            rw [e4, show nI (1 - 0) = 1 from rfl, Int32.one_mul]
        · rw [if_neg x3]
          have x3' := lt_T.mp (Int32.not_le.mp x3)
          rw [T_0] at x3'
          have e5' := T_sub (x := w 5) (y := 1) (by rw [T_1]; omega) (by rw [T_1]; omega)
          rw [T_1] at e5'
          refine ⟨e2, ?_, 1, by omega, ?_, ?_⟩
          · show 0 ≤ (w 5 - 1).toInt ∧ (w 5 - 1).toInt ≤ c + 9
            omega
          · show w 6 + 1 = _
            rw [e6]
            rfl
          · show w 4 = _
            rw [e4, show nI (1 - 1) = 0 from rfl, Int32.zero_mul, Int32.add_zero]
      obtain ⟨G2, G5, p, hp, G6, G4⟩ := G
      refine ⟨⟨(F.over (by omega)).mono (by omega) (by omega) (by omega) (by omega), hh, ?_, ?_, m2⟩, T3, G2, G5, tot', c8, c9, ⟨1, p, hp, by omega, c71, G6, G4⟩⟩
      · rw [c71, t7]
        show _ ≤ ((f_X3_cleanUp_v w s u q).1 6).toInt
        rw [f6, u6, t6]
        omega
      · rw [c71, t7]
        omega
end TW
