/-! THE SIMULATION: a drive's minute -/
def SI (s : Nat → Int32) : Prop := (0 ≤ (s 0).toInt ∧ (s 0).toInt ≤ 999) ∧ (0 ≤ (s 1).toInt ∧ (s 1).toInt ≤ 99) ∧ (0 ≤ (s 2).toInt ∧ (s 2).toInt ≤ 9) ∧ (0 ≤ (s 3).toInt ∧ (s 3).toInt ≤ 60) ∧ (0 ≤ (s 4).toInt ∧ (s 4).toInt ≤ 60) ∧ (1 ≤ (s 5).toInt ∧ (s 5).toInt ≤ 20) ∧ (0 ≤ (s 6).toInt ∧ (s 6).toInt ≤ 60)
def GI (g : Nat → Int32) (c u : Int) : Prop := (0 ≤ (g 3).toInt ∧ (g 3).toInt ≤ 999 * c) ∧ (0 ≤ (g 4).toInt ∧ (g 4).toInt ≤ 99 * c) ∧ (0 ≤ (g 5).toInt ∧ (g 5).toInt ≤ 9 * c) ∧ (0 ≤ (g 6).toInt ∧ (g 6).toInt ≤ u)
/-- how many minutes may still count -/
def lateB (m : Int) : Int := if m < 6060 then 1 else 0
section TURN
variable {g s : Nat → Int32} {v t : DO} {hk he : Nat → Int8} {f0 f : Nat → Int64} {k e : Nat}
theorem pm_13 (g s : Nat → Int32) (v t : DO) (hk he : Nat → Int8) : f_X3_passMinuteOf_v13 g s v hk t he = wrV (f_X0_takeStream_v v (f_X3_passMinuteOf_v4 g s v hk t he 2)) t (s 6) (f_X0_isQuietIn_r v hk (f_X3_hourOfNow_r g)) (f_X3_passMinuteOf_rq11 g s v hk t he) := by
  rw [f_X3_passMinuteOf_v13_eq, f_X3_passMinuteOf_vq12_eq, f_X3_passMinuteOf_v9_eq, f_X3_passMinuteOf_v8_eq, f_X3_passMinuteOf_vq7_eq, f_X3_passMinuteOf_tq7_eq, f_X3_passMinuteOf_vq6_eq]
  rfl
theorem pm_14 (g s : Nat → Int32) (v t : DO) (hk he : Nat → Int8) : f_X3_passMinuteOf_v14 g s v hk t he = wrT (f_X0_takeStream_v v (f_X3_passMinuteOf_v4 g s v hk t he 2)) t (s 6) (f_X0_isQuietIn_r v hk (f_X3_hourOfNow_r g)) (f_X3_passMinuteOf_rq11 g s v hk t he) := by
  rw [f_X3_passMinuteOf_v14_eq, f_X3_passMinuteOf_tq12_eq, f_X3_passMinuteOf_v9_eq, f_X3_passMinuteOf_v8_eq, f_X3_passMinuteOf_vq7_eq, f_X3_passMinuteOf_tq7_eq, f_X3_passMinuteOf_vq6_eq]
  rfl
theorem set_g2 (g s : Nat → Int32) (v : DO) (hk : Nat → Int8) (h q : Int32) : f_X3_settleHours_g g s v hk h q 2 = g 2 := by
  unfold f_X3_settleHours_g f_X3_settleHours_v5 f_X3_settleHours_v4
  (repeat' split) <;> rfl
theorem pm_4 (g s : Nat → Int32) (v t : DO) (hk he : Nat → Int8) : f_X3_passMinuteOf_v4 g s v hk t he = (if (g 2) - (g 2) / 60 * 60 = 0 then f_X3_settleHours_g g s v hk (f_X3_hourOfNow_r g) (f_X0_isQuietIn_r v hk (f_X3_hourOfNow_r g)) else g) := by
  rw [f_X3_passMinuteOf_v4_eq, f_X3_passMinuteOf_gq3_eq]
theorem pm_5 (g s : Nat → Int32) (v t : DO) (hk he : Nat → Int8) : f_X3_passMinuteOf_v5 g s v hk t he = (if (g 2) - (g 2) / 60 * 60 = 0 then f_X3_settleHours_f g s v hk (f_X3_hourOfNow_r g) (f_X0_isQuietIn_r v hk (f_X3_hourOfNow_r g)) else hk) := by
  rw [f_X3_passMinuteOf_v5_eq, f_X3_passMinuteOf_fq3_eq]
theorem pm_42 (g s : Nat → Int32) (v t : DO) (hk he : Nat → Int8) : f_X3_passMinuteOf_v4 g s v hk t he 2 = g 2 := by
  rw [pm_4]
  split
  · exact set_g2 _ _ _ _ _ _
  · rfl
theorem pm_v (g s : Nat → Int32) (v t : DO) (hk he : Nat → Int8) : f_X3_passMinuteOf_v18 g s v hk t he = clV (f_X3_passMinuteOf_v4 g s v hk t he) s (f_X3_passMinuteOf_v13 g s v hk t he) (f_X3_passMinuteOf_v5 g s v hk t he) (f_X0_isQuietIn_r v hk (f_X3_hourOfNow_r g)) := by
  rw [f_X3_passMinuteOf_v18_eq, f_X3_passMinuteOf_vq16_eq, f_X3_passMinuteOf_vq15_eq, f_X3_passMinuteOf_rq15_eq]
  unfold clV
  rw [pm_42]
  rfl
theorem pm_g (g s : Nat → Int32) (v t : DO) (hk he : Nat → Int8) : f_X3_passMinuteOf_g g s v hk t he = clG (f_X3_passMinuteOf_v4 g s v hk t he) s (f_X3_passMinuteOf_v13 g s v hk t he) (f_X3_passMinuteOf_v5 g s v hk t he) (f_X0_isQuietIn_r v hk (f_X3_hourOfNow_r g)) := by
  rw [f_X3_passMinuteOf_g_eq, f_X3_passMinuteOf_v17_eq, f_X3_passMinuteOf_gq16_eq, f_X3_passMinuteOf_vq15_eq, f_X3_passMinuteOf_rq15_eq]
  unfold clG
  rw [pm_42]
  rfl
theorem pm_f (g s : Nat → Int32) (v t : DO) (hk he : Nat → Int8) : f_X3_passMinuteOf_f g s v hk t he = clH (f_X3_passMinuteOf_v4 g s v hk t he) s (f_X3_passMinuteOf_v13 g s v hk t he) (f_X3_passMinuteOf_v5 g s v hk t he) (f_X0_isQuietIn_r v hk (f_X3_hourOfNow_r g)) := by
  rw [f_X3_passMinuteOf_f_eq, f_X3_passMinuteOf_v19_eq, f_X3_passMinuteOf_fq16_eq, f_X3_passMinuteOf_vq15_eq, f_X3_passMinuteOf_rq15_eq]
  unfold clH
  rw [pm_42]
  rfl
theorem pm_r (g s : Nat → Int32) (v t : DO) (hk he : Nat → Int8) : f_X3_passMinuteOf_r g s v hk t he = if f_X3_cleanUp_r (f_X3_passMinuteOf_v4 g s v hk t he) s (f_X3_passMinuteOf_v13 g s v hk t he) (f_X0_isQuietIn_r v hk (f_X3_hourOfNow_r g)) = 0 then 0 else if f_X0_isQuietIn_r v hk (f_X3_hourOfNow_r g) = 0 then 0 else 1 := by
  rw [f_X3_passMinuteOf_r_eq, f_X3_passMinuteOf_x20_eq, f_X3_passMinuteOf_rq15_eq]
/-- the hours behind the settling -/
theorem set_H (hn : 0 ≤ (g 2).toInt) (hI : HI hk (g 2).toInt) : HI (f_X3_passMinuteOf_v5 g s v hk t he) (g 2).toInt ∧ hsv (f_X3_passMinuteOf_v5 g s v hk t he) (g 2 / 60).toInt = hsv hk (g 2 / 60).toInt := by
  rw [pm_5]
  by_cases c : g 2 - g 2 / 60 * 60 = 0
  · rw [if_pos c]
    unfold f_X3_settleHours_f f_X3_settleHours_v3 f_X3_hourOfNow_r
    rw [hs_eq]
    by_cases c2 : hsv hk (g 2 / 60 - 1).toInt = 1
    · rw [if_pos c2]
      have hd : (g 2 / 60).toInt = (g 2).toInt / 60 := T_div hn (by decide)
      have hlt := (g 2).toInt_lt
      have hd1 : (g 2 / 60 - 1).toInt = (g 2).toInt / 60 - 1 := by rw [T_sub (by rw [T_1]; omega) (by rw [T_1]; omega), hd, T_1]
      have hr : 0 ≤ (g 2 / 60 - 1).toInt ∧ (g 2 / 60 - 1).toInt < 100 := by
        unfold hsv at c2
        split at c2
        · assumption
        · exact absurd c2 (by decide)
      rw [mk_eq, if_pos hr]
      refine ⟨hI.mark hr (by decide) (fun h => ?_), ?_⟩
      · omega
      · rw [hsv_mk hr, if_neg (by omega)]
    · rw [if_neg c2]
      exact ⟨hI, rfl⟩
  · rw [if_neg c]
    exact ⟨hI, rfl⟩
theorem set_G (hn : 0 ≤ (g 2).toInt) (hI : HI hk (g 2).toInt) {c u : Int} (hg : GI g c u) (hc : 0 ≤ c ∧ c ≤ 1000000) (hs : SI s) : GI (f_X3_passMinuteOf_v4 g s v hk t he) (c + lateB (g 2).toInt) u := by
  have hb : 0 ≤ lateB (g 2).toInt := by unfold lateB; split <;> omega
  have hg' := hg
  obtain ⟨⟨a1, a2⟩, ⟨b1, b2⟩, ⟨c1, c2⟩, d⟩ := hg'
  have s0 := hs.1
  have s2 := hs.2.2.1
  have M : GI g (c + lateB (g 2).toInt) u := ⟨⟨a1, by omega⟩, ⟨b1, by omega⟩, ⟨c1, by omega⟩, d⟩
  have hd : (g 2 / 60).toInt = (g 2).toInt / 60 := T_div hn (by decide)
  have hlt := (g 2).toInt_lt
  have hd1 : (g 2 / 60 - 1).toInt = (g 2).toInt / 60 - 1 := by rw [T_sub (by rw [T_1]; omega) (by rw [T_1]; omega), hd, T_1]
  have inr : ∀ y : Int, ¬ hsv hk y = 0 → 0 ≤ y ∧ y < 100 := fun y h => by
    unfold hsv at h
    split at h
    · assumption
    · exact absurd rfl h
  rw [pm_4]
  by_cases cf : g 2 - g 2 / 60 * 60 = 0
  · rw [if_pos cf]
    unfold f_X3_settleHours_g f_X3_settleHours_v5 f_X3_hourOfNow_r
    rw [qi_eq]
    have N : GI (f_X3_settleHours_v4 g s v hk (g 2 / 60) (if hsv hk (g 2 / 60).toInt = 0 then 0 else 1)) (c + lateB (g 2).toInt) u ∧ f_X3_settleHours_v4 g s v hk (g 2 / 60) (if hsv hk (g 2 / 60).toInt = 0 then 0 else 1) 3 = g 3 := by
      unfold f_X3_settleHours_v4
      rw [hs_eq]
      by_cases c2 : hsv hk (g 2 / 60 - 1).toInt = 1
      · rw [if_pos c2]
        have := inr _ (show ¬ hsv hk (g 2 / 60 - 1).toInt = 0 by rw [c2]; decide)
        have e5 := T_add (x := g 5) (y := s 2) (by omega) (by omega)
        refine ⟨⟨⟨a1, (show (g 3).toInt ≤ 999 * (c + lateB (g 2).toInt) by omega)⟩, ⟨b1, (show (g 4).toInt ≤ 99 * (c + lateB (g 2).toInt) by omega)⟩, ?_, d⟩, rfl⟩
        show 0 ≤ (g 5 + s 2).toInt ∧ (g 5 + s 2).toInt ≤ _
        unfold lateB
        rw [if_pos (by omega)]
        omega
      · rw [if_neg c2]
        exact ⟨M, rfl⟩
    generalize f_X3_settleHours_v4 g s v hk (g 2 / 60) (if hsv hk (g 2 / 60).toInt = 0 then 0 else 1) = w at N
    obtain ⟨N, e3⟩ := N
    by_cases c0 : hsv hk (g 2 / 60).toInt = 0
    · rw [if_pos c0, if_pos rfl]
      exact N
    · rw [if_neg c0, if_neg (by decide)]
      have := inr _ c0
      have e := T_add (x := w 3) (y := s 0) (by rw [e3]; omega) (by rw [e3]; omega)
      refine ⟨?_, N.2.1, N.2.2.1, N.2.2.2⟩
      show 0 ≤ (w 3 + s 0).toInt ∧ (w 3 + s 0).toInt ≤ _
      unfold lateB
      rw [if_pos (by omega)]
      have e' : (w 3 + s 0).toInt = (g 3).toInt + (s 0).toInt := by rw [e, e3]
      omega
  · rw [if_neg cf]
    exact M
theorem cl_G {w : Nat → Int32} (hn : 0 ≤ (w 2).toInt) {c u : Int} (hg : GI w (c + lateB (w 2).toInt) u) (hb4 : (w 4).toInt ≤ 99 * c) (hc : 0 ≤ c ∧ c ≤ 1000000) (hu : u ≤ 2000000000) (hs : SI s) {q : Int32} (hq : q = if hsv hk (w 2 / 60).toInt = 0 then 0 else 1) : GI (clG w s v hk q) (c + lateB (w 2).toInt) (u + 1) ∧ clG w s v hk q 2 = w 2 := by
  obtain ⟨⟨a1, a2⟩, ⟨b1, b2⟩, ⟨c1, c2⟩, ⟨d1, d2⟩⟩ := hg
  have s1 := hs.2.1
  have M : GI w (c + lateB (w 2).toInt) (u + 1) := ⟨⟨a1, a2⟩, ⟨b1, b2⟩, ⟨c1, c2⟩, ⟨d1, by omega⟩⟩
  unfold clG
  by_cases x1 : f_X3_cleanUp_r w s v q = 0
  · rw [if_pos x1]
    exact ⟨M, rfl⟩
  · rw [if_neg x1]
    by_cases x2 : q = 0
    · rw [if_pos x2]
      exact ⟨M, rfl⟩
    · rw [if_neg x2]
      have hz : ¬ hsv hk (w 2 / 60).toInt = 0 := fun z => x2 (by rw [hq, if_pos z])
      have hr : 0 ≤ (w 2 / 60).toInt ∧ (w 2 / 60).toInt < 100 := by
        unfold hsv at hz
        split at hz
        · assumption
        · exact absurd rfl hz
      have hd : (w 2 / 60).toInt = (w 2).toInt / 60 := T_div hn (by decide)
      have lb : lateB (w 2).toInt = 1 := by
        unfold lateB
        rw [if_pos (by omega)]
      rw [lb] at a2 b2 c2 M ⊢
      unfold f_X3_chargeOverrun_g f_X3_chargeOverrun_v2
      by_cases x3 : w 5 ≤ 0
      · rw [if_pos x3]
        have e := T_add (x := w 4) (y := s 1) (by omega) (by omega)
        refine ⟨⟨⟨a1, a2⟩, ?_, ⟨c1, c2⟩, ⟨d1, (show (w 6).toInt ≤ u + 1 by omega)⟩⟩, rfl⟩
        show 0 ≤ (w 4 + s 1).toInt ∧ (w 4 + s 1).toInt ≤ _
        omega
      · rw [if_neg x3]
        have x3' := lt_T.mp (Int32.not_le.mp x3)
        rw [T_0] at x3'
        have e5 := T_sub (x := w 5) (y := 1) (by rw [T_1]; omega) (by rw [T_1]; omega)
        have e6 := T_add (x := w 6) (y := 1) (by rw [T_1]; omega) (by rw [T_1]; omega)
        rw [T_1] at e5 e6
        refine ⟨⟨⟨a1, a2⟩, ⟨b1, b2⟩, ?_, ?_⟩, rfl⟩
        · show 0 ≤ (w 5 - 1).toInt ∧ (w 5 - 1).toInt ≤ _
          omega
        · show 0 ≤ (w 6 + 1).toInt ∧ (w 6 + 1).toInt ≤ _
          omega
theorem set_4 (g s : Nat → Int32) (v t : DO) (hk he : Nat → Int8) : f_X3_passMinuteOf_v4 g s v hk t he 4 = g 4 ∧ f_X3_passMinuteOf_v4 g s v hk t he 6 = g 6 := by
  rw [pm_4]
  unfold f_X3_settleHours_g f_X3_settleHours_v5 f_X3_settleHours_v4
  (repeat' split) <;> exact ⟨rfl, rfl⟩
theorem cl_H {w : Nat → Int32} (hn : 0 ≤ (w 2).toInt) (hI : HI hk (w 2).toInt) (q : Int32) : HI (clH w s v hk q) ((w 2).toInt + 1) := by
  unfold clH
  split
  · exact hI.mono (by omega)
  · split
    · exact hI.mono (by omega)
    · unfold f_X3_chargeOverrun_f
      rw [mk_eq]
      split
      · rename_i hr
        have hd : (w 2 / 60).toInt = (w 2).toInt / 60 := T_div hn (by decide)
        exact (hI.mono (by omega)).mark hr (by decide) (fun h => by omega)
      · exact hI.mono (by omega)
theorem st_DI {v : DO} {H W S O : Int} (h : DI v.1 H W S O) (hH : H ≤ 2000000000) (m : Int32) : DI (f_X0_takeStream_v v m).1 (H + 20) W S O ∧ (f_X0_takeStream_v v m).2 = v.2 := by
  unfold f_X0_takeStream_v f_X0_takeStream_v1
  have h' := h
  obtain ⟨a0, a1, a2, a3, a4, a5, a6, a7, a8, a9, b0, b1, b2, b3, b4, b5, b6⟩ := h'
  split
  · exact ⟨h.mono (by omega) (by omega) (by omega) (by omega), rfl⟩
  · split
    · have e := T_add (x := v.1 3) (y := v.1 9) (by omega) (by omega)
      exact ⟨h.held (y := v.1 3 + v.1 9) (by omega) (by omega), rfl⟩
    · exact ⟨h.mono (by omega) (by omega) (by omega) (by omega), rfl⟩
/-- a drive's minute: the class's is the model's, and all stays in its ranges -/
theorem sim_turn (L : sL g s v.1 t.1 hk he f0 f k e) (hx : nI k ^^^ 1 = nI e) {H W S O H' W' S' O' m c u : Int} (hv : DI v.1 H W S O) (ht : DI t.1 H' W' S' O') (hH : H ≤ 1800000000) (hW : W ≤ 1800000000) (hS : S ≤ 1800000000) (hO : O ≤ 1800000000) (hs : SI s) (hn : 0 ≤ (g 2).toInt) (hI : HI hk (g 2).toInt) (hIe : HI he m) (hg : GI g c u) (hc : 0 ≤ c ∧ c ≤ 1000000) (hu : u ≤ 1800000000) :
    sL (f_X3_passMinuteOf_g g s v hk t he) s (f_X3_passMinuteOf_v g s v hk t he).1 (f_X3_passMinuteOf_tv g s v hk t he).1 (f_X3_passMinuteOf_f g s v hk t he) he f0 (dayM f (nI k)) k e ∧ DI (f_X3_passMinuteOf_v g s v hk t he).1 (H + 20) (W + 120) (S + 1) (O + 1) ∧ DI (f_X3_passMinuteOf_tv g s v hk t he).1 H' W' S' O' ∧ (f_X3_passMinuteOf_v g s v hk t he).2 = v.2 + ((f_X3_passMinuteOf_v g s v hk t he).1 3).toInt64 ∧ (f_X3_passMinuteOf_tv g s v hk t he).2 = t.2 ∧ f_X3_passMinuteOf_g g s v hk t he 2 = g 2 ∧ HI (f_X3_passMinuteOf_f g s v hk t he) ((g 2).toInt + 1) ∧ GI (f_X3_passMinuteOf_g g s v hk t he) (c + lateB (g 2).toInt) (u + 1) := by
  obtain ⟨h1, h2⟩ := set_H (s := s) (v := v) (t := t) (he := he) hn hI
  have G1 := set_G (s := s) (v := v) (t := t) (he := he) hn hI hg hc hs
  obtain ⟨e4, e6⟩ := set_4 g s v t hk he
  have e2 := pm_42 g s v t hk he
  have hq : f_X0_isQuietIn_r v hk (f_X3_hourOfNow_r g) = if hsv (f_X3_passMinuteOf_v5 g s v hk t he) (f_X3_passMinuteOf_v4 g s v hk t he 2 / 60).toInt = 0 then 0 else 1 := by
    rw [qi_eq, e2, h2]
    rfl
  have hqe : f_X3_passMinuteOf_rq11 g s v hk t he = if hsv he (f_X3_passMinuteOf_v4 g s v hk t he 2 / 60).toInt = 0 then 0 else 1 := by
    rw [f_X3_passMinuteOf_rq11_eq, qi_eq, e2]
    rfl
  obtain ⟨p3, p4, p5, p6⟩ := hg
  have L1 := sim_settle L v hn hI ⟨p3.1, by omega⟩ ⟨p5.1, by omega⟩ hs.1 hs.2.2.1
  rw [← pm_4 g s v t hk he, ← pm_5 g s v t hk he] at L1
  have hv8 : 1 ≤ (v.1 8).toInt := hv.2.2.2.2.2.2.2.2.2.2.2.2.2.1
  have hv9 : 0 ≤ (v.1 9).toInt ∧ (v.1 9).toInt ≤ 20 := hv.2.2.2.2.2.2.2.2.2.2.2.2.2.2.2
  have hv3 : 0 ≤ (v.1 3).toInt ∧ (v.1 3).toInt ≤ H := ⟨hv.2.2.2.2.1, hv.2.2.2.2.2.1⟩
  have L2 := sim_stream L1 v.2 (by rw [e2]; exact hn) hv8 ⟨hv3.1, by omega⟩ hv9
  obtain ⟨D2, D2'⟩ := st_DI hv (by omega) (f_X3_passMinuteOf_v4 g s v hk t he 2)
  have q2 : f_X5_isQuiet_r (dayS f (nI k)) (nI k) = f_X0_isQuietIn_r v hk (f_X3_hourOfNow_r g) := by
    rw [hq]
    exact isQ_eq (m := (g 2).toInt) L2.2.2.2.2.2.1 L2.k4 L2.hr h1
  obtain ⟨L3, D3, T3, z3, zt3⟩ := sim_writes (v := f_X0_takeStream_v v (f_X3_passMinuteOf_v4 g s v hk t he 2)) L2 hx D2 ht (by omega) (by omega) hs.2.2.2.2.2.2 hIe (q := f_X0_isQuietIn_r v hk (f_X3_hourOfNow_r g)) hqe
  rw [← pm_13 g s v t hk he] at L3 D3 z3
  rw [← pm_14 g s v t hk he] at L3 T3 zt3
  obtain ⟨q3, q4, q5, q6⟩ := G1
  have lb : lateB (g 2).toInt ≤ 1 := by unfold lateB; split <;> omega
  obtain ⟨L4, D4, z4⟩ := sim_cleans L3 D3 (by omega) (by omega) (by omega) hs.2.1 hs.2.2.2.2.2.1 ⟨by rw [e4]; exact p4.1, by rw [e4]; omega⟩ ⟨q5.1, by omega⟩ ⟨by rw [e6]; exact p6.1, by rw [e6]; omega⟩ hq
  have lb0 : 0 ≤ lateB (g 2).toInt := by unfold lateB; split <;> omega
  obtain ⟨g1, g2⟩ := cl_G (s := s) (v := f_X3_passMinuteOf_v13 g s v hk t he) (hk := f_X3_passMinuteOf_v5 g s v hk t he) (w := f_X3_passMinuteOf_v4 g s v hk t he) (by rw [e2]; exact hn) (c := c) (u := u) (by rw [e2]; exact ⟨q3, q4, q5, q6⟩) (by rw [e4]; exact p4.2) hc (by omega) hs hq
  have hh := cl_H (s := s) (v := f_X3_passMinuteOf_v13 g s v hk t he) (hk := f_X3_passMinuteOf_v5 g s v hk t he) (w := f_X3_passMinuteOf_v4 g s v hk t he) (by rw [e2]; exact hn) (by rw [e2]; exact h1) (f_X0_isQuietIn_r v hk (f_X3_hourOfNow_r g))
  rw [← pm_v g s v t hk he, ← pm_g g s v t hk he, ← pm_f g s v t hk he] at L4
  rw [← pm_v g s v t hk he] at D4 z4
  rw [← pm_g g s v t hk he] at g1 g2
  rw [← pm_f g s v t hk he] at hh
  rw [e2] at g1 g2 hh
  have tv : f_X3_passMinuteOf_tv g s v hk t he = f_X3_passMinuteOf_v14 g s v hk t he := f_X3_passMinuteOf_tv_eq g s v hk t he
  have vv := f_X3_passMinuteOf_v_eq g s v hk t he
  have v1 : (f_X3_passMinuteOf_v g s v hk t he).1 = (f_X3_passMinuteOf_v18 g s v hk t he).1 := by rw [vv]
  have v2 : (f_X3_passMinuteOf_v g s v hk t he).2 = (f_X3_passMinuteOf_v18 g s v hk t he).2 + ((f_X3_passMinuteOf_v18 g s v hk t he).1 3).toInt64 := by rw [vv]
  rw [tv, v1, v2]
  refine ⟨?_, D4, T3, ?_, zt3, g2, hh, g1⟩
  · unfold dayM dayW
    rw [q2]
    exact L4
  · rw [z4, z3, D2']
end TURN
