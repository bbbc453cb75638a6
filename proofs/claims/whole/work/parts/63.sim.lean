/-! THE SIMULATION: cleaning up, overruns -/
noncomputable def chF1 (F : Nat → Int64) (k : Int32) : Nat → Int64 := vp_updL F (f_X5_row_r k + 7).toNatClampNeg (F (f_X5_row_r k + 7).toNatClampNeg + 1)
noncomputable def chF2 (F : Nat → Int64) (k : Int32) : Nat → Int64 := vp_updL (chF1 F k) (56 + 100 * k + (chF1 F k 0 / 60).toInt32).toNatClampNeg 3
noncomputable def chP (F : Nat → Int64) (k : Int32) : Int32 := if lg_cmp (chF2 F k 3) 0 ≤ 0 then 0 else 1
noncomputable def chF3 (F : Nat → Int64) (k : Int32) : Nat → Int64 := vp_updL (chF2 F k) 3 (chF2 F k 3 - (if chP F k = 0 then 0 else 1))
noncomputable def chF4 (F : Nat → Int64) (k : Int32) : Nat → Int64 := vp_updL (chF3 F k) 4 (chF3 F k 4 + (if chP F k = 0 then 0 else 1))
noncomputable def chM (F : Nat → Int64) (k : Int32) : Nat → Int64 := vp_updL (chF4 F k) 2 (chF4 F k 2 + (if chP F k = 0 then chF4 F k 6 else 0))
theorem cleans_11 (f : Nat → Int64) (k q : Int32) : f_X5_cleans_v11 f k q = if f_X5_cleans_x3 f k q = 0 then f_X5_cleans_v6 f k q else if q = 0 then f_X5_cleans_v6 f k q else chM (f_X5_cleans_v6 f k q) k := rfl
section CL
variable {g s v t : Nat → Int32} {hk he : Nat → Int8} {f0 f : Nat → Int64} {k e : Nat}
theorem sL.extg (L : sL g s v t hk he f0 f k e) {g' : Nat → Int32} (h : ∀ i : Nat, i < 5 → g (i + 2) = g' (i + 2)) : sL g' s v t hk he f0 f k e := ⟨L.1, L.2.1.ext h, L.2.2⟩
theorem sim_charge (L : sL g s v t hk he f0 f k e) (w : DO) (hr : 0 ≤ (g 2 / 60).toInt ∧ (g 2 / 60).toInt < 100) (v7 : 0 ≤ (v 7).toInt ∧ (v 7).toInt < 2000000000) (g4 : 0 ≤ (g 4).toInt ∧ (g 4).toInt < 2000000000) (g5 : 0 ≤ (g 5).toInt ∧ (g 5).toInt < 2000000000) (g6 : 0 ≤ (g 6).toInt ∧ (g 6).toInt < 2000000000) (s1 : 0 ≤ (s 1).toInt ∧ (s 1).toInt ≤ 99) :
    sL (f_X3_chargeOverrun_g g s w hk (g 2 / 60)) s (upd v 7 (v 7 + 1)) t (upd8 hk (g 2 / 60).toInt.toNat 3) he f0 (chM f (nI k)) k e := by
  have L1 : sL g s (upd v 7 (v 7 + 1)) t hk he f0 (chF1 f (nI k)) k e := by
    unfold chF1
    rw [L.pk (c := 7) (by decide), show (7 : Int32).toNatClampNeg = 7 by decide]
    refine L.v (j := 7) (by decide) ?_
    rw [L.rv (i := 7) (by decide), E_1, ← E_add (by rw [T_1]; omega) (by rw [T_1]; omega)]
  have ix : (56 + 100 * nI k + (chF1 f (nI k) 0 / 60).toInt32).toNatClampNeg = 56 + 100 * k + (g 2 / 60).toInt.toNat := by
    have hk4 := L.k4
    rw [L1.hr, hidx L.vk (by rw [Int32.toInt_toInt64]; exact hr.1) (by rw [Int32.toInt_toInt64]; exact hr.2), Int32.toInt_toInt64, nI_clamp (n := k) (by omega), nI_clamp (by omega)]
  have L2 : sL g s (upd v 7 (v 7 + 1)) t (upd8 hk (g 2 / 60).toInt.toNat 3) he f0 (chF2 f (nI k)) k e := by
    unfold chF2
    rw [ix]
    exact L1.h (j := (g 2 / 60).toInt.toNat) (by omega) (by decide)
  have e3 : chF2 f (nI k) 3 = (g 5).toInt64 := L2.rg (i := 3) (by decide)
  have cp : (lg_cmp (chF2 f (nI k) 3) 0 ≤ 0) ↔ g 5 ≤ 0 := by rw [e3, E_0, Ec_le]
  unfold f_X3_chargeOverrun_g f_X3_chargeOverrun_v2
  by_cases c : g 5 ≤ 0
  · have p0 : chP f (nI k) = 0 := by
      unfold chP
      rw [if_pos (cp.mpr c)]
    have f3 : chF3 f (nI k) = chF2 f (nI k) := by
      unfold chF3
      rw [p0, if_pos rfl, Int64.sub_zero, vp_same]
    have f4 : chF4 f (nI k) = chF2 f (nI k) := by
      unfold chF4
      rw [p0, if_pos rfl, Int64.add_zero, vp_same, f3]
    unfold chM
    rw [f4, p0, if_pos rfl, if_pos c]
    refine L2.g (i := 2) (by decide) ?_
    rw [show chF2 f (nI k) 2 = (g 4).toInt64 from L2.rg (i := 2) (by decide), show chF2 f (nI k) 6 = (s 1).toInt64 from L2.rs (i := 1) (by decide), ← E_add (by omega) (by omega)]
  · have p1 : chP f (nI k) = 1 := by
      unfold chP
      rw [if_neg (mt cp.mp c)]
    have c' := lt_T.mp (Int32.not_le.mp c)
    rw [T_0] at c'
    have L3 : sL (upd g 5 (g 5 - 1)) s (upd v 7 (v 7 + 1)) t (upd8 hk (g 2 / 60).toInt.toNat 3) he f0 (chF3 f (nI k)) k e := by
      unfold chF3
      rw [p1, if_neg (show ¬ (1 : Int32) = 0 by decide)]
      refine L2.g (i := 3) (by decide) ?_
      rw [e3, E_1, ← E_sub (by rw [T_1]; omega) (by rw [T_1]; omega)]
    have L4 : sL (upd (upd g 5 (g 5 - 1)) 6 (g 6 + 1)) s (upd v 7 (v 7 + 1)) t (upd8 hk (g 2 / 60).toInt.toNat 3) he f0 (chF4 f (nI k)) k e := by
      unfold chF4
      rw [p1, if_neg (show ¬ (1 : Int32) = 0 by decide)]
      refine L3.g (i := 4) (by decide) ?_
      rw [show chF3 f (nI k) 4 = (g 6).toInt64 from L3.rg (i := 4) (by decide), E_1, ← E_add (by rw [T_1]; omega) (by rw [T_1]; omega)]
    unfold chM
    rw [p1, if_neg (show ¬ (1 : Int32) = 0 by decide), Int64.add_zero, vp_same, if_neg c]
    exact L4
/-- what the class does: cleaning up, and the overrun -/
noncomputable def clV (g s : Nat → Int32) (v : DO) (hk : Nat → Int8) (q : Int32) : DO := if f_X3_cleanUp_r g s v q = 0 then f_X3_cleanUp_v g s v q else (if q = 0 then f_X3_cleanUp_v g s v q else f_X3_chargeOverrun_v g s (f_X3_cleanUp_v g s v q) hk (g 2 / 60))
noncomputable def clG (g s : Nat → Int32) (v : DO) (hk : Nat → Int8) (q : Int32) : Nat → Int32 := if f_X3_cleanUp_r g s v q = 0 then g else (if q = 0 then g else f_X3_chargeOverrun_g g s (f_X3_cleanUp_v g s v q) hk (g 2 / 60))
noncomputable def clH (g s : Nat → Int32) (v : DO) (hk : Nat → Int8) (q : Int32) : Nat → Int8 := if f_X3_cleanUp_r g s v q = 0 then hk else (if q = 0 then hk else f_X3_chargeOverrun_f g s (f_X3_cleanUp_v g s v q) hk (g 2 / 60))
theorem DI.clean {v : Nat → Int32} {H W S O : Int} {n : Int32} (h : DI v H W S O) (n0 : 0 ≤ n.toInt) (n1 : n.toInt ≤ (v 1).toInt) (hS : S ≤ 2000000000) : DI (upd (upd (upd v 1 (v 1 - n)) 0 (v 0 + n)) 6 (v 6 + 1)) H W (S + 1) O := by
  obtain ⟨a0, a1, a2, a3, a4, a5, a6, a7, a8, a9, b0, b1, b2, b3, b4, b5, b6⟩ := h
  have e0 := T_sub (x := v 1) (y := n) (by omega) (by omega)
  have e1 := T_add (x := v 0) (y := n) (by omega) (by omega)
  have e5 := T_add (x := v 6) (y := 1) (by rw [T_1]; omega) (by rw [T_1]; omega)
  rw [T_1] at e5
  show DIx (v 0 + n) (v 1 - n) (v 2) (v 3) (v 4) (v 5) (v 6 + 1) (v 7) (v 8) (v 9) H W (S + 1) O
  exact ⟨by omega, by omega, a2, by omega, a4, a5, a6, a7, a8, by omega, by omega, b1, b2, b3, b4, b5, b6⟩
theorem DI.cln {v : Nat → Int32} {H W S O : Int} {y : Int32} (h : DI v H W S O) (hy : y = 0 ∨ y = 1) : DI (upd v 4 y) H W S O := by
  obtain ⟨a0, a1, a2, a3, a4, a5, a6, a7, a8, a9, b0, b1, b2, b3, b4, b5, b6⟩ := h
  exact ⟨a0, a1, a2, a3, a4, a5, hy, a7, a8, a9, b0, b1, b2, b3, b4, b5, b6⟩
theorem DI.over {v : Nat → Int32} {H W S O : Int} (h : DI v H W S O) (hO : O ≤ 2000000000) : DI (upd v 7 (v 7 + 1)) H W S (O + 1) := by
  obtain ⟨a0, a1, a2, a3, a4, a5, a6, a7, a8, a9, b0, b1, b2, b3, b4, b5, b6⟩ := h
  have e5 := T_add (x := v 7) (y := 1) (by rw [T_1]; omega) (by rw [T_1]; omega)
  rw [T_1] at e5
  show DIx (v 0) (v 1) (v 2) (v 3) (v 4) (v 5) (v 6) (v 7 + 1) (v 8) (v 9) H W S (O + 1)
  exact ⟨a0, a1, a2, a3, a4, a5, a6, a7, a8, a9, b0, by omega, by omega, b3, b4, b5, b6⟩
theorem sim_cleans {v : DO} (L : sL g s v.1 t hk he f0 f k e) {H W S O : Int} (hv : DI v.1 H W S O) (hH : H ≤ 2000000000) (hS : S ≤ 1900000000) (hO : O ≤ 1900000000) (s1 : 0 ≤ (s 1).toInt ∧ (s 1).toInt ≤ 99) (s5 : 1 ≤ (s 5).toInt ∧ (s 5).toInt ≤ 20) (g4 : 0 ≤ (g 4).toInt ∧ (g 4).toInt < 2000000000) (g5 : 0 ≤ (g 5).toInt ∧ (g 5).toInt < 2000000000) (g6 : 0 ≤ (g 6).toInt ∧ (g 6).toInt < 2000000000) {q : Int32} (hq : q = if hsv hk (g 2 / 60).toInt = 0 then 0 else 1) :
    sL (clG g s v hk q) s (clV g s v hk q).1 t (clH g s v hk q) he f0 (f_X5_cleans_f f (nI k) q) k e ∧ DI (clV g s v hk q).1 H W (S + 1) (O + 1) ∧ (clV g s v hk q).2 = v.2 := by
  have hv' := hv
  obtain ⟨a0, a1, a2, a3, a4, a5, a6, a7, a8, a9, b0, b1, b2, b3, b4, b5, b6⟩ := hv'
  have r0 : f (f_X5_row_r (nI k) + 0).toNatClampNeg = (v.1 0).toInt64 := by rw [L.pk (c := 0) (by decide), show (0 : Int32).toNatClampNeg = 0 by decide, L.rv (i := 0) (by decide)]
  have r1 : f (f_X5_row_r (nI k) + 1).toNatClampNeg = (v.1 1).toInt64 := by rw [L.pk (c := 1) (by decide), show (1 : Int32).toNatClampNeg = 1 by decide, L.rv (i := 1) (by decide)]
  have r3 : f (f_X5_row_r (nI k) + 3).toNatClampNeg = (v.1 3).toInt64 := by rw [L.pk (c := 3) (by decide), show (3 : Int32).toNatClampNeg = 3 by decide, L.rv (i := 3) (by decide)]
  have r4 : f (f_X5_row_r (nI k) + 4).toNatClampNeg = (v.1 4).toInt64 := by rw [L.pk (c := 4) (by decide), show (4 : Int32).toNatClampNeg = 4 by decide, L.rv (i := 4) (by decide)]
  have f8 : f 8 = (s 3).toInt64 := L.rs (i := 3) (by decide)
  have f11 : f 11 = (s 6).toInt64 := L.rs (i := 6) (by decide)
  have f10 : f 10 = (s 5).toInt64 := L.rs (i := 5) (by decide)
  -- whether it wants to, whether it sounds
  have w1 : f_X5_cleans_x2 f (nI k) q = f_X3_cleanUp_x1 g s v q := by
    unfold f_X5_cleans_x2 f_X3_cleanUp_x1
    rw [r4, r0, r3, f8, f11]
    by_cases cq : q = 0
    · rw [if_pos cq, if_pos cq]
      rcases a6 with h4 | h4
      · rw [h4, if_neg (show ¬ lg_cmp (0 : Int32).toInt64 1 = 0 by decide), if_pos (show b01 0 = 0 by decide)]
        by_cases c3 : s 3 ≤ v.1 0
        · rw [if_pos (Ec_ge.mpr c3), if_pos c3]
        · rw [if_neg (mt Ec_ge.mp c3), if_neg c3]
      · rw [h4, if_pos (show lg_cmp (1 : Int32).toInt64 1 = 0 by decide), if_neg (show ¬ b01 1 = 0 by decide)]
    · rw [if_neg cq, if_neg cq]
      by_cases c3 : v.1 3 ≤ s 6
      · rw [if_pos (Ec_le.mpr c3), if_pos c3]
      · rw [if_neg (mt Ec_le.mp c3), if_neg c3]
  have w2 : f_X5_cleans_x3 f (nI k) q = f_X3_cleanUp_r g s v q := by
    unfold f_X5_cleans_x3 f_X3_cleanUp_r f_X3_cleanUp_x2
    rw [w1, r1]
    by_cases c0 : f_X3_cleanUp_x1 g s v q = 0
    · rw [if_pos c0, if_pos c0]
    · rw [if_neg c0, if_neg c0]
      have e0 := Ec_le (x := v.1 1) (y := 0)
      rw [← E_0] at e0
      by_cases c1 : v.1 1 ≤ 0
      · rw [if_pos (e0.mpr c1), if_pos c1]
      · rw [if_neg (mt e0.mp c1), if_neg c1]
  -- the drive behind the cleaning
  have A : sL g s (f_X3_cleanUp_v4 g s v q).1 t hk he f0 (f_X5_cleans_v6 f (nI k) q) k e ∧ DI (f_X3_cleanUp_v4 g s v q).1 H W (S + 1) O ∧ (f_X3_cleanUp_v4 g s v q).2 = v.2 := by
    unfold f_X5_cleans_v6 f_X3_cleanUp_v4 f_X5_cleans_fq5
    rw [w2, show f_X3_cleanUp_r g s v q = f_X3_cleanUp_x2 g s v q from rfl]
    by_cases c : f_X3_cleanUp_x2 g s v q = 0
    · rw [if_pos c, if_pos c]
      exact ⟨L, hv.mono (by omega) (by omega) (by omega) (by omega), rfl⟩
    · rw [if_neg c, if_neg c, f10, r1, E_min]
      unfold f_X0_cleanCells_v
      have hm := T_min (s 5) (v.1 1)
      generalize imin (s 5) (v.1 1) = n at hm
      have L1 := L.mvv (i := 1) (j := 0) (c := 1) (c' := 0) (by decide) (by decide) (by decide) (by decide) (by decide) (by decide) (by decide) (n := n) (N := n.toInt64) rfl ⟨by omega, by omega⟩ ⟨by omega, by omega⟩
      refine ⟨?_, hv.clean (n := n) (by omega) (by omega) (by omega), rfl⟩
      rw [L1.pk (c := 6) (by decide), show (6 : Int32).toNatClampNeg = 6 by decide]
      refine L1.v (j := 6) (by decide) ?_
      rw [L1.rv (i := 6) (by decide), show upd (upd v.1 1 (v.1 1 - n)) 0 (v.1 0 + n) 6 = v.1 6 from rfl, E_1, ← E_add (by rw [T_1]; omega) (by rw [T_1]; omega)]
  obtain ⟨A1, A2, A3⟩ := A
  have A2' := A2
  obtain ⟨x0, x1, x2, x3, x4, x5, x6, x7, x8, x9, y0, y1, y2, y3, y4, y5, y6⟩ := A2'
  -- whether it is cleaning behind the minute
  have x01 : f_X3_cleanUp_x5 g s v q = 0 ∨ f_X3_cleanUp_x5 g s v q = 1 := by
    unfold f_X3_cleanUp_x5
    (repeat' split) <;> first | exact .inl rfl | exact .inr rfl
  have B : ∀ (g1 : Nat → Int32) (v1 : Nat → Int32) (h1 : Nat → Int8) (F : Nat → Int64), sL g1 s v1 t h1 he f0 F k e → v1 0 = (f_X3_cleanUp_v4 g s v q).1 0 → v1 1 = (f_X3_cleanUp_v4 g s v q).1 1 → F = f_X5_cleans_v11 f (nI k) q → sL g1 s (upd v1 4 (f_X3_cleanUp_x5 g s v q)) t h1 he f0 (f_X5_cleans_f f (nI k) q) k e := by
    intro g1 v1 h1 F L1 e0 e1 eF
    unfold f_X5_cleans_f
    rw [← eF, L1.pk (c := 4) (by decide), show (4 : Int32).toNatClampNeg = 4 by decide]
    refine L1.v (j := 4) (by decide) ?_
    unfold f_X5_cleans_x12 f_X3_cleanUp_x5
    rw [← eF, w2, show f_X3_cleanUp_r g s v q = f_X3_cleanUp_x2 g s v q from rfl, L1.pk (c := 0) (by decide), L1.pk (c := 1) (by decide), show (0 : Int32).toNatClampNeg = 0 by decide, show (1 : Int32).toNatClampNeg = 1 by decide, L1.rv (i := 0) (by decide), L1.rv (i := 1) (by decide), show F 9 = (s 4).toInt64 from L1.rs (i := 4) (by decide), e0, e1]
    by_cases c : f_X3_cleanUp_x2 g s v q = 0
    · rw [if_pos c, if_pos c]
      decide
    · rw [if_neg c, if_neg c]
      by_cases cq : q = 0
      · rw [if_pos cq, if_pos cq]
        by_cases c4 : s 4 ≤ (f_X3_cleanUp_v4 g s v q).1 0
        · rw [if_pos (Ec_ge.mpr c4), if_pos c4]
          decide
        · rw [if_neg (mt Ec_ge.mp c4), if_neg c4]
          have e0 := Ec_le (x := (f_X3_cleanUp_v4 g s v q).1 1) (y := 0)
          rw [← E_0] at e0
          by_cases c1 : (f_X3_cleanUp_v4 g s v q).1 1 ≤ 0
          · rw [if_pos (e0.mpr c1), if_pos c1]
            decide
          · rw [if_neg (mt e0.mp c1), if_neg c1]
            decide
      · rw [if_neg cq, if_neg cq]
        decide
  have ev : f_X3_cleanUp_v g s v q = (upd (f_X3_cleanUp_v4 g s v q).1 4 (f_X3_cleanUp_x5 g s v q), (f_X3_cleanUp_v4 g s v q).2) := rfl
  unfold clG clV clH
  by_cases c : f_X3_cleanUp_r g s v q = 0
  · rw [if_pos c, if_pos c, if_pos c, ev]
    exact ⟨B _ _ _ _ A1 rfl rfl (by rw [cleans_11, w2, if_pos c]), (A2.cln x01).mono (by omega) (by omega) (by omega) (by omega), A3⟩
  · rw [if_neg c, if_neg c, if_neg c]
    by_cases cq : q = 0
    · rw [if_pos cq, if_pos cq, if_pos cq, ev]
      exact ⟨B _ _ _ _ A1 rfl rfl (by rw [cleans_11, w2, if_neg c, if_pos cq]), (A2.cln x01).mono (by omega) (by omega) (by omega) (by omega), A3⟩
    · rw [if_neg cq, if_neg cq, if_neg cq, ev]
      have hz : ¬ hsv hk (g 2 / 60).toInt = 0 := fun z => cq (by rw [hq, if_pos z])
      have hr : 0 ≤ (g 2 / 60).toInt ∧ (g 2 / 60).toInt < 100 := by
        unfold hsv at hz
        split at hz
        · assumption
        · exact absurd rfl hz
      have C := sim_charge A1 (upd (f_X3_cleanUp_v4 g s v q).1 4 (f_X3_cleanUp_x5 g s v q), (f_X3_cleanUp_v4 g s v q).2) hr ⟨by omega, by omega⟩ g4 g5 g6 s1
      have D := B _ _ _ _ C rfl rfl (by rw [cleans_11, w2, if_neg c, if_neg cq])
      have hh : f_X3_chargeOverrun_f g s (upd (f_X3_cleanUp_v4 g s v q).1 4 (f_X3_cleanUp_x5 g s v q), (f_X3_cleanUp_v4 g s v q).2) hk (g 2 / 60) = upd8 hk (g 2 / 60).toInt.toNat 3 := by
        unfold f_X3_chargeOverrun_f
        rw [mk_eq, if_pos hr]
        rfl
      rw [hh]
      refine ⟨D.extv (all10 rfl rfl rfl rfl rfl rfl rfl rfl rfl rfl), ?_, A3⟩
      exact (A2.cln x01).over (by omega)
end CL
