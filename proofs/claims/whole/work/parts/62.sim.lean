/-! THE SIMULATION: what is lent, taken back, written -/
def DIx (a0 a1 a2 a3 a4 a5 a6 a7 a8 a9 : Int32) (H W S O : Int) : Prop := 0 ≤ a0.toInt ∧ 0 ≤ a1.toInt ∧ 0 ≤ a2.toInt ∧ a0.toInt + a1.toInt + a2.toInt = 60 ∧ 0 ≤ a3.toInt ∧ a3.toInt ≤ H ∧ (a4 = 0 ∨ a4 = 1) ∧ 0 ≤ a5.toInt ∧ a5.toInt ≤ W ∧ 0 ≤ a6.toInt ∧ a6.toInt ≤ S ∧ 0 ≤ a7.toInt ∧ a7.toInt ≤ O ∧ 1 ≤ a8.toInt ∧ a8.toInt ≤ 60 ∧ 0 ≤ a9.toInt ∧ a9.toInt ≤ 20
/-- a drive's numbers are in their ranges -/
def DI (v : Nat → Int32) (H W S O : Int) : Prop := DIx (v 0) (v 1) (v 2) (v 3) (v 4) (v 5) (v 6) (v 7) (v 8) (v 9) H W S O
theorem DI.mono {v : Nat → Int32} {H W S O H' W' S' O' : Int} (h : DI v H W S O) (h1 : H ≤ H') (h2 : W ≤ W') (h3 : S ≤ S') (h4 : O ≤ O') : DI v H' W' S' O' := by
  obtain ⟨a0, a1, a2, a3, a4, a5, a6, a7, a8, a9, b0, b1, b2, b3, b4, b5, b6⟩ := h
  exact ⟨a0, a1, a2, a3, a4, by omega, a6, a7, by omega, a9, by omega, b1, by omega, b3, b4, b5, b6⟩
theorem DI.fill {v : Nat → Int32} {H W S O : Int} {n : Int32} (h : DI v H W S O) (n0 : 0 ≤ n.toInt) (n1 : n.toInt ≤ (v 0).toInt) (hW : W ≤ 2000000000) : DI (upd (upd (upd v 0 (v 0 - n)) 1 (v 1 + n)) 5 (v 5 + n)) H (W + 60) S O := by
  obtain ⟨a0, a1, a2, a3, a4, a5, a6, a7, a8, a9, b0, b1, b2, b3, b4, b5, b6⟩ := h
  have e0 := T_sub (x := v 0) (y := n) (by omega) (by omega)
  have e1 := T_add (x := v 1) (y := n) (by omega) (by omega)
  have e5 := T_add (x := v 5) (y := n) (by omega) (by omega)
  show DIx (v 0 - n) (v 1 + n) (v 2) (v 3) (v 4) (v 5 + n) (v 6) (v 7) (v 8) (v 9) H (W + 60) S O
  exact ⟨by omega, by omega, a2, by omega, a4, a5, a6, by omega, by omega, a9, b0, b1, b2, b3, b4, b5, b6⟩
theorem DI.back {v : Nat → Int32} {H W S O : Int} {n : Int32} (h : DI v H W S O) (n0 : 0 ≤ n.toInt) (n1 : n.toInt ≤ (v 2).toInt) : DI (upd (upd v 2 (v 2 - n)) 1 (v 1 + n)) H W S O := by
  obtain ⟨a0, a1, a2, a3, a4, a5, a6, a7, a8, a9, b0, b1, b2, b3, b4, b5, b6⟩ := h
  have e0 := T_sub (x := v 2) (y := n) (by omega) (by omega)
  have e1 := T_add (x := v 1) (y := n) (by omega) (by omega)
  show DIx (v 0) (v 1 + n) (v 2 - n) (v 3) (v 4) (v 5) (v 6) (v 7) (v 8) (v 9) H W S O
  exact ⟨a0, by omega, by omega, by omega, a4, a5, a6, a7, a8, a9, b0, b1, b2, b3, b4, b5, b6⟩
theorem DI.lend {v : Nat → Int32} {H W S O : Int} {n : Int32} (h : DI v H W S O) (n0 : 0 ≤ n.toInt) (n1 : n.toInt ≤ (v 0).toInt) : DI (upd (upd v 0 (v 0 - n)) 2 (v 2 + n)) H W S O := by
  obtain ⟨a0, a1, a2, a3, a4, a5, a6, a7, a8, a9, b0, b1, b2, b3, b4, b5, b6⟩ := h
  have e0 := T_sub (x := v 0) (y := n) (by omega) (by omega)
  have e1 := T_add (x := v 2) (y := n) (by omega) (by omega)
  show DIx (v 0 - n) (v 1) (v 2 + n) (v 3) (v 4) (v 5) (v 6) (v 7) (v 8) (v 9) H W S O
  exact ⟨by omega, a1, by omega, by omega, a4, a5, a6, a7, a8, a9, b0, b1, b2, b3, b4, b5, b6⟩
theorem DI.held {v : Nat → Int32} {H W S O H' : Int} {y : Int32} (h : DI v H W S O) (y0 : 0 ≤ y.toInt) (y1 : y.toInt ≤ H') : DI (upd v 3 y) H' W S O := by
  obtain ⟨a0, a1, a2, a3, a4, a5, a6, a7, a8, a9, b0, b1, b2, b3, b4, b5, b6⟩ := h
  exact ⟨a0, a1, a2, a3, y0, y1, a6, a7, a8, a9, b0, b1, b2, b3, b4, b5, b6⟩
theorem T_min (x y : Int32) : (imin x y).toInt = min x.toInt y.toInt := by
  rw [imin_eq]
  by_cases c : y < x
  · rw [if_pos c]
    have := lt_T.mp c
    omega
  · rw [if_neg c]
    have := le_T.mp (Int32.not_lt.mp c)
    omega
theorem E_min (x y : Int32) : f_X5_least_r x.toInt64 y.toInt64 = (imin x y).toInt64 := by
  unfold f_X5_least_r f_X5_least_x1
  rw [imin_eq]
  by_cases c : y < x
  · rw [if_pos c, if_pos (Ec_ge.mpr (Int32.le_of_lt c))]
  · rw [if_neg c]
    by_cases d : y ≤ x
    · rw [if_pos (Ec_ge.mpr d)]
      have e : x = y := Int32.le_antisymm (Int32.not_lt.mp c) d
      rw [e]
    · rw [if_neg (mt Ec_ge.mp d)]
section MV
variable {g s v t : Nat → Int32} {hk he : Nat → Int8} {f0 f : Nat → Int64} {k e : Nat}
theorem sL.mvv (L : sL g s v t hk he f0 f k e) {i j : Nat} {c c' : Int32} (hc : decide (¬ (c < 0 ∨ 11 ≤ c.toNatClampNeg)) = true) (hc' : decide (¬ (c' < 0 ∨ 11 ≤ c'.toNatClampNeg)) = true) (pc : c.toNatClampNeg = i) (pc' : c'.toNatClampNeg = j) (hi : i < 10) (hj : j < 10) (hij : ¬ j = i) {n : Int32} {N : Int64} (hN : N = n.toInt64) (b1 : -2147483648 ≤ (v i).toInt - n.toInt ∧ (v i).toInt - n.toInt < 2147483648) (b2 : -2147483648 ≤ (v j).toInt + n.toInt ∧ (v j).toInt + n.toInt < 2147483648) : sL g s (upd (upd v i (v i - n)) j (v j + n)) t hk he f0 (f_X5_moves_f f (f_X5_row_r (nI k) + c) (f_X5_row_r (nI k) + c') N) k e := by
  unfold f_X5_moves_f
  rw [L.pk hc, L.pk hc', pc, pc', hN]
  have L1 := L.v hi (y := v i - n) (X := f (12 + 11 * k + i) - n.toInt64) (by rw [L.rv hi, ← E_sub b1.1 b1.2])
  refine L1.v hj ?_
  rw [L1.rv hj, show upd v i (v i - n) j = v j from if_neg hij, ← E_add b2.1 b2.2]
theorem sL.mvt (L : sL g s v t hk he f0 f k e) {i j : Nat} {c c' : Int32} (hc : decide (¬ (c < 0 ∨ 11 ≤ c.toNatClampNeg)) = true) (hc' : decide (¬ (c' < 0 ∨ 11 ≤ c'.toNatClampNeg)) = true) (pc : c.toNatClampNeg = i) (pc' : c'.toNatClampNeg = j) (hi : i < 10) (hj : j < 10) (hij : ¬ j = i) {n : Int32} {N : Int64} (hN : N = n.toInt64) (b1 : -2147483648 ≤ (t i).toInt - n.toInt ∧ (t i).toInt - n.toInt < 2147483648) (b2 : -2147483648 ≤ (t j).toInt + n.toInt ∧ (t j).toInt + n.toInt < 2147483648) : sL g s v (upd (upd t i (t i - n)) j (t j + n)) hk he f0 (f_X5_moves_f f (f_X5_row_r (nI e) + c) (f_X5_row_r (nI e) + c') N) k e := by
  unfold f_X5_moves_f
  rw [L.pe hc, L.pe hc', pc, pc', hN]
  have L1 := L.t hi (y := t i - n) (X := f (12 + 11 * e + i) - n.toInt64) (by rw [L.rt hi, ← E_sub b1.1 b1.2])
  refine L1.t hj ?_
  rw [L1.rt hj, show upd t i (t i - n) j = t j from if_neg hij, ← E_add b2.1 b2.2]
theorem sL.extv (L : sL g s v t hk he f0 f k e) {v' : Nat → Int32} (h : ∀ i : Nat, i < 10 → v i = v' i) : sL g s v' t hk he f0 f k e := ⟨L.1, L.2.1, L.2.2.1, L.2.2.2.1.ext h, L.2.2.2.2⟩
theorem all10 {P : Nat → Prop} (h0 : P 0) (h1 : P 1) (h2 : P 2) (h3 : P 3) (h4 : P 4) (h5 : P 5) (h6 : P 6) (h7 : P 7) (h8 : P 8) (h9 : P 9) : ∀ i : Nat, i < 10 → P i := fun i hi => by
  rcases (show i = 0 ∨ i = 1 ∨ i = 2 ∨ i = 3 ∨ i = 4 ∨ i = 5 ∨ i = 6 ∨ i = 7 ∨ i = 8 ∨ i = 9 by omega) with rfl | rfl | rfl | rfl | rfl | rfl | rfl | rfl | rfl | rfl <;> assumption
/-- what the class does: the drive and its twin behind taking back, writing, lending -/
noncomputable def wrV (v t : DO) (room q qe : Int32) : DO := if q = 0 then f_X0_writeHeld_v (if q = 0 then f_X0_takeBackFrom_v v t else v) else (if qe = 0 then f_X0_lendTo_v (f_X0_writeHeld_v (if q = 0 then f_X0_takeBackFrom_v v t else v)) (if q = 0 then f_X0_takeBackFrom_t v t else t) room else f_X0_writeHeld_v (if q = 0 then f_X0_takeBackFrom_v v t else v))
noncomputable def wrT (v t : DO) (room q qe : Int32) : DO := if q = 0 then (if q = 0 then f_X0_takeBackFrom_t v t else t) else (if qe = 0 then f_X0_lendTo_t (f_X0_writeHeld_v (if q = 0 then f_X0_takeBackFrom_v v t else v)) (if q = 0 then f_X0_takeBackFrom_t v t else t) room else (if q = 0 then f_X0_takeBackFrom_t v t else t))
/-- writing what is held -/
theorem sim_wh {v : DO} (L : sL g s v.1 t hk he f0 f k e) {H W S O : Int} (hv : DI v.1 H W S O) (hW : W ≤ 2000000000) (hH : H ≤ 2000000000) :
    sL g s (f_X0_writeHeld_v v).1 t hk he f0 (f_X5_moves_f (f_X5_moves_f f (f_X5_row_r (nI k) + 0) (f_X5_row_r (nI k) + 1) (f_X5_least_r (f (f_X5_row_r (nI k) + 3).toNatClampNeg) (f (f_X5_row_r (nI k) + 0).toNatClampNeg))) (f_X5_row_r (nI k) + 3) (f_X5_row_r (nI k) + 5) (f_X5_least_r (f (f_X5_row_r (nI k) + 3).toNatClampNeg) (f (f_X5_row_r (nI k) + 0).toNatClampNeg))) k e ∧ DI (f_X0_writeHeld_v v).1 H (W + 60) S O ∧ (f_X0_writeHeld_v v).2 = v.2 := by
  have hv' := hv
  obtain ⟨a0, a1, a2, a3, a4, a5, a6, a7, a8, a9, b0, b1, b2, b3, b4, b5, b6⟩ := hv'
  have hn : f_X5_least_r (f (f_X5_row_r (nI k) + 3).toNatClampNeg) (f (f_X5_row_r (nI k) + 0).toNatClampNeg) = (imin (v.1 3) (v.1 0)).toInt64 := by
    rw [L.pk (c := 3) (by decide), L.pk (c := 0) (by decide), show (3 : Int32).toNatClampNeg = 3 by decide, show (0 : Int32).toNatClampNeg = 0 by decide, L.rv (i := 3) (by decide), L.rv (i := 0) (by decide), E_min]
  have hm := T_min (v.1 3) (v.1 0)
  unfold f_X0_writeHeld_v f_X0_writeHeld_vq1 f_X0_fillCells_v
  rw [hn]
  generalize imin (v.1 3) (v.1 0) = n at hm
  have L1 := L.mvv (i := 0) (j := 1) (c := 0) (c' := 1) (by decide) (by decide) (by decide) (by decide) (by decide) (by decide) (by decide) (n := n) (N := n.toInt64) rfl ⟨by omega, by omega⟩ ⟨by omega, by omega⟩
  have L2 := L1.mvv (i := 3) (j := 5) (c := 3) (c' := 5) (by decide) (by decide) (by decide) (by decide) (by decide) (by decide) (by decide) (n := n) (N := n.toInt64) rfl (show -2147483648 ≤ (v.1 3).toInt - n.toInt ∧ (v.1 3).toInt - n.toInt < 2147483648 from ⟨by omega, by omega⟩) (show -2147483648 ≤ (v.1 5).toInt + n.toInt ∧ (v.1 5).toInt + n.toInt < 2147483648 from ⟨by omega, by omega⟩)
  refine ⟨L2.extv (all10 rfl rfl rfl rfl rfl rfl rfl rfl rfl rfl), ?_, rfl⟩
  have e3 := T_sub (x := v.1 3) (y := n) (by omega) (by omega)
  exact (hv.held (y := v.1 3 - n) (H' := H) (by omega) (by omega)).fill (n := n) (by omega) (show n.toInt ≤ (v.1 0).toInt by omega) hW
theorem sim_writes {v t : DO} (L : sL g s v.1 t.1 hk he f0 f k e) (hx : nI k ^^^ 1 = nI e) {H W S O H' W' S' O' m : Int} (hv : DI v.1 H W S O) (ht : DI t.1 H' W' S' O') (hW : W ≤ 1900000000) (hH : H ≤ 2000000000) (s6 : 0 ≤ (s 6).toInt ∧ (s 6).toInt ≤ 60) (hI : HI he m) {q qe : Int32} (hqe : qe = if hsv he (g 2 / 60).toInt = 0 then 0 else 1) :
    sL g s (wrV v t (s 6) q qe).1 (wrT v t (s 6) q qe).1 hk he f0 (f_X5_writes_f f (nI k) q) k e ∧ DI (wrV v t (s 6) q qe).1 H (W + 120) S O ∧ DI (wrT v t (s 6) q qe).1 H' W' S' O' ∧ (wrV v t (s 6) q qe).2 = v.2 ∧ (wrT v t (s 6) q qe).2 = t.2 := by
  have hv' := hv
  have ht' := ht
  obtain ⟨a0, a1, a2, a3, a4, a5, a6, a7, a8, a9, b0, b1, b2, b3, b4, b5, b6⟩ := hv'
  obtain ⟨c0, c1, c2, c3, c4, c5, c6, c7, c8, c9, d0, d1, d2, d3, d4, d5, d6⟩ := ht'
  by_cases cq : q = 0
  · -- taken back
    have A : sL g s (f_X0_takeBackFrom_v v t).1 (f_X0_takeBackFrom_t v t).1 hk he f0 (f_X5_writes_v6 f (nI k) q) k e ∧ DI (f_X0_takeBackFrom_v v t).1 H (W + 60) S O ∧ DI (f_X0_takeBackFrom_t v t).1 H' W' S' O' := by
      have hn : f_X5_writes_rq3 f (nI k) q = (imin (t.1 2) (v.1 0)).toInt64 := by
        unfold f_X5_writes_rq3
        rw [hx, L.pe (c := 2) (by decide), L.pk (c := 0) (by decide), show (2 : Int32).toNatClampNeg = 2 by decide, show (0 : Int32).toNatClampNeg = 0 by decide, L.rt (i := 2) (by decide), L.rv (i := 0) (by decide), E_min]
      have hm := T_min (t.1 2) (v.1 0)
      unfold f_X5_writes_v6 f_X5_writes_fq5 f_X5_writes_fq4 f_X0_takeBackFrom_v f_X0_takeBackFrom_t f_X0_fillCells_v
      rw [if_pos cq, hn, hx]
      generalize imin (t.1 2) (v.1 0) = n at hm
      have L1 := L.mvt (i := 2) (j := 1) (c := 2) (c' := 1) (by decide) (by decide) (by decide) (by decide) (by decide) (by decide) (by decide) (n := n) (N := n.toInt64) rfl ⟨by omega, by omega⟩ ⟨by omega, by omega⟩
      have L2 := L1.mvv (i := 0) (j := 1) (c := 0) (c' := 1) (by decide) (by decide) (by decide) (by decide) (by decide) (by decide) (by decide) (n := n) (N := n.toInt64) rfl ⟨by omega, by omega⟩ ⟨by omega, by omega⟩
      refine ⟨?_, hv.fill (n := n) (by omega) (by omega) (by omega), ht.back (n := n) (by omega) (by omega)⟩
      rw [L2.pk (c := 5) (by decide), show (5 : Int32).toNatClampNeg = 5 by decide]
      refine L2.v (j := 5) (by decide) ?_
      rw [L2.rv (i := 5) (by decide), show upd (upd v.1 0 (v.1 0 - n)) 1 (v.1 1 + n) 5 = v.1 5 from rfl, ← E_add (by omega) (by omega)]
    obtain ⟨A1, A2, A3⟩ := A
    obtain ⟨B1, B2, B3⟩ := sim_wh A1 A2 (by omega) hH
    have ev : wrV v t (s 6) q qe = f_X0_writeHeld_v (f_X0_takeBackFrom_v v t) := by
      unfold wrV
      rw [if_pos cq, if_pos cq]
    have et : wrT v t (s 6) q qe = f_X0_takeBackFrom_t v t := by
      unfold wrT
      rw [if_pos cq, if_pos cq]
    rw [ev, et]
    refine ⟨?_, B2.mono (by omega) (by omega) (by omega) (by omega), A3, B3, rfl⟩
    unfold f_X5_writes_f f_X5_writes_v13
    rw [if_pos cq]
    exact B1
  · have v6 : f_X5_writes_v6 f (nI k) q = f := by
      unfold f_X5_writes_v6
      rw [if_neg cq]
    obtain ⟨B1, B2, B3⟩ := sim_wh L hv (by omega) hH
    have f9 : f_X5_writes_fq9 f (nI k) q = f_X5_moves_f (f_X5_moves_f f (f_X5_row_r (nI k) + 0) (f_X5_row_r (nI k) + 1) (f_X5_least_r (f (f_X5_row_r (nI k) + 3).toNatClampNeg) (f (f_X5_row_r (nI k) + 0).toNatClampNeg))) (f_X5_row_r (nI k) + 3) (f_X5_row_r (nI k) + 5) (f_X5_least_r (f (f_X5_row_r (nI k) + 3).toNatClampNeg) (f (f_X5_row_r (nI k) + 0).toNatClampNeg)) := by
      unfold f_X5_writes_fq9 f_X5_writes_fq8 f_X5_writes_rq7
      rw [v6]
    have ev : wrV v t (s 6) q qe = if qe = 0 then f_X0_lendTo_v (f_X0_writeHeld_v v) t (s 6) else f_X0_writeHeld_v v := by
      unfold wrV
      rw [if_neg cq, if_neg cq, if_neg cq]
    have et : wrT v t (s 6) q qe = if qe = 0 then f_X0_lendTo_t (f_X0_writeHeld_v v) t (s 6) else t := by
      unfold wrT
      rw [if_neg cq, if_neg cq, if_neg cq]
    rw [ev, et]
    rw [← f9] at B1
    have hf9 : f_X5_writes_f f (nI k) q = if lg_cmp (((f_X5_writes_fq9 f (nI k) q) ((f_X5_row_r (nI k)) + 3).toNatClampNeg) - ((f_X5_writes_fq9 f (nI k) q) 11)) 0 ≤ 0 then (f_X5_writes_fq9 f (nI k) q) else (if f_X5_isQuiet_r (f_X5_writes_fq9 f (nI k) q) (nI k ^^^ 1) = 0 then vp_updL (f_X5_writes_fq12 f (nI k) q) ((f_X5_row_r (nI k)) + 3).toNatClampNeg (((f_X5_writes_fq12 f (nI k) q) ((f_X5_row_r (nI k)) + 3).toNatClampNeg) - (f_X5_writes_rq11 f (nI k) q)) else (f_X5_writes_fq9 f (nI k) q)) := by
      unfold f_X5_writes_f f_X5_writes_v13
      rw [if_neg cq]
    rw [hf9]
    have B2' := B2
    obtain ⟨x0, x1, x2, x3, x4, x5, x6, x7, x8, x9, y0, y1, y2, y3, y4, y5, y6⟩ := B2'
    have q9 : f_X5_isQuiet_r (f_X5_writes_fq9 f (nI k) q) (nI k ^^^ 1) = qe := by
      rw [hx, hqe]
      exact isQ_eq B1.2.2.2.2.2.2.1 B1.e4 B1.hr hI
    unfold f_X5_writes_fq12 f_X5_writes_rq11
    rw [q9, hx]
    generalize f_X5_writes_fq9 f (nI k) q = F at B1
    generalize hw : f_X0_writeHeld_v v = w at B1 B2 B3 x0 x1 x2 x3 x4 x5 x6 x7 x8 x9 y0 y1 y2 y3 y4 y5 y6
    have ov : F (f_X5_row_r (nI k) + 3).toNatClampNeg - F 11 = (w.1 3 - s 6).toInt64 := by
      rw [B1.pk (c := 3) (by decide), show (3 : Int32).toNatClampNeg = 3 by decide, B1.rv (i := 3) (by decide), show F 11 = (s 6).toInt64 from B1.rs (i := 6) (by decide), ← E_sub (by omega) (by omega)]
    have oT := T_sub (x := w.1 3) (y := s 6) (by omega) (by omega)
    have oc : (lg_cmp (w.1 3 - s 6).toInt64 0 ≤ 0) ↔ w.1 3 ≤ s 6 := by
      rw [E_0, Ec_le, le_T, le_T, oT, T_0]
      omega
    rw [ov]
    by_cases ce : qe = 0
    · rw [if_pos ce, if_pos ce, if_pos ce]
      unfold f_X0_lendTo_v f_X0_lendTo_v1 f_X0_lendTo_t f_X0_lendTo_v2
      by_cases c3 : w.1 3 ≤ s 6
      · rw [if_pos (oc.mpr c3), if_pos c3, if_pos c3]
        exact ⟨B1, B2.mono (by omega) (by omega) (by omega) (by omega), ht, B3, rfl⟩
      · rw [if_neg (mt oc.mp c3), if_neg c3, if_neg c3]
        have hn : f_X5_least_r (w.1 3 - s 6).toInt64 (F (f_X5_row_r (nI e) + 0).toNatClampNeg) = (imin (w.1 3 - s 6) (t.1 0)).toInt64 := by
          rw [B1.pe (c := 0) (by decide), show (0 : Int32).toNatClampNeg = 0 by decide, B1.rt (i := 0) (by decide), E_min]
        have hm := T_min (w.1 3 - s 6) (t.1 0)
        have c3' := lt_T.mp (Int32.not_le.mp c3)
        rw [hn]
        generalize imin (w.1 3 - s 6) (t.1 0) = n at hm
        rw [oT] at hm
        have L1 := B1.mvt (i := 0) (j := 2) (c := 0) (c' := 2) (by decide) (by decide) (by decide) (by decide) (by decide) (by decide) (by decide) (n := n) (N := n.toInt64) rfl ⟨by omega, by omega⟩ ⟨by omega, by omega⟩
        have e3 := T_sub (x := w.1 3) (y := n) (by omega) (by omega)
        refine ⟨?_, (B2.held (y := w.1 3 - n) (H' := H) (by omega) (by omega)).mono (by omega) (by omega) (by omega) (by omega), ht.lend (n := n) (by omega) (by omega), B3, rfl⟩
        rw [L1.pk (c := 3) (by decide), show (3 : Int32).toNatClampNeg = 3 by decide]
        refine L1.v (j := 3) (by decide) ?_
        rw [L1.rv (i := 3) (by decide), ← E_sub (by omega) (by omega)]
    · rw [if_neg ce, if_neg ce, if_neg ce]
      have hh : (if lg_cmp (w.1 3 - s 6).toInt64 0 ≤ 0 then F else F) = F := by split <;> rfl
      rw [hh]
      exact ⟨B1, B2.mono (by omega) (by omega) (by omega) (by omega), ht, B3, rfl⟩
end MV
