/-! A DRIVE'S TURN: what stays, what is counted -/
/-- what is wanted of a drive behind N minutes of its own -/
def DRV (v : Nat → Int32) (hk : Nat → Int8) (N : Int) : Prop := DI v (9999 + 20 * N) (120 * N) N N ∧ HI hk N ∧ (v 7).toInt ≤ (v 6).toInt ∧ (cntH hk 3 100).toInt ≤ (v 7).toInt ∧ ∀ q : Nat, q < 100 → ((hk q).toInt32 = 2 → 60 * (q : Int) + 61 ≤ N) ∧ ((hk q).toInt32 = 1 → N ≤ 60 * (q : Int) + 60)
theorem ite_1 {c : Prop} [Decidable c] {z : Int32} (h0 : 0 ≤ z.toInt) (h1 : z.toInt ≤ 1000000) : (if c then z + 1 else z).toInt = z.toInt + (if c then 1 else 0) := by
  split
  · rw [T_add (by rw [T_1]; omega) (by rw [T_1]; omega), T_1]
  · omega
theorem cnt_s (f : Nat → Int8) (k : Int32) (n : Nat) : cntH f k (n + 1) = if (f n).toInt32 = k then cntH f k n + 1 else cntH f k n := rfl
theorem cnt_upd (hk : Nat → Int8) (q : Nat) (x y : Int32) : ∀ n : Nat, n ≤ 100 → (cntH (upd8 hk q x) y n).toInt = (cntH hk y n).toInt + (if q < n then (if x.toInt8.toInt32 = y then 1 else 0) - (if (hk q).toInt32 = y then 1 else 0) else 0)
  | 0, _ => by
    rw [if_neg (Nat.not_lt_zero q), Int.add_zero]
    rfl
  | n + 1, h => by
    have ih := cnt_upd hk q x y n (by omega)
    obtain ⟨a, b⟩ := cnt_rng hk y n (by omega)
    obtain ⟨a', b'⟩ := cnt_rng (upd8 hk q x) y n (by omega)
    rw [cnt_s, cnt_s, ite_1 a' (by omega), ite_1 a (by omega)]
    by_cases e : n = q
    · subst e
      rw [if_neg (Nat.lt_irrefl n)] at ih
      rw [show upd8 hk n x n = x.toInt8 from if_pos rfl, if_pos (Nat.lt_succ_self n), ih]
      generalize (if x.toInt8.toInt32 = y then (1 : Int) else 0) = A
      generalize (if (hk n).toInt32 = y then (1 : Int) else 0) = B
      omega
    · rw [show upd8 hk q x n = hk n from if_neg e, ih]
      generalize (if (hk n).toInt32 = y then (1 : Int) else 0) = B
      by_cases c : q < n
      · rw [if_pos c, if_pos (show q < n + 1 by omega)]
        omega
      · rw [if_neg c, if_neg (show ¬ q < n + 1 by omega)]
        omega
theorem hsv_in {hk : Nat → Int8} {y : Int} (h : ¬ hsv hk y = 0) : 0 ≤ y ∧ y < 100 := by
  unfold hsv at h
  split at h
  · assumption
  · exact absurd rfl h
theorem hsv_q {hk : Nat → Int8} {q : Nat} (h : q < 100) : hsv hk (q : Int) = (hk q).toInt32 := by
  unfold hsv
  rw [if_pos (by omega), Int.toNat_natCast]
section TD
variable {g s : Nat → Int32} {v t : DO} {hk he : Nat → Int8} {n : Int}
theorem rem_T {x y : Int32} (hx : 0 ≤ x.toInt) (hy : 0 < y.toInt) : (x - x / y * y).toInt = x.toInt % y.toInt := by
  have h1 := T_div hx hy
  have h2 := Int.mul_ediv_add_emod x.toInt y.toInt
  have h3 := Int.emod_nonneg x.toInt (show y.toInt ≠ 0 by omega)
  have h4 := x.toInt_lt
  have h5 := Int.ediv_nonneg hx (show 0 ≤ y.toInt by omega)
  have h6 : (x / y).toInt * y.toInt = x.toInt - x.toInt % y.toInt := by
    rw [h1, Int.mul_comm]
    omega
  have h7 : 0 ≤ (x / y).toInt * y.toInt := Int.mul_nonneg (by omega) (by omega)
  have h8 : (x / y * y).toInt = x.toInt - x.toInt % y.toInt := by rw [T_mul (by omega) (by omega), h6]
  rw [T_sub (by omega) (by omega), h8]
  omega
/-- the hours behind the settling -/
theorem set_D (hn : (g 2).toInt = n) (h0 : 0 ≤ n) (hI : HI hk n) (hq : ∀ q : Nat, q < 100 → ((hk q).toInt32 = 2 → 60 * (q : Int) + 61 ≤ n) ∧ ((hk q).toInt32 = 1 → n ≤ 60 * (q : Int) + 60)) :
    (cntH (f_X3_passMinuteOf_v5 g s v hk t he) 3 100).toInt = (cntH hk 3 100).toInt ∧ ∀ q : Nat, q < 100 → ((f_X3_passMinuteOf_v5 g s v hk t he q).toInt32 = 2 → 60 * (q : Int) + 61 ≤ n + 1) ∧ ((f_X3_passMinuteOf_v5 g s v hk t he q).toInt32 = 1 → n + 1 ≤ 60 * (q : Int) + 60) := by
  have hn0 : 0 ≤ (g 2).toInt := by omega
  have hd : (g 2 / 60).toInt = n / 60 := by rw [T_div hn0 (by decide), hn, T_60]
  have hlt := (g 2).toInt_lt
  have hd1 : (g 2 / 60 - 1).toInt = n / 60 - 1 := by rw [T_sub (by rw [T_1]; omega) (by rw [T_1]; omega), hd, T_1]
  have hr := rem_T (x := g 2) (y := 60) hn0 (by decide)
  rw [T_60, hn] at hr
  rw [pm_5]
  by_cases c : g 2 - g 2 / 60 * 60 = 0
  · rw [if_pos c]
    rw [c, T_0] at hr
    unfold f_X3_settleHours_f f_X3_settleHours_v3 f_X3_hourOfNow_r
    rw [hs_eq, hd1]
    by_cases c2 : hsv hk (n / 60 - 1) = 1
    · rw [if_pos c2, mk_eq, hd1]
      have hy := hsv_in (show ¬ hsv hk (n / 60 - 1) = 0 by rw [c2]; decide)
      rw [if_pos hy]
      obtain ⟨y, e⟩ : ∃ y : Nat, n / 60 - 1 = (y : Int) := ⟨(n / 60 - 1).toNat, by omega⟩
      rw [e] at hy c2 ⊢
      rw [hsv_q (by omega)] at c2
      rw [Int.toNat_natCast]
      refine ⟨?_, fun q h => ?_⟩
      · rw [cnt_upd _ _ _ _ 100 (by omega), if_pos (by omega), c2, if_neg (by decide), if_neg (by decide)]
        omega
      · by_cases z : q = y
        · subst z
          rw [show upd8 hk q (2 : Int32).toInt8.toInt32 q = ((2 : Int32).toInt8.toInt32).toInt8 from if_pos rfl]
          exact ⟨fun _ => by omega, fun g => absurd g (by decide)⟩
        · rw [show upd8 hk y (2 : Int32).toInt8.toInt32 q = hk q from if_neg z]
          have := hq q h
          exact ⟨fun g => by have := this.1 g; omega, fun g => by have := this.2 g; omega⟩
    · rw [if_neg c2]
      refine ⟨rfl, fun q h => ?_⟩
      have := hq q h
      refine ⟨fun g => by have := this.1 g; omega, fun g => ?_⟩
      have h1 := this.2 g
      by_cases z : n = 60 * (q : Int) + 60
      · exfalso
        apply c2
        rw [show n / 60 - 1 = (q : Int) by omega, hsv_q h]
        exact g
      · omega
  · rw [if_neg c]
    refine ⟨rfl, fun q h => ?_⟩
    have := hq q h
    refine ⟨fun g => by have := this.1 g; omega, fun g => ?_⟩
    have h1 := this.2 g
    have : ¬ n % 60 = 0 := fun z => c (Int32.toInt_inj.mp (by rw [hr, z, T_0]))
    omega
/-- the hours behind an overrun -/
theorem over_D {w : Nat → Int32} (u : DO) (hn : (w 2).toInt = n) (h0 : 0 ≤ n) (hq : ∀ q : Nat, q < 100 → ((hk q).toInt32 = 2 → 60 * (q : Int) + 61 ≤ n + 1) ∧ ((hk q).toInt32 = 1 → n + 1 ≤ 60 * (q : Int) + 60)) :
    (cntH (f_X3_chargeOverrun_f w s u hk (w 2 / 60)) 3 100).toInt ≤ (cntH hk 3 100).toInt + 1 ∧ ∀ q : Nat, q < 100 → ((f_X3_chargeOverrun_f w s u hk (w 2 / 60) q).toInt32 = 2 → 60 * (q : Int) + 61 ≤ n + 1) ∧ ((f_X3_chargeOverrun_f w s u hk (w 2 / 60) q).toInt32 = 1 → n + 1 ≤ 60 * (q : Int) + 60) := by
  unfold f_X3_chargeOverrun_f
  rw [mk_eq]
  split
  · rename_i hr
    refine ⟨?_, fun q h => ?_⟩
    · rw [cnt_upd _ _ _ _ 100 (by omega), if_pos (by omega), if_pos (by decide)]
      split <;> omega
    · by_cases z : q = (w 2 / 60).toInt.toNat
      · rw [show upd8 hk (w 2 / 60).toInt.toNat (3 : Int32).toInt8.toInt32 q = ((3 : Int32).toInt8.toInt32).toInt8 from if_pos z]
        exact ⟨fun g => absurd g (by decide), fun g => absurd g (by decide)⟩
      · rw [show upd8 hk (w 2 / 60).toInt.toNat (3 : Int32).toInt8.toInt32 q = hk q from if_neg z]
        exact hq q h
  · exact ⟨by omega, hq⟩
/-- what a drive lends, holds and wrote -/
def tt (v : Nat → Int32) : Int32 := v 2 + v 3 + v 5
theorem tt_fill (v : DO) (k : Int32) : tt (f_X0_fillCells_v v k).1 = tt v.1 + k := by
  show v.1 2 + v.1 3 + (v.1 5 + k) = v.1 2 + v.1 3 + v.1 5 + k
  rw [Int32.add_assoc (v.1 2 + v.1 3)]
theorem tt_write (v : DO) : tt (f_X0_writeHeld_v v).1 = tt v.1 := by
  show v.1 2 + (v.1 3 - imin (v.1 3) (v.1 0)) + (v.1 5 + imin (v.1 3) (v.1 0)) = v.1 2 + v.1 3 + v.1 5
  generalize imin (v.1 3) (v.1 0) = k
  grind
theorem tt_back (v t : DO) : tt (f_X0_takeBackFrom_v v t).1 + tt (f_X0_takeBackFrom_t v t).1 = tt v.1 + tt t.1 := by
  unfold f_X0_takeBackFrom_v
  rw [tt_fill]
  show tt v.1 + imin (t.1 2) (v.1 0) + (t.1 2 - imin (t.1 2) (v.1 0) + t.1 3 + t.1 5) = tt v.1 + (t.1 2 + t.1 3 + t.1 5)
  generalize imin (t.1 2) (v.1 0) = k
  grind
theorem tt_lend (v t : DO) (k : Int32) : tt (f_X0_lendTo_v v t k).1 + tt (f_X0_lendTo_t v t k).1 = tt v.1 + tt t.1 := by
  unfold f_X0_lendTo_v f_X0_lendTo_t f_X0_lendTo_v1 f_X0_lendTo_v2
  by_cases c : v.1 3 ≤ k
  · rw [if_pos c, if_pos c]
  · rw [if_neg c, if_neg c]
    show v.1 2 + (v.1 3 - imin (v.1 3 - k) (t.1 0)) + v.1 5 + (t.1 2 + imin (v.1 3 - k) (t.1 0) + t.1 3 + t.1 5) = v.1 2 + v.1 3 + v.1 5 + (t.1 2 + t.1 3 + t.1 5)
    generalize imin (v.1 3 - k) (t.1 0) = j
    grind
theorem tt_wr (v t : DO) (room q qe : Int32) : tt (wrV v t room q qe).1 + tt (wrT v t room q qe).1 = tt v.1 + tt t.1 := by
  unfold wrV wrT
  by_cases c : q = 0
  · rw [if_pos c, if_pos c, if_pos c, if_pos c, tt_write, tt_back]
  · rw [if_neg c, if_neg c, if_neg c, if_neg c]
    by_cases d : qe = 0
    · rw [if_pos d, if_pos d, tt_lend, tt_write]
    · rw [if_neg d, if_neg d, tt_write]
theorem tt_stream (v : DO) (m : Int32) (h8 : ¬ v.1 8 ≤ 0) : tt (f_X0_takeStream_v v m).1 = tt v.1 + (if m - m / v.1 8 * v.1 8 = 0 then v.1 9 else 0) := by
  unfold f_X0_takeStream_v f_X0_takeStream_v1
  rw [if_neg h8]
  split
  · show v.1 2 + (v.1 3 + v.1 9) + v.1 5 = v.1 2 + v.1 3 + v.1 5 + v.1 9
    grind
  · exact (Int32.add_zero _).symm
theorem st_oth (v : DO) (m : Int32) {j : Nat} (hj : ¬ j = 3) : (f_X0_takeStream_v v m).1 j = v.1 j := by
  unfold f_X0_takeStream_v f_X0_takeStream_v1
  split
  · rfl
  · split
    · exact if_neg hj
    · rfl
theorem wrV_oth (v t : DO) (room q qe : Int32) {j : Nat} (hj : ¬ j = 0 ∧ ¬ j = 1 ∧ ¬ j = 3 ∧ ¬ j = 5) : (wrV v t room q qe).1 j = v.1 j := by
  have h1 : ∀ (w : DO) (k : Int32), (f_X0_fillCells_v w k).1 j = w.1 j := fun w k => (if_neg hj.2.2.2).trans ((if_neg hj.2.1).trans (if_neg hj.1))
  have h2 : ∀ w : DO, (f_X0_writeHeld_v w).1 j = w.1 j := fun w => (h1 _ _).trans (if_neg hj.2.2.1)
  have h3 : ∀ w u : DO, (f_X0_takeBackFrom_v w u).1 j = w.1 j := fun w u => h1 _ _
  have h4 : ∀ w u : DO, (f_X0_lendTo_v w u room).1 j = w.1 j := fun w u => by
    unfold f_X0_lendTo_v f_X0_lendTo_v1
    split
    · rfl
    · exact if_neg hj.2.2.1
  unfold wrV
  by_cases c : q = 0
  · rw [if_pos c, if_pos c, h2, h3]
  · rw [if_neg c, if_neg c]
    by_cases d : qe = 0
    · rw [if_pos d, h4, h2]
    · rw [if_neg d, h2]
theorem cu_oth (g s : Nat → Int32) (v : DO) (q : Int32) {j : Nat} (hj : ¬ j = 0 ∧ ¬ j = 1 ∧ ¬ j = 4 ∧ ¬ j = 6) : (f_X3_cleanUp_v g s v q).1 j = v.1 j := by
  have e : (f_X3_cleanUp_v g s v q).1 j = (f_X3_cleanUp_v4 g s v q).1 j := if_neg hj.2.2.1
  rw [e]
  unfold f_X3_cleanUp_v4
  split
  · rfl
  · exact (if_neg hj.2.2.2).trans ((if_neg hj.1).trans (if_neg hj.2.1))
theorem wh_DI {v : DO} {H W S O : Int} (hv : DI v.1 H W S O) (hW : W ≤ 2000000000) (hH : H ≤ 2000000000) : DI (f_X0_writeHeld_v v).1 H (W + 60) S O := by
  have hv' := hv
  obtain ⟨a0, a1, a2, a3, a4, a5, a6, a7, a8, a9, b0, b1, b2, b3, b4, b5, b6⟩ := hv'
  have hm := T_min (v.1 3) (v.1 0)
  unfold f_X0_writeHeld_v f_X0_writeHeld_vq1 f_X0_fillCells_v
  generalize imin (v.1 3) (v.1 0) = n at hm
  have e3 := T_sub (x := v.1 3) (y := n) (by omega) (by omega)
  exact (hv.held (y := v.1 3 - n) (H' := H) (by omega) (by omega)).fill (n := n) (by omega) (show n.toInt ≤ (v.1 0).toInt by omega) hW
theorem wr_DI {v t : DO} {H W S O H' W' S' O' : Int} (hv : DI v.1 H W S O) (ht : DI t.1 H' W' S' O') (hW : W ≤ 1900000000) (hH : H ≤ 2000000000) {room : Int32} (s6 : 0 ≤ room.toInt ∧ room.toInt ≤ 60) (q qe : Int32) :
    DI (wrV v t room q qe).1 H (W + 120) S O ∧ DI (wrT v t room q qe).1 H' W' S' O' := by
  have hv' := hv
  have ht' := ht
  obtain ⟨a0, a1, a2, a3, a4, a5, a6, a7, a8, a9, b0, b1, b2, b3, b4, b5, b6⟩ := hv'
  obtain ⟨c0, c1, c2, c3, c4, c5, c6, c7, c8, c9, d0, d1, d2, d3, d4, d5, d6⟩ := ht'
  unfold wrV wrT
  by_cases cq : q = 0
  · rw [if_pos cq, if_pos cq, if_pos cq, if_pos cq]
    have A : DI (f_X0_takeBackFrom_v v t).1 H (W + 60) S O ∧ DI (f_X0_takeBackFrom_t v t).1 H' W' S' O' := by
      have hm := T_min (t.1 2) (v.1 0)
      unfold f_X0_takeBackFrom_v f_X0_takeBackFrom_t f_X0_fillCells_v
      generalize imin (t.1 2) (v.1 0) = n at hm
      exact ⟨hv.fill (n := n) (by omega) (by omega) (by omega), ht.back (n := n) (by omega) (by omega)⟩
    exact ⟨(wh_DI A.1 (by omega) hH).mono (by omega) (by omega) (by omega) (by omega), A.2⟩
  · rw [if_neg cq, if_neg cq, if_neg cq, if_neg cq]
    have B2 := wh_DI hv (by omega) hH
    by_cases ce : qe = 0
    · rw [if_pos ce, if_pos ce]
      generalize f_X0_writeHeld_v v = w at B2
      have B2' := B2
      obtain ⟨x0, x1, x2, x3, x4, x5, x6, x7, x8, x9, y0, y1, y2, y3, y4, y5, y6⟩ := B2'
      unfold f_X0_lendTo_v f_X0_lendTo_v1 f_X0_lendTo_t f_X0_lendTo_v2
      by_cases c3 : w.1 3 ≤ room
      · rw [if_pos c3, if_pos c3]
        exact ⟨B2.mono (by omega) (by omega) (by omega) (by omega), ht⟩
      · rw [if_neg c3, if_neg c3]
        have oT := T_sub (x := w.1 3) (y := room) (by omega) (by omega)
        have hm := T_min (w.1 3 - room) (t.1 0)
        have c3' := lt_T.mp (Int32.not_le.mp c3)
        generalize imin (w.1 3 - room) (t.1 0) = n at hm
        rw [oT] at hm
        have e3 := T_sub (x := w.1 3) (y := n) (by omega) (by omega)
        exact ⟨(B2.held (y := w.1 3 - n) (H' := H) (by omega) (by omega)).mono (by omega) (by omega) (by omega) (by omega), ht.lend (n := n) (by omega) (by omega)⟩
    · rw [if_neg ce, if_neg ce]
      exact ⟨B2.mono (by omega) (by omega) (by omega) (by omega), ht⟩
/-- cleaning up: the numbers, and whether it sounded -/
theorem cu_DI {v : DO} {H W S O : Int} (hv : DI v.1 H W S O) (hS : S ≤ 1900000000) (s5 : 1 ≤ (s 5).toInt ∧ (s 5).toInt ≤ 20) (q : Int32) :
    (f_X3_cleanUp_r g s v q = 0 ∧ DI (f_X3_cleanUp_v g s v q).1 H W S O ∧ (f_X3_cleanUp_v g s v q).1 6 = v.1 6) ∨ (¬ f_X3_cleanUp_r g s v q = 0 ∧ DI (f_X3_cleanUp_v g s v q).1 H W (S + 1) O ∧ (f_X3_cleanUp_v g s v q).1 6 = v.1 6 + 1) := by
  have x01 : f_X3_cleanUp_x5 g s v q = 0 ∨ f_X3_cleanUp_x5 g s v q = 1 := by
    unfold f_X3_cleanUp_x5
    (repeat' split) <;> first | exact .inl rfl | exact .inr rfl
  have hv' := hv
  obtain ⟨a0, a1, a2, a3, a4, a5, a6, a7, a8, a9, b0, b1, b2, b3, b4, b5, b6⟩ := hv'
  unfold f_X3_cleanUp_v f_X3_cleanUp_r
  by_cases c : f_X3_cleanUp_x2 g s v q = 0
  · left
    have e : f_X3_cleanUp_v4 g s v q = v := if_pos c
    rw [e]
    exact ⟨c, hv.cln x01, rfl⟩
  · right
    have e : f_X3_cleanUp_v4 g s v q = f_X0_cleanCells_v v (imin (s 5) (v.1 1)) := if_neg c
    rw [e]
    have hm := T_min (s 5) (v.1 1)
    unfold f_X0_cleanCells_v
    generalize imin (s 5) (v.1 1) = n at hm
    exact ⟨c, (hv.clean (n := n) (by omega) (by omega) (by omega)).cln x01, rfl⟩
end TD
