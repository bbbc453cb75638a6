/-! WHAT THE CLASS DOES, its numbers told as whole numbers -/
theorem T_add {x y : Int32} (h1 : -2147483648 ≤ x.toInt + y.toInt) (h2 : x.toInt + y.toInt < 2147483648) : (x + y).toInt = x.toInt + y.toInt := by
  rw [Int32.toInt_add, Int.bmod_eq_of_le (by omega) (by omega)]
theorem T_sub {x y : Int32} (h1 : -2147483648 ≤ x.toInt - y.toInt) (h2 : x.toInt - y.toInt < 2147483648) : (x - y).toInt = x.toInt - y.toInt := by
  rw [Int32.toInt_sub, Int.bmod_eq_of_le (by omega) (by omega)]
theorem T_mul {x y : Int32} (h1 : -2147483648 ≤ x.toInt * y.toInt) (h2 : x.toInt * y.toInt < 2147483648) : (x * y).toInt = x.toInt * y.toInt := by
  rw [Int32.toInt_mul, Int.bmod_eq_of_le (by omega) (by omega)]
theorem T_add64 {x y : Int64} (h1 : -9223372036854775808 ≤ x.toInt + y.toInt) (h2 : x.toInt + y.toInt < 9223372036854775808) : (x + y).toInt = x.toInt + y.toInt := by
  rw [Int64.toInt_add, Int.bmod_eq_of_le (by omega) (by omega)]
theorem T_sub64 {x y : Int64} (h1 : -9223372036854775808 ≤ x.toInt - y.toInt) (h2 : x.toInt - y.toInt < 9223372036854775808) : (x - y).toInt = x.toInt - y.toInt := by
  rw [Int64.toInt_sub, Int.bmod_eq_of_le (by omega) (by omega)]
theorem T_div {x y : Int32} (hx : 0 ≤ x.toInt) (hy : 0 < y.toInt) : (x / y).toInt = x.toInt / y.toInt := by
  rw [Int32.toInt_div_of_ne_right x y (fun h => by rw [h, show (-1 : Int32).toInt = -1 by decide] at hy; omega), Int.tdiv_eq_ediv_of_nonneg hx]
theorem T_0 : (0 : Int32).toInt = 0 := by decide
theorem T_1 : (1 : Int32).toInt = 1 := by decide
theorem T_60 : (60 : Int32).toInt = 60 := by decide
theorem le_T {x y : Int32} : x ≤ y ↔ x.toInt ≤ y.toInt := Int32.le_iff_toInt_le
theorem lt_T {x y : Int32} : x < y ↔ x.toInt < y.toInt := Int32.lt_iff_toInt_lt
theorem eq_T {x y : Int32} : x = y ↔ x.toInt = y.toInt := Int32.toInt_inj.symm
def hsv (hk : Nat → Int8) (y : Int) : Int32 := if 0 ≤ y ∧ y < 100 then (hk y.toNat).toInt32 else 0
theorem isHour_T (y : Int32) : (¬ f_X4_isHour_r y = 0) ↔ (0 ≤ y.toInt ∧ y.toInt < 100) := by
  unfold f_X4_isHour_r f_X4_isHour_x1
  by_cases c0 : y < 0
  · rw [if_pos c0]
    have := lt_T.mp c0
    rw [T_0] at this
    exact ⟨fun h => absurd rfl h, fun h => by omega⟩
  · rw [if_neg c0]
    have h0 := le_T.mp (Int32.not_lt.mp c0)
    rw [T_0] at h0
    by_cases c1 : 100 ≤ y
    · rw [if_pos c1]
      have := le_T.mp c1
      rw [show (100 : Int32).toInt = 100 by decide] at this
      exact ⟨fun h => absurd rfl h, fun h => by omega⟩
    · rw [if_neg c1]
      have := lt_T.mp (Int32.not_le.mp c1)
      rw [show (100 : Int32).toInt = 100 by decide] at this
      exact ⟨fun _ => ⟨h0, this⟩, fun _ => by decide⟩
theorem hs_eq (w : DO) (hk : Nat → Int8) (y : Int32) : f_X0_hourState_r w hk y = hsv hk y.toInt := by
  unfold f_X0_hourState_r f_X0_hourState_x2 hsv
  by_cases c : f_X4_isHour_r y = 0
  · rw [if_pos c, if_neg (fun h => (isHour_T y).mpr h c)]
  · rw [if_neg c, if_pos ((isHour_T y).mp c)]
    rfl
theorem qi_eq (w : DO) (hk : Nat → Int8) (y : Int32) : f_X0_isQuietIn_r w hk y = if hsv hk y.toInt = 0 then 0 else 1 := by
  unfold f_X0_isQuietIn_r f_X0_isQuietIn_x2
  rw [hs_eq]
theorem mk_eq (w : DO) (hk : Nat → Int8) (y x : Int32) : f_X0_markHour_f w hk y x = if 0 ≤ y.toInt ∧ y.toInt < 100 then upd8 hk y.toInt.toNat x.toInt8.toInt32 else hk := by
  unfold f_X0_markHour_f f_X0_markHour_v2
  by_cases c : f_X4_isHour_r y = 0
  · rw [if_pos c, if_neg (fun h => (isHour_T y).mpr h c)]
  · rw [if_neg c, if_pos ((isHour_T y).mp c)]
    rfl
def HI (hk : Nat → Int8) (m : Int) : Prop := ∀ h : Nat, h < 100 → ((hk h).toInt32 = 0 ∨ (hk h).toInt32 = 1 ∨ (hk h).toInt32 = 2 ∨ (hk h).toInt32 = 3) ∧ (m ≤ 60 * (h : Int) → (hk h).toInt32 = 0 ∨ (hk h).toInt32 = 1)
theorem HI.or {hk : Nat → Int8} {m : Int} (h : HI hk m) (y : Int) : hsv hk y = 0 ∨ hsv hk y = 1 ∨ hsv hk y = 2 ∨ hsv hk y = 3 := by
  unfold hsv
  split
  · exact (h y.toNat (by omega)).1
  · exact .inl rfl
theorem HI.new {hk : Nat → Int8} {m y : Int} (h : HI hk m) (hy : m ≤ 60 * y) : hsv hk y = 0 ∨ hsv hk y = 1 := by
  unfold hsv
  split
  · exact (h y.toNat (by omega)).2 (by omega)
  · exact .inl rfl
theorem hsv_mk {hk : Nat → Int8} {y z : Int} {x : Int32} (hy : 0 ≤ y ∧ y < 100) : hsv (upd8 hk y.toNat x) z = if z = y then x.toInt8.toInt32 else hsv hk z := by
  unfold hsv
  by_cases hz : 0 ≤ z ∧ z < 100
  · rw [if_pos hz, if_pos hz]
    by_cases e : z = y
    · rw [if_pos e, e]
      exact congrArg Int8.toInt32 (if_pos rfl)
    · rw [if_neg e]
      exact congrArg Int8.toInt32 (if_neg (by omega))
  · rw [if_neg hz, if_neg hz, if_neg (by omega)]
theorem HI.mark {hk : Nat → Int8} {m y : Int} {x : Int32} (h : HI hk m) (hy : 0 ≤ y ∧ y < 100) (hx : x.toInt8.toInt32 = 0 ∨ x.toInt8.toInt32 = 1 ∨ x.toInt8.toInt32 = 2 ∨ x.toInt8.toInt32 = 3) (hm : m ≤ 60 * y → x.toInt8.toInt32 = 0 ∨ x.toInt8.toInt32 = 1) : HI (upd8 hk y.toNat x) m := by
  intro q hq
  by_cases e : q = y.toNat
  · rw [show upd8 hk y.toNat x q = x.toInt8 from if_pos e]
    exact ⟨hx, fun g => hm (by omega)⟩
  · rw [show upd8 hk y.toNat x q = hk q from if_neg e]
    exact h q hq
theorem HI.mono {hk : Nat → Int8} {m m' : Int} (h : HI hk m) (hm : m ≤ m') : HI hk m' := fun q hq => ⟨(h q hq).1, fun g => (h q hq).2 (by omega)⟩
def DIx (a0 a1 a2 a3 a4 a5 a6 a7 a8 a9 : Int32) (H W S O : Int) : Prop := 0 ≤ a0.toInt ∧ 0 ≤ a1.toInt ∧ 0 ≤ a2.toInt ∧ a0.toInt + a1.toInt + a2.toInt = 60 ∧ 0 ≤ a3.toInt ∧ a3.toInt ≤ H ∧ (a4 = 0 ∨ a4 = 1) ∧ 0 ≤ a5.toInt ∧ a5.toInt ≤ W ∧ 0 ≤ a6.toInt ∧ a6.toInt ≤ S ∧ 0 ≤ a7.toInt ∧ a7.toInt ≤ O ∧ 1 ≤ a8.toInt ∧ a8.toInt ≤ 60 ∧ 0 ≤ a9.toInt ∧ a9.toInt ≤ 20
def DI (v : Nat → Int32) (H W S O : Int) : Prop := DIx (v 0) (v 1) (v 2) (v 3) (v 4) (v 5) (v 6) (v 7) (v 8) (v 9) H W S O
theorem DI.mono {v : Nat → Int32} {H W S O H' W' S' O' : Int} (h : DI v H W S O) (h1 : H ≤ H') (h2 : W ≤ W') (h3 : S ≤ S') (h4 : O ≤ O') : DI v H' W' S' O' := by
  obtain ⟨a0, a1, a2, a3, a4, a5, a6, a7, a8, a9, b0, b1, b2, b3, b4, b5, b6⟩ := h
  exact ⟨a0, a1, a2, a3, a4, by omega, a6, a7, by omega, a9, by omega, b1, by omega, b3, b4, b5, b6⟩
theorem DI.fill {v : Nat → Int32} {H W S O : Int} {n : Int32} (h : DI v H W S O) (n0 : 0 ≤ n.toInt) (n1 : n.toInt ≤ (v 0).toInt) (hW : W ≤ 2000000000) : DI (upd (upd (upd v 0 (v 0 - n)) 1 (v 1 + n)) 5 (v 5 + n)) H (W + 60) S O := by
  obtain ⟨a0, a1, a2, a3, a4, a5, a6, a7, a8, a9, b0, b1, b2, b3, b4, b5, b6⟩ := h
  have e0 := T_sub (x := v 0) (y := n) (by omega) (by omega)
  have e1 := T_add (x := v 1) (y := n) (by omega) (by omega)
  have e5 := T_add (x := v 5) (y := n) (by omega) (by omega)
  show DIx (v 0 - n) (v 1 + n) (v 2) (v 3) (v 4) (v 5 + n) (v 6) (v 7) (v 8) (v 9) H (W + 60) S O
  exact ⟨by omega, by omega, a2, by omega, a4, a5, a6, by omega, by omega, a9, b0, b1, b2, b3, b4, b5, b6⟩
theorem DI.back {v : Nat → Int32} {H W S O : Int} {n : Int32} (h : DI v H W S O) (n0 : 0 ≤ n.toInt) (n1 : n.toInt ≤ (v 2).toInt) : DI (upd (upd v 2 (v 2 - n)) 1 (v 1 + n)) H W S O := by
  obtain ⟨a0, a1, a2, a3, a4, a5, a6, a7, a8, a9, b0, b1, b2, b3, b4, b5, b6⟩ := h
  have e0 := T_sub (x := v 2) (y := n) (by omega) (by omega)
  have e1 := T_add (x := v 1) (y := n) (by omega) (by omega)
  show DIx (v 0) (v 1 + n) (v 2 - n) (v 3) (v 4) (v 5) (v 6) (v 7) (v 8) (v 9) H W S O
  exact ⟨a0, by omega, by omega, by omega, a4, a5, a6, a7, a8, a9, b0, b1, b2, b3, b4, b5, b6⟩
theorem DI.lend {v : Nat → Int32} {H W S O : Int} {n : Int32} (h : DI v H W S O) (n0 : 0 ≤ n.toInt) (n1 : n.toInt ≤ (v 0).toInt) : DI (upd (upd v 0 (v 0 - n)) 2 (v 2 + n)) H W S O := by
  obtain ⟨a0, a1, a2, a3, a4, a5, a6, a7, a8, a9, b0, b1, b2, b3, b4, b5, b6⟩ := h
  have e0 := T_sub (x := v 0) (y := n) (by omega) (by omega)
  have e1 := T_add (x := v 2) (y := n) (by omega) (by omega)
  show DIx (v 0 - n) (v 1) (v 2 + n) (v 3) (v 4) (v 5) (v 6) (v 7) (v 8) (v 9) H W S O
  exact ⟨by omega, a1, by omega, by omega, a4, a5, a6, a7, a8, a9, b0, b1, b2, b3, b4, b5, b6⟩
theorem DI.held {v : Nat → Int32} {H W S O H' : Int} {y : Int32} (h : DI v H W S O) (y0 : 0 ≤ y.toInt) (y1 : y.toInt ≤ H') : DI (upd v 3 y) H' W S O := by
  obtain ⟨a0, a1, a2, a3, a4, a5, a6, a7, a8, a9, b0, b1, b2, b3, b4, b5, b6⟩ := h
  exact ⟨a0, a1, a2, a3, y0, y1, a6, a7, a8, a9, b0, b1, b2, b3, b4, b5, b6⟩
theorem T_min (x y : Int32) : (imin x y).toInt = min x.toInt y.toInt := by
  rw [imin_eq]
  by_cases c : y < x
  · rw [if_pos c]
    have := lt_T.mp c
    omega
  · rw [if_neg c]
    have := le_T.mp (Int32.not_lt.mp c)
    omega
noncomputable def wrV (v t : DO) (room q qe : Int32) : DO := if q = 0 then f_X0_writeHeld_v (if q = 0 then f_X0_takeBackFrom_v v t else v) else (if qe = 0 then f_X0_lendTo_v (f_X0_writeHeld_v (if q = 0 then f_X0_takeBackFrom_v v t else v)) (if q = 0 then f_X0_takeBackFrom_t v t else t) room else f_X0_writeHeld_v (if q = 0 then f_X0_takeBackFrom_v v t else v))
noncomputable def wrT (v t : DO) (room q qe : Int32) : DO := if q = 0 then (if q = 0 then f_X0_takeBackFrom_t v t else t) else (if qe = 0 then f_X0_lendTo_t (f_X0_writeHeld_v (if q = 0 then f_X0_takeBackFrom_v v t else v)) (if q = 0 then f_X0_takeBackFrom_t v t else t) room else (if q = 0 then f_X0_takeBackFrom_t v t else t))
noncomputable def clV (g s : Nat → Int32) (v : DO) (hk : Nat → Int8) (q : Int32) : DO := if f_X3_cleanUp_r g s v q = 0 then f_X3_cleanUp_v g s v q else (if q = 0 then f_X3_cleanUp_v g s v q else f_X3_chargeOverrun_v g s (f_X3_cleanUp_v g s v q) hk (g 2 / 60))
noncomputable def clG (g s : Nat → Int32) (v : DO) (hk : Nat → Int8) (q : Int32) : Nat → Int32 := if f_X3_cleanUp_r g s v q = 0 then g else (if q = 0 then g else f_X3_chargeOverrun_g g s (f_X3_cleanUp_v g s v q) hk (g 2 / 60))
noncomputable def clH (g s : Nat → Int32) (v : DO) (hk : Nat → Int8) (q : Int32) : Nat → Int8 := if f_X3_cleanUp_r g s v q = 0 then hk else (if q = 0 then hk else f_X3_chargeOverrun_f g s (f_X3_cleanUp_v g s v q) hk (g 2 / 60))
theorem DI.clean {v : Nat → Int32} {H W S O : Int} {n : Int32} (h : DI v H W S O) (n0 : 0 ≤ n.toInt) (n1 : n.toInt ≤ (v 1).toInt) (hS : S ≤ 2000000000) : DI (upd (upd (upd v 1 (v 1 - n)) 0 (v 0 + n)) 6 (v 6 + 1)) H W (S + 1) O := by
  obtain ⟨a0, a1, a2, a3, a4, a5, a6, a7, a8, a9, b0, b1, b2, b3, b4, b5, b6⟩ := h
  have e0 := T_sub (x := v 1) (y := n) (by omega) (by omega)
  have e1 := T_add (x := v 0) (y := n) (by omega) (by omega)
  have e5 := T_add (x := v 6) (y := 1) (by rw [T_1]; omega) (by rw [T_1]; omega)
  rw [T_1] at e5
  show DIx (v 0 + n) (v 1 - n) (v 2) (v 3) (v 4) (v 5) (v 6 + 1) (v 7) (v 8) (v 9) H W (S + 1) O
  exact ⟨by omega, by omega, a2, by omega, a4, a5, a6, a7, a8, by omega, by omega, b1, b2, b3, b4, b5, b6⟩
theorem DI.cln {v : Nat → Int32} {H W S O : Int} {y : Int32} (h : DI v H W S O) (hy : y = 0 ∨ y = 1) : DI (upd v 4 y) H W S O := by
  obtain ⟨a0, a1, a2, a3, a4, a5, a6, a7, a8, a9, b0, b1, b2, b3, b4, b5, b6⟩ := h
  exact ⟨a0, a1, a2, a3, a4, a5, hy, a7, a8, a9, b0, b1, b2, b3, b4, b5, b6⟩
theorem DI.over {v : Nat → Int32} {H W S O : Int} (h : DI v H W S O) (hO : O ≤ 2000000000) : DI (upd v 7 (v 7 + 1)) H W S (O + 1) := by
  obtain ⟨a0, a1, a2, a3, a4, a5, a6, a7, a8, a9, b0, b1, b2, b3, b4, b5, b6⟩ := h
  have e5 := T_add (x := v 7) (y := 1) (by rw [T_1]; omega) (by rw [T_1]; omega)
  rw [T_1] at e5
  show DIx (v 0) (v 1) (v 2) (v 3) (v 4) (v 5) (v 6) (v 7 + 1) (v 8) (v 9) H W S (O + 1)
  exact ⟨a0, a1, a2, a3, a4, a5, a6, a7, a8, a9, b0, by omega, by omega, b3, b4, b5, b6⟩
def SI (s : Nat → Int32) : Prop := (0 ≤ (s 0).toInt ∧ (s 0).toInt ≤ 999) ∧ (0 ≤ (s 1).toInt ∧ (s 1).toInt ≤ 99) ∧ (0 ≤ (s 2).toInt ∧ (s 2).toInt ≤ 9) ∧ (0 ≤ (s 3).toInt ∧ (s 3).toInt ≤ 60) ∧ (0 ≤ (s 4).toInt ∧ (s 4).toInt ≤ 60) ∧ (1 ≤ (s 5).toInt ∧ (s 5).toInt ≤ 20) ∧ (0 ≤ (s 6).toInt ∧ (s 6).toInt ≤ 60)
theorem pm_13 (g s : Nat → Int32) (v t : DO) (hk he : Nat → Int8) : f_X3_passMinuteOf_v13 g s v hk t he = wrV (f_X0_takeStream_v v (f_X3_passMinuteOf_v4 g s v hk t he 2)) t (s 6) (f_X0_isQuietIn_r v hk (f_X3_hourOfNow_r g)) (f_X3_passMinuteOf_rq11 g s v hk t he) := by
  rw [f_X3_passMinuteOf_v13_eq, f_X3_passMinuteOf_vq12_eq, f_X3_passMinuteOf_v9_eq, f_X3_passMinuteOf_v8_eq, f_X3_passMinuteOf_vq7_eq, f_X3_passMinuteOf_tq7_eq, f_X3_passMinuteOf_vq6_eq]
  rfl
theorem pm_14 (g s : Nat → Int32) (v t : DO) (hk he : Nat → Int8) : f_X3_passMinuteOf_v14 g s v hk t he = wrT (f_X0_takeStream_v v (f_X3_passMinuteOf_v4 g s v hk t he 2)) t (s 6) (f_X0_isQuietIn_r v hk (f_X3_hourOfNow_r g)) (f_X3_passMinuteOf_rq11 g s v hk t he) := by
  rw [f_X3_passMinuteOf_v14_eq, f_X3_passMinuteOf_tq12_eq, f_X3_passMinuteOf_v9_eq, f_X3_passMinuteOf_v8_eq, f_X3_passMinuteOf_vq7_eq, f_X3_passMinuteOf_tq7_eq, f_X3_passMinuteOf_vq6_eq]
  rfl
theorem set_g2 (g s : Nat → Int32) (v : DO) (hk : Nat → Int8) (h q : Int32) : f_X3_settleHours_g g s v hk h q 2 = g 2 := by
  unfold f_X3_settleHours_g f_X3_settleHours_v5 f_X3_settleHours_v4
  (repeat' split) <;> rfl
theorem pm_4 (g s : Nat → Int32) (v t : DO) (hk he : Nat → Int8) : f_X3_passMinuteOf_v4 g s v hk t he = (if (g 2) - (g 2) / 60 * 60 = 0 then f_X3_settleHours_g g s v hk (f_X3_hourOfNow_r g) (f_X0_isQuietIn_r v hk (f_X3_hourOfNow_r g)) else g) := by
  rw [f_X3_passMinuteOf_v4_eq, f_X3_passMinuteOf_gq3_eq]
theorem pm_5 (g s : Nat → Int32) (v t : DO) (hk he : Nat → Int8) : f_X3_passMinuteOf_v5 g s v hk t he = (if (g 2) - (g 2) / 60 * 60 = 0 then f_X3_settleHours_f g s v hk (f_X3_hourOfNow_r g) (f_X0_isQuietIn_r v hk (f_X3_hourOfNow_r g)) else hk) := by
  rw [f_X3_passMinuteOf_v5_eq, f_X3_passMinuteOf_fq3_eq]
theorem pm_42 (g s : Nat → Int32) (v t : DO) (hk he : Nat → Int8) : f_X3_passMinuteOf_v4 g s v hk t he 2 = g 2 := by
  rw [pm_4]
  split
  · exact set_g2 _ _ _ _ _ _
  · rfl
theorem pm_v (g s : Nat → Int32) (v t : DO) (hk he : Nat → Int8) : f_X3_passMinuteOf_v18 g s v hk t he = clV (f_X3_passMinuteOf_v4 g s v hk t he) s (f_X3_passMinuteOf_v13 g s v hk t he) (f_X3_passMinuteOf_v5 g s v hk t he) (f_X0_isQuietIn_r v hk (f_X3_hourOfNow_r g)) := by
  rw [f_X3_passMinuteOf_v18_eq, f_X3_passMinuteOf_vq16_eq, f_X3_passMinuteOf_vq15_eq, f_X3_passMinuteOf_rq15_eq]
  unfold clV
  rw [pm_42]
  rfl
theorem pm_g (g s : Nat → Int32) (v t : DO) (hk he : Nat → Int8) : f_X3_passMinuteOf_g g s v hk t he = clG (f_X3_passMinuteOf_v4 g s v hk t he) s (f_X3_passMinuteOf_v13 g s v hk t he) (f_X3_passMinuteOf_v5 g s v hk t he) (f_X0_isQuietIn_r v hk (f_X3_hourOfNow_r g)) := by
  rw [f_X3_passMinuteOf_g_eq, f_X3_passMinuteOf_v17_eq, f_X3_passMinuteOf_gq16_eq, f_X3_passMinuteOf_vq15_eq, f_X3_passMinuteOf_rq15_eq]
  unfold clG
  rw [pm_42]
  rfl
theorem pm_f (g s : Nat → Int32) (v t : DO) (hk he : Nat → Int8) : f_X3_passMinuteOf_f g s v hk t he = clH (f_X3_passMinuteOf_v4 g s v hk t he) s (f_X3_passMinuteOf_v13 g s v hk t he) (f_X3_passMinuteOf_v5 g s v hk t he) (f_X0_isQuietIn_r v hk (f_X3_hourOfNow_r g)) := by
  rw [f_X3_passMinuteOf_f_eq, f_X3_passMinuteOf_v19_eq, f_X3_passMinuteOf_fq16_eq, f_X3_passMinuteOf_vq15_eq, f_X3_passMinuteOf_rq15_eq]
  unfold clH
  rw [pm_42]
  rfl
theorem pm_r (g s : Nat → Int32) (v t : DO) (hk he : Nat → Int8) : f_X3_passMinuteOf_r g s v hk t he = if f_X3_cleanUp_r (f_X3_passMinuteOf_v4 g s v hk t he) s (f_X3_passMinuteOf_v13 g s v hk t he) (f_X0_isQuietIn_r v hk (f_X3_hourOfNow_r g)) = 0 then 0 else if f_X0_isQuietIn_r v hk (f_X3_hourOfNow_r g) = 0 then 0 else 1 := by
  rw [f_X3_passMinuteOf_r_eq, f_X3_passMinuteOf_x20_eq, f_X3_passMinuteOf_rq15_eq]
section TURN
variable {g s : Nat → Int32} {v t : DO} {hk he : Nat → Int8}
theorem set_H (hn : 0 ≤ (g 2).toInt) (hI : HI hk (g 2).toInt) : HI (f_X3_passMinuteOf_v5 g s v hk t he) (g 2).toInt ∧ hsv (f_X3_passMinuteOf_v5 g s v hk t he) (g 2 / 60).toInt = hsv hk (g 2 / 60).toInt := by
  rw [pm_5]
  by_cases c : g 2 - g 2 / 60 * 60 = 0
  · rw [if_pos c]
    unfold f_X3_settleHours_f f_X3_settleHours_v3 f_X3_hourOfNow_r
    rw [hs_eq]
    by_cases c2 : hsv hk (g 2 / 60 - 1).toInt = 1
    · rw [if_pos c2]
      have hd : (g 2 / 60).toInt = (g 2).toInt / 60 := T_div hn (by decide)
      have hlt := (g 2).toInt_lt
      have hd1 : (g 2 / 60 - 1).toInt = (g 2).toInt / 60 - 1 := by rw [T_sub (by rw [T_1]; omega) (by rw [T_1]; omega), hd, T_1]
      have hr : 0 ≤ (g 2 / 60 - 1).toInt ∧ (g 2 / 60 - 1).toInt < 100 := by
        unfold hsv at c2
        split at c2
        · assumption
        · exact absurd c2 (by decide)
      rw [mk_eq, if_pos hr]
      refine ⟨hI.mark hr (by decide) (fun h => ?_), ?_⟩
      · omega
      · rw [hsv_mk hr, if_neg (by omega)]
    · rw [if_neg c2]
      exact ⟨hI, rfl⟩
  · rw [if_neg c]
    exact ⟨hI, rfl⟩
theorem cl_H {w : Nat → Int32} (hn : 0 ≤ (w 2).toInt) (hI : HI hk (w 2).toInt) (q : Int32) : HI (clH w s v hk q) ((w 2).toInt + 1) := by
  unfold clH
  split
  · exact hI.mono (by omega)
  · split
    · exact hI.mono (by omega)
    · unfold f_X3_chargeOverrun_f
      rw [mk_eq]
      split
      · rename_i hr
        have hd : (w 2 / 60).toInt = (w 2).toInt / 60 := T_div hn (by decide)
        exact (hI.mono (by omega)).mark hr (by decide) (fun h => by omega)
      · exact hI.mono (by omega)
theorem st_DI {v : DO} {H W S O : Int} (h : DI v.1 H W S O) (hH : H ≤ 2000000000) (m : Int32) : DI (f_X0_takeStream_v v m).1 (H + 20) W S O ∧ (f_X0_takeStream_v v m).2 = v.2 := by
  unfold f_X0_takeStream_v f_X0_takeStream_v1
  have h' := h
  obtain ⟨a0, a1, a2, a3, a4, a5, a6, a7, a8, a9, b0, b1, b2, b3, b4, b5, b6⟩ := h'
  split
  · exact ⟨h.mono (by omega) (by omega) (by omega) (by omega), rfl⟩
  · split
    · have e := T_add (x := v.1 3) (y := v.1 9) (by omega) (by omega)
      exact ⟨h.held (y := v.1 3 + v.1 9) (by omega) (by omega), rfl⟩
    · exact ⟨h.mono (by omega) (by omega) (by omega) (by omega), rfl⟩
theorem set_4 (g s : Nat → Int32) (v t : DO) (hk he : Nat → Int8) : f_X3_passMinuteOf_v4 g s v hk t he 4 = g 4 ∧ f_X3_passMinuteOf_v4 g s v hk t he 6 = g 6 := by
  rw [pm_4]
  unfold f_X3_settleHours_g f_X3_settleHours_v5 f_X3_settleHours_v4
  (repeat' split) <;> exact ⟨rfl, rfl⟩
end TURN
theorem wrT_oth (v t : DO) (room q qe : Int32) {j : Nat} (hj : ¬ j = 0 ∧ ¬ j = 1 ∧ ¬ j = 2) : (wrT v t room q qe).1 j = t.1 j := by
  have h1 : (f_X0_takeBackFrom_t v t).1 j = t.1 j := (if_neg hj.2.1).trans (if_neg hj.2.2)
  have h2 : ∀ (w u : DO), (f_X0_lendTo_t w u room).1 j = u.1 j := fun w u => by
    unfold f_X0_lendTo_t f_X0_lendTo_v2
    split
    · rfl
    · exact (if_neg hj.2.2).trans (if_neg hj.1)
  unfold wrT
  by_cases q0 : q = 0
  · rw [if_pos q0, if_pos q0]
    exact h1
  · rw [if_neg q0, if_neg q0]
    split
    · exact h2 _ _
    · rfl
section PM7
variable (g s : Nat → Int32) (v t : DO) (hk he : Nat → Int8)
theorem pm_t (j : Nat) (hj : ¬ j = 0 ∧ ¬ j = 1 ∧ ¬ j = 2) : (f_X3_passMinuteOf_tv g s v hk t he).1 j = t.1 j := by
  rw [f_X3_passMinuteOf_tv_eq, pm_14]
  exact wrT_oth _ _ _ _ _ hj
end PM7
noncomputable def turnO (x : StV) (k e : Nat) : StV := (f_X3_passMinuteOf_g x.1 x.2.1 (x.2.2.1 k) (x.2.2.2 k) (x.2.2.1 e) (x.2.2.2 e), x.2.1, updF (updF x.2.2.1 k (f_X3_passMinuteOf_v x.1 x.2.1 (x.2.2.1 k) (x.2.2.2 k) (x.2.2.1 e) (x.2.2.2 e))) e (f_X3_passMinuteOf_tv x.1 x.2.1 (x.2.2.1 k) (x.2.2.2 k) (x.2.2.1 e) (x.2.2.2 e)), updF x.2.2.2 k (f_X3_passMinuteOf_f x.1 x.2.1 (x.2.2.1 k) (x.2.2.2 k) (x.2.2.1 e) (x.2.2.2 e)))
noncomputable def turnR (x : StV) (k e : Nat) : Int32 := f_X3_passMinuteOf_r x.1 x.2.1 (x.2.2.1 k) (x.2.2.2 k) (x.2.2.1 e) (x.2.2.2 e)
theorem updF_same {α : Type} (f : Nat → α) (k : Nat) (x : α) : updF f k x k = x := if_pos rfl
theorem updF_oth {α : Type} {f : Nat → α} {k j : Nat} {x : α} (h : ¬ j = k) : updF f k x j = f j := if_neg h
noncomputable def on1 (x : StV) : StV := turnO x 0 1
noncomputable def on2 (x : StV) : StV := turnO (on1 x) 1 0
noncomputable def on3 (x : StV) : StV := turnO (on2 x) 2 3
noncomputable def on4 (x : StV) : StV := turnO (on3 x) 3 2
theorem tO_g (x : StV) (k e : Nat) : (turnO x k e).1 = f_X3_passMinuteOf_g x.1 x.2.1 (x.2.2.1 k) (x.2.2.2 k) (x.2.2.1 e) (x.2.2.2 e) := rfl
theorem tO_s (x : StV) (k e : Nat) : (turnO x k e).2.1 = x.2.1 := rfl
theorem tO_v (x : StV) {k e : Nat} (h : ¬ k = e) : (turnO x k e).2.2.1 k = f_X3_passMinuteOf_v x.1 x.2.1 (x.2.2.1 k) (x.2.2.2 k) (x.2.2.1 e) (x.2.2.2 e) := (updF_oth h).trans (updF_same _ _ _)
theorem tO_t (x : StV) (k e : Nat) : (turnO x k e).2.2.1 e = f_X3_passMinuteOf_tv x.1 x.2.1 (x.2.2.1 k) (x.2.2.2 k) (x.2.2.1 e) (x.2.2.2 e) := updF_same _ _ _
theorem tO_o (x : StV) {k e d : Nat} (h1 : ¬ d = k) (h2 : ¬ d = e) : (turnO x k e).2.2.1 d = x.2.2.1 d := (updF_oth h2).trans (updF_oth h1)
theorem tO_f (x : StV) (k e : Nat) : (turnO x k e).2.2.2 k = f_X3_passMinuteOf_f x.1 x.2.1 (x.2.2.1 k) (x.2.2.2 k) (x.2.2.1 e) (x.2.2.2 e) := updF_same _ _ _
theorem tO_h (x : StV) {k e d : Nat} (h1 : ¬ d = k) : (turnO x k e).2.2.2 d = x.2.2.2 d := updF_oth h1
theorem o1_g (x : StV) : (on1 x).1 = f_X3_passOneMinute_gq2 x := by
  rw [f_X3_passOneMinute_gq2_eq, on1, tO_g]
theorem o1_r (x : StV) : turnR x 0 1 = f_X3_passOneMinute_rq2 x := by
  rw [f_X3_passOneMinute_rq2_eq, turnR]
theorem o1_s (x : StV) : (on1 x).2.1 = x.2.1 := rfl
theorem o1_v0 (x : StV) : (on1 x).2.2.1 0 = f_X3_passOneMinute_vq2 x := by
  rw [f_X3_passOneMinute_vq2_eq, on1, tO_v _ (by decide)]
theorem o1_v1 (x : StV) : (on1 x).2.2.1 1 = f_X3_passOneMinute_tvq2 x := by
  rw [f_X3_passOneMinute_tvq2_eq, on1, tO_t]
theorem o1_v2 (x : StV) : (on1 x).2.2.1 2 = x.2.2.1 2 := (tO_o _ (by decide) (by decide))
theorem o1_v3 (x : StV) : (on1 x).2.2.1 3 = x.2.2.1 3 := (tO_o _ (by decide) (by decide))
theorem o1_h0 (x : StV) : (on1 x).2.2.2 0 = f_X3_passOneMinute_fq2 x := by
  rw [f_X3_passOneMinute_fq2_eq, on1, tO_f]
theorem o1_h1 (x : StV) : (on1 x).2.2.2 1 = x.2.2.2 1 := (tO_h _ (by decide))
theorem o1_h2 (x : StV) : (on1 x).2.2.2 2 = x.2.2.2 2 := (tO_h _ (by decide))
theorem o1_h3 (x : StV) : (on1 x).2.2.2 3 = x.2.2.2 3 := (tO_h _ (by decide))
theorem o2_g (x : StV) : (on2 x).1 = f_X3_passOneMinute_gq5 x := by
  rw [f_X3_passOneMinute_gq5_eq, on2, tO_g, o1_g, o1_s, o1_v1, o1_h1, o1_v0, o1_h0]
theorem o2_r (x : StV) : turnR (on1 x) 1 0 = f_X3_passOneMinute_rq5 x := by
  rw [f_X3_passOneMinute_rq5_eq, turnR, o1_g, o1_s, o1_v1, o1_h1, o1_v0, o1_h0]
theorem o2_s (x : StV) : (on2 x).2.1 = x.2.1 := rfl
theorem o2_v0 (x : StV) : (on2 x).2.2.1 0 = f_X3_passOneMinute_tvq5 x := by
  rw [f_X3_passOneMinute_tvq5_eq, on2, tO_t, o1_g, o1_s, o1_v1, o1_h1, o1_v0, o1_h0]
theorem o2_v1 (x : StV) : (on2 x).2.2.1 1 = f_X3_passOneMinute_vq5 x := by
  rw [f_X3_passOneMinute_vq5_eq, on2, tO_v _ (by decide), o1_g, o1_s, o1_v1, o1_h1, o1_v0, o1_h0]
theorem o2_v2 (x : StV) : (on2 x).2.2.1 2 = x.2.2.1 2 := (tO_o _ (by decide) (by decide)).trans (o1_v2 x)
theorem o2_v3 (x : StV) : (on2 x).2.2.1 3 = x.2.2.1 3 := (tO_o _ (by decide) (by decide)).trans (o1_v3 x)
theorem o2_h0 (x : StV) : (on2 x).2.2.2 0 = f_X3_passOneMinute_fq2 x := (tO_h _ (by decide)).trans (o1_h0 x)
theorem o2_h1 (x : StV) : (on2 x).2.2.2 1 = f_X3_passOneMinute_fq5 x := by
  rw [f_X3_passOneMinute_fq5_eq, on2, tO_f, o1_g, o1_s, o1_v1, o1_h1, o1_v0, o1_h0]
theorem o2_h2 (x : StV) : (on2 x).2.2.2 2 = x.2.2.2 2 := (tO_h _ (by decide)).trans (o1_h2 x)
theorem o2_h3 (x : StV) : (on2 x).2.2.2 3 = x.2.2.2 3 := (tO_h _ (by decide)).trans (o1_h3 x)
theorem o3_g (x : StV) : (on3 x).1 = f_X3_passOneMinute_gq8 x := by
  rw [f_X3_passOneMinute_gq8_eq, on3, tO_g, o2_g, o2_s, o2_v2, o2_h2, o2_v3, o2_h3]
theorem o3_r (x : StV) : turnR (on2 x) 2 3 = f_X3_passOneMinute_rq8 x := by
  rw [f_X3_passOneMinute_rq8_eq, turnR, o2_g, o2_s, o2_v2, o2_h2, o2_v3, o2_h3]
theorem o3_s (x : StV) : (on3 x).2.1 = x.2.1 := rfl
theorem o3_v0 (x : StV) : (on3 x).2.2.1 0 = f_X3_passOneMinute_tvq5 x := (tO_o _ (by decide) (by decide)).trans (o2_v0 x)
theorem o3_v1 (x : StV) : (on3 x).2.2.1 1 = f_X3_passOneMinute_vq5 x := (tO_o _ (by decide) (by decide)).trans (o2_v1 x)
theorem o3_v2 (x : StV) : (on3 x).2.2.1 2 = f_X3_passOneMinute_vq8 x := by
  rw [f_X3_passOneMinute_vq8_eq, on3, tO_v _ (by decide), o2_g, o2_s, o2_v2, o2_h2, o2_v3, o2_h3]
theorem o3_v3 (x : StV) : (on3 x).2.2.1 3 = f_X3_passOneMinute_tvq8 x := by
  rw [f_X3_passOneMinute_tvq8_eq, on3, tO_t, o2_g, o2_s, o2_v2, o2_h2, o2_v3, o2_h3]
theorem o3_h0 (x : StV) : (on3 x).2.2.2 0 = f_X3_passOneMinute_fq2 x := (tO_h _ (by decide)).trans (o2_h0 x)
theorem o3_h1 (x : StV) : (on3 x).2.2.2 1 = f_X3_passOneMinute_fq5 x := (tO_h _ (by decide)).trans (o2_h1 x)
theorem o3_h2 (x : StV) : (on3 x).2.2.2 2 = f_X3_passOneMinute_fq8 x := by
  rw [f_X3_passOneMinute_fq8_eq, on3, tO_f, o2_g, o2_s, o2_v2, o2_h2, o2_v3, o2_h3]
theorem o3_h3 (x : StV) : (on3 x).2.2.2 3 = x.2.2.2 3 := (tO_h _ (by decide)).trans (o2_h3 x)
theorem o4_g (x : StV) : (on4 x).1 = f_X3_passOneMinute_gq11 x := by
  rw [f_X3_passOneMinute_gq11_eq, on4, tO_g, o3_g, o3_s, o3_v3, o3_h3, o3_v2, o3_h2]
theorem o4_r (x : StV) : turnR (on3 x) 3 2 = f_X3_passOneMinute_rq11 x := by
  rw [f_X3_passOneMinute_rq11_eq, turnR, o3_g, o3_s, o3_v3, o3_h3, o3_v2, o3_h2]
theorem o4_s (x : StV) : (on4 x).2.1 = x.2.1 := rfl
theorem o4_v0 (x : StV) : (on4 x).2.2.1 0 = f_X3_passOneMinute_tvq5 x := (tO_o _ (by decide) (by decide)).trans (o3_v0 x)
theorem o4_v1 (x : StV) : (on4 x).2.2.1 1 = f_X3_passOneMinute_vq5 x := (tO_o _ (by decide) (by decide)).trans (o3_v1 x)
theorem o4_v2 (x : StV) : (on4 x).2.2.1 2 = f_X3_passOneMinute_tvq11 x := by
  rw [f_X3_passOneMinute_tvq11_eq, on4, tO_t, o3_g, o3_s, o3_v3, o3_h3, o3_v2, o3_h2]
theorem o4_v3 (x : StV) : (on4 x).2.2.1 3 = f_X3_passOneMinute_vq11 x := by
  rw [f_X3_passOneMinute_vq11_eq, on4, tO_v _ (by decide), o3_g, o3_s, o3_v3, o3_h3, o3_v2, o3_h2]
theorem o4_h0 (x : StV) : (on4 x).2.2.2 0 = f_X3_passOneMinute_fq2 x := (tO_h _ (by decide)).trans (o3_h0 x)
theorem o4_h1 (x : StV) : (on4 x).2.2.2 1 = f_X3_passOneMinute_fq5 x := (tO_h _ (by decide)).trans (o3_h1 x)
theorem o4_h2 (x : StV) : (on4 x).2.2.2 2 = f_X3_passOneMinute_fq8 x := (tO_h _ (by decide)).trans (o3_h2 x)
theorem o4_h3 (x : StV) : (on4 x).2.2.2 3 = f_X3_passOneMinute_fq11 x := by
  rw [f_X3_passOneMinute_fq11_eq, on4, tO_f, o3_g, o3_s, o3_v3, o3_h3, o3_v2, o3_h2]
theorem one_g (x : StV) : (passOne x).1 = upd (on4 x).1 2 ((on4 x).1 2 + 1) := by
  rw [o4_g]
  exact f_X3_passOneMinute_g_eq x
theorem all4 {P : Nat → Prop} (h0 : P 0) (h1 : P 1) (h2 : P 2) (h3 : P 3) : ∀ d : Nat, d < 4 → P d := fun d hd => by
  have : d = 0 ∨ d = 1 ∨ d = 2 ∨ d = 3 := by omega
  rcases this with h | h | h | h <;> subst h <;> assumption
theorem one_v (x : StV) : ∀ d : Nat, d < 4 → (passOne x).2.2.1 d = (on4 x).2.2.1 d := all4 ((f_X3_passOneMinute_v0_eq x).trans (o4_v0 x).symm) ((f_X3_passOneMinute_v1_eq x).trans (o4_v1 x).symm) ((f_X3_passOneMinute_v2_eq x).trans (o4_v2 x).symm) ((f_X3_passOneMinute_v3_eq x).trans (o4_v3 x).symm)
theorem one_h (x : StV) : ∀ d : Nat, d < 4 → (passOne x).2.2.2 d = (on4 x).2.2.2 d := all4 ((f_X3_passOneMinute_f0_eq x).trans (o4_h0 x).symm) ((f_X3_passOneMinute_f1_eq x).trans (o4_h1 x).symm) ((f_X3_passOneMinute_f2_eq x).trans (o4_h2 x).symm) ((f_X3_passOneMinute_f3_eq x).trans (o4_h3 x).symm)
theorem nI_T {n : Nat} (h : n < 2147483648) : (nI n).toInt = (n : Int) := nI_toInt (by omega)
theorem of_T {k : Int32} (h : 0 ≤ k.toInt) : k = nI k.toInt.toNat := by
  have := k.toInt_lt
  apply Int32.toInt_inj.mp
  rw [nI_T (by omega)]
  omega
theorem cnt_rng (hk : Nat → Int8) (y : Int32) : ∀ n : Nat, n ≤ 100 → 0 ≤ (cntH hk y n).toInt ∧ (cntH hk y n).toInt ≤ n
  | 0, _ => ⟨by show 0 ≤ (0 : Int32).toInt; decide, by show (0 : Int32).toInt ≤ 0; decide⟩
  | n + 1, h => by
    obtain ⟨a, b⟩ := cnt_rng hk y n (by omega)
    unfold cntH
    split
    · rw [T_add (by rw [T_1]; omega) (by rw [T_1]; omega), T_1]
      omega
    · omega
