/-! THE SIMULATION: hours, the first minute of an hour, the stream -/
/-- the state of an hour, told by its number -/
def hsv (hk : Nat → Int8) (y : Int) : Int32 := if 0 ≤ y ∧ y < 100 then (hk y.toNat).toInt32 else 0
theorem isHour_T (y : Int32) : (¬ f_X4_isHour_r y = 0) ↔ (0 ≤ y.toInt ∧ y.toInt < 100) := by
  unfold f_X4_isHour_r f_X4_isHour_x1
  by_cases c0 : y < 0
  · rw [if_pos c0]
    have := lt_T.mp c0
    rw [T_0] at this
    exact ⟨fun h => absurd rfl h, fun h => by omega⟩
  · rw [if_neg c0]
    have h0 := le_T.mp (Int32.not_lt.mp c0)
    rw [T_0] at h0
    by_cases c1 : 100 ≤ y
    · rw [if_pos c1]
      have := le_T.mp c1
      rw [show (100 : Int32).toInt = 100 by decide] at this
      exact ⟨fun h => absurd rfl h, fun h => by omega⟩
    · rw [if_neg c1]
      have := lt_T.mp (Int32.not_le.mp c1)
      rw [show (100 : Int32).toInt = 100 by decide] at this
      exact ⟨fun _ => ⟨h0, this⟩, fun _ => by decide⟩
theorem hs_eq (w : DO) (hk : Nat → Int8) (y : Int32) : f_X0_hourState_r w hk y = hsv hk y.toInt := by
  unfold f_X0_hourState_r f_X0_hourState_x2 hsv
  by_cases c : f_X4_isHour_r y = 0
  · rw [if_pos c, if_neg (fun h => (isHour_T y).mpr h c)]
  · rw [if_neg c, if_pos ((isHour_T y).mp c)]
    rfl
theorem qi_eq (w : DO) (hk : Nat → Int8) (y : Int32) : f_X0_isQuietIn_r w hk y = if hsv hk y.toInt = 0 then 0 else 1 := by
  unfold f_X0_isQuietIn_r f_X0_isQuietIn_x2
  rw [hs_eq]
theorem mk_eq (w : DO) (hk : Nat → Int8) (y x : Int32) : f_X0_markHour_f w hk y x = if 0 ≤ y.toInt ∧ y.toInt < 100 then upd8 hk y.toInt.toNat x.toInt8.toInt32 else hk := by
  unfold f_X0_markHour_f f_X0_markHour_v2
  by_cases c : f_X4_isHour_r y = 0
  · rw [if_pos c, if_neg (fun h => (isHour_T y).mpr h c)]
  · rw [if_neg c, if_pos ((isHour_T y).mp c)]
    rfl
theorem E_toInt32 (x : Int32) : x.toInt64.toInt32 = x := Int32.toInt32_toInt64 x
theorem ho_eq {hk : Nat → Int8} {f : Nat → Int64} {k : Nat} (hA : sA (fun i => (hk i).toInt32) f (56 + 100 * k) 100) (hk4 : k < 4) (y : Int32) : f_X5_hourOf_r f (nI k) y.toInt64 = hsv hk y.toInt := by
  have e0 := Ec_lt (x := y) (y := 0)
  have e1 := Ec_lt (x := y) (y := 100)
  rw [← E_0] at e0
  rw [← E_100] at e1
  unfold f_X5_hourOf_r f_X5_hourOf_x1 hsv
  by_cases c0 : lg_cmp y.toInt64 0 < 0
  · rw [if_pos c0]
    have := lt_T.mp (e0.mp c0)
    rw [T_0] at this
    rw [if_neg (by omega)]
  · rw [if_neg c0]
    have h0 := le_T.mp (Int32.not_lt.mp (mt e0.mpr c0))
    rw [T_0] at h0
    by_cases c1 : lg_cmp y.toInt64 100 < 0
    · rw [if_pos c1]
      have h1 := lt_T.mp (e1.mp c1)
      rw [show (100 : Int32).toInt = 100 by decide] at h1
      have i := hidx (k := nI k) (t := y.toInt64) (vp_in_nI hk4 (by decide)) (by rw [Int32.toInt_toInt64]; exact h0) (by rw [Int32.toInt_toInt64]; exact h1)
      rw [Int32.toInt_toInt64, nI_clamp (by omega)] at i
      rw [i, nI_clamp (by omega), if_pos ⟨h0, h1⟩, hA y.toInt.toNat (by omega), E_toInt32]
    · rw [if_neg c1]
      have h1 := le_T.mp (Int32.not_lt.mp (mt e1.mpr c1))
      rw [show (100 : Int32).toInt = 100 by decide] at h1
      rw [if_neg (by omega)]
/-- what holds of a drive's hours when the minute m is still to pass -/
def HI (hk : Nat → Int8) (m : Int) : Prop := ∀ h : Nat, h < 100 → ((hk h).toInt32 = 0 ∨ (hk h).toInt32 = 1 ∨ (hk h).toInt32 = 2 ∨ (hk h).toInt32 = 3) ∧ (m ≤ 60 * (h : Int) → (hk h).toInt32 = 0 ∨ (hk h).toInt32 = 1)
theorem HI.or {hk : Nat → Int8} {m : Int} (h : HI hk m) (y : Int) : hsv hk y = 0 ∨ hsv hk y = 1 ∨ hsv hk y = 2 ∨ hsv hk y = 3 := by
  unfold hsv
  split
  · exact (h y.toNat (by omega)).1
  · exact .inl rfl
theorem HI.new {hk : Nat → Int8} {m y : Int} (h : HI hk m) (hy : m ≤ 60 * y) : hsv hk y = 0 ∨ hsv hk y = 1 := by
  unfold hsv
  split
  · exact (h y.toNat (by omega)).2 (by omega)
  · exact .inl rfl
theorem isQ_eq {hk : Nat → Int8} {f : Nat → Int64} {k : Nat} {n : Int32} {m : Int} (hA : sA (fun i => (hk i).toInt32) f (56 + 100 * k) 100) (hk4 : k < 4) (hf : f 0 / 60 = n.toInt64) (hI : HI hk m) : f_X5_isQuiet_r f (nI k) = if hsv hk n.toInt = 0 then 0 else 1 := by
  unfold f_X5_isQuiet_r f_X5_isQuiet_x2
  rw [hf, ho_eq hA hk4]
  rcases hI.or n.toInt with h | h | h | h <;> rw [h] <;> decide
/-- the hours after a mark -/
theorem hsv_mk {hk : Nat → Int8} {y z : Int} {x : Int32} (hy : 0 ≤ y ∧ y < 100) : hsv (upd8 hk y.toNat x) z = if z = y then x.toInt8.toInt32 else hsv hk z := by
  unfold hsv
  by_cases hz : 0 ≤ z ∧ z < 100
  · rw [if_pos hz, if_pos hz]
    by_cases e : z = y
    · rw [if_pos e, e]
      exact congrArg Int8.toInt32 (if_pos rfl)
    · rw [if_neg e]
      exact congrArg Int8.toInt32 (if_neg (by omega))
  · rw [if_neg hz, if_neg hz, if_neg (by omega)]
theorem HI.mark {hk : Nat → Int8} {m y : Int} {x : Int32} (h : HI hk m) (hy : 0 ≤ y ∧ y < 100) (hx : x.toInt8.toInt32 = 0 ∨ x.toInt8.toInt32 = 1 ∨ x.toInt8.toInt32 = 2 ∨ x.toInt8.toInt32 = 3) (hm : m ≤ 60 * y → x.toInt8.toInt32 = 0 ∨ x.toInt8.toInt32 = 1) : HI (upd8 hk y.toNat x) m := by
  intro q hq
  by_cases e : q = y.toNat
  · rw [show upd8 hk y.toNat x q = x.toInt8 from if_pos e]
    exact ⟨hx, fun g => hm (by omega)⟩
  · rw [show upd8 hk y.toNat x q = hk q from if_neg e]
    exact h q hq
theorem HI.mono {hk : Nat → Int8} {m m' : Int} (h : HI hk m) (hm : m ≤ m') : HI hk m' := fun q hq => ⟨(h q hq).1, fun g => (h q hq).2 (by omega)⟩
section SET
variable {g s v t : Nat → Int32} {hk he : Nat → Int8} {f0 f : Nat → Int64} {k e : Nat}
theorem sL.hr (L : sL g s v t hk he f0 f k e) : f 0 / 60 = (g 2 / 60).toInt64 := by
  rw [show f 0 = (g 2).toInt64 from L.rg (i := 0) (by decide), E_60, ← E_div (by decide)]
theorem sim_settle (L : sL g s v t hk he f0 f k e) (w : DO) (hn : 0 ≤ (g 2).toInt) (hI : HI hk (g 2).toInt) (b3 : 0 ≤ (g 3).toInt ∧ (g 3).toInt < 2000000000) (b5 : 0 ≤ (g 5).toInt ∧ (g 5).toInt < 2000000000) (s0 : 0 ≤ (s 0).toInt ∧ (s 0).toInt ≤ 999) (s2 : 0 ≤ (s 2).toInt ∧ (s 2).toInt ≤ 9) :
    sL (if (g 2) - (g 2) / 60 * 60 = 0 then f_X3_settleHours_g g s w hk (f_X3_hourOfNow_r g) (f_X0_isQuietIn_r w hk (f_X3_hourOfNow_r g)) else g) s v t (if (g 2) - (g 2) / 60 * 60 = 0 then f_X3_settleHours_f g s w hk (f_X3_hourOfNow_r g) (f_X0_isQuietIn_r w hk (f_X3_hourOfNow_r g)) else hk) he f0 (dayT f (nI k)) k e := by
  obtain ⟨r1, r2⟩ := E_rem (x := g 2) (y := 60) hn (by decide)
  have hd : (g 2 / 60).toInt = (g 2).toInt / 60 := T_div hn (by decide)
  have hlt := (g 2).toInt_lt
  rw [T_60] at r2
  have c1 : (lg_cmp (f 0 - f 0 / 60 * 60) 0 = 0) ↔ g 2 - g 2 / 60 * 60 = 0 := by
    rw [show f 0 = (g 2).toInt64 from L.rg (i := 0) (by decide), E_60, E_0, ← r1, Ec_eq]
  unfold dayT
  by_cases c : g 2 - g 2 / 60 * 60 = 0
  · rw [if_pos c, if_pos c, if_pos (c1.mpr c)]
    have hm : (g 2).toInt % 60 = 0 := by rw [← r2, c, T_0]
    have ft := L.hr
    have ft1 : f 0 / 60 - 1 = (g 2 / 60 - 1).toInt64 := by rw [ft, E_1, ← E_sub (by rw [T_1]; omega) (by rw [T_1]; omega)]
    have hd1 : (g 2 / 60 - 1).toInt = (g 2).toInt / 60 - 1 := by rw [T_sub (by rw [T_1]; omega) (by rw [T_1]; omega), hd, T_1]
    have hq := hI.new (y := (g 2 / 60).toInt) (by omega)
    -- what follows the hour ahead
    have A : ∀ (g1 : Nat → Int32) (h1 : Nat → Int8) (f1 : Nat → Int64), sL g1 s v t h1 he f0 f1 k e → (g1 3 = g 3) → hsv h1 (g 2 / 60).toInt = hsv hk (g 2 / 60).toInt → sL (if f_X0_isQuietIn_r w hk (g 2 / 60) = 0 then g1 else upd g1 3 (g1 3 + s 0)) s v t h1 he f0 (vp_updL f1 1 (f1 1 + (if f_X5_hourOf_r f1 (nI k) ((g 2 / 60).toInt64) = 1 then f1 5 else 0))) k e := by
      intro g1 h1 f1 L1 e3 eh
      rw [ho_eq L1.2.2.2.2.2.1 L1.k4, eh, qi_eq]
      have f1e : f1 1 = (g1 3).toInt64 := L1.rg (i := 1) (by decide)
      rcases hq with hq | hq
      · rw [hq, if_pos (show (if (0 : Int32) = 0 then (0 : Int32) else 1) = 0 by decide), if_neg (show ¬ (0 : Int32) = 1 by decide), Int64.add_zero, vp_same]
        exact L1
      · rw [hq, if_neg (show ¬ (if (1 : Int32) = 0 then (0 : Int32) else 1) = 0 by decide), if_pos rfl]
        refine L1.g (i := 1) (by decide) ?_
        rw [f1e, show f1 5 = (s 0).toInt64 from L1.rs (i := 0) (by decide), ← E_add (by rw [e3]; omega) (by rw [e3]; omega)]
    unfold f_X3_settleHours_g f_X3_settleHours_f f_X3_settleHours_v5 f_X3_settleHours_v4 f_X3_settleHours_v3 f_X5_turns_f f_X5_turns_x4 f_X5_turns_v2 f_X3_hourOfNow_r
    rw [hs_eq, ft1, ho_eq L.2.2.2.2.2.1 L.k4, ft]
    by_cases c2 : hsv hk (g 2 / 60 - 1).toInt = 1
    · rw [if_pos c2, if_pos c2, if_pos c2]
      have hr : 0 ≤ (g 2 / 60 - 1).toInt ∧ (g 2 / 60 - 1).toInt < 100 := by
        unfold hsv at c2
        split at c2
        · assumption
        · exact absurd c2 (by decide)
      have ix : (56 + 100 * nI k + (g 2 / 60).toInt64.toInt32 - 1).toNatClampNeg = 56 + 100 * k + (g 2 / 60 - 1).toInt.toNat := by
        have i := hidx1 (k := nI k) (t := (g 2 / 60).toInt64) L.vk (by rw [← ft, ft1, Int32.toInt_toInt64]; exact hr.1) (by rw [← ft, ft1, Int32.toInt_toInt64]; exact hr.2)
        have hk4 := L.k4
        rw [i, ← ft, ft1, Int32.toInt_toInt64, nI_clamp (n := k) (by omega), nI_clamp (by omega)]
      rw [ix, mk_eq, if_pos hr]
      have L1 := L.h (j := (g 2 / 60 - 1).toInt.toNat) (by omega) (y := (2 : Int32).toInt8.toInt32) (X := 2) (by decide)
      have L2 := L1.g (i := 3) (by decide) (y := g 5 + s 2) (X := vp_updL f (56 + 100 * k + (g 2 / 60 - 1).toInt.toNat) 2 3 + vp_updL f (56 + 100 * k + (g 2 / 60 - 1).toInt.toNat) 2 7) (by
        rw [show vp_updL f (56 + 100 * k + (g 2 / 60 - 1).toInt.toNat) 2 3 = (g 5).toInt64 from L1.rg (i := 3) (by decide), show vp_updL f (56 + 100 * k + (g 2 / 60 - 1).toInt.toNat) 2 7 = (s 2).toInt64 from L1.rs (i := 2) (by decide), ← E_add (by omega) (by omega)])
      refine A _ _ _ L2 rfl ?_
      rw [hsv_mk hr, if_neg (by omega)]
    · rw [if_neg c2, if_neg c2, if_neg c2]
      exact A _ _ _ L rfl rfl
  · rw [if_neg c, if_neg c, if_neg (fun z => c (c1.mp z))]
    exact L
theorem sim_stream (L : sL g s v t hk he f0 f k e) (z : Int64) (hn : 0 ≤ (g 2).toInt) (h8 : 1 ≤ (v 8).toInt) (b3 : 0 ≤ (v 3).toInt ∧ (v 3).toInt < 2000000000) (b9 : 0 ≤ (v 9).toInt ∧ (v 9).toInt ≤ 20) :
    sL g s (f_X0_takeStream_v (v, z) (g 2)).1 t hk he f0 (vp_updL f (f_X5_row_r (nI k) + 3).toNatClampNeg (f (f_X5_row_r (nI k) + 3).toNatClampNeg + dayX f (nI k))) k e := by
  obtain ⟨r1, r2⟩ := E_rem (x := g 2) (y := v 8) hn (by omega)
  unfold f_X0_takeStream_v f_X0_takeStream_v1 dayX
  rw [L.pk (c := 3) (by decide), L.pk (c := 8) (by decide), L.pk (c := 9) (by decide), show (3 : Int32).toNatClampNeg = 3 by decide, show (8 : Int32).toNatClampNeg = 8 by decide, show (9 : Int32).toNatClampNeg = 9 by decide]
  rw [show f 0 = (g 2).toInt64 from L.rg (i := 0) (by decide), L.rv (i := 8) (by decide), L.rv (i := 9) (by decide), L.rv (i := 3) (by decide), ← r1]
  have e0 := Ec_eq (x := g 2 - g 2 / v 8 * v 8) (y := 0)
  rw [← E_0] at e0
  rw [if_neg (show ¬ (v, z).1 8 ≤ 0 from fun h => by have := le_T.mp h; rw [T_0] at this; have h8' : 1 ≤ ((v, z).1 8).toInt := h8; omega)]
  by_cases c : g 2 - g 2 / v 8 * v 8 = 0
  · rw [if_pos (e0.mpr c), if_pos c]
    exact L.v (j := 3) (by decide) (by rw [← E_add (by omega) (by omega)])
  · rw [if_neg (fun h => c (e0.mp h)), if_neg c, Int64.add_zero, ← L.rv (i := 3) (by decide), vp_same]
    exact L
end SET
