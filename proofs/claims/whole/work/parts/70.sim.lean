/-! THE SIMULATION: an hour to come changes nothing before it begins -/
theorem hsv_o {hk : Nat → Int8} {t : Nat} {c : Int32} {z : Int} (ht : t < 100) (h : z < (t : Int)) : hsv (upd8 hk t c) z = hsv hk z := by
  have := hsv_mk (hk := hk) (y := (t : Int)) (z := z) (x := c) (by omega)
  rw [Int.toNat_natCast, if_neg (by omega)] at this
  exact this
theorem upd8_swap (hk : Nat → Int8) {i j : Nat} (h : ¬ i = j) (a b : Int32) : upd8 (upd8 hk i a) j b = upd8 (upd8 hk j b) i a := by
  funext q
  unfold upd8
  by_cases h1 : q = j
  · rw [if_pos h1, if_neg (by omega), if_pos h1]
  · rw [if_neg h1]
    by_cases h2 : q = i
    · rw [if_pos h2, if_pos h2]
    · rw [if_neg h2, if_neg h2, if_neg h1]
section SOLD
variable {g s : Nat → Int32} {v t : DO} {hk he : Nat → Int8} {h : Nat} {c : Int32}
theorem so_hr (hn : 0 ≤ (g 2).toInt) : (g 2 / 60).toInt = (g 2).toInt / 60 ∧ (g 2 / 60 - 1).toInt = (g 2).toInt / 60 - 1 := by
  have hd : (g 2 / 60).toInt = (g 2).toInt / 60 := T_div hn (by decide)
  have hlt := (g 2).toInt_lt
  exact ⟨hd, by rw [T_sub (by rw [T_1]; omega) (by rw [T_1]; omega), hd, T_1]⟩
theorem so_q (v : DO) (hn : 0 ≤ (g 2).toInt) (hh : h < 100) (ht : (g 2).toInt / 60 < h) : f_X0_isQuietIn_r v (upd8 hk h c) (f_X3_hourOfNow_r g) = f_X0_isQuietIn_r v hk (f_X3_hourOfNow_r g) := by
  obtain ⟨a, b⟩ := so_hr hn
  unfold f_X3_hourOfNow_r
  rw [qi_eq, qi_eq, hsv_o hh (by rw [a]; exact ht)]
theorem so_4 (hn : 0 ≤ (g 2).toInt) (hh : h < 100) (ht : (g 2).toInt / 60 < h) : f_X3_passMinuteOf_v4 g s v (upd8 hk h c) t he = f_X3_passMinuteOf_v4 g s v hk t he := by
  obtain ⟨a, b⟩ := so_hr hn
  rw [pm_4, pm_4, so_q v hn hh ht]
  unfold f_X3_settleHours_g f_X3_settleHours_v5 f_X3_settleHours_v4 f_X3_hourOfNow_r
  rw [hs_eq, hs_eq, hsv_o hh (by rw [b]; omega)]
theorem so_5 (hn : 0 ≤ (g 2).toInt) (hh : h < 100) (ht : (g 2).toInt / 60 < h) : f_X3_passMinuteOf_v5 g s v (upd8 hk h c) t he = upd8 (f_X3_passMinuteOf_v5 g s v hk t he) h c := by
  obtain ⟨a, b⟩ := so_hr hn
  rw [pm_5, pm_5, so_q v hn hh ht]
  unfold f_X3_settleHours_f f_X3_settleHours_v3 f_X3_hourOfNow_r
  rw [hs_eq, hs_eq, hsv_o hh (by rw [b]; omega), mk_eq, mk_eq]
  by_cases c1 : g 2 - g 2 / 60 * 60 = 0
  · rw [if_pos c1, if_pos c1]
    by_cases c2 : hsv hk (g 2 / 60 - 1).toInt = 1
    · rw [if_pos c2, if_pos c2]
      by_cases c3 : 0 ≤ (g 2 / 60 - 1).toInt ∧ (g 2 / 60 - 1).toInt < 100
      · rw [if_pos c3, if_pos c3, upd8_swap _ (by omega)]
      · rw [if_neg c3, if_neg c3]
    · rw [if_neg c2, if_neg c2]
  · rw [if_neg c1, if_neg c1]
theorem so_11 (hk' : Nat → Int8) : f_X3_passMinuteOf_rq11 g s v hk' t he = f_X3_passMinuteOf_rq11 g s v hk t he := by
  rw [f_X3_passMinuteOf_rq11_eq, f_X3_passMinuteOf_rq11_eq, qi_eq, qi_eq]
theorem so_11e (hn : 0 ≤ (g 2).toInt) (hh : h < 100) (ht : (g 2).toInt / 60 < h) : f_X3_passMinuteOf_rq11 g s v hk t (upd8 he h c) = f_X3_passMinuteOf_rq11 g s v hk t he := by
  obtain ⟨a, b⟩ := so_hr hn
  rw [f_X3_passMinuteOf_rq11_eq, f_X3_passMinuteOf_rq11_eq, qi_eq, qi_eq]
  unfold f_X3_hourOfNow_r
  rw [hsv_o hh (by rw [a]; exact ht)]
theorem so_13 (hn : 0 ≤ (g 2).toInt) (hh : h < 100) (ht : (g 2).toInt / 60 < h) : f_X3_passMinuteOf_v13 g s v (upd8 hk h c) t he = f_X3_passMinuteOf_v13 g s v hk t he := by
  rw [pm_13, pm_13, so_4 hn hh ht, so_q v hn hh ht, so_11 (hk := hk)]
theorem so_k (hn : 0 ≤ (g 2).toInt) (hh : h < 100) (ht : (g 2).toInt / 60 < h) :
    f_X3_passMinuteOf_g g s v (upd8 hk h c) t he = f_X3_passMinuteOf_g g s v hk t he ∧ f_X3_passMinuteOf_v g s v (upd8 hk h c) t he = f_X3_passMinuteOf_v g s v hk t he ∧ f_X3_passMinuteOf_tv g s v (upd8 hk h c) t he = f_X3_passMinuteOf_tv g s v hk t he ∧ f_X3_passMinuteOf_f g s v (upd8 hk h c) t he = upd8 (f_X3_passMinuteOf_f g s v hk t he) h c := by
  have q := so_q (hk := hk) (c := c) v hn hh ht
  have a4 := so_4 (s := s) (v := v) (hk := hk) (t := t) (he := he) (c := c) hn hh ht
  have a5 := so_5 (s := s) (v := v) (hk := hk) (t := t) (he := he) (c := c) hn hh ht
  have a13 := so_13 (s := s) (v := v) (hk := hk) (t := t) (he := he) (c := c) hn hh ht
  have e2 := pm_42 g s v t hk he
  have a18 : f_X3_passMinuteOf_v18 g s v (upd8 hk h c) t he = f_X3_passMinuteOf_v18 g s v hk t he := by
    rw [pm_v, pm_v, q, a4, a13]
    rfl
  refine ⟨?_, ?_, ?_, ?_⟩
  · rw [pm_g, pm_g, q, a4, a13]
    rfl
  · rw [f_X3_passMinuteOf_v_eq, f_X3_passMinuteOf_v_eq, a18]
  · rw [f_X3_passMinuteOf_tv_eq, f_X3_passMinuteOf_tv_eq, pm_14, pm_14, q, a4, so_11 (hk := hk)]
  · rw [pm_f, pm_f, q, a4, a5, a13]
    unfold clH
    split
    · rfl
    · split
      · rfl
      · unfold f_X3_chargeOverrun_f
        rw [mk_eq, mk_eq, e2]
        have hd := (so_hr hn).1
        by_cases c3 : 0 ≤ (g 2 / 60).toInt ∧ (g 2 / 60).toInt < 100
        · rw [if_pos c3, if_pos c3, upd8_swap _ (by omega)]
        · rw [if_neg c3, if_neg c3]
theorem so_e (hn : 0 ≤ (g 2).toInt) (hh : h < 100) (ht : (g 2).toInt / 60 < h) :
    f_X3_passMinuteOf_g g s v hk t (upd8 he h c) = f_X3_passMinuteOf_g g s v hk t he ∧ f_X3_passMinuteOf_v g s v hk t (upd8 he h c) = f_X3_passMinuteOf_v g s v hk t he ∧ f_X3_passMinuteOf_tv g s v hk t (upd8 he h c) = f_X3_passMinuteOf_tv g s v hk t he ∧ f_X3_passMinuteOf_f g s v hk t (upd8 he h c) = f_X3_passMinuteOf_f g s v hk t he := by
  have a11 := so_11e (s := s) (v := v) (hk := hk) (t := t) (he := he) (c := c) hn hh ht
  have a4 : f_X3_passMinuteOf_v4 g s v hk t (upd8 he h c) = f_X3_passMinuteOf_v4 g s v hk t he := by rw [pm_4, pm_4]
  have a5 : f_X3_passMinuteOf_v5 g s v hk t (upd8 he h c) = f_X3_passMinuteOf_v5 g s v hk t he := by rw [pm_5, pm_5]
  have a13 : f_X3_passMinuteOf_v13 g s v hk t (upd8 he h c) = f_X3_passMinuteOf_v13 g s v hk t he := by rw [pm_13, pm_13, a4, a11]
  have a18 : f_X3_passMinuteOf_v18 g s v hk t (upd8 he h c) = f_X3_passMinuteOf_v18 g s v hk t he := by rw [pm_v, pm_v, a4, a5, a13]
  refine ⟨?_, ?_, ?_, ?_⟩
  · rw [pm_g, pm_g, a4, a5, a13]
  · rw [f_X3_passMinuteOf_v_eq, f_X3_passMinuteOf_v_eq, a18]
  · rw [f_X3_passMinuteOf_tv_eq, f_X3_passMinuteOf_tv_eq, pm_14, pm_14, a4, a11]
  · rw [pm_f, pm_f, a4, a5, a13]
theorem pm_g2 (g s : Nat → Int32) (v t : DO) (hk he : Nat → Int8) : f_X3_passMinuteOf_g g s v hk t he 2 = g 2 := by
  have e2 := pm_42 g s v t hk he
  rw [pm_g]
  unfold clG
  split
  · exact e2
  · split
    · exact e2
    · unfold f_X3_chargeOverrun_g f_X3_chargeOverrun_v2
      split <;> exact e2
end SOLD
/-- y is the station x with the hour h of the drive d set to c -/
def SO (x y : StV) (d h : Nat) (c : Int32) : Prop := y.1 = x.1 ∧ y.2.1 = x.2.1 ∧ (∀ j : Nat, j < 4 → y.2.2.1 j = x.2.2.1 j) ∧ ∀ j : Nat, j < 4 → y.2.2.2 j = if j = d then upd8 (x.2.2.2 j) h c else x.2.2.2 j
theorem SO.turn {x y : StV} {d h : Nat} {c : Int32} (S : SO x y d h c) (hh : h < 100) {k e : Nat} (hk : k < 4) (he : e < 4) (hke : ¬ k = e) (hn : 0 ≤ (x.1 2).toInt) (ht : (x.1 2).toInt / 60 < h) : SO (turnO x k e) (turnO y k e) d h c ∧ (turnO x k e).1 2 = x.1 2 := by
  obtain ⟨a, b, dv, hv⟩ := S
  have hk' := hv k hk
  have he' := hv e he
  have M : f_X3_passMinuteOf_g y.1 y.2.1 (y.2.2.1 k) (y.2.2.2 k) (y.2.2.1 e) (y.2.2.2 e) = f_X3_passMinuteOf_g x.1 x.2.1 (x.2.2.1 k) (x.2.2.2 k) (x.2.2.1 e) (x.2.2.2 e) ∧ f_X3_passMinuteOf_v y.1 y.2.1 (y.2.2.1 k) (y.2.2.2 k) (y.2.2.1 e) (y.2.2.2 e) = f_X3_passMinuteOf_v x.1 x.2.1 (x.2.2.1 k) (x.2.2.2 k) (x.2.2.1 e) (x.2.2.2 e) ∧ f_X3_passMinuteOf_tv y.1 y.2.1 (y.2.2.1 k) (y.2.2.2 k) (y.2.2.1 e) (y.2.2.2 e) = f_X3_passMinuteOf_tv x.1 x.2.1 (x.2.2.1 k) (x.2.2.2 k) (x.2.2.1 e) (x.2.2.2 e) ∧ f_X3_passMinuteOf_f y.1 y.2.1 (y.2.2.1 k) (y.2.2.2 k) (y.2.2.1 e) (y.2.2.2 e) = if k = d then upd8 (f_X3_passMinuteOf_f x.1 x.2.1 (x.2.2.1 k) (x.2.2.2 k) (x.2.2.1 e) (x.2.2.2 e)) h c else f_X3_passMinuteOf_f x.1 x.2.1 (x.2.2.1 k) (x.2.2.2 k) (x.2.2.1 e) (x.2.2.2 e) := by
    rw [a, b, dv k hk, dv e he, hk', he']
    by_cases c1 : k = d
    · rw [if_pos c1, if_neg (fun z => hke (c1.trans z.symm)), if_pos c1]
      exact so_k hn hh ht
    · rw [if_neg c1, if_neg c1]
      by_cases c2 : e = d
      · rw [if_pos c2]
        exact so_e hn hh ht
      · rw [if_neg c2]
        exact ⟨rfl, rfl, rfl, rfl⟩
  obtain ⟨m1, m2, m3, m4⟩ := M
  refine ⟨⟨m1, b, fun j hj => ?_, fun j hj => ?_⟩, pm_g2 _ _ _ _ _ _⟩
  · show updF (updF _ _ _) _ _ j = updF (updF _ _ _) _ _ j
    by_cases c1 : j = e
    · rw [c1, updF_same, updF_same]
      exact m3
    · rw [updF_oth c1, updF_oth c1]
      by_cases c2 : j = k
      · rw [c2, updF_same, updF_same]
        exact m2
      · rw [updF_oth c2, updF_oth c2]
        exact dv j hj
  · show updF _ _ _ j = if j = d then upd8 (updF _ _ _ j) h c else updF _ _ _ j
    by_cases c2 : j = k
    · rw [c2, updF_same, updF_same]
      exact m4
    · rw [updF_oth c2, updF_oth c2]
      exact hv j hj
theorem SO.one {x y : StV} {d h : Nat} {c : Int32} (S : SO x y d h c) (hh : h < 100) (hn : 0 ≤ (x.1 2).toInt) (ht : (x.1 2).toInt / 60 < h) : SO (passOne x) (passOne y) d h c := by
  obtain ⟨S1, e1⟩ := S.turn hh (k := 0) (e := 1) (by decide) (by decide) (by decide) hn ht
  obtain ⟨S2, e2⟩ := S1.turn hh (k := 1) (e := 0) (by decide) (by decide) (by decide) (by rw [e1]; exact hn) (by rw [e1]; exact ht)
  obtain ⟨S3, e3⟩ := S2.turn hh (k := 2) (e := 3) (by decide) (by decide) (by decide) (by rw [e2, e1]; exact hn) (by rw [e2, e1]; exact ht)
  obtain ⟨S4, -⟩ := S3.turn hh (k := 3) (e := 2) (by decide) (by decide) (by decide) (by rw [e3, e2, e1]; exact hn) (by rw [e3, e2, e1]; exact ht)
  obtain ⟨a, b, dv, hv⟩ := S4
  refine ⟨?_, b, fun j hj => ?_, fun j hj => ?_⟩
  · rw [one_g, one_g]
    exact congrArg (fun g : Nat → Int32 => upd g 2 (g 2 + 1)) a
  · rw [one_v _ j hj, one_v _ j hj]
    exact dv j hj
  · rw [one_h _ j hj, one_h _ j hj]
    exact hv j hj
theorem SO.pass {x y : StV} {f : Nat → Int64} (R : RR x f) (I : II x) {d h : Nat} {c : Int32} (S : SO x y d h c) (hh : h < 100) : ∀ n : Nat, (x.1 2).toInt + n ≤ 60 * h → SO (passN x n) (passN y n) d h c
  | 0, _ => S
  | n + 1, hn => by
    obtain ⟨-, I1, e, -⟩ := sim_pass R I n (by omega)
    exact (SO.pass R I S hh n (by omega)).one hh I1.n.1 (by rw [e]; omega)
/-- an hour that has not begun keeps its state -/
theorem hour_keeps {x : StV} {f : Nat → Int64} (R : RR x f) (I : II x) {d h : Nat} (hd : d < 4) (hh : h < 100) {n : Nat} (hn : (x.1 2).toInt + n ≤ 60 * h) : (passN x n).2.2.2 d h = x.2.2.2 d h := by
  have S : SO x x d h (x.2.2.2 d h).toInt32 := by
    refine ⟨rfl, rfl, fun _ _ => rfl, fun j hj => ?_⟩
    by_cases c : j = d
    · subst c
      rw [if_pos rfl]
      funext q
      unfold upd8
      by_cases z : q = h
      · rw [if_pos z, z, Int8.toInt8_toInt32]
      · rw [if_neg z]
    · rw [if_neg c]
  have e := congrFun ((SO.pass R I S hh n hn).2.2.2 d hd) h
  rw [if_pos rfl] at e
  rw [e]
  unfold upd8
  rw [if_pos rfl, Int8.toInt8_toInt32]
theorem SO.toR {x y w : StV} {d h : Nat} {c : Int32} (S : SO x y d h c) (S' : SO x w d h c) {f : Nat → Int64} (R : RR y f) : RR w f := by
  obtain ⟨a, b, dv, hv⟩ := S
  obtain ⟨a', b', dv', hv'⟩ := S'
  have e1 : w.1 = y.1 := a'.trans a.symm
  have e2 : w.2.1 = y.2.1 := b'.trans b.symm
  have e3 : ∀ j : Nat, j < 4 → w.2.2.1 j = y.2.2.1 j := fun j hj => (dv' j hj).trans (dv j hj).symm
  have e4 : ∀ j : Nat, j < 4 → w.2.2.2 j = y.2.2.2 j := fun j hj => (hv' j hj).trans (hv j hj).symm
  refine ⟨⟨?_, ?_, fun j hj => ?_, fun j hj => ?_⟩, fun j hj => ?_⟩
  · rw [e1]
    exact R.1.1
  · rw [e2]
    exact R.1.2.1
  · rw [e3 j hj]
    exact R.1.2.2.1 j hj
  · rw [e4 j hj]
    exact R.1.2.2.2 j hj
  · rw [e3 j hj]
    exact R.2 j hj
theorem SO.toI {x y w : StV} {d h : Nat} {c : Int32} (S : SO x y d h c) (S' : SO x w d h c) (I : II y) : II w := by
  obtain ⟨a, b, dv, hv⟩ := S
  obtain ⟨a', b', dv', hv'⟩ := S'
  have e1 : w.1 = y.1 := a'.trans a.symm
  have e2 : w.2.1 = y.2.1 := b'.trans b.symm
  have e3 : ∀ j : Nat, j < 4 → w.2.2.1 j = y.2.2.1 j := fun j hj => (dv' j hj).trans (dv j hj).symm
  have e4 : ∀ j : Nat, j < 4 → w.2.2.2 j = y.2.2.2 j := fun j hj => (hv' j hj).trans (hv j hj).symm
  obtain ⟨⟨i1, i2, i3, i4, i5, i6⟩, i7⟩ := I
  unfold II
  rw [e1]
  refine ⟨⟨by rw [e1], i2, ?_, ?_, fun j hj => ?_, fun j hj => ?_⟩, fun j hj => ?_⟩
  · rw [e2]
    exact i3
  · rw [e1]
    exact i4
  · rw [e3 j hj]
    exact i5 j hj
  · rw [e4 j hj]
    exact i6 j hj
  · rw [e3 j hj]
    exact i7 j hj
