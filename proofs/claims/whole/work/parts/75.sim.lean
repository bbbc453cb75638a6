/-! THE SIMULATION: hours sold and given back, minutes passed -/
theorem SO.setR {x X : StV} {f : Nat → Int64} {d h : Nat} {c : Int32} (S : SO x X d h c) (R : RR x f) (hd : d < 4) (hh : h < 100) (hc : c = 0 ∨ c = 1) : RR X (vp_updL f (56 + 100 * d + h) c.toInt64) := by
  obtain ⟨a, b, dv, hv⟩ := S
  refine ⟨⟨?_, ?_, fun j hj => ?_, fun j hj => ?_⟩, fun j hj => ?_⟩
  · rw [a]
    exact R.1.1.oth (by omega)
  · rw [b]
    exact R.1.2.1.oth (by omega)
  · rw [dv j hj]
    exact (R.1.2.2.1 j hj).oth (by omega)
  · rw [hv j hj]
    by_cases e : j = d
    · subst e
      rw [if_pos rfl]
      refine ((R.1.2.2.2 j hj).set (j := h) (y := c) rfl).ext fun q _ => ?_
      unfold upd upd8
      by_cases z : q = h
      · rw [if_pos z, if_pos z]
        rcases hc with hc | hc <;> rw [hc] <;> rfl
      · rw [if_neg z, if_neg z]
    · rw [if_neg e]
      exact (R.1.2.2.2 j hj).oth (by omega)
  · rw [dv j hj, vp_oth (by omega)]
    exact R.2 j hj
theorem SO.setI {x X : StV} {d h : Nat} {c : Int32} (S : SO x X d h c) (I : II x) (hh : h < 100) (hc : c = 0 ∨ c = 1) : II X := by
  obtain ⟨a, b, dv, hv⟩ := S
  refine II.mk (by rw [a]; exact I.n) (by rw [b]; exact I.1.2.2.1) (by rw [a]; exact I.1.2.2.2.1) (fun j hj => by rw [a, dv j hj]; exact I.dv hj) (fun j hj => ?_) (fun j hj => by rw [a, dv j hj]; exact I.2 j hj)
  rw [a, hv j hj]
  by_cases e : j = d
  · rw [if_pos e]
    have z := (I.hv hj).mark (y := (h : Int)) (x := c) (by omega) (by rcases hc with hc | hc <;> rw [hc] <;> decide) (fun _ => by rcases hc with hc | hc <;> rw [hc] <;> decide)
    rw [Int.toNat_natCast] at z
    exact z
  · rw [if_neg e]
    exact I.hv hj
theorem hrs_pos {x : StV} {f : Nat → Int64} (R : RR x f) (I : II x) {d : Nat} (hd : d < 4) : 0 ≤ (hrsA f (nI d) 0 100).toInt := by
  rw [hrs_0 R I hd 100 (by omega)]
  have := cnt_rng (x.2.2.2 d) 0 100 (by omega)
  omega
theorem op_trade {x : StV} {f : Nat → Int64} (R : RR x f) (I : II x) (v v' : Nat → Int32) (k y : Int32) {z u q : Int32} (hz : (z = 0 ∧ u = 1 ∧ q = 1) ∨ (z = 1 ∧ u = 0 ∧ q = 0)) : OP x (f_X3_changeHour_r x k y z u) (f_X3_changeHour_x x k y z u) (f_X5_mayTrade_r v f k y q) f (f_X5_trades_f v' f k y q) (f_X5_trades_r v' f k y q) := by
  unfold OP f_X3_changeHour_r f_X3_changeHour_x f_X5_mayTrade_r f_X5_mayTrade_x6 f_X5_mayTrade_x5 f_X5_mayTrade_x3
  rcases drC k with ⟨a, b⟩ | ⟨a, b, d, hd, rfl⟩
  · rw [if_pos a, if_pos a, if_pos b]
    exact .inl ⟨by decide, rfl, rfl⟩
  · rw [if_neg a, if_neg a, if_neg b]
    rcases hrC y with ⟨a', b'⟩ | ⟨a', b', h, hh, rfl⟩
    · rw [if_pos a', if_pos a', if_pos b']
      exact .inl ⟨by decide, rfl, rfl⟩
    · rw [if_neg a', if_neg a', if_neg b']
      have n0 := I.n
      have hr : f 0 / 60 = (f_X3_hourOfNow_r x.1).toInt64 := by
        unfold f_X3_hourOfNow_r
        rw [R.t, E_60, ← E_div (by decide)]
      have hN : (f_X3_hourOfNow_r x.1).toInt = (x.1 2).toInt / 60 := (so_hr (g := x.1) n0.1).1
      have cc := Ec_le (x := nI h) (y := f_X3_hourOfNow_r x.1)
      rw [hr]
      by_cases c1 : nI h ≤ f_X3_hourOfNow_r x.1
      · rw [if_pos c1, if_pos c1, if_pos (cc.mpr c1), if_pos rfl]
        exact .inl ⟨by decide, rfl, rfl⟩
      · rw [if_neg c1, if_neg c1, if_neg (fun e => c1 (cc.mp e)), if_neg (show ¬ (1 : Int32) = 0 by decide)]
        have lt := mt le_T.mpr c1
        rw [hN, nI_T (by omega)] at lt
        have rq4 : f_X3_changeHour_rq4 x (nI d) (nI h) z u = (x.2.2.2 d h).toInt32 := by
          unfold f_X3_changeHour_rq4
          rw [hs_eq, hsv_nat _ hh, nI_clamp (n := d) (by omega)]
        rw [rq4, ho_n R hd hh]
        have h01 := ((I.hv hd) h hh).2 (by omega)
        have agree : ((if (x.2.2.2 d h).toInt32 = 0 then (1 : Int32) else 0) = q) ↔ (x.2.2.2 d h).toInt32 = z := by
          rcases hz with ⟨rfl, rfl, rfl⟩ | ⟨rfl, rfl, rfl⟩ <;> rcases h01 with h01 | h01 <;> rw [h01] <;> decide
        by_cases c2 : (x.2.2.2 d h).toInt32 = z
        · rw [if_pos c2, if_pos c2, if_pos (agree.mpr c2)]
          have hu : u = 0 ∨ u = 1 := by rcases hz with ⟨_, e, _⟩ | ⟨_, e, _⟩ <;> simp [e]
          have fq : f_X3_changeHour_fq5 x (nI d) (nI h) z u = upd8 (x.2.2.2 d) h u := by
            unfold f_X3_changeHour_fq5
            rw [mk_eq, nI_T (by omega), if_pos (by omega), Int.toNat_natCast, nI_clamp (n := d) (by omega)]
            rcases hu with e | e <;> rw [e] <;> rfl
          have S : SO x (x.1, x.2.1, updF x.2.2.1 (nI d).toNatClampNeg (x.2.2.1 (nI d).toNatClampNeg), updF x.2.2.2 (nI d).toNatClampNeg (f_X3_changeHour_fq5 x (nI d) (nI h) z u)) d h u := by
            rw [fq, nI_clamp (n := d) (by omega)]
            refine ⟨rfl, rfl, fun j hj => updF_id _ _ _, fun j hj => ?_⟩
            show updF x.2.2.2 d _ j = _
            by_cases e : j = d
            · rw [e, updF_same, if_pos rfl]
            · rw [updF_oth e, if_neg e]
          have ix : (56 + 100 * nI d + nI h).toNatClampNeg = 56 + 100 * d + h := by
            rw [hidx32 (vp_in_nI hd (by decide)) (vp_in_nI hh (by decide)), nI_clamp (n := d) (by omega), nI_clamp (n := h) (by omega), nI_clamp (by omega)]
          have R' := S.setR R hd hh hu
          have I' := S.setI I hh hu
          have tf : f_X5_trades_f v' f (nI d) (nI h) q = vp_updL f (56 + 100 * d + h) u.toInt64 := by
            unfold f_X5_trades_f f_X5_trades_x1
            rw [ix]
            rcases hz with ⟨_, e, e'⟩ | ⟨_, e, e'⟩ <;> rw [e, e'] <;> rfl
          have an : f_X3_changeHour_rq6 x (nI d) (nI h) z u = f_X5_trades_r v' f (nI d) (nI h) q := by
            show f_X3_changeHour_rq6 x (nI d) (nI h) z u = hrsA (f_X5_trades_f v' f (nI d) (nI h) q) (nI d) 0 100
            rw [tf, ← sold_eq R' I' hd (x.2.2.1 (nI d).toNatClampNeg)]
            unfold f_X3_changeHour_rq6
            exact congrArg (f_X0_soldHours_r _) (by rw [nI_clamp (n := d) (by omega)]; exact (updF_same _ _ _).symm)
          refine .inr ⟨rfl, ?_, an, ?_, I'⟩
          · rw [an]
            show 0 ≤ (hrsA (f_X5_trades_f v' f (nI d) (nI h) q) (nI d) 0 100).toInt
            rw [tf]
            exact hrs_pos R' I' hd
          · rw [tf]
            exact R'
        · rw [if_neg c2, if_neg c2, if_neg (fun e => c2 (agree.mp e))]
          exact .inl ⟨by decide, rfl, rfl⟩
theorem op_pass {x : StV} {f : Nat → Int64} (R : RR x f) (I : II x) (hn : (x.1 2).toInt ≤ 12990000) (k : Int32) : (f_X5_areMinutes_r k = 0 ∧ f_X3_passMinutes_r x k = -2 ∧ f_X3_passMinutes_x x k = x) ∨ (¬ f_X5_areMinutes_r k = 0 ∧ 0 ≤ (f_X3_passMinutes_r x k).toInt ∧ f_X3_passMinutes_r x k = (pasM f k.toNatClampNeg 0).toInt32 ∧ RR (f_X3_passMinutes_x x k) (pasM f k.toNatClampNeg) ∧ II (f_X3_passMinutes_x x k) ∧ ((f_X3_passMinutes_x x k).1 2).toInt ≤ (x.1 2).toInt + 600) := by
  unfold f_X3_passMinutes_r f_X3_passMinutes_x
  rcases psC k with ⟨a, b⟩ | ⟨a, b, n, h6, rfl⟩
  · rw [if_pos a, if_pos a]
    exact .inl ⟨b, rfl, rfl⟩
  · rw [if_neg a, if_neg a, nI_clamp (by omega)]
    have n0 := I.n
    obtain ⟨R1, I1, e1, -⟩ := sim_pass R I n (by omega)
    exact .inr ⟨b, by rw [e1]; omega, by rw [R1.t, E_toInt32], R1, I1, by rw [e1]; omega⟩
