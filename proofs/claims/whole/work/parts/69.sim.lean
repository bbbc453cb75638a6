/-! THE SIMULATION: what is asked of times to come -/
theorem nI_T {n : Nat} (h : n < 2147483648) : (nI n).toInt = (n : Int) := nI_toInt (by omega)
theorem of_T {k : Int32} (h : 0 ≤ k.toInt) : k = nI k.toInt.toNat := by
  have := k.toInt_lt
  apply Int32.toInt_inj.mp
  rw [nI_T (by omega)]
  omega
theorem dr4_T (k : Int32) : (¬ f_X4_isDrive_r k = 0) ↔ (0 ≤ k.toInt ∧ k.toInt ≤ 3) := by
  unfold f_X4_isDrive_r f_X4_isDrive_x1
  by_cases c0 : k < 0
  · rw [if_pos c0]
    have := lt_T.mp c0
    rw [T_0] at this
    exact ⟨fun h => absurd rfl h, fun h => by omega⟩
  · rw [if_neg c0]
    have h0 := le_T.mp (Int32.not_lt.mp c0)
    rw [T_0] at h0
    by_cases c1 : 4 ≤ k
    · rw [if_pos c1]
      have := le_T.mp c1
      rw [show (4 : Int32).toInt = 4 by decide] at this
      exact ⟨fun h => absurd rfl h, fun h => by omega⟩
    · rw [if_neg c1]
      have := lt_T.mp (Int32.not_le.mp c1)
      rw [show (4 : Int32).toInt = 4 by decide] at this
      exact ⟨fun _ => ⟨h0, by omega⟩, fun _ => by decide⟩
theorem ps4_T (k : Int32) : (¬ f_X4_arePassable_r k = 0) ↔ (1 ≤ k.toInt ∧ k.toInt ≤ 600) := by
  unfold f_X4_arePassable_r f_X4_arePassable_x1
  by_cases c0 : k < 1
  · rw [if_pos c0]
    have := lt_T.mp c0
    rw [T_1] at this
    exact ⟨fun h => absurd rfl h, fun h => by omega⟩
  · rw [if_neg c0]
    have h0 := le_T.mp (Int32.not_lt.mp c0)
    rw [T_1] at h0
    by_cases c1 : 600 < k
    · rw [if_pos c1]
      have := lt_T.mp c1
      rw [show (600 : Int32).toInt = 600 by decide] at this
      exact ⟨fun h => absurd rfl h, fun h => by omega⟩
    · rw [if_neg c1]
      have := le_T.mp (Int32.not_lt.mp c1)
      rw [show (600 : Int32).toInt = 600 by decide] at this
      exact ⟨fun _ => ⟨h0, by omega⟩, fun _ => by decide⟩
theorem in_T (k : Int32) (a b : Int64) : (¬ f_X5_in_r k.toInt64 a b = 0) ↔ (a.toInt ≤ k.toInt ∧ k.toInt ≤ b.toInt) := by
  rw [in_iff, Int32.toInt_toInt64]
theorem dr5_T (k : Int32) : (¬ f_X5_isDrive_r k = 0) ↔ (0 ≤ k.toInt ∧ k.toInt ≤ 3) := in_T k 0 3
theorem ps5_T (k : Int32) : (¬ f_X5_areMinutes_r k = 0) ↔ (1 ≤ k.toInt ∧ k.toInt ≤ 600) := in_T k 1 600
theorem hr5_T (k : Int32) : (¬ f_X5_isHour_r k = 0) ↔ (0 ≤ k.toInt ∧ k.toInt ≤ 99) := in_T k 0 99
theorem drC (k : Int32) : (f_X4_isDrive_r k = 0 ∧ f_X5_isDrive_r k = 0) ∨ (¬ f_X4_isDrive_r k = 0 ∧ ¬ f_X5_isDrive_r k = 0 ∧ ∃ d : Nat, d < 4 ∧ k = nI d) := by
  have a := dr4_T k
  have b := dr5_T k
  by_cases c : 0 ≤ k.toInt ∧ k.toInt ≤ 3
  · exact .inr ⟨a.mpr c, b.mpr c, k.toInt.toNat, by omega, of_T c.1⟩
  · exact .inl ⟨Classical.byContradiction fun h => c (a.mp h), Classical.byContradiction fun h => c (b.mp h)⟩
theorem psC (k : Int32) : (f_X4_arePassable_r k = 0 ∧ f_X5_areMinutes_r k = 0) ∨ (¬ f_X4_arePassable_r k = 0 ∧ ¬ f_X5_areMinutes_r k = 0 ∧ ∃ n : Nat, n ≤ 600 ∧ k = nI n) := by
  have a := ps4_T k
  have b := ps5_T k
  by_cases c : 1 ≤ k.toInt ∧ k.toInt ≤ 600
  · exact .inr ⟨a.mpr c, b.mpr c, k.toInt.toNat, by omega, of_T (by omega)⟩
  · exact .inl ⟨Classical.byContradiction fun h => c (a.mp h), Classical.byContradiction fun h => c (b.mp h)⟩
theorem hrC (k : Int32) : (f_X4_isHour_r k = 0 ∧ f_X5_isHour_r k = 0) ∨ (¬ f_X4_isHour_r k = 0 ∧ ¬ f_X5_isHour_r k = 0 ∧ ∃ n : Nat, n < 100 ∧ k = nI n) := by
  have a := isHour_T k
  have b := hr5_T k
  by_cases c : 0 ≤ k.toInt ∧ k.toInt ≤ 99
  · exact .inr ⟨a.mpr (by omega), b.mpr c, k.toInt.toNat, by omega, of_T (by omega)⟩
  · exact .inl ⟨Classical.byContradiction fun h => c (by have := a.mp h; omega), Classical.byContradiction fun h => c (b.mp h)⟩
theorem askC (k y : Int32) : (¬ f_X4_errorOfQuestion_r k y = 0 ∧ f_X5_mayAsk_r k y = f_X4_errorOfQuestion_r k y) ∨ (f_X4_errorOfQuestion_r k y = 0 ∧ f_X5_mayAsk_r k y = 0 ∧ (∃ d : Nat, d < 4 ∧ k = nI d) ∧ ¬ f_X4_arePassable_r y = 0 ∧ ∃ n : Nat, n ≤ 600 ∧ y = nI n) := by
  unfold f_X4_errorOfQuestion_r f_X4_errorOfQuestion_x3 f_X5_mayAsk_r f_X5_mayAsk_x3
  rcases drC k with ⟨a, b⟩ | ⟨a, b, c⟩
  · rw [if_pos a, if_pos b]
    exact .inl ⟨by decide, rfl⟩
  · rw [if_neg a, if_neg b]
    rcases psC y with ⟨a', b'⟩ | ⟨a', b', c'⟩
    · rw [if_pos a', if_pos b']
      exact .inl ⟨by decide, rfl⟩
    · rw [if_neg a', if_neg b']
      exact .inr ⟨rfl, rfl, c, a', c'⟩
theorem row_p {d : Nat} (hd : d < 4) {c : Int32} (hc : decide (¬ (c < 0 ∨ 11 ≤ c.toNatClampNeg)) = true) : (f_X5_row_r (nI d) + c).toNatClampNeg = 12 + 11 * d + c.toNatClampNeg := by
  rw [rw_cl (vp_in_nI hd (by decide)) hc, nI_clamp (by omega)]
theorem RR.tries {x : StV} {f : Nat → Int64} (R : RR x f) (v : Nat → Int32) (g : Nat → Int64) : RR x (f_X5_tries_g v f g) := R.ext fun n hn => lay_0 f g hn
theorem II.ov {x : StV} (I : II x) {d : Nat} (hd : d < 4) : 0 ≤ ((x.2.2.1 d).1 7).toInt ∧ ((x.2.2.1 d).1 7).toInt ≤ 13000000 := by
  have z := I.dv hd
  have := I.n
  exact ⟨z.2.2.2.2.2.2.2.2.2.2.2.1, Int.le_trans z.2.2.2.2.2.2.2.2.2.2.2.2.1 (by omega)⟩
section ASK
variable {x : StV} {f : Nat → Int64}
theorem an_loud (R : RR x f) (I : II x) (hn : (x.1 2).toInt ≤ 12990000) (xt : StV) (v : Nat → Int32) (g : Nat → Int64) (k y : Int32) : f_X4_loudIn_r x xt k y = f_X5_loudIn_r v f g k y := by
  unfold f_X4_loudIn_r f_X5_loudIn_r
  rcases askC k y with ⟨a, b⟩ | ⟨a, b, ⟨d, hd, rfl⟩, c, n, h6, rfl⟩
  · rw [b, if_neg a, if_neg a]
  · rw [if_pos a, if_pos b]
    obtain ⟨R1, I1, -⟩ := sim_pass (R.tries v g) I n (by omega)
    unfold f_X4_tryMinutes_xt f_X3_passMinutes_x
    rw [if_neg c, nI_clamp (by omega), nI_clamp (by omega), row_p hd (by decide), show (7 : Int32).toNatClampNeg = 7 by decide, R.v hd (by decide), R1.v hd (by decide)]
    have o1 := I.ov hd
    have o2 := I1.ov hd
    rw [← E_sub (by omega) (by omega), E_toInt32]
theorem an_free (R : RR x f) (I : II x) (hn : (x.1 2).toInt ≤ 12990000) (xt : StV) (v : Nat → Int32) (g : Nat → Int64) (k y : Int32) : f_X4_freeIn_r x xt k y = f_X5_freeIn_r v f g k y := by
  unfold f_X4_freeIn_r f_X5_freeIn_r
  rcases askC k y with ⟨a, b⟩ | ⟨a, b, ⟨d, hd, rfl⟩, c, n, h6, rfl⟩
  · rw [b, if_neg a, if_neg a]
  · rw [if_pos a, if_pos b]
    obtain ⟨R1, I1, -⟩ := sim_pass (R.tries v g) I n (by omega)
    unfold f_X4_tryMinutes_xt f_X3_passMinutes_x
    rw [if_neg c, nI_clamp (by omega), nI_clamp (by omega), row_p hd (by decide), show (0 : Int32).toNatClampNeg = 0 by decide, R1.v hd (by decide), E_toInt32]
theorem an_most (R : RR x f) (I : II x) (hn : (x.1 2).toInt ≤ 12990000) (xt : StV) (v : Nat → Int32) (g : Nat → Int64) (k y : Int32) : f_X4_mostHeld_r x xt k y = f_X5_mostHeld_r v f g k y := by
  unfold f_X4_mostHeld_r f_X5_mostHeld_r
  rcases askC k y with ⟨a, b⟩ | ⟨a, b, ⟨d, hd, rfl⟩, c, n, h6, rfl⟩
  · rw [b, if_neg a, if_neg a]
  · rw [if_pos a, if_pos b, nI_clamp (by omega), sim_most (R.tries v g) I hd n (by omega), E_toInt32]
/-- the same overruns -/
theorem ov_cmp (R : RR x f) (I : II x) {w : StV} {h : Nat → Int64} (R1 : RR w h) (I1 : II w) : (lg_cmp (f_X5_overruns_r h) (f_X5_overruns_r f) = 0) ↔ ovT w = ovT x := by
  rw [lg_cmp_eq, ← Int64.toInt_inj, ovM R1 I1, ovM R I]
theorem room_eq (R : RR x f) (I : II x) (hn : (x.1 2).toInt ≤ 12990000) {m : Nat} (hm : 1 ≤ m ∧ m ≤ 10) : ∀ (n i : Nat) (xt : StV) (g : Nat → Int64), i + n = 61 → (roomF x (nI m) n i xt).1 = (rooM f (nI m) n i g).1
  | 0, _, _, _, _ => rfl
  | n + 1, i, xt, g, h => by
    have e1 : (nI m * 60).toNatClampNeg = 60 * m := by
      have t : (nI m * 60).toInt = ((60 * m : Nat) : Int) := by
        rw [T_mul (by rw [nI_T (by omega), T_60]; omega) (by rw [nI_T (by omega), T_60]; omega), nI_T (by omega), T_60]
        omega
      rw [of_T (k := nI m * 60) (by rw [t]; omega), t, nI_clamp (by omega)]
      omega
    have e2 : (60 * nI m).toNatClampNeg = 60 * m := by
      rw [Int32.mul_comm]
      exact e1
    have n1 := I.n
    have Rw : RR (x.1, upd x.2.1 6 (nI i), x.2.2.1, x.2.2.2) (vp_updL (lay f 0 g 0 456) 11 (nI i).toInt64) := by
      have L := R.ext fun n hn => lay_0 f g hn
      refine ⟨⟨L.1.1.oth (m := 11) (by omega), L.1.2.1.set (j := 6) rfl, fun d hd => (L.1.2.2.1 d hd).oth (m := 11) (by omega), fun d hd => (L.1.2.2.2 d hd).oth (m := 11) (by omega)⟩, fun d hd => ?_⟩
      rw [vp_oth (by omega)]
      exact L.2 d hd
    have Iw : II (x.1, upd x.2.1 6 (nI i), x.2.2.1, x.2.2.2) := by
      obtain ⟨⟨q1, q2, q3, q4⟩, q5⟩ := I
      refine ⟨⟨q1, q2, ?_, q4⟩, q5⟩
      obtain ⟨s0, s1, s2, s3, s4, s5, s6⟩ := q3
      exact ⟨s0, s1, s2, s3, s4, s5, (show 0 ≤ (nI i).toInt ∧ (nI i).toInt ≤ 60 by rw [nI_T (by omega)]; omega)⟩
    have o0 : ovT (x.1, upd x.2.1 6 (nI i), x.2.2.1, x.2.2.2) = ovT x := rfl
    have hN : (((x.1, upd x.2.1 6 (nI i), x.2.2.1, x.2.2.2) : StV).1 2).toInt + ((60 * m : Nat) : Int) ≤ 13000000 := by
      show (x.1 2).toInt + _ ≤ _
      omega
    obtain ⟨R1, I1, -⟩ := sim_pass Rw Iw (60 * m) hN
    have nl := noLoud_ov (60 * m) Rw Iw hN
    have oc := ov_cmp R I R1 I1
    rw [o0] at nl
    unfold roomF rooM
    rw [e1, e2]
    by_cases c : (noLoud (x.1, upd x.2.1 6 (nI i), x.2.2.1, x.2.2.2) (60 * m)).1 = 0
    · rw [if_pos c, if_neg (fun h => nl.mp c (oc.mp h))]
      exact room_eq R I hn hm n (i + 1) _ _ (by omega)
    · rw [if_neg c, if_pos (oc.mpr (Classical.byContradiction fun h => c (nl.mpr h)))]
theorem an_room (R : RR x f) (I : II x) (hn : (x.1 2).toInt ≤ 12990000) (xt : StV) (v : Nat → Int32) (g : Nat → Int64) (y : Int32) : f_X4_leastRoom_r x xt y = f_X5_leastRoom_r v f g y := by
  unfold f_X4_leastRoom_r f_X5_leastRoom_r f_X5_leastRoom_s
  have a := in_T y 1 10
  rw [show (1 : Int64).toInt = 1 by decide, show (10 : Int64).toInt = 10 by decide] at a
  by_cases c : 1 ≤ y.toInt ∧ y.toInt ≤ 10
  · rw [if_neg (fun h => by have := lt_T.mp h; rw [T_1] at this; omega), if_pos (le_T.mpr (by rw [show (10 : Int32).toInt = 10 by decide]; omega)), if_neg (a.mpr c), of_T (k := y) (by omega)]
    exact room_eq R I hn (by omega) 61 0 xt g rfl
  · rw [if_pos (Classical.byContradiction fun h => c (a.mp h))]
    by_cases c1 : y < 1
    · rw [if_pos c1]
    · rw [if_neg c1, if_neg]
      intro h
      have h1 := le_T.mp h
      have h2 := le_T.mp (Int32.not_lt.mp c1)
      rw [show (10 : Int32).toInt = 10 by decide] at h1
      rw [T_1] at h2
      exact c ⟨h2, h1⟩
end ASK
