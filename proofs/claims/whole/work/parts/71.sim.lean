/-! THE SIMULATION: the first safe hour -/
theorem nI_i {a : Int32} {n : Nat} (h : a.toInt = (n : Int)) : a = nI n := by
  rw [of_T (k := a) (by omega), h, Int.toNat_natCast]
theorem nI_s1 {n : Nat} (h : n < 2000000000) : nI n + 1 = nI (n + 1) := nI_i (by rw [T_add (by rw [nI_T (by omega), T_1]; omega) (by rw [nI_T (by omega), T_1]; omega), nI_T (by omega), T_1]; omega)
theorem hsv_nat (hk : Nat → Int8) {h : Nat} (hh : h < 100) : hsv hk (nI h).toInt = (hk h).toInt32 := by
  unfold hsv
  rw [nI_T (by omega), if_pos (by omega), Int.toNat_natCast]
theorem soldAt_SO (x : StV) {d h : Nat} (hd : d < 4) (hh : h < 100) : SO x (soldAt x (nI d) (nI h)) d h 1 := by
  unfold soldAt
  rw [nI_clamp (n := d) (by omega)]
  refine ⟨rfl, rfl, fun j hj => ?_, fun j hj => ?_⟩
  · show updF x.2.2.1 d (x.2.2.1 d) j = x.2.2.1 j
    by_cases c : j = d
    · rw [c, updF_same]
    · rw [updF_oth c]
  · show updF x.2.2.2 d _ j = _
    by_cases c : j = d
    · rw [c, updF_same, if_pos rfl, mk_eq, nI_T (by omega), if_pos (by omega), Int.toNat_natCast]
      rfl
    · rw [updF_oth c, if_neg c]
theorem sold_RR {x : StV} {f : Nat → Int64} (R : RR x f) (v : Nat → Int32) (g : Nat → Int64) {d h : Nat} (hd : d < 4) (hh : h < 100) : RR (soldAt x (nI d) (nI h)) (vp_updL (f_X5_tries_g v f g) (56 + 100 * nI d + nI h).toNatClampNeg 1) := by
  obtain ⟨a, b, dv, hv⟩ := soldAt_SO x hd hh
  have L := R.tries v g
  rw [hidx32 (vp_in_nI hd (by decide)) (vp_in_nI hh (by decide)), nI_clamp (n := d) (by omega), nI_clamp (n := h) (by omega), nI_clamp (by omega)]
  refine ⟨⟨?_, ?_, fun j hj => ?_, fun j hj => ?_⟩, fun j hj => ?_⟩
  · rw [a]
    exact L.1.1.oth (by omega)
  · rw [b]
    exact L.1.2.1.oth (by omega)
  · rw [dv j hj]
    exact (L.1.2.2.1 j hj).oth (by omega)
  · rw [hv j hj]
    by_cases c : j = d
    · subst c
      rw [if_pos rfl]
      refine ((L.1.2.2.2 j hj).set (j := h) (y := 1) (by decide)).ext fun q _ => ?_
      unfold upd upd8
      by_cases z : q = h
      · rw [if_pos z, if_pos z]
        rfl
      · rw [if_neg z, if_neg z]
    · rw [if_neg c]
      exact (L.1.2.2.2 j hj).oth (by omega)
  · rw [dv j hj, vp_oth (by omega)]
    exact L.2 j hj
theorem sold_II {x : StV} (I : II x) {d h : Nat} (hd : d < 4) (hh : h < 100) : II (soldAt x (nI d) (nI h)) := by
  obtain ⟨a, b, dv, hv⟩ := soldAt_SO x hd hh
  refine II.mk (by rw [a]; exact I.n) (by rw [b]; exact I.1.2.2.1) (by rw [a]; exact I.1.2.2.2.1) (fun j hj => by rw [a, dv j hj]; exact I.dv hj) (fun j hj => ?_) (fun j hj => by rw [a, dv j hj]; exact I.2 j hj)
  rw [a, hv j hj]
  by_cases c : j = d
  · rw [if_pos c]
    have z := (I.hv hj).mark (y := (h : Int)) (x := 1) (by omega) (by decide) (fun _ => by decide)
    rw [Int.toNat_natCast] at z
    exact z
  · rw [if_neg c]
    exact I.hv hj
theorem safe_is {x : StV} {f : Nat → Int64} (R : RR x f) (I : II x) (hn : (x.1 2).toInt ≤ 12990000) (v : Nat → Int32) (g : Nat → Int64) {d T M : Nat} (hd : d < 4) (hT : T < 100) (hM : (x.1 2).toInt + M = 60 * T) :
    (noLoud (soldAt (passN x M) (nI d) (nI T)) (60 : Int32).toNatClampNeg).1 = 0 ↔ f_X5_isSafe_r v f g (nI d) (nI T) = 0 := by
  have n0 := I.n
  have Ry := sold_RR R v g hd hT
  have Iy := sold_II I hd hT
  have y2 : ((soldAt x (nI d) (nI T)).1 2).toInt = (x.1 2).toInt := rfl
  obtain ⟨-, I1, e1, -⟩ := sim_pass R I M (by omega)
  obtain ⟨R2, I2, e2, -⟩ := sim_pass Ry Iy M (by omega)
  have S0 := soldAt_SO x hd hT
  have SM := SO.pass R I S0 hT M (by omega)
  have Sw := soldAt_SO (passN x M) hd hT
  have Rw := SM.toR Sw R2
  have Iw := SM.toI Sw I2
  have w2 : ((soldAt (passN x M) (nI d) (nI T)).1 2).toInt = ((passN x M).1 2).toInt := rfl
  have n60 : (60 : Int32).toNatClampNeg = 60 := by decide
  obtain ⟨R3, I3, -⟩ := sim_pass Rw Iw 60 (by rw [w2, e1]; omega)
  have nl := noLoud_ov 60 Rw Iw (by rw [w2, e1]; omega)
  have eM : ((60 * (nI T).toInt64 - f 0).toInt32).toNatClampNeg = M := by
    have m60 : (60 * nI T).toInt = 60 * (T : Int) := by rw [T_mul (by rw [nI_T (by omega), T_60]; omega) (by rw [nI_T (by omega), T_60]; omega), nI_T (by omega), T_60]
    have s : (60 * nI T - x.1 2).toInt = (M : Int) := by rw [T_sub (by rw [m60]; omega) (by rw [m60]; omega), m60]; omega
    rw [R.t, E_60, ← E_mul (by rw [nI_T (by omega), T_60]; omega) (by rw [nI_T (by omega), T_60]; omega), ← E_sub (by rw [m60]; omega) (by rw [m60]; omega), E_toInt32, nI_i s, nI_clamp (by omega)]
  have oc := ov_cmp Rw Iw R3 I3
  rw [n60, nl]
  unfold f_X5_isSafe_r f_X5_isSafe_x6 f_X5_isSafe_rq5 f_X5_isSafe_gq2
  rw [eM, n60]
  by_cases c : ovT (passN (soldAt (passN x M) (nI d) (nI T)) 60) = ovT (soldAt (passN x M) (nI d) (nI T))
  · rw [if_pos (oc.mpr c)]
    exact ⟨fun h => absurd c h, fun h => absurd h (by decide)⟩
  · rw [if_neg (fun h => c (oc.mp h))]
    exact ⟨fun _ => rfl, fun _ => c⟩
theorem T_24 : (24 : Int32).toInt = 24 := by decide
theorem T_99 : (99 : Int32).toInt = 99 := by decide
theorem safe_eq {x : StV} {f : Nat → Int64} (R : RR x f) (I : II x) (hn : (x.1 2).toInt ≤ 12990000) (v : Nat → Int32) {d H : Nat} (hd : d < 4) (hH : (x.1 2).toInt / 60 = H) {l : Int32} (hl : l.toInt = min ((H : Int) + 24) 99) :
    ∀ (m j a : Nat) (xu : StV) (g : Nat → Int64), m + j = 24 → (j = 0 ∧ a = 0 ∨ 1 ≤ j ∧ (x.1 2).toInt + a = 60 * (H + j)) → (safeF (nI d) l (m + 1) (nI (H + 1 + j)) (passN x a) xu).1 = (safM v f (nI d) m (nI (H + 1 + j)).toInt64 g).1
  | 0, j, a, xu, g, hj, _ => by
    have n0 := I.n
    unfold safeF
    rw [if_pos (lt_T.mpr (by rw [hl, nI_T (by omega)]; omega))]
    rfl
  | m + 1, j, a, xu, g, hj, ha => by
    have n0 := I.n
    have tT : (nI (H + 1 + j)).toInt = ((H + 1 + j : Nat) : Int) := nI_T (by omega)
    have h100 := Ec_ge (x := nI (H + 1 + j)) (y := 100)
    rw [← E_100] at h100
    unfold safeF safM
    by_cases c0 : H + 1 + j < 100
    · rw [if_neg (fun h => by have := lt_T.mp h; rw [hl, tT] at this; omega), if_neg (show ¬ 0 ≤ lg_cmp (nI (H + 1 + j)).toInt64 100 from fun h => by have := le_T.mp (h100.mp h); rw [tT, show (100 : Int32).toInt = 100 by decide] at this; omega), E_toInt32]
      obtain ⟨M, hM⟩ : ∃ M : Nat, (x.1 2).toInt + M = 60 * ((H + 1 + j : Nat) : Int) := ⟨(60 * ((H + 1 + j : Nat) : Int) - (x.1 2).toInt).toNat, by omega⟩
      obtain ⟨b, hb, hb1, hb2⟩ : ∃ b : Nat, a + b = M ∧ 1 ≤ b ∧ b ≤ 60 := ⟨M - a, by omega, by omega, by omega⟩
      obtain ⟨-, I1, e1, -⟩ := sim_pass R I a (by omega)
      have m60 : (nI (H + 1 + j) * 60).toInt = 60 * ((H + 1 + j : Nat) : Int) := by rw [T_mul (by rw [tT, T_60]; omega) (by rw [tT, T_60]; omega), tT, T_60]; omega
      have sb : nI (H + 1 + j) * 60 - (passN x a).1 2 = nI b := nI_i (by rw [T_sub (by rw [m60, e1]; omega) (by rw [m60, e1]; omega), m60, e1]; omega)
      have pm : f_X3_passMinutes_x (passN x a) (nI (H + 1 + j) * 60 - (passN x a).1 2) = passN x M := by
        unfold f_X3_passMinutes_x
        rw [sb, if_neg ((ps4_T (nI b)).mpr (by rw [nI_T (by omega)]; omega)), nI_clamp (by omega), passN_add, hb]
      have hs : f_X0_hourState_r ((passN x M).2.2.1 (nI d).toNatClampNeg) ((passN x M).2.2.2 (nI d).toNatClampNeg) (nI (H + 1 + j)) = f_X5_hourOf_r f (nI d) (nI (H + 1 + j)).toInt64 := by
        rw [nI_clamp (n := d) (by omega), hs_eq, ho_eq (R.1.2.2.2 d hd) hd, hsv_nat _ c0, hsv_nat _ c0, hour_keeps R I hd c0 (by omega)]
      have st := safe_is R I hn v g hd c0 hM
      have nx : (nI (H + 1 + j)).toInt64 + 1 = (nI (H + 1 + (j + 1))).toInt64 := by
        rw [E_1, ← E_add (by rw [tT, T_1]; omega) (by rw [tT, T_1]; omega), nI_s1 (by omega)]
        rfl
      have nx' : nI (H + 1 + j) + 1 = nI (H + 1 + (j + 1)) := nI_s1 (by omega)
      rw [pm, hs, nx, nx']
      by_cases c1 : f_X5_hourOf_r f (nI d) (nI (H + 1 + j)).toInt64 = 0
      · rw [if_pos c1, if_pos c1]
        by_cases c2 : f_X5_isSafe_r v f g (nI d) (nI (H + 1 + j)) = 0
        · rw [if_pos (st.mpr c2), if_pos c2]
          exact safe_eq R I hn v hd hH hl m (j + 1) M _ _ (by omega) (.inr ⟨by omega, by omega⟩)
        · rw [if_neg (fun h => c2 (st.mp h)), if_neg c2]
      · rw [if_neg c1, if_neg c1]
        exact safe_eq R I hn v hd hH hl m (j + 1) M _ _ (by omega) (.inr ⟨by omega, by omega⟩)
    · rw [if_pos (lt_T.mpr (by rw [hl, tT]; omega)), if_pos (h100.mpr (le_T.mpr (by rw [tT, show (100 : Int32).toInt = 100 by decide]; omega)))]
theorem an_safe {x : StV} {f : Nat → Int64} (R : RR x f) (I : II x) (hn : (x.1 2).toInt ≤ 12990000) (xt xu : StV) (v : Nat → Int32) (g : Nat → Int64) (k : Int32) : f_X4_firstSafe_r x xt xu k = f_X5_firstSafe_r v f g k := by
  unfold f_X4_firstSafe_r f_X5_firstSafe_r f_X4_firstSafe_s f_X5_firstSafe_s
  rcases drC k with ⟨a, b⟩ | ⟨a, b, d, hd, rfl⟩
  · rw [if_pos a, if_pos b]
  · rw [if_neg a, if_neg b]
    have n0 := I.n
    obtain ⟨q1, -⟩ := so_hr (g := x.1) n0.1
    have hN : f_X3_hourOfNow_r x.1 = nI ((x.1 2).toInt / 60).toNat := nI_i (by show (x.1 2 / 60).toInt = _; rw [q1]; omega)
    have hH : (x.1 2).toInt / 60 = (((x.1 2).toInt / 60).toNat : Int) := by omega
    generalize ((x.1 2).toInt / 60).toNat = H at hN hH
    have hl : (imin (f_X3_hourOfNow_r x.1 + 24) 99).toInt = min ((H : Int) + 24) 99 := by
      rw [T_min, hN, T_add (by rw [nI_T (by omega), T_24]; omega) (by rw [nI_T (by omega), T_24]; omega), nI_T (by omega), T_24, T_99]
    have ft : f 0 / 60 + 1 = (nI (H + 1)).toInt64 := by
      rw [R.t, E_60, ← E_div (by decide), show x.1 2 / 60 = nI H from hN, E_1, ← E_add (by rw [nI_T (by omega), T_1]; omega) (by rw [nI_T (by omega), T_1]; omega), nI_s1 (by omega)]
    rw [ft, show f_X3_hourOfNow_r x.1 + 1 = nI (H + 1) by rw [hN, nI_s1 (by omega)]]
    exact safe_eq R I hn v hd hH hl 24 0 0 xu g rfl (.inl ⟨rfl, rfl⟩)
