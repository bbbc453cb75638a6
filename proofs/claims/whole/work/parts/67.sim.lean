/-! THE SIMULATION: a minute -/
/-- the overruns of all drives -/
def ovT (x : StV) : Int := ((x.2.2.1 0).1 7).toInt + ((x.2.2.1 1).1 7).toInt + ((x.2.2.1 2).1 7).toInt + ((x.2.2.1 3).1 7).toInt
/-- the longs f are the station x -/
def RR (x : StV) (f : Nat → Int64) : Prop := RQ x f ∧ ∀ d : Nat, d < 4 → f (22 + 11 * d) = (x.2.2.1 d).2
/-- a station is in its ranges -/
def II (x : StV) : Prop := IQ x (x.1 2).toInt (4 * min (x.1 2).toInt 6060) (4 * (x.1 2).toInt) (fun _ => 0) ∧ ∀ d : Nat, d < 4 → 0 ≤ (x.2.2.1 d).2.toInt ∧ (x.2.2.1 d).2.toInt ≤ 270000000 * (x.1 2).toInt
theorem lateB_01 (n : Int) : 0 ≤ lateB n ∧ lateB n ≤ 1 := by
  unfold lateB
  split <;> omega
theorem T_01 {y r : Int32} {O : Int} (h : 0 ≤ y.toInt ∧ y.toInt ≤ O) (hO : O ≤ 2000000000) : (y + (if r = 0 then 0 else 1)).toInt = y.toInt + (if r = 0 then 0 else 1) := by
  by_cases c : r = 0
  · rw [if_pos c, if_pos c, Int32.add_zero, Int.add_zero]
  · rw [if_neg c, if_neg c, T_add (by rw [T_1]; omega) (by rw [T_1]; omega), T_1]
theorem one_D (x : StV) {y1 y2 y3 y4 : StV} {r1 r2 r3 r4 : Int32} (D1 : turnD x y1 0 1 r1) (D2 : turnD y1 y2 1 0 r2) (D3 : turnD y2 y3 2 3 r3) (D4 : turnD y3 y4 3 2 r4) :
    (∀ d : Nat, d < 4 → (y4.2.2.1 d).2 = (x.2.2.1 d).2 + ((y4.2.2.1 d).1 3).toInt64) ∧ (y4.2.2.1 0).1 7 = (x.2.2.1 0).1 7 + (if r1 = 0 then 0 else 1) ∧ (y4.2.2.1 1).1 7 = (x.2.2.1 1).1 7 + (if r2 = 0 then 0 else 1) ∧ (y4.2.2.1 2).1 7 = (x.2.2.1 2).1 7 + (if r3 = 0 then 0 else 1) ∧ (y4.2.2.1 3).1 7 = (x.2.2.1 3).1 7 + (if r4 = 0 then 0 else 1) := by
  obtain ⟨a1, b1, c1⟩ := D1
  obtain ⟨a2, b2, c2⟩ := D2
  obtain ⟨a3, b3, c3⟩ := D3
  obtain ⟨a4, b4, c4⟩ := D4
  have b21 := b2 0 (by decide)
  have b31 := b3 0 (by decide)
  have b41 := b4 0 (by decide)
  have b12 := b1 1 (by decide)
  have b32 := b3 1 (by decide)
  have b42 := b4 1 (by decide)
  have b13 := b1 2 (by decide)
  have b23 := b2 2 (by decide)
  have b43 := b4 2 (by decide)
  have b14 := b1 3 (by decide)
  have b24 := b2 3 (by decide)
  have b34 := b3 3 (by decide)
  refine ⟨all4 ?_ ?_ ?_ ?_, ?_, ?_, ?_, ?_⟩
  · rw [b41.1, b41.2.1, b31.1, b31.2.1, b21.1, b21.2.1]
    exact a1
  · rw [b42.1, b42.2.1, b32.1, b32.2.1, ← b12.1]
    exact a2
  · rw [b43.1, b43.2.1, ← b13.1, ← b23.1]
    exact a3
  · rw [← b14.1, ← b24.1, ← b34.1]
    exact a4
  · rw [b41.2.2, b31.2.2, b21.2.2]
    exact c1
  · rw [b42.2.2, b32.2.2, ← b12.2.2]
    exact c2
  · rw [b43.2.2, ← b13.2.2, ← b23.2.2]
    exact c3
  · rw [← b14.2.2, ← b24.2.2, ← b34.2.2]
    exact c4
theorem vp_hit (f : Nat → Int64) (m : Nat) (X : Int64) : vp_updL f m X m = X := if_pos rfl
theorem vp_oth {f : Nat → Int64} {m j : Nat} {X : Int64} (h : ¬ j = m) : vp_updL f m X j = f j := if_neg h
theorem oneM_0 (f : Nat → Int64) : oneM f 0 = sumA f 4 0 + 1 := vp_hit _ _ _
theorem oneM_n (f : Nat → Int64) {m : Nat} (h : ¬ m = 0) : oneM f m = sumA f 4 m := vp_oth h
theorem sim_one {x : StV} {f : Nat → Int64} (R : RR x f) (I : II x) (hn : (x.1 2).toInt + 1 ≤ 13000000) :
    RR (passOne x) (oneM f) ∧ II (passOne x) ∧ ((passOne x).1 2).toInt = (x.1 2).toInt + 1 ∧ (passOne x).2.1 = x.2.1 ∧ ovT x ≤ ovT (passOne x) ∧ (passOneR x = 0 ↔ ovT (passOne x) = ovT x) := by
  obtain ⟨R0, S0⟩ := R
  obtain ⟨I0, Z0⟩ := I
  generalize hN : (x.1 2).toInt = n at hn I0 Z0 ⊢
  have n0 := I0.2.1
  have lb := lateB_01 n
  have u01 : ∀ (b : Nat → Int) (k : Nat), (∀ d : Nat, b d = 0 ∨ b d = 1) → ∀ d : Nat, updF b k 1 d = 0 ∨ updF b k 1 d = 1 := fun b k h d => by
    by_cases z : d = k
    · rw [z, updF_same]
      exact .inr rfl
    · rw [updF_oth z]
      exact h d
  have B0 : ∀ d : Nat, (fun _ => (0 : Int)) d = 0 ∨ (fun _ => (0 : Int)) d = 1 := fun _ => .inl rfl
  obtain ⟨R1, I1, D1, F1, E1⟩ := sim_tq (k := 0) (e := 1) (by decide) (by decide) (by decide) (by decide) R0 I0 B0 rfl (by omega) (by omega)
  obtain ⟨R2, I2, D2, F2, E2⟩ := sim_tq (k := 1) (e := 0) (by decide) (by decide) (by decide) (by decide) R1 I1 (u01 _ 0 B0) rfl (by omega) (by omega)
  obtain ⟨R3, I3, D3, F3, E3⟩ := sim_tq (k := 2) (e := 3) (by decide) (by decide) (by decide) (by decide) R2 I2 (u01 _ 1 (u01 _ 0 B0)) rfl (by omega) (by omega)
  obtain ⟨R4, I4, D4, F4, E4⟩ := sim_tq (k := 3) (e := 2) (by decide) (by decide) (by decide) (by decide) R3 I3 (u01 _ 2 (u01 _ 1 (u01 _ 0 B0))) rfl (by omega) (by omega)
  obtain ⟨S, o0, o1, o2, o3⟩ := one_D x D1 D2 D3 D4
  rw [show turnO (turnO (turnO (turnO x 0 1) 1 0) 2 3) 3 2 = on4 x from rfl] at R4 I4 S o0 o1 o2 o3
  rw [show dayM (dayM (dayM (dayM f (nI 0)) (nI 1)) (nI 2)) (nI 3) = oneA f 4 from rfl] at R4 F4 E4
  obtain ⟨r1, r2, r3, r4⟩ := R4
  obtain ⟨i1, i2, i3, i4, i5, i6⟩ := I4
  obtain ⟨s1, s2⟩ := sumA_at f 4 (by decide)
  have fs : ∀ d : Nat, d < 4 → oneA f 4 (22 + 11 * d) = f (22 + 11 * d) := fun d hd => by rw [F4 d hd, F3 d hd, F2 d hd, F1 d hd]
  have oM : ∀ m : Nat, ¬ m = 0 → oneM f m = sumA f 4 m := fun m hm => oneM_n f hm
  have oM0 : oneM f 0 = oneA f 4 0 + 1 := by rw [oneM_0, s2 0 (fun j hj => by omega)]
  have g0 : (passOne x).1 = upd (on4 x).1 2 ((on4 x).1 2 + 1) := one_g x
  have gs : (passOne x).2.1 = x.2.1 := rfl
  have e2 : ((on4 x).1 2 + 1).toInt = n + 1 := by rw [T_add (by rw [T_1]; omega) (by rw [T_1]; omega), T_1, i1]
  have g2 : ((passOne x).1 2).toInt = n + 1 := by
    rw [g0]
    exact e2
  have b4 : ∀ d : Nat, d < 4 → updF (updF (updF (updF (fun _ => (0 : Int)) 0 1) 1 1) 2 1) 3 1 d = 1 := all4 rfl rfl rfl rfl
  have v3 : ∀ d : Nat, d < 4 → 0 ≤ (((on4 x).2.2.1 d).1 3).toInt ∧ (((on4 x).2.2.1 d).1 3).toInt ≤ 270000000 := fun d hd => by
    have z := i5 d hd
    rw [b4 d hd] at z
    exact ⟨z.2.2.2.2.1, Int.le_trans z.2.2.2.2.2.1 (by omega)⟩
  have ov : ∀ d : Nat, d < 4 → 0 ≤ ((x.2.2.1 d).1 7).toInt ∧ ((x.2.2.1 d).1 7).toInt ≤ 13000000 := fun d hd => by
    have z : DI (x.2.2.1 d).1 (9999 + 20 * (n + 0)) (120 * (n + 0)) (n + 0) (n + 0) := I0.2.2.2.2.1 d hd
    exact ⟨z.2.2.2.2.2.2.2.2.2.2.2.1, Int.le_trans z.2.2.2.2.2.2.2.2.2.2.2.2.1 (by omega)⟩
  have q0 : (((on4 x).2.2.1 0).1 7).toInt = ((x.2.2.1 0).1 7).toInt + (if turnR x 0 1 = 0 then 0 else 1) := by rw [o0, T_01 (ov 0 (by decide)) (by decide)]
  have q1 : (((on4 x).2.2.1 1).1 7).toInt = ((x.2.2.1 1).1 7).toInt + (if turnR (on1 x) 1 0 = 0 then 0 else 1) := by rw [o1, T_01 (ov 1 (by decide)) (by decide)]; rfl
  have q2 : (((on4 x).2.2.1 2).1 7).toInt = ((x.2.2.1 2).1 7).toInt + (if turnR (on2 x) 2 3 = 0 then 0 else 1) := by rw [o2, T_01 (ov 2 (by decide)) (by decide)]; rfl
  have q3 : (((on4 x).2.2.1 3).1 7).toInt = ((x.2.2.1 3).1 7).toInt + (if turnR (on3 x) 3 2 = 0 then 0 else 1) := by rw [o3, T_01 (ov 3 (by decide)) (by decide)]; rfl
  have hr := one_r x
  have hov : ovT (passOne x) = ovT x + (if turnR x 0 1 = 0 then 0 else 1) + (if turnR (on1 x) 1 0 = 0 then 0 else 1) + (if turnR (on2 x) 2 3 = 0 then 0 else 1) + (if turnR (on3 x) 3 2 = 0 then 0 else 1) := by
    unfold ovT
    rw [one_v x 0 (by decide), one_v x 1 (by decide), one_v x 2 (by decide), one_v x 3 (by decide), q0, q1, q2, q3]
    omega
  refine ⟨⟨⟨fun i hi => ?_, fun i hi => ?_, fun d hd i hi => ?_, fun d hd i hi => ?_⟩, fun d hd => ?_⟩, ⟨⟨rfl, ?_, i3, ?_, fun d hd => ?_, fun d hd => ?_⟩, fun d hd => ?_⟩, g2, gs, ?_, ?_⟩
  · have z := r1 i hi
    rw [Nat.zero_add] at z ⊢
    rw [g0]
    by_cases h : i = 0
    · subst h
      rw [oM0, z]
      show ((on4 x).1 2).toInt64 + 1 = ((on4 x).1 2 + 1).toInt64
      rw [E_1, ← E_add (by rw [T_1]; omega) (by rw [T_1]; omega)]
    · rw [oM i h, s2 i (fun j hj => by omega), z]
      exact congrArg Int32.toInt64 (if_neg (show ¬ i + 2 = 2 by omega)).symm
  · rw [oM _ (by omega), s2 _ (fun j hj => by omega)]
    exact r2 i hi
  · rw [oM _ (by omega), s2 _ (fun j hj => by omega), one_v x d hd]
    exact r3 d hd i hi
  · rw [oM _ (by omega), s2 _ (fun j hj => by omega), one_h x d hd]
    exact r4 d hd i hi
  · rw [oM _ (by omega), s1 d hd, fs d hd, S0 d hd, one_v x d hd, S d hd, show 15 + 11 * d = 12 + 11 * d + 3 by omega, r3 d hd 3 (by decide)]
  · rw [g2]
    omega
  · rw [g2, g0]
    have z : 4 * min n 6060 + lateB n + lateB n + lateB n + lateB n = 4 * min (n + 1) 6060 := by
      unfold lateB
      split <;> omega
    have z2 : 4 * n + 1 + 1 + 1 + 1 = 4 * (n + 1) := by omega
    rw [z, z2] at i4
    exact i4
  · rw [g2, one_v x d hd]
    have z := i5 d hd
    rw [b4 d hd] at z
    exact DI.mono (H' := 9999 + 20 * (n + 1 + 0)) (W' := 120 * (n + 1 + 0)) (S' := n + 1 + 0) (O' := n + 1 + 0) z (by omega) (by omega) (by omega) (by omega)
  · rw [g2, one_h x d hd]
    have z := i6 d hd
    rw [b4 d hd] at z
    exact HI.mono (m' := n + 1 + 0) z (by omega)
  · rw [g2, one_v x d hd, S d hd]
    have z := Z0 d hd
    have y := v3 d hd
    rw [T_add64 (by rw [Int32.toInt_toInt64]; omega) (by rw [Int32.toInt_toInt64]; omega), Int32.toInt_toInt64]
    omega
  · rw [hov]
    (repeat' split) <;> omega
  · rw [hr, hov]
    by_cases c0 : turnR x 0 1 = 0
    · rw [if_pos c0]
      by_cases c1 : turnR (on1 x) 1 0 = 0
      · rw [if_pos c1]
        by_cases c2 : turnR (on2 x) 2 3 = 0
        · rw [if_pos c2]
          by_cases c3 : turnR (on3 x) 3 2 = 0
          · rw [if_pos c3]
            exact ⟨fun _ => by omega, fun _ => ⟨c0, c1, c2, c3⟩⟩
          · rw [if_neg c3]
            exact ⟨fun h => absurd h.2.2.2 c3, fun h => by omega⟩
        · rw [if_neg c2]
          exact ⟨fun h => absurd h.2.2.1 c2, fun h => by split at h <;> omega⟩
      · rw [if_neg c1]
        exact ⟨fun h => absurd h.2.1 c1, fun h => by (repeat' split at h) <;> omega⟩
    · rw [if_neg c0]
      exact ⟨fun h => absurd h.1 c0, fun h => by (repeat' split at h) <;> omega⟩
