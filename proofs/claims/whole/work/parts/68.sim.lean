/-! THE SIMULATION: time that passes -/
theorem RR.g {x : StV} {f : Nat → Int64} (R : RR x f) {i : Nat} (hi : i < 5) : f i = (x.1 (i + 2)).toInt64 := by
  have := R.1.1 i hi
  rwa [Nat.zero_add] at this
theorem RR.t {x : StV} {f : Nat → Int64} (R : RR x f) : f 0 = (x.1 2).toInt64 := R.g (by decide)
theorem RR.s {x : StV} {f : Nat → Int64} (R : RR x f) {i : Nat} (hi : i < 7) : f (5 + i) = (x.2.1 i).toInt64 := R.1.2.1 i hi
theorem RR.v {x : StV} {f : Nat → Int64} (R : RR x f) {d i : Nat} (hd : d < 4) (hi : i < 10) : f (12 + 11 * d + i) = ((x.2.2.1 d).1 i).toInt64 := R.1.2.2.1 d hd i hi
theorem RR.h {x : StV} {f : Nat → Int64} (R : RR x f) {d i : Nat} (hd : d < 4) (hi : i < 100) : f (56 + 100 * d + i) = (x.2.2.2 d i).toInt32.toInt64 := R.1.2.2.2 d hd i hi
theorem RR.z {x : StV} {f : Nat → Int64} (R : RR x f) {d : Nat} (hd : d < 4) : f (22 + 11 * d) = (x.2.2.1 d).2 := R.2 d hd
theorem RR.ext {x : StV} {f g : Nat → Int64} (R : RR x f) (h : ∀ n : Nat, n < 456 → g n = f n) : RR x g := by
  refine ⟨⟨fun i hi => ?_, fun i hi => ?_, fun d hd i hi => ?_, fun d hd i hi => ?_⟩, fun d hd => ?_⟩
  · rw [h _ (by omega)]
    exact R.1.1 i hi
  · rw [h _ (by omega)]
    exact R.1.2.1 i hi
  · rw [h _ (by omega)]
    exact R.1.2.2.1 d hd i hi
  · rw [h _ (by omega)]
    exact R.1.2.2.2 d hd i hi
  · rw [h _ (by omega)]
    exact R.2 d hd
theorem II.n {x : StV} (I : II x) : 0 ≤ (x.1 2).toInt ∧ (x.1 2).toInt ≤ 13000000 := I.1.2.1
theorem II.dv {x : StV} (I : II x) {d : Nat} (hd : d < 4) : DI (x.2.2.1 d).1 (9999 + 20 * (x.1 2).toInt) (120 * (x.1 2).toInt) (x.1 2).toInt (x.1 2).toInt := by
  have z := I.1.2.2.2.2.1 d hd
  exact DI.mono (H' := 9999 + 20 * (x.1 2).toInt) (W' := 120 * (x.1 2).toInt) (S' := (x.1 2).toInt) (O' := (x.1 2).toInt) z (by rw [Int.add_zero]; omega) (by rw [Int.add_zero]; omega) (by rw [Int.add_zero]; omega) (by rw [Int.add_zero]; omega)
theorem II.hv {x : StV} (I : II x) {d : Nat} (hd : d < 4) : HI (x.2.2.2 d) (x.1 2).toInt := by
  have z := I.1.2.2.2.2.2 d hd
  exact HI.mono (m' := (x.1 2).toInt) z (by rw [Int.add_zero]; omega)
theorem II.mk {x : StV} (h1 : 0 ≤ (x.1 2).toInt ∧ (x.1 2).toInt ≤ 13000000) (h2 : SI x.2.1) (h3 : GI x.1 (4 * min (x.1 2).toInt 6060) (4 * (x.1 2).toInt)) (h4 : ∀ d : Nat, d < 4 → DI (x.2.2.1 d).1 (9999 + 20 * (x.1 2).toInt) (120 * (x.1 2).toInt) (x.1 2).toInt (x.1 2).toInt) (h5 : ∀ d : Nat, d < 4 → HI (x.2.2.2 d) (x.1 2).toInt) (h6 : ∀ d : Nat, d < 4 → 0 ≤ (x.2.2.1 d).2.toInt ∧ (x.2.2.1 d).2.toInt ≤ 270000000 * (x.1 2).toInt) : II x := by
  refine ⟨⟨rfl, h1, h2, h3, fun d hd => ?_, fun d hd => ?_⟩, h6⟩
  · exact DI.mono (H' := 9999 + 20 * ((x.1 2).toInt + 0)) (W' := 120 * ((x.1 2).toInt + 0)) (S' := (x.1 2).toInt + 0) (O' := (x.1 2).toInt + 0) (h4 d hd) (by omega) (by omega) (by omega) (by omega)
  · exact HI.mono (m' := (x.1 2).toInt + 0) (h5 d hd) (by omega)
theorem sim_pass {x : StV} {f : Nat → Int64} (R : RR x f) (I : II x) : ∀ n : Nat, (x.1 2).toInt + n ≤ 13000000 → RR (passN x n) (pasM f n) ∧ II (passN x n) ∧ ((passN x n).1 2).toInt = (x.1 2).toInt + n ∧ (passN x n).2.1 = x.2.1 ∧ ovT x ≤ ovT (passN x n)
  | 0, _ => ⟨R, I, by show (x.1 2).toInt = _; omega, rfl, Int.le_refl _⟩
  | n + 1, h => by
    obtain ⟨a, b, c, d, e⟩ := sim_pass R I n (by omega)
    obtain ⟨a', b', c', d', e', -⟩ := sim_one a b (by rw [c]; omega)
    exact ⟨a', b', by show ((passOne (passN x n)).1 2).toInt = _; rw [c', c]; omega, d'.trans d, Int.le_trans e e'⟩
theorem passN_out (x : StV) : ∀ n : Nat, passN (passOne x) n = passN x (n + 1)
  | 0 => rfl
  | n + 1 => by
    show passOne (passN (passOne x) n) = passOne (passN x (n + 1))
    rw [passN_out x n]
theorem passN_add (x : StV) (a : Nat) : ∀ b : Nat, passN (passN x a) b = passN x (a + b)
  | 0 => rfl
  | b + 1 => congrArg passOne (passN_add x a b)
theorem pasM_add (f : Nat → Int64) (a : Nat) : ∀ b : Nat, pasM (pasM f a) b = pasM f (a + b)
  | 0 => rfl
  | b + 1 => congrArg oneM (pasM_add f a b)
/-- whether minutes pass without an overrun is told by the overruns -/
theorem noLoud_ov : ∀ (n : Nat) {x : StV} {f : Nat → Int64}, RR x f → II x → (x.1 2).toInt + n ≤ 13000000 → ((noLoud x n).1 = 0 ↔ ¬ ovT (passN x n) = ovT x)
  | 0, x, f, _, _, _ => ⟨fun h => absurd h (by show ¬ (1 : Int32) = 0; decide), fun h => absurd rfl h⟩
  | n + 1, x, f, R, I, h => by
    obtain ⟨a, b, c, d, e, q⟩ := sim_one R I (by omega)
    obtain ⟨-, -, -, -, e2⟩ := sim_pass a b n (by rw [c]; omega)
    rw [passN_out] at e2
    unfold noLoud
    by_cases z : passOneR x = 0
    · rw [if_pos z, noLoud_ov n a b (by rw [c]; omega), passN_out, q.mp z]
    · rw [if_neg z]
      exact ⟨fun _ y => z (q.mpr (by omega)), fun _ => rfl⟩
theorem noLoud_01 : ∀ (n : Nat) (x : StV), (noLoud x n).1 = 0 ∨ (noLoud x n).1 = 1
  | 0, _ => .inr rfl
  | n + 1, x => by
    unfold noLoud
    split
    · exact noLoud_01 n _
    · exact .inl rfl
theorem ovM {x : StV} {f : Nat → Int64} (R : RR x f) (I : II x) : (f_X5_overruns_r f).toInt = ovT x := by
  unfold f_X5_overruns_r ovT
  have p0 : (f_X5_row_r 0 + 7).toNatClampNeg = 12 + 11 * 0 + 7 := by decide
  have p1 : (f_X5_row_r 1 + 7).toNatClampNeg = 12 + 11 * 1 + 7 := by decide
  have p2 : (f_X5_row_r 2 + 7).toNatClampNeg = 12 + 11 * 2 + 7 := by decide
  have p3 : (f_X5_row_r 3 + 7).toNatClampNeg = 12 + 11 * 3 + 7 := by decide
  have n1 := I.n
  have ov : ∀ d : Nat, d < 4 → 0 ≤ ((x.2.2.1 d).1 7).toInt ∧ ((x.2.2.1 d).1 7).toInt ≤ 13000000 := fun d hd => by
    have z := I.dv hd
    exact ⟨z.2.2.2.2.2.2.2.2.2.2.2.1, Int.le_trans z.2.2.2.2.2.2.2.2.2.2.2.2.1 (by omega)⟩
  have v0 := ov 0 (by decide)
  have v1 := ov 1 (by decide)
  have v2 := ov 2 (by decide)
  have v3 := ov 3 (by decide)
  rw [p0, p1, p2, p3, R.v (by decide) (by decide), R.v (by decide) (by decide), R.v (by decide) (by decide), R.v (by decide) (by decide), Int64.zero_add, ← E_add (by omega) (by omega)]
  have e1 := T_add (x := (x.2.2.1 0).1 7) (y := (x.2.2.1 1).1 7) (by omega) (by omega)
  rw [← E_add (by omega) (by omega)]
  have e2 := T_add (x := (x.2.2.1 0).1 7 + (x.2.2.1 1).1 7) (y := (x.2.2.1 2).1 7) (by omega) (by omega)
  rw [← E_add (by omega) (by omega), Int32.toInt_toInt64, T_add (by omega) (by omega)]
  omega
theorem T_max (x y : Int32) : (imax x y).toInt = max x.toInt y.toInt := by
  rw [imax_eq]
  split
  · rename_i h
    have := lt_T.mp h
    omega
  · rename_i h
    have := mt lt_T.mpr h
    omega
theorem sim_most {x : StV} {f : Nat → Int64} (R : RR x f) (I : II x) {k : Nat} (hk : k < 4) : ∀ n : Nat, (x.1 2).toInt + n ≤ 13000000 → mosM f (nI k) n = (mostN x (nI k) n).toInt64
  | 0, _ => by
    show (0 : Int64) = (0 : Int32).toInt64
    decide
  | n + 1, h => by
    have ih := sim_most R I hk n (by omega)
    have R1 := (sim_pass R I (n + 1) h).1
    have p3 : (f_X5_row_r (nI k) + 3).toNatClampNeg = 12 + 11 * k + 3 := by
      rw [rw_cl (vp_in_nI hk (by decide)) (by decide), nI_clamp (by omega), show (3 : Int32).toNatClampNeg = 3 by decide]
    unfold mosM mostN
    rw [p3, R1.v hk (by decide), ih, nI_clamp (by omega)]
    by_cases c : ((passN x (n + 1)).2.2.1 k).1 3 ≤ mostN x (nI k) n
    · rw [if_pos (Ec_le.mpr c)]
      apply congrArg
      apply Int32.toInt_inj.mp
      rw [T_max]
      have := le_T.mp c
      omega
    · rw [if_neg (mt Ec_le.mp c)]
      apply congrArg
      apply Int32.toInt_inj.mp
      rw [T_max]
      have := mt le_T.mpr c
      omega
