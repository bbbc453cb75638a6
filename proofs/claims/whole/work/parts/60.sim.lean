/-! THE SIMULATION: the class's ints and the model's longs -/
theorem T_add {x y : Int32} (h1 : -2147483648 ≤ x.toInt + y.toInt) (h2 : x.toInt + y.toInt < 2147483648) : (x + y).toInt = x.toInt + y.toInt := by
  rw [Int32.toInt_add, Int.bmod_eq_of_le (by omega) (by omega)]
theorem T_sub {x y : Int32} (h1 : -2147483648 ≤ x.toInt - y.toInt) (h2 : x.toInt - y.toInt < 2147483648) : (x - y).toInt = x.toInt - y.toInt := by
  rw [Int32.toInt_sub, Int.bmod_eq_of_le (by omega) (by omega)]
theorem T_mul {x y : Int32} (h1 : -2147483648 ≤ x.toInt * y.toInt) (h2 : x.toInt * y.toInt < 2147483648) : (x * y).toInt = x.toInt * y.toInt := by
  rw [Int32.toInt_mul, Int.bmod_eq_of_le (by omega) (by omega)]
theorem T_add64 {x y : Int64} (h1 : -9223372036854775808 ≤ x.toInt + y.toInt) (h2 : x.toInt + y.toInt < 9223372036854775808) : (x + y).toInt = x.toInt + y.toInt := by
  rw [Int64.toInt_add, Int.bmod_eq_of_le (by omega) (by omega)]
theorem T_sub64 {x y : Int64} (h1 : -9223372036854775808 ≤ x.toInt - y.toInt) (h2 : x.toInt - y.toInt < 9223372036854775808) : (x - y).toInt = x.toInt - y.toInt := by
  rw [Int64.toInt_sub, Int.bmod_eq_of_le (by omega) (by omega)]
theorem T_mul64 {x y : Int64} (h1 : -9223372036854775808 ≤ x.toInt * y.toInt) (h2 : x.toInt * y.toInt < 9223372036854775808) : (x * y).toInt = x.toInt * y.toInt := by
  rw [Int64.toInt_mul, Int.bmod_eq_of_le (by omega) (by omega)]
theorem T_div {x y : Int32} (hx : 0 ≤ x.toInt) (hy : 0 < y.toInt) : (x / y).toInt = x.toInt / y.toInt := by
  rw [Int32.toInt_div_of_ne_right x y (fun h => by rw [h, show (-1 : Int32).toInt = -1 by decide] at hy; omega), Int.tdiv_eq_ediv_of_nonneg hx]
theorem T_div64 {x y : Int64} (hx : 0 ≤ x.toInt) (hy : 0 < y.toInt) : (x / y).toInt = x.toInt / y.toInt := by
  rw [Int64.toInt_div_of_ne_right x y (fun h => by rw [h, show (-1 : Int64).toInt = -1 by decide] at hy; omega), Int.tdiv_eq_ediv_of_nonneg hx]
theorem E_add {x y : Int32} (h1 : -2147483648 ≤ x.toInt + y.toInt) (h2 : x.toInt + y.toInt < 2147483648) : (x + y).toInt64 = x.toInt64 + y.toInt64 := by
  apply Int64.toInt_inj.mp
  rw [Int32.toInt_toInt64, T_add h1 h2, T_add64 (by rw [Int32.toInt_toInt64, Int32.toInt_toInt64]; omega) (by rw [Int32.toInt_toInt64, Int32.toInt_toInt64]; omega), Int32.toInt_toInt64, Int32.toInt_toInt64]
theorem E_sub {x y : Int32} (h1 : -2147483648 ≤ x.toInt - y.toInt) (h2 : x.toInt - y.toInt < 2147483648) : (x - y).toInt64 = x.toInt64 - y.toInt64 := by
  apply Int64.toInt_inj.mp
  rw [Int32.toInt_toInt64, T_sub h1 h2, T_sub64 (by rw [Int32.toInt_toInt64, Int32.toInt_toInt64]; omega) (by rw [Int32.toInt_toInt64, Int32.toInt_toInt64]; omega), Int32.toInt_toInt64, Int32.toInt_toInt64]
theorem E_mul {x y : Int32} (h1 : -2147483648 ≤ x.toInt * y.toInt) (h2 : x.toInt * y.toInt < 2147483648) : (x * y).toInt64 = x.toInt64 * y.toInt64 := by
  apply Int64.toInt_inj.mp
  rw [Int32.toInt_toInt64, T_mul h1 h2, T_mul64 (by rw [Int32.toInt_toInt64, Int32.toInt_toInt64]; omega) (by rw [Int32.toInt_toInt64, Int32.toInt_toInt64]; omega), Int32.toInt_toInt64, Int32.toInt_toInt64]
theorem E_div {x y : Int32} (hy : 0 < y.toInt) : (x / y).toInt64 = x.toInt64 / y.toInt64 := Int32.toInt64_div_of_ne_right x y (fun h => by rw [h, show (-1 : Int32).toInt = -1 by decide] at hy; omega)
theorem E_rem {x y : Int32} (hx : 0 ≤ x.toInt) (hy : 0 < y.toInt) : (x - x / y * y).toInt64 = x.toInt64 - x.toInt64 / y.toInt64 * y.toInt64 ∧ (x - x / y * y).toInt = x.toInt % y.toInt := by
  have h1 := T_div hx hy
  have h2 := Int.mul_ediv_add_emod x.toInt y.toInt
  have h3 := Int.emod_nonneg x.toInt (show y.toInt ≠ 0 by omega)
  have h4 := x.toInt_lt
  have h5 := Int.ediv_nonneg hx (show 0 ≤ y.toInt by omega)
  have h6 : (x / y).toInt * y.toInt = x.toInt - x.toInt % y.toInt := by
    rw [h1, Int.mul_comm]
    omega
  have h7 : 0 ≤ (x / y).toInt * y.toInt := Int.mul_nonneg (by omega) (by omega)
  have h8 : (x / y * y).toInt = x.toInt - x.toInt % y.toInt := by rw [T_mul (by omega) (by omega), h6]
  refine ⟨?_, ?_⟩
  · rw [E_sub (by omega) (by omega), E_mul (by omega) (by omega), E_div hy]
  · rw [T_sub (by omega) (by omega), h8]
    omega
theorem E_inj {x y : Int32} : x.toInt64 = y.toInt64 ↔ x = y := ⟨fun h => Int32.toInt_inj.mp (by rw [← Int32.toInt_toInt64 x, h, Int32.toInt_toInt64]), fun h => by rw [h]⟩
theorem Ec_le {x y : Int32} : (lg_cmp x.toInt64 y.toInt64 ≤ 0) ↔ x ≤ y := by
  rw [lg_cmp_le, Int64.le_iff_toInt_le, Int32.le_iff_toInt_le, Int32.toInt_toInt64, Int32.toInt_toInt64]
theorem Ec_ge {x y : Int32} : (0 ≤ lg_cmp x.toInt64 y.toInt64) ↔ y ≤ x := by
  rw [lg_cmp_ge, Int64.le_iff_toInt_le, Int32.le_iff_toInt_le, Int32.toInt_toInt64, Int32.toInt_toInt64]
theorem Ec_lt {x y : Int32} : (lg_cmp x.toInt64 y.toInt64 < 0) ↔ x < y := by
  rw [lg_cmp_lt, Int64.lt_iff_toInt_lt, Int32.lt_iff_toInt_lt, Int32.toInt_toInt64, Int32.toInt_toInt64]
theorem Ec_gt {x y : Int32} : (0 < lg_cmp x.toInt64 y.toInt64) ↔ y < x := by
  rw [lg_cmp_gt, Int64.lt_iff_toInt_lt, Int32.lt_iff_toInt_lt, Int32.toInt_toInt64, Int32.toInt_toInt64]
theorem Ec_eq {x y : Int32} : (lg_cmp x.toInt64 y.toInt64 = 0) ↔ x = y := by
  rw [lg_cmp_eq, E_inj]
theorem E_0 : (0 : Int64) = (0 : Int32).toInt64 := by decide
theorem E_1 : (1 : Int64) = (1 : Int32).toInt64 := by decide
theorem E_2 : (2 : Int64) = (2 : Int32).toInt64 := by decide
theorem E_3 : (3 : Int64) = (3 : Int32).toInt64 := by decide
theorem E_60 : (60 : Int64) = (60 : Int32).toInt64 := by decide
theorem E_100 : (100 : Int64) = (100 : Int32).toInt64 := by decide
theorem T_0 : (0 : Int32).toInt = 0 := by decide
theorem T_1 : (1 : Int32).toInt = 1 := by decide
theorem T_60 : (60 : Int32).toInt = 60 := by decide
theorem le_T {x y : Int32} : x ≤ y ↔ x.toInt ≤ y.toInt := Int32.le_iff_toInt_le
theorem lt_T {x y : Int32} : x < y ↔ x.toInt < y.toInt := Int32.lt_iff_toInt_lt
theorem eq_T {x y : Int32} : x = y ↔ x.toInt = y.toInt := Int32.toInt_inj.symm
/-- n longs of f from r on are the ints of a -/
def sA (a : Nat → Int32) (f : Nat → Int64) (r n : Nat) : Prop := ∀ i : Nat, i < n → f (r + i) = (a i).toInt64
theorem sA.set {a : Nat → Int32} {f : Nat → Int64} {r n j : Nat} {y : Int32} {X : Int64} (h : sA a f r n) (hX : X = y.toInt64) : sA (upd a j y) (vp_updL f (r + j) X) r n := by
  intro i hi
  by_cases e : i = j
  · subst e
    rw [show vp_updL f (r + i) X (r + i) = X from if_pos rfl, show upd a i y i = y from if_pos rfl, hX]
  · rw [show vp_updL f (r + j) X (r + i) = f (r + i) from if_neg (by omega), show upd a j y i = a i from if_neg e]
    exact h i hi
theorem sA.oth {a : Nat → Int32} {f : Nat → Int64} {r n m : Nat} {X : Int64} (h : sA a f r n) (hm : m < r ∨ r + n ≤ m) : sA a (vp_updL f m X) r n := by
  intro i hi
  rw [show vp_updL f m X (r + i) = f (r + i) from if_neg (by omega)]
  exact h i hi
theorem sA.ext {a b : Nat → Int32} {f : Nat → Int64} {r n : Nat} (h : sA a f r n) (e : ∀ i : Nat, i < n → a i = b i) : sA b f r n := fun i hi => by rw [← e i hi]; exact h i hi
theorem vp_same (f : Nat → Int64) (m : Nat) : vp_updL f m (f m) = f := by
  funext j
  by_cases e : j = m
  · rw [e]
    exact if_pos rfl
  · exact if_neg e
/-- the turn of the drive k with its twin e: numbers g, settings s, drives v and t, hours hk and he, the longs f; f0 the longs before -/
def sL (g s v t : Nat → Int32) (hk he : Nat → Int8) (f0 f : Nat → Int64) (k e : Nat) : Prop :=
  (k < 4 ∧ e < 4 ∧ k ≠ e) ∧ sA (fun i => g (i + 2)) f 0 5 ∧ sA s f 5 7 ∧ sA v f (12 + 11 * k) 10 ∧ sA t f (12 + 11 * e) 10 ∧ sA (fun i => (hk i).toInt32) f (56 + 100 * k) 100 ∧ sA (fun i => (he i).toInt32) f (56 + 100 * e) 100 ∧
  (∀ n : Nat, 5 ≤ n → (n < 12 + 11 * k ∨ 22 + 11 * k ≤ n) → (n < 12 + 11 * e ∨ 22 + 11 * e ≤ n) → (n < 56 + 100 * k ∨ 156 + 100 * k ≤ n) → f n = f0 n)
theorem sL.g {g s v t : Nat → Int32} {hk he : Nat → Int8} {f0 f : Nat → Int64} {k e : Nat} (h : sL g s v t hk he f0 f k e) {i : Nat} (hi : i < 5) {y : Int32} {X : Int64} (hX : X = y.toInt64) : sL (upd g (i + 2) y) s v t hk he f0 (vp_updL f i X) k e := by
  obtain ⟨⟨h1, h2, h3⟩, a, b, c, d, e1, e2, fr⟩ := h
  refine ⟨⟨h1, h2, h3⟩, ?_, b.oth (by omega), c.oth (by omega), d.oth (by omega), e1.oth (by omega), e2.oth (by omega), fun n n1 n2 n3 n4 => ?_⟩
  · have := a.set (j := i) hX
    rw [Nat.zero_add] at this
    refine this.ext fun q hq => ?_
    by_cases z : q = i
    · rw [z, show upd (fun i => g (i + 2)) i y i = y from if_pos rfl, show upd g (i + 2) y (i + 2) = y from if_pos rfl]
    · rw [show upd (fun i => g (i + 2)) i y q = g (q + 2) from if_neg z, show upd g (i + 2) y (q + 2) = g (q + 2) from if_neg (by omega)]
  · rw [show vp_updL f i X n = f n from if_neg (by omega)]
    exact fr n n1 n2 n3 n4
theorem sL.v {g s v t : Nat → Int32} {hk he : Nat → Int8} {f0 f : Nat → Int64} {k e : Nat} (h : sL g s v t hk he f0 f k e) {j : Nat} (hj : j < 10) {y : Int32} {X : Int64} (hX : X = y.toInt64) : sL g s (upd v j y) t hk he f0 (vp_updL f (12 + 11 * k + j) X) k e := by
  obtain ⟨⟨h1, h2, h3⟩, a, b, c, d, e1, e2, fr⟩ := h
  refine ⟨⟨h1, h2, h3⟩, a.oth (by omega), b.oth (by omega), c.set hX, d.oth (by omega), e1.oth (by omega), e2.oth (by omega), fun n n1 n2 n3 n4 => ?_⟩
  rw [show vp_updL f (12 + 11 * k + j) X n = f n from if_neg (by omega)]
  exact fr n n1 n2 n3 n4
theorem sL.t {g s v t : Nat → Int32} {hk he : Nat → Int8} {f0 f : Nat → Int64} {k e : Nat} (h : sL g s v t hk he f0 f k e) {j : Nat} (hj : j < 10) {y : Int32} {X : Int64} (hX : X = y.toInt64) : sL g s v (upd t j y) hk he f0 (vp_updL f (12 + 11 * e + j) X) k e := by
  obtain ⟨⟨h1, h2, h3⟩, a, b, c, d, e1, e2, fr⟩ := h
  refine ⟨⟨h1, h2, h3⟩, a.oth (by omega), b.oth (by omega), c.oth (by omega), d.set hX, e1.oth (by omega), e2.oth (by omega), fun n n1 n2 n3 n4 => ?_⟩
  rw [show vp_updL f (12 + 11 * e + j) X n = f n from if_neg (by omega)]
  exact fr n n1 n2 n3 n4
theorem sL.h {g s v t : Nat → Int32} {hk he : Nat → Int8} {f0 f : Nat → Int64} {k e : Nat} (h : sL g s v t hk he f0 f k e) {j : Nat} (hj : j < 100) {y : Int32} {X : Int64} (hX : X = y.toInt8.toInt32.toInt64) : sL g s v t (upd8 hk j y) he f0 (vp_updL f (56 + 100 * k + j) X) k e := by
  obtain ⟨⟨h1, h2, h3⟩, a, b, c, d, e1, e2, fr⟩ := h
  refine ⟨⟨h1, h2, h3⟩, a.oth (by omega), b.oth (by omega), c.oth (by omega), d.oth (by omega), ?_, e2.oth (by omega), fun n n1 n2 n3 n4 => ?_⟩
  · refine (e1.set (j := j) hX).ext fun q hq => ?_
    by_cases z : q = j
    · rw [z, show upd (fun i => (hk i).toInt32) j (y.toInt8.toInt32) j = y.toInt8.toInt32 from if_pos rfl, show upd8 hk j y j = y.toInt8 from if_pos rfl]
    · rw [show upd (fun i => (hk i).toInt32) j (y.toInt8.toInt32) q = (hk q).toInt32 from if_neg z, show upd8 hk j y q = hk q from if_neg z]
  · rw [show vp_updL f (56 + 100 * k + j) X n = f n from if_neg (by omega)]
    exact fr n n1 n2 n3 n4
section SLR
variable {g s v t : Nat → Int32} {hk he : Nat → Int8} {f0 f : Nat → Int64} {k e : Nat}
theorem sL.rg (h : sL g s v t hk he f0 f k e) {i : Nat} (hi : i < 5) : f i = (g (i + 2)).toInt64 := by
  have := h.2.1 i hi
  rwa [Nat.zero_add] at this
theorem sL.rs (h : sL g s v t hk he f0 f k e) {i : Nat} (hi : i < 7) : f (5 + i) = (s i).toInt64 := h.2.2.1 i hi
theorem sL.rv (h : sL g s v t hk he f0 f k e) {i : Nat} (hi : i < 10) : f (12 + 11 * k + i) = (v i).toInt64 := h.2.2.2.1 i hi
theorem sL.rt (h : sL g s v t hk he f0 f k e) {i : Nat} (hi : i < 10) : f (12 + 11 * e + i) = (t i).toInt64 := h.2.2.2.2.1 i hi
theorem sL.rk (h : sL g s v t hk he f0 f k e) {i : Nat} (hi : i < 100) : f (56 + 100 * k + i) = (hk i).toInt32.toInt64 := h.2.2.2.2.2.1 i hi
theorem sL.re (h : sL g s v t hk he f0 f k e) {i : Nat} (hi : i < 100) : f (56 + 100 * e + i) = (he i).toInt32.toInt64 := h.2.2.2.2.2.2.1 i hi
theorem sL.k4 (h : sL g s v t hk he f0 f k e) : k < 4 := h.1.1
theorem sL.e4 (h : sL g s v t hk he f0 f k e) : e < 4 := h.1.2.1
theorem sL.vk (h : sL g s v t hk he f0 f k e) : vp_in (nI k) 4 := vp_in_nI h.1.1 (by decide)
theorem sL.ve (h : sL g s v t hk he f0 f k e) : vp_in (nI e) 4 := vp_in_nI h.1.2.1 (by decide)
/-- the place of a number of a drive -/
theorem sL.pk (h : sL g s v t hk he f0 f k e) {c : Int32} (hc : decide (¬ (c < 0 ∨ 11 ≤ c.toNatClampNeg)) = true) : (f_X5_row_r (nI k) + c).toNatClampNeg = 12 + 11 * k + c.toNatClampNeg := by
  rw [rw_cl h.vk hc, nI_clamp (by have := h.k4; omega)]
theorem sL.pe (h : sL g s v t hk he f0 f k e) {c : Int32} (hc : decide (¬ (c < 0 ∨ 11 ≤ c.toNatClampNeg)) = true) : (f_X5_row_r (nI e) + c).toNatClampNeg = 12 + 11 * e + c.toNatClampNeg := by
  rw [rw_cl h.ve hc, nI_clamp (by have := h.e4; omega)]
end SLR
