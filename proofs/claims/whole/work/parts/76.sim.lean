/-! THE SIMULATION: the states before -/
/-- the state that stands j-th in the history -/
def HRj (sv : Nat → StV) (u : Nat → Int64) (N : Int) (p j : Nat) : Prop := RR (sv p) (fun i => u (456 * j + i)) ∧ II (sv p) ∧ ((sv p).1 2).toInt ≤ N
def HR (h : Nat → Int32) (sv : Nat → StV) (v : Nat → Int32) (u : Nat → Int64) (N : Int) : Prop := ∃ nx sz : Nat, nx ≤ 6 ∧ sz ≤ 6 ∧ h 1 = nI nx ∧ h 2 = nI sz ∧ v 3 = nI sz ∧ ∀ j : Nat, j < sz → HRj sv u N ((nx + 7 - sz + j) % 7) j
theorem HR.mono {h : Nat → Int32} {sv : Nat → StV} {v : Nat → Int32} {u : Nat → Int64} {N N' : Int} (H : HR h sv v u N) (hN : N ≤ N') : HR h sv v u N' := by
  obtain ⟨nx, sz, a, b, c, d, e, m⟩ := H
  exact ⟨nx, sz, a, b, c, d, e, fun j hj => ⟨(m j hj).1, (m j hj).2.1, Int.le_trans (m j hj).2.2 hN⟩⟩
theorem HR.vext {h : Nat → Int32} {sv : Nat → StV} {v v' : Nat → Int32} {u : Nat → Int64} {N : Int} (H : HR h sv v u N) (e : v' 3 = v 3) : HR h sv v' u N := by
  obtain ⟨nx, sz, a, b, c, d, e', m⟩ := H
  exact ⟨nx, sz, a, b, c, d, e.trans e', m⟩
theorem HR.prep {h : Nat → Int32} {sv : Nat → StV} {v : Nat → Int32} {u : Nat → Int64} {N : Int} (H : HR h sv v u N) (x : StV) : HR h (f_X1_prepare_sv h sv x) v u N := by
  obtain ⟨nx, sz, a, b, c, d, e, m⟩ := H
  refine ⟨nx, sz, a, b, c, d, e, fun j hj => ?_⟩
  unfold f_X1_prepare_sv HRj
  rw [c, nI_clamp (by omega), updF_oth (by omega)]
  exact m j hj
theorem shf_at (u : Nat → Int64) : ∀ i : Nat, i ≤ 2280 → ∀ n : Nat, shf u i n = if n < i then u (n + 456) else u n
  | 0, _, n => by
    rw [if_neg (Nat.not_lt_zero n)]
    rfl
  | i + 1, hi, n => by
    unfold shf
    have p : (nI i + 456).toNatClampNeg = i + 456 := by
      have t : (nI i + 456).toInt = ((i + 456 : Nat) : Int) := by
        rw [T_add (by rw [nI_T (by omega), show (456 : Int32).toInt = 456 by decide]; omega) (by rw [nI_T (by omega), show (456 : Int32).toInt = 456 by decide]; omega), nI_T (by omega), show (456 : Int32).toInt = 456 by decide]
        omega
      rw [nI_i t, nI_clamp (by omega)]
    rw [p]
    by_cases c : n = i
    · rw [c, vp_hit, shf_at u i (by omega), if_neg (by omega), if_pos (by omega)]
    · rw [vp_oth c, shf_at u i (by omega)]
      by_cases c2 : n < i
      · rw [if_pos c2, if_pos (by omega)]
      · rw [if_neg c2, if_neg (by omega)]
theorem T_456 {sz : Nat} (h : sz ≤ 6) : 456 * nI sz = nI (456 * sz) := nI_i (by rw [T_mul (by rw [nI_T (by omega), show (456 : Int32).toInt = 456 by decide]; omega) (by rw [nI_T (by omega), show (456 : Int32).toInt = 456 by decide]; omega), nI_T (by omega), show (456 : Int32).toInt = 456 by decide]; omega)
theorem lay_in (f g : Nat → Int64) {b : Nat} (hb : b < 100000) : ∀ i : Nat, i < 456 → lay f 0 g (nI b) 456 (b + i) = f i := fun i hi => by
  rw [show (0 : Int32) = nI 0 from rfl, lay_at f g 0 b 456 (by omega) (by omega), if_pos (by omega)]
  exact congrArg f (by omega)
theorem lay_out (f g : Nat → Int64) {b n : Nat} (hb : b < 100000) (hn : n < b ∨ b + 456 ≤ n) : lay f 0 g (nI b) 456 n = g n := by
  rw [show (0 : Int32) = nI 0 from rfl, lay_at f g 0 b 456 (by omega) (by omega), if_neg (by omega)]
theorem HR.keep {h : Nat → Int32} {sv : Nat → StV} {v : Nat → Int32} {u f : Nat → Int64} {N : Int} {x : StV} (H : HR h sv v u N) (R : RR x f) (I : II x) (hN : (x.1 2).toInt ≤ N) : HR (f_X1_keepPrepared_h h) (f_X1_prepare_sv h sv x) (f_X5_records_v v f u) (f_X5_records_u v f u) N := by
  obtain ⟨nx, sz, a, b, c, d, e, m⟩ := H
  have l6 : (6 ≤ h 1) ↔ nx = 6 := by
    rw [c, le_T, nI_T (by omega), show (6 : Int32).toInt = 6 by decide]
    omega
  have h1 : f_X1_keepPrepared_h h 1 = nI ((nx + 1) % 7) := by
    show f_X1_keepPrepared_x1 h = _
    unfold f_X1_keepPrepared_x1
    by_cases z : nx = 6
    · rw [if_pos (l6.mpr z), z]
      rfl
    · rw [if_neg (fun g => z (l6.mp g)), c, nI_s1 (by omega), show (nx + 1) % 7 = nx + 1 by omega]
  have h2 : f_X1_keepPrepared_h h 2 = nI (min (sz + 1) 6) := by
    show imin (h 2 + 1) 6 = _
    apply Int32.toInt_inj.mp
    rw [T_min, d, nI_s1 (by omega), nI_T (by omega), nI_T (by omega), show (6 : Int32).toInt = 6 by decide]
    omega
  have sv' : ∀ p : Nat, f_X1_prepare_sv h sv x p = if p = nx then x else sv p := fun p => by
    unfold f_X1_prepare_sv updF
    rw [c, nI_clamp (by omega)]
  have v36 : (v 3 = 6) ↔ sz = 6 := by
    rw [e]
    constructor
    · intro g
      have := congrArg Int32.toInt g
      rw [nI_T (by omega), show (6 : Int32).toInt = 6 by decide] at this
      omega
    · intro g
      rw [g]
      rfl
  by_cases z : sz = 6
  · have rv2 : f_X5_records_v2 v f u 3 = nI 5 := by
      unfold f_X5_records_v2
      rw [if_pos (v36.mpr z)]
      show v 3 - 1 = _
      rw [e, z]
      rfl
    have rv : f_X5_records_v v f u 3 = nI 6 := by
      show f_X5_records_v2 v f u 3 + 1 = _
      rw [rv2]
      rfl
    have ru : f_X5_records_u v f u = lay f 0 (shf u 2280) (nI (456 * 5)) 456 := by
      unfold f_X5_records_u f_X5_records_gq4 f_X5_records_v3
      rw [rv2, T_456 (by decide), if_pos (v36.mpr z)]
    refine ⟨(nx + 1) % 7, 6, by omega, by decide, h1, by rw [h2, z]; rfl, rv, fun j hj => ?_⟩
    unfold HRj
    rw [sv', ru]
    by_cases q : j = 5
    · subst q
      rw [if_pos (by omega)]
      exact ⟨R.ext fun n hn => lay_in f _ (by omega) n hn, I, hN⟩
    · rw [if_neg (by omega), show ((nx + 1) % 7 + 7 - 6 + j) % 7 = (nx + 7 - sz + (j + 1)) % 7 by omega]
      obtain ⟨m1, m2⟩ := m (j + 1) (by omega)
      refine ⟨m1.ext fun n hn => ?_, m2⟩
      rw [lay_out f _ (by omega) (by omega), shf_at u 2280 (by omega), if_pos (by omega)]
      exact congrArg u (by omega)
  · have rv2 : f_X5_records_v2 v f u 3 = nI sz := by
      unfold f_X5_records_v2
      rw [if_neg (fun g => z (v36.mp g))]
      exact e
    have rv : f_X5_records_v v f u 3 = nI (sz + 1) := by
      show f_X5_records_v2 v f u 3 + 1 = _
      rw [rv2, nI_s1 (by omega)]
    have ru : f_X5_records_u v f u = lay f 0 u (nI (456 * sz)) 456 := by
      unfold f_X5_records_u f_X5_records_gq4 f_X5_records_v3
      rw [rv2, T_456 (by omega), if_neg (fun g => z (v36.mp g))]
    refine ⟨(nx + 1) % 7, sz + 1, by omega, by omega, h1, by rw [h2]; exact congrArg nI (by omega), rv, fun j hj => ?_⟩
    unfold HRj
    rw [sv', ru]
    by_cases q : j = sz
    · subst q
      rw [if_pos (by omega)]
      exact ⟨R.ext fun n hn => lay_in f _ (by omega) n hn, I, hN⟩
    · rw [if_neg (by omega), show ((nx + 1) % 7 + 7 - (sz + 1) + j) % 7 = (nx + 7 - sz + j) % 7 by omega]
      obtain ⟨m1, m2⟩ := m j (by omega)
      refine ⟨m1.ext fun n hn => ?_, m2⟩
      rw [lay_out f _ (by omega) (by omega)]
theorem rec_oth (v : Nat → Int32) (f u : Nat → Int64) {i : Nat} (hi : ¬ i = 3) : f_X5_records_v v f u i = v i := by
  unfold f_X5_records_v f_X5_records_v2
  split
  · exact (if_neg hi).trans (if_neg hi)
  · exact if_neg hi
/-- the latest of them comes back -/
theorem HR.undo {h : Nat → Int32} {sv : Nat → StV} {v : Nat → Int32} {u f : Nat → Int64} {N : Int} {x : StV} (H : HR h sv v u N) (R : RR x f) (I : II x) (hN : (x.1 2).toInt ≤ N) :
    f_X4_undo_r h sv x = f_X5_undo_r v f u ∧ RR (f_X4_undo_xp h sv x) (f_X5_undo_f v f u) ∧ II (f_X4_undo_xp h sv x) ∧ ((f_X4_undo_xp h sv x).1 2).toInt ≤ N ∧ HR (f_X4_undo_h h sv x) sv (f_X5_undo_v v f u) u N := by
  obtain ⟨nx, sz, a, b, c, d, e, m⟩ := H
  have z0 : (nI sz = 0) ↔ sz = 0 := by
    constructor
    · intro g
      have := congrArg Int32.toInt g
      rw [nI_T (by omega), T_0] at this
      omega
    · intro g
      rw [g]
      rfl
  unfold f_X4_undo_r f_X5_undo_r f_X4_undo_xp f_X5_undo_f f_X4_undo_h f_X5_undo_v
  rw [d, e]
  by_cases z : sz = 0
  · have z' := z0.mpr z
    rw [if_pos z', if_pos z', if_pos z', if_pos z', if_pos z', if_pos z']
    exact ⟨rfl, R, I, hN, nx, sz, a, b, c, d, e, m⟩
  · have z' : ¬ nI sz = 0 := fun g => z (z0.mp g)
    rw [if_neg z', if_neg z', if_neg z', if_neg z', if_neg z', if_neg z']
    have d0 : ¬ h 2 ≤ 0 := fun g => by
      have := le_T.mp g
      rw [d, nI_T (by omega), T_0] at this
      omega
    have s1 : nI sz - 1 = nI (sz - 1) := nI_i (by rw [T_sub (by rw [nI_T (by omega), T_1]; omega) (by rw [nI_T (by omega), T_1]; omega), nI_T (by omega), T_1]; omega)
    have x1 : f_X1_bringBackLatest_x1 h sv x = nI ((nx + 6) % 7) := by
      unfold f_X1_bringBackLatest_x1
      rw [c]
      by_cases q : nx = 0
      · rw [q]
        rfl
      · rw [if_neg (fun g => by have := le_T.mp g; rw [nI_T (by omega), T_0] at this; omega)]
        refine nI_i ?_
        rw [T_sub (by rw [nI_T (by omega), T_1]; omega) (by rw [nI_T (by omega), T_1]; omega), nI_T (by omega), T_1]
        omega
    have xp : f_X1_bringBackLatest_xp h sv x = sv ((nx + 6) % 7) := by
      unfold f_X1_bringBackLatest_xp f_X1_bringBackLatest_v4
      rw [if_neg d0, x1, nI_clamp (by omega)]
    have hh : f_X1_bringBackLatest_h h sv x = upd (upd h 1 (nI ((nx + 6) % 7))) 2 (nI (sz - 1)) := by
      unfold f_X1_bringBackLatest_h f_X1_bringBackLatest_v3
      rw [if_neg d0, x1, d, s1]
    rw [xp, hh, s1, T_456 (by omega)]
    obtain ⟨m1, m2, m3⟩ := m (sz - 1) (by omega)
    rw [show (nx + 7 - sz + (sz - 1)) % 7 = (nx + 6) % 7 by omega] at m1 m2 m3
    refine ⟨rfl, m1.ext fun n hn => ?_, m2, m3, (nx + 6) % 7, sz - 1, by omega, by omega, rfl, rfl, rfl, fun j hj => ?_⟩
    · rw [show (0 : Int32) = nI 0 from rfl, lay_at u f (456 * (sz - 1)) 0 456 (by omega) (by omega), if_pos (by omega)]
      exact congrArg u (by omega)
    · rw [show ((nx + 6) % 7 + 7 - (sz - 1) + j) % 7 = (nx + 7 - sz + j) % 7 by omega]
      exact m j (by omega)
