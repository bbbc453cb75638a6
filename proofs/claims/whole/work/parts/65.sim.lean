/-! THE SIMULATION: a minute of a station -/
section PM7
variable (g s : Nat → Int32) (v t : DO) (hk he : Nat → Int8)
theorem wrT_oth (v t : DO) (room q qe : Int32) {j : Nat} (hj : ¬ j = 0 ∧ ¬ j = 1 ∧ ¬ j = 2) : (wrT v t room q qe).1 j = t.1 j := by
  have h1 : (f_X0_takeBackFrom_t v t).1 j = t.1 j := (if_neg hj.2.1).trans (if_neg hj.2.2)
  have h2 : ∀ (w u : DO), (f_X0_lendTo_t w u room).1 j = u.1 j := fun w u => by
    unfold f_X0_lendTo_t f_X0_lendTo_v2
    split
    · rfl
    · exact (if_neg hj.2.2).trans (if_neg hj.1)
  unfold wrT
  by_cases q0 : q = 0
  · rw [if_pos q0, if_pos q0]
    exact h1
  · rw [if_neg q0, if_neg q0]
    split
    · exact h2 _ _
    · rfl
theorem fill_7 (v : DO) (n : Int32) : (f_X0_fillCells_v v n).1 7 = v.1 7 := rfl
theorem wh_7 (v : DO) : (f_X0_writeHeld_v v).1 7 = v.1 7 := rfl
theorem lend_7 (v t : DO) (n : Int32) : (f_X0_lendTo_v v t n).1 7 = v.1 7 := by
  unfold f_X0_lendTo_v f_X0_lendTo_v1
  split <;> rfl
theorem wrV_7 (v t : DO) (room q qe : Int32) : (wrV v t room q qe).1 7 = v.1 7 := by
  have h0 : (if q = 0 then f_X0_takeBackFrom_v v t else v).1 7 = v.1 7 := by
    split <;> rfl
  unfold wrV
  by_cases q0 : q = 0
  · rw [if_pos q0, wh_7, h0]
  · rw [if_neg q0]
    by_cases q1 : qe = 0
    · rw [if_pos q1, lend_7, wh_7, h0]
    · rw [if_neg q1, wh_7, h0]
theorem st_7 (v : DO) (m : Int32) : (f_X0_takeStream_v v m).1 7 = v.1 7 := by
  unfold f_X0_takeStream_v f_X0_takeStream_v1
  (repeat' split) <;> rfl
theorem cu_7 (g s : Nat → Int32) (v : DO) (q : Int32) : (f_X3_cleanUp_v g s v q).1 7 = v.1 7 := by
  show (f_X3_cleanUp_v4 g s v q).1 7 = v.1 7
  unfold f_X3_cleanUp_v4
  split <;> rfl
theorem pm_t (j : Nat) (hj : ¬ j = 0 ∧ ¬ j = 1 ∧ ¬ j = 2) : (f_X3_passMinuteOf_tv g s v hk t he).1 j = t.1 j := by
  rw [f_X3_passMinuteOf_tv_eq, pm_14]
  exact wrT_oth _ _ _ _ _ hj
theorem pm_7 : (f_X3_passMinuteOf_v g s v hk t he).1 7 = v.1 7 + (if f_X3_passMinuteOf_r g s v hk t he = 0 then 0 else 1) := by
  have e : (f_X3_passMinuteOf_v13 g s v hk t he).1 7 = v.1 7 := by rw [pm_13, wrV_7, st_7]
  have v1 : (f_X3_passMinuteOf_v g s v hk t he).1 = (f_X3_passMinuteOf_v18 g s v hk t he).1 := by rw [f_X3_passMinuteOf_v_eq g s v hk t he]
  rw [v1, pm_v, pm_r]
  unfold clV
  by_cases a : f_X3_cleanUp_r (f_X3_passMinuteOf_v4 g s v hk t he) s (f_X3_passMinuteOf_v13 g s v hk t he) (f_X0_isQuietIn_r v hk (f_X3_hourOfNow_r g)) = 0
  · rw [if_pos a, if_pos a, if_pos rfl, Int32.add_zero, cu_7, e]
  · rw [if_neg a, if_neg a]
    by_cases b : f_X0_isQuietIn_r v hk (f_X3_hourOfNow_r g) = 0
    · rw [if_pos b, if_pos b, if_pos rfl, Int32.add_zero, cu_7, e]
    · rw [if_neg b, if_neg b, if_neg (show ¬ (1 : Int32) = 0 by decide), ← e]
      exact congrArg (fun z : Int32 => z + 1) (cu_7 (f_X3_passMinuteOf_v4 g s v hk t he) s (f_X3_passMinuteOf_v13 g s v hk t he) (f_X0_isQuietIn_r v hk (f_X3_hourOfNow_r g)))
end PM7
/-- the longs f are the station x, but for the sums and its time's own growth -/
def RQ (x : StV) (f : Nat → Int64) : Prop := sA (fun i => x.1 (i + 2)) f 0 5 ∧ sA x.2.1 f 5 7 ∧ (∀ d : Nat, d < 4 → sA (x.2.2.1 d).1 f (12 + 11 * d) 10) ∧ ∀ d : Nat, d < 4 → sA (fun i => (x.2.2.2 d i).toInt32) f (56 + 100 * d) 100
/-- a station in the minute n, where the drive d has had b d turns of it -/
def IQ (x : StV) (n c u : Int) (b : Nat → Int) : Prop := (x.1 2).toInt = n ∧ (0 ≤ n ∧ n ≤ 13000000) ∧ SI x.2.1 ∧ GI x.1 c u ∧ (∀ d : Nat, d < 4 → DI (x.2.2.1 d).1 (9999 + 20 * (n + b d)) (120 * (n + b d)) (n + b d) (n + b d)) ∧ ∀ d : Nat, d < 4 → HI (x.2.2.2 d) (n + b d)
/-- a drive's turn -/
noncomputable def turnO (x : StV) (k e : Nat) : StV := (f_X3_passMinuteOf_g x.1 x.2.1 (x.2.2.1 k) (x.2.2.2 k) (x.2.2.1 e) (x.2.2.2 e), x.2.1, updF (updF x.2.2.1 k (f_X3_passMinuteOf_v x.1 x.2.1 (x.2.2.1 k) (x.2.2.2 k) (x.2.2.1 e) (x.2.2.2 e))) e (f_X3_passMinuteOf_tv x.1 x.2.1 (x.2.2.1 k) (x.2.2.2 k) (x.2.2.1 e) (x.2.2.2 e)), updF x.2.2.2 k (f_X3_passMinuteOf_f x.1 x.2.1 (x.2.2.1 k) (x.2.2.2 k) (x.2.2.1 e) (x.2.2.2 e)))
noncomputable def turnR (x : StV) (k e : Nat) : Int32 := f_X3_passMinuteOf_r x.1 x.2.1 (x.2.2.1 k) (x.2.2.2 k) (x.2.2.1 e) (x.2.2.2 e)
theorem updF_same {α : Type} (f : Nat → α) (k : Nat) (x : α) : updF f k x k = x := if_pos rfl
theorem updF_oth {α : Type} {f : Nat → α} {k j : Nat} {x : α} (h : ¬ j = k) : updF f k x j = f j := if_neg h
/-- what a turn leaves of a drive's sum and of its overruns -/
def turnD (x y : StV) (k e : Nat) (r : Int32) : Prop := (y.2.2.1 k).2 = (x.2.2.1 k).2 + ((y.2.2.1 k).1 3).toInt64 ∧ (∀ d : Nat, ¬ d = k → (y.2.2.1 d).2 = (x.2.2.1 d).2 ∧ (y.2.2.1 d).1 3 = (x.2.2.1 d).1 3 ∧ (y.2.2.1 d).1 7 = (x.2.2.1 d).1 7) ∧ (y.2.2.1 k).1 7 = (x.2.2.1 k).1 7 + (if r = 0 then 0 else 1)
theorem sim_tq {x : StV} {f : Nat → Int64} {k e : Nat} (hk4 : k < 4) (he4 : e < 4) (hke : ¬ k = e) (hx : nI k ^^^ 1 = nI e) (R : RQ x f) {n c u : Int} {b : Nat → Int} (I : IQ x n c u b) (hb : ∀ d : Nat, b d = 0 ∨ b d = 1) (hbk : b k = 0) (hc : 0 ≤ c ∧ c ≤ 1000000) (hu : u ≤ 1800000000) :
    RQ (turnO x k e) (dayM f (nI k)) ∧ IQ (turnO x k e) n (c + lateB n) (u + 1) (updF b k 1) ∧ turnD x (turnO x k e) k e (turnR x k e) ∧ (∀ j : Nat, j < 4 → dayM f (nI k) (22 + 11 * j) = f (22 + 11 * j)) ∧ dayM f (nI k) 0 = f 0 := by
  obtain ⟨r1, r2, r3, r4⟩ := R
  obtain ⟨i1, i2, i3, i4, i5, i6⟩ := I
  have dk := i5 k hk4
  have de := i5 e he4
  rw [hbk] at dk
  have be := hb e
  have L : sL x.1 x.2.1 (x.2.2.1 k).1 (x.2.2.1 e).1 (x.2.2.2 k) (x.2.2.2 e) f f k e := ⟨⟨hk4, he4, hke⟩, r1, r2, r3 k hk4, r3 e he4, r4 k hk4, r4 e he4, fun _ _ _ _ _ => rfl⟩
  have hik := i6 k hk4
  rw [hbk, Int.add_zero] at hik
  obtain ⟨T1, T2, T3, T4, T5, T6, T7, T8⟩ := sim_turn L hx dk de (by omega) (by omega) (by omega) (by omega) i3 (by omega) (by rw [i1]; exact hik) (i6 e he4) i4 hc hu
  rw [i1] at T7 T8
  obtain ⟨-, s1, s2, s3, s4, s5, s6, s7⟩ := T1
  have vk : (turnO x k e).2.2.1 k = f_X3_passMinuteOf_v x.1 x.2.1 (x.2.2.1 k) (x.2.2.2 k) (x.2.2.1 e) (x.2.2.2 e) := (updF_oth hke).trans (updF_same _ _ _)
  have ve : (turnO x k e).2.2.1 e = f_X3_passMinuteOf_tv x.1 x.2.1 (x.2.2.1 k) (x.2.2.2 k) (x.2.2.1 e) (x.2.2.2 e) := updF_same _ _ _
  have vo : ∀ d : Nat, ¬ d = k → ¬ d = e → (turnO x k e).2.2.1 d = x.2.2.1 d := fun d h1 h2 => (updF_oth h2).trans (updF_oth h1)
  have hok : (turnO x k e).2.2.2 k = f_X3_passMinuteOf_f x.1 x.2.1 (x.2.2.1 k) (x.2.2.2 k) (x.2.2.1 e) (x.2.2.2 e) := updF_same _ _ _
  have ho : ∀ d : Nat, ¬ d = k → (turnO x k e).2.2.2 d = x.2.2.2 d := fun d h1 => updF_oth h1
  have far : ∀ m : Nat, 5 ≤ m → (m < 12 + 11 * k ∨ 22 + 11 * k ≤ m) → (m < 12 + 11 * e ∨ 22 + 11 * e ≤ m) → (m < 56 + 100 * k ∨ 156 + 100 * k ≤ m) → dayM f (nI k) m = f m := s7
  refine ⟨⟨s1, s2, fun d hd => ?_, fun d hd => ?_⟩, ⟨?_, i2, i3, T8, fun d hd => ?_, fun d hd => ?_⟩, ⟨?_, fun d h1 => ?_, ?_⟩, fun j hj => ?_, ?_⟩
  · by_cases h1 : d = k
    · subst h1
      rw [vk]
      exact s3
    · by_cases h2 : d = e
      · subst h2
        rw [ve]
        exact s4
      · rw [vo d h1 h2]
        intro q hq
        rw [far _ (by omega) (by omega) (by omega) (by omega)]
        exact r3 d hd q hq
  · by_cases h1 : d = k
    · subst h1
      rw [hok]
      exact s5
    · rw [ho d h1]
      intro q hq
      rw [far _ (by omega) (by omega) (by omega) (by omega)]
      exact r4 d hd q hq
  · rw [show (turnO x k e).1 2 = x.1 2 from T6, i1]
  · by_cases h1 : d = k
    · subst h1
      rw [vk, updF_same]
      exact T2.mono (by omega) (by omega) (by omega) (by omega)
    · rw [updF_oth h1]
      by_cases h2 : d = e
      · subst h2
        rw [ve]
        exact T3
      · rw [vo d h1 h2]
        exact i5 d hd
  · by_cases h1 : d = k
    · subst h1
      rw [hok, updF_same]
      exact T7
    · rw [updF_oth h1, ho d h1]
      exact i6 d hd
  · rw [vk]
    exact T4
  · by_cases h2 : d = e
    · subst h2
      rw [ve]
      exact ⟨T5, pm_t _ _ _ _ _ _ 3 (by omega), pm_t _ _ _ _ _ _ 7 (by omega)⟩
    · rw [vo d h1 h2]
      exact ⟨rfl, rfl, rfl⟩
  · rw [vk]
    exact pm_7 _ _ _ _ _ _
  · exact far _ (by omega) (by omega) (by omega) (by omega)
  · rw [s1 0 (by decide), r1 0 (by decide)]
    exact congrArg Int32.toInt64 T6
