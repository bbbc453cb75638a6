/-! THE SIMULATION: changes of a station -/
theorem updF_id {α : Type} (f : Nat → α) (d j : Nat) : updF f d (f d) j = f j := by
  by_cases c : j = d
  · rw [c, updF_same]
  · rw [updF_oth c]
section CHG
variable {x : StV} {f F : Nat → Int64} {d : Nat}
theorem RR.drv (R : RR x f) (hd : d < 4) (w : DO) (h1 : sA w.1 F (12 + 11 * d) 10) (h2 : F (22 + 11 * d) = w.2) (h3 : ∀ n : Nat, (n < 12 + 11 * d ∨ 23 + 11 * d ≤ n) → F n = f n) : RR (x.1, x.2.1, updF x.2.2.1 d w, updF x.2.2.2 d (x.2.2.2 d)) F := by
  refine ⟨⟨fun i hi => ?_, fun i hi => ?_, fun j hj => ?_, fun j hj i hi => ?_⟩, fun j hj => ?_⟩
  · rw [h3 _ (by omega)]
    exact R.1.1 i hi
  · rw [h3 _ (by omega)]
    exact R.1.2.1 i hi
  · show sA (updF x.2.2.1 d w j).1 F _ _
    by_cases c : j = d
    · rw [c, updF_same]
      exact h1
    · rw [updF_oth c]
      intro i hi
      rw [h3 _ (by omega)]
      exact R.1.2.2.1 j hj i hi
  · show F (56 + 100 * j + i) = (updF x.2.2.2 d (x.2.2.2 d) j i).toInt32.toInt64
    rw [updF_id, h3 _ (by omega)]
    exact R.1.2.2.2 j hj i hi
  · show F (22 + 11 * j) = (updF x.2.2.1 d w j).2
    by_cases c : j = d
    · rw [c, updF_same]
      exact h2
    · rw [updF_oth c, h3 _ (by omega)]
      exact R.2 j hj
theorem II.drv (I : II x) (hd : d < 4) (w : DO) (h1 : DI w.1 (9999 + 20 * (x.1 2).toInt) (120 * (x.1 2).toInt) (x.1 2).toInt (x.1 2).toInt) (h2 : w.2 = (x.2.2.1 d).2) : II (x.1, x.2.1, updF x.2.2.1 d w, updF x.2.2.2 d (x.2.2.2 d)) := by
  refine II.mk I.n I.1.2.2.1 I.1.2.2.2.1 (fun j hj => ?_) (fun j hj => ?_) (fun j hj => ?_)
  · show DI (updF x.2.2.1 d w j).1 _ _ _ _
    by_cases c : j = d
    · rw [c, updF_same]
      exact h1
    · rw [updF_oth c]
      exact I.dv hj
  · show HI (updF x.2.2.2 d (x.2.2.2 d) j) _
    rw [updF_id]
    exact I.hv hj
  · show 0 ≤ (updF x.2.2.1 d w j).2.toInt ∧ (updF x.2.2.1 d w j).2.toInt ≤ _
    by_cases c : j = d
    · rw [c, updF_same, h2]
      exact I.2 d hd
    · rw [updF_oth c]
      exact I.2 j hj
/-- a change comes out: refused with the error e, or done -/
def OP (x : StV) (r : Int32) (X : StV) (may : Int32) (f F : Nat → Int64) (ans : Int32) : Prop := (may < 0 ∧ r = may ∧ X = x) ∨ (may = 0 ∧ 0 ≤ r.toInt ∧ r = ans ∧ RR X F ∧ II X)
theorem op_set (R : RR x f) (I : II x) (k y : Int32) : (¬ (¬ f_X5_in_r k.toInt64 0 6 = 0 ∧ ¬ f_X5_isFor_r k y = 0) ∧ f_X3_changeSetting_r x k y = -2 ∧ f_X3_changeSetting_x x k y = x) ∨ (¬ f_X5_in_r k.toInt64 0 6 = 0 ∧ ¬ f_X5_isFor_r k y = 0 ∧ 0 ≤ (f_X3_changeSetting_r x k y).toInt ∧ f_X3_changeSetting_r x k y = (f (5 + k).toNatClampNeg).toInt32 ∧ RR (f_X3_changeSetting_x x k y) (vp_updL f (5 + k).toNatClampNeg y.toInt64) ∧ II (f_X3_changeSetting_x x k y)) := by
  have q := in_T k 0 6
  rw [show (0 : Int64).toInt = 0 by decide, show (6 : Int64).toInt = 6 by decide] at q
  unfold f_X3_changeSetting_r f_X3_changeSetting_x
  by_cases c : 0 ≤ k.toInt ∧ k.toInt ≤ 6
  · obtain ⟨n, hn, rfl⟩ : ∃ n : Nat, n < 7 ∧ k = nI n := ⟨k.toInt.toNat, by omega, of_T c.1⟩
    have e : ∀ a b : Int64, (¬ f_X5_in_r y.toInt64 a b = 0) ↔ (a.toInt ≤ y.toInt ∧ y.toInt ≤ b.toInt) := in_T y
    have lm : ((¬ f_X5_isFor_r (nI n) y = 0) ↔ (¬ y < vLeast n ∧ y ≤ vMost n)) ∧ (5 + nI n).toNatClampNeg = 5 + n ∧ (0 ≤ (x.2.1 n).toInt) ∧ (¬ y < vLeast n → y ≤ vMost n → SI (upd x.2.1 n y)) := by
      have S := I.1.2.2.1
      have S' := S
      obtain ⟨s0, s1, s2, s3, s4, s5, s6⟩ := S'
      have : n = 0 ∨ n = 1 ∨ n = 2 ∨ n = 3 ∨ n = 4 ∨ n = 5 ∨ n = 6 := by omega
      unfold f_X5_isFor_r f_X5_isFor_x6
      rcases this with h | h | h | h | h | h | h <;> subst h
      · rw [if_pos (by decide), e, Int32.not_lt, le_T, le_T]
        exact ⟨Iff.rfl, by decide, s0.1, fun a b => ⟨⟨a, b⟩, s1, s2, s3, s4, s5, s6⟩⟩
      · rw [if_neg (by decide), if_pos (by decide), e, Int32.not_lt, le_T, le_T]
        exact ⟨Iff.rfl, by decide, s1.1, fun a b => ⟨s0, ⟨a, b⟩, s2, s3, s4, s5, s6⟩⟩
      · rw [if_neg (by decide), if_neg (by decide), if_pos (by decide), e, Int32.not_lt, le_T, le_T]
        exact ⟨Iff.rfl, by decide, s2.1, fun a b => ⟨s0, s1, ⟨a, b⟩, s3, s4, s5, s6⟩⟩
      · rw [if_neg (by decide), if_neg (by decide), if_neg (by decide), if_neg (by decide), e, Int32.not_lt, le_T, le_T]
        exact ⟨Iff.rfl, by decide, s3.1, fun a b => ⟨s0, s1, s2, ⟨a, b⟩, s4, s5, s6⟩⟩
      · rw [if_neg (by decide), if_neg (by decide), if_neg (by decide), if_neg (by decide), e, Int32.not_lt, le_T, le_T]
        exact ⟨Iff.rfl, by decide, s4.1, fun a b => ⟨s0, s1, s2, s3, ⟨a, b⟩, s5, s6⟩⟩
      · rw [if_neg (by decide), if_neg (by decide), if_neg (by decide), if_pos (by decide), e, Int32.not_lt, le_T, le_T]
        exact ⟨Iff.rfl, by decide, Int.le_trans (by decide) s5.1, fun a b => ⟨s0, s1, s2, s3, s4, ⟨a, b⟩, s6⟩⟩
      · rw [if_neg (by decide), if_neg (by decide), if_neg (by decide), if_neg (by decide), e, Int32.not_lt, le_T, le_T]
        exact ⟨Iff.rfl, by decide, s6.1, fun a b => ⟨s0, s1, s2, s3, s4, s5, ⟨a, b⟩⟩⟩
    obtain ⟨l1, l2, l3, l4⟩ := lm
    rw [if_neg (fun h => by have := lt_T.mp h; rw [T_0] at this; omega), if_pos (lt_T.mpr (by rw [show (7 : Int32).toInt = 7 by decide]; omega)), if_neg (show ¬ nI n < 0 from fun h => by have := lt_T.mp h; rw [T_0] at this; omega), if_pos (lt_T.mpr (show (nI n).toInt < (7 : Int32).toInt by rw [show (7 : Int32).toInt = 7 by decide]; omega)), nI_clamp (n := n) (by omega), l2]
    by_cases c1 : y < vLeast n
    · rw [if_pos c1, if_pos c1]
      exact .inl ⟨fun h => (l1.mp h.2).1 c1, rfl, rfl⟩
    · rw [if_neg c1, if_neg c1]
      by_cases c2 : y ≤ vMost n
      · rw [if_pos c2, if_pos c2]
        refine .inr ⟨q.mpr c, l1.mpr ⟨c1, c2⟩, l3, ?_, ?_, ?_⟩
        · rw [R.s hn, E_toInt32]
        · refine ⟨⟨R.1.1.oth (by omega), R.1.2.1.set rfl, fun j hj => (R.1.2.2.1 j hj).oth (by omega), fun j hj => (R.1.2.2.2 j hj).oth (by omega)⟩, fun j hj => ?_⟩
          rw [vp_oth (by omega)]
          exact R.2 j hj
        · exact ⟨⟨I.1.1, I.1.2.1, l4 c1 c2, I.1.2.2.2⟩, I.2⟩
      · rw [if_neg c2, if_neg c2]
        exact .inl ⟨fun h => c2 (l1.mp h.2).2, rfl, rfl⟩
  · refine .inl ⟨fun h => c (q.mp h.1), ?_⟩
    by_cases c1 : k < 0
    · rw [if_pos c1, if_pos c1]
      exact ⟨rfl, rfl⟩
    · have z := le_T.mp (Int32.not_lt.mp c1)
      rw [T_0] at z
      have c2 : ¬ k < 7 := fun h => by
        have := lt_T.mp h
        rw [show (7 : Int32).toInt = 7 by decide] at this
        exact c ⟨z, by omega⟩
      rw [if_neg c1, if_neg c1, if_neg c2, if_neg c2]
      exact ⟨rfl, rfl⟩
theorem op_stream (R : RR x f) (I : II x) (v v' : Nat → Int32) (k y z : Int32) : OP x (f_X3_changeStream_r x k y z) (f_X3_changeStream_x x k y z) (f_X5_mayStream_r v k y z) f (f_X5_streams_f v' f k y z) (f_X5_streams_r v' f k y z) := by
  unfold OP f_X3_changeStream_r f_X3_changeStream_x f_X5_mayStream_r f_X5_mayStream_x4 f_X5_streams_f f_X5_streams_r
  have qy := in_T y 1 60
  have qz := in_T z 0 20
  rw [show (1 : Int64).toInt = 1 by decide, show (60 : Int64).toInt = 60 by decide] at qy
  rw [show (0 : Int64).toInt = 0 by decide, show (20 : Int64).toInt = 20 by decide] at qz
  rcases drC k with ⟨a, b⟩ | ⟨a, b, d, hd, rfl⟩
  · rw [if_pos a, if_pos a, if_pos b]
    exact .inl ⟨by decide, rfl, rfl⟩
  · rw [if_neg a, if_neg a, if_neg b]
    by_cases c1 : y < 1
    · have := lt_T.mp c1
      rw [T_1] at this
      rw [if_pos c1, if_pos c1, if_pos (Classical.byContradiction fun h => by have := qy.mp h; omega)]
      exact .inl ⟨by decide, rfl, rfl⟩
    · rw [if_neg c1, if_neg c1]
      have z1 := le_T.mp (Int32.not_lt.mp c1)
      rw [T_1] at z1
      by_cases c2 : 60 < y
      · have := lt_T.mp c2
        rw [T_60] at this
        rw [if_pos c2, if_pos c2, if_pos (Classical.byContradiction fun h => by have := qy.mp h; omega)]
        exact .inl ⟨by decide, rfl, rfl⟩
      · rw [if_neg c2, if_neg c2]
        have z2 := le_T.mp (Int32.not_lt.mp c2)
        rw [T_60] at z2
        rw [if_neg (qy.mpr ⟨z1, z2⟩)]
        by_cases c3 : z < 0
        · have := lt_T.mp c3
          rw [T_0] at this
          rw [if_pos c3, if_pos c3, if_pos (Classical.byContradiction fun h => by have := qz.mp h; omega)]
          exact .inl ⟨by decide, rfl, rfl⟩
        · rw [if_neg c3, if_neg c3]
          have z3 := le_T.mp (Int32.not_lt.mp c3)
          rw [T_0] at z3
          by_cases c4 : z ≤ 20
          · have z4 := le_T.mp c4
            rw [show (20 : Int32).toInt = 20 by decide] at z4
            rw [if_pos c4, if_pos c4, if_neg (qz.mpr ⟨z3, z4⟩), nI_clamp (n := d) (by omega), row_p hd (by decide), row_p hd (by decide), show (8 : Int32).toNatClampNeg = 8 by decide, show (9 : Int32).toNatClampNeg = 9 by decide, R.v hd (by decide), E_toInt32]
            have D := I.dv hd
            have D' := D
            obtain ⟨a0, a1, a2, a3, a4, a5, a6, a7, a8, a9, b0, b1, b2, b3, b4, b5, b6⟩ := D'
            refine .inr ⟨rfl, b5, rfl, R.drv hd _ (((R.1.2.2.1 d hd).set (j := 8) rfl).set (j := 9) rfl) ?_ (fun n hn => ?_), I.drv hd _ ⟨a0, a1, a2, a3, a4, a5, a6, a7, a8, a9, b0, b1, b2, z1, z2, z3, z4⟩ rfl⟩
            · rw [vp_oth (by omega), vp_oth (by omega)]
              exact R.2 d hd
            · rw [vp_oth (by omega), vp_oth (by omega)]
          · rw [if_neg c4, if_neg c4, if_pos (Classical.byContradiction fun h => c4 (le_T.mpr (qz.mp h).2))]
            exact .inl ⟨by decide, rfl, rfl⟩
theorem T_9999 : (9999 : Int32).toInt = 9999 := by decide
theorem op_write (R : RR x f) (I : II x) (v v' : Nat → Int32) (k y : Int32) : OP x (f_X3_bringUnits_r x k y) (f_X3_bringUnits_x x k y) (f_X5_mayWrite_r v f k y) f (f_X5_comes_f v' f k y) (f_X5_comes_r v' f k y) := by
  unfold OP f_X3_bringUnits_r f_X3_bringUnits_x f_X5_mayWrite_r f_X5_mayWrite_x4 f_X5_comes_f f_X5_comes_r
  have qy := in_T y 1 200
  rw [show (1 : Int64).toInt = 1 by decide, show (200 : Int64).toInt = 200 by decide] at qy
  rcases drC k with ⟨a, b⟩ | ⟨a, b, d, hd, rfl⟩
  · rw [if_pos a, if_pos a, if_pos b]
    exact .inl ⟨by decide, rfl, rfl⟩
  · rw [if_neg a, if_neg a, if_neg b]
    by_cases c1 : y < 1
    · have := lt_T.mp c1
      rw [T_1] at this
      rw [if_pos c1, if_pos c1, if_pos (Classical.byContradiction fun h => by have := qy.mp h; omega)]
      exact .inl ⟨by decide, rfl, rfl⟩
    · rw [if_neg c1, if_neg c1]
      have z1 := le_T.mp (Int32.not_lt.mp c1)
      rw [T_1] at z1
      by_cases c2 : y ≤ 200
      · have z2 := le_T.mp c2
        rw [show (200 : Int32).toInt = 200 by decide] at z2
        rw [if_pos c2, if_pos c2, if_neg (qy.mpr ⟨z1, z2⟩), nI_clamp (n := d) (by omega), row_p hd (by decide), show (3 : Int32).toNatClampNeg = 3 by decide, R.v hd (by decide)]
        have n0 := I.n
        have D := I.dv hd
        have D' := D
        obtain ⟨a0, a1, a2, a3, a4, a5, a6, a7, a8, a9, b0, b1, b2, b3, b4, b5, b6⟩ := D'
        have e := T_add (x := (x.2.2.1 d).1 3) (y := y) (by omega) (by omega)
        have e9 : (9999 - y).toInt = 9999 - y.toInt := by rw [T_sub (by rw [T_9999]; omega) (by rw [T_9999]; omega), T_9999]
        have cc := Ec_le (x := (x.2.2.1 d).1 3 + y) (y := 9999)
        rw [show (9999 : Int32).toInt64 = 9999 by decide, E_add (by omega) (by omega)] at cc
        by_cases c3 : (x.2.2.1 d).1 3 ≤ 9999 - y
        · have z3 := le_T.mp c3
          rw [e9] at z3
          rw [if_pos c3, if_pos c3, if_pos (cc.mpr (le_T.mpr (by rw [T_9999]; omega))), vp_hit, ← E_add (by omega) (by omega), E_toInt32]
          refine .inr ⟨rfl, by omega, rfl, R.drv hd _ ((R.1.2.2.1 d hd).set (j := 3) rfl) ?_ (fun n hn => ?_), I.drv hd _ (D.held (y := (x.2.2.1 d).1 3 + y) (by omega) (by omega)) rfl⟩
          · rw [vp_oth (by omega)]
            exact R.2 d hd
          · rw [vp_oth (by omega)]
        · rw [if_neg c3, if_neg c3, if_neg (fun h => c3 (le_T.mpr (by have := le_T.mp (cc.mp h); rw [T_9999] at this; omega)))]
          exact .inl ⟨by decide, rfl, rfl⟩
      · rw [if_neg c2, if_neg c2, if_pos (Classical.byContradiction fun h => c2 (le_T.mpr (qy.mp h).2))]
        exact .inl ⟨by decide, rfl, rfl⟩
end CHG
