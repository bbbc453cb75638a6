/-! CHANGES OF A STATION: what stays -/
theorem updF_id {α : Type} (f : Nat → α) (d j : Nat) : updF f d (f d) j = f j := by
  by_cases c : j = d
  · rw [c, updF_same]
  · rw [updF_oth c]
/-- a change leaves a station as it is wanted, its numbers, and what the drives lend and wrote -/
def KEP (x y : StV) (n c : Int) : Prop := STN y n c (fun _ => 0) ∧ y.1 = x.1 ∧ ∀ d : Nat, d < 4 → (y.2.2.1 d).1 2 = (x.2.2.1 d).1 2 ∧ (y.2.2.1 d).1 5 = (x.2.2.1 d).1 5
section CHG
variable {x : StV} {n c : Int} {d : Nat}
theorem KEP.rfl' (I : STN x n c (fun _ => 0)) : KEP x x n c := ⟨I, rfl, fun _ _ => ⟨rfl, rfl⟩⟩
theorem KEP.drv (I : STN x n c (fun _ => 0)) (hd : d < 4) (w : DO) (h1 : DI w.1 (9999 + 20 * n) (120 * n) n n) (h2 : w.1 2 = (x.2.2.1 d).1 2) (h5 : w.1 5 = (x.2.2.1 d).1 5) (h6 : w.1 6 = (x.2.2.1 d).1 6) (h7 : w.1 7 = (x.2.2.1 d).1 7) : KEP x (x.1, x.2.1, updF x.2.2.1 d w, updF x.2.2.2 d (x.2.2.2 d)) n c := by
  obtain ⟨i1, i2, i3, i4, i5⟩ := I
  refine ⟨⟨i1, i2, i3, i4, fun j hj => ?_⟩, rfl, fun j hj => ?_⟩
  · show DRV (updF x.2.2.1 d w j).1 (updF x.2.2.2 d (x.2.2.2 d) j) _
    rw [updF_id]
    by_cases e : j = d
    · subst e
      rw [updF_same]
      obtain ⟨-, q2, q3, q4, q5⟩ := i5 j hj
      rw [Int.add_zero] at q2 q5 ⊢
      exact ⟨h1, q2, by rw [h6, h7]; exact q3, by rw [h7]; exact q4, q5⟩
    · rw [updF_oth e]
      exact i5 j hj
  · show (updF x.2.2.1 d w j).1 2 = _ ∧ (updF x.2.2.1 d w j).1 5 = _
    by_cases e : j = d
    · subst e
      rw [updF_same]
      exact ⟨h2, h5⟩
    · rw [updF_oth e]
      exact ⟨rfl, rfl⟩
theorem ch_set (I : STN x n c (fun _ => 0)) (k y : Int32) : KEP x (f_X3_changeSetting_x x k y) n c := by
  unfold f_X3_changeSetting_x
  by_cases c0 : k < 0
  · rw [if_pos c0]
    exact KEP.rfl' I
  · rw [if_neg c0]
    by_cases c1 : k < 7
    · rw [if_pos c1]
      have hm := vin_nat (vin_lt (n := 7) (N := 7) rfl c0 c1)
      generalize k.toNatClampNeg = m at hm
      by_cases c2 : y < vLeast m
      · rw [if_pos c2]
        exact KEP.rfl' I
      · rw [if_neg c2]
        by_cases c3 : y ≤ vMost m
        · rw [if_pos c3]
          have a := le_T.mp (Int32.not_lt.mp c2)
          have b := le_T.mp c3
          obtain ⟨i1, i2, ⟨s0, s1, s2, s3, s4, s5, s6⟩, i4, i5⟩ := I
          refine ⟨⟨i1, i2, ?_, i4, i5⟩, rfl, fun _ _ => ⟨rfl, rfl⟩⟩
          have : m = 0 ∨ m = 1 ∨ m = 2 ∨ m = 3 ∨ m = 4 ∨ m = 5 ∨ m = 6 := by omega
          rcases this with h | h | h | h | h | h | h <;> subst h
          · exact ⟨⟨a, b⟩, s1, s2, s3, s4, s5, s6⟩
          · exact ⟨s0, ⟨a, b⟩, s2, s3, s4, s5, s6⟩
          · exact ⟨s0, s1, ⟨a, b⟩, s3, s4, s5, s6⟩
          · exact ⟨s0, s1, s2, ⟨a, b⟩, s4, s5, s6⟩
          · exact ⟨s0, s1, s2, s3, ⟨a, b⟩, s5, s6⟩
          · exact ⟨s0, s1, s2, s3, s4, ⟨a, b⟩, s6⟩
          · exact ⟨s0, s1, s2, s3, s4, s5, ⟨a, b⟩⟩
        · rw [if_neg c3]
          exact KEP.rfl' I
    · rw [if_neg c1]
      exact KEP.rfl' I
theorem ch_stream (I : STN x n c (fun _ => 0)) (k y z : Int32) : KEP x (f_X3_changeStream_x x k y z) n c := by
  unfold f_X3_changeStream_x
  by_cases c0 : f_X4_isDrive_r k = 0
  · rw [if_pos c0]
    exact KEP.rfl' I
  · have hd := vin_nat (lt_drive c0)
    rw [if_neg c0]
    by_cases c1 : y < 1
    · rw [if_pos c1]
      exact KEP.rfl' I
    · rw [if_neg c1]
      by_cases c2 : 60 < y
      · rw [if_pos c2]
        exact KEP.rfl' I
      · rw [if_neg c2]
        by_cases c3 : z < 0
        · rw [if_pos c3]
          exact KEP.rfl' I
        · rw [if_neg c3]
          by_cases c4 : z ≤ 20
          · rw [if_pos c4]
            have z1 := le_T.mp (Int32.not_lt.mp c1)
            have z2 := le_T.mp (Int32.not_lt.mp c2)
            have z3 := le_T.mp (Int32.not_lt.mp c3)
            have z4 := le_T.mp c4
            rw [T_1] at z1
            rw [T_60] at z2
            rw [T_0] at z3
            rw [show (20 : Int32).toInt = 20 by decide] at z4
            have D := (I.2.2.2.2 _ hd).1
            simp only [Int.add_zero] at D
            obtain ⟨a0, a1, a2, a3, a4, a5, a6, a7, a8, a9, b0, b1, b2, b3, b4, b5, b6⟩ := D
            exact KEP.drv I hd _ ⟨a0, a1, a2, a3, a4, a5, a6, a7, a8, a9, b0, b1, b2, z1, z2, z3, z4⟩ rfl rfl rfl rfl
          · rw [if_neg c4]
            exact KEP.rfl' I
theorem T_9999 : (9999 : Int32).toInt = 9999 := by decide
theorem ch_write (I : STN x n c (fun _ => 0)) (k y : Int32) : KEP x (f_X3_bringUnits_x x k y) n c := by
  unfold f_X3_bringUnits_x
  by_cases c0 : f_X4_isDrive_r k = 0
  · rw [if_pos c0]
    exact KEP.rfl' I
  · have hd := vin_nat (lt_drive c0)
    rw [if_neg c0]
    by_cases c1 : y < 1
    · rw [if_pos c1]
      exact KEP.rfl' I
    · rw [if_neg c1]
      by_cases c2 : y ≤ 200
      · rw [if_pos c2]
        by_cases c3 : (x.2.2.1 k.toNatClampNeg).1 3 ≤ 9999 - y
        · rw [if_pos c3]
          have z1 := le_T.mp (Int32.not_lt.mp c1)
          have z2 := le_T.mp c2
          have z3 := le_T.mp c3
          rw [T_1] at z1
          rw [show (200 : Int32).toInt = 200 by decide] at z2
          rw [T_sub (by rw [T_9999]; omega) (by rw [T_9999]; omega), T_9999] at z3
          have D := (I.2.2.2.2 _ hd).1
          simp only [Int.add_zero] at D
          have D' := D
          have n0 := I.2.1
          obtain ⟨a0, a1, a2, a3, a4, a5, a6, a7, a8, a9, b0, b1, b2, b3, b4, b5, b6⟩ := D'
          have e := T_add (x := (x.2.2.1 k.toNatClampNeg).1 3) (y := y) (by omega) (by omega)
          exact KEP.drv I hd _ (D.held (y := (x.2.2.1 k.toNatClampNeg).1 3 + y) (by omega) (by omega)) rfl rfl rfl rfl
        · rw [if_neg c3]
          exact KEP.rfl' I
      · rw [if_neg c2]
        exact KEP.rfl' I
theorem ch_trade (I : STN x n c (fun _ => 0)) (k y : Int32) {z u : Int32} (hz : (z = 0 ∧ u = 1) ∨ (z = 1 ∧ u = 0)) : KEP x (f_X3_changeHour_x x k y z u) n c := by
  unfold f_X3_changeHour_x
  by_cases c0 : f_X4_isDrive_r k = 0
  · rw [if_pos c0]
    exact KEP.rfl' I
  · have hd := vin_nat (lt_drive c0)
    rw [if_neg c0]
    by_cases c1 : f_X4_isHour_r y = 0
    · rw [if_pos c1]
      exact KEP.rfl' I
    · rw [if_neg c1]
      have hy := (isHour_T y).mp c1
      by_cases c2 : y ≤ f_X3_hourOfNow_r x.1
      · rw [if_pos c2]
        exact KEP.rfl' I
      · rw [if_neg c2]
        by_cases c3 : f_X3_changeHour_rq4 x k y z u = z
        · rw [if_pos c3]
          obtain ⟨i1, i2, i3, i4, i5⟩ := I
          have lt := lt_T.mp (Int32.not_le.mp c2)
          unfold f_X3_hourOfNow_r at lt
          rw [T_div (by omega) (by decide), T_60, i1] at lt
          unfold f_X3_changeHour_rq4 at c3
          rw [hs_eq] at c3
          have fq : f_X3_changeHour_fq5 x k y z u = upd8 (x.2.2.2 k.toNatClampNeg) y.toInt.toNat u := by
            unfold f_X3_changeHour_fq5
            rw [mk_eq, if_pos hy]
            rcases hz with ⟨_, e⟩ | ⟨_, e⟩ <;> rw [e] <;> rfl
          rw [fq]
          have eN : (y.toInt.toNat : Int) = y.toInt := by omega
          have hst : (x.2.2.2 k.toNatClampNeg y.toInt.toNat).toInt32 = z := by
            rw [← c3]
            unfold hsv
            rw [if_pos hy]
          refine ⟨⟨i1, i2, i3, i4, fun j hj => ?_⟩, rfl, fun j hj => ?_⟩
          · show DRV (updF x.2.2.1 k.toNatClampNeg (x.2.2.1 k.toNatClampNeg) j).1 (updF x.2.2.2 k.toNatClampNeg (upd8 (x.2.2.2 k.toNatClampNeg) y.toInt.toNat u) j) _
            rw [updF_id]
            by_cases e : j = k.toNatClampNeg
            · rw [e, updF_same]
              obtain ⟨q1, q2, q3, q4, q5⟩ := i5 _ hd
              rw [Int.add_zero] at q2 q5
              refine ⟨q1, ?_, q3, ?_, ?_⟩
              · rw [Int.add_zero]
                exact q2.mark hy (by rcases hz with ⟨_, e⟩ | ⟨_, e⟩ <;> rw [e] <;> decide) (fun _ => by rcases hz with ⟨_, e⟩ | ⟨_, e⟩ <;> rw [e] <;> decide)
              · rw [cnt_upd _ _ _ _ 100 (by omega), if_pos (by omega), hst, if_neg (by rcases hz with ⟨_, e⟩ | ⟨_, e⟩ <;> rw [e] <;> decide), if_neg (by rcases hz with ⟨e, _⟩ | ⟨e, _⟩ <;> rw [e] <;> decide)]
                omega
              · rw [Int.add_zero]
                intro q hq
                by_cases e2 : q = y.toInt.toNat
                · rw [show upd8 (x.2.2.2 k.toNatClampNeg) y.toInt.toNat u q = u.toInt8 from if_pos e2]
                  exact ⟨fun g => absurd g (by rcases hz with ⟨_, e⟩ | ⟨_, e⟩ <;> rw [e] <;> decide), fun _ => by omega⟩
                · rw [show upd8 (x.2.2.2 k.toNatClampNeg) y.toInt.toNat u q = x.2.2.2 k.toNatClampNeg q from if_neg e2]
                  exact q5 q hq
            · rw [updF_oth e]
              exact i5 j hj
          · show (updF x.2.2.1 k.toNatClampNeg (x.2.2.1 k.toNatClampNeg) j).1 2 = _ ∧ (updF x.2.2.1 k.toNatClampNeg (x.2.2.1 k.toNatClampNeg) j).1 5 = _
            rw [updF_id]
            exact ⟨rfl, rfl⟩
        · rw [if_neg c3]
          exact KEP.rfl' I
end CHG
/-- the row in which the next state is prepared -/
theorem vin_next {k : Int32} (h : vp_in k 7) : vp_in (if 6 ≤ k then 0 else k + 1) 7 := by
  obtain ⟨j, hj, rfl⟩ := vp_in_of h (by decide)
  rcases (show j = 0 ∨ j = 1 ∨ j = 2 ∨ j = 3 ∨ j = 4 ∨ j = 5 ∨ j = 6 by omega) with rfl | rfl | rfl | rfl | rfl | rfl | rfl <;> exact vin_lit (by decide)
theorem rec_h {h : Nat → Int32} (h7 : vp_in (h 1) 7) (k : Int32) : vp_in (f_X4_recorded_h h k 1) 7 ∧ (k < 0 → f_X4_recorded_h h k = h) := by
  unfold f_X4_recorded_h f_X4_recorded_v2
  by_cases c : k < 0
  · rw [if_pos c]
    exact ⟨h7, fun _ => rfl⟩
  · rw [if_neg c]
    exact ⟨vin_next h7, fun g => absurd g c⟩
/-- an action of the law -/
theorem act_S {h : Nat → Int32} {xp : StV} {n c : Int} (I : STN xp n c (fun _ => 0)) (h7 : vp_in (h 1) 7) (sv : Nat → StV) (w z : Nat → Int32) (k : Int32) :
    KEP xp (f_L_act_xp h sv xp w z k) n c ∧ vp_in (f_L_act_h h sv xp w z k 1) 7 ∧ (f_L_act_r h sv xp w z k < 0 → f_L_act_h h sv xp w z k = h) := by
  unfold f_L_act_xp f_L_act_h f_L_act_r
  by_cases c0 : lowF (z k.toNatClampNeg) 6 = 0
  · rw [if_pos c0, if_pos c0, if_pos c0]
    exact ⟨ch_trade I _ _ (.inl ⟨rfl, rfl⟩), rec_h h7 _⟩
  · rw [if_neg c0, if_neg c0, if_neg c0]
    by_cases c1 : lowF (z k.toNatClampNeg) 6 = 1
    · rw [if_pos c1, if_pos c1, if_pos c1]
      exact ⟨ch_trade I _ _ (.inr ⟨rfl, rfl⟩), rec_h h7 _⟩
    · rw [if_neg c1, if_neg c1, if_neg c1]
      by_cases c2 : lowF (z k.toNatClampNeg) 6 = 2
      · rw [if_pos c2, if_pos c2, if_pos c2]
        exact ⟨ch_stream I _ _ _, rec_h h7 _⟩
      · rw [if_neg c2, if_neg c2, if_neg c2]
        by_cases c3 : lowF (z k.toNatClampNeg) 6 = 3
        · rw [if_pos c3, if_pos c3, if_pos c3]
          exact ⟨ch_set I _ _, rec_h h7 _⟩
        · rw [if_neg c3, if_neg c3, if_neg c3]
          exact ⟨ch_write I _ _, rec_h h7 _⟩
