/-! THE SIMULATION: what is told of a drive -/
section TOLD
variable {x : StV} {f : Nat → Int64}
theorem ho_n (R : RR x f) {d h : Nat} (hd : d < 4) (hh : h < 100) : f_X5_hourOf_r f (nI d) (nI h).toInt64 = (x.2.2.2 d h).toInt32 := by
  rw [ho_eq (R.1.2.2.2 d hd) hd, hsv_nat _ hh]
theorem an_hour (R : RR x f) (v : Nat → Int32) (k y : Int32) : f_X4_hour_r x k y = f_X5_hour_r v f k y := by
  unfold f_X4_hour_r f_X5_hour_r f_X4_hour_x4 f_X5_hour_x4 f_X4_hour_rq3
  rcases drC k with ⟨a, b⟩ | ⟨a, b, d, hd, rfl⟩
  · rw [if_pos a, if_pos b]
  · rw [if_neg a, if_neg b]
    rcases hrC y with ⟨a', b'⟩ | ⟨a', b', h, hh, rfl⟩
    · rw [if_pos a', if_pos b']
    · rw [if_neg a', if_neg b', hs_eq, ho_eq (R.1.2.2.2 d hd) hd, nI_clamp (by omega)]
theorem cnt_rng (hk : Nat → Int8) (y : Int32) : ∀ n : Nat, n ≤ 100 → 0 ≤ (cntH hk y n).toInt ∧ (cntH hk y n).toInt ≤ n
  | 0, _ => ⟨by show 0 ≤ (0 : Int32).toInt; decide, by show (0 : Int32).toInt ≤ 0; decide⟩
  | n + 1, h => by
    obtain ⟨a, b⟩ := cnt_rng hk y n (by omega)
    unfold cntH
    split
    · rw [T_add (by rw [T_1]; omega) (by rw [T_1]; omega), T_1]
      omega
    · omega
theorem hrs_cnt (R : RR x f) {d : Nat} (hd : d < 4) {y : Int32} (hy : 0 < y.toInt) : ∀ n : Nat, n ≤ 100 → hrsA f (nI d) y n = cntH (x.2.2.2 d) y n
  | 0, _ => rfl
  | n + 1, h => by
    unfold hrsA cntH
    rw [hrs_cnt R hd hy n (by omega), if_neg (fun z => by rw [z, T_0] at hy; omega), if_neg (fun z => by have := le_T.mp z; rw [T_0] at this; omega), ho_n R hd (by omega)]
    split
    · rfl
    · exact Int32.add_zero _
theorem hrs_0 (R : RR x f) (I : II x) {d : Nat} (hd : d < 4) : ∀ n : Nat, n ≤ 100 → (hrsA f (nI d) 0 n).toInt = n - (cntH (x.2.2.2 d) 0 n).toInt
  | 0, _ => by
    show (0 : Int32).toInt = (0 : Int) - (0 : Int32).toInt
    decide
  | n + 1, h => by
    obtain ⟨a, b⟩ := cnt_rng (x.2.2.2 d) 0 n (by omega)
    have ih := hrs_0 R I hd n (by omega)
    have hq := ((I.hv hd) n (by omega)).1
    unfold hrsA cntH
    rw [if_pos rfl, ho_n R hd (by omega), if_pos (show (0 : Int32) ≤ 0 by decide)]
    by_cases c : (x.2.2.2 d n).toInt32 = 0
    · rw [if_pos c, c, if_neg (show ¬ (0 : Int32) < 0 by decide), Int32.add_zero, T_add (by rw [T_1]; omega) (by rw [T_1]; omega), T_1]
      omega
    · rw [if_neg c, if_pos (by rcases hq with q | q | q | q <;> rw [q] at c ⊢ <;> first | exact absurd rfl c | decide), T_add (by rw [T_1]; omega) (by rw [T_1]; omega), T_1]
      omega
theorem sold_eq (R : RR x f) (I : II x) {d : Nat} (hd : d < 4) (w : DO) : f_X0_soldHours_r w (x.2.2.2 d) = hrsA f (nI d) 0 100 := by
  obtain ⟨a, b⟩ := cnt_rng (x.2.2.2 d) 0 100 (by omega)
  unfold f_X0_soldHours_r f_X0_hoursThatAre_r
  apply Int32.toInt_inj.mp
  have e100 : (100 : Int32).toInt = 100 := by decide
  rw [hrs_0 R I hd 100 (by omega), T_sub (by rw [e100]; omega) (by rw [e100]; omega), e100]
  rfl
theorem row_x (hk : Nat → Int8) (R : RR x f) {d : Nat} (hd : d < 4) : ∀ n i : Nat, n + i = 100 → rowX (x.2.2.2 d) n i = rowA (x.2.2.2 d) i + strA f (nI d) n
  | 0, i, _ => (Int32.add_zero _).symm
  | n + 1, i, h => by
    unfold rowX strA
    rw [ho_n R hd (by omega), show 99 - i = n by omega]
    by_cases c : (x.2.2.2 d n).toInt32 = 3
    · rw [if_pos c, if_pos c]
      exact (Int32.add_zero _).symm
    · rw [if_neg c, if_neg c, row_x hk R hd n (i + 1) (by omega)]
      show (if (x.2.2.2 d (99 - i)).toInt32 = 2 then rowA (x.2.2.2 d) i + 1 else rowA (x.2.2.2 d) i) + _ = _
      rw [show 99 - i = n by omega]
      by_cases e : (x.2.2.2 d n).toInt32 = 2
      · rw [if_pos e, if_pos e, Int32.add_assoc, Int32.add_comm 1]
      · rw [if_neg e, if_neg e]
theorem an_streak (R : RR x f) (k : Int32) : f_X4_streak_r x k = f_X5_streak_r f k := by
  unfold f_X4_streak_r f_X4_streak_x3 f_X5_streak_r
  rcases drC k with ⟨a, b⟩ | ⟨a, b, d, hd, rfl⟩
  · rw [if_pos a, if_pos b]
  · rw [if_neg a, if_neg b, nI_clamp (by omega), row_x (x.2.2.2 d) R hd 100 0 rfl]
    exact Int32.zero_add _
theorem an_share (R : RR x f) (v : Nat → Int32) (k : Int32) : f_X4_share_r x k = f_X5_share_r v f k := by
  unfold f_X4_share_r f_X5_share_r
  rcases drC k with ⟨a, b⟩ | ⟨a, b, d, hd, rfl⟩
  · rw [if_pos a, if_pos b]
  · rw [if_neg a, if_neg b]
    unfold f_X4_share_x5 f_X5_share_x5 f_X4_share_rq4 f_X5_share_rq4 f_X4_share_rq2 f_X4_share_rq3 f_X0_hoursThatAre_r
    rw [nI_clamp (by omega), hrs_cnt R hd (y := 2) (by decide) 100 (by omega), hrs_cnt R hd (y := 3) (by decide) 100 (by omega)]
    obtain ⟨a2, b2⟩ := cnt_rng (x.2.2.2 d) 2 100 (by omega)
    obtain ⟨a3, b3⟩ := cnt_rng (x.2.2.2 d) 3 100 (by omega)
    generalize cntH (x.2.2.2 d) 2 100 = p at a2 b2
    generalize cntH (x.2.2.2 d) 3 100 = q at a3 b3
    have t := T_add (x := p) (y := q) (by omega) (by omega)
    by_cases c : p + q = 0
    · rw [if_pos c, if_pos (by rw [c]; decide)]
    · rw [if_neg c, if_neg (fun z => c (Int32.toInt_inj.mp (by have := le_T.mp z; rw [T_0] at this ⊢; omega)))]
theorem an_mean (R : RR x f) (I : II x) (v : Nat → Int32) (k : Int32) : f_X4_mean_r x k = f_X5_mean_r v f k := by
  unfold f_X4_mean_r f_X5_mean_r
  rcases drC k with ⟨a, b⟩ | ⟨a, b, d, hd, rfl⟩
  · rw [if_pos a, if_pos b]
  · rw [if_neg a, if_neg b]
    have n0 := I.n
    have p : (f_X5_row_r (nI d) + 10).toNatClampNeg = 22 + 11 * d := by
      rw [row_p hd (by decide), show (10 : Int32).toNatClampNeg = 10 by decide]
      omega
    have e0 := Ec_eq (x := x.1 2) (y := 0)
    rw [← E_0] at e0
    unfold f_X4_mean_x3 f_X5_mean_x4 f_X4_mean_rq2 f_X5_mean_rq3
    rw [p, R.z hd, R.t, nI_clamp (by omega), show FP.l2d (x.1 2).toInt64 = FP.i2d (x.1 2) by unfold FP.l2d FP.i2d FP.Core.l2d FP.Core.i2d; rw [Int32.toInt_toInt64]]
    by_cases c : x.1 2 = 0
    · rw [if_pos (e0.mpr c), if_pos (by rw [c]; decide)]
    · rw [if_neg (fun h => c (e0.mp h)), if_neg (fun z => c (Int32.toInt_inj.mp (by have := le_T.mp z; rw [T_0] at this ⊢; omega)))]
end TOLD
