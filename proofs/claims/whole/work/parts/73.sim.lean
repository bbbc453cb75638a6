/-! THE SIMULATION: numbers by their number -/
section TOLD2
variable {x : StV} {f : Nat → Int64}
theorem in14 {y : Int32} (h : 0 ≤ y.toInt ∧ y.toInt ≤ 13) : ∃ n : Nat, n < 14 ∧ y = nI n := ⟨y.toInt.toNat, by omega, of_T h.1⟩
theorem row_6 {d : Nat} : d < 4 → (f_X5_row_r (nI d) + 5 - 1).toNatClampNeg = 12 + 11 * d + 4 ∧ (f_X5_row_r (nI d) + 6 - 1).toNatClampNeg = 12 + 11 * d + 5 ∧ (f_X5_row_r (nI d) + 7 - 1).toNatClampNeg = 12 + 11 * d + 6 ∧ (f_X5_row_r (nI d) + 8 - 1).toNatClampNeg = 12 + 11 * d + 7 ∧ (f_X5_row_r (nI d) + 8 + 12 - 12).toNatClampNeg = 12 + 11 * d + 8 ∧ (f_X5_row_r (nI d) + 8 + 13 - 12).toNatClampNeg = 12 + 11 * d + 9 :=
  all4 (P := fun d => (f_X5_row_r (nI d) + 5 - 1).toNatClampNeg = 12 + 11 * d + 4 ∧ (f_X5_row_r (nI d) + 6 - 1).toNatClampNeg = 12 + 11 * d + 5 ∧ (f_X5_row_r (nI d) + 7 - 1).toNatClampNeg = 12 + 11 * d + 6 ∧ (f_X5_row_r (nI d) + 8 - 1).toNatClampNeg = 12 + 11 * d + 7 ∧ (f_X5_row_r (nI d) + 8 + 12 - 12).toNatClampNeg = 12 + 11 * d + 8 ∧ (f_X5_row_r (nI d) + 8 + 13 - 12).toNatClampNeg = 12 + 11 * d + 9) (by decide) (by decide) (by decide) (by decide) d
theorem an_ofDrive (R : RR x f) (I : II x) (v : Nat → Int32) (k y : Int32) : f_X4_ofDrive_r x k y = f_X5_ofDrive_r v f k y := by
  unfold f_X4_ofDrive_r f_X5_ofDrive_r
  rcases drC k with ⟨a, b⟩ | ⟨a, b, d, hd, rfl⟩
  · rw [if_pos a, if_pos b]
  · rw [if_neg a, if_neg b]
    have q := in_T y 0 13
    rw [show (0 : Int64).toInt = 0 by decide, show (13 : Int64).toInt = 13 by decide] at q
    by_cases c : 0 ≤ y.toInt ∧ y.toInt ≤ 13
    · rw [if_neg (q.mpr c), nI_clamp (n := d) (by omega)]
      obtain ⟨w5, w6, w7, w8, w12, w13⟩ := row_6 hd
      have e2 := hrs_cnt R hd (y := 2) (by decide) 100 (by omega)
      have e3 := hrs_cnt R hd (y := 3) (by decide) 100 (by omega)
      have e0 := sold_eq R I hd (x.2.2.1 d)
      have qe : f_X5_isQuiet_r f (nI d) = f_X4_ofDrive_rq3 x (nI d) 4 := by
        have hr : f 0 / 60 = (x.1 2 / 60).toInt64 := by rw [R.t, E_60, ← E_div (by decide)]
        unfold f_X4_ofDrive_rq3
        rw [nI_clamp (n := d) (by omega), qi_eq]
        exact isQ_eq (R.1.2.2.2 d hd) hd hr (I.hv hd)
      obtain ⟨n, hn, rfl⟩ := in14 c
      have : n = 0 ∨ n = 1 ∨ n = 2 ∨ n = 3 ∨ n = 4 ∨ n = 5 ∨ n = 6 ∨ n = 7 ∨ n = 8 ∨ n = 9 ∨ n = 10 ∨ n = 11 ∨ n = 12 ∨ n = 13 := by omega
      rcases this with h | h | h | h | h | h | h | h | h | h | h | h | h | h <;> subst h
      · rw [show nI 0 = 0 from rfl, if_pos rfl, if_neg (by decide), row_p hd (by decide), R.v hd (by decide), E_toInt32]
        rfl
      · rw [show nI 1 = 1 from rfl, if_neg (by decide), if_pos rfl, if_neg (by decide), row_p hd (by decide), R.v hd (by decide), E_toInt32]
        rfl
      · rw [show nI 2 = 2 from rfl, if_neg (by decide), if_neg (by decide), if_pos rfl, if_neg (by decide), row_p hd (by decide), R.v hd (by decide), E_toInt32]
        rfl
      · rw [show nI 3 = 3 from rfl, if_neg (by decide), if_neg (by decide), if_neg (by decide), if_pos rfl, if_neg (by decide), row_p hd (by decide), R.v hd (by decide), E_toInt32]
        rfl
      · rw [show nI 4 = 4 from rfl, if_neg (by decide), if_neg (by decide), if_neg (by decide), if_neg (by decide), if_pos rfl, if_pos (by decide), if_neg (by decide)]
        unfold f_X5_ofDrive_x8 f_X4_ofDrive_x4
        rw [if_pos rfl, qe]
      · rw [show nI 5 = 5 from rfl]
        unfold f_X5_ofDrive_x6 f_X5_ofDrive_x8
        rw [if_neg (by decide), if_neg (by decide), if_neg (by decide), if_neg (by decide), if_neg (by decide), if_pos rfl, if_pos (by decide), if_neg (by decide), if_neg (by decide), w5, R.v hd (by decide), E_toInt32]
        unfold f_X4_ofDrive_x5
        rw [nI_clamp (n := d) (by omega)]
        rcases (I.dv hd).2.2.2.2.2.2.1 with z | z <;> rw [z] <;> decide
      · rw [show nI 6 = 6 from rfl]
        unfold f_X5_ofDrive_x6 f_X5_ofDrive_x8
        rw [if_neg (by decide), if_neg (by decide), if_neg (by decide), if_neg (by decide), if_neg (by decide), if_neg (by decide), if_pos rfl, if_pos (by decide), if_neg (by decide), if_neg (by decide), w6, R.v hd (by decide), E_toInt32]
      · rw [show nI 7 = 7 from rfl]
        unfold f_X5_ofDrive_x6 f_X5_ofDrive_x8
        rw [if_neg (by decide), if_neg (by decide), if_neg (by decide), if_neg (by decide), if_neg (by decide), if_neg (by decide), if_neg (by decide), if_pos rfl, if_pos (by decide), if_neg (by decide), if_neg (by decide), w7, R.v hd (by decide), E_toInt32]
      · rw [show nI 8 = 8 from rfl]
        unfold f_X5_ofDrive_x6 f_X5_ofDrive_x8
        rw [if_neg (by decide), if_neg (by decide), if_neg (by decide), if_neg (by decide), if_neg (by decide), if_neg (by decide), if_neg (by decide), if_neg (by decide), if_pos rfl, if_pos (by decide), if_neg (by decide), if_neg (by decide), w8, R.v hd (by decide), E_toInt32]
      · rw [show nI 9 = 9 from rfl]
        unfold f_X5_ofDrive_x6 f_X5_ofDrive_x4 f_X4_ofDrive_rq6
        rw [if_neg (by decide), if_neg (by decide), if_neg (by decide), if_neg (by decide), if_neg (by decide), if_neg (by decide), if_neg (by decide), if_neg (by decide), if_neg (by decide), if_pos rfl, if_pos (by decide), if_pos (by decide), if_neg (by decide), if_pos rfl, nI_clamp (n := d) (by omega), e0]
      · rw [show nI 10 = 10 from rfl]
        unfold f_X5_ofDrive_x6 f_X5_ofDrive_x4 f_X4_ofDrive_rq7 f_X0_hoursThatAre_r
        rw [if_neg (by decide), if_neg (by decide), if_neg (by decide), if_neg (by decide), if_neg (by decide), if_neg (by decide), if_neg (by decide), if_neg (by decide), if_neg (by decide), if_neg (by decide), if_pos rfl, if_pos (by decide), if_pos (by decide), if_neg (by decide), if_neg (by decide), show (10 : Int32) - 8 = 2 by decide, nI_clamp (n := d) (by omega), e2]
      · rw [show nI 11 = 11 from rfl]
        unfold f_X5_ofDrive_x6 f_X5_ofDrive_x4 f_X4_ofDrive_rq8 f_X0_hoursThatAre_r
        rw [if_neg (by decide), if_neg (by decide), if_neg (by decide), if_neg (by decide), if_neg (by decide), if_neg (by decide), if_neg (by decide), if_neg (by decide), if_neg (by decide), if_neg (by decide), if_neg (by decide), if_pos rfl, if_pos (by decide), if_pos (by decide), if_neg (by decide), if_neg (by decide), show (11 : Int32) - 8 = 3 by decide, nI_clamp (n := d) (by omega), e3]
      · rw [show nI 12 = 12 from rfl]
        unfold f_X5_ofDrive_x6
        rw [if_neg (by decide), if_neg (by decide), if_neg (by decide), if_neg (by decide), if_neg (by decide), if_neg (by decide), if_neg (by decide), if_neg (by decide), if_neg (by decide), if_neg (by decide), if_neg (by decide), if_neg (by decide), if_pos rfl, if_pos (by decide), if_pos (by decide), if_pos (by decide), w12, R.v hd (by decide), E_toInt32]
      · rw [show nI 13 = 13 from rfl]
        unfold f_X5_ofDrive_x6
        rw [if_neg (by decide), if_neg (by decide), if_neg (by decide), if_neg (by decide), if_neg (by decide), if_neg (by decide), if_neg (by decide), if_neg (by decide), if_neg (by decide), if_neg (by decide), if_neg (by decide), if_neg (by decide), if_neg (by decide), if_pos rfl, if_pos (by decide), if_pos (by decide), if_pos (by decide), w13, R.v hd (by decide), E_toInt32]
    · rw [if_pos (show f_X5_in_r y.toInt64 0 13 = 0 from Classical.byContradiction fun h => c (q.mp h))]
      have no : ∀ z : Int32, (0 ≤ z.toInt ∧ z.toInt ≤ 13) → ¬ y = z := fun z hz h => c (by rw [h]; exact hz)
      rw [if_neg (no 0 (by decide)), if_neg (no 1 (by decide)), if_neg (no 2 (by decide)), if_neg (no 3 (by decide)), if_neg (no 4 (by decide)), if_neg (no 5 (by decide)), if_neg (no 6 (by decide)), if_neg (no 7 (by decide)), if_neg (no 8 (by decide)), if_neg (no 9 (by decide)), if_neg (no 10 (by decide)), if_neg (no 11 (by decide)), if_neg (no 12 (by decide)), if_neg (no 13 (by decide))]
theorem an_count (R : RR x f) {h v w : Nat → Int32} (hk : v 3 = h 2) (hp : v 7 = w 1) (y : Int32) : f_X4_count_r h x w y = f_X5_count_r v f y := by
  unfold f_X4_count_r f_X5_count_r
  have q := in_T y 0 14
  rw [show (0 : Int64).toInt = 0 by decide, show (14 : Int64).toInt = 14 by decide] at q
  by_cases c : 0 ≤ y.toInt ∧ y.toInt ≤ 14
  · rw [if_neg (q.mpr c)]
    have hr : f 0 / 60 = (x.1 2 / 60).toInt64 := by rw [R.t, E_60, ← E_div (by decide)]
    have g1 : f 1 = (x.1 3).toInt64 := R.g (i := 1) (by decide)
    have g2 : f 2 = (x.1 4).toInt64 := R.g (i := 2) (by decide)
    have g3 : f 3 = (x.1 5).toInt64 := R.g (i := 3) (by decide)
    have g4 : f 4 = (x.1 6).toInt64 := R.g (i := 4) (by decide)
    have s0 : f 5 = (x.2.1 0).toInt64 := R.s (i := 0) (by decide)
    have s1 : f 6 = (x.2.1 1).toInt64 := R.s (i := 1) (by decide)
    have s2 : f 7 = (x.2.1 2).toInt64 := R.s (i := 2) (by decide)
    have s3 : f 8 = (x.2.1 3).toInt64 := R.s (i := 3) (by decide)
    have s4 : f 9 = (x.2.1 4).toInt64 := R.s (i := 4) (by decide)
    have s5 : f 10 = (x.2.1 5).toInt64 := R.s (i := 5) (by decide)
    have s6 : f 11 = (x.2.1 6).toInt64 := R.s (i := 6) (by decide)
    obtain ⟨n, hn, rfl⟩ : ∃ n : Nat, n < 15 ∧ y = nI n := ⟨y.toInt.toNat, by omega, of_T c.1⟩
    have : n = 0 ∨ n = 1 ∨ n = 2 ∨ n = 3 ∨ n = 4 ∨ n = 5 ∨ n = 6 ∨ n = 7 ∨ n = 8 ∨ n = 9 ∨ n = 10 ∨ n = 11 ∨ n = 12 ∨ n = 13 ∨ n = 14 := by omega
    unfold f_X5_count_x2 f_X5_count_x3
    rcases this with h | h | h | h | h | h | h | h | h | h | h | h | h | h | h <;> subst h
    · rw [show nI 0 = 0 from rfl, if_pos (by decide), if_pos rfl, if_neg (by decide), if_pos rfl, R.t, E_toInt32]
    · rw [show nI 1 = 1 from rfl, if_pos (by decide), if_neg (by decide), if_pos rfl, if_neg (by decide), if_neg (by decide), hr, E_toInt32]
      rfl
    · rw [show nI 2 = 2 from rfl, if_pos (by decide), if_neg (by decide), if_neg (by decide), if_pos rfl, if_pos (by decide), if_neg (by decide), show (1 + 2 - 2 : Int32).toNatClampNeg = 1 by decide, g1, E_toInt32]
    · rw [show nI 3 = 3 from rfl, if_pos (by decide), if_neg (by decide), if_neg (by decide), if_neg (by decide), if_pos rfl, if_pos (by decide), if_neg (by decide), show (1 + 3 - 2 : Int32).toNatClampNeg = 2 by decide, g2, E_toInt32]
    · rw [show nI 4 = 4 from rfl, if_pos (by decide), if_neg (by decide), if_neg (by decide), if_neg (by decide), if_neg (by decide), if_pos rfl, if_pos (by decide), if_neg (by decide), show (1 + 4 - 2 : Int32).toNatClampNeg = 3 by decide, g3, E_toInt32]
    · rw [show nI 5 = 5 from rfl, if_pos (by decide), if_neg (by decide), if_neg (by decide), if_neg (by decide), if_neg (by decide), if_neg (by decide), if_pos rfl, if_pos (by decide), if_neg (by decide), show (1 + 5 - 2 : Int32).toNatClampNeg = 4 by decide, g4, E_toInt32]
    · rw [show nI 6 = 6 from rfl, if_neg (by decide), if_neg (by decide), if_pos (by decide), if_pos (by decide), if_neg (by decide), show (5 + 6 - 6 : Int32).toNatClampNeg = 5 by decide, show (6 - 6 : Int32).toNatClampNeg = 0 by decide, s0, E_toInt32]
    · rw [show nI 7 = 7 from rfl, if_neg (by decide), if_neg (by decide), if_pos (by decide), if_pos (by decide), if_neg (by decide), show (5 + 7 - 6 : Int32).toNatClampNeg = 6 by decide, show (7 - 6 : Int32).toNatClampNeg = 1 by decide, s1, E_toInt32]
    · rw [show nI 8 = 8 from rfl, if_neg (by decide), if_neg (by decide), if_pos (by decide), if_pos (by decide), if_neg (by decide), show (5 + 8 - 6 : Int32).toNatClampNeg = 7 by decide, show (8 - 6 : Int32).toNatClampNeg = 2 by decide, s2, E_toInt32]
    · rw [show nI 9 = 9 from rfl, if_neg (by decide), if_neg (by decide), if_pos (by decide), if_pos (by decide), if_neg (by decide), show (5 + 9 - 6 : Int32).toNatClampNeg = 8 by decide, show (9 - 6 : Int32).toNatClampNeg = 3 by decide, s3, E_toInt32]
    · rw [show nI 10 = 10 from rfl, if_neg (by decide), if_neg (by decide), if_pos (by decide), if_pos (by decide), if_neg (by decide), show (5 + 10 - 6 : Int32).toNatClampNeg = 9 by decide, show (10 - 6 : Int32).toNatClampNeg = 4 by decide, s4, E_toInt32]
    · rw [show nI 11 = 11 from rfl, if_neg (by decide), if_neg (by decide), if_pos (by decide), if_pos (by decide), if_neg (by decide), show (5 + 11 - 6 : Int32).toNatClampNeg = 10 by decide, show (11 - 6 : Int32).toNatClampNeg = 5 by decide, s5, E_toInt32]
    · rw [show nI 12 = 12 from rfl, if_neg (by decide), if_neg (by decide), if_pos (by decide), if_pos (by decide), if_neg (by decide), show (5 + 12 - 6 : Int32).toNatClampNeg = 11 by decide, show (12 - 6 : Int32).toNatClampNeg = 6 by decide, s6, E_toInt32]
    · rw [show nI 13 = 13 from rfl, if_neg (by decide), if_pos (by decide), if_neg (by decide), if_neg (by decide), if_neg (by decide), if_neg (by decide), if_neg (by decide), if_neg (by decide), if_pos rfl, if_pos (by decide), if_pos (by decide), if_pos (by decide), if_pos rfl, hp]
    · rw [show nI 14 = 14 from rfl, if_neg (by decide), if_pos (by decide), if_neg (by decide), if_neg (by decide), if_neg (by decide), if_neg (by decide), if_neg (by decide), if_neg (by decide), if_neg (by decide), if_pos rfl, if_pos (by decide), if_pos (by decide), if_pos (by decide), if_neg (by decide), hk]
  · rw [if_pos (show f_X5_in_r y.toInt64 0 14 = 0 from Classical.byContradiction fun h => c (q.mp h))]
    have no : ∀ z : Int32, (0 ≤ z.toInt ∧ z.toInt ≤ 14) → ¬ y = z := fun z hz h => c (by rw [h]; exact hz)
    have D : (if y = 0 then x.1 2 else (if y = 1 then f_X3_hourOfNow_r x.1 else (if y = 2 then x.1 3 else (if y = 3 then x.1 4 else (if y = 4 then x.1 5 else (if y = 5 then x.1 6 else (if y = 13 then w 1 else (if y = 14 then h 2 else (-2))))))))) = -2 := by
      rw [if_neg (no 0 (by decide)), if_neg (no 1 (by decide)), if_neg (no 2 (by decide)), if_neg (no 3 (by decide)), if_neg (no 4 (by decide)), if_neg (no 5 (by decide)), if_neg (no 13 (by decide)), if_neg (no 14 (by decide))]
    by_cases c1 : y < 6
    · rw [if_pos c1, D]
    · rw [if_neg c1]
      have z := le_T.mp (Int32.not_lt.mp c1)
      rw [show (6 : Int32).toInt = 6 by decide] at z
      rw [if_pos (le_T.mpr (by rw [show (13 : Int32).toInt = 13 by decide]; omega)), D]
end TOLD2
