/-! WHAT IS TOLD, and what the law's check of a drive wants -/
theorem isD {d : Nat} : d < 4 → ¬ f_X4_isDrive_r (nI d) = 0 := all4 (P := fun d => ¬ f_X4_isDrive_r (nI d) = 0) (by decide) (by decide) (by decide) (by decide) d
section TOLD
variable {x : StV} {n c : Int} {d : Nat}
theorem od_0 (hd : d < 4) : f_X4_ofDrive_r x (nI d) 0 = (x.2.2.1 d).1 0 := by
  unfold f_X4_ofDrive_r
  rw [if_neg (isD hd), if_pos (show (0 : Int32) = 0 from rfl), nI_clamp (n := d) (by omega)]
theorem od_1 (hd : d < 4) : f_X4_ofDrive_r x (nI d) 1 = (x.2.2.1 d).1 1 := by
  unfold f_X4_ofDrive_r
  rw [if_neg (isD hd), if_neg (show ¬ (1 : Int32) = 0 by decide), if_pos (show (1 : Int32) = 1 from rfl), nI_clamp (n := d) (by omega)]
theorem od_2 (hd : d < 4) : f_X4_ofDrive_r x (nI d) 2 = (x.2.2.1 d).1 2 := by
  unfold f_X4_ofDrive_r
  rw [if_neg (isD hd), if_neg (show ¬ (2 : Int32) = 0 by decide), if_neg (show ¬ (2 : Int32) = 1 by decide), if_pos (show (2 : Int32) = 2 from rfl), nI_clamp (n := d) (by omega)]
theorem od_3 (hd : d < 4) : f_X4_ofDrive_r x (nI d) 3 = (x.2.2.1 d).1 3 := by
  unfold f_X4_ofDrive_r
  rw [if_neg (isD hd), if_neg (show ¬ (3 : Int32) = 0 by decide), if_neg (show ¬ (3 : Int32) = 1 by decide), if_neg (show ¬ (3 : Int32) = 2 by decide), if_pos (show (3 : Int32) = 3 from rfl), nI_clamp (n := d) (by omega)]
theorem od_4 (hd : d < 4) : f_X4_ofDrive_r x (nI d) 4 = if f_X0_isQuietIn_r (x.2.2.1 d) (x.2.2.2 d) (f_X3_hourOfNow_r x.1) = 0 then 0 else 1 := by
  unfold f_X4_ofDrive_r
  rw [if_neg (isD hd), if_neg (show ¬ (4 : Int32) = 0 by decide), if_neg (show ¬ (4 : Int32) = 1 by decide), if_neg (show ¬ (4 : Int32) = 2 by decide), if_neg (show ¬ (4 : Int32) = 3 by decide), if_pos (show (4 : Int32) = 4 from rfl)]
  unfold f_X4_ofDrive_x4 f_X4_ofDrive_rq3
  rw [nI_clamp (n := d) (by omega)]
theorem od_6 (hd : d < 4) : f_X4_ofDrive_r x (nI d) 6 = (x.2.2.1 d).1 5 := by
  unfold f_X4_ofDrive_r
  rw [if_neg (isD hd), if_neg (show ¬ (6 : Int32) = 0 by decide), if_neg (show ¬ (6 : Int32) = 1 by decide), if_neg (show ¬ (6 : Int32) = 2 by decide), if_neg (show ¬ (6 : Int32) = 3 by decide), if_neg (show ¬ (6 : Int32) = 4 by decide), if_neg (show ¬ (6 : Int32) = 5 by decide), if_pos (show (6 : Int32) = 6 from rfl), nI_clamp (n := d) (by omega)]
theorem od_7 (hd : d < 4) : f_X4_ofDrive_r x (nI d) 7 = (x.2.2.1 d).1 6 := by
  unfold f_X4_ofDrive_r
  rw [if_neg (isD hd), if_neg (show ¬ (7 : Int32) = 0 by decide), if_neg (show ¬ (7 : Int32) = 1 by decide), if_neg (show ¬ (7 : Int32) = 2 by decide), if_neg (show ¬ (7 : Int32) = 3 by decide), if_neg (show ¬ (7 : Int32) = 4 by decide), if_neg (show ¬ (7 : Int32) = 5 by decide), if_neg (show ¬ (7 : Int32) = 6 by decide), if_pos (show (7 : Int32) = 7 from rfl), nI_clamp (n := d) (by omega)]
theorem od_8 (hd : d < 4) : f_X4_ofDrive_r x (nI d) 8 = (x.2.2.1 d).1 7 := by
  unfold f_X4_ofDrive_r
  rw [if_neg (isD hd), if_neg (show ¬ (8 : Int32) = 0 by decide), if_neg (show ¬ (8 : Int32) = 1 by decide), if_neg (show ¬ (8 : Int32) = 2 by decide), if_neg (show ¬ (8 : Int32) = 3 by decide), if_neg (show ¬ (8 : Int32) = 4 by decide), if_neg (show ¬ (8 : Int32) = 5 by decide), if_neg (show ¬ (8 : Int32) = 6 by decide), if_neg (show ¬ (8 : Int32) = 7 by decide), if_pos (show (8 : Int32) = 8 from rfl), nI_clamp (n := d) (by omega)]
theorem od_9 (hd : d < 4) : f_X4_ofDrive_r x (nI d) 9 = 100 - cntH (x.2.2.2 d) 0 100 := by
  unfold f_X4_ofDrive_r
  rw [if_neg (isD hd), if_neg (show ¬ (9 : Int32) = 0 by decide), if_neg (show ¬ (9 : Int32) = 1 by decide), if_neg (show ¬ (9 : Int32) = 2 by decide), if_neg (show ¬ (9 : Int32) = 3 by decide), if_neg (show ¬ (9 : Int32) = 4 by decide), if_neg (show ¬ (9 : Int32) = 5 by decide), if_neg (show ¬ (9 : Int32) = 6 by decide), if_neg (show ¬ (9 : Int32) = 7 by decide), if_neg (show ¬ (9 : Int32) = 8 by decide), if_pos (show (9 : Int32) = 9 from rfl)]
  unfold f_X4_ofDrive_rq6
  rw [nI_clamp (n := d) (by omega)]
  rfl
theorem od_10 (hd : d < 4) : f_X4_ofDrive_r x (nI d) 10 = cntH (x.2.2.2 d) 2 100 := by
  unfold f_X4_ofDrive_r
  rw [if_neg (isD hd), if_neg (show ¬ (10 : Int32) = 0 by decide), if_neg (show ¬ (10 : Int32) = 1 by decide), if_neg (show ¬ (10 : Int32) = 2 by decide), if_neg (show ¬ (10 : Int32) = 3 by decide), if_neg (show ¬ (10 : Int32) = 4 by decide), if_neg (show ¬ (10 : Int32) = 5 by decide), if_neg (show ¬ (10 : Int32) = 6 by decide), if_neg (show ¬ (10 : Int32) = 7 by decide), if_neg (show ¬ (10 : Int32) = 8 by decide), if_neg (show ¬ (10 : Int32) = 9 by decide), if_pos (show (10 : Int32) = 10 from rfl)]
  unfold f_X4_ofDrive_rq7
  rw [nI_clamp (n := d) (by omega)]
  rfl
theorem od_11 (hd : d < 4) : f_X4_ofDrive_r x (nI d) 11 = cntH (x.2.2.2 d) 3 100 := by
  unfold f_X4_ofDrive_r
  rw [if_neg (isD hd), if_neg (show ¬ (11 : Int32) = 0 by decide), if_neg (show ¬ (11 : Int32) = 1 by decide), if_neg (show ¬ (11 : Int32) = 2 by decide), if_neg (show ¬ (11 : Int32) = 3 by decide), if_neg (show ¬ (11 : Int32) = 4 by decide), if_neg (show ¬ (11 : Int32) = 5 by decide), if_neg (show ¬ (11 : Int32) = 6 by decide), if_neg (show ¬ (11 : Int32) = 7 by decide), if_neg (show ¬ (11 : Int32) = 8 by decide), if_neg (show ¬ (11 : Int32) = 9 by decide), if_neg (show ¬ (11 : Int32) = 10 by decide), if_pos (show (11 : Int32) = 11 from rfl)]
  unfold f_X4_ofDrive_rq8
  rw [nI_clamp (n := d) (by omega)]
  rfl
theorem od_12 (hd : d < 4) : f_X4_ofDrive_r x (nI d) 12 = (x.2.2.1 d).1 8 := by
  unfold f_X4_ofDrive_r
  rw [if_neg (isD hd), if_neg (show ¬ (12 : Int32) = 0 by decide), if_neg (show ¬ (12 : Int32) = 1 by decide), if_neg (show ¬ (12 : Int32) = 2 by decide), if_neg (show ¬ (12 : Int32) = 3 by decide), if_neg (show ¬ (12 : Int32) = 4 by decide), if_neg (show ¬ (12 : Int32) = 5 by decide), if_neg (show ¬ (12 : Int32) = 6 by decide), if_neg (show ¬ (12 : Int32) = 7 by decide), if_neg (show ¬ (12 : Int32) = 8 by decide), if_neg (show ¬ (12 : Int32) = 9 by decide), if_neg (show ¬ (12 : Int32) = 10 by decide), if_neg (show ¬ (12 : Int32) = 11 by decide), if_pos (show (12 : Int32) = 12 from rfl), nI_clamp (n := d) (by omega)]
theorem od_13 (hd : d < 4) : f_X4_ofDrive_r x (nI d) 13 = (x.2.2.1 d).1 9 := by
  unfold f_X4_ofDrive_r
  rw [if_neg (isD hd), if_neg (show ¬ (13 : Int32) = 0 by decide), if_neg (show ¬ (13 : Int32) = 1 by decide), if_neg (show ¬ (13 : Int32) = 2 by decide), if_neg (show ¬ (13 : Int32) = 3 by decide), if_neg (show ¬ (13 : Int32) = 4 by decide), if_neg (show ¬ (13 : Int32) = 5 by decide), if_neg (show ¬ (13 : Int32) = 6 by decide), if_neg (show ¬ (13 : Int32) = 7 by decide), if_neg (show ¬ (13 : Int32) = 8 by decide), if_neg (show ¬ (13 : Int32) = 9 by decide), if_neg (show ¬ (13 : Int32) = 10 by decide), if_neg (show ¬ (13 : Int32) = 11 by decide), if_neg (show ¬ (13 : Int32) = 12 by decide), if_pos (show (13 : Int32) = 13 from rfl), nI_clamp (n := d) (by omega)]
theorem cq_0 (h w : Nat → Int32) : f_X4_count_r h x w 0 = x.1 2 := by
  unfold f_X4_count_r
  rw [if_pos (show (0 : Int32) < 6 by decide), if_pos (show (0 : Int32) = 0 from rfl)]
theorem cq_1 (h w : Nat → Int32) : f_X4_count_r h x w 1 = x.1 2 / 60 := by
  unfold f_X4_count_r
  rw [if_pos (show (1 : Int32) < 6 by decide), if_neg (show ¬ (1 : Int32) = 0 by decide), if_pos (show (1 : Int32) = 1 from rfl)]
  rfl
theorem cq_3 (h w : Nat → Int32) : f_X4_count_r h x w 3 = x.1 4 := by
  unfold f_X4_count_r
  rw [if_pos (show (3 : Int32) < 6 by decide), if_neg (show ¬ (3 : Int32) = 0 by decide), if_neg (show ¬ (3 : Int32) = 1 by decide), if_neg (show ¬ (3 : Int32) = 2 by decide), if_pos (show (3 : Int32) = 3 from rfl)]
theorem cq_4 (h w : Nat → Int32) : f_X4_count_r h x w 4 = x.1 5 := by
  unfold f_X4_count_r
  rw [if_pos (show (4 : Int32) < 6 by decide), if_neg (show ¬ (4 : Int32) = 0 by decide), if_neg (show ¬ (4 : Int32) = 1 by decide), if_neg (show ¬ (4 : Int32) = 2 by decide), if_neg (show ¬ (4 : Int32) = 3 by decide), if_pos (show (4 : Int32) = 4 from rfl)]
theorem cq_5 (h w : Nat → Int32) : f_X4_count_r h x w 5 = x.1 6 := by
  unfold f_X4_count_r
  rw [if_pos (show (5 : Int32) < 6 by decide), if_neg (show ¬ (5 : Int32) = 0 by decide), if_neg (show ¬ (5 : Int32) = 1 by decide), if_neg (show ¬ (5 : Int32) = 2 by decide), if_neg (show ¬ (5 : Int32) = 3 by decide), if_neg (show ¬ (5 : Int32) = 4 by decide), if_pos (show (5 : Int32) = 5 from rfl)]
theorem cq_7 (h w : Nat → Int32) : f_X4_count_r h x w 7 = x.2.1 1 := by
  unfold f_X4_count_r
  rw [if_neg (show ¬ (7 : Int32) < 6 by decide), if_neg (show ¬ (13 : Int32) ≤ 7 by decide), show ((7 : Int32) - 6).toNatClampNeg = 1 by decide]
theorem cq_14 (h w : Nat → Int32) : f_X4_count_r h x w 14 = h 2 := by
  unfold f_X4_count_r
  rw [if_neg (show ¬ (14 : Int32) < 6 by decide), if_pos (show (13 : Int32) ≤ 14 by decide), if_neg (show ¬ (14 : Int32) = 0 by decide), if_neg (show ¬ (14 : Int32) = 1 by decide), if_neg (show ¬ (14 : Int32) = 2 by decide), if_neg (show ¬ (14 : Int32) = 3 by decide), if_neg (show ¬ (14 : Int32) = 4 by decide), if_neg (show ¬ (14 : Int32) = 5 by decide), if_neg (show ¬ (14 : Int32) = 13 by decide), if_pos (show (14 : Int32) = 14 from rfl)]
theorem hr_y (hd : d < 4) {y : Int32} (hy : 0 ≤ y.toInt ∧ y.toInt < 100) : f_X4_hour_r x (nI d) y = hsv (x.2.2.2 d) y.toInt := by
  unfold f_X4_hour_r f_X4_hour_x4 f_X4_hour_rq3
  rw [if_neg (isD hd), if_neg ((isHour_T y).mpr hy), hs_eq, nI_clamp (n := d) (by omega)]
theorem hr_n (hd : d < 4) {i : Nat} (hi : i < 100) : f_X4_hour_r x (nI d) (nI i) = (x.2.2.2 d i).toInt32 := by
  rw [hr_y hd (by rw [nI_T (by omega)]; omega), nI_T (by omega), hsv_q hi]
theorem sk_d (hd : d < 4) : f_X4_streak_r x (nI d) = rowX (x.2.2.2 d) 100 0 := by
  unfold f_X4_streak_r f_X4_streak_x3
  rw [if_neg (isD hd), nI_clamp (n := d) (by omega)]
theorem accK_c (hd : d < 4) : ∀ n : Nat, n ≤ 100 → accK x (nI d) n = cntH (x.2.2.2 d) 2 n
  | 0, _ => rfl
  | n + 1, h => by
    rw [accK, cnt_s, accK_c hd n (by omega), hr_n hd (by omega)]
    split
    · rfl
    · exact Int32.add_zero _
theorem accP_c (hd : d < 4) : ∀ n : Nat, n ≤ 100 → accP x (nI d) n = cntH (x.2.2.2 d) 3 n
  | 0, _ => rfl
  | n + 1, h => by
    rw [accP, cnt_s, accP_c hd n (by omega), hr_n hd (by omega)]
    split
    · rfl
    · exact Int32.add_zero _
theorem le_0 {y : Int32} (h : y = 0 ∨ y = 1 ∨ y = 2 ∨ y = 3) : y ≤ 0 ↔ y = 0 := by
  rcases h with h | h | h | h <;> rw [h] <;> decide
theorem accS_c {N : Int} (hd : d < 4) (hI : HI (x.2.2.2 d) N) : ∀ n : Nat, n ≤ 100 → (accS x (nI d) n).toInt = n - (cntH (x.2.2.2 d) 0 n).toInt
  | 0, _ => by
    show (0 : Int32).toInt = (0 : Int) - (0 : Int32).toInt
    decide
  | n + 1, h => by
    obtain ⟨a, b⟩ := cnt_rng (x.2.2.2 d) 0 n (by omega)
    have ih := accS_c hd hI n (by omega)
    rw [accS, cnt_s, hr_n hd (by omega), ite_1 a (by omega)]
    have q := le_0 (hI n (by omega)).1
    by_cases e : (x.2.2.2 d n).toInt32 = 0
    · rw [if_pos (q.mpr e), if_pos e, Int32.add_zero, ih]
      omega
    · rw [if_neg (fun g => e (q.mp g)), if_neg e, T_add (by rw [T_1]; omega) (by rw [T_1]; omega), T_1, ih]
      omega
theorem stk_r (hd : d < 4) : ∀ n i : Nat, n + i = 100 → rowX (x.2.2.2 d) n i = rowA (x.2.2.2 d) i + stkA x (nI d) n
  | 0, i, _ => (Int32.add_zero _).symm
  | n + 1, i, h => by
    rw [rowX, stkA, hr_n hd (by omega), show 99 - i = n by omega]
    by_cases c : (x.2.2.2 d n).toInt32 = 3
    · rw [if_pos c, if_pos c]
      exact (Int32.add_zero _).symm
    · rw [if_neg c, if_neg c, stk_r hd n (i + 1) (by omega)]
      show (if (x.2.2.2 d (99 - i)).toInt32 = 2 then rowA (x.2.2.2 d) i + 1 else rowA (x.2.2.2 d) i) + _ = _
      rw [show 99 - i = n by omega]
      by_cases e : (x.2.2.2 d n).toInt32 = 2
      · rw [if_pos e, if_pos e, Int32.add_assoc, Int32.add_comm 1]
      · rw [if_neg e, if_neg e]
theorem stk_k (hd : d < 4) : ∀ n : Nat, n ≤ 100 → 0 ≤ (stkA x (nI d) n).toInt ∧ (stkA x (nI d) n).toInt ≤ (cntH (x.2.2.2 d) 2 n).toInt
  | 0, _ => ⟨by show 0 ≤ (0 : Int32).toInt; decide, by show (0 : Int32).toInt ≤ (0 : Int32).toInt; decide⟩
  | n + 1, h => by
    obtain ⟨a, b⟩ := stk_k hd n (by omega)
    obtain ⟨a', b'⟩ := cnt_rng (x.2.2.2 d) 2 n (by omega)
    rw [stkA, cnt_s, hr_n hd (by omega), ite_1 a' (by omega)]
    by_cases c : (x.2.2.2 d n).toInt32 = 3
    · rw [if_pos c, if_neg (by rw [c]; decide), T_0]
      omega
    · rw [if_neg c]
      by_cases e : (x.2.2.2 d n).toInt32 = 2
      · rw [if_pos e, if_pos e, T_add (by rw [T_1]; omega) (by rw [T_1]; omega), T_1]
        omega
      · rw [if_neg e, if_neg e]
        omega
theorem okY_6 {y : UInt32} (h : y = 0 ∨ okY y) : ¬ y.toInt32 = -6 := by
  rcases h with h | h
  · rw [h]
    decide
  · intro g
    have h4 := h.2
    unfold yE at h4
    have e : (y.toInt32).toInt = (y.toNat : Int) := by
      show (y.toBitVec).toInt = _
      rw [BitVec.toInt_eq_toNat_of_lt (by show 2 * y.toNat < 2 ^ 32; omega)]
      rfl
    rw [g, show (-6 : Int32).toInt = -6 by decide] at e
    omega
theorem sh_d (hd : d < 4) : (if f_X4_share_r x (nI d) = (-6) then 1 else 0) = (if accK x (nI d) 100 + accP x (nI d) 100 = 0 then (1 : Int32) else 0) := by
  rw [accK_c hd 100 (by omega), accP_c hd 100 (by omega)]
  obtain ⟨a2, b2⟩ := cnt_rng (x.2.2.2 d) 2 100 (by omega)
  obtain ⟨a3, b3⟩ := cnt_rng (x.2.2.2 d) 3 100 (by omega)
  have t := T_add (x := cntH (x.2.2.2 d) 2 100) (y := cntH (x.2.2.2 d) 3 100) (by omega) (by omega)
  unfold f_X4_share_r f_X4_share_x5 f_X4_share_rq4 f_X4_share_rq2 f_X4_share_rq3
  rw [if_neg (isD hd), nI_clamp (n := d) (by omega)]
  by_cases e : cntH (x.2.2.2 d) 2 100 + cntH (x.2.2.2 d) 3 100 = 0
  · rw [if_pos e]
    rw [show f_X0_hoursThatAre_r (x.2.2.1 d) (x.2.2.2 d) 2 + f_X0_hoursThatAre_r (x.2.2.1 d) (x.2.2.2 d) 3 = 0 from e, if_pos (show (0 : Int32) ≤ 0 by decide), if_pos rfl]
  · rw [if_neg e]
    have hp : ¬ f_X0_hoursThatAre_r (x.2.2.1 d) (x.2.2.2 d) 2 + f_X0_hoursThatAre_r (x.2.2.1 d) (x.2.2.2 d) 3 ≤ 0 := fun g => e (Int32.toInt_inj.mp (by
      have := le_T.mp g
      rw [T_0] at this ⊢
      have t' : (f_X0_hoursThatAre_r (x.2.2.1 d) (x.2.2.2 d) 2 + f_X0_hoursThatAre_r (x.2.2.1 d) (x.2.2.2 d) 3).toInt = _ := t
      omega))
    rw [if_neg hp, if_neg (okY_6 (sh_X4 hp).2.2)]
/-- the law's check of a drive -/
theorem chk_d (I : STN x n c (fun _ => 0)) (hn : n < 6000) (hd : d < 4) (l : Launch) (G : GG) (a hi sl su pa ha ga : Nat) (AP AT AU : Nat → Nat) (h w : Nat → Int32) : CtI l yL_drive cL_drive 9 (some .boolean) (RM 5) G [.ref a, .int (nI d)] (fl [[oX a (AP 0) hi sl su pa (AT 0) (AU 0)], [oH hi ha h], cSt G AP x, [oP pa ga w]]) 1 (fl [[oX a (AP 0) hi sl su pa (AT 0) (AU 0)], [oH hi ha h], cSt G AP x, [oP pa ga w]]) := by
  obtain ⟨i1, i2, i3, i4, i5⟩ := I
  obtain ⟨D, I, V76, V37, Q⟩ := i5 d hd
  simp only [Int.add_zero] at D I Q
  obtain ⟨a0, a1, a2, a3, a4, a5, a6, a7, a8, a9, b0, b1, b2, b3, b4, b5, b6⟩ := D
  have hc1 : (x.1 2 / 60).toInt = n / 60 := by rw [T_div (by omega) (by decide), i1, T_60]
  have cr : 0 ≤ (x.1 2 / 60).toInt ∧ (x.1 2 / 60).toInt < 100 := by omega
  have e60 : ∀ i : Nat, i < 100 → (60 * nI i + 60).toInt = 60 * (i : Int) + 60 := fun i hi => by
    have m : (60 * nI i).toInt = 60 * (i : Int) := by rw [T_mul (by rw [T_60, nI_T (by omega)]; omega) (by rw [T_60, nI_T (by omega)]; omega), T_60, nI_T (by omega)]
    rw [T_add (by rw [m, T_60]; omega) (by rw [m, T_60]; omega), m, T_60]
  obtain ⟨s1, s2⟩ := stk_k (x := x) hd 100 (by omega)
  obtain ⟨z1, z2⟩ := cnt_rng (x.2.2.2 d) 0 100 (by omega)
  have ek : f_X4_streak_r x (nI d) = stkA x (nI d) 100 := by
    rw [sk_d hd, stk_r hd 100 0 rfl]
    exact Int32.zero_add _
  refine m_L_drive l G a hi sl su pa ha ga AP AT AU h x w (nI d) ?_ ?_ ?_ ?_ ?_ ?_ ?_ ?_ ?_ ?_ ?_ ?_ ?_ ?_ ?_ ?_ ?_ ?_
  · rw [od_0 hd, lt_T, T_0]; omega
  · rw [od_1 hd, lt_T, T_0]; omega
  · rw [od_2 hd, lt_T, T_0]; omega
  · rw [od_0 hd, od_1 hd, od_2 hd, eq_T]
    have t1 := T_add (x := (x.2.2.1 d).1 0) (y := (x.2.2.1 d).1 1) (by omega) (by omega)
    rw [T_add (by rw [t1]; omega) (by rw [t1]; omega), t1, T_60]
    omega
  · intro i hi hh
    rw [hr_n hd hi] at hh
    rw [cq_1, lt_T, hc1, nI_T (by omega)]
    have q := I i hi
    by_cases z : n ≤ 60 * (i : Int)
    · exfalso
      rcases q.2 z with g | g <;> rw [g] at hh <;> exact hh (by decide)
    · omega
  · intro i hi hh
    rw [hr_n hd hi] at hh
    rw [cq_0, le_T, e60 i hi, i1]
    have := (Q i hi).1 hh
    omega
  · intro i hi hh
    rw [hr_n hd hi] at hh
    rw [cq_0, lt_T, e60 i hi, i1]
    have := (Q i hi).2 hh
    omega
  · rw [od_9 hd, eq_T, accS_c hd I 100 (by omega), T_sub (by rw [show (100 : Int32).toInt = 100 by decide]; omega) (by rw [show (100 : Int32).toInt = 100 by decide]; omega), show (100 : Int32).toInt = 100 by decide]
    rfl
  · rw [od_10 hd, accK_c hd 100 (by omega)]
  · rw [od_11 hd, accP_c hd 100 (by omega)]
  · exact ek
  · rw [cq_1, le_T, hc1, show (100 : Int32).toInt = 100 by decide]
    omega
  · rw [od_4 hd, cq_1, hr_y hd cr, qi_eq]
    show (if (if hsv (x.2.2.2 d) (x.1 2 / 60).toInt = 0 then (0 : Int32) else 1) = 0 then (0 : Int32) else 1) = _
    have q := le_0 (I.or (x.1 2 / 60).toInt)
    by_cases e : hsv (x.2.2.2 d) (x.1 2 / 60).toInt = 0
    · rw [if_pos e, if_pos rfl, if_pos (q.mpr e)]
    · rw [if_neg e, if_neg (show ¬ (1 : Int32) = 0 by decide), if_neg (fun g => e (q.mp g))]
  · rw [od_7 hd, od_8 hd, lt_T]; omega
  · rw [cq_0, od_7 hd, lt_T, i1]; omega
  · rw [od_8 hd, accP_c hd 100 (by omega), lt_T]; omega
  · exact sh_d hd
  · rw [ek, accK_c hd 100 (by omega), lt_T]; omega
end TOLD
