/-! THE LAW: what its segments want -/
theorem ol_2_0 (x : StV) : f_X4_ofDrive_r x 0 2 = (x.2.2.1 0).1 2 := od_2 (d := 0) (by decide)
theorem ol_2_1 (x : StV) : f_X4_ofDrive_r x 1 2 = (x.2.2.1 1).1 2 := od_2 (d := 1) (by decide)
theorem ol_2_2 (x : StV) : f_X4_ofDrive_r x 2 2 = (x.2.2.1 2).1 2 := od_2 (d := 2) (by decide)
theorem ol_2_3 (x : StV) : f_X4_ofDrive_r x 3 2 = (x.2.2.1 3).1 2 := od_2 (d := 3) (by decide)
theorem ol_3_0 (x : StV) : f_X4_ofDrive_r x 0 3 = (x.2.2.1 0).1 3 := od_3 (d := 0) (by decide)
theorem ol_3_1 (x : StV) : f_X4_ofDrive_r x 1 3 = (x.2.2.1 1).1 3 := od_3 (d := 1) (by decide)
theorem ol_3_2 (x : StV) : f_X4_ofDrive_r x 2 3 = (x.2.2.1 2).1 3 := od_3 (d := 2) (by decide)
theorem ol_3_3 (x : StV) : f_X4_ofDrive_r x 3 3 = (x.2.2.1 3).1 3 := od_3 (d := 3) (by decide)
theorem ol_6_0 (x : StV) : f_X4_ofDrive_r x 0 6 = (x.2.2.1 0).1 5 := od_6 (d := 0) (by decide)
theorem ol_6_1 (x : StV) : f_X4_ofDrive_r x 1 6 = (x.2.2.1 1).1 5 := od_6 (d := 1) (by decide)
theorem ol_6_2 (x : StV) : f_X4_ofDrive_r x 2 6 = (x.2.2.1 2).1 5 := od_6 (d := 2) (by decide)
theorem ol_6_3 (x : StV) : f_X4_ofDrive_r x 3 6 = (x.2.2.1 3).1 5 := od_6 (d := 3) (by decide)
theorem ol_8_0 (x : StV) : f_X4_ofDrive_r x 0 8 = (x.2.2.1 0).1 7 := od_8 (d := 0) (by decide)
theorem ol_8_1 (x : StV) : f_X4_ofDrive_r x 1 8 = (x.2.2.1 1).1 7 := od_8 (d := 1) (by decide)
theorem ol_8_2 (x : StV) : f_X4_ofDrive_r x 2 8 = (x.2.2.1 2).1 7 := od_8 (d := 2) (by decide)
theorem ol_8_3 (x : StV) : f_X4_ofDrive_r x 3 8 = (x.2.2.1 3).1 7 := od_8 (d := 3) (by decide)
theorem ol_12_0 (x : StV) : f_X4_ofDrive_r x 0 12 = (x.2.2.1 0).1 8 := od_12 (d := 0) (by decide)
theorem ol_12_1 (x : StV) : f_X4_ofDrive_r x 1 12 = (x.2.2.1 1).1 8 := od_12 (d := 1) (by decide)
theorem ol_12_2 (x : StV) : f_X4_ofDrive_r x 2 12 = (x.2.2.1 2).1 8 := od_12 (d := 2) (by decide)
theorem ol_12_3 (x : StV) : f_X4_ofDrive_r x 3 12 = (x.2.2.1 3).1 8 := od_12 (d := 3) (by decide)
theorem ol_13_0 (x : StV) : f_X4_ofDrive_r x 0 13 = (x.2.2.1 0).1 9 := od_13 (d := 0) (by decide)
theorem ol_13_1 (x : StV) : f_X4_ofDrive_r x 1 13 = (x.2.2.1 1).1 9 := od_13 (d := 1) (by decide)
theorem ol_13_2 (x : StV) : f_X4_ofDrive_r x 2 13 = (x.2.2.1 2).1 9 := od_13 (d := 2) (by decide)
theorem ol_13_3 (x : StV) : f_X4_ofDrive_r x 3 13 = (x.2.2.1 3).1 9 := od_13 (d := 3) (by decide)
theorem pass_1 (h : Nat → Int32) (sv : Nat → StV) (xp : StV) : f_X4_pass_xp h sv xp 1 = passOne xp := by
  show f_X3_passMinutes_x xp 1 = _
  unfold f_X3_passMinutes_x
  rw [if_neg (show ¬ f_X4_arePassable_r 1 = 0 by decide), show (1 : Int32).toNatClampNeg = 0 + 1 by decide]
  rfl
theorem sub_l (a b : Int32) : a + b - a = b := by grind
theorem nI_sb {a b : Nat} (h : b ≤ a) (ha : a < 1000000) : nI a - nI b = nI (a - b) := by
  apply Int32.toInt_inj.mp
  rw [T_sub (by rw [nI_T (by omega), nI_T (by omega)]; omega) (by rw [nI_T (by omega), nI_T (by omega)]; omega), nI_T (by omega), nI_T (by omega), nI_T (by omega)]
  omega
theorem ov_sub (x y : StV) (k : Int32) (h : ovS y = ovS x + k) : (y.2.2.1 0).1 7 + (y.2.2.1 1).1 7 + (y.2.2.1 2).1 7 + (y.2.2.1 3).1 7 - ((x.2.2.1 0).1 7 + (x.2.2.1 1).1 7 + (x.2.2.1 2).1 7 + (x.2.2.1 3).1 7) = k := by
  have h' : (y.2.2.1 0).1 7 + (y.2.2.1 1).1 7 + (y.2.2.1 2).1 7 + (y.2.2.1 3).1 7 = (x.2.2.1 0).1 7 + (x.2.2.1 1).1 7 + (x.2.2.1 2).1 7 + (x.2.2.1 3).1 7 + k := h
  rw [h', sub_l]
theorem min_F {xp : StV} {N : Int} (I : STN xp N (36 * N) (fun _ => 0)) (hN : N ≤ 5000) (h : Nat → Int32) (sv : Nat → StV) (w : Nat → Int32) (k tn : Int32) {ca : Int32} (mi jm : Int32) (hca : ca = totS xp) :
    STN (passOne xp) (N + 1) (36 * (N + 1)) (fun _ => 0) ∧ ca + f_law_B_x10 h sv xp w k tn ca mi jm + f_law_B_x13 h sv xp w k tn ca mi jm + f_law_B_x16 h sv xp w k tn ca mi jm + f_law_B_x19 h sv xp w k tn ca mi jm = totS (passOne xp) ∧ ((((0 + (((f_X4_ofDrive_r (f_X4_pass_xp h sv xp 1) 0 2) + (f_X4_ofDrive_r (f_X4_pass_xp h sv xp 1) 0 3)) + (f_X4_ofDrive_r (f_X4_pass_xp h sv xp 1) 0 6))) + (((f_X4_ofDrive_r (f_X4_pass_xp h sv xp 1) 1 2) + (f_X4_ofDrive_r (f_X4_pass_xp h sv xp 1) 1 3)) + (f_X4_ofDrive_r (f_X4_pass_xp h sv xp 1) 1 6))) + (((f_X4_ofDrive_r (f_X4_pass_xp h sv xp 1) 2 2) + (f_X4_ofDrive_r (f_X4_pass_xp h sv xp 1) 2 3)) + (f_X4_ofDrive_r (f_X4_pass_xp h sv xp 1) 2 6))) + (((f_X4_ofDrive_r (f_X4_pass_xp h sv xp 1) 3 2) + (f_X4_ofDrive_r (f_X4_pass_xp h sv xp 1) 3 3)) + (f_X4_ofDrive_r (f_X4_pass_xp h sv xp 1) 3 6)) = (((ca + (f_law_B_x10 h sv xp w k tn ca mi jm)) + (f_law_B_x13 h sv xp w k tn ca mi jm)) + (f_law_B_x16 h sv xp w k tn ca mi jm)) + (f_law_B_x19 h sv xp w k tn ca mi jm)) ∧ ((f_X4_count_r (f_X4_pass_h h sv xp 1) (f_X4_pass_xp h sv xp 1) w 0) = (f_X4_count_r h xp w 0) + 1) ∧ (¬ ((f_X4_count_r (f_X4_pass_h h sv xp 1) (f_X4_pass_xp h sv xp 1) w 5) - (f_X4_count_r h xp w 5) < 0)) ∧ (¬ (((((f_X4_ofDrive_r (f_X4_pass_xp h sv xp 1) 0 8) + (f_X4_ofDrive_r (f_X4_pass_xp h sv xp 1) 1 8)) + (f_X4_ofDrive_r (f_X4_pass_xp h sv xp 1) 2 8)) + (f_X4_ofDrive_r (f_X4_pass_xp h sv xp 1) 3 8)) - ((((f_X4_ofDrive_r xp 0 8) + (f_X4_ofDrive_r xp 1 8)) + (f_X4_ofDrive_r xp 2 8)) + (f_X4_ofDrive_r xp 3 8)) < (f_X4_count_r (f_X4_pass_h h sv xp 1) (f_X4_pass_xp h sv xp 1) w 5) - (f_X4_count_r h xp w 5))) ∧ ((f_X4_count_r (f_X4_pass_h h sv xp 1) (f_X4_pass_xp h sv xp 1) w 3) - (f_X4_count_r h xp w 3) = ((((((f_X4_ofDrive_r (f_X4_pass_xp h sv xp 1) 0 8) + (f_X4_ofDrive_r (f_X4_pass_xp h sv xp 1) 1 8)) + (f_X4_ofDrive_r (f_X4_pass_xp h sv xp 1) 2 8)) + (f_X4_ofDrive_r (f_X4_pass_xp h sv xp 1) 3 8)) - ((((f_X4_ofDrive_r xp 0 8) + (f_X4_ofDrive_r xp 1 8)) + (f_X4_ofDrive_r xp 2 8)) + (f_X4_ofDrive_r xp 3 8))) - ((f_X4_count_r (f_X4_pass_h h sv xp 1) (f_X4_pass_xp h sv xp 1) w 5) - (f_X4_count_r h xp w 5))) * (f_X4_count_r (f_X4_pass_h h sv xp 1) (f_X4_pass_xp h sv xp 1) w 7)) ∧ (¬ ((f_X4_count_r (f_X4_pass_h h sv xp 1) (f_X4_pass_xp h sv xp 1) w 4) < 0)) := by
  obtain ⟨I', s', n', t', o, p, hpo, ho, v', m6, m4⟩ := one_S I (by omega) (by omega)
  have I'' : STN (passOne xp) (N + 1) (36 * (N + 1)) (fun _ => 0) := by
    rw [show 36 * (N + 1) = 36 * N + 36 by omega]
    exact I'
  have E : ca + f_law_B_x10 h sv xp w k tn ca mi jm + f_law_B_x13 h sv xp w k tn ca mi jm + f_law_B_x16 h sv xp w k tn ca mi jm + f_law_B_x19 h sv xp w k tn ca mi jm = totS (passOne xp) := by
    rw [t', hca]
    unfold f_law_B_x10 f_law_B_x13 f_law_B_x16 f_law_B_x19 incS
    simp only [ol_2_0, ol_2_1, ol_2_2, ol_2_3, ol_3_0, ol_3_1, ol_3_2, ol_3_3, ol_6_0, ol_6_1, ol_6_2, ol_6_3, ol_8_0, ol_8_1, ol_8_2, ol_8_3, ol_12_0, ol_12_1, ol_12_2, ol_12_3, ol_13_0, ol_13_1, ol_13_2, ol_13_3, cq_0, cq_3, cq_4, cq_5, cq_7, cq_14]
  have W : 0 + tt ((passOne xp).2.2.1 0).1 + tt ((passOne xp).2.2.1 1).1 + tt ((passOne xp).2.2.1 2).1 + tt ((passOne xp).2.2.1 3).1 = totS (passOne xp) := by
    rw [Int32.zero_add]
    rfl
  have d6 : (passOne xp).1 6 - xp.1 6 = nI p := by rw [m6, sub_l]
  have d4 : (passOne xp).1 4 - xp.1 4 = nI (o - p) * xp.2.1 1 := by rw [m4, sub_l]
  have d7 := ov_sub xp (passOne xp) (nI o) v'
  refine ⟨I'', E, ?_, ?_, ?_, ?_, ?_, ?_⟩
  · rw [E, ← W]
    simp only [pass_1, ol_2_0, ol_2_1, ol_2_2, ol_2_3, ol_3_0, ol_3_1, ol_3_2, ol_3_3, ol_6_0, ol_6_1, ol_6_2, ol_6_3, ol_8_0, ol_8_1, ol_8_2, ol_8_3, ol_12_0, ol_12_1, ol_12_2, ol_12_3, ol_13_0, ol_13_1, ol_13_2, ol_13_3, cq_0, cq_3, cq_4, cq_5, cq_7, cq_14]
    rfl
  · simp only [pass_1, ol_2_0, ol_2_1, ol_2_2, ol_2_3, ol_3_0, ol_3_1, ol_3_2, ol_3_3, ol_6_0, ol_6_1, ol_6_2, ol_6_3, ol_8_0, ol_8_1, ol_8_2, ol_8_3, ol_12_0, ol_12_1, ol_12_2, ol_12_3, ol_13_0, ol_13_1, ol_13_2, ol_13_3, cq_0, cq_3, cq_4, cq_5, cq_7, cq_14]
    exact n'
  · simp only [pass_1, ol_2_0, ol_2_1, ol_2_2, ol_2_3, ol_3_0, ol_3_1, ol_3_2, ol_3_3, ol_6_0, ol_6_1, ol_6_2, ol_6_3, ol_8_0, ol_8_1, ol_8_2, ol_8_3, ol_12_0, ol_12_1, ol_12_2, ol_12_3, ol_13_0, ol_13_1, ol_13_2, ol_13_3, cq_0, cq_3, cq_4, cq_5, cq_7, cq_14]
    rw [d6, lt_T, nI_T (by omega), T_0]
    omega
  · simp only [pass_1, ol_2_0, ol_2_1, ol_2_2, ol_2_3, ol_3_0, ol_3_1, ol_3_2, ol_3_3, ol_6_0, ol_6_1, ol_6_2, ol_6_3, ol_8_0, ol_8_1, ol_8_2, ol_8_3, ol_12_0, ol_12_1, ol_12_2, ol_12_3, ol_13_0, ol_13_1, ol_13_2, ol_13_3, cq_0, cq_3, cq_4, cq_5, cq_7, cq_14]
    rw [d6, d7, lt_T, nI_T (by omega), nI_T (by omega)]
    omega
  · simp only [pass_1, ol_2_0, ol_2_1, ol_2_2, ol_2_3, ol_3_0, ol_3_1, ol_3_2, ol_3_3, ol_6_0, ol_6_1, ol_6_2, ol_6_3, ol_8_0, ol_8_1, ol_8_2, ol_8_3, ol_12_0, ol_12_1, ol_12_2, ol_12_3, ol_13_0, ol_13_1, ol_13_2, ol_13_3, cq_0, cq_3, cq_4, cq_5, cq_7, cq_14]
    rw [d4, d6, d7, nI_sb hpo (by omega)]
    rfl
  · simp only [pass_1, ol_2_0, ol_2_1, ol_2_2, ol_2_3, ol_3_0, ol_3_1, ol_3_2, ol_3_3, ol_6_0, ol_6_1, ol_6_2, ol_6_3, ol_8_0, ol_8_1, ol_8_2, ol_8_3, ol_12_0, ol_12_1, ol_12_2, ol_12_3, ol_13_0, ol_13_1, ol_13_2, ol_13_3, cq_0, cq_3, cq_4, cq_5, cq_7, cq_14]
    rw [lt_T, T_0]
    have := I''.2.2.2.1
    omega
theorem min_12 {xp : StV} {N c : Int} (I : STN xp N c (fun _ => 0)) : ¬ f_X4_ofDrive_r xp 0 12 = 0 ∧ ¬ f_X4_ofDrive_r xp 1 12 = 0 ∧ ¬ f_X4_ofDrive_r xp 2 12 = 0 ∧ ¬ f_X4_ofDrive_r xp 3 12 = 0 := by
  have A : ∀ d : Nat, d < 4 → ¬ (xp.2.2.1 d).1 8 = 0 := fun d hd h => by
    have := (I.2.2.2.2 d hd).1.2.2.2.2.2.2.2.2.2.2.2.2.2.1
    rw [h, T_0] at this
    omega
  rw [ol_12_0, ol_12_1, ol_12_2, ol_12_3]
  exact ⟨A 0 (by decide), A 1 (by decide), A 2 (by decide), A 3 (by decide)⟩
/-- what came by an action -/
theorem act_C {x y : StV} {n c : Int} (K : KEP x y n c) : totS x + (f_X4_ofDrive_r y 0 3 + f_X4_ofDrive_r y 1 3 + f_X4_ofDrive_r y 2 3 + f_X4_ofDrive_r y 3 3 - (f_X4_ofDrive_r x 0 3 + f_X4_ofDrive_r x 1 3 + f_X4_ofDrive_r x 2 3 + f_X4_ofDrive_r x 3 3)) = totS y := by
  have k0 := K.2.2 0 (by decide)
  have k1 := K.2.2 1 (by decide)
  have k2 := K.2.2 2 (by decide)
  have k3 := K.2.2 3 (by decide)
  simp only [ol_3_0, ol_3_1, ol_3_2, ol_3_3]
  unfold totS tt
  rw [k0.1, k0.2, k1.1, k1.2, k2.1, k2.2, k3.1, k3.2]
  grind
theorem low_ge (v : Int32) {n : Int32} (hn : 0 < n.toInt) : 0 ≤ (lowF v n).toInt ∧ (lowF v n).toInt < n.toInt := by
  have h0 : 0 ≤ (v &&& 2147483647).toInt := by
    have e : (v &&& 2147483647).toBitVec = v.toBitVec &&& 2147483647#32 := rfl
    have l : (v.toBitVec &&& 2147483647#32).toNat ≤ 2147483647 := by
      rw [BitVec.toNat_and]
      exact Nat.and_le_right
    show 0 ≤ (v &&& 2147483647).toBitVec.toInt
    rw [e, BitVec.toInt_eq_toNat_of_lt (by omega)]
    omega
  unfold lowF
  rw [rem_T h0 hn]
  exact ⟨Int.emod_nonneg _ (by omega), Int.emod_lt_of_pos _ hn⟩
theorem chk_4 {xp : StV} {N c : Int} (I : STN xp N c (fun _ => 0)) (hN : N < 6000) (h w : Nat → Int32) : CHK h xp w 0 ∧ CHK h xp w 1 ∧ CHK h xp w 2 ∧ CHK h xp w 3 :=
  ⟨⟨0, N, c, by decide, rfl, I, hN⟩, ⟨1, N, c, by decide, rfl, I, hN⟩, ⟨2, N, c, by decide, rfl, I, hN⟩, ⟨3, N, c, by decide, rfl, I, hN⟩⟩
theorem cnt_0 (y : Int32) (hy : ¬ y = 0) : ∀ n : Nat, cntH hv0 y n = 0
  | 0 => rfl
  | n + 1 => by
    rw [cnt_s, cnt_0 y hy n, if_neg]
    intro g
    exact hy g.symm
/-- a new station -/
theorem STN_0 : STN stv0 0 (36 * 0) (fun _ => 0) := by
  refine ⟨by decide, by omega, ?_, by decide, fun d hd => ?_⟩
  · show SI vFirst
    unfold SI
    decide
  · show DRV dv0.1 hv0 (0 + 0)
    refine ⟨?_, fun q hq => ⟨.inl rfl, fun _ => .inl rfl⟩, by decide, ?_, fun q hq => ⟨fun g => absurd g (by show ¬ (0 : Int8).toInt32 = 2; decide), fun g => absurd g (by show ¬ (0 : Int8).toInt32 = 1; decide)⟩⟩
    · show DIx 60 0 0 0 0 0 0 0 1 0 _ _ _ _
      unfold DIx
      decide
    · rw [cnt_0 3 (by decide)]
      decide
theorem tot_0 : totS stv0 = 0 := by decide
