/-! THE MODEL: a minute -/
/-- the divisors of the streams are not 0 -/
def okR (f : Nat → Int64) : Prop := ∀ j : Nat, j < 4 → ¬ f (20 + 11 * j) = 0
theorem okR_upd {f : Nat → Int64} {n : Nat} {x : Int64} (h : okR f) (hn : ∀ j : Nat, j < 4 → ¬ 20 + 11 * j = n) : okR (vp_updL f n x) := fun j hj => by
  rw [show vp_updL f n x (20 + 11 * j) = f (20 + 11 * j) from if_neg (hn j hj)]
  exact h j hj
theorem rw_cl {k c : Int32} (hd : vp_in k 4) (hc : decide (¬ (c < 0 ∨ 11 ≤ c.toNatClampNeg)) = true) : (f_X5_row_r k + c).toNatClampNeg = 12 + 11 * k.toNatClampNeg + c.toNatClampNeg := by
  obtain ⟨j, hj, rfl, e⟩ := row_n hd
  obtain ⟨i, hi, rfl⟩ := vp_in_of (vin_lit hc) (by decide)
  rw [e, nI_add, nI_clamp (by omega), nI_clamp (by omega), nI_clamp (by omega)]
theorem okR_row {f : Nat → Int64} {k c : Int32} {x : Int64} (hd : vp_in k 4) (hc : decide (¬ (c < 0 ∨ 11 ≤ c.toNatClampNeg)) = true) (h8 : decide (c.toNatClampNeg = 8) = false) (h : okR f) : okR (vp_updL f (f_X5_row_r k + c).toNatClampNeg x) := by
  have hk := vin_nat hd
  have hc2 := vin_nat (vin_lit hc)
  have h9 : ¬ c.toNatClampNeg = 8 := of_decide_eq_false h8
  refine okR_upd h fun j hj => ?_
  rw [rw_cl hd hc]
  omega
theorem okR_moves {f : Nat → Int64} {k c k' c' : Int32} {x : Int64} (hd : vp_in k 4) (hc : decide (¬ (c < 0 ∨ 11 ≤ c.toNatClampNeg)) = true) (h8 : decide (c.toNatClampNeg = 8) = false) (hd' : vp_in k' 4) (hc' : decide (¬ (c' < 0 ∨ 11 ≤ c'.toNatClampNeg)) = true) (h8' : decide (c'.toNatClampNeg = 8) = false) (h : okR f) : okR (f_X5_moves_f f (f_X5_row_r k + c) (f_X5_row_r k' + c') x) :=
  okR_row hd' hc' h8' (okR_row hd hc h8 h)
theorem okR_ite {c : Prop} [Decidable c] {f g : Nat → Int64} (h : okR f) (h' : okR g) : okR (if c then f else g) := by
  split
  · exact h
  · exact h'
theorem hidx {k : Int32} {t : Int64} (hd : vp_in k 4) (h0 : 0 ≤ t.toInt) (h1 : t.toInt < 100) : 56 + 100 * k + t.toInt32 = nI (56 + 100 * k.toNatClampNeg + t.toInt.toNat) := by
  obtain ⟨j, hj, rfl⟩ := vp_in_of hd (by decide)
  have e : t.toInt32 = nI t.toInt.toNat := by
    apply Int32.toInt_inj.mp
    rw [Int64.toInt_toInt32, nI_toInt (by omega), Int.bmod_eq_of_le (by omega) (by omega)]
    omega
  rw [e, nI_clamp (by omega)]
  rcases (show j = 0 ∨ j = 1 ∨ j = 2 ∨ j = 3 by omega) with rfl | rfl | rfl | rfl
  · rw [show (56 + 100 * nI 0 : Int32) = nI 56 by decide]; exact nI_add 56 _
  · rw [show (56 + 100 * nI 1 : Int32) = nI 156 by decide]; exact nI_add 156 _
  · rw [show (56 + 100 * nI 2 : Int32) = nI 256 by decide]; exact nI_add 256 _
  · rw [show (56 + 100 * nI 3 : Int32) = nI 356 by decide]; exact nI_add 356 _
theorem hidx1 {k : Int32} {t : Int64} (hd : vp_in k 4) (h0 : 0 ≤ (t - 1).toInt) (h1 : (t - 1).toInt < 100) : 56 + 100 * k + t.toInt32 - 1 = nI (56 + 100 * k.toNatClampNeg + (t - 1).toInt.toNat) := by
  have e : ∀ x y : Int32, x + (y - 1) = x + y - 1 := fun x y => by rw [Int32.sub_eq_add_neg, Int32.sub_eq_add_neg, Int32.add_assoc]
  rw [← hidx hd h0 h1, Int64.toInt32_sub, show (1 : Int64).toInt32 = 1 by decide, e]
theorem hourOf_in {f : Nat → Int64} {k : Int32} {t : Int64} (h : ¬ f_X5_hourOf_r f k t = 0) : 0 ≤ t.toInt ∧ t.toInt < 100 := by
  unfold f_X5_hourOf_r f_X5_hourOf_x1 at h
  by_cases c3 : lg_cmp t 0 < 0
  · rw [if_pos c3] at h
    exact absurd rfl h
  · rw [if_neg c3] at h
    by_cases c11 : lg_cmp t 100 < 0
    · have h0 := Int64.le_iff_toInt_le.mp (Int64.not_lt.mp (mt (lg_cmp_lt t 0).mpr c3))
      have h1 := Int64.lt_iff_toInt_lt.mp ((lg_cmp_lt t 100).mp c11)
      exact ⟨by simpa using h0, by simpa using h1⟩
    · rw [if_neg c11] at h
      exact absurd rfl h
theorem quiet_in {f : Nat → Int64} {k : Int32} (h : ¬ f_X5_isQuiet_r f k = 0) : 0 ≤ (f 0 / 60).toInt ∧ (f 0 / 60).toInt < 100 := by
  refine hourOf_in (f := f) (k := k) fun e => h ?_
  unfold f_X5_isQuiet_r f_X5_isQuiet_x2
  rw [e]
  exact if_pos (by decide)
theorem quiet_vin {f : Nat → Int64} {k : Int32} (hd : vp_in k 4) (h : ¬ f_X5_isQuiet_r f k = 0) : vp_in (56 + 100 * k + (f 0 / 60).toInt32) 456 := by
  obtain ⟨h0, h1⟩ := quiet_in h
  have hk := vin_nat hd
  rw [hidx hd h0 h1]
  exact vp_in_nI (by omega) (by decide)
theorem okR_turns {f : Nat → Int64} {k : Int32} (hd : vp_in k 4) (h : okR f) : okR (f_X5_turns_f f k) := by
  unfold f_X5_turns_f
  refine okR_upd ?_ (by omega)
  unfold f_X5_turns_v2
  by_cases c : f_X5_hourOf_r f k (((f 0) / 60) - 1) = 1
  · rw [if_pos c]
    obtain ⟨h0, h1⟩ := hourOf_in (f := f) (k := k) (t := f 0 / 60 - 1) (by rw [c]; decide)
    have hk := vin_nat hd
    refine okR_upd (okR_upd h ?_) (by omega)
    rw [hidx1 hd h0 h1, nI_clamp (by omega)]
    omega
  · rw [if_neg c]
    exact h
theorem okR_writes {f : Nat → Int64} {k q : Int32} (hd : vp_in k 4) (h : okR f) : okR (f_X5_writes_f f k q) := by
  have hx := vin_x hd
  have m := fun {g : Nat → Int64} {c k' c' : Int32} {x : Int64} => @okR_moves g k c k' c' x hd
  have h4 : okR (f_X5_writes_fq4 f k q) := okR_moves hx (by decide) (by decide) hx (by decide) (by decide) h
  have h5 : okR (f_X5_writes_fq5 f k q) := okR_moves hd (by decide) (by decide) hd (by decide) (by decide) h4
  have h6 : okR (f_X5_writes_v6 f k q) := okR_ite (okR_row hd (by decide) (by decide) h5) h
  have h8 : okR (f_X5_writes_fq8 f k q) := okR_moves hd (by decide) (by decide) hd (by decide) (by decide) h6
  have h9 : okR (f_X5_writes_fq9 f k q) := okR_moves hd (by decide) (by decide) hd (by decide) (by decide) h8
  have h12 : okR (f_X5_writes_fq12 f k q) := okR_moves hx (by decide) (by decide) hx (by decide) (by decide) h9
  exact okR_ite h9 (okR_ite h9 (okR_ite (okR_row hd (by decide) (by decide) h12) h9))
theorem moves_0 {f : Nat → Int64} {k c k' c' : Int32} {x : Int64} (hd : vp_in k 4) (hc : decide (¬ (c < 0 ∨ 11 ≤ c.toNatClampNeg)) = true) (hd' : vp_in k' 4) (hc' : decide (¬ (c' < 0 ∨ 11 ≤ c'.toNatClampNeg)) = true) : f_X5_moves_f f (f_X5_row_r k + c) (f_X5_row_r k' + c') x 0 = f 0 := by
  unfold f_X5_moves_f
  rw [row_ne hd' hc' (by decide), row_ne hd hc (by decide)]
theorem writes_0 {f : Nat → Int64} {k q : Int32} (hd : vp_in k 4) : f_X5_writes_f f k q 0 = f 0 := by
  have hx := vin_x hd
  have h4 : f_X5_writes_fq4 f k q 0 = f 0 := moves_0 hx (by decide) hx (by decide)
  have h5 : f_X5_writes_fq5 f k q 0 = f 0 := (moves_0 hd (by decide) hd (by decide)).trans h4
  have h6 : f_X5_writes_v6 f k q 0 = f 0 := by
    unfold f_X5_writes_v6
    split
    · exact (row_ne hd (by decide) (by decide)).trans h5
    · rfl
  have h8 : f_X5_writes_fq8 f k q 0 = f 0 := (moves_0 hd (by decide) hd (by decide)).trans h6
  have h9 : f_X5_writes_fq9 f k q 0 = f 0 := (moves_0 hd (by decide) hd (by decide)).trans h8
  have h12 : f_X5_writes_fq12 f k q 0 = f 0 := (moves_0 hx (by decide) hx (by decide)).trans h9
  unfold f_X5_writes_f f_X5_writes_v13
  split
  · exact h9
  · split
    · exact h9
    · split
      · exact (row_ne hd (by decide) (by decide)).trans h12
      · exact h9
theorem cleans_v6_0 {f : Nat → Int64} {k q : Int32} (hd : vp_in k 4) : f_X5_cleans_v6 f k q 0 = f 0 := by
  unfold f_X5_cleans_v6
  split
  · rfl
  · exact (row_ne hd (by decide) (by decide)).trans (moves_0 hd (by decide) hd (by decide))
theorem okR_cleans {f : Nat → Int64} {k q : Int32} (hd : vp_in k 4) (hq : ¬ q = 0 → 0 ≤ (f 0 / 60).toInt ∧ (f 0 / 60).toInt < 100) (h : okR f) : okR (f_X5_cleans_f f k q) := by
  have hk := vin_nat hd
  have h5 : okR (f_X5_cleans_fq5 f k q) := okR_moves hd (by decide) (by decide) hd (by decide) (by decide) h
  have h6 : okR (f_X5_cleans_v6 f k q) := okR_ite h (okR_row hd (by decide) (by decide) h5)
  unfold f_X5_cleans_f
  refine okR_row hd (by decide) (by decide) ?_
  unfold f_X5_cleans_v11
  by_cases c3 : f_X5_cleans_x3 f k q = 0
  · rw [if_pos c3]
    exact h6
  · rw [if_neg c3]
    by_cases cq : q = 0
    · rw [if_pos cq]
      exact h6
    · rw [if_neg cq]
      obtain ⟨h0, h1⟩ := hq cq
      refine okR_upd (okR_upd (okR_upd (okR_upd (okR_row hd (by decide) (by decide) h6) ?_) (by omega)) (by omega)) (by omega)
      rw [row_ne hd (by decide) (by decide), cleans_v6_0 hd, hidx hd h0 h1, nI_clamp (by omega)]
      omega
/-- a drive's minute -/
noncomputable def dayT (f : Nat → Int64) (k : Int32) : Nat → Int64 := if lg_cmp (f 0 - f 0 / 60 * 60) 0 = 0 then f_X5_turns_f f k else f
noncomputable def dayX (f : Nat → Int64) (k : Int32) : Int64 := if lg_cmp (f 0 - f 0 / f (f_X5_row_r k + 8).toNatClampNeg * f (f_X5_row_r k + 8).toNatClampNeg) 0 = 0 then f (f_X5_row_r k + 9).toNatClampNeg else 0
noncomputable def dayS (f : Nat → Int64) (k : Int32) : Nat → Int64 := vp_updL (dayT f k) (f_X5_row_r k + 3).toNatClampNeg (dayT f k (f_X5_row_r k + 3).toNatClampNeg + dayX (dayT f k) k)
noncomputable def dayW (f : Nat → Int64) (k : Int32) : Nat → Int64 := f_X5_writes_f (dayS f k) k (f_X5_isQuiet_r (dayS f k) k)
noncomputable def dayM (f : Nat → Int64) (k : Int32) : Nat → Int64 := f_X5_cleans_f (dayW f k) k (f_X5_isQuiet_r (dayS f k) k)
noncomputable def oneA (f : Nat → Int64) : Nat → Nat → Int64
  | 0 => f
  | i + 1 => dayM (oneA f i) (nI i)
noncomputable def sumA (f : Nat → Int64) : Nat → Nat → Int64
  | 0 => oneA f 4
  | i + 1 => vp_updL (sumA f i) (f_X5_row_r (nI i) + 10).toNatClampNeg (sumA f i (f_X5_row_r (nI i) + 10).toNatClampNeg + sumA f i (f_X5_row_r (nI i) + 3).toNatClampNeg)
noncomputable def oneM (f : Nat → Int64) : Nat → Int64 := vp_updL (sumA f 4) 0 (sumA f 4 0 + 1)
theorem okR_dayT {f : Nat → Int64} {k : Int32} (hd : vp_in k 4) (h : okR f) : okR (dayT f k) := okR_ite (okR_turns hd h) h
theorem okR_dayS {f : Nat → Int64} {k : Int32} (hd : vp_in k 4) (h : okR f) : okR (dayS f k) := okR_row hd (by decide) (by decide) (okR_dayT hd h)
theorem dayM_vin {f : Nat → Int64} {k : Int32} (hd : vp_in k 4) (h : ¬ f_X5_isQuiet_r (dayS f k) k = 0) : vp_in (56 + 100 * k + (dayW f k 0 / 60).toInt32) 456 := by
  rw [show dayW f k 0 = dayS f k 0 from writes_0 hd]
  exact quiet_vin hd h
theorem okR_dayM {f : Nat → Int64} {k : Int32} (hd : vp_in k 4) (h : okR f) : okR (dayM f k) := okR_cleans hd (fun hq => by
  rw [show dayW f k 0 = dayS f k 0 from writes_0 hd]
  exact quiet_in hq) (okR_writes hd (okR_dayS hd h))
theorem okR_oneA {f : Nat → Int64} (h : okR f) : ∀ i : Nat, i ≤ 4 → okR (oneA f i)
  | 0, _ => h
  | i + 1, hi => okR_dayM (vp_in_nI (by omega) (by decide)) (okR_oneA h i (by omega))
theorem okR_sumA {f : Nat → Int64} (h : okR f) : ∀ i : Nat, i ≤ 4 → okR (sumA f i)
  | 0, _ => okR_oneA h 4 (by omega)
  | i + 1, hi => okR_row (vp_in_nI (by omega) (by decide)) (by decide) (by decide) (okR_sumA h i (by omega))
theorem okR_oneM {f : Nat → Int64} (h : okR f) : okR (oneM f) := okR_upd (okR_sumA h 4 (by omega)) (by omega)
theorem okR_div {f : Nat → Int64} {i : Nat} (h : okR f) (hi : i < 4) : ¬ f (f_X5_row_r (nI i) + 8).toNatClampNeg = 0 := by
  rw [rw_cl (vp_in_nI hi (by decide)) (by decide), nI_clamp (by omega), show 12 + 11 * i + (8 : Int32).toNatClampNeg = 20 + 11 * i by rw [show (8 : Int32).toNatClampNeg = 8 by decide]; omega]
  exact h i hi
noncomputable def f_X5_passesOne_v7 (f : Nat → Int64) (i : Nat) : (Nat → Int64) := (if lg_cmp (((oneA f i) 0) - ((oneA f i) 0) / 60 * 60) 0 = 0 then f_X5_turns_f (oneA f i) (nI i) else (oneA f i))
noncomputable def f_X5_passesOne_x8 (f : Nat → Int64) (i : Nat) : Int64 := (if lg_cmp (((f_X5_passesOne_v7 f i) 0) - ((f_X5_passesOne_v7 f i) 0) / ((f_X5_passesOne_v7 f i) ((f_X5_row_r (nI i)) + 8).toNatClampNeg) * ((f_X5_passesOne_v7 f i) ((f_X5_row_r (nI i)) + 8).toNatClampNeg)) 0 = 0 then (f_X5_passesOne_v7 f i) ((f_X5_row_r (nI i)) + 9).toNatClampNeg else 0)
noncomputable def f_X5_passesOne_rq9 (f : Nat → Int64) (i : Nat) : Int32 := f_X5_isQuiet_r (vp_updL (f_X5_passesOne_v7 f i) ((f_X5_row_r (nI i)) + 3).toNatClampNeg (((f_X5_passesOne_v7 f i) ((f_X5_row_r (nI i)) + 3).toNatClampNeg) + (f_X5_passesOne_x8 f i))) (nI i)
noncomputable def f_X5_passesOne_fq10 (f : Nat → Int64) (i : Nat) : (Nat → Int64) := f_X5_writes_f (vp_updL (f_X5_passesOne_v7 f i) ((f_X5_row_r (nI i)) + 3).toNatClampNeg (((f_X5_passesOne_v7 f i) ((f_X5_row_r (nI i)) + 3).toNatClampNeg) + (f_X5_passesOne_x8 f i))) (nI i) (f_X5_passesOne_rq9 f i)
noncomputable def f_X5_passesOne_fq11 (f : Nat → Int64) (i : Nat) : (Nat → Int64) := f_X5_cleans_f (f_X5_passesOne_fq10 f i) (nI i) (f_X5_passesOne_rq9 f i)
set_option maxRecDepth 100000 in
set_option maxHeartbeats 4000000 in
theorem m_X5_passesOne (l : Launch) (G : GG) (a : Nat) (f : Nat → Int64) (h8 : okR f) : CtV l yX5_passesOne cX5_passesOne 4 (none : Option Jvm.ClassFile.FieldType) (RM 3) G [.ref a] ([aJ G a 456 f]) ([aJ G a 456 (oneM f)]) := by
  refine ct_V RX5 [(0, .ref a)] rfl (by decide +kernel) (Nat.le_of_ble_eq_true rfl) rfl ?_
  intro p e s m args below meth c A C hr hk hnm
  generalize hQ : (MQ below (PostV G A ([aJ G a 456 (oneM f)])) args s (RM 3).cells (RM 3).slots A) = Q
  refine j_iconst (v := 0) C dX5_passesOne_0 (by decide) ?_
  refine j_istore_n C [(1, .int 0), (0, .ref a)] dX5_passesOne_1 (by decide) rfl ?_
  have L1 : ∀ (n i : Nat), i + n = 4 → WJ p l e (RM 3) s m args below meth c G A 4 0 0 Q ([aJ G a 456 (oneA f i)]) [(1, .int (nI i)), (0, .ref a)] 2 [] := by
    intro n
    induction n with
    | zero =>
      intro i hIN
      have hN : i = 4 := by omega
      subst hN
      refine j_iload_n C dX5_passesOne_2 0 rfl ?_
      refine j_iconst (v := 4) C dX5_passesOne_3 (by decide) ?_
      refine j_icmp_ge (tgt := 86) C dX5_passesOne_4 (by decide) (fun c4 => ?_) (fun h => absurd (by decide) h)
      refine j_iconst (v := 0) C dX5_passesOne_86 (by decide) ?_
      refine j_istore_n C [(1, .int 0), (0, .ref a)] dX5_passesOne_87 (by decide) rfl ?_
      have L2 : ∀ (n i : Nat), i + n = 4 → WJ p l e (RM 3) s m args below meth c G A 4 0 0 Q ([aJ G a 456 (sumA f i)]) [(1, .int (nI i)), (0, .ref a)] 88 [] := by
        intro n
        induction n with
        | zero =>
          intro i hIN
          have hN : i = 4 := by omega
          subst hN
          refine j_iload_n C dX5_passesOne_88 0 rfl ?_
          refine j_iconst (v := 4) C dX5_passesOne_89 (by decide) ?_
          refine j_icmp_ge (tgt := 119) C dX5_passesOne_90 (by decide) (fun c90 => ?_) (fun h => absurd (by decide) h)
          refine j_aload_n C dX5_passesOne_119 1 rfl ?_
          refine j_iconst (v := 0) C dX5_passesOne_120 (by decide) ?_
          refine j_dup2_11 C dX5_passesOne_121 rfl rfl ?_
          refine j_lald C 0 rfl (vin_lit rfl) (v := (sumA f 4) 0) rfl dX5_passesOne_122 ?_
          refine j_lconst (v := 1) C dX5_passesOne_123 (by decide) ?_
          refine j_ladd C dX5_passesOne_124 rfl ?_
          generalize hw0 : ((sumA f 4) 0) + 1 = w0
          refine j_last C 0 rfl (vin_lit rfl) ([aJ G a 456 (vp_updL (sumA f 4) 0 w0)]) rfl dX5_passesOne_125 ?_
          subst hQ; subst hw0; exact j_vret C hr hk (by rw [show (oneM f) = (vp_updL (sumA f 4) 0 (((sumA f 4) 0) + 1)) from rfl]) dX5_passesOne_126
        | succ n ih =>
          intro i hIN
          have hlt : i < 4 := by omega
          refine j_iload_n C dX5_passesOne_88 0 rfl ?_
          refine j_iconst (v := 4) C dX5_passesOne_89 (by decide) ?_
          refine j_icmp_ge (tgt := 119) C dX5_passesOne_90 (by decide) (fun h => absurd h (nI_ge (b := 4) hlt (by decide))) (fun c90 => ?_)
          refine j_aload_n C dX5_passesOne_93 1 rfl ?_
          refine j_iload_n C dX5_passesOne_94 0 rfl ?_
          refine j_pureS_i (r := f_X5_row_r (nI i)) C (m_X5_row l G (nI i)) 1 (gS kw_486 kw_487 kw_7 kw_488) (by decide +kernel) ⟨(Nat.le_of_ble_eq_true rfl), (Nat.le_of_ble_eq_true rfl)⟩ rfl rfl (Nat.le_of_ble_eq_true rfl) dX5_passesOne_95 ⟨(Nat.le_of_ble_eq_true rfl), (Nat.le_of_ble_eq_true rfl)⟩ ?_
          refine j_bipush (v := 10) C dX5_passesOne_98 (by decide) ?_
          refine j_iadd C dX5_passesOne_100 rfl ?_
          refine j_dup2_11 C dX5_passesOne_101 rfl rfl ?_
          refine j_lald C 0 rfl (vin_row (vp_in_nI (by omega) (by omega)) (by decide)) (v := (sumA f i) ((f_X5_row_r (nI i)) + 10).toNatClampNeg) rfl dX5_passesOne_102 ?_
          refine j_aload_n C dX5_passesOne_103 1 rfl ?_
          refine j_iload_n C dX5_passesOne_104 0 rfl ?_
          refine j_pureS_i (r := f_X5_row_r (nI i)) C (m_X5_row l G (nI i)) 1 (gS kw_486 kw_487 kw_7 kw_488) (by decide +kernel) ⟨(Nat.le_of_ble_eq_true rfl), (Nat.le_of_ble_eq_true rfl)⟩ rfl rfl (Nat.le_of_ble_eq_true rfl) dX5_passesOne_105 ⟨(Nat.le_of_ble_eq_true rfl), (Nat.le_of_ble_eq_true rfl)⟩ ?_
          refine j_iconst (v := 3) C dX5_passesOne_108 (by decide) ?_
          refine j_iadd C dX5_passesOne_109 rfl ?_
          refine j_lald C 0 rfl (vin_row (vp_in_nI (by omega) (by omega)) (by decide)) (v := (sumA f i) ((f_X5_row_r (nI i)) + 3).toNatClampNeg) rfl dX5_passesOne_110 ?_
          refine j_ladd C dX5_passesOne_111 rfl ?_
          generalize hw1 : ((sumA f i) ((f_X5_row_r (nI i)) + 10).toNatClampNeg) + ((sumA f i) ((f_X5_row_r (nI i)) + 3).toNatClampNeg) = w1
          refine j_last C 0 rfl (vin_row (vp_in_nI (by omega) (by omega)) (by decide)) ([aJ G a 456 (vp_updL (sumA f i) ((f_X5_row_r (nI i)) + 10).toNatClampNeg w1)]) rfl dX5_passesOne_112 ?_
          refine j_iinc (v := nI (i + 1)) C [(1, .int (nI (i + 1))), (0, .ref a)] dX5_passesOne_113 (k := 0) rfl (nI_1 i) (by decide) rfl ?_
          refine j_goto (tgt := 88) C dX5_passesOne_116 (by decide) ?_
          subst hw1; exact j_eq (by rw [show (sumA f (i + 1)) = vp_updL (sumA f i) ((f_X5_row_r (nI i)) + 10).toNatClampNeg (((sumA f i) ((f_X5_row_r (nI i)) + 10).toNatClampNeg) + ((sumA f i) ((f_X5_row_r (nI i)) + 3).toNatClampNeg)) from rfl]) rfl rfl (ih (i + 1) (by omega))
      exact j_eq (by rw [show (sumA f 0) = (oneA f 4) from rfl]) (by rw [show nI 0 = 0 from rfl]) rfl (L2 4 0 (by omega))
    | succ n ih =>
      intro i hIN
      have hlt : i < 4 := by omega
      refine j_iload_n C dX5_passesOne_2 0 rfl ?_
      refine j_iconst (v := 4) C dX5_passesOne_3 (by decide) ?_
      refine j_icmp_ge (tgt := 86) C dX5_passesOne_4 (by decide) (fun h => absurd h (nI_ge (b := 4) hlt (by decide))) (fun c4 => ?_)
      refine j_iload_n C dX5_passesOne_7 0 rfl ?_
      refine j_pureS_i (r := f_X5_row_r (nI i)) C (m_X5_row l G (nI i)) 1 (gS kw_486 kw_487 kw_7 kw_488) (by decide +kernel) ⟨(Nat.le_of_ble_eq_true rfl), (Nat.le_of_ble_eq_true rfl)⟩ rfl rfl (Nat.le_of_ble_eq_true rfl) dX5_passesOne_8 ⟨(Nat.le_of_ble_eq_true rfl), (Nat.le_of_ble_eq_true rfl)⟩ ?_
      refine j_istore_n C [(2, .int (f_X5_row_r (nI i))), (1, .int (nI i)), (0, .ref a)] dX5_passesOne_11 (by decide) rfl ?_
      refine j_aload_n C dX5_passesOne_12 2 rfl ?_
      refine j_iconst (v := 0) C dX5_passesOne_13 (by decide) ?_
      refine j_lald C 0 rfl (vin_lit rfl) (v := (oneA f i) 0) rfl dX5_passesOne_14 ?_
      refine j_ldc2 (v := 60) C kw_480 dX5_passesOne_15 ?_
      refine j_lrem C dX5_passesOne_18 (by decide) rfl ?_
      refine j_lconst (v := 0) C dX5_passesOne_19 (by decide) ?_
      refine j_lcmp C dX5_passesOne_20 ?_
      have K29 : WJ p l e (RM 3) s m args below meth c G A 4 0 0 Q ([aJ G a 456 (f_X5_passesOne_v7 f i)]) [(2, .int (f_X5_row_r (nI i))), (1, .int (nI i)), (0, .ref a)] 29 [] := by
        generalize hw2 : f_X5_passesOne_v7 f i = w2
        refine j_aload_n C dX5_passesOne_29 2 rfl ?_
        refine j_iload_n C dX5_passesOne_30 0 rfl ?_
        refine j_iconst (v := 3) C dX5_passesOne_31 (by decide) ?_
        refine j_iadd C dX5_passesOne_32 rfl ?_
        refine j_dup2_11 C dX5_passesOne_33 rfl rfl ?_
        refine j_lald C 0 rfl (vin_row (vp_in_nI (by omega) (by omega)) (by decide)) (v := w2 ((f_X5_row_r (nI i)) + 3).toNatClampNeg) rfl dX5_passesOne_34 ?_
        refine j_aload_n C dX5_passesOne_35 2 rfl ?_
        refine j_iconst (v := 0) C dX5_passesOne_36 (by decide) ?_
        refine j_lald C 0 rfl (vin_lit rfl) (v := w2 0) rfl dX5_passesOne_37 ?_
        refine j_aload_n C dX5_passesOne_38 2 rfl ?_
        refine j_iload_n C dX5_passesOne_39 0 rfl ?_
        refine j_bipush (v := 8) C dX5_passesOne_40 (by decide) ?_
        refine j_iadd C dX5_passesOne_42 rfl ?_
        refine j_lald C 0 rfl (vin_row (vp_in_nI (by omega) (by omega)) (by decide)) (v := w2 ((f_X5_row_r (nI i)) + 8).toNatClampNeg) rfl dX5_passesOne_43 ?_
        refine j_lrem C dX5_passesOne_44 (by subst hw2; exact okR_div (okR_dayT (vp_in_nI (by omega) (by omega)) (okR_oneA h8 i (by omega))) hlt) rfl ?_
        refine j_lconst (v := 0) C dX5_passesOne_45 (by decide) ?_
        refine j_lcmp C dX5_passesOne_46 ?_
        have K60 : WJ p l e (RM 3) s m args below meth c G A 4 0 0 Q ([aJ G a 456 w2]) [(2, .int (f_X5_row_r (nI i))), (1, .int (nI i)), (0, .ref a)] 60 [.long (f_X5_passesOne_x8 f i), .long (w2 ((f_X5_row_r (nI i)) + 3).toNatClampNeg), .int ((f_X5_row_r (nI i)) + 3), .ref a] := by
          generalize hw3 : f_X5_passesOne_x8 f i = w3
          refine j_ladd C dX5_passesOne_60 rfl ?_
          generalize hw4 : (w2 ((f_X5_row_r (nI i)) + 3).toNatClampNeg) + w3 = w4
          refine j_last C 0 rfl (vin_row (vp_in_nI (by omega) (by omega)) (by decide)) ([aJ G a 456 (vp_updL w2 ((f_X5_row_r (nI i)) + 3).toNatClampNeg w4)]) rfl dX5_passesOne_61 ?_
          refine j_aload_n C dX5_passesOne_62 2 rfl ?_
          refine j_iload_n C dX5_passesOne_63 1 rfl ?_
          refine j_callS_i (r := f_X5_isQuiet_r (vp_updL w2 ((f_X5_row_r (nI i)) + 3).toNatClampNeg w4) (nI i)) (wc' := [aJ G a 456 (vp_updL w2 ((f_X5_row_r (nI i)) + 3).toNatClampNeg w4)]) C (m_X5_isQuiet l G a (vp_updL w2 ((f_X5_row_r (nI i)) + 3).toNatClampNeg w4) (nI i) (vp_in_nI (by omega) (by omega))) 2 (gS kw_611 kw_612 kw_7 kw_613) (by decide +kernel) ⟨(Nat.le_of_ble_eq_true rfl), (Nat.le_of_ble_eq_true rfl)⟩ rfl rfl (Nat.le_of_ble_eq_true rfl) dX5_passesOne_64 ⟨(Nat.le_of_ble_eq_true rfl), (Nat.le_of_ble_eq_true rfl)⟩ [] [aJ G a 456 (vp_updL w2 ((f_X5_row_r (nI i)) + 3).toNatClampNeg w4)] (perm_idx [0] 1 rfl (by decide +kernel) rfl) rfl ?_
          generalize hzw5 : f_X5_isQuiet_r (vp_updL w2 ((f_X5_row_r (nI i)) + 3).toNatClampNeg w4) (nI i) = w5
          have hw5 : f_X5_passesOne_rq9 f i = w5 := by subst hw2 hw3 hw4; subst hzw5; rfl
          refine j_istore_n C [(3, .int w5), (2, .int (f_X5_row_r (nI i))), (1, .int (nI i)), (0, .ref a)] dX5_passesOne_67 (by decide) rfl ?_
          refine j_aload_n C dX5_passesOne_68 3 rfl ?_
          refine j_iload_n C dX5_passesOne_69 2 rfl ?_
          refine j_iload_n C dX5_passesOne_70 0 rfl ?_
          refine j_callS_v (wc' := [aJ G a 456 (f_X5_writes_f (vp_updL w2 ((f_X5_row_r (nI i)) + 3).toNatClampNeg w4) (nI i) w5)]) C (m_X5_writes l G a (vp_updL w2 ((f_X5_row_r (nI i)) + 3).toNatClampNeg w4) (nI i) w5 (vp_in_nI (by omega) (by omega))) 3 (gS kw_614 kw_615 kw_7 kw_616) (by decide +kernel) ⟨(Nat.le_of_ble_eq_true rfl), (Nat.le_of_ble_eq_true rfl)⟩ rfl rfl (Nat.le_of_ble_eq_true rfl) dX5_passesOne_71 ⟨(Nat.le_of_ble_eq_true rfl), (Nat.le_of_ble_eq_true rfl)⟩ [] [aJ G a 456 (f_X5_writes_f (vp_updL w2 ((f_X5_row_r (nI i)) + 3).toNatClampNeg w4) (nI i) w5)] (perm_idx [0] 1 rfl (by decide +kernel) rfl) rfl ?_
          generalize hzw6 : f_X5_writes_f (vp_updL w2 ((f_X5_row_r (nI i)) + 3).toNatClampNeg w4) (nI i) w5 = w6
          have hw6 : f_X5_passesOne_fq10 f i = w6 := by subst hw2 hw3 hw4 hw5; subst hzw6; rfl
          refine j_aload_n C dX5_passesOne_74 3 rfl ?_
          refine j_iload_n C dX5_passesOne_75 2 rfl ?_
          refine j_iload_n C dX5_passesOne_76 0 rfl ?_
          refine j_callS_v (wc' := [aJ G a 456 (f_X5_cleans_f w6 (nI i) w5)]) C (m_X5_cleans l G a w6 (nI i) w5 (vp_in_nI (by omega) (by omega)) (fun hq => by subst hw2 hw3 hw4 hw5 hw6; exact dayM_vin (vp_in_nI (by omega) (by omega)) hq)) 3 (gS kw_623 kw_624 kw_7 kw_625) (by decide +kernel) ⟨(Nat.le_of_ble_eq_true rfl), (Nat.le_of_ble_eq_true rfl)⟩ rfl rfl (Nat.le_of_ble_eq_true rfl) dX5_passesOne_77 ⟨(Nat.le_of_ble_eq_true rfl), (Nat.le_of_ble_eq_true rfl)⟩ [] [aJ G a 456 (f_X5_cleans_f w6 (nI i) w5)] (perm_idx [0] 1 rfl (by decide +kernel) rfl) rfl ?_
          generalize hzw7 : f_X5_cleans_f w6 (nI i) w5 = w7
          have hw7 : f_X5_passesOne_fq11 f i = w7 := by subst hw2 hw3 hw4 hw5 hw6; subst hzw7; rfl
          refine j_iinc (v := nI (i + 1)) C [(1, .int (nI (i + 1))), (3, .int w5), (2, .int (f_X5_row_r (nI i))), (0, .ref a)] dX5_passesOne_80 (k := 2) rfl (nI_1 i) (by decide) rfl ?_
          refine j_goto (tgt := 2) C dX5_passesOne_83 (by decide) ?_
          refine j_lv [0, 3] [(1, .int (nI (i + 1))), (0, .ref a)] rfl ?_
          subst hw2 hw3 hw4 hw5 hw6 hw7; exact j_eq (by rw [show (oneA f (i + 1)) = (f_X5_passesOne_fq11 f i) from rfl]) rfl rfl (ih (i + 1) (by omega))
        refine j_if_ne (tgt := 59) C dX5_passesOne_47 (by decide) (fun c47 => ?_) (fun c47 => ?_)
        · refine j_lconst (v := 0) C dX5_passesOne_59 (by decide) ?_
          subst hw2; exact j_eq rfl rfl (by rw [show f_X5_passesOne_x8 f i = 0 from (if_neg c47)]) K60
        · refine j_aload_n C dX5_passesOne_50 2 rfl ?_
          refine j_iload_n C dX5_passesOne_51 0 rfl ?_
          refine j_bipush (v := 9) C dX5_passesOne_52 (by decide) ?_
          refine j_iadd C dX5_passesOne_54 rfl ?_
          refine j_lald C 0 rfl (vin_row (vp_in_nI (by omega) (by omega)) (by decide)) (v := w2 ((f_X5_row_r (nI i)) + 9).toNatClampNeg) rfl dX5_passesOne_55 ?_
          refine j_goto (tgt := 60) C dX5_passesOne_56 (by decide) ?_
          subst hw2; exact j_eq rfl rfl (by rw [show f_X5_passesOne_x8 f i = (f_X5_passesOne_v7 f i) ((f_X5_row_r (nI i)) + 9).toNatClampNeg from (if_pos c47)]) K60
      refine j_if_ne (tgt := 29) C dX5_passesOne_21 (by decide) (fun c21 => ?_) (fun c21 => ?_)
      · exact j_eq (by rw [show f_X5_passesOne_v7 f i = (oneA f i) from (if_neg c21)]) rfl rfl K29
      · refine j_aload_n C dX5_passesOne_24 2 rfl ?_
        refine j_iload_n C dX5_passesOne_25 1 rfl ?_
        refine j_callS_v (wc' := [aJ G a 456 (f_X5_turns_f (oneA f i) (nI i))]) C (m_X5_turns l G a (oneA f i) (nI i) (vp_in_nI (by omega) (by omega))) 2 (gS kw_608 kw_609 kw_7 kw_610) (by decide +kernel) ⟨(Nat.le_of_ble_eq_true rfl), (Nat.le_of_ble_eq_true rfl)⟩ rfl rfl (Nat.le_of_ble_eq_true rfl) dX5_passesOne_26 ⟨(Nat.le_of_ble_eq_true rfl), (Nat.le_of_ble_eq_true rfl)⟩ [] [aJ G a 456 (f_X5_turns_f (oneA f i) (nI i))] (perm_idx [0] 1 rfl (by decide +kernel) rfl) rfl ?_
        exact j_eq (by rw [show f_X5_passesOne_v7 f i = f_X5_turns_f (oneA f i) (nI i) from (if_pos c21)]) rfl rfl K29
  exact j_eq (by rw [show (oneA f 0) = f from rfl]) (by rw [show nI 0 = 0 from rfl]) rfl (L1 4 0 (by omega))
