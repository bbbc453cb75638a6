/-! FLOATING NUMBERS: floats, quotients, the methods -/
theorem n32_of {x : UInt32} (h : FP.Core.val32 x ≠ .nan) : vf_n32 x := by
  have h1 := (FP.Core.ne_nan32 x).mp h
  unfold vf_n32
  rw [UInt32.le_iff_toNat_le, FP.Core.mask_toNat32]
  exact h1
theorem ne_of_n64 {x : UInt64} (h : vf_n64 x) : FP.Core.val64 x ≠ .nan := by
  refine (FP.Core.ne_nan x).mpr ?_
  unfold vf_n64 at h
  rw [UInt64.le_iff_toNat_le, FP.Core.mask_toNat] at h
  exact h
theorem ne_of_n32 {x : UInt32} (h : vf_n32 x) : FP.Core.val32 x ≠ .nan := by
  refine (FP.Core.ne_nan32 x).mpr ?_
  unfold vf_n32 at h
  rw [UInt32.le_iff_toNat_le, FP.Core.mask_toNat32] at h
  exact h
theorem okX_ne {x : UInt64} (h : x = 0 ∨ okX x) : FP.Core.val64 x ≠ .nan := by
  rcases h with rfl | h
  · exact zero_ne
  · rw [← nb_self x]
    exact nb_ne h.1 h.2 (xT_lt x)
/-- floats: a biased exponent, a fraction -/
def yE (x : UInt32) : Nat := x.toNat / 8388608
def yT (x : UInt32) : Nat := x.toNat % 8388608
def okY (x : UInt32) : Prop := 1 ≤ yE x ∧ yE x ≤ 254
theorem y_val {x : UInt32} (h : okY x) : FP.Core.val32 x = .fin false (8388608 + yT x) ((yE x : Int) - 150) := by
  obtain ⟨h1, h2⟩ := h
  have h3 : yT x < 8388608 := Nat.mod_lt _ (by decide)
  have hx : x.toNat = yE x * 8388608 + yT x := by unfold yE yT; omega
  unfold FP.Core.val32
  rw [hx]
  have e := FP.Core.decode_assemble FP.Core.b32 false (yE x) (yT x) (by show _ < 2 ^ 8; omega) (by show _ < 2 ^ 23; omega)
  have a : FP.Core.assemble FP.Core.b32 false (yE x) (yT x) = yE x * 8388608 + yT x := by
    show (0 * 2 ^ 8 + yE x) * 2 ^ 23 + yT x = _
    omega
  rw [a] at e
  rw [e, if_neg (by show ¬ yE x = 2 ^ 8 - 1; omega), if_neg (by omega)]
  have q : FP.Core.b32.qmin = -149 := by decide
  rw [q, show (-149 : Int) + ((yE x : Int) - 1) = (yE x : Int) - 150 by omega]
  rfl
theorem y_ne {x : UInt32} (h : okY x) : FP.Core.val32 x ≠ .nan := by
  rw [y_val h]
  exact FP.Core.Datum.noConfusion
theorem okY_ne {x : UInt32} (h : x = 0 ∨ okY x) : FP.Core.val32 x ≠ .nan := by
  rcases h with rfl | h
  · decide +kernel
  · exact y_ne h
theorem y_f2d {x : UInt32} (h : okY x) : FP.f2d x = nb (yE x + 896) (yT x * 536870912) := by
  have hn := y_ne h
  have h3 : yT x < 8388608 := Nat.mod_lt _ (by decide)
  have e0 : FP.f2d x = FP.Core.f2d x := by
    unfold FP.f2d
    rw [(FP.Core.notNaN_iff32 x).mpr hn]
    rfl
  have v : FP.Core.val64 (FP.Core.f2d x) = FP.Core.val64 (nb (yE x + 896) (yT x * 536870912)) := by
    rw [FP.Core.val64_f2d, y_val h, nb_val (by omega) (by have := h.2; omega) (by omega)]
    show FP.Core.roundRatio FP.Core.b64 false (8388608 + yT x) 1 ((yE x : Int) - 150) = _
    refine FP.Core.roundRatio_exact FP.Core.good_b64 (by decide) (nb_fits (by omega) (by have := h.2; omega) (by omega)) ?_
    rw [show ((yE x : Int) - 150 - (((yE x + 896 : Nat) : Int) - 1075)).toNat = 29 by omega, show ((((yE x + 896 : Nat) : Int) - 1075) - ((yE x : Int) - 150)).toNat = 0 by omega]
    omega
  rw [e0]
  exact FP.Core.val64_inj (by rw [v]; exact nb_ne (by omega) (by have := h.2; omega) (by omega)) v
theorem y_okX {x : UInt32} (h : x = 0 ∨ okY x) : FP.f2d x = 0 ∨ okX (FP.f2d x) := by
  rcases h with rfl | h
  · exact .inl (by decide +kernel)
  · have h3 : yT x < 8388608 := Nat.mod_lt _ (by decide)
    have h4 := h.2
    have h5 := h.1
    refine .inr ?_
    rw [y_f2d h]
    unfold okX xE
    rw [nb_toNat (by omega) (by omega)]
    omega
theorem y_bits {x : UInt32} (h : okY x) : ((((FP.f2d x).toInt64.toUInt64 >>> ((29 : Int32).toInt64.toUInt64 &&& Int64.toUInt64 63)).toInt64) - 7516192768).toInt32 = x.toInt32 := by
  have h3 : yT x < 8388608 := Nat.mod_lt _ (by decide)
  have h4 := h.2
  have h5 := h.1
  have hx : x.toNat = yE x * 8388608 + yT x := by unfold yE yT; omega
  have a : ((FP.f2d x).toInt64.toUInt64 >>> ((29 : Int32).toInt64.toUInt64 &&& Int64.toUInt64 63)).toNat = x.toNat + 7516192768 := by
    rw [show ((29 : Int32).toInt64.toUInt64 &&& Int64.toUInt64 63) = 29 by decide, show (FP.f2d x).toInt64.toUInt64 = FP.f2d x from rfl, y_f2d h, UInt64.toNat_shiftRight, nb_toNat (by omega) (by omega), show (29 : UInt64).toNat % 64 = 29 by decide, Nat.shiftRight_eq_div_pow, hx]
    omega
  generalize ((FP.f2d x).toInt64.toUInt64 >>> ((29 : Int32).toInt64.toUInt64 &&& Int64.toUInt64 63)) = W at a
  have b : W.toInt64.toInt = (x.toNat : Int) + 7516192768 := by
    show (W.toBitVec).toInt = _
    rw [BitVec.toInt_eq_toNat_of_lt (by show 2 * W.toNat < 2 ^ 64; omega)]
    show (W.toNat : Int) = _
    omega
  apply Int32.toInt_inj.mp
  rw [Int64.toInt_toInt32, Int64.toInt_sub, b, show (7516192768 : Int64).toInt = 7516192768 by decide, show (x.toNat : Int) + 7516192768 - 7516192768 = (x.toNat : Int) by omega, Int.bmod_eq_of_le (m := 2 ^ 64) (by omega) (by omega), Int.bmod_eq_of_le (by omega) (by omega)]
  show (x.toNat : Int) = (x.toBitVec).toInt
  rw [BitVec.toInt_eq_toNat_of_lt (by show 2 * x.toNat < 2 ^ 32; omega)]
  rfl
theorem y_nz {x : UInt32} (h : okY x) : ¬ (FP.f2d x).toInt64 = 0 := fun g => by
  have h3 : yT x < 8388608 := Nat.mod_lt _ (by decide)
  have h4 := h.2
  have h5 := h.1
  have : (FP.f2d x).toInt64.toUInt64.toNat = (0 : Int64).toUInt64.toNat := by rw [g]
  rw [show (FP.f2d x).toInt64.toUInt64.toNat = (FP.f2d x).toNat from rfl, y_f2d h, nb_toNat (by omega) (by omega), show (0 : Int64).toUInt64.toNat = 0 by decide] at this
  omega
set_option maxRecDepth 100000 in
set_option maxHeartbeats 4000000 in
theorem m_X4_floatBits (l : Launch) (G : GG) (x : UInt32) (hx : x = 0 ∨ okY x) : CtI l yX4_floatBits cX4_floatBits 5 (some .int) (RM 1) G [.float x] ([]) (x.toInt32) ([]) := by
  refine ct_I RX4 [(0, .float x)] rfl (by decide +kernel) (Nat.le_of_ble_eq_true rfl) rfl ?_
  intro p e s m args below meth c A C hr hk hnm
  generalize hQ : (MQ below (PostI G A (x.toInt32) ([])) args s (RM 1).cells (RM 1).slots A) = Q
  refine j_fload_n C dX4_floatBits_0 0 rfl ?_
  refine j_f2d C dX4_floatBits_1 (n64_of (okX_ne (y_okX hx))) ?_
  refine j_pureS_l (r := (FP.f2d x).toInt64) C (m_X4_doubleBits l G (FP.f2d x) (y_okX hx)) 1 (gS kw_289 kw_290 kw_1 kw_291) (by decide +kernel) ⟨(Nat.le_of_ble_eq_true rfl), (Nat.le_of_ble_eq_true rfl)⟩ rfl rfl (Nat.le_of_ble_eq_true rfl) dX4_floatBits_2 ⟨(Nat.le_of_ble_eq_true rfl), (Nat.le_of_ble_eq_true rfl)⟩ ?_
  refine j_lstore_n C [(1, .long ((FP.f2d x).toInt64)), (0, .float x)] dX4_floatBits_5 (by decide) rfl ?_
  refine j_lload_n C dX4_floatBits_6 0 rfl ?_
  refine j_lconst (v := 0) C dX4_floatBits_7 (by decide) ?_
  refine j_lcmp C dX4_floatBits_8 ?_
  refine j_if_ne (tgt := 14) C dX4_floatBits_9 (by decide) (fun c9 => ?_) (fun c9 => ?_)
  · refine j_lload_n C dX4_floatBits_14 0 rfl ?_
    refine j_bipush (v := 29) C dX4_floatBits_15 (by decide) ?_
    refine j_lushr C dX4_floatBits_17 ?_
    refine j_lstore_n C [(3, .long ((((FP.f2d x).toInt64).toUInt64 >>> ((29 : Int32).toInt64.toUInt64 &&& Int64.toUInt64 63)).toInt64)), (1, .long ((FP.f2d x).toInt64)), (0, .float x)] dX4_floatBits_18 (by decide) rfl ?_
    refine j_lload_n C dX4_floatBits_19 0 rfl ?_
    refine j_ldc2 (v := 7516192768) C kw_294 dX4_floatBits_20 ?_
    refine j_lsub C dX4_floatBits_23 rfl ?_
    refine j_l2i C dX4_floatBits_24 rfl ?_
    subst hQ; exact j_iret C hr hk (show (((((FP.f2d x).toInt64).toUInt64 >>> ((29 : Int32).toInt64.toUInt64 &&& Int64.toUInt64 63)).toInt64) - 7516192768).toInt32 = x.toInt32 from (by rcases hx with rfl | hx; exact absurd ((lg_cmp_eq _ _).mpr (by decide +kernel)) c9; exact y_bits hx)) rfl dX4_floatBits_25
  · refine j_iconst (v := 0) C dX4_floatBits_12 (by decide) ?_
    subst hQ; exact j_iret C hr hk (show 0 = x.toInt32 from (by rcases hx with rfl | hx; rfl; exact absurd ((lg_cmp_eq _ _).mp c9) (y_nz hx))) rfl dX4_floatBits_13
