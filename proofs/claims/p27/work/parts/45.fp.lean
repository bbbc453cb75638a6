/-! FLOATING NUMBERS: what halving, doubling and the fraction of a normal number are -/
/-- the double of a biased exponent and a fraction -/
def nb (E T : Nat) : UInt64 := .ofNat (E * 4503599627370496 + T)
def xE (x : UInt64) : Nat := x.toNat / 4503599627370496
def xT (x : UInt64) : Nat := x.toNat % 4503599627370496
def okX (x : UInt64) : Prop := 1 ≤ xE x ∧ xE x ≤ 2046
theorem nb_toNat {E T : Nat} (hE : E ≤ 2046) (hT : T < 4503599627370496) : (nb E T).toNat = E * 4503599627370496 + T := UInt64.toNat_ofNat_of_lt' (by show _ < 2 ^ 64; omega)
theorem nb_self (x : UInt64) : nb (xE x) (xT x) = x := by
  unfold nb xE xT
  rw [show x.toNat / 4503599627370496 * 4503599627370496 + x.toNat % 4503599627370496 = x.toNat by omega]
  exact UInt64.ofNat_toNat
theorem xT_lt (x : UInt64) : xT x < 4503599627370496 := Nat.mod_lt _ (by decide)
theorem nb_val {E T : Nat} (h1 : 1 ≤ E) (hE : E ≤ 2046) (hT : T < 4503599627370496) : FP.Core.val64 (nb E T) = .fin false (4503599627370496 + T) ((E : Int) - 1075) := by
  unfold FP.Core.val64
  rw [nb_toNat hE hT]
  have e := FP.Core.decode_assemble FP.Core.b64 false E T (by show E < 2 ^ 11; omega) (by show T < 2 ^ 52; omega)
  have a : FP.Core.assemble FP.Core.b64 false E T = E * 4503599627370496 + T := by
    show (0 * 2 ^ 11 + E) * 2 ^ 52 + T = _
    omega
  rw [a] at e
  rw [e, if_neg (by show ¬ E = 2 ^ 11 - 1; omega), if_neg (by omega)]
  have q : FP.Core.b64.qmin = -1074 := by decide
  rw [q, show (-1074 : Int) + ((E : Int) - 1) = (E : Int) - 1075 by omega]
  rfl
theorem nb_fits {E T : Nat} (h1 : 1 ≤ E) (hE : E ≤ 2046) (hT : T < 4503599627370496) : FP.Core.fits FP.Core.b64 (.fin false (4503599627370496 + T) ((E : Int) - 1075)) := by
  rw [← nb_val h1 hE hT]
  exact FP.Core.val64_fits _
theorem nb_ne {E T : Nat} (h1 : 1 ≤ E) (hE : E ≤ 2046) (hT : T < 4503599627370496) : FP.Core.val64 (nb E T) ≠ .nan := by
  rw [nb_val h1 hE hT]
  exact FP.Core.Datum.noConfusion
theorem n64_of {x : UInt64} (h : FP.Core.val64 x ≠ .nan) : vf_n64 x := by
  have h1 := (FP.Core.ne_nan x).mp h
  unfold vf_n64
  rw [UInt64.le_iff_toNat_le, FP.Core.mask_toNat]
  exact h1
theorem nb_n64 {E T : Nat} (h1 : 1 ≤ E) (hE : E ≤ 2046) (hT : T < 4503599627370496) : vf_n64 (nb E T) := n64_of (nb_ne h1 hE hT)
theorem two_val : FP.Core.val64 4611686018427387904 = .fin false 4503599627370496 (-51) := by decide +kernel
theorem c52_val : FP.Core.val64 4841369599423283200 = .fin false 4503599627370496 0 := by decide +kernel
theorem nb_half {E T : Nat} (h1 : 1 ≤ E) (hE : E + 1 ≤ 2046) (hT : T < 4503599627370496) : FP.ddiv (nb (E + 1) T) 4611686018427387904 = nb E T := by
  have v : FP.Core.val64 (FP.Core.ddiv (nb (E + 1) T) 4611686018427387904) = FP.Core.val64 (nb E T) := by
    rw [FP.Core.val64_ddiv, nb_val (by omega) hE hT, two_val, nb_val h1 (by omega) hT]
    show FP.Core.roundRatio FP.Core.b64 false (4503599627370496 + T) 4503599627370496 (((E + 1 : Nat) : Int) - 1075 - (-51)) = _
    refine FP.Core.roundRatio_exact FP.Core.good_b64 (by decide) (nb_fits h1 (by omega) hT) ?_
    rw [show (((E + 1 : Nat) : Int) - 1075 - (-51) - ((E : Int) - 1075)).toNat = 52 by omega, show ((E : Int) - 1075 - (((E + 1 : Nat) : Int) - 1075 - (-51))).toNat = 0 by omega]
    omega
  exact FP.Core.val64_inj (by rw [v]; exact nb_ne h1 (by omega) hT) v
theorem nb_dbl {E T : Nat} (h1 : 1 ≤ E) (hE : E + 1 ≤ 2046) (hT : T < 4503599627370496) : FP.dmul (nb E T) 4611686018427387904 = nb (E + 1) T := by
  have v : FP.Core.val64 (FP.Core.dmul (nb E T) 4611686018427387904) = FP.Core.val64 (nb (E + 1) T) := by
    rw [FP.Core.val64_dmul, nb_val h1 (by omega) hT, two_val, nb_val (by omega) hE hT]
    show FP.Core.roundRatio FP.Core.b64 false ((4503599627370496 + T) * 4503599627370496) 1 ((E : Int) - 1075 + (-51)) = _
    refine FP.Core.roundRatio_exact FP.Core.good_b64 (by decide) (nb_fits (by omega) hE hT) ?_
    rw [show ((E : Int) - 1075 + (-51) - (((E + 1 : Nat) : Int) - 1075)).toNat = 0 by omega, show (((E + 1 : Nat) : Int) - 1075 - ((E : Int) - 1075 + (-51))).toNat = 52 by omega]
    omega
  exact FP.Core.val64_inj (by rw [v]; exact nb_ne (by omega) hE hT) v
theorem nb_key {E T : Nat} (hE : E ≤ 2046) (hT : T < 4503599627370496) : FP.Core.dkey (nb E T) = ((E * 4503599627370496 + T : Nat) : Int) := by
  unfold FP.Core.dkey
  rw [nb_toNat hE hT, if_neg (by omega)]
theorem cmp_lt {x y : UInt64} {op : CmpOp} (hx : FP.Core.val64 x ≠ .nan) (hy : FP.Core.val64 y ≠ .nan) : (Op.cmpValue (FP.dcmp x y) op < 0) ↔ FP.Core.dkey x < FP.Core.dkey y := by
  rw [← FP.Core.dcmp_lt_key hx hy]
  show (Op.cmpValue (FP.Core.dcmp x y) op < 0) ↔ _
  obtain ⟨o, ho⟩ := FP.Core.dcmp_of_notNaN ((FP.Core.notNaN_iff x).mpr hx) ((FP.Core.notNaN_iff y).mpr hy)
  rw [show FP.Core.dcmp x y = some o from ho]
  cases o <;> cases op <;> decide
theorem cmp_gt {x y : UInt64} {op : CmpOp} (hx : FP.Core.val64 x ≠ .nan) (hy : FP.Core.val64 y ≠ .nan) : (0 < Op.cmpValue (FP.dcmp x y) op) ↔ FP.Core.dkey y < FP.Core.dkey x := by
  rw [← FP.Core.dcmp_gt_key hx hy]
  show (0 < Op.cmpValue (FP.Core.dcmp x y) op) ↔ _
  obtain ⟨o, ho⟩ := FP.Core.dcmp_of_notNaN ((FP.Core.notNaN_iff x).mpr hx) ((FP.Core.notNaN_iff y).mpr hy)
  rw [show FP.Core.dcmp x y = some o from ho]
  cases o <;> cases op <;> decide
theorem two_ne : FP.Core.val64 4611686018427387904 ≠ .nan := by decide +kernel
theorem one_ne : FP.Core.val64 FP.dconst1 ≠ .nan := by decide +kernel
theorem zero_ne : FP.Core.val64 FP.dconst0 ≠ .nan := by decide +kernel
theorem one_val : FP.Core.val64 FP.dconst1 = .fin false (2 ^ 52) (-52) := by decide +kernel
theorem two_key : FP.Core.dkey 4611686018427387904 = 4611686018427387904 := by decide +kernel
theorem one_key : FP.Core.dkey FP.dconst1 = 4607182418800017408 := by decide +kernel
theorem zero_key : FP.Core.dkey FP.dconst0 = 0 := by decide +kernel
/-- the fraction's bits -/
theorem nb_frac {T : Nat} (hT : T < 4503599627370496) : vf_n64 (FP.dsub (nb 1023 T) FP.dconst1) ∧ vf_n64 (FP.dmul (FP.dsub (nb 1023 T) FP.dconst1) 4841369599423283200) ∧ (FP.d2l (FP.dmul (FP.dsub (nb 1023 T) FP.dconst1) 4841369599423283200)).toInt = (T : Int) := by
  rcases Nat.eq_zero_or_pos T with h0 | h0
  · subst h0
    rw [show nb 1023 0 = FP.dconst1 by decide +kernel]
    unfold vf_n64
    decide +kernel
  · have sb : FP.Core.val64 (FP.Core.dsub (nb 1023 T) FP.dconst1) = FP.Core.roundRatio FP.Core.b64 false T 1 (-52) := by
      rw [FP.Core.val64_dsub, nb_val (by omega) (by omega) hT, one_val]
      have e : FP.Core.exactSum (.fin false (4503599627370496 + T) (((1023 : Nat) : Int) - 1075)) (FP.Core.negate (.fin false (2 ^ 52) (-52))) = .fin false T (-52) := by
        have m : min (((1023 : Nat) : Int) - 1075) (-52) = -52 := by decide
        have u : FP.Core.sumUnits false (4503599627370496 + T) (((1023 : Nat) : Int) - 1075) true (2 ^ 52) (-52) (-52) = (T : Int) := by
          unfold FP.Core.sumUnits FP.Core.inUnits FP.Core.signed
          rw [show (((1023 : Nat) : Int) - 1075 - (-52)).toNat = 0 by decide, show ((-52 : Int) - (-52)).toNat = 0 by decide]
          simp only [Nat.pow_zero, Nat.mul_one, Bool.false_eq_true, if_false, if_true]
          omega
        show FP.Core.Datum.fin (FP.Core.sumSign false true (FP.Core.sumUnits false (4503599627370496 + T) (((1023 : Nat) : Int) - 1075) true (2 ^ 52) (-52) (min (((1023 : Nat) : Int) - 1075) (-52)))) (FP.Core.sumUnits false (4503599627370496 + T) (((1023 : Nat) : Int) - 1075) true (2 ^ 52) (-52) (min (((1023 : Nat) : Int) - 1075) (-52))).natAbs (min (((1023 : Nat) : Int) - 1075) (-52)) = _
        rw [m, u]
        unfold FP.Core.sumSign
        rw [if_neg (by omega), Int.natAbs_natCast, show decide ((T : Int) < 0) = false from decide_eq_false (by omega)]
      rw [e]
      rfl
    obtain ⟨c, q, hf, hv⟩ := FP.Core.natFit FP.Core.good_b64 FP.Core.wide_b64 false (n := T) (by show T ≤ 2 ^ 53; omega)
    have hf' := hf
    obtain ⟨f1, f2, f3, f4⟩ := hf
    have q0 : FP.Core.b64.qmin = -1074 := by decide
    have q1 : FP.Core.b64.qmax = 971 := by decide
    rw [q0] at f2 f4
    rw [q1] at f3
    have f1 : c < 9007199254740992 := f1
    have hq : -52 ≤ q ∧ q < 0 ∧ 4503599627370496 ≤ c := by
      rw [Nat.mul_one] at hv
      by_cases hq0 : 0 ≤ q
      · exfalso
        rw [show (0 - q).toNat = 0 by omega, Nat.pow_zero, Nat.mul_one] at hv
        have p := Nat.two_pow_pos (q - 0).toNat
        rcases f4 with g | g
        · omega
        · have g : 4503599627370496 ≤ c := g
          have := Nat.le_mul_of_pos_right c p
          omega
      · rw [show (q - 0).toNat = 0 by omega, Nat.pow_zero, Nat.mul_one] at hv
        by_cases hq5 : -52 ≤ q
        · refine ⟨hq5, by omega, ?_⟩
          rcases f4 with g | g
          · omega
          · exact g
        · exfalso
          have p : 2 ^ 53 ≤ 2 ^ (0 - q).toNat := Nat.pow_le_pow_right (by decide) (by omega)
          have := Nat.mul_le_mul h0 p
          omega
    have hfit : FP.Core.fits FP.Core.b64 (.fin false c (q - 52)) := ⟨f1, by rw [q0]; omega, by rw [q1]; omega, .inr hq.2.2⟩
    have va : FP.Core.val64 (FP.Core.dsub (nb 1023 T) FP.dconst1) = .fin false c (q - 52) := by
      rw [sb]
      refine FP.Core.roundRatio_exact FP.Core.good_b64 (by decide) hfit ?_
      rw [show ((-52 : Int) - (q - 52)).toNat = (0 - q).toNat by omega, show (q - 52 - (-52)).toNat = (q - 0).toNat by omega]
      exact hv
    have vb : FP.Core.val64 (FP.Core.dmul (FP.Core.dsub (nb 1023 T) FP.dconst1) 4841369599423283200) = .fin false c q := by
      rw [FP.Core.val64_dmul, va, c52_val]
      show FP.Core.roundRatio FP.Core.b64 false (c * 4503599627370496) 1 (q - 52 + 0) = _
      refine FP.Core.roundRatio_exact FP.Core.good_b64 (by decide) hf' ?_
      rw [show (q - 52 + 0 - q).toNat = 0 by omega, show (q - (q - 52 + 0)).toNat = 52 by omega]
      omega
    refine ⟨n64_of (by show FP.Core.val64 (FP.Core.dsub _ _) ≠ _; rw [va]; exact FP.Core.Datum.noConfusion), n64_of (by show FP.Core.val64 (FP.Core.dmul (FP.Core.dsub _ _) _) ≠ _; rw [vb]; exact FP.Core.Datum.noConfusion), ?_⟩
    have w : FP.Core.DInt (Int64.ofInt (T : Int)).toInt (FP.Core.dmul (FP.Core.dsub (nb 1023 T) FP.dconst1) 4841369599423283200) := by
      rw [Int64.toInt_ofInt_of_le (by omega) (by omega)]
      show FP.Core.Whole _ (FP.Core.val64 _)
      rw [vb]
      show FP.Core.signed false (c * 2 ^ q.toNat) = (T : Int) * ((2 ^ (-q).toNat : Nat) : Int)
      rw [show q.toNat = (q - 0).toNat by omega, show (-q).toNat = (0 - q).toNat by omega]
      rw [Nat.mul_one] at hv
      rw [← hv]
      show ((T * 2 ^ (0 - q).toNat : Nat) : Int) = _
      exact Int.natCast_mul _ _
    have := FP.Core.d2l_int w
    show (FP.Core.d2l _).toInt = _
    rw [this, Int64.toInt_ofInt_of_le (by omega) (by omega)]
theorem shl52 {e : Int32} {E T : Nat} {d : Int64} (he : e.toInt = (E : Int) - 1023) (h1 : 1 ≤ E) (hE : E ≤ 2046) (hT : T < 4503599627370496) (hd : d.toInt = (T : Int)) : ((e + 1023).toInt64 <<< ((52 : Int32).toInt64 &&& 63)) + d = (nb E T).toInt64 := by
  have e1 : (e + 1023).toInt = (E : Int) := by
    rw [Int32.toInt_add, he, show (1023 : Int32).toInt = 1023 by decide, Int.bmod_eq_of_le (by omega) (by omega)]
    omega
  have e2 : (e + 1023).toInt64 = Int64.ofNat E := by
    apply Int64.toInt_inj.mp
    rw [Int32.toInt_toInt64, e1, Int64.toInt_ofNat_of_lt (by omega)]
  have e3 : d = Int64.ofNat T := by
    apply Int64.toInt_inj.mp
    rw [hd, Int64.toInt_ofNat_of_lt (by omega)]
  rw [e2, e3, show ((52 : Int32).toInt64 &&& 63) = 52 by decide]
  apply Int64.toBitVec_inj.mp
  apply BitVec.eq_of_toNat_eq
  rw [Int64.toBitVec_add, Int64.toBitVec_shiftLeft, show ((52 : Int64).toBitVec.smod 64) = 52#64 by decide]
  show ((BitVec.ofNat 64 E <<< 52#64) + BitVec.ofNat 64 T).toNat = (BitVec.ofNat 64 (E * 4503599627370496 + T)).toNat
  rw [BitVec.toNat_add, BitVec.shiftLeft_eq', BitVec.toNat_shiftLeft, show (52#64).toNat = 52 by decide, BitVec.toNat_ofNat, BitVec.toNat_ofNat, BitVec.toNat_ofNat, Nat.shiftLeft_eq]
  rw [Nat.mod_eq_of_lt (show E < 2 ^ 64 by omega), Nat.mod_eq_of_lt (show T < 2 ^ 64 by omega), Nat.mod_eq_of_lt (show E * 2 ^ 52 < 2 ^ 64 by omega)]
