/-! FLOATING NUMBERS: the class own bits -/
theorem okX_cmp0 {x : UInt64} (hx : okX x) : 0 < Op.cmpValue (FP.dcmp x FP.dconst0) .l := by
  have h := xT_lt x
  rw [← nb_self x, cmp_gt (nb_ne hx.1 hx.2 h) zero_ne, zero_key, nb_key hx.2 h]
  have := hx.1
  omega
theorem cmp0_zero {x : UInt64} (hx : x = 0) : ¬ 0 < Op.cmpValue (FP.dcmp x FP.dconst0) .l := by
  subst hx
  decide +kernel
theorem nb_lt2 {E T : Nat} (h1 : 1 ≤ E) (hE : E ≤ 2046) (hT : T < 4503599627370496) : (Op.cmpValue (FP.dcmp (nb E T) 4611686018427387904) .l < 0) ↔ E < 1024 := by
  rw [cmp_lt (nb_ne h1 hE hT) two_ne, two_key, nb_key hE hT]
  omega
theorem nb_ge1 {E T : Nat} (h1 : 1 ≤ E) (hE : E ≤ 2046) (hT : T < 4503599627370496) : (0 ≤ Op.cmpValue (FP.dcmp (nb E T) FP.dconst1) .g) ↔ 1023 ≤ E := by
  rw [← Int32.not_lt, cmp_lt (nb_ne h1 hE hT) one_ne, one_key, nb_key hE hT]
  omega
/-- the loops' invariant: the exponent e counts from E0 down to E -/
def exI (E0 E : Nat) (e : Int32) : Prop := 1 ≤ E ∧ E ≤ 2046 ∧ 1 ≤ E0 ∧ E0 ≤ 2046 ∧ e.toInt = (E0 : Int) - (E : Int)
theorem exI_0 {x : UInt64} (hx : okX x) : exI (xE x) (xE x) 0 := ⟨hx.1, hx.2, hx.1, hx.2, by rw [show (0 : Int32).toInt = 0 by decide]; omega⟩
theorem exI_up {E0 E : Nat} {e : Int32} (h : exI E0 E e) (h2 : 1023 ≤ E) (h3 : E ≤ E0) : exI E0 (E - 1) (e + 1) := by
  obtain ⟨a, b, c, d, f⟩ := h
  refine ⟨by omega, by omega, c, d, ?_⟩
  rw [Int32.toInt_add, f, show (1 : Int32).toInt = 1 by decide, Int.bmod_eq_of_le (by omega) (by omega)]
  omega
theorem exI_dn {E0 E : Nat} {e : Int32} (h : exI E0 E e) (h2 : E ≤ 1022) : exI E0 (E + 1) (e + (-1)) := by
  obtain ⟨a, b, c, d, f⟩ := h
  refine ⟨by omega, by omega, c, d, ?_⟩
  rw [Int32.toInt_add, f, show (-1 : Int32).toInt = -1 by decide, Int.bmod_eq_of_le (by omega) (by omega)]
  omega
theorem exI_n1 {E0 E : Nat} {e : Int32} (h : exI E0 E e) (h2 : 1024 ≤ E) : ¬ 1023 ≤ e := fun g => by
  have g := Int32.le_iff_toInt_le.mp g
  obtain ⟨a, b, c, d, f⟩ := h
  rw [show (1023 : Int32).toInt = 1023 by decide] at g
  omega
theorem exI_n2 {E0 E : Nat} {e : Int32} (h : exI E0 E e) (h2 : E ≤ 1022) : ¬ e ≤ -1022 := fun g => by
  have g := Int32.le_iff_toInt_le.mp g
  obtain ⟨a, b, c, d, f⟩ := h
  rw [show (-1022 : Int32).toInt = -1022 by decide] at g
  omega
theorem exI_end {x : UInt64} {e : Int32} {E : Nat} (h : exI (xE x) E e) (h2 : E = 1023) : ((e + 1023).toInt64 <<< ((52 : Int32).toInt64 &&& 63)) + FP.d2l (FP.dmul (FP.dsub (nb E (xT x)) FP.dconst1) 4841369599423283200) = x.toInt64 := by
  subst h2
  obtain ⟨a, b, c, d, f⟩ := h
  rw [shl52 (E := xE x) (T := xT x) f c d (xT_lt x) (nb_frac (xT_lt x)).2.2, nb_self]
set_option maxRecDepth 100000 in
set_option maxHeartbeats 4000000 in
theorem m_X4_doubleBits (l : Launch) (G : GG) (x : UInt64) (hx : x = 0 ∨ okX x) : CtL l yX4_doubleBits cX4_doubleBits 7 (some .long) (RM 0) G [.double x] ([]) (x.toInt64) ([]) := by
  refine ct_L RX4 [(0, .double x)] rfl (by decide +kernel) (Nat.le_of_ble_eq_true rfl) rfl ?_
  intro p e s m args below meth c A C hr hk hnm
  generalize hQ : (MQ below (PostL G A (x.toInt64) ([])) args s (RM 0).cells (RM 0).slots A) = Q
  refine j_dload_n C dX4_doubleBits_0 0 rfl ?_
  refine j_dconst0 C dX4_doubleBits_1 ?_
  refine j_dcmp C dX4_doubleBits_2 ?_
  refine j_if_gt (tgt := 8) C dX4_doubleBits_3 (by decide) (fun c3 => ?_) (fun c3 => ?_)
  · refine j_dload_n C dX4_doubleBits_8 0 rfl ?_
    refine j_dstore_n C [(2, .double x), (0, .double x)] dX4_doubleBits_9 (by decide) rfl ?_
    refine j_iconst (v := 0) C dX4_doubleBits_10 (by decide) ?_
    refine j_istore C [(4, .int 0), (2, .double x), (0, .double x)] dX4_doubleBits_11 (by decide) rfl ?_
    have L1 : ∀ (n : Nat) (E : Nat) (ev : Int32), n = E - 1023 → E ≤ xE x ∨ E ≤ 1023 → exI (xE x) E ev → WJ p l e (RM 0) s m args below meth c G A 7 0 0 Q ([]) [(4, .int ev), (2, .double (nb E (xT x))), (0, .double x)] 13 [] := by
      intro n
      induction n with
      | zero =>
        intro E ev hn hE hI
        refine j_dload_n C dX4_doubleBits_13 1 rfl ?_
        refine j_ldc2d (v := 4611686018427387904) C kw_292 dX4_doubleBits_14 ?_
        refine j_dcmp C dX4_doubleBits_17 ?_
        refine j_if_lt (tgt := 41) C dX4_doubleBits_18 (by decide) (fun c18 => ?_) (fun h => absurd ((nb_lt2 hI.1 hI.2.1 (xT_lt x)).mpr (by omega)) h)
        have L2 : ∀ (n : Nat) (E : Nat) (ev : Int32), n = 1023 - E → E ≤ 1023 → exI (xE x) E ev → WJ p l e (RM 0) s m args below meth c G A 7 0 0 Q ([]) [(4, .int ev), (2, .double (nb E (xT x))), (0, .double x)] 41 [] := by
          intro n
          induction n with
          | zero =>
            intro E ev hn hE hI
            refine j_dload_n C dX4_doubleBits_41 1 rfl ?_
            refine j_dconst1 C dX4_doubleBits_42 ?_
            refine j_dcmp C dX4_doubleBits_43 ?_
            refine j_if_ge (tgt := 67) C dX4_doubleBits_44 (by decide) (fun c44 => ?_) (fun h => absurd ((nb_ge1 hI.1 hI.2.1 (xT_lt x)).mpr (by omega)) h)
            refine j_dload_n C dX4_doubleBits_67 1 rfl ?_
            refine j_dconst1 C dX4_doubleBits_68 ?_
            refine j_dsub C dX4_doubleBits_69 (by rw [show E = 1023 by omega]; exact (nb_frac (xT_lt x)).1) ?_
            refine j_ldc2d (v := 4841369599423283200) C kw_293 dX4_doubleBits_70 ?_
            refine j_dmul C dX4_doubleBits_73 (by rw [show E = 1023 by omega]; exact (nb_frac (xT_lt x)).2.1) ?_
            refine j_d2l C dX4_doubleBits_74 ?_
            refine j_lstore C [(5, .long (FP.d2l (FP.dmul (FP.dsub (nb E (xT x)) FP.dconst1) 4841369599423283200))), (4, .int ev), (2, .double (nb E (xT x))), (0, .double x)] dX4_doubleBits_75 (by decide) rfl ?_
            refine j_iload C dX4_doubleBits_77 1 rfl ?_
            refine j_sipush (v := 1023) C dX4_doubleBits_79 (by decide) ?_
            refine j_iadd C dX4_doubleBits_82 rfl ?_
            refine j_i2l C dX4_doubleBits_83 rfl ?_
            refine j_bipush (v := 52) C dX4_doubleBits_84 (by decide) ?_
            refine j_lshl C dX4_doubleBits_86 ?_
            refine j_lload C dX4_doubleBits_87 0 rfl ?_
            refine j_ladd C dX4_doubleBits_89 rfl ?_
            subst hQ; exact j_lret C hr hk (show (((ev + 1023).toInt64) <<< ((52 : Int32).toInt64 &&& 63)) + (FP.d2l (FP.dmul (FP.dsub (nb E (xT x)) FP.dconst1) 4841369599423283200)) = x.toInt64 from (exI_end hI (by omega))) rfl dX4_doubleBits_90
          | succ n ih =>
            intro E ev hn hE hI
            refine j_dload_n C dX4_doubleBits_41 1 rfl ?_
            refine j_dconst1 C dX4_doubleBits_42 ?_
            refine j_dcmp C dX4_doubleBits_43 ?_
            refine j_if_ge (tgt := 67) C dX4_doubleBits_44 (by decide) (fun h => absurd h (mt (nb_ge1 hI.1 hI.2.1 (xT_lt x)).mp (by omega))) (fun c44 => ?_)
            refine j_iload C dX4_doubleBits_47 0 rfl ?_
            refine j_sipush (v := (-1022)) C dX4_doubleBits_49 (by decide) ?_
            refine j_icmp_le (tgt := 67) C dX4_doubleBits_52 (by decide) (fun h => absurd h (exI_n2 hI (by omega))) (fun c52 => ?_)
            refine j_dload_n C dX4_doubleBits_55 1 rfl ?_
            refine j_ldc2d (v := 4611686018427387904) C kw_292 dX4_doubleBits_56 ?_
            refine j_dmul C dX4_doubleBits_59 (by rw [nb_dbl hI.1 (by omega) (xT_lt x)]; exact nb_n64 (by omega) (by omega) (xT_lt x)) ?_
            refine j_dstore_n C [(2, .double (FP.dmul (nb E (xT x)) 4611686018427387904)), (4, .int ev), (0, .double x)] dX4_doubleBits_60 (by decide) rfl ?_
            refine j_iinc (v := ev + (-1)) C [(4, .int (ev + (-1))), (2, .double (FP.dmul (nb E (xT x)) 4611686018427387904)), (0, .double x)] dX4_doubleBits_61 (k := 1) rfl rfl (by decide) rfl ?_
            refine j_goto (tgt := 41) C dX4_doubleBits_64 (by decide) ?_
            exact j_eq rfl (by rw [show nb (E + 1) (xT x) = FP.dmul (nb E (xT x)) 4611686018427387904 from (nb_dbl hI.1 (by omega) (xT_lt x)).symm]) rfl (ih (E + 1) (ev + (-1)) (by omega) (by omega) (exI_dn hI (by omega)))
        exact j_eq rfl rfl rfl (L2 (1023 - E) E ev rfl (by omega) hI)
      | succ n ih =>
        intro E ev hn hE hI
        refine j_dload_n C dX4_doubleBits_13 1 rfl ?_
        refine j_ldc2d (v := 4611686018427387904) C kw_292 dX4_doubleBits_14 ?_
        refine j_dcmp C dX4_doubleBits_17 ?_
        refine j_if_lt (tgt := 41) C dX4_doubleBits_18 (by decide) (fun h => absurd h (mt (nb_lt2 hI.1 hI.2.1 (xT_lt x)).mp (by omega))) (fun c18 => ?_)
        refine j_iload C dX4_doubleBits_21 0 rfl ?_
        refine j_sipush (v := 1023) C dX4_doubleBits_23 (by decide) ?_
        refine j_icmp_ge (tgt := 41) C dX4_doubleBits_26 (by decide) (fun h => absurd h (exI_n1 hI (by omega))) (fun c26 => ?_)
        refine j_dload_n C dX4_doubleBits_29 1 rfl ?_
        refine j_ldc2d (v := 4611686018427387904) C kw_292 dX4_doubleBits_30 ?_
        refine j_ddiv C dX4_doubleBits_33 (by rw [show E = (E - 1) + 1 by omega, nb_half (by omega) (by have := hI.2.1; omega) (xT_lt x)]; exact nb_n64 (by omega) (by have := hI.2.1; omega) (xT_lt x)) ?_
        refine j_dstore_n C [(2, .double (FP.ddiv (nb E (xT x)) 4611686018427387904)), (4, .int ev), (0, .double x)] dX4_doubleBits_34 (by decide) rfl ?_
        refine j_iinc (v := ev + 1) C [(4, .int (ev + 1)), (2, .double (FP.ddiv (nb E (xT x)) 4611686018427387904)), (0, .double x)] dX4_doubleBits_35 (k := 1) rfl rfl (by decide) rfl ?_
        refine j_goto (tgt := 13) C dX4_doubleBits_38 (by decide) ?_
        exact j_eq rfl (by rw [show nb (E - 1) (xT x) = FP.ddiv (nb E (xT x)) 4611686018427387904 from (by have h := nb_half (E := E - 1) (T := xT x) (by omega) (by have := hI.2.1; omega) (xT_lt x); rw [show E - 1 + 1 = E by omega] at h; exact h.symm)]) rfl (ih (E - 1) (ev + 1) (by omega) (by omega) (exI_up hI (by omega) (by omega)))
    exact j_eq rfl (by rw [show nb (xE x) (xT x) = x from (nb_self x)]) rfl (L1 (xE x - 1023) (xE x) 0 rfl (.inl (Nat.le_refl _)) (exI_0 (hx.resolve_left (fun g => absurd c3 (cmp0_zero g)))))
  · refine j_lconst (v := 0) C dX4_doubleBits_6 (by decide) ?_
    subst hQ; exact j_lret C hr hk (show 0 = x.toInt64 from (by rcases hx with rfl | hx; rfl; exact absurd (okX_cmp0 hx) c3)) rfl dX4_doubleBits_7
