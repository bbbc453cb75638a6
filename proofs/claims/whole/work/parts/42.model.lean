/-! THE MODEL: signs are put -/
/-- whether the signs from k on are none: 1, else 0 -/
noncomputable def zerM (x : Int64) : Nat → Nat → Int32
  | 0, _ => 1
  | n + 1, k => if f_X5_byteOf_r x (nI k) = 0 then zerM x n (k + 1) else 0
noncomputable def finM (x : Int64) (i : Nat) : Int32 := if zerM x (8 - i) i = 0 then -2 else if nI i = 0 then -2 else nI i
noncomputable def tolM (x : Int64) : Nat → Nat → Int32
  | 0, i => finM x i
  | n + 1, i => if f_X5_byteOf_r x (nI i) = 0 then finM x i else if f_X5_in_r (f_X5_byteOf_r x (nI i)).toInt64 33 126 = 0 then -2 else tolM x n (i + 1)
noncomputable def f_X5_toldBy_r (x : Int64) : Int32 := tolM x 8 0
theorem finM_or (x : Int64) {i : Nat} (hi : i ≤ 8) : finM x i = -2 ∨ ∃ j : Nat, 0 < j ∧ j ≤ 8 ∧ finM x i = nI j := by
  unfold finM
  split
  · exact .inl rfl
  · split
    · exact .inl rfl
    · rename_i h
      refine .inr ⟨i, ?_, hi, rfl⟩
      rcases Nat.eq_zero_or_pos i with g | g
      · subst g
        exact absurd nI_0 h
      · exact g
theorem tolM_or (x : Int64) : ∀ (n i : Nat), i + n ≤ 8 → (tolM x n i = -2 ∨ ∃ j : Nat, 0 < j ∧ j ≤ 8 ∧ tolM x n i = nI j)
  | 0, i, h => finM_or x (by omega)
  | n + 1, i, h => by
    rw [tolM]
    split
    · exact finM_or x (by omega)
    · split
      · exact .inl rfl
      · exact tolM_or x n (i + 1) (by omega)
theorem told_or {x : Int64} (h : ¬ f_X5_toldBy_r x < 0) : ∃ j : Nat, 0 < j ∧ j ≤ 8 ∧ f_X5_toldBy_r x = nI j := by
  rcases tolM_or x 8 0 (by omega) with g | g
  · exact absurd (show f_X5_toldBy_r x < 0 by rw [show f_X5_toldBy_r x = -2 from g]; decide) h
  · exact g
noncomputable def f_X5_toldBy_x3 (x : Int64) (i : Nat) (j : Nat) : Int32 := (if nI i = 0 then (-2) else nI i)
noncomputable def f_X5_toldBy_x7 (x : Int64) (i : Nat) (n : Nat) (j : Nat) : Int32 := (if nI i = 0 then (-2) else nI i)
set_option maxRecDepth 100000 in
set_option maxHeartbeats 4000000 in
theorem m_X5_toldBy (l : Launch) (G : GG) (x : Int64)  : CtI l yX5_toldBy cX5_toldBy 4 (some .int) (RM 1) G [.long x] ([]) (f_X5_toldBy_r x) ([]) := by
  refine ct_I RX5 [(0, .long x)] rfl (by decide +kernel) (Nat.le_of_ble_eq_true rfl) rfl ?_
  intro p e s m args below meth c A C hr hk hnm
  generalize hQ : (MQ below (PostI G A (f_X5_toldBy_r x) ([])) args s (RM 1).cells (RM 1).slots A) = Q
  refine j_iconst (v := 0) C dX5_toldBy_0 (by decide) ?_
  refine j_istore_n C [(2, .int 0), (0, .long x)] dX5_toldBy_1 (by decide) rfl ?_
  have L1 : ∀ (n : Nat) (i : Nat), i + n = 8 → tolM x n i = f_X5_toldBy_r x → WJ p l e (RM 1) s m args below meth c G A 4 0 0 Q ([]) [(2, .int (nI i)), (0, .long x)] 2 [] := by
    intro n
    induction n with
    | zero =>
      intro i hi hx
      refine j_iload_n C dX5_toldBy_2 0 rfl ?_
      refine j_bipush (v := 8) C dX5_toldBy_3 (by decide) ?_
      refine j_icmp_ge (tgt := 43) C dX5_toldBy_5 (by decide) (fun c5 => ?_) (fun h => absurd (by rw [show i = 8 by omega]; decide) h)
      refine j_iload_n C dX5_toldBy_43 0 rfl ?_
      refine j_istore_n C [(3, .int (nI i)), (2, .int (nI i)), (0, .long x)] dX5_toldBy_44 (by decide) rfl ?_
      have L2 : ∀ (n : Nat) (j : Nat), j + n = 8 → zerM x n j = zerM x (8 - i) i → WJ p l e (RM 1) s m args below meth c G A 4 0 0 Q ([]) [(3, .int (nI j)), (2, .int (nI i)), (0, .long x)] 45 [] := by
        intro n
        induction n with
        | zero =>
          intro j hj hy
          refine j_iload_n C dX5_toldBy_45 0 rfl ?_
          refine j_bipush (v := 8) C dX5_toldBy_46 (by decide) ?_
          refine j_icmp_ge (tgt := 68) C dX5_toldBy_48 (by decide) (fun c48 => ?_) (fun h => absurd (by rw [show j = 8 by omega]; decide) h)
          refine j_iload_n C dX5_toldBy_68 1 rfl ?_
          have K78 : WJ p l e (RM 1) s m args below meth c G A 4 0 0 Q ([]) [(3, .int (nI j)), (2, .int (nI i)), (0, .long x)] 78 [.int (f_X5_toldBy_x3 x i j)] := by
            generalize hw0 : f_X5_toldBy_x3 x i j = w0
            subst hQ; subst hw0; exact j_iret C hr hk (show (f_X5_toldBy_x3 x i j) = (f_X5_toldBy_r x) from (by rw [← hx, tolM, finM, ← hy, zerM, if_neg (show ¬ (1 : Int32) = 0 by decide)] <;> rfl)) rfl dX5_toldBy_78
          refine j_if_ne (tgt := 77) C dX5_toldBy_69 (by decide) (fun c69 => ?_) (fun c69 => ?_)
          · refine j_iload_n C dX5_toldBy_77 1 rfl ?_
            exact j_eq rfl rfl (by rw [show f_X5_toldBy_x3 x i j = nI i from (if_neg c69)]) K78
          · refine j_bipush (v := (-2)) C dX5_toldBy_72 (by decide) ?_
            refine j_goto (tgt := 78) C dX5_toldBy_74 (by decide) ?_
            exact j_eq rfl rfl (by rw [show f_X5_toldBy_x3 x i j = (-2) from (if_pos c69)]) K78
        | succ n ih =>
          intro j hj hy
          refine j_iload_n C dX5_toldBy_45 0 rfl ?_
          refine j_bipush (v := 8) C dX5_toldBy_46 (by decide) ?_
          refine j_icmp_ge (tgt := 68) C dX5_toldBy_48 (by decide) (fun h => absurd h (nI_ge (b := 8) (by omega) (by decide))) (fun c48 => ?_)
          refine j_lload_n C dX5_toldBy_51 2 rfl ?_
          refine j_iload_n C dX5_toldBy_52 0 rfl ?_
          refine j_pureS_i (r := f_X5_byteOf_r x (nI j)) C (m_X5_byteOf l G x (nI j)) 2 (gS kw_717 kw_718 kw_7 kw_719) (by decide +kernel) ⟨(Nat.le_of_ble_eq_true rfl), (Nat.le_of_ble_eq_true rfl)⟩ rfl rfl (Nat.le_of_ble_eq_true rfl) dX5_toldBy_53 ⟨(Nat.le_of_ble_eq_true rfl), (Nat.le_of_ble_eq_true rfl)⟩ ?_
          refine j_if_eq (tgt := 62) C dX5_toldBy_56 (by decide) (fun c56 => ?_) (fun c56 => ?_)
          · refine j_iinc (v := nI (j + 1)) C [(3, .int (nI (j + 1))), (2, .int (nI i)), (0, .long x)] dX5_toldBy_62 (k := 0) rfl (nI_1 j) (by decide) rfl ?_
            refine j_goto (tgt := 45) C dX5_toldBy_65 (by decide) ?_
            exact j_eq rfl rfl rfl (ih (j + 1) (by omega) ((if_pos c56).symm.trans hy))
          · refine j_bipush (v := (-2)) C dX5_toldBy_59 (by decide) ?_
            subst hQ; exact j_iret C hr hk (show (-2) = (f_X5_toldBy_r x) from (by rw [← hx, tolM, finM, ← hy, zerM, if_neg c56, if_pos rfl])) rfl dX5_toldBy_61
      exact j_eq rfl rfl rfl (L2 (8 - i) i (by omega) rfl)
    | succ n ih =>
      intro i hi hx
      refine j_iload_n C dX5_toldBy_2 0 rfl ?_
      refine j_bipush (v := 8) C dX5_toldBy_3 (by decide) ?_
      refine j_icmp_ge (tgt := 43) C dX5_toldBy_5 (by decide) (fun h => absurd h (nI_ge (b := 8) (by omega) (by decide))) (fun c5 => ?_)
      refine j_lload_n C dX5_toldBy_8 1 rfl ?_
      refine j_iload_n C dX5_toldBy_9 0 rfl ?_
      refine j_pureS_i (r := f_X5_byteOf_r x (nI i)) C (m_X5_byteOf l G x (nI i)) 2 (gS kw_717 kw_718 kw_7 kw_719) (by decide +kernel) ⟨(Nat.le_of_ble_eq_true rfl), (Nat.le_of_ble_eq_true rfl)⟩ rfl rfl (Nat.le_of_ble_eq_true rfl) dX5_toldBy_10 ⟨(Nat.le_of_ble_eq_true rfl), (Nat.le_of_ble_eq_true rfl)⟩ ?_
      refine j_if_eq (tgt := 43) C dX5_toldBy_13 (by decide) (fun c13 => ?_) (fun c13 => ?_)
      · refine j_iload_n C dX5_toldBy_43 0 rfl ?_
        refine j_istore_n C [(3, .int (nI i)), (2, .int (nI i)), (0, .long x)] dX5_toldBy_44 (by decide) rfl ?_
        have L6 : ∀ (n : Nat) (j : Nat), j + n = 8 → zerM x n j = zerM x (8 - i) i → WJ p l e (RM 1) s m args below meth c G A 4 0 0 Q ([]) [(3, .int (nI j)), (2, .int (nI i)), (0, .long x)] 45 [] := by
          intro n
          induction n with
          | zero =>
            intro j hj hy
            refine j_iload_n C dX5_toldBy_45 0 rfl ?_
            refine j_bipush (v := 8) C dX5_toldBy_46 (by decide) ?_
            refine j_icmp_ge (tgt := 68) C dX5_toldBy_48 (by decide) (fun c48 => ?_) (fun h => absurd (by rw [show j = 8 by omega]; decide) h)
            refine j_iload_n C dX5_toldBy_68 1 rfl ?_
            have K78_1 : WJ p l e (RM 1) s m args below meth c G A 4 0 0 Q ([]) [(3, .int (nI j)), (2, .int (nI i)), (0, .long x)] 78 [.int (f_X5_toldBy_x7 x i n j)] := by
              generalize hw1 : f_X5_toldBy_x7 x i n j = w1
              subst hQ; subst hw1; exact j_iret C hr hk (show (f_X5_toldBy_x7 x i n j) = (f_X5_toldBy_r x) from (by rw [← hx, tolM, if_pos c13, finM, ← hy, zerM, if_neg (show ¬ (1 : Int32) = 0 by decide)] <;> rfl)) rfl dX5_toldBy_78
            refine j_if_ne (tgt := 77) C dX5_toldBy_69 (by decide) (fun c69 => ?_) (fun c69 => ?_)
            · refine j_iload_n C dX5_toldBy_77 1 rfl ?_
              exact j_eq rfl rfl (by rw [show f_X5_toldBy_x7 x i n j = nI i from (if_neg c69)]) K78_1
            · refine j_bipush (v := (-2)) C dX5_toldBy_72 (by decide) ?_
              refine j_goto (tgt := 78) C dX5_toldBy_74 (by decide) ?_
              exact j_eq rfl rfl (by rw [show f_X5_toldBy_x7 x i n j = (-2) from (if_pos c69)]) K78_1
          | succ n ih =>
            intro j hj hy
            refine j_iload_n C dX5_toldBy_45 0 rfl ?_
            refine j_bipush (v := 8) C dX5_toldBy_46 (by decide) ?_
            refine j_icmp_ge (tgt := 68) C dX5_toldBy_48 (by decide) (fun h => absurd h (nI_ge (b := 8) (by omega) (by decide))) (fun c48 => ?_)
            refine j_lload_n C dX5_toldBy_51 2 rfl ?_
            refine j_iload_n C dX5_toldBy_52 0 rfl ?_
            refine j_pureS_i (r := f_X5_byteOf_r x (nI j)) C (m_X5_byteOf l G x (nI j)) 2 (gS kw_717 kw_718 kw_7 kw_719) (by decide +kernel) ⟨(Nat.le_of_ble_eq_true rfl), (Nat.le_of_ble_eq_true rfl)⟩ rfl rfl (Nat.le_of_ble_eq_true rfl) dX5_toldBy_53 ⟨(Nat.le_of_ble_eq_true rfl), (Nat.le_of_ble_eq_true rfl)⟩ ?_
            refine j_if_eq (tgt := 62) C dX5_toldBy_56 (by decide) (fun c56 => ?_) (fun c56 => ?_)
            · refine j_iinc (v := nI (j + 1)) C [(3, .int (nI (j + 1))), (2, .int (nI i)), (0, .long x)] dX5_toldBy_62 (k := 0) rfl (nI_1 j) (by decide) rfl ?_
              refine j_goto (tgt := 45) C dX5_toldBy_65 (by decide) ?_
              exact j_eq rfl rfl rfl (ih (j + 1) (by omega) ((if_pos c56).symm.trans hy))
            · refine j_bipush (v := (-2)) C dX5_toldBy_59 (by decide) ?_
              subst hQ; exact j_iret C hr hk (show (-2) = (f_X5_toldBy_r x) from (by rw [← hx, tolM, if_pos c13, finM, ← hy, zerM, if_neg c56, if_pos rfl])) rfl dX5_toldBy_61
        exact j_eq rfl rfl rfl (L6 (8 - i) i (by omega) rfl)
      · refine j_lload_n C dX5_toldBy_16 1 rfl ?_
        refine j_iload_n C dX5_toldBy_17 0 rfl ?_
        refine j_pureS_i (r := f_X5_byteOf_r x (nI i)) C (m_X5_byteOf l G x (nI i)) 2 (gS kw_717 kw_718 kw_7 kw_719) (by decide +kernel) ⟨(Nat.le_of_ble_eq_true rfl), (Nat.le_of_ble_eq_true rfl)⟩ rfl rfl (Nat.le_of_ble_eq_true rfl) dX5_toldBy_18 ⟨(Nat.le_of_ble_eq_true rfl), (Nat.le_of_ble_eq_true rfl)⟩ ?_
        refine j_i2l C dX5_toldBy_21 rfl ?_
        refine j_ldc2 (v := 33) C kw_721 dX5_toldBy_22 ?_
        refine j_ldc2 (v := 126) C kw_722 dX5_toldBy_25 ?_
        refine j_pureS_i (r := f_X5_in_r ((f_X5_byteOf_r x (nI i)).toInt64) 33 126) C (m_X5_in l G ((f_X5_byteOf_r x (nI i)).toInt64) 33 126) 3 (gS kw_523 kw_524 kw_7 kw_525) (by decide +kernel) ⟨(Nat.le_of_ble_eq_true rfl), (Nat.le_of_ble_eq_true rfl)⟩ rfl rfl (Nat.le_of_ble_eq_true rfl) dX5_toldBy_28 ⟨(Nat.le_of_ble_eq_true rfl), (Nat.le_of_ble_eq_true rfl)⟩ ?_
        refine j_if_ne (tgt := 37) C dX5_toldBy_31 (by decide) (fun c31 => ?_) (fun c31 => ?_)
        · refine j_iinc (v := nI (i + 1)) C [(2, .int (nI (i + 1))), (0, .long x)] dX5_toldBy_37 (k := 0) rfl (nI_1 i) (by decide) rfl ?_
          refine j_goto (tgt := 2) C dX5_toldBy_40 (by decide) ?_
          exact j_eq rfl rfl rfl (ih (i + 1) (by omega) (((if_neg c13).trans (if_neg c31)).symm.trans hx))
        · refine j_bipush (v := (-2)) C dX5_toldBy_34 (by decide) ?_
          subst hQ; exact j_iret C hr hk (show (-2) = (f_X5_toldBy_r x) from (by rw [← hx, tolM, if_neg c13, if_pos c31])) rfl dX5_toldBy_36
  exact j_eq rfl rfl rfl (L1 8 0 (by omega) rfl)
/-- signs are laid, from the sign n - 1 of the number down -/
noncomputable def runM (ch : Int64) : Nat → (Nat → Int32) → (Nat → Int32) → (Nat → Int32) × (Nat → Int32)
  | 0, v, o => (v, o)
  | n + 1, v, o => runM ch n (upd v 7 (v 7 + 1)) (upd o (v 7).toNatClampNeg (f_X5_byteOf_r ch (nI n)))
def ruI (n : Nat) (v : Nat → Int32) : Prop := 0 ≤ (v 7).toInt ∧ (v 7).toInt + (n : Int) ≤ 80
theorem ruI_v {n : Nat} {v : Nat → Int32} (h : ruI (n + 1) v) : vp_in (v 7) 80 := by
  have h1 := h.1
  have h2 := h.2
  exact vp_in_iff.mpr ⟨h1, by omega⟩
theorem ruI_s {n : Nat} {v : Nat → Int32} (h : ruI (n + 1) v) : ruI n (upd v 7 (v 7 + 1)) := by
  have h1 := h.1
  have h2 := h.2
  have i := inc80 h1 (by omega)
  refine ⟨?_, ?_⟩
  · show 0 ≤ (v 7 + 1).toInt
    omega
  · show (v 7 + 1).toInt + (n : Int) ≤ 80
    omega
theorem ruI_1 {v : Nat → Int32} {x : Int64} (h0 : 0 ≤ (v 7).toInt) (h1 : (v 7).toInt ≤ 80) (c6 : 0 ≤ f_X5_toldBy_r x) (c19 : v 7 + f_X5_toldBy_r x ≤ 80) : ruI (f_X5_toldBy_r x).toNatClampNeg v := by
  obtain ⟨j, h2, h3, e⟩ := told_or (Int32.not_lt.mpr c6)
  rw [e] at c19 ⊢
  rw [nI_clamp (by omega)]
  have g := Int32.le_iff_toInt_le.mp c19
  rw [Int32.toInt_add, nI_toInt (by omega), show (80 : Int32).toInt = 80 by decide, Int.bmod_eq_of_le (by omega) (by omega)] at g
  exact ⟨h0, g⟩
theorem told_8 {x : Int64} (c6 : 0 ≤ f_X5_toldBy_r x) : (f_X5_toldBy_r x).toNatClampNeg ≤ 8 ∧ nI (f_X5_toldBy_r x).toNatClampNeg = f_X5_toldBy_r x := by
  obtain ⟨j, h2, h3, e⟩ := told_or (Int32.not_lt.mpr c6)
  rw [e, nI_clamp (by omega)]
  exact ⟨h3, rfl⟩
noncomputable def f_X5_put_r (v o : Nat → Int32) (ch : Int64) : Int32 := if 0 ≤ f_X5_toldBy_r ch then (if v 7 + f_X5_toldBy_r ch ≤ 80 then (runM ch (f_X5_toldBy_r ch).toNatClampNeg v o).1 7 else -4) else f_X5_toldBy_r ch
noncomputable def f_X5_put_v (v o : Nat → Int32) (ch : Int64) : Nat → Int32 := if 0 ≤ f_X5_toldBy_r ch then (if v 7 + f_X5_toldBy_r ch ≤ 80 then (runM ch (f_X5_toldBy_r ch).toNatClampNeg v o).1 else v) else v
noncomputable def f_X5_put_o (v o : Nat → Int32) (ch : Int64) : Nat → Int32 := if 0 ≤ f_X5_toldBy_r ch then (if v 7 + f_X5_toldBy_r ch ≤ 80 then (runM ch (f_X5_toldBy_r ch).toNatClampNeg v o).2 else o) else o
set_option maxRecDepth 100000 in
set_option maxHeartbeats 4000000 in
theorem m_X5_put (l : Launch) (G : GG) (a nw th ps sl hd pd od : Nat) (v : Nat → Int32) (o : Nat → Int32) (ch : Int64) (h0 : 0 ≤ (v 7).toInt) (h1 : (v 7).toInt ≤ 80) : CtI l yX5_put cX5_put 5 (some .int) (RM 2) G [.ref a, .long ch] ([oM a nw th ps sl hd pd od v, aI G pd 80 o]) (f_X5_put_r v o ch) ([oM a nw th ps sl hd pd od (f_X5_put_v v o ch), aI G pd 80 (f_X5_put_o v o ch)]) := by
  refine ct_I RX5 [(0, .ref a), (1, .long ch)] rfl (by decide +kernel) (Nat.le_of_ble_eq_true rfl) rfl ?_
  intro p e s m args below meth c A C hr hk hnm
  generalize hQ : (MQ below (PostI G A (f_X5_put_r v o ch) ([oM a nw th ps sl hd pd od (f_X5_put_v v o ch), aI G pd 80 (f_X5_put_o v o ch)])) args s (RM 2).cells (RM 2).slots A) = Q
  refine j_lload_n C dX5_put_0 1 rfl ?_
  refine j_pureS_i (r := f_X5_toldBy_r ch) C (m_X5_toldBy l G ch) 1 (gS kw_714 kw_715 kw_7 kw_716) (by decide +kernel) ⟨(Nat.le_of_ble_eq_true rfl), (Nat.le_of_ble_eq_true rfl)⟩ rfl rfl (Nat.le_of_ble_eq_true rfl) dX5_put_1 ⟨(Nat.le_of_ble_eq_true rfl), (Nat.le_of_ble_eq_true rfl)⟩ ?_
  refine j_istore_n C [(3, .int (f_X5_toldBy_r ch)), (0, .ref a), (1, .long ch)] dX5_put_4 (by decide) rfl ?_
  refine j_iload_n C dX5_put_5 0 rfl ?_
  refine j_if_ge (tgt := 11) C dX5_put_6 (by decide) (fun c6 => ?_) (fun c6 => ?_)
  · refine j_aload_n C dX5_put_11 1 rfl ?_
    refine j_get C kin5 rfl 0 rfl 7 (by decide) kw_496 rfl (v := .int (v 7)) rfl dX5_put_12 ?_
    refine j_iload_n C dX5_put_15 0 rfl ?_
    refine j_iadd C dX5_put_16 rfl ?_
    refine j_bipush (v := 80) C dX5_put_17 (by decide) ?_
    refine j_icmp_le (tgt := 25) C dX5_put_19 (by decide) (fun c19 => ?_) (fun c19 => ?_)
    · refine j_iload_n C dX5_put_25 0 rfl ?_
      refine j_iconst (v := 1) C dX5_put_26 (by decide) ?_
      refine j_isub C dX5_put_27 rfl ?_
      refine j_istore C [(4, .int ((f_X5_toldBy_r ch) - 1)), (3, .int (f_X5_toldBy_r ch)), (0, .ref a), (1, .long ch)] dX5_put_28 (by decide) rfl ?_
      have L2 : ∀ (n : Nat) (vv : Nat → Int32) (oo : Nat → Int32), n ≤ 8 → ruI n vv → runM ch n vv oo = runM ch (f_X5_toldBy_r ch).toNatClampNeg v o → WJ p l e (RM 2) s m args below meth c G A 5 0 0 Q ([oM a nw th ps sl hd pd od vv, aI G pd 80 oo]) [(4, .int (nI n + (-1))), (3, .int (f_X5_toldBy_r ch)), (0, .ref a), (1, .long ch)] 30 [] := by
        intro n
        induction n with
        | zero =>
          intro vv oo hn hR hx
          refine j_eq rfl (by rw [show nI 0 + (-1) = (-1) from (by decide)]) rfl ?_
          refine j_iload C dX5_put_30 0 rfl ?_
          refine j_if_lt (tgt := 66) C dX5_put_32 (by decide) (fun _ => ?_) (fun h => absurd h (by decide))
          refine j_aload_n C dX5_put_66 2 rfl ?_
          refine j_get C kin5 rfl 0 rfl 7 (by decide) kw_496 rfl (v := .int (vv 7)) rfl dX5_put_67 ?_
          subst hQ; exact j_iret C hr hk (show vv 7 = (f_X5_put_r v o ch) from (((if_pos c6).trans (if_pos c19)).trans (congrArg (fun y => y.1 7) hx.symm)).symm) (by rw [show (f_X5_put_v v o ch) = vv from (((if_pos c6).trans (if_pos c19)).trans (congrArg Prod.fst hx.symm)), show (f_X5_put_o v o ch) = oo from (((if_pos c6).trans (if_pos c19)).trans (congrArg Prod.snd hx.symm))]) dX5_put_70
        | succ n ih =>
          intro vv oo hn hR hx
          refine j_eq rfl (by rw [show nI (n + 1) + (-1) = nI n from (pk_m1 n)]) rfl ?_
          refine j_iload C dX5_put_30 0 rfl ?_
          refine j_if_lt (tgt := 66) C dX5_put_32 (by decide) (fun h => absurd h (nI_pos (by omega))) (fun c32 => ?_)
          refine j_aload_n C dX5_put_35 2 rfl ?_
          refine j_get C kin5 rfl 0 rfl 6 (by decide) kw_495 rfl (v := .ref pd) rfl dX5_put_36 ?_
          refine j_aload_n C dX5_put_39 2 rfl ?_
          refine j_get C kin5 rfl 0 rfl 7 (by decide) kw_496 rfl (v := .int (vv 7)) rfl dX5_put_40 ?_
          refine j_lload_n C dX5_put_43 3 rfl ?_
          refine j_iload C dX5_put_44 0 rfl ?_
          refine j_pureS_i (r := f_X5_byteOf_r ch (nI n)) C (m_X5_byteOf l G ch (nI n)) 2 (gS kw_717 kw_718 kw_7 kw_719) (by decide +kernel) ⟨(Nat.le_of_ble_eq_true rfl), (Nat.le_of_ble_eq_true rfl)⟩ rfl rfl (Nat.le_of_ble_eq_true rfl) dX5_put_46 ⟨(Nat.le_of_ble_eq_true rfl), (Nat.le_of_ble_eq_true rfl)⟩ ?_
          generalize hw0 : f_X5_byteOf_r ch (nI n) = w0
          refine j_iast C 1 rfl (ruI_v hR) ([oM a nw th ps sl hd pd od vv, aI G pd 80 (upd oo (vv 7).toNatClampNeg w0)]) rfl dX5_put_49 ?_
          refine j_aload_n C dX5_put_50 2 rfl ?_
          refine j_dup C dX5_put_51 rfl ?_
          refine j_get C kin5 rfl 0 rfl 7 (by decide) kw_496 rfl (v := .int (vv 7)) rfl dX5_put_52 ?_
          refine j_iconst (v := 1) C dX5_put_55 (by decide) ?_
          refine j_iadd C dX5_put_56 rfl ?_
          generalize hw1 : (vv 7) + 1 = w1
          refine j_put C kin5 rfl 0 rfl 7 (by decide) kw_496 rfl tyX5 tyX5_ok nmX5 rfl rfl rfl (Nat.le_of_ble_eq_true rfl) ([oM a nw th ps sl hd pd od (upd vv 7 w1), aI G pd 80 (upd oo (vv 7).toNatClampNeg w0)]) rfl dX5_put_57 ?_
          refine j_iinc (v := (nI n) + (-1)) C [(4, .int ((nI n) + (-1))), (3, .int (f_X5_toldBy_r ch)), (0, .ref a), (1, .long ch)] dX5_put_60 (k := 0) rfl rfl (by decide) rfl ?_
          refine j_goto (tgt := 30) C dX5_put_63 (by decide) ?_
          subst hw0 hw1; exact j_eq rfl (by rw [show nI n + (-1) = (nI n) + (-1) from rfl]) rfl (ih (upd vv 7 ((vv 7) + 1)) (upd oo (vv 7).toNatClampNeg (f_X5_byteOf_r ch (nI n))) (by omega) (ruI_s hR) hx)
      exact j_eq rfl (by rw [show nI (f_X5_toldBy_r ch).toNatClampNeg + (-1) = (f_X5_toldBy_r ch) - 1 from (by rw [(told_8 c6).2, Int32.sub_eq_add_neg])]) rfl (L2 ((f_X5_toldBy_r ch).toNatClampNeg) v o (told_8 c6).1 (ruI_1 h0 h1 c6 c19) rfl)
    · refine j_bipush (v := (-4)) C dX5_put_22 (by decide) ?_
      subst hQ; exact j_iret C hr hk (show (-4) = (f_X5_put_r v o ch) from (((if_pos c6).trans (if_neg c19))).symm) (by rw [show (f_X5_put_v v o ch) = v from (((if_pos c6).trans (if_neg c19))), show (f_X5_put_o v o ch) = o from (((if_pos c6).trans (if_neg c19)))]) dX5_put_24
  · refine j_iload_n C dX5_put_9 0 rfl ?_
    subst hQ; exact j_iret C hr hk (show f_X5_toldBy_r ch = (f_X5_put_r v o ch) from ((if_neg c6)).symm) (by rw [show (f_X5_put_v v o ch) = v from ((if_neg c6)), show (f_X5_put_o v o ch) = o from ((if_neg c6))]) dX5_put_10
