/-! THE MODEL: the reader -/
/-- the reader stands in the pad -/
def okP (v : Nat → Int32) : Prop := 0 ≤ (v 8).toInt ∧ (v 8).toInt ≤ (v 7).toInt ∧ (v 7).toInt ≤ 80 ∧ 0 ≤ (v 10).toInt ∧ (v 10).toInt < 41
theorem okP.a {v : Nat → Int32} (h : okP v) : ¬ v 8 < 0 := fun g => by
  have := Int32.lt_iff_toInt_lt.mp g
  rw [show (0 : Int32).toInt = 0 by decide] at this
  have := h.1
  omega
theorem okP.b {v : Nat → Int32} (h : okP v) : v 7 ≤ 80 := Int32.le_iff_toInt_le.mpr (by have := h.2.2.1; rw [show (80 : Int32).toInt = 80 by decide]; exact this)
theorem isAt_iff {v o : Nat → Int32} {k y : Int32} : (¬ f_X5_isAt_r v o k y = 0) ↔ ((v 8).toInt < (v 7).toInt ∧ k.toInt ≤ (o (v 8).toNatClampNeg).toInt ∧ (o (v 8).toNatClampNeg).toInt ≤ y.toInt) := by
  unfold f_X5_isAt_r f_X5_isAt_x2
  by_cases c : v 7 ≤ v 8
  · rw [if_pos c]
    have := Int32.le_iff_toInt_le.mp c
    exact ⟨fun h => absurd rfl h, fun h => by omega⟩
  · rw [if_neg c]
    have c1 := Int32.lt_iff_toInt_lt.mp (Int32.not_le.mp c)
    have i := in_iff (x := (o (v 8).toNatClampNeg).toInt64) (y := k.toInt64) (z := y.toInt64)
    rw [Int32.toInt_toInt64, Int32.toInt_toInt64, Int32.toInt_toInt64] at i
    unfold f_X5_isAt_rq1
    by_cases c2 : f_X5_in_r ((o (v 8).toNatClampNeg).toInt64) k.toInt64 y.toInt64 = 0
    · rw [if_pos c2]
      exact ⟨fun h => absurd rfl h, fun h => absurd c2 (i.mpr h.2)⟩
    · rw [if_neg c2]
      exact ⟨fun _ => ⟨c1, i.mp c2⟩, fun _ => by decide⟩
theorem okP.at {v o : Nat → Int32} {k y : Int32} (h : okP v) (c : ¬ f_X5_isAt_r v o k y = 0) : vp_in (v 8) 80 := by
  have h1 := (isAt_iff.mp c).1
  obtain ⟨a, b, d, e, f⟩ := h
  exact vp_in_iff.mpr ⟨a, by omega⟩
theorem inc80 {x : Int32} (h0 : 0 ≤ x.toInt) (h1 : x.toInt < 2147483647) : (x + 1).toInt = x.toInt + 1 := by
  rw [Int32.toInt_add, show (1 : Int32).toInt = 1 by decide, Int.bmod_eq_of_le (by omega) (by omega)]
theorem okP.inc {v o : Nat → Int32} {k y : Int32} (h : okP v) (c : ¬ f_X5_isAt_r v o k y = 0) : okP (upd v 8 (v 8 + 1)) := by
  have h1 := (isAt_iff.mp c).1
  obtain ⟨a, b, d, e, f⟩ := h
  have i := inc80 a (by omega)
  refine ⟨?_, ?_, d, e, f⟩
  · show 0 ≤ (v 8 + 1).toInt
    omega
  · show (v 8 + 1).toInt ≤ (v 7).toInt
    omega
theorem sign_ok {v o : Nat → Int32} {k : Int32} (h : okP v) : okP (f_X5_isSign_v v o k) ∧ (¬ f_X5_isSign_r v o k = 0 → ((f_X5_isSign_v v o k) 8).toInt = (v 8).toInt + 1) := by
  unfold f_X5_isSign_v f_X5_isSign_x2 f_X5_isSign_r
  by_cases c : f_X5_isAt_r v o k k = 0
  · rw [if_pos c]
    have e : v 8 + 0 = v 8 := Int32.add_zero (v 8)
    rw [e]
    refine ⟨?_, fun g => absurd c g⟩
    exact ⟨h.1, h.2.1, h.2.2.1, h.2.2.2.1, h.2.2.2.2⟩
  · rw [if_neg c]
    have h1 := (isAt_iff.mp c).1
    have := h.1
    have := h.2.2.1
    exact ⟨h.inc c, fun _ => inc80 h.1 (by omega)⟩
/-- the digits that follow: n at most, the value t -/
noncomputable def numM (o : Nat → Int32) : Nat → (Nat → Int32) → Int32 → Int32 × (Nat → Int32)
  | 0, vv, t => (t, vv)
  | n + 1, vv, t => if t ≤ 0 then (t, vv) else if 100 ≤ t then (t, vv) else if f_X5_isAt_r vv o 48 57 = 0 then (t, vv) else numM o n (upd vv 8 (vv 8 + 1)) (10 * t + o (vv 8).toNatClampNeg - 48)
def numI (n : Nat) (t : Int32) : Prop := (n = 3 ∧ 0 ≤ t.toInt ∧ t.toInt ≤ 9) ∨ (n = 2 ∧ 10 ≤ t.toInt ∧ t.toInt ≤ 99) ∨ (n = 1 ∧ 100 ≤ t.toInt ∧ t.toInt ≤ 999)
theorem numI_0 {t : Int32} (h : numI 0 t) : False := by
  rcases h with h | h | h <;> exact absurd h.1 (by decide)
theorem numI_s {v o : Nat → Int32} {n : Nat} {t : Int32} (h : numI (n + 1) t) (h0 : ¬ t ≤ 0) (h1 : ¬ 100 ≤ t) (c : ¬ f_X5_isAt_r v o 48 57 = 0) : numI n (10 * t + o (v 8).toNatClampNeg - 48) := by
  obtain ⟨-, c1, c2⟩ := isAt_iff.mp c
  have h0 := Int32.lt_iff_toInt_lt.mp (Int32.not_le.mp h0)
  have h1 := Int32.lt_iff_toInt_lt.mp (Int32.not_le.mp h1)
  rw [show (0 : Int32).toInt = 0 by decide] at h0
  rw [show (100 : Int32).toInt = 100 by decide] at h1
  rw [show (48 : Int32).toInt = 48 by decide] at c1
  rw [show (57 : Int32).toInt = 57 by decide] at c2
  have e1 : (10 * t).toInt = 10 * t.toInt := by
    rw [Int32.toInt_mul, show (10 : Int32).toInt = 10 by decide, Int.bmod_eq_of_le (by omega) (by omega)]
  have e2 : (10 * t + o (v 8).toNatClampNeg).toInt = 10 * t.toInt + (o (v 8).toNatClampNeg).toInt := by
    rw [Int32.toInt_add, e1, Int.bmod_eq_of_le (by omega) (by omega)]
  have e3 : (10 * t + o (v 8).toNatClampNeg - 48).toInt = 10 * t.toInt + (o (v 8).toNatClampNeg).toInt - 48 := by
    rw [Int32.toInt_sub, e2, show (48 : Int32).toInt = 48 by decide, Int.bmod_eq_of_le (by omega) (by omega)]
  unfold numI
  rw [e3]
  rcases h with h | h | h
  · exact .inr (.inl ⟨by omega, by omega, by omega⟩)
  · exact .inr (.inr ⟨by omega, by omega, by omega⟩)
  · exfalso; omega
theorem numI_3 {v o : Nat → Int32} (c : ¬ f_X5_isAt_r v o 48 57 = 0) : numI 3 (o (v 8).toNatClampNeg - 48) := by
  obtain ⟨-, c1, c2⟩ := isAt_iff.mp c
  rw [show (48 : Int32).toInt = 48 by decide] at c1
  rw [show (57 : Int32).toInt = 57 by decide] at c2
  refine .inl ⟨rfl, ?_⟩
  rw [Int32.toInt_sub, show (48 : Int32).toInt = 48 by decide, Int.bmod_eq_of_le (by omega) (by omega)]
  omega
theorem okP.ord {v : Nat → Int32} {k : Int32} (h : okP v) (hk : vp_in k 4) : vp_in (4 * v 10 + k) 164 := by
  obtain ⟨i, hi, rfl⟩ := vp_in_of hk (by decide)
  obtain ⟨j, hj, e⟩ := vp_in_of (vp_in_iff (x := v 10) (n := 41)|>.mpr ⟨h.2.2.2.1, h.2.2.2.2⟩) (by decide)
  have e4 : (4 * nI j : Int32) = nI (4 * j) := by
    apply Int32.toInt_inj.mp
    rw [Int32.toInt_mul, nI_toInt (by omega), nI_toInt (by omega), show (4 : Int32).toInt = 4 by decide, Int.bmod_eq_of_le (by omega) (by omega)]
    omega
  rw [e, e4, nI_add]
  exact vp_in_nI (by omega) (by decide)
theorem okP.ord0 {v : Nat → Int32} (h : okP v) : vp_in (4 * v 10) 164 := by
  have := h.ord (k := 0) (vin_lit (by decide))
  rwa [Int32.add_zero] at this
noncomputable def f_X5_isNumber_s (v o : Nat → Int32) : Int32 × (Nat → Int32) := numM o 3 (upd v 8 (v 8 + 1)) (o (v 8).toNatClampNeg - 48)
noncomputable def f_X5_isNumber_r (v o z : Nat → Int32) (k : Int32) : Int32 := if f_X5_isAt_r v o 48 57 = 0 then 0 else 1
noncomputable def f_X5_isNumber_v (v o z : Nat → Int32) (k : Int32) : Nat → Int32 := if f_X5_isAt_r v o 48 57 = 0 then v else (f_X5_isNumber_s v o).2
noncomputable def f_X5_isNumber_z (v o z : Nat → Int32) (k : Int32) : Nat → Int32 := if f_X5_isAt_r v o 48 57 = 0 then z else upd z (4 * v 10 + k).toNatClampNeg (f_X5_isNumber_s v o).1
set_option maxRecDepth 100000 in
set_option maxHeartbeats 4000000 in
theorem m_X5_isNumber (l : Launch) (G : GG) (a nw th ps sl hd pd od : Nat) (v : Nat → Int32) (o : Nat → Int32) (z : Nat → Int32) (k : Int32) (hP : okP v) (hk4 : vp_in k 4) : CtI l yX5_isNumber cX5_isNumber 3 (some .boolean) (RM 3) G [.ref a, .int k] ([oM a nw th ps sl hd pd od v, aI G pd 80 o, aI G od 164 z]) (f_X5_isNumber_r v o z k) ([oM a nw th ps sl hd pd od (f_X5_isNumber_v v o z k), aI G pd 80 o, aI G od 164 (f_X5_isNumber_z v o z k)]) := by
  refine ct_I RX5 [(0, .ref a), (1, .int k)] rfl (by decide +kernel) (Nat.le_of_ble_eq_true rfl) rfl ?_
  intro p e s m args below meth c A C hr hk hnm
  generalize hQ : (MQ below (PostI G A (f_X5_isNumber_r v o z k) ([oM a nw th ps sl hd pd od (f_X5_isNumber_v v o z k), aI G pd 80 o, aI G od 164 (f_X5_isNumber_z v o z k)])) args s (RM 3).cells (RM 3).slots A) = Q
  refine j_aload_n C dX5_isNumber_0 0 rfl ?_
  refine j_bipush (v := 48) C dX5_isNumber_1 (by decide) ?_
  refine j_bipush (v := 57) C dX5_isNumber_3 (by decide) ?_
  refine j_callV_i (r := f_X5_isAt_r v o 48 57) (wc' := [oM a nw th ps sl hd pd od v, aI G pd 80 o]) C (m_X5_isAt l G a nw th ps sl hd pd od v o 48 57 hP.a hP.b) rfl 0 rfl 2 (gV kw_737 kw_738 kw_785 kw_7 kw_739) (by decide +kernel) ⟨(Nat.le_of_ble_eq_true rfl), (Nat.le_of_ble_eq_true rfl)⟩ rfl rfl (Nat.le_of_ble_eq_true rfl) dX5_isNumber_5 ⟨(Nat.le_of_ble_eq_true rfl), (Nat.le_of_ble_eq_true rfl)⟩ [aI G od 164 z] [oM a nw th ps sl hd pd od v, aI G pd 80 o, aI G od 164 z] (perm_idx [0, 1, 2] 3 rfl (by decide +kernel) rfl) rfl ?_
  refine j_if_ne (tgt := 13) C dX5_isNumber_8 (by decide) (fun c8 => ?_) (fun c8 => ?_)
  · refine j_aload_n C dX5_isNumber_13 0 rfl ?_
    refine j_get C kin5 rfl 0 rfl 6 (by decide) kw_495 rfl (v := .ref pd) rfl dX5_isNumber_14 ?_
    refine j_aload_n C dX5_isNumber_17 0 rfl ?_
    refine j_get C kin5 rfl 0 rfl 8 (by decide) kw_497 rfl (v := .int (v 8)) rfl dX5_isNumber_18 ?_
    refine j_iald C 1 rfl (hP.at c8) (v := o (v 8).toNatClampNeg) rfl dX5_isNumber_21 ?_
    refine j_bipush (v := 48) C dX5_isNumber_22 (by decide) ?_
    refine j_isub C dX5_isNumber_24 rfl ?_
    refine j_istore_n C [(2, .int ((o (v 8).toNatClampNeg) - 48)), (0, .ref a), (1, .int k)] dX5_isNumber_25 (by decide) rfl ?_
    refine j_aload_n C dX5_isNumber_26 1 rfl ?_
    refine j_dup C dX5_isNumber_27 rfl ?_
    refine j_get C kin5 rfl 0 rfl 8 (by decide) kw_497 rfl (v := .int (v 8)) rfl dX5_isNumber_28 ?_
    refine j_iconst (v := 1) C dX5_isNumber_31 (by decide) ?_
    refine j_iadd C dX5_isNumber_32 rfl ?_
    generalize hw0 : (v 8) + 1 = w0
    refine j_put C kin5 rfl 0 rfl 8 (by decide) kw_497 rfl tyX5 tyX5_ok nmX5 rfl rfl rfl (Nat.le_of_ble_eq_true rfl) ([oM a nw th ps sl hd pd od (upd v 8 w0), aI G pd 80 o, aI G od 164 z]) rfl dX5_isNumber_33 ?_
    have L2 : ∀ (n : Nat) (vv : Nat → Int32) (t : Int32), numI n t → okP vv → vv 10 = v 10 → numM o n vv t = f_X5_isNumber_s v o → WJ p l e (RM 3) s m args below meth c G A 3 0 0 Q ([oM a nw th ps sl hd pd od vv, aI G pd 80 o, aI G od 164 z]) [(2, .int t), (0, .ref a), (1, .int k)] 36 [] := by
      intro n
      induction n with
      | zero =>
        intro vv t hI hO h10 hx
        refine j_iload_n C dX5_isNumber_36 0 rfl ?_
        refine j_if_le (tgt := 88) C dX5_isNumber_37 (by decide) (fun c37 => ?_) (fun h => absurd (absurd hI numI_0) h)
        refine j_aload_n C dX5_isNumber_88 1 rfl ?_
        refine j_get C kin5 rfl 0 rfl 9 (by decide) kw_498 rfl (v := .ref od) rfl dX5_isNumber_89 ?_
        refine j_iconst (v := 4) C dX5_isNumber_92 (by decide) ?_
        refine j_aload_n C dX5_isNumber_93 1 rfl ?_
        refine j_get C kin5 rfl 0 rfl 10 (by decide) kw_499 rfl (v := .int (vv 10)) rfl dX5_isNumber_94 ?_
        refine j_imul C dX5_isNumber_97 rfl ?_
        refine j_iload_n C dX5_isNumber_98 2 rfl ?_
        refine j_iadd C dX5_isNumber_99 rfl ?_
        refine j_iload_n C dX5_isNumber_100 0 rfl ?_
        refine j_iast C 2 rfl (by rw [h10]; exact hP.ord hk4) ([oM a nw th ps sl hd pd od vv, aI G pd 80 o, aI G od 164 (upd z ((4 * (vv 10)) + k).toNatClampNeg t)]) rfl dX5_isNumber_101 ?_
        refine j_iconst (v := 1) C dX5_isNumber_102 (by decide) ?_
        subst hQ; subst hw0; exact j_zret C hr hk rfl (show 1 = (f_X5_isNumber_r v o z k) from (if_neg c8).symm) (by rw [show (f_X5_isNumber_v v o z k) = vv from ((if_neg c8).trans (congrArg Prod.snd hx.symm)), show (f_X5_isNumber_z v o z k) = (upd z ((4 * (vv 10)) + k).toNatClampNeg t) from (by have e := hx.symm; rw [f_X5_isNumber_z, if_neg c8, e, h10] <;> rfl)]) dX5_isNumber_103
      | succ n ih =>
        intro vv t hI hO h10 hx
        refine j_iload_n C dX5_isNumber_36 0 rfl ?_
        refine j_if_le (tgt := 88) C dX5_isNumber_37 (by decide) (fun c37 => ?_) (fun c37 => ?_)
        · refine j_aload_n C dX5_isNumber_88 1 rfl ?_
          refine j_get C kin5 rfl 0 rfl 9 (by decide) kw_498 rfl (v := .ref od) rfl dX5_isNumber_89 ?_
          refine j_iconst (v := 4) C dX5_isNumber_92 (by decide) ?_
          refine j_aload_n C dX5_isNumber_93 1 rfl ?_
          refine j_get C kin5 rfl 0 rfl 10 (by decide) kw_499 rfl (v := .int (vv 10)) rfl dX5_isNumber_94 ?_
          refine j_imul C dX5_isNumber_97 rfl ?_
          refine j_iload_n C dX5_isNumber_98 2 rfl ?_
          refine j_iadd C dX5_isNumber_99 rfl ?_
          refine j_iload_n C dX5_isNumber_100 0 rfl ?_
          refine j_iast C 2 rfl (by rw [h10]; exact hP.ord hk4) ([oM a nw th ps sl hd pd od vv, aI G pd 80 o, aI G od 164 (upd z ((4 * (vv 10)) + k).toNatClampNeg t)]) rfl dX5_isNumber_101 ?_
          refine j_iconst (v := 1) C dX5_isNumber_102 (by decide) ?_
          subst hQ; subst hw0; exact j_zret C hr hk rfl (show 1 = (f_X5_isNumber_r v o z k) from (if_neg c8).symm) (by rw [show (f_X5_isNumber_v v o z k) = vv from ((if_neg c8).trans (congrArg Prod.snd (hx.symm.trans (if_pos c37)))), show (f_X5_isNumber_z v o z k) = (upd z ((4 * (vv 10)) + k).toNatClampNeg t) from (by have e := (hx.symm.trans (if_pos c37)); rw [f_X5_isNumber_z, if_neg c8, e, h10] <;> rfl)]) dX5_isNumber_103
        · refine j_iload_n C dX5_isNumber_40 0 rfl ?_
          refine j_bipush (v := 100) C dX5_isNumber_41 (by decide) ?_
          refine j_icmp_ge (tgt := 88) C dX5_isNumber_43 (by decide) (fun c43 => ?_) (fun c43 => ?_)
          · refine j_aload_n C dX5_isNumber_88 1 rfl ?_
            refine j_get C kin5 rfl 0 rfl 9 (by decide) kw_498 rfl (v := .ref od) rfl dX5_isNumber_89 ?_
            refine j_iconst (v := 4) C dX5_isNumber_92 (by decide) ?_
            refine j_aload_n C dX5_isNumber_93 1 rfl ?_
            refine j_get C kin5 rfl 0 rfl 10 (by decide) kw_499 rfl (v := .int (vv 10)) rfl dX5_isNumber_94 ?_
            refine j_imul C dX5_isNumber_97 rfl ?_
            refine j_iload_n C dX5_isNumber_98 2 rfl ?_
            refine j_iadd C dX5_isNumber_99 rfl ?_
            refine j_iload_n C dX5_isNumber_100 0 rfl ?_
            refine j_iast C 2 rfl (by rw [h10]; exact hP.ord hk4) ([oM a nw th ps sl hd pd od vv, aI G pd 80 o, aI G od 164 (upd z ((4 * (vv 10)) + k).toNatClampNeg t)]) rfl dX5_isNumber_101 ?_
            refine j_iconst (v := 1) C dX5_isNumber_102 (by decide) ?_
            subst hQ; subst hw0; exact j_zret C hr hk rfl (show 1 = (f_X5_isNumber_r v o z k) from (if_neg c8).symm) (by rw [show (f_X5_isNumber_v v o z k) = vv from ((if_neg c8).trans (congrArg Prod.snd (hx.symm.trans ((if_neg c37).trans (if_pos c43))))), show (f_X5_isNumber_z v o z k) = (upd z ((4 * (vv 10)) + k).toNatClampNeg t) from (by have e := (hx.symm.trans ((if_neg c37).trans (if_pos c43))); rw [f_X5_isNumber_z, if_neg c8, e, h10] <;> rfl)]) dX5_isNumber_103
          · refine j_aload_n C dX5_isNumber_46 1 rfl ?_
            refine j_bipush (v := 48) C dX5_isNumber_47 (by decide) ?_
            refine j_bipush (v := 57) C dX5_isNumber_49 (by decide) ?_
            refine j_callV_i (r := f_X5_isAt_r vv o 48 57) (wc' := [oM a nw th ps sl hd pd od vv, aI G pd 80 o]) C (m_X5_isAt l G a nw th ps sl hd pd od vv o 48 57 hO.a hO.b) rfl 0 rfl 2 (gV kw_737 kw_738 kw_785 kw_7 kw_739) (by decide +kernel) ⟨(Nat.le_of_ble_eq_true rfl), (Nat.le_of_ble_eq_true rfl)⟩ rfl rfl (Nat.le_of_ble_eq_true rfl) dX5_isNumber_51 ⟨(Nat.le_of_ble_eq_true rfl), (Nat.le_of_ble_eq_true rfl)⟩ [aI G od 164 z] [oM a nw th ps sl hd pd od vv, aI G pd 80 o, aI G od 164 z] (perm_idx [0, 1, 2] 3 rfl (by decide +kernel) rfl) rfl ?_
            refine j_if_eq (tgt := 88) C dX5_isNumber_54 (by decide) (fun c54 => ?_) (fun c54 => ?_)
            · refine j_aload_n C dX5_isNumber_88 1 rfl ?_
              refine j_get C kin5 rfl 0 rfl 9 (by decide) kw_498 rfl (v := .ref od) rfl dX5_isNumber_89 ?_
              refine j_iconst (v := 4) C dX5_isNumber_92 (by decide) ?_
              refine j_aload_n C dX5_isNumber_93 1 rfl ?_
              refine j_get C kin5 rfl 0 rfl 10 (by decide) kw_499 rfl (v := .int (vv 10)) rfl dX5_isNumber_94 ?_
              refine j_imul C dX5_isNumber_97 rfl ?_
              refine j_iload_n C dX5_isNumber_98 2 rfl ?_
              refine j_iadd C dX5_isNumber_99 rfl ?_
              refine j_iload_n C dX5_isNumber_100 0 rfl ?_
              refine j_iast C 2 rfl (by rw [h10]; exact hP.ord hk4) ([oM a nw th ps sl hd pd od vv, aI G pd 80 o, aI G od 164 (upd z ((4 * (vv 10)) + k).toNatClampNeg t)]) rfl dX5_isNumber_101 ?_
              refine j_iconst (v := 1) C dX5_isNumber_102 (by decide) ?_
              subst hQ; subst hw0; exact j_zret C hr hk rfl (show 1 = (f_X5_isNumber_r v o z k) from (if_neg c8).symm) (by rw [show (f_X5_isNumber_v v o z k) = vv from ((if_neg c8).trans (congrArg Prod.snd (hx.symm.trans ((if_neg c37).trans ((if_neg c43).trans (if_pos c54)))))), show (f_X5_isNumber_z v o z k) = (upd z ((4 * (vv 10)) + k).toNatClampNeg t) from (by have e := (hx.symm.trans ((if_neg c37).trans ((if_neg c43).trans (if_pos c54)))); rw [f_X5_isNumber_z, if_neg c8, e, h10] <;> rfl)]) dX5_isNumber_103
            · refine j_bipush (v := 10) C dX5_isNumber_57 (by decide) ?_
              refine j_iload_n C dX5_isNumber_59 0 rfl ?_
              refine j_imul C dX5_isNumber_60 rfl ?_
              refine j_aload_n C dX5_isNumber_61 1 rfl ?_
              refine j_get C kin5 rfl 0 rfl 6 (by decide) kw_495 rfl (v := .ref pd) rfl dX5_isNumber_62 ?_
              refine j_aload_n C dX5_isNumber_65 1 rfl ?_
              refine j_get C kin5 rfl 0 rfl 8 (by decide) kw_497 rfl (v := .int (vv 8)) rfl dX5_isNumber_66 ?_
              refine j_iald C 1 rfl (hO.at c54) (v := o (vv 8).toNatClampNeg) rfl dX5_isNumber_69 ?_
              refine j_iadd C dX5_isNumber_70 rfl ?_
              refine j_bipush (v := 48) C dX5_isNumber_71 (by decide) ?_
              refine j_isub C dX5_isNumber_73 rfl ?_
              refine j_istore_n C [(2, .int (((10 * t) + (o (vv 8).toNatClampNeg)) - 48)), (0, .ref a), (1, .int k)] dX5_isNumber_74 (by decide) rfl ?_
              refine j_aload_n C dX5_isNumber_75 1 rfl ?_
              refine j_dup C dX5_isNumber_76 rfl ?_
              refine j_get C kin5 rfl 0 rfl 8 (by decide) kw_497 rfl (v := .int (vv 8)) rfl dX5_isNumber_77 ?_
              refine j_iconst (v := 1) C dX5_isNumber_80 (by decide) ?_
              refine j_iadd C dX5_isNumber_81 rfl ?_
              generalize hw1 : (vv 8) + 1 = w1
              refine j_put C kin5 rfl 0 rfl 8 (by decide) kw_497 rfl tyX5 tyX5_ok nmX5 rfl rfl rfl (Nat.le_of_ble_eq_true rfl) ([oM a nw th ps sl hd pd od (upd vv 8 w1), aI G pd 80 o, aI G od 164 z]) rfl dX5_isNumber_82 ?_
              refine j_goto (tgt := 36) C dX5_isNumber_85 (by decide) ?_
              subst hw0 hw1; exact j_eq rfl rfl rfl (ih (upd vv 8 ((vv 8) + 1)) (((10 * t) + (o (vv 8).toNatClampNeg)) - 48) (numI_s hI c37 c43 c54) (hO.inc c54) h10 (((if_neg c37).trans ((if_neg c43).trans (if_neg c54))).symm.trans hx))
    subst hw0; exact j_eq rfl rfl rfl (L2 3 (upd v 8 ((v 8) + 1)) ((o (v 8).toNatClampNeg) - 48) (numI_3 c8) (hP.inc c8) rfl rfl)
  · refine j_iconst (v := 0) C dX5_isNumber_11 (by decide) ?_
    subst hQ; exact j_zret C hr hk rfl (show 0 = (f_X5_isNumber_r v o z k) from (if_pos c8).symm) (by rw [show (f_X5_isNumber_v v o z k) = v from (if_pos c8), show (f_X5_isNumber_z v o z k) = z from (if_pos c8)]) dX5_isNumber_12
theorem numM_ok {o : Nat → Int32} : ∀ (n : Nat) (vv : Nat → Int32) (t : Int32), okP vv → okP (numM o n vv t).2 ∧ (numM o n vv t).2 10 = vv 10 ∧ (numM o n vv t).2 7 = vv 7 ∧ (vv 8).toInt ≤ ((numM o n vv t).2 8).toInt
  | 0, vv, t, h => ⟨h, rfl, rfl, Int.le_refl _⟩
  | n + 1, vv, t, h => by
    rw [numM]
    by_cases c1 : t ≤ 0
    · rw [if_pos c1]
      exact ⟨h, rfl, rfl, Int.le_refl _⟩
    · rw [if_neg c1]
      by_cases c2 : 100 ≤ t
      · rw [if_pos c2]
        exact ⟨h, rfl, rfl, Int.le_refl _⟩
      · rw [if_neg c2]
        by_cases c3 : f_X5_isAt_r vv o 48 57 = 0
        · rw [if_pos c3]
          exact ⟨h, rfl, rfl, Int.le_refl _⟩
        · rw [if_neg c3]
          obtain ⟨g1, g2, g3, g4⟩ := numM_ok (o := o) n (upd vv 8 (vv 8 + 1)) (10 * t + o (vv 8).toNatClampNeg - 48) (h.inc c3)
          have h1 := (isAt_iff.mp c3).1
          have h2 := h.1
          have h3 := h.2.2.1
          have i := inc80 h2 (by omega)
          refine ⟨g1, g2, g3, ?_⟩
          have g5 : (vv 8 + 1).toInt ≤ ((numM o n (upd vv 8 (vv 8 + 1)) (10 * t + o (vv 8).toNatClampNeg - 48)).2 8).toInt := g4
          omega
theorem num_ok {v o z : Nat → Int32} {k : Int32} (h : okP v) : okP (f_X5_isNumber_v v o z k) ∧ f_X5_isNumber_v v o z k 10 = v 10 ∧ f_X5_isNumber_v v o z k 7 = v 7 ∧ (¬ f_X5_isNumber_r v o z k = 0 → (v 8).toInt + 1 ≤ (f_X5_isNumber_v v o z k 8).toInt) ∧ (v 8).toInt ≤ (f_X5_isNumber_v v o z k 8).toInt := by
  unfold f_X5_isNumber_v f_X5_isNumber_r
  by_cases c : f_X5_isAt_r v o 48 57 = 0
  · rw [if_pos c, if_pos c]
    exact ⟨h, rfl, rfl, fun g => absurd rfl g, Int.le_refl _⟩
  · rw [if_neg c, if_neg c]
    obtain ⟨g1, g2, g3, g4⟩ := numM_ok (o := o) 3 (upd v 8 (v 8 + 1)) (o (v 8).toNatClampNeg - 48) (h.inc c)
    have h1 := (isAt_iff.mp c).1
    have h2 := h.1
    have h3 := h.2.2.1
    have i := inc80 h2 (by omega)
    have g5 : (v 8 + 1).toInt ≤ ((f_X5_isNumber_s v o).2 8).toInt := g4
    exact ⟨g1, g2, g3, fun _ => by omega, by omega⟩
theorem nrz_num (v o z : Nat → Int32) (k : Int32) : narrow .boolean (.int (f_X5_isNumber_r v o z k)) = .int (f_X5_isNumber_r v o z k) := by
  unfold f_X5_isNumber_r
  split <;> rfl
theorem okP.at1 {v : Nat → Int32} (h : okP v) (h1 : (v 8).toInt < (v 7).toInt) : vp_in (v 8) 80 := by
  obtain ⟨a, b, d, e, f⟩ := h
  exact vp_in_iff.mpr ⟨a, by omega⟩
theorem okP.inc1 {v : Nat → Int32} (h : okP v) (h1 : (v 8).toInt < (v 7).toInt) : okP (upd v 8 (v 8 + 1)) := by
  obtain ⟨a, b, d, e, f⟩ := h
  have i := inc80 a (by omega)
  refine ⟨?_, ?_, d, e, f⟩
  · show 0 ≤ (v 8 + 1).toInt
    omega
  · show (v 8 + 1).toInt ≤ (v 7).toInt
    omega
theorem okP.inc2 {v o : Nat → Int32} {k y : Int32} (h : okP v) (h1 : (v 8).toInt < (v 7).toInt) (c : ¬ f_X5_isAt_r (upd v 8 (v 8 + 1)) o k y = 0) : okP (upd v 8 (v 8 + 1 + 1)) := (h.inc1 h1).inc c
theorem f_X5_isOrder_x3_ex : ∃ F : (Nat → Int32) → (Nat → Int32) → (Nat → Int32) → Int32, ∀ (v : Nat → Int32) (o : Nat → Int32) (z : Nat → Int32), F v o z = (if o (v 8).toNatClampNeg = 119 then 42 else 64) := ⟨fun v o z => (if o (v 8).toNatClampNeg = 119 then 42 else 64), fun _ _ _ => rfl⟩
noncomputable def f_X5_isOrder_x3 : (Nat → Int32) → (Nat → Int32) → (Nat → Int32) → Int32 := Classical.choose f_X5_isOrder_x3_ex
theorem f_X5_isOrder_x3_eq (v : Nat → Int32) (o : Nat → Int32) (z : Nat → Int32) : f_X5_isOrder_x3 v o z = (if o (v 8).toNatClampNeg = 119 then 42 else 64) := Classical.choose_spec f_X5_isOrder_x3_ex v o z
theorem f_X5_isOrder_rq4_ex : ∃ F : (Nat → Int32) → (Nat → Int32) → (Nat → Int32) → Int32, ∀ (v : Nat → Int32) (o : Nat → Int32) (z : Nat → Int32), F v o z = f_X5_isSign_r (upd v 8 (((v 8) + 1) + 1)) o (f_X5_isOrder_x3 v o z) := ⟨fun v o z => f_X5_isSign_r (upd v 8 (((v 8) + 1) + 1)) o (f_X5_isOrder_x3 v o z), fun _ _ _ => rfl⟩
noncomputable def f_X5_isOrder_rq4 : (Nat → Int32) → (Nat → Int32) → (Nat → Int32) → Int32 := Classical.choose f_X5_isOrder_rq4_ex
theorem f_X5_isOrder_rq4_eq (v : Nat → Int32) (o : Nat → Int32) (z : Nat → Int32) : f_X5_isOrder_rq4 v o z = f_X5_isSign_r (upd v 8 (((v 8) + 1) + 1)) o (f_X5_isOrder_x3 v o z) := Classical.choose_spec f_X5_isOrder_rq4_ex v o z
theorem f_X5_isOrder_vq4_ex : ∃ F : (Nat → Int32) → (Nat → Int32) → (Nat → Int32) → (Nat → Int32), ∀ (v : Nat → Int32) (o : Nat → Int32) (z : Nat → Int32), F v o z = f_X5_isSign_v (upd v 8 (((v 8) + 1) + 1)) o (f_X5_isOrder_x3 v o z) := ⟨fun v o z => f_X5_isSign_v (upd v 8 (((v 8) + 1) + 1)) o (f_X5_isOrder_x3 v o z), fun _ _ _ => rfl⟩
noncomputable def f_X5_isOrder_vq4 : (Nat → Int32) → (Nat → Int32) → (Nat → Int32) → (Nat → Int32) := Classical.choose f_X5_isOrder_vq4_ex
theorem f_X5_isOrder_vq4_eq (v : Nat → Int32) (o : Nat → Int32) (z : Nat → Int32) : f_X5_isOrder_vq4 v o z = f_X5_isSign_v (upd v 8 (((v 8) + 1) + 1)) o (f_X5_isOrder_x3 v o z) := Classical.choose_spec f_X5_isOrder_vq4_ex v o z
theorem f_X5_isOrder_rq5_ex : ∃ F : (Nat → Int32) → (Nat → Int32) → (Nat → Int32) → Int32, ∀ (v : Nat → Int32) (o : Nat → Int32) (z : Nat → Int32), F v o z = f_X5_isNumber_r (f_X5_isOrder_vq4 v o z) o (upd (upd z (4 * (v 10)).toNatClampNeg (o (v 8).toNatClampNeg)) ((4 * (v 10)) + 1).toNatClampNeg ((o ((v 8) + 1).toNatClampNeg) - 48)) 2 := ⟨fun v o z => f_X5_isNumber_r (f_X5_isOrder_vq4 v o z) o (upd (upd z (4 * (v 10)).toNatClampNeg (o (v 8).toNatClampNeg)) ((4 * (v 10)) + 1).toNatClampNeg ((o ((v 8) + 1).toNatClampNeg) - 48)) 2, fun _ _ _ => rfl⟩
noncomputable def f_X5_isOrder_rq5 : (Nat → Int32) → (Nat → Int32) → (Nat → Int32) → Int32 := Classical.choose f_X5_isOrder_rq5_ex
theorem f_X5_isOrder_rq5_eq (v : Nat → Int32) (o : Nat → Int32) (z : Nat → Int32) : f_X5_isOrder_rq5 v o z = f_X5_isNumber_r (f_X5_isOrder_vq4 v o z) o (upd (upd z (4 * (v 10)).toNatClampNeg (o (v 8).toNatClampNeg)) ((4 * (v 10)) + 1).toNatClampNeg ((o ((v 8) + 1).toNatClampNeg) - 48)) 2 := Classical.choose_spec f_X5_isOrder_rq5_ex v o z
theorem f_X5_isOrder_vq5_ex : ∃ F : (Nat → Int32) → (Nat → Int32) → (Nat → Int32) → (Nat → Int32), ∀ (v : Nat → Int32) (o : Nat → Int32) (z : Nat → Int32), F v o z = f_X5_isNumber_v (f_X5_isOrder_vq4 v o z) o (upd (upd z (4 * (v 10)).toNatClampNeg (o (v 8).toNatClampNeg)) ((4 * (v 10)) + 1).toNatClampNeg ((o ((v 8) + 1).toNatClampNeg) - 48)) 2 := ⟨fun v o z => f_X5_isNumber_v (f_X5_isOrder_vq4 v o z) o (upd (upd z (4 * (v 10)).toNatClampNeg (o (v 8).toNatClampNeg)) ((4 * (v 10)) + 1).toNatClampNeg ((o ((v 8) + 1).toNatClampNeg) - 48)) 2, fun _ _ _ => rfl⟩
noncomputable def f_X5_isOrder_vq5 : (Nat → Int32) → (Nat → Int32) → (Nat → Int32) → (Nat → Int32) := Classical.choose f_X5_isOrder_vq5_ex
theorem f_X5_isOrder_vq5_eq (v : Nat → Int32) (o : Nat → Int32) (z : Nat → Int32) : f_X5_isOrder_vq5 v o z = f_X5_isNumber_v (f_X5_isOrder_vq4 v o z) o (upd (upd z (4 * (v 10)).toNatClampNeg (o (v 8).toNatClampNeg)) ((4 * (v 10)) + 1).toNatClampNeg ((o ((v 8) + 1).toNatClampNeg) - 48)) 2 := Classical.choose_spec f_X5_isOrder_vq5_ex v o z
theorem f_X5_isOrder_zq5_ex : ∃ F : (Nat → Int32) → (Nat → Int32) → (Nat → Int32) → (Nat → Int32), ∀ (v : Nat → Int32) (o : Nat → Int32) (z : Nat → Int32), F v o z = f_X5_isNumber_z (f_X5_isOrder_vq4 v o z) o (upd (upd z (4 * (v 10)).toNatClampNeg (o (v 8).toNatClampNeg)) ((4 * (v 10)) + 1).toNatClampNeg ((o ((v 8) + 1).toNatClampNeg) - 48)) 2 := ⟨fun v o z => f_X5_isNumber_z (f_X5_isOrder_vq4 v o z) o (upd (upd z (4 * (v 10)).toNatClampNeg (o (v 8).toNatClampNeg)) ((4 * (v 10)) + 1).toNatClampNeg ((o ((v 8) + 1).toNatClampNeg) - 48)) 2, fun _ _ _ => rfl⟩
noncomputable def f_X5_isOrder_zq5 : (Nat → Int32) → (Nat → Int32) → (Nat → Int32) → (Nat → Int32) := Classical.choose f_X5_isOrder_zq5_ex
theorem f_X5_isOrder_zq5_eq (v : Nat → Int32) (o : Nat → Int32) (z : Nat → Int32) : f_X5_isOrder_zq5 v o z = f_X5_isNumber_z (f_X5_isOrder_vq4 v o z) o (upd (upd z (4 * (v 10)).toNatClampNeg (o (v 8).toNatClampNeg)) ((4 * (v 10)) + 1).toNatClampNeg ((o ((v 8) + 1).toNatClampNeg) - 48)) 2 := Classical.choose_spec f_X5_isOrder_zq5_ex v o z
theorem f_X5_isOrder_x6_ex : ∃ F : (Nat → Int32) → (Nat → Int32) → (Nat → Int32) → Int32, ∀ (v : Nat → Int32) (o : Nat → Int32) (z : Nat → Int32), F v o z = (if (f_X5_isOrder_rq4 v o z) = 0 then 0 else (if (f_X5_isOrder_rq5 v o z) = 0 then 0 else 1)) := ⟨fun v o z => (if (f_X5_isOrder_rq4 v o z) = 0 then 0 else (if (f_X5_isOrder_rq5 v o z) = 0 then 0 else 1)), fun _ _ _ => rfl⟩
noncomputable def f_X5_isOrder_x6 : (Nat → Int32) → (Nat → Int32) → (Nat → Int32) → Int32 := Classical.choose f_X5_isOrder_x6_ex
theorem f_X5_isOrder_x6_eq (v : Nat → Int32) (o : Nat → Int32) (z : Nat → Int32) : f_X5_isOrder_x6 v o z = (if (f_X5_isOrder_rq4 v o z) = 0 then 0 else (if (f_X5_isOrder_rq5 v o z) = 0 then 0 else 1)) := Classical.choose_spec f_X5_isOrder_x6_ex v o z
theorem f_X5_isOrder_v7_ex : ∃ F : (Nat → Int32) → (Nat → Int32) → (Nat → Int32) → (Nat → Int32), ∀ (v : Nat → Int32) (o : Nat → Int32) (z : Nat → Int32), F v o z = (if (f_X5_isOrder_rq4 v o z) = 0 then (f_X5_isOrder_vq4 v o z) else (f_X5_isOrder_vq5 v o z)) := ⟨fun v o z => (if (f_X5_isOrder_rq4 v o z) = 0 then (f_X5_isOrder_vq4 v o z) else (f_X5_isOrder_vq5 v o z)), fun _ _ _ => rfl⟩
noncomputable def f_X5_isOrder_v7 : (Nat → Int32) → (Nat → Int32) → (Nat → Int32) → (Nat → Int32) := Classical.choose f_X5_isOrder_v7_ex
theorem f_X5_isOrder_v7_eq (v : Nat → Int32) (o : Nat → Int32) (z : Nat → Int32) : f_X5_isOrder_v7 v o z = (if (f_X5_isOrder_rq4 v o z) = 0 then (f_X5_isOrder_vq4 v o z) else (f_X5_isOrder_vq5 v o z)) := Classical.choose_spec f_X5_isOrder_v7_ex v o z
theorem f_X5_isOrder_v8_ex : ∃ F : (Nat → Int32) → (Nat → Int32) → (Nat → Int32) → (Nat → Int32), ∀ (v : Nat → Int32) (o : Nat → Int32) (z : Nat → Int32), F v o z = (if (f_X5_isOrder_rq4 v o z) = 0 then upd (upd z (4 * (v 10)).toNatClampNeg (o (v 8).toNatClampNeg)) ((4 * (v 10)) + 1).toNatClampNeg ((o ((v 8) + 1).toNatClampNeg) - 48) else (f_X5_isOrder_zq5 v o z)) := ⟨fun v o z => (if (f_X5_isOrder_rq4 v o z) = 0 then upd (upd z (4 * (v 10)).toNatClampNeg (o (v 8).toNatClampNeg)) ((4 * (v 10)) + 1).toNatClampNeg ((o ((v 8) + 1).toNatClampNeg) - 48) else (f_X5_isOrder_zq5 v o z)), fun _ _ _ => rfl⟩
noncomputable def f_X5_isOrder_v8 : (Nat → Int32) → (Nat → Int32) → (Nat → Int32) → (Nat → Int32) := Classical.choose f_X5_isOrder_v8_ex
theorem f_X5_isOrder_v8_eq (v : Nat → Int32) (o : Nat → Int32) (z : Nat → Int32) : f_X5_isOrder_v8 v o z = (if (f_X5_isOrder_rq4 v o z) = 0 then upd (upd z (4 * (v 10)).toNatClampNeg (o (v 8).toNatClampNeg)) ((4 * (v 10)) + 1).toNatClampNeg ((o ((v 8) + 1).toNatClampNeg) - 48) else (f_X5_isOrder_zq5 v o z)) := Classical.choose_spec f_X5_isOrder_v8_ex v o z
theorem f_X5_isOrder_rq10_ex : ∃ F : (Nat → Int32) → (Nat → Int32) → (Nat → Int32) → Int32, ∀ (v : Nat → Int32) (o : Nat → Int32) (z : Nat → Int32), F v o z = f_X5_isNumber_r (f_X5_isSign_v (upd v 8 (((v 8) + 1) + 1)) o 47) o (upd (upd z (4 * (v 10)).toNatClampNeg (o (v 8).toNatClampNeg)) ((4 * (v 10)) + 1).toNatClampNeg ((o ((v 8) + 1).toNatClampNeg) - 48)) 2 := ⟨fun v o z => f_X5_isNumber_r (f_X5_isSign_v (upd v 8 (((v 8) + 1) + 1)) o 47) o (upd (upd z (4 * (v 10)).toNatClampNeg (o (v 8).toNatClampNeg)) ((4 * (v 10)) + 1).toNatClampNeg ((o ((v 8) + 1).toNatClampNeg) - 48)) 2, fun _ _ _ => rfl⟩
noncomputable def f_X5_isOrder_rq10 : (Nat → Int32) → (Nat → Int32) → (Nat → Int32) → Int32 := Classical.choose f_X5_isOrder_rq10_ex
theorem f_X5_isOrder_rq10_eq (v : Nat → Int32) (o : Nat → Int32) (z : Nat → Int32) : f_X5_isOrder_rq10 v o z = f_X5_isNumber_r (f_X5_isSign_v (upd v 8 (((v 8) + 1) + 1)) o 47) o (upd (upd z (4 * (v 10)).toNatClampNeg (o (v 8).toNatClampNeg)) ((4 * (v 10)) + 1).toNatClampNeg ((o ((v 8) + 1).toNatClampNeg) - 48)) 2 := Classical.choose_spec f_X5_isOrder_rq10_ex v o z
theorem f_X5_isOrder_vq10_ex : ∃ F : (Nat → Int32) → (Nat → Int32) → (Nat → Int32) → (Nat → Int32), ∀ (v : Nat → Int32) (o : Nat → Int32) (z : Nat → Int32), F v o z = f_X5_isNumber_v (f_X5_isSign_v (upd v 8 (((v 8) + 1) + 1)) o 47) o (upd (upd z (4 * (v 10)).toNatClampNeg (o (v 8).toNatClampNeg)) ((4 * (v 10)) + 1).toNatClampNeg ((o ((v 8) + 1).toNatClampNeg) - 48)) 2 := ⟨fun v o z => f_X5_isNumber_v (f_X5_isSign_v (upd v 8 (((v 8) + 1) + 1)) o 47) o (upd (upd z (4 * (v 10)).toNatClampNeg (o (v 8).toNatClampNeg)) ((4 * (v 10)) + 1).toNatClampNeg ((o ((v 8) + 1).toNatClampNeg) - 48)) 2, fun _ _ _ => rfl⟩
noncomputable def f_X5_isOrder_vq10 : (Nat → Int32) → (Nat → Int32) → (Nat → Int32) → (Nat → Int32) := Classical.choose f_X5_isOrder_vq10_ex
theorem f_X5_isOrder_vq10_eq (v : Nat → Int32) (o : Nat → Int32) (z : Nat → Int32) : f_X5_isOrder_vq10 v o z = f_X5_isNumber_v (f_X5_isSign_v (upd v 8 (((v 8) + 1) + 1)) o 47) o (upd (upd z (4 * (v 10)).toNatClampNeg (o (v 8).toNatClampNeg)) ((4 * (v 10)) + 1).toNatClampNeg ((o ((v 8) + 1).toNatClampNeg) - 48)) 2 := Classical.choose_spec f_X5_isOrder_vq10_ex v o z
theorem f_X5_isOrder_zq10_ex : ∃ F : (Nat → Int32) → (Nat → Int32) → (Nat → Int32) → (Nat → Int32), ∀ (v : Nat → Int32) (o : Nat → Int32) (z : Nat → Int32), F v o z = f_X5_isNumber_z (f_X5_isSign_v (upd v 8 (((v 8) + 1) + 1)) o 47) o (upd (upd z (4 * (v 10)).toNatClampNeg (o (v 8).toNatClampNeg)) ((4 * (v 10)) + 1).toNatClampNeg ((o ((v 8) + 1).toNatClampNeg) - 48)) 2 := ⟨fun v o z => f_X5_isNumber_z (f_X5_isSign_v (upd v 8 (((v 8) + 1) + 1)) o 47) o (upd (upd z (4 * (v 10)).toNatClampNeg (o (v 8).toNatClampNeg)) ((4 * (v 10)) + 1).toNatClampNeg ((o ((v 8) + 1).toNatClampNeg) - 48)) 2, fun _ _ _ => rfl⟩
noncomputable def f_X5_isOrder_zq10 : (Nat → Int32) → (Nat → Int32) → (Nat → Int32) → (Nat → Int32) := Classical.choose f_X5_isOrder_zq10_ex
theorem f_X5_isOrder_zq10_eq (v : Nat → Int32) (o : Nat → Int32) (z : Nat → Int32) : f_X5_isOrder_zq10 v o z = f_X5_isNumber_z (f_X5_isSign_v (upd v 8 (((v 8) + 1) + 1)) o 47) o (upd (upd z (4 * (v 10)).toNatClampNeg (o (v 8).toNatClampNeg)) ((4 * (v 10)) + 1).toNatClampNeg ((o ((v 8) + 1).toNatClampNeg) - 48)) 2 := Classical.choose_spec f_X5_isOrder_zq10_ex v o z
theorem f_X5_isOrder_rq12_ex : ∃ F : (Nat → Int32) → (Nat → Int32) → (Nat → Int32) → Int32, ∀ (v : Nat → Int32) (o : Nat → Int32) (z : Nat → Int32), F v o z = f_X5_isNumber_r (f_X5_isSign_v (f_X5_isOrder_vq10 v o z) o 42) o (f_X5_isOrder_zq10 v o z) 3 := ⟨fun v o z => f_X5_isNumber_r (f_X5_isSign_v (f_X5_isOrder_vq10 v o z) o 42) o (f_X5_isOrder_zq10 v o z) 3, fun _ _ _ => rfl⟩
noncomputable def f_X5_isOrder_rq12 : (Nat → Int32) → (Nat → Int32) → (Nat → Int32) → Int32 := Classical.choose f_X5_isOrder_rq12_ex
theorem f_X5_isOrder_rq12_eq (v : Nat → Int32) (o : Nat → Int32) (z : Nat → Int32) : f_X5_isOrder_rq12 v o z = f_X5_isNumber_r (f_X5_isSign_v (f_X5_isOrder_vq10 v o z) o 42) o (f_X5_isOrder_zq10 v o z) 3 := Classical.choose_spec f_X5_isOrder_rq12_ex v o z
theorem f_X5_isOrder_vq12_ex : ∃ F : (Nat → Int32) → (Nat → Int32) → (Nat → Int32) → (Nat → Int32), ∀ (v : Nat → Int32) (o : Nat → Int32) (z : Nat → Int32), F v o z = f_X5_isNumber_v (f_X5_isSign_v (f_X5_isOrder_vq10 v o z) o 42) o (f_X5_isOrder_zq10 v o z) 3 := ⟨fun v o z => f_X5_isNumber_v (f_X5_isSign_v (f_X5_isOrder_vq10 v o z) o 42) o (f_X5_isOrder_zq10 v o z) 3, fun _ _ _ => rfl⟩
noncomputable def f_X5_isOrder_vq12 : (Nat → Int32) → (Nat → Int32) → (Nat → Int32) → (Nat → Int32) := Classical.choose f_X5_isOrder_vq12_ex
theorem f_X5_isOrder_vq12_eq (v : Nat → Int32) (o : Nat → Int32) (z : Nat → Int32) : f_X5_isOrder_vq12 v o z = f_X5_isNumber_v (f_X5_isSign_v (f_X5_isOrder_vq10 v o z) o 42) o (f_X5_isOrder_zq10 v o z) 3 := Classical.choose_spec f_X5_isOrder_vq12_ex v o z
theorem f_X5_isOrder_zq12_ex : ∃ F : (Nat → Int32) → (Nat → Int32) → (Nat → Int32) → (Nat → Int32), ∀ (v : Nat → Int32) (o : Nat → Int32) (z : Nat → Int32), F v o z = f_X5_isNumber_z (f_X5_isSign_v (f_X5_isOrder_vq10 v o z) o 42) o (f_X5_isOrder_zq10 v o z) 3 := ⟨fun v o z => f_X5_isNumber_z (f_X5_isSign_v (f_X5_isOrder_vq10 v o z) o 42) o (f_X5_isOrder_zq10 v o z) 3, fun _ _ _ => rfl⟩
noncomputable def f_X5_isOrder_zq12 : (Nat → Int32) → (Nat → Int32) → (Nat → Int32) → (Nat → Int32) := Classical.choose f_X5_isOrder_zq12_ex
theorem f_X5_isOrder_zq12_eq (v : Nat → Int32) (o : Nat → Int32) (z : Nat → Int32) : f_X5_isOrder_zq12 v o z = f_X5_isNumber_z (f_X5_isSign_v (f_X5_isOrder_vq10 v o z) o 42) o (f_X5_isOrder_zq10 v o z) 3 := Classical.choose_spec f_X5_isOrder_zq12_ex v o z
theorem f_X5_isOrder_x13_ex : ∃ F : (Nat → Int32) → (Nat → Int32) → (Nat → Int32) → Int32, ∀ (v : Nat → Int32) (o : Nat → Int32) (z : Nat → Int32), F v o z = (if f_X5_isSign_r (upd v 8 (((v 8) + 1) + 1)) o 47 = 0 then 0 else (if (f_X5_isOrder_rq10 v o z) = 0 then 0 else (if f_X5_isSign_r (f_X5_isOrder_vq10 v o z) o 42 = 0 then 0 else (if (f_X5_isOrder_rq12 v o z) = 0 then 0 else 1)))) := ⟨fun v o z => (if f_X5_isSign_r (upd v 8 (((v 8) + 1) + 1)) o 47 = 0 then 0 else (if (f_X5_isOrder_rq10 v o z) = 0 then 0 else (if f_X5_isSign_r (f_X5_isOrder_vq10 v o z) o 42 = 0 then 0 else (if (f_X5_isOrder_rq12 v o z) = 0 then 0 else 1)))), fun _ _ _ => rfl⟩
noncomputable def f_X5_isOrder_x13 : (Nat → Int32) → (Nat → Int32) → (Nat → Int32) → Int32 := Classical.choose f_X5_isOrder_x13_ex
theorem f_X5_isOrder_x13_eq (v : Nat → Int32) (o : Nat → Int32) (z : Nat → Int32) : f_X5_isOrder_x13 v o z = (if f_X5_isSign_r (upd v 8 (((v 8) + 1) + 1)) o 47 = 0 then 0 else (if (f_X5_isOrder_rq10 v o z) = 0 then 0 else (if f_X5_isSign_r (f_X5_isOrder_vq10 v o z) o 42 = 0 then 0 else (if (f_X5_isOrder_rq12 v o z) = 0 then 0 else 1)))) := Classical.choose_spec f_X5_isOrder_x13_ex v o z
theorem f_X5_isOrder_v14_ex : ∃ F : (Nat → Int32) → (Nat → Int32) → (Nat → Int32) → (Nat → Int32), ∀ (v : Nat → Int32) (o : Nat → Int32) (z : Nat → Int32), F v o z = (if f_X5_isSign_r (upd v 8 (((v 8) + 1) + 1)) o 47 = 0 then f_X5_isSign_v (upd v 8 (((v 8) + 1) + 1)) o 47 else (if (f_X5_isOrder_rq10 v o z) = 0 then (f_X5_isOrder_vq10 v o z) else (if f_X5_isSign_r (f_X5_isOrder_vq10 v o z) o 42 = 0 then f_X5_isSign_v (f_X5_isOrder_vq10 v o z) o 42 else (f_X5_isOrder_vq12 v o z)))) := ⟨fun v o z => (if f_X5_isSign_r (upd v 8 (((v 8) + 1) + 1)) o 47 = 0 then f_X5_isSign_v (upd v 8 (((v 8) + 1) + 1)) o 47 else (if (f_X5_isOrder_rq10 v o z) = 0 then (f_X5_isOrder_vq10 v o z) else (if f_X5_isSign_r (f_X5_isOrder_vq10 v o z) o 42 = 0 then f_X5_isSign_v (f_X5_isOrder_vq10 v o z) o 42 else (f_X5_isOrder_vq12 v o z)))), fun _ _ _ => rfl⟩
noncomputable def f_X5_isOrder_v14 : (Nat → Int32) → (Nat → Int32) → (Nat → Int32) → (Nat → Int32) := Classical.choose f_X5_isOrder_v14_ex
theorem f_X5_isOrder_v14_eq (v : Nat → Int32) (o : Nat → Int32) (z : Nat → Int32) : f_X5_isOrder_v14 v o z = (if f_X5_isSign_r (upd v 8 (((v 8) + 1) + 1)) o 47 = 0 then f_X5_isSign_v (upd v 8 (((v 8) + 1) + 1)) o 47 else (if (f_X5_isOrder_rq10 v o z) = 0 then (f_X5_isOrder_vq10 v o z) else (if f_X5_isSign_r (f_X5_isOrder_vq10 v o z) o 42 = 0 then f_X5_isSign_v (f_X5_isOrder_vq10 v o z) o 42 else (f_X5_isOrder_vq12 v o z)))) := Classical.choose_spec f_X5_isOrder_v14_ex v o z
theorem f_X5_isOrder_v15_ex : ∃ F : (Nat → Int32) → (Nat → Int32) → (Nat → Int32) → (Nat → Int32), ∀ (v : Nat → Int32) (o : Nat → Int32) (z : Nat → Int32), F v o z = (if f_X5_isSign_r (upd v 8 (((v 8) + 1) + 1)) o 47 = 0 then upd (upd z (4 * (v 10)).toNatClampNeg (o (v 8).toNatClampNeg)) ((4 * (v 10)) + 1).toNatClampNeg ((o ((v 8) + 1).toNatClampNeg) - 48) else (if (f_X5_isOrder_rq10 v o z) = 0 then (f_X5_isOrder_zq10 v o z) else (if f_X5_isSign_r (f_X5_isOrder_vq10 v o z) o 42 = 0 then (f_X5_isOrder_zq10 v o z) else (f_X5_isOrder_zq12 v o z)))) := ⟨fun v o z => (if f_X5_isSign_r (upd v 8 (((v 8) + 1) + 1)) o 47 = 0 then upd (upd z (4 * (v 10)).toNatClampNeg (o (v 8).toNatClampNeg)) ((4 * (v 10)) + 1).toNatClampNeg ((o ((v 8) + 1).toNatClampNeg) - 48) else (if (f_X5_isOrder_rq10 v o z) = 0 then (f_X5_isOrder_zq10 v o z) else (if f_X5_isSign_r (f_X5_isOrder_vq10 v o z) o 42 = 0 then (f_X5_isOrder_zq10 v o z) else (f_X5_isOrder_zq12 v o z)))), fun _ _ _ => rfl⟩
noncomputable def f_X5_isOrder_v15 : (Nat → Int32) → (Nat → Int32) → (Nat → Int32) → (Nat → Int32) := Classical.choose f_X5_isOrder_v15_ex
theorem f_X5_isOrder_v15_eq (v : Nat → Int32) (o : Nat → Int32) (z : Nat → Int32) : f_X5_isOrder_v15 v o z = (if f_X5_isSign_r (upd v 8 (((v 8) + 1) + 1)) o 47 = 0 then upd (upd z (4 * (v 10)).toNatClampNeg (o (v 8).toNatClampNeg)) ((4 * (v 10)) + 1).toNatClampNeg ((o ((v 8) + 1).toNatClampNeg) - 48) else (if (f_X5_isOrder_rq10 v o z) = 0 then (f_X5_isOrder_zq10 v o z) else (if f_X5_isSign_r (f_X5_isOrder_vq10 v o z) o 42 = 0 then (f_X5_isOrder_zq10 v o z) else (f_X5_isOrder_zq12 v o z)))) := Classical.choose_spec f_X5_isOrder_v15_ex v o z
theorem f_X5_isOrder_rq16_ex : ∃ F : (Nat → Int32) → (Nat → Int32) → (Nat → Int32) → Int32, ∀ (v : Nat → Int32) (o : Nat → Int32) (z : Nat → Int32), F v o z = f_X5_isNumber_r (upd v 8 ((v 8) + 1)) o (upd z (4 * (v 10)).toNatClampNeg (o (v 8).toNatClampNeg)) 1 := ⟨fun v o z => f_X5_isNumber_r (upd v 8 ((v 8) + 1)) o (upd z (4 * (v 10)).toNatClampNeg (o (v 8).toNatClampNeg)) 1, fun _ _ _ => rfl⟩
noncomputable def f_X5_isOrder_rq16 : (Nat → Int32) → (Nat → Int32) → (Nat → Int32) → Int32 := Classical.choose f_X5_isOrder_rq16_ex
theorem f_X5_isOrder_rq16_eq (v : Nat → Int32) (o : Nat → Int32) (z : Nat → Int32) : f_X5_isOrder_rq16 v o z = f_X5_isNumber_r (upd v 8 ((v 8) + 1)) o (upd z (4 * (v 10)).toNatClampNeg (o (v 8).toNatClampNeg)) 1 := Classical.choose_spec f_X5_isOrder_rq16_ex v o z
theorem f_X5_isOrder_vq16_ex : ∃ F : (Nat → Int32) → (Nat → Int32) → (Nat → Int32) → (Nat → Int32), ∀ (v : Nat → Int32) (o : Nat → Int32) (z : Nat → Int32), F v o z = f_X5_isNumber_v (upd v 8 ((v 8) + 1)) o (upd z (4 * (v 10)).toNatClampNeg (o (v 8).toNatClampNeg)) 1 := ⟨fun v o z => f_X5_isNumber_v (upd v 8 ((v 8) + 1)) o (upd z (4 * (v 10)).toNatClampNeg (o (v 8).toNatClampNeg)) 1, fun _ _ _ => rfl⟩
noncomputable def f_X5_isOrder_vq16 : (Nat → Int32) → (Nat → Int32) → (Nat → Int32) → (Nat → Int32) := Classical.choose f_X5_isOrder_vq16_ex
theorem f_X5_isOrder_vq16_eq (v : Nat → Int32) (o : Nat → Int32) (z : Nat → Int32) : f_X5_isOrder_vq16 v o z = f_X5_isNumber_v (upd v 8 ((v 8) + 1)) o (upd z (4 * (v 10)).toNatClampNeg (o (v 8).toNatClampNeg)) 1 := Classical.choose_spec f_X5_isOrder_vq16_ex v o z
theorem f_X5_isOrder_zq16_ex : ∃ F : (Nat → Int32) → (Nat → Int32) → (Nat → Int32) → (Nat → Int32), ∀ (v : Nat → Int32) (o : Nat → Int32) (z : Nat → Int32), F v o z = f_X5_isNumber_z (upd v 8 ((v 8) + 1)) o (upd z (4 * (v 10)).toNatClampNeg (o (v 8).toNatClampNeg)) 1 := ⟨fun v o z => f_X5_isNumber_z (upd v 8 ((v 8) + 1)) o (upd z (4 * (v 10)).toNatClampNeg (o (v 8).toNatClampNeg)) 1, fun _ _ _ => rfl⟩
noncomputable def f_X5_isOrder_zq16 : (Nat → Int32) → (Nat → Int32) → (Nat → Int32) → (Nat → Int32) := Classical.choose f_X5_isOrder_zq16_ex
theorem f_X5_isOrder_zq16_eq (v : Nat → Int32) (o : Nat → Int32) (z : Nat → Int32) : f_X5_isOrder_zq16 v o z = f_X5_isNumber_z (upd v 8 ((v 8) + 1)) o (upd z (4 * (v 10)).toNatClampNeg (o (v 8).toNatClampNeg)) 1 := Classical.choose_spec f_X5_isOrder_zq16_ex v o z
theorem f_X5_isOrder_vT57_ex : ∃ F : (Nat → Int32) → (Nat → Int32) → (Nat → Int32) → (Nat → Int32), ∀ (v : Nat → Int32) (o : Nat → Int32) (z : Nat → Int32), F v o z = (if o (v 8).toNatClampNeg = 116 then (f_X5_isOrder_vq16 v o z) else (if f_X5_isAt_r (upd v 8 ((v 8) + 1)) o 48 51 = 0 then upd v 8 ((v 8) + 1) else (if o (v 8).toNatClampNeg = 118 then (f_X5_isOrder_v14 v o z) else (f_X5_isOrder_v7 v o z)))) := ⟨fun v o z => (if o (v 8).toNatClampNeg = 116 then (f_X5_isOrder_vq16 v o z) else (if f_X5_isAt_r (upd v 8 ((v 8) + 1)) o 48 51 = 0 then upd v 8 ((v 8) + 1) else (if o (v 8).toNatClampNeg = 118 then (f_X5_isOrder_v14 v o z) else (f_X5_isOrder_v7 v o z)))), fun _ _ _ => rfl⟩
noncomputable def f_X5_isOrder_vT57 : (Nat → Int32) → (Nat → Int32) → (Nat → Int32) → (Nat → Int32) := Classical.choose f_X5_isOrder_vT57_ex
theorem f_X5_isOrder_vT57_eq (v : Nat → Int32) (o : Nat → Int32) (z : Nat → Int32) : f_X5_isOrder_vT57 v o z = (if o (v 8).toNatClampNeg = 116 then (f_X5_isOrder_vq16 v o z) else (if f_X5_isAt_r (upd v 8 ((v 8) + 1)) o 48 51 = 0 then upd v 8 ((v 8) + 1) else (if o (v 8).toNatClampNeg = 118 then (f_X5_isOrder_v14 v o z) else (f_X5_isOrder_v7 v o z)))) := Classical.choose_spec f_X5_isOrder_vT57_ex v o z
theorem f_X5_isOrder_zT57_ex : ∃ F : (Nat → Int32) → (Nat → Int32) → (Nat → Int32) → (Nat → Int32), ∀ (v : Nat → Int32) (o : Nat → Int32) (z : Nat → Int32), F v o z = (if o (v 8).toNatClampNeg = 116 then (f_X5_isOrder_zq16 v o z) else (if f_X5_isAt_r (upd v 8 ((v 8) + 1)) o 48 51 = 0 then upd z (4 * (v 10)).toNatClampNeg (o (v 8).toNatClampNeg) else (if o (v 8).toNatClampNeg = 118 then (f_X5_isOrder_v15 v o z) else (f_X5_isOrder_v8 v o z)))) := ⟨fun v o z => (if o (v 8).toNatClampNeg = 116 then (f_X5_isOrder_zq16 v o z) else (if f_X5_isAt_r (upd v 8 ((v 8) + 1)) o 48 51 = 0 then upd z (4 * (v 10)).toNatClampNeg (o (v 8).toNatClampNeg) else (if o (v 8).toNatClampNeg = 118 then (f_X5_isOrder_v15 v o z) else (f_X5_isOrder_v8 v o z)))), fun _ _ _ => rfl⟩
noncomputable def f_X5_isOrder_zT57 : (Nat → Int32) → (Nat → Int32) → (Nat → Int32) → (Nat → Int32) := Classical.choose f_X5_isOrder_zT57_ex
theorem f_X5_isOrder_zT57_eq (v : Nat → Int32) (o : Nat → Int32) (z : Nat → Int32) : f_X5_isOrder_zT57 v o z = (if o (v 8).toNatClampNeg = 116 then (f_X5_isOrder_zq16 v o z) else (if f_X5_isAt_r (upd v 8 ((v 8) + 1)) o 48 51 = 0 then upd z (4 * (v 10)).toNatClampNeg (o (v 8).toNatClampNeg) else (if o (v 8).toNatClampNeg = 118 then (f_X5_isOrder_v15 v o z) else (f_X5_isOrder_v8 v o z)))) := Classical.choose_spec f_X5_isOrder_zT57_ex v o z
theorem f_X5_isOrder_rT57_ex : ∃ F : (Nat → Int32) → (Nat → Int32) → (Nat → Int32) → Int32, ∀ (v : Nat → Int32) (o : Nat → Int32) (z : Nat → Int32), F v o z = (if o (v 8).toNatClampNeg = 116 then (f_X5_isOrder_rq16 v o z) else (if f_X5_isAt_r (upd v 8 ((v 8) + 1)) o 48 51 = 0 then 0 else (if o (v 8).toNatClampNeg = 118 then (f_X5_isOrder_x13 v o z) else (f_X5_isOrder_x6 v o z)))) := ⟨fun v o z => (if o (v 8).toNatClampNeg = 116 then (f_X5_isOrder_rq16 v o z) else (if f_X5_isAt_r (upd v 8 ((v 8) + 1)) o 48 51 = 0 then 0 else (if o (v 8).toNatClampNeg = 118 then (f_X5_isOrder_x13 v o z) else (f_X5_isOrder_x6 v o z)))), fun _ _ _ => rfl⟩
noncomputable def f_X5_isOrder_rT57 : (Nat → Int32) → (Nat → Int32) → (Nat → Int32) → Int32 := Classical.choose f_X5_isOrder_rT57_ex
theorem f_X5_isOrder_rT57_eq (v : Nat → Int32) (o : Nat → Int32) (z : Nat → Int32) : f_X5_isOrder_rT57 v o z = (if o (v 8).toNatClampNeg = 116 then (f_X5_isOrder_rq16 v o z) else (if f_X5_isAt_r (upd v 8 ((v 8) + 1)) o 48 51 = 0 then 0 else (if o (v 8).toNatClampNeg = 118 then (f_X5_isOrder_x13 v o z) else (f_X5_isOrder_x6 v o z)))) := Classical.choose_spec f_X5_isOrder_rT57_ex v o z
theorem f_X5_isOrder_v_ex : ∃ F : (Nat → Int32) → (Nat → Int32) → (Nat → Int32) → (Nat → Int32), ∀ (v : Nat → Int32) (o : Nat → Int32) (z : Nat → Int32), F v o z = (if f_X5_isAt_r v o 115 115 = 0 then (if f_X5_isAt_r v o 103 103 = 0 then (if f_X5_isAt_r v o 119 119 = 0 then (if f_X5_isAt_r v o 118 118 = 0 then (if f_X5_isAt_r v o 116 116 = 0 then v else f_X5_isOrder_vT57 v o z) else f_X5_isOrder_vT57 v o z) else f_X5_isOrder_vT57 v o z) else f_X5_isOrder_vT57 v o z) else f_X5_isOrder_vT57 v o z) := ⟨fun v o z => (if f_X5_isAt_r v o 115 115 = 0 then (if f_X5_isAt_r v o 103 103 = 0 then (if f_X5_isAt_r v o 119 119 = 0 then (if f_X5_isAt_r v o 118 118 = 0 then (if f_X5_isAt_r v o 116 116 = 0 then v else f_X5_isOrder_vT57 v o z) else f_X5_isOrder_vT57 v o z) else f_X5_isOrder_vT57 v o z) else f_X5_isOrder_vT57 v o z) else f_X5_isOrder_vT57 v o z), fun _ _ _ => rfl⟩
noncomputable def f_X5_isOrder_v : (Nat → Int32) → (Nat → Int32) → (Nat → Int32) → (Nat → Int32) := Classical.choose f_X5_isOrder_v_ex
theorem f_X5_isOrder_v_eq (v : Nat → Int32) (o : Nat → Int32) (z : Nat → Int32) : f_X5_isOrder_v v o z = (if f_X5_isAt_r v o 115 115 = 0 then (if f_X5_isAt_r v o 103 103 = 0 then (if f_X5_isAt_r v o 119 119 = 0 then (if f_X5_isAt_r v o 118 118 = 0 then (if f_X5_isAt_r v o 116 116 = 0 then v else f_X5_isOrder_vT57 v o z) else f_X5_isOrder_vT57 v o z) else f_X5_isOrder_vT57 v o z) else f_X5_isOrder_vT57 v o z) else f_X5_isOrder_vT57 v o z) := Classical.choose_spec f_X5_isOrder_v_ex v o z
theorem f_X5_isOrder_z_ex : ∃ F : (Nat → Int32) → (Nat → Int32) → (Nat → Int32) → (Nat → Int32), ∀ (v : Nat → Int32) (o : Nat → Int32) (z : Nat → Int32), F v o z = (if f_X5_isAt_r v o 115 115 = 0 then (if f_X5_isAt_r v o 103 103 = 0 then (if f_X5_isAt_r v o 119 119 = 0 then (if f_X5_isAt_r v o 118 118 = 0 then (if f_X5_isAt_r v o 116 116 = 0 then z else f_X5_isOrder_zT57 v o z) else f_X5_isOrder_zT57 v o z) else f_X5_isOrder_zT57 v o z) else f_X5_isOrder_zT57 v o z) else f_X5_isOrder_zT57 v o z) := ⟨fun v o z => (if f_X5_isAt_r v o 115 115 = 0 then (if f_X5_isAt_r v o 103 103 = 0 then (if f_X5_isAt_r v o 119 119 = 0 then (if f_X5_isAt_r v o 118 118 = 0 then (if f_X5_isAt_r v o 116 116 = 0 then z else f_X5_isOrder_zT57 v o z) else f_X5_isOrder_zT57 v o z) else f_X5_isOrder_zT57 v o z) else f_X5_isOrder_zT57 v o z) else f_X5_isOrder_zT57 v o z), fun _ _ _ => rfl⟩
noncomputable def f_X5_isOrder_z : (Nat → Int32) → (Nat → Int32) → (Nat → Int32) → (Nat → Int32) := Classical.choose f_X5_isOrder_z_ex
theorem f_X5_isOrder_z_eq (v : Nat → Int32) (o : Nat → Int32) (z : Nat → Int32) : f_X5_isOrder_z v o z = (if f_X5_isAt_r v o 115 115 = 0 then (if f_X5_isAt_r v o 103 103 = 0 then (if f_X5_isAt_r v o 119 119 = 0 then (if f_X5_isAt_r v o 118 118 = 0 then (if f_X5_isAt_r v o 116 116 = 0 then z else f_X5_isOrder_zT57 v o z) else f_X5_isOrder_zT57 v o z) else f_X5_isOrder_zT57 v o z) else f_X5_isOrder_zT57 v o z) else f_X5_isOrder_zT57 v o z) := Classical.choose_spec f_X5_isOrder_z_ex v o z
theorem f_X5_isOrder_r_ex : ∃ F : (Nat → Int32) → (Nat → Int32) → (Nat → Int32) → Int32, ∀ (v : Nat → Int32) (o : Nat → Int32) (z : Nat → Int32), F v o z = (if f_X5_isAt_r v o 115 115 = 0 then (if f_X5_isAt_r v o 103 103 = 0 then (if f_X5_isAt_r v o 119 119 = 0 then (if f_X5_isAt_r v o 118 118 = 0 then (if f_X5_isAt_r v o 116 116 = 0 then 0 else f_X5_isOrder_rT57 v o z) else f_X5_isOrder_rT57 v o z) else f_X5_isOrder_rT57 v o z) else f_X5_isOrder_rT57 v o z) else f_X5_isOrder_rT57 v o z) := ⟨fun v o z => (if f_X5_isAt_r v o 115 115 = 0 then (if f_X5_isAt_r v o 103 103 = 0 then (if f_X5_isAt_r v o 119 119 = 0 then (if f_X5_isAt_r v o 118 118 = 0 then (if f_X5_isAt_r v o 116 116 = 0 then 0 else f_X5_isOrder_rT57 v o z) else f_X5_isOrder_rT57 v o z) else f_X5_isOrder_rT57 v o z) else f_X5_isOrder_rT57 v o z) else f_X5_isOrder_rT57 v o z), fun _ _ _ => rfl⟩
noncomputable def f_X5_isOrder_r : (Nat → Int32) → (Nat → Int32) → (Nat → Int32) → Int32 := Classical.choose f_X5_isOrder_r_ex
theorem f_X5_isOrder_r_eq (v : Nat → Int32) (o : Nat → Int32) (z : Nat → Int32) : f_X5_isOrder_r v o z = (if f_X5_isAt_r v o 115 115 = 0 then (if f_X5_isAt_r v o 103 103 = 0 then (if f_X5_isAt_r v o 119 119 = 0 then (if f_X5_isAt_r v o 118 118 = 0 then (if f_X5_isAt_r v o 116 116 = 0 then 0 else f_X5_isOrder_rT57 v o z) else f_X5_isOrder_rT57 v o z) else f_X5_isOrder_rT57 v o z) else f_X5_isOrder_rT57 v o z) else f_X5_isOrder_rT57 v o z) := Classical.choose_spec f_X5_isOrder_r_ex v o z
set_option maxRecDepth 100000 in
set_option maxHeartbeats 4000000 in
theorem m_X5_isOrder (l : Launch) (G : GG) (a nw th ps sl hd pd od : Nat) (v : Nat → Int32) (o : Nat → Int32) (z : Nat → Int32) (hP : okP v) : CtI l yX5_isOrder cX5_isOrder 2 (some .boolean) (RM 4) G [.ref a] ([oM a nw th ps sl hd pd od v, aI G pd 80 o, aI G od 164 z]) (f_X5_isOrder_r v o z) ([oM a nw th ps sl hd pd od (f_X5_isOrder_v v o z), aI G pd 80 o, aI G od 164 (f_X5_isOrder_z v o z)]) := by
  refine ct_I RX5 [(0, .ref a)] rfl (by decide +kernel) (Nat.le_of_ble_eq_true rfl) rfl ?_
  intro p e s m args below meth c A C hr hk hnm
  generalize hQ : (MQ below (PostI G A (f_X5_isOrder_r v o z) ([oM a nw th ps sl hd pd od (f_X5_isOrder_v v o z), aI G pd 80 o, aI G od 164 (f_X5_isOrder_z v o z)])) args s (RM 4).cells (RM 4).slots A) = Q
  refine j_aload_n C dX5_isOrder_0 0 rfl ?_
  refine j_bipush (v := 115) C dX5_isOrder_1 (by decide) ?_
  refine j_bipush (v := 115) C dX5_isOrder_3 (by decide) ?_
  refine j_callV_i (r := f_X5_isAt_r v o 115 115) (wc' := [oM a nw th ps sl hd pd od v, aI G pd 80 o]) C (m_X5_isAt l G a nw th ps sl hd pd od v o 115 115 hP.a hP.b) rfl 0 rfl 2 (gV kw_737 kw_738 kw_785 kw_7 kw_739) (by decide +kernel) ⟨(Nat.le_of_ble_eq_true rfl), (Nat.le_of_ble_eq_true rfl)⟩ rfl rfl (Nat.le_of_ble_eq_true rfl) dX5_isOrder_5 ⟨(Nat.le_of_ble_eq_true rfl), (Nat.le_of_ble_eq_true rfl)⟩ [aI G od 164 z] [oM a nw th ps sl hd pd od v, aI G pd 80 o, aI G od 164 z] (perm_idx [0, 1, 2] 3 rfl (by decide +kernel) rfl) rfl ?_
  have K57 : f_X5_isOrder_v v o z = f_X5_isOrder_vT57 v o z → f_X5_isOrder_z v o z = f_X5_isOrder_zT57 v o z → f_X5_isOrder_r v o z = f_X5_isOrder_rT57 v o z → (v 8).toInt < (v 7).toInt → WJ p l e (RM 4) s m args below meth c G A 2 0 0 Q ([oM a nw th ps sl hd pd od v, aI G pd 80 o, aI G od 164 z]) [(0, .ref a)] 57 [] := by
    intro hT0 hT1 hTr hT8
    refine j_aload_n C dX5_isOrder_57 0 rfl ?_
    refine j_get C kin5 rfl 0 rfl 6 (by decide) kw_495 rfl (v := .ref pd) rfl dX5_isOrder_58 ?_
    refine j_aload_n C dX5_isOrder_61 0 rfl ?_
    refine j_get C kin5 rfl 0 rfl 8 (by decide) kw_497 rfl (v := .int (v 8)) rfl dX5_isOrder_62 ?_
    refine j_iald C 1 rfl (hP.at1 hT8) (v := o (v 8).toNatClampNeg) rfl dX5_isOrder_65 ?_
    refine j_istore_n C [(1, .int (o (v 8).toNatClampNeg)), (0, .ref a)] dX5_isOrder_66 (by decide) rfl ?_
    refine j_aload_n C dX5_isOrder_67 1 rfl ?_
    refine j_get C kin5 rfl 0 rfl 9 (by decide) kw_498 rfl (v := .ref od) rfl dX5_isOrder_68 ?_
    refine j_iconst (v := 4) C dX5_isOrder_71 (by decide) ?_
    refine j_aload_n C dX5_isOrder_72 1 rfl ?_
    refine j_get C kin5 rfl 0 rfl 10 (by decide) kw_499 rfl (v := .int (v 10)) rfl dX5_isOrder_73 ?_
    refine j_imul C dX5_isOrder_76 rfl ?_
    refine j_iload_n C dX5_isOrder_77 0 rfl ?_
    refine j_iast C 2 rfl hP.ord0 ([oM a nw th ps sl hd pd od v, aI G pd 80 o, aI G od 164 (upd z (4 * (v 10)).toNatClampNeg (o (v 8).toNatClampNeg))]) rfl dX5_isOrder_78 ?_
    refine j_aload_n C dX5_isOrder_79 1 rfl ?_
    refine j_dup C dX5_isOrder_80 rfl ?_
    refine j_get C kin5 rfl 0 rfl 8 (by decide) kw_497 rfl (v := .int (v 8)) rfl dX5_isOrder_81 ?_
    refine j_iconst (v := 1) C dX5_isOrder_84 (by decide) ?_
    refine j_iadd C dX5_isOrder_85 rfl ?_
    generalize hw0 : (v 8) + 1 = w0
    refine j_put C kin5 rfl 0 rfl 8 (by decide) kw_497 rfl tyX5 tyX5_ok nmX5 rfl rfl rfl (Nat.le_of_ble_eq_true rfl) ([oM a nw th ps sl hd pd od (upd v 8 w0), aI G pd 80 o, aI G od 164 (upd z (4 * (v 10)).toNatClampNeg (o (v 8).toNatClampNeg))]) rfl dX5_isOrder_86 ?_
    have oP86 : okP (upd v 8 w0) := by subst hw0; exact hP.inc1 hT8
    refine j_iload_n C dX5_isOrder_89 0 rfl ?_
    refine j_bipush (v := 116) C dX5_isOrder_90 (by decide) ?_
    refine j_icmp_ne (tgt := 101) C dX5_isOrder_92 (by decide) (fun c92 => ?_) (fun c92 => ?_)
    · refine j_aload_n C dX5_isOrder_101 1 rfl ?_
      refine j_bipush (v := 48) C dX5_isOrder_102 (by decide) ?_
      refine j_bipush (v := 51) C dX5_isOrder_104 (by decide) ?_
      refine j_callV_i (r := f_X5_isAt_r (upd v 8 w0) o 48 51) (wc' := [oM a nw th ps sl hd pd od (upd v 8 w0), aI G pd 80 o]) C (m_X5_isAt l G a nw th ps sl hd pd od (upd v 8 w0) o 48 51 oP86.a oP86.b) rfl 0 rfl 2 (gV kw_737 kw_738 kw_785 kw_7 kw_739) (by decide +kernel) ⟨(Nat.le_of_ble_eq_true rfl), (Nat.le_of_ble_eq_true rfl)⟩ rfl rfl (Nat.le_of_ble_eq_true rfl) dX5_isOrder_106 ⟨(Nat.le_of_ble_eq_true rfl), (Nat.le_of_ble_eq_true rfl)⟩ [aI G od 164 (upd z (4 * (v 10)).toNatClampNeg (o (v 8).toNatClampNeg))] [oM a nw th ps sl hd pd od (upd v 8 w0), aI G pd 80 o, aI G od 164 (upd z (4 * (v 10)).toNatClampNeg (o (v 8).toNatClampNeg))] (perm_idx [0, 1, 2] 3 rfl (by decide +kernel) rfl) rfl ?_
      refine j_if_ne (tgt := 114) C dX5_isOrder_109 (by decide) (fun c109 => ?_) (fun c109 => ?_)
      · refine j_aload_n C dX5_isOrder_114 1 rfl ?_
        refine j_get C kin5 rfl 0 rfl 9 (by decide) kw_498 rfl (v := .ref od) rfl dX5_isOrder_115 ?_
        refine j_iconst (v := 4) C dX5_isOrder_118 (by decide) ?_
        refine j_aload_n C dX5_isOrder_119 1 rfl ?_
        refine j_get C kin5 rfl 0 rfl 10 (by decide) kw_499 rfl (v := .int (v 10)) rfl dX5_isOrder_120 ?_
        refine j_imul C dX5_isOrder_123 rfl ?_
        refine j_iconst (v := 1) C dX5_isOrder_124 (by decide) ?_
        refine j_iadd C dX5_isOrder_125 rfl ?_
        refine j_aload_n C dX5_isOrder_126 1 rfl ?_
        refine j_get C kin5 rfl 0 rfl 6 (by decide) kw_495 rfl (v := .ref pd) rfl dX5_isOrder_127 ?_
        refine j_aload_n C dX5_isOrder_130 1 rfl ?_
        refine j_get C kin5 rfl 0 rfl 8 (by decide) kw_497 rfl (v := .int w0) rfl dX5_isOrder_131 ?_
        refine j_iald C 1 rfl (oP86.at c109) (v := o w0.toNatClampNeg) rfl dX5_isOrder_134 ?_
        refine j_bipush (v := 48) C dX5_isOrder_135 (by decide) ?_
        refine j_isub C dX5_isOrder_137 rfl ?_
        generalize hw1 : (o w0.toNatClampNeg) - 48 = w1
        refine j_iast C 2 rfl (hP.ord (vin_lit (by decide))) ([oM a nw th ps sl hd pd od (upd v 8 w0), aI G pd 80 o, aI G od 164 (upd (upd z (4 * (v 10)).toNatClampNeg (o (v 8).toNatClampNeg)) ((4 * (v 10)) + 1).toNatClampNeg w1)]) rfl dX5_isOrder_138 ?_
        refine j_aload_n C dX5_isOrder_139 1 rfl ?_
        refine j_dup C dX5_isOrder_140 rfl ?_
        refine j_get C kin5 rfl 0 rfl 8 (by decide) kw_497 rfl (v := .int w0) rfl dX5_isOrder_141 ?_
        refine j_iconst (v := 1) C dX5_isOrder_144 (by decide) ?_
        refine j_iadd C dX5_isOrder_145 rfl ?_
        generalize hw2 : w0 + 1 = w2
        refine j_put C kin5 rfl 0 rfl 8 (by decide) kw_497 rfl tyX5 tyX5_ok nmX5 rfl rfl rfl (Nat.le_of_ble_eq_true rfl) ([oM a nw th ps sl hd pd od (upd v 8 w2), aI G pd 80 o, aI G od 164 (upd (upd z (4 * (v 10)).toNatClampNeg (o (v 8).toNatClampNeg)) ((4 * (v 10)) + 1).toNatClampNeg w1)]) rfl dX5_isOrder_146 ?_
        have oP146 : okP (upd v 8 w2) := by subst hw2; exact oP86.inc c109
        refine j_iload_n C dX5_isOrder_149 0 rfl ?_
        refine j_bipush (v := 118) C dX5_isOrder_150 (by decide) ?_
        refine j_icmp_ne (tgt := 195) C dX5_isOrder_152 (by decide) (fun c152 => ?_) (fun c152 => ?_)
        · refine j_aload_n C dX5_isOrder_195 1 rfl ?_
          refine j_iload_n C dX5_isOrder_196 0 rfl ?_
          refine j_bipush (v := 119) C dX5_isOrder_197 (by decide) ?_
          have K209 : WJ p l e (RM 4) s m args below meth c G A 2 0 0 Q ([oM a nw th ps sl hd pd od (upd v 8 w2), aI G pd 80 o, aI G od 164 (upd (upd z (4 * (v 10)).toNatClampNeg (o (v 8).toNatClampNeg)) ((4 * (v 10)) + 1).toNatClampNeg w1)]) [(1, .int (o (v 8).toNatClampNeg)), (0, .ref a)] 209 [.int (f_X5_isOrder_x3 v o z), .ref a] := by
            generalize hw3 : f_X5_isOrder_x3 v o z = w3
            refine j_callV_i (r := f_X5_isSign_r (upd v 8 w2) o w3) (wc' := [oM a nw th ps sl hd pd od (f_X5_isSign_v (upd v 8 w2) o w3), aI G pd 80 o]) C (m_X5_isSign l G a nw th ps sl hd pd od (upd v 8 w2) o w3 oP146.a oP146.b) rfl 0 rfl 1 (gV kw_743 kw_744 kw_787 kw_7 kw_745) (by decide +kernel) ⟨(Nat.le_of_ble_eq_true rfl), (Nat.le_of_ble_eq_true rfl)⟩ rfl rfl (Nat.le_of_ble_eq_true rfl) dX5_isOrder_209 ⟨(Nat.le_of_ble_eq_true rfl), (Nat.le_of_ble_eq_true rfl)⟩ [aI G od 164 (upd (upd z (4 * (v 10)).toNatClampNeg (o (v 8).toNatClampNeg)) ((4 * (v 10)) + 1).toNatClampNeg w1)] [oM a nw th ps sl hd pd od (f_X5_isSign_v (upd v 8 w2) o w3), aI G pd 80 o, aI G od 164 (upd (upd z (4 * (v 10)).toNatClampNeg (o (v 8).toNatClampNeg)) ((4 * (v 10)) + 1).toNatClampNeg w1)] (perm_idx [0, 1, 2] 3 rfl (by decide +kernel) rfl) rfl ?_
            generalize hzw4 : f_X5_isSign_r (upd v 8 w2) o w3 = w4
            have hw4 : f_X5_isOrder_rq4 v o z = w4 := by subst hw0 hw1 hw2 hw3; subst hzw4; exact (f_X5_isOrder_rq4_eq v o z)
            generalize hzw5 : f_X5_isSign_v (upd v 8 w2) o w3 = w5
            have hw5 : f_X5_isOrder_vq4 v o z = w5 := by subst hw0 hw1 hw2 hw3 hw4; subst hzw5; exact (f_X5_isOrder_vq4_eq v o z)
            have oP209 : okP w5 := by rw [← hzw5]; exact (sign_ok oP146).1
            have K228 : WJ p l e (RM 4) s m args below meth c G A 2 0 0 Q ([oM a nw th ps sl hd pd od (f_X5_isOrder_v7 v o z), aI G pd 80 o, aI G od 164 (f_X5_isOrder_v8 v o z)]) [(1, .int (o (v 8).toNatClampNeg)), (0, .ref a)] 228 [.int (f_X5_isOrder_x6 v o z)] := by
              generalize hw9 : f_X5_isOrder_x6 v o z = w9
              generalize hw10 : f_X5_isOrder_v7 v o z = w10
              generalize hw11 : f_X5_isOrder_v8 v o z = w11
              subst hQ; subst hw0 hw1 hw2 hw3 hw4 hw5 hw9 hw10 hw11; exact j_zret C hr hk (by rw [f_X5_isOrder_x6_eq]; (repeat' split) <;> rfl) ((show f_X5_isOrder_r v o z = (f_X5_isOrder_x6 v o z) from hTr.trans ((f_X5_isOrder_rT57_eq v o z).trans ((if_neg c92).trans ((if_neg c109).trans (if_neg c152))))).symm) (by rw [show f_X5_isOrder_v v o z = (f_X5_isOrder_v7 v o z) from hT0.trans ((f_X5_isOrder_vT57_eq v o z).trans ((if_neg c92).trans ((if_neg c109).trans (if_neg c152)))), show f_X5_isOrder_z v o z = (f_X5_isOrder_v8 v o z) from hT1.trans ((f_X5_isOrder_zT57_eq v o z).trans ((if_neg c92).trans ((if_neg c109).trans (if_neg c152))))]) dX5_isOrder_228
            refine j_if_eq (tgt := 227) C dX5_isOrder_212 (by decide) (fun c212 => ?_) (fun c212 => ?_)
            · refine j_iconst (v := 0) C dX5_isOrder_227 (by decide) ?_
              subst hw0 hw1 hw2 hw3 hw4 hw5; exact j_eq (by rw [show f_X5_isOrder_v7 v o z = (f_X5_isOrder_vq4 v o z) from ((f_X5_isOrder_v7_eq v o z).trans (if_pos c212)), show f_X5_isOrder_v8 v o z = upd (upd z (4 * (v 10)).toNatClampNeg (o (v 8).toNatClampNeg)) ((4 * (v 10)) + 1).toNatClampNeg ((o ((v 8) + 1).toNatClampNeg) - 48) from ((f_X5_isOrder_v8_eq v o z).trans (if_pos c212))]) rfl (by rw [show f_X5_isOrder_x6 v o z = 0 from ((f_X5_isOrder_x6_eq v o z).trans (if_pos c212))]) K228
            · refine j_aload_n C dX5_isOrder_215 1 rfl ?_
              refine j_iconst (v := 2) C dX5_isOrder_216 (by decide) ?_
              refine j_callV_i (r := f_X5_isNumber_r w5 o (upd (upd z (4 * (v 10)).toNatClampNeg (o (v 8).toNatClampNeg)) ((4 * (v 10)) + 1).toNatClampNeg w1) 2) (wc' := [oM a nw th ps sl hd pd od (f_X5_isNumber_v w5 o (upd (upd z (4 * (v 10)).toNatClampNeg (o (v 8).toNatClampNeg)) ((4 * (v 10)) + 1).toNatClampNeg w1) 2), aI G pd 80 o, aI G od 164 (f_X5_isNumber_z w5 o (upd (upd z (4 * (v 10)).toNatClampNeg (o (v 8).toNatClampNeg)) ((4 * (v 10)) + 1).toNatClampNeg w1) 2)]) C (m_X5_isNumber l G a nw th ps sl hd pd od w5 o (upd (upd z (4 * (v 10)).toNatClampNeg (o (v 8).toNatClampNeg)) ((4 * (v 10)) + 1).toNatClampNeg w1) 2 oP209 (vin_lit (by decide))) rfl 0 rfl 1 (gV kw_740 kw_741 kw_786 kw_7 kw_742) (by decide +kernel) ⟨(Nat.le_of_ble_eq_true rfl), (Nat.le_of_ble_eq_true rfl)⟩ rfl rfl (Nat.le_of_ble_eq_true rfl) dX5_isOrder_217 ⟨(Nat.le_of_ble_eq_true rfl), (Nat.le_of_ble_eq_true rfl)⟩ [] [oM a nw th ps sl hd pd od (f_X5_isNumber_v w5 o (upd (upd z (4 * (v 10)).toNatClampNeg (o (v 8).toNatClampNeg)) ((4 * (v 10)) + 1).toNatClampNeg w1) 2), aI G pd 80 o, aI G od 164 (f_X5_isNumber_z w5 o (upd (upd z (4 * (v 10)).toNatClampNeg (o (v 8).toNatClampNeg)) ((4 * (v 10)) + 1).toNatClampNeg w1) 2)] (perm_idx [0, 1, 2] 3 rfl (by decide +kernel) rfl) rfl ?_
              generalize hzw6 : f_X5_isNumber_r w5 o (upd (upd z (4 * (v 10)).toNatClampNeg (o (v 8).toNatClampNeg)) ((4 * (v 10)) + 1).toNatClampNeg w1) 2 = w6
              have hw6 : f_X5_isOrder_rq5 v o z = w6 := by subst hw0 hw1 hw2 hw3 hw4 hw5; subst hzw6; exact (f_X5_isOrder_rq5_eq v o z)
              generalize hzw7 : f_X5_isNumber_v w5 o (upd (upd z (4 * (v 10)).toNatClampNeg (o (v 8).toNatClampNeg)) ((4 * (v 10)) + 1).toNatClampNeg w1) 2 = w7
              have hw7 : f_X5_isOrder_vq5 v o z = w7 := by subst hw0 hw1 hw2 hw3 hw4 hw5 hw6; subst hzw7; exact (f_X5_isOrder_vq5_eq v o z)
              generalize hzw8 : f_X5_isNumber_z w5 o (upd (upd z (4 * (v 10)).toNatClampNeg (o (v 8).toNatClampNeg)) ((4 * (v 10)) + 1).toNatClampNeg w1) 2 = w8
              have hw8 : f_X5_isOrder_zq5 v o z = w8 := by subst hw0 hw1 hw2 hw3 hw4 hw5 hw6 hw7; subst hzw8; exact (f_X5_isOrder_zq5_eq v o z)
              refine j_if_eq (tgt := 227) C dX5_isOrder_220 (by decide) (fun c220 => ?_) (fun c220 => ?_)
              · refine j_iconst (v := 0) C dX5_isOrder_227 (by decide) ?_
                subst hw0 hw1 hw2 hw3 hw4 hw5 hw6 hw7 hw8; exact j_eq (by rw [show f_X5_isOrder_v7 v o z = (f_X5_isOrder_vq5 v o z) from ((f_X5_isOrder_v7_eq v o z).trans (if_neg c212)), show f_X5_isOrder_v8 v o z = (f_X5_isOrder_zq5 v o z) from ((f_X5_isOrder_v8_eq v o z).trans (if_neg c212))]) rfl (by rw [show f_X5_isOrder_x6 v o z = 0 from ((f_X5_isOrder_x6_eq v o z).trans ((if_neg c212).trans (if_pos c220)))]) K228
              · refine j_iconst (v := 1) C dX5_isOrder_223 (by decide) ?_
                refine j_goto (tgt := 228) C dX5_isOrder_224 (by decide) ?_
                subst hw0 hw1 hw2 hw3 hw4 hw5 hw6 hw7 hw8; exact j_eq (by rw [show f_X5_isOrder_v7 v o z = (f_X5_isOrder_vq5 v o z) from ((f_X5_isOrder_v7_eq v o z).trans (if_neg c212)), show f_X5_isOrder_v8 v o z = (f_X5_isOrder_zq5 v o z) from ((f_X5_isOrder_v8_eq v o z).trans (if_neg c212))]) rfl (by rw [show f_X5_isOrder_x6 v o z = 1 from ((f_X5_isOrder_x6_eq v o z).trans ((if_neg c212).trans (if_neg c220)))]) K228
          refine j_icmp_ne (tgt := 207) C dX5_isOrder_199 (by decide) (fun c199 => ?_) (fun c199 => ?_)
          · refine j_bipush (v := 64) C dX5_isOrder_207 (by decide) ?_
            subst hw0 hw1 hw2; exact j_eq rfl rfl (by rw [show f_X5_isOrder_x3 v o z = 64 from ((f_X5_isOrder_x3_eq v o z).trans (if_neg c199))]) K209
          · refine j_bipush (v := 42) C dX5_isOrder_202 (by decide) ?_
            refine j_goto (tgt := 209) C dX5_isOrder_204 (by decide) ?_
            subst hw0 hw1 hw2; exact j_eq rfl rfl (by rw [show f_X5_isOrder_x3 v o z = 42 from ((f_X5_isOrder_x3_eq v o z).trans (if_pos c199))]) K209
        · refine j_aload_n C dX5_isOrder_155 1 rfl ?_
          refine j_bipush (v := 47) C dX5_isOrder_156 (by decide) ?_
          refine j_callV_i (r := f_X5_isSign_r (upd v 8 w2) o 47) (wc' := [oM a nw th ps sl hd pd od (f_X5_isSign_v (upd v 8 w2) o 47), aI G pd 80 o]) C (m_X5_isSign l G a nw th ps sl hd pd od (upd v 8 w2) o 47 oP146.a oP146.b) rfl 0 rfl 1 (gV kw_743 kw_744 kw_787 kw_7 kw_745) (by decide +kernel) ⟨(Nat.le_of_ble_eq_true rfl), (Nat.le_of_ble_eq_true rfl)⟩ rfl rfl (Nat.le_of_ble_eq_true rfl) dX5_isOrder_158 ⟨(Nat.le_of_ble_eq_true rfl), (Nat.le_of_ble_eq_true rfl)⟩ [aI G od 164 (upd (upd z (4 * (v 10)).toNatClampNeg (o (v 8).toNatClampNeg)) ((4 * (v 10)) + 1).toNatClampNeg w1)] [oM a nw th ps sl hd pd od (f_X5_isSign_v (upd v 8 w2) o 47), aI G pd 80 o, aI G od 164 (upd (upd z (4 * (v 10)).toNatClampNeg (o (v 8).toNatClampNeg)) ((4 * (v 10)) + 1).toNatClampNeg w1)] (perm_idx [0, 1, 2] 3 rfl (by decide +kernel) rfl) rfl ?_
          have oP158 : okP (f_X5_isSign_v (upd v 8 w2) o 47) := by exact (sign_ok oP146).1
          have K194 : WJ p l e (RM 4) s m args below meth c G A 2 0 0 Q ([oM a nw th ps sl hd pd od (f_X5_isOrder_v14 v o z), aI G pd 80 o, aI G od 164 (f_X5_isOrder_v15 v o z)]) [(1, .int (o (v 8).toNatClampNeg)), (0, .ref a)] 194 [.int (f_X5_isOrder_x13 v o z)] := by
            generalize hw18 : f_X5_isOrder_x13 v o z = w18
            generalize hw19 : f_X5_isOrder_v14 v o z = w19
            generalize hw20 : f_X5_isOrder_v15 v o z = w20
            subst hQ; subst hw0 hw1 hw2 hw18 hw19 hw20; exact j_zret C hr hk (by rw [f_X5_isOrder_x13_eq]; (repeat' split) <;> rfl) ((show f_X5_isOrder_r v o z = (f_X5_isOrder_x13 v o z) from hTr.trans ((f_X5_isOrder_rT57_eq v o z).trans ((if_neg c92).trans ((if_neg c109).trans (if_pos c152))))).symm) (by rw [show f_X5_isOrder_v v o z = (f_X5_isOrder_v14 v o z) from hT0.trans ((f_X5_isOrder_vT57_eq v o z).trans ((if_neg c92).trans ((if_neg c109).trans (if_pos c152)))), show f_X5_isOrder_z v o z = (f_X5_isOrder_v15 v o z) from hT1.trans ((f_X5_isOrder_zT57_eq v o z).trans ((if_neg c92).trans ((if_neg c109).trans (if_pos c152))))]) dX5_isOrder_194
          refine j_if_eq (tgt := 193) C dX5_isOrder_161 (by decide) (fun c161 => ?_) (fun c161 => ?_)
          · refine j_iconst (v := 0) C dX5_isOrder_193 (by decide) ?_
            subst hw0 hw1 hw2; exact j_eq (by rw [show f_X5_isOrder_v14 v o z = f_X5_isSign_v (upd v 8 (((v 8) + 1) + 1)) o 47 from ((f_X5_isOrder_v14_eq v o z).trans (if_pos c161)), show f_X5_isOrder_v15 v o z = upd (upd z (4 * (v 10)).toNatClampNeg (o (v 8).toNatClampNeg)) ((4 * (v 10)) + 1).toNatClampNeg ((o ((v 8) + 1).toNatClampNeg) - 48) from ((f_X5_isOrder_v15_eq v o z).trans (if_pos c161))]) rfl (by rw [show f_X5_isOrder_x13 v o z = 0 from ((f_X5_isOrder_x13_eq v o z).trans (if_pos c161))]) K194
          · refine j_aload_n C dX5_isOrder_164 1 rfl ?_
            refine j_iconst (v := 2) C dX5_isOrder_165 (by decide) ?_
            refine j_callV_i (r := f_X5_isNumber_r (f_X5_isSign_v (upd v 8 w2) o 47) o (upd (upd z (4 * (v 10)).toNatClampNeg (o (v 8).toNatClampNeg)) ((4 * (v 10)) + 1).toNatClampNeg w1) 2) (wc' := [oM a nw th ps sl hd pd od (f_X5_isNumber_v (f_X5_isSign_v (upd v 8 w2) o 47) o (upd (upd z (4 * (v 10)).toNatClampNeg (o (v 8).toNatClampNeg)) ((4 * (v 10)) + 1).toNatClampNeg w1) 2), aI G pd 80 o, aI G od 164 (f_X5_isNumber_z (f_X5_isSign_v (upd v 8 w2) o 47) o (upd (upd z (4 * (v 10)).toNatClampNeg (o (v 8).toNatClampNeg)) ((4 * (v 10)) + 1).toNatClampNeg w1) 2)]) C (m_X5_isNumber l G a nw th ps sl hd pd od (f_X5_isSign_v (upd v 8 w2) o 47) o (upd (upd z (4 * (v 10)).toNatClampNeg (o (v 8).toNatClampNeg)) ((4 * (v 10)) + 1).toNatClampNeg w1) 2 oP158 (vin_lit (by decide))) rfl 0 rfl 1 (gV kw_740 kw_741 kw_786 kw_7 kw_742) (by decide +kernel) ⟨(Nat.le_of_ble_eq_true rfl), (Nat.le_of_ble_eq_true rfl)⟩ rfl rfl (Nat.le_of_ble_eq_true rfl) dX5_isOrder_166 ⟨(Nat.le_of_ble_eq_true rfl), (Nat.le_of_ble_eq_true rfl)⟩ [] [oM a nw th ps sl hd pd od (f_X5_isNumber_v (f_X5_isSign_v (upd v 8 w2) o 47) o (upd (upd z (4 * (v 10)).toNatClampNeg (o (v 8).toNatClampNeg)) ((4 * (v 10)) + 1).toNatClampNeg w1) 2), aI G pd 80 o, aI G od 164 (f_X5_isNumber_z (f_X5_isSign_v (upd v 8 w2) o 47) o (upd (upd z (4 * (v 10)).toNatClampNeg (o (v 8).toNatClampNeg)) ((4 * (v 10)) + 1).toNatClampNeg w1) 2)] (perm_idx [0, 1, 2] 3 rfl (by decide +kernel) rfl) rfl ?_
            generalize hzw12 : f_X5_isNumber_r (f_X5_isSign_v (upd v 8 w2) o 47) o (upd (upd z (4 * (v 10)).toNatClampNeg (o (v 8).toNatClampNeg)) ((4 * (v 10)) + 1).toNatClampNeg w1) 2 = w12
            have hw12 : f_X5_isOrder_rq10 v o z = w12 := by subst hw0 hw1 hw2; subst hzw12; exact (f_X5_isOrder_rq10_eq v o z)
            generalize hzw13 : f_X5_isNumber_v (f_X5_isSign_v (upd v 8 w2) o 47) o (upd (upd z (4 * (v 10)).toNatClampNeg (o (v 8).toNatClampNeg)) ((4 * (v 10)) + 1).toNatClampNeg w1) 2 = w13
            have hw13 : f_X5_isOrder_vq10 v o z = w13 := by subst hw0 hw1 hw2 hw12; subst hzw13; exact (f_X5_isOrder_vq10_eq v o z)
            generalize hzw14 : f_X5_isNumber_z (f_X5_isSign_v (upd v 8 w2) o 47) o (upd (upd z (4 * (v 10)).toNatClampNeg (o (v 8).toNatClampNeg)) ((4 * (v 10)) + 1).toNatClampNeg w1) 2 = w14
            have hw14 : f_X5_isOrder_zq10 v o z = w14 := by subst hw0 hw1 hw2 hw12 hw13; subst hzw14; exact (f_X5_isOrder_zq10_eq v o z)
            have oP166 : okP w13 := by rw [← hzw13]; exact (num_ok oP158).1
            refine j_if_eq (tgt := 193) C dX5_isOrder_169 (by decide) (fun c169 => ?_) (fun c169 => ?_)
            · refine j_iconst (v := 0) C dX5_isOrder_193 (by decide) ?_
              subst hw0 hw1 hw2 hw12 hw13 hw14; exact j_eq (by rw [show f_X5_isOrder_v14 v o z = (f_X5_isOrder_vq10 v o z) from ((f_X5_isOrder_v14_eq v o z).trans ((if_neg c161).trans (if_pos c169))), show f_X5_isOrder_v15 v o z = (f_X5_isOrder_zq10 v o z) from ((f_X5_isOrder_v15_eq v o z).trans ((if_neg c161).trans (if_pos c169)))]) rfl (by rw [show f_X5_isOrder_x13 v o z = 0 from ((f_X5_isOrder_x13_eq v o z).trans ((if_neg c161).trans (if_pos c169)))]) K194
            · refine j_aload_n C dX5_isOrder_172 1 rfl ?_
              refine j_bipush (v := 42) C dX5_isOrder_173 (by decide) ?_
              refine j_callV_i (r := f_X5_isSign_r w13 o 42) (wc' := [oM a nw th ps sl hd pd od (f_X5_isSign_v w13 o 42), aI G pd 80 o]) C (m_X5_isSign l G a nw th ps sl hd pd od w13 o 42 oP166.a oP166.b) rfl 0 rfl 1 (gV kw_743 kw_744 kw_787 kw_7 kw_745) (by decide +kernel) ⟨(Nat.le_of_ble_eq_true rfl), (Nat.le_of_ble_eq_true rfl)⟩ rfl rfl (Nat.le_of_ble_eq_true rfl) dX5_isOrder_175 ⟨(Nat.le_of_ble_eq_true rfl), (Nat.le_of_ble_eq_true rfl)⟩ [aI G od 164 w14] [oM a nw th ps sl hd pd od (f_X5_isSign_v w13 o 42), aI G pd 80 o, aI G od 164 w14] (perm_idx [0, 1, 2] 3 rfl (by decide +kernel) rfl) rfl ?_
              have oP175 : okP (f_X5_isSign_v w13 o 42) := by exact (sign_ok oP166).1
              refine j_if_eq (tgt := 193) C dX5_isOrder_178 (by decide) (fun c178 => ?_) (fun c178 => ?_)
              · refine j_iconst (v := 0) C dX5_isOrder_193 (by decide) ?_
                subst hw0 hw1 hw2 hw12 hw13 hw14; exact j_eq (by rw [show f_X5_isOrder_v14 v o z = f_X5_isSign_v (f_X5_isOrder_vq10 v o z) o 42 from ((f_X5_isOrder_v14_eq v o z).trans ((if_neg c161).trans ((if_neg c169).trans (if_pos c178)))), show f_X5_isOrder_v15 v o z = (f_X5_isOrder_zq10 v o z) from ((f_X5_isOrder_v15_eq v o z).trans ((if_neg c161).trans ((if_neg c169).trans (if_pos c178))))]) rfl (by rw [show f_X5_isOrder_x13 v o z = 0 from ((f_X5_isOrder_x13_eq v o z).trans ((if_neg c161).trans ((if_neg c169).trans (if_pos c178))))]) K194
              · refine j_aload_n C dX5_isOrder_181 1 rfl ?_
                refine j_iconst (v := 3) C dX5_isOrder_182 (by decide) ?_
                refine j_callV_i (r := f_X5_isNumber_r (f_X5_isSign_v w13 o 42) o w14 3) (wc' := [oM a nw th ps sl hd pd od (f_X5_isNumber_v (f_X5_isSign_v w13 o 42) o w14 3), aI G pd 80 o, aI G od 164 (f_X5_isNumber_z (f_X5_isSign_v w13 o 42) o w14 3)]) C (m_X5_isNumber l G a nw th ps sl hd pd od (f_X5_isSign_v w13 o 42) o w14 3 oP175 (vin_lit (by decide))) rfl 0 rfl 1 (gV kw_740 kw_741 kw_786 kw_7 kw_742) (by decide +kernel) ⟨(Nat.le_of_ble_eq_true rfl), (Nat.le_of_ble_eq_true rfl)⟩ rfl rfl (Nat.le_of_ble_eq_true rfl) dX5_isOrder_183 ⟨(Nat.le_of_ble_eq_true rfl), (Nat.le_of_ble_eq_true rfl)⟩ [] [oM a nw th ps sl hd pd od (f_X5_isNumber_v (f_X5_isSign_v w13 o 42) o w14 3), aI G pd 80 o, aI G od 164 (f_X5_isNumber_z (f_X5_isSign_v w13 o 42) o w14 3)] (perm_idx [0, 1, 2] 3 rfl (by decide +kernel) rfl) rfl ?_
                generalize hzw15 : f_X5_isNumber_r (f_X5_isSign_v w13 o 42) o w14 3 = w15
                have hw15 : f_X5_isOrder_rq12 v o z = w15 := by subst hw0 hw1 hw2 hw12 hw13 hw14; subst hzw15; exact (f_X5_isOrder_rq12_eq v o z)
                generalize hzw16 : f_X5_isNumber_v (f_X5_isSign_v w13 o 42) o w14 3 = w16
                have hw16 : f_X5_isOrder_vq12 v o z = w16 := by subst hw0 hw1 hw2 hw12 hw13 hw14 hw15; subst hzw16; exact (f_X5_isOrder_vq12_eq v o z)
                generalize hzw17 : f_X5_isNumber_z (f_X5_isSign_v w13 o 42) o w14 3 = w17
                have hw17 : f_X5_isOrder_zq12 v o z = w17 := by subst hw0 hw1 hw2 hw12 hw13 hw14 hw15 hw16; subst hzw17; exact (f_X5_isOrder_zq12_eq v o z)
                refine j_if_eq (tgt := 193) C dX5_isOrder_186 (by decide) (fun c186 => ?_) (fun c186 => ?_)
                · refine j_iconst (v := 0) C dX5_isOrder_193 (by decide) ?_
                  subst hw0 hw1 hw2 hw12 hw13 hw14 hw15 hw16 hw17; exact j_eq (by rw [show f_X5_isOrder_v14 v o z = (f_X5_isOrder_vq12 v o z) from ((f_X5_isOrder_v14_eq v o z).trans ((if_neg c161).trans ((if_neg c169).trans (if_neg c178)))), show f_X5_isOrder_v15 v o z = (f_X5_isOrder_zq12 v o z) from ((f_X5_isOrder_v15_eq v o z).trans ((if_neg c161).trans ((if_neg c169).trans (if_neg c178))))]) rfl (by rw [show f_X5_isOrder_x13 v o z = 0 from ((f_X5_isOrder_x13_eq v o z).trans ((if_neg c161).trans ((if_neg c169).trans ((if_neg c178).trans (if_pos c186)))))]) K194
                · refine j_iconst (v := 1) C dX5_isOrder_189 (by decide) ?_
                  refine j_goto (tgt := 194) C dX5_isOrder_190 (by decide) ?_
                  subst hw0 hw1 hw2 hw12 hw13 hw14 hw15 hw16 hw17; exact j_eq (by rw [show f_X5_isOrder_v14 v o z = (f_X5_isOrder_vq12 v o z) from ((f_X5_isOrder_v14_eq v o z).trans ((if_neg c161).trans ((if_neg c169).trans (if_neg c178)))), show f_X5_isOrder_v15 v o z = (f_X5_isOrder_zq12 v o z) from ((f_X5_isOrder_v15_eq v o z).trans ((if_neg c161).trans ((if_neg c169).trans (if_neg c178))))]) rfl (by rw [show f_X5_isOrder_x13 v o z = 1 from ((f_X5_isOrder_x13_eq v o z).trans ((if_neg c161).trans ((if_neg c169).trans ((if_neg c178).trans (if_neg c186)))))]) K194
      · refine j_iconst (v := 0) C dX5_isOrder_112 (by decide) ?_
        subst hQ; subst hw0; exact j_zret C hr hk rfl ((show f_X5_isOrder_r v o z = 0 from hTr.trans ((f_X5_isOrder_rT57_eq v o z).trans ((if_neg c92).trans (if_pos c109)))).symm) (by rw [show f_X5_isOrder_v v o z = upd v 8 ((v 8) + 1) from hT0.trans ((f_X5_isOrder_vT57_eq v o z).trans ((if_neg c92).trans (if_pos c109))), show f_X5_isOrder_z v o z = upd z (4 * (v 10)).toNatClampNeg (o (v 8).toNatClampNeg) from hT1.trans ((f_X5_isOrder_zT57_eq v o z).trans ((if_neg c92).trans (if_pos c109)))]) dX5_isOrder_113
    · refine j_aload_n C dX5_isOrder_95 1 rfl ?_
      refine j_iconst (v := 1) C dX5_isOrder_96 (by decide) ?_
      refine j_callV_i (r := f_X5_isNumber_r (upd v 8 w0) o (upd z (4 * (v 10)).toNatClampNeg (o (v 8).toNatClampNeg)) 1) (wc' := [oM a nw th ps sl hd pd od (f_X5_isNumber_v (upd v 8 w0) o (upd z (4 * (v 10)).toNatClampNeg (o (v 8).toNatClampNeg)) 1), aI G pd 80 o, aI G od 164 (f_X5_isNumber_z (upd v 8 w0) o (upd z (4 * (v 10)).toNatClampNeg (o (v 8).toNatClampNeg)) 1)]) C (m_X5_isNumber l G a nw th ps sl hd pd od (upd v 8 w0) o (upd z (4 * (v 10)).toNatClampNeg (o (v 8).toNatClampNeg)) 1 oP86 (vin_lit (by decide))) rfl 0 rfl 1 (gV kw_740 kw_741 kw_786 kw_7 kw_742) (by decide +kernel) ⟨(Nat.le_of_ble_eq_true rfl), (Nat.le_of_ble_eq_true rfl)⟩ rfl rfl (Nat.le_of_ble_eq_true rfl) dX5_isOrder_97 ⟨(Nat.le_of_ble_eq_true rfl), (Nat.le_of_ble_eq_true rfl)⟩ [] [oM a nw th ps sl hd pd od (f_X5_isNumber_v (upd v 8 w0) o (upd z (4 * (v 10)).toNatClampNeg (o (v 8).toNatClampNeg)) 1), aI G pd 80 o, aI G od 164 (f_X5_isNumber_z (upd v 8 w0) o (upd z (4 * (v 10)).toNatClampNeg (o (v 8).toNatClampNeg)) 1)] (perm_idx [0, 1, 2] 3 rfl (by decide +kernel) rfl) rfl ?_
      generalize hzw21 : f_X5_isNumber_r (upd v 8 w0) o (upd z (4 * (v 10)).toNatClampNeg (o (v 8).toNatClampNeg)) 1 = w21
      have hw21 : f_X5_isOrder_rq16 v o z = w21 := by subst hw0; subst hzw21; exact (f_X5_isOrder_rq16_eq v o z)
      generalize hzw22 : f_X5_isNumber_v (upd v 8 w0) o (upd z (4 * (v 10)).toNatClampNeg (o (v 8).toNatClampNeg)) 1 = w22
      have hw22 : f_X5_isOrder_vq16 v o z = w22 := by subst hw0 hw21; subst hzw22; exact (f_X5_isOrder_vq16_eq v o z)
      generalize hzw23 : f_X5_isNumber_z (upd v 8 w0) o (upd z (4 * (v 10)).toNatClampNeg (o (v 8).toNatClampNeg)) 1 = w23
      have hw23 : f_X5_isOrder_zq16 v o z = w23 := by subst hw0 hw21 hw22; subst hzw23; exact (f_X5_isOrder_zq16_eq v o z)
      subst hQ; subst hw0 hw21 hw22 hw23; exact j_zret C hr hk (by rw [f_X5_isOrder_rq16_eq]; exact nrz_num _ _ _ _) ((show f_X5_isOrder_r v o z = (f_X5_isOrder_rq16 v o z) from hTr.trans ((f_X5_isOrder_rT57_eq v o z).trans (if_pos c92))).symm) (by rw [show f_X5_isOrder_v v o z = (f_X5_isOrder_vq16 v o z) from hT0.trans ((f_X5_isOrder_vT57_eq v o z).trans (if_pos c92)), show f_X5_isOrder_z v o z = (f_X5_isOrder_zq16 v o z) from hT1.trans ((f_X5_isOrder_zT57_eq v o z).trans (if_pos c92))]) dX5_isOrder_100
  refine j_if_ne (tgt := 57) C dX5_isOrder_8 (by decide) (fun c8 => ?_) (fun c8 => ?_)
  · exact K57 (show f_X5_isOrder_v v o z = f_X5_isOrder_vT57 v o z from ((f_X5_isOrder_v_eq v o z).trans (if_neg c8))) (show f_X5_isOrder_z v o z = f_X5_isOrder_zT57 v o z from ((f_X5_isOrder_z_eq v o z).trans (if_neg c8))) (show f_X5_isOrder_r v o z = f_X5_isOrder_rT57 v o z from ((f_X5_isOrder_r_eq v o z).trans (if_neg c8))) (isAt_iff.mp c8).1
  · refine j_aload_n C dX5_isOrder_11 0 rfl ?_
    refine j_bipush (v := 103) C dX5_isOrder_12 (by decide) ?_
    refine j_bipush (v := 103) C dX5_isOrder_14 (by decide) ?_
    refine j_callV_i (r := f_X5_isAt_r v o 103 103) (wc' := [oM a nw th ps sl hd pd od v, aI G pd 80 o]) C (m_X5_isAt l G a nw th ps sl hd pd od v o 103 103 hP.a hP.b) rfl 0 rfl 2 (gV kw_737 kw_738 kw_785 kw_7 kw_739) (by decide +kernel) ⟨(Nat.le_of_ble_eq_true rfl), (Nat.le_of_ble_eq_true rfl)⟩ rfl rfl (Nat.le_of_ble_eq_true rfl) dX5_isOrder_16 ⟨(Nat.le_of_ble_eq_true rfl), (Nat.le_of_ble_eq_true rfl)⟩ [aI G od 164 z] [oM a nw th ps sl hd pd od v, aI G pd 80 o, aI G od 164 z] (perm_idx [0, 1, 2] 3 rfl (by decide +kernel) rfl) rfl ?_
    refine j_if_ne (tgt := 57) C dX5_isOrder_19 (by decide) (fun c19 => ?_) (fun c19 => ?_)
    · exact K57 (show f_X5_isOrder_v v o z = f_X5_isOrder_vT57 v o z from ((f_X5_isOrder_v_eq v o z).trans ((if_pos c8).trans (if_neg c19)))) (show f_X5_isOrder_z v o z = f_X5_isOrder_zT57 v o z from ((f_X5_isOrder_z_eq v o z).trans ((if_pos c8).trans (if_neg c19)))) (show f_X5_isOrder_r v o z = f_X5_isOrder_rT57 v o z from ((f_X5_isOrder_r_eq v o z).trans ((if_pos c8).trans (if_neg c19)))) (isAt_iff.mp c19).1
    · refine j_aload_n C dX5_isOrder_22 0 rfl ?_
      refine j_bipush (v := 119) C dX5_isOrder_23 (by decide) ?_
      refine j_bipush (v := 119) C dX5_isOrder_25 (by decide) ?_
      refine j_callV_i (r := f_X5_isAt_r v o 119 119) (wc' := [oM a nw th ps sl hd pd od v, aI G pd 80 o]) C (m_X5_isAt l G a nw th ps sl hd pd od v o 119 119 hP.a hP.b) rfl 0 rfl 2 (gV kw_737 kw_738 kw_785 kw_7 kw_739) (by decide +kernel) ⟨(Nat.le_of_ble_eq_true rfl), (Nat.le_of_ble_eq_true rfl)⟩ rfl rfl (Nat.le_of_ble_eq_true rfl) dX5_isOrder_27 ⟨(Nat.le_of_ble_eq_true rfl), (Nat.le_of_ble_eq_true rfl)⟩ [aI G od 164 z] [oM a nw th ps sl hd pd od v, aI G pd 80 o, aI G od 164 z] (perm_idx [0, 1, 2] 3 rfl (by decide +kernel) rfl) rfl ?_
      refine j_if_ne (tgt := 57) C dX5_isOrder_30 (by decide) (fun c30 => ?_) (fun c30 => ?_)
      · exact K57 (show f_X5_isOrder_v v o z = f_X5_isOrder_vT57 v o z from ((f_X5_isOrder_v_eq v o z).trans ((if_pos c8).trans ((if_pos c19).trans (if_neg c30))))) (show f_X5_isOrder_z v o z = f_X5_isOrder_zT57 v o z from ((f_X5_isOrder_z_eq v o z).trans ((if_pos c8).trans ((if_pos c19).trans (if_neg c30))))) (show f_X5_isOrder_r v o z = f_X5_isOrder_rT57 v o z from ((f_X5_isOrder_r_eq v o z).trans ((if_pos c8).trans ((if_pos c19).trans (if_neg c30))))) (isAt_iff.mp c30).1
      · refine j_aload_n C dX5_isOrder_33 0 rfl ?_
        refine j_bipush (v := 118) C dX5_isOrder_34 (by decide) ?_
        refine j_bipush (v := 118) C dX5_isOrder_36 (by decide) ?_
        refine j_callV_i (r := f_X5_isAt_r v o 118 118) (wc' := [oM a nw th ps sl hd pd od v, aI G pd 80 o]) C (m_X5_isAt l G a nw th ps sl hd pd od v o 118 118 hP.a hP.b) rfl 0 rfl 2 (gV kw_737 kw_738 kw_785 kw_7 kw_739) (by decide +kernel) ⟨(Nat.le_of_ble_eq_true rfl), (Nat.le_of_ble_eq_true rfl)⟩ rfl rfl (Nat.le_of_ble_eq_true rfl) dX5_isOrder_38 ⟨(Nat.le_of_ble_eq_true rfl), (Nat.le_of_ble_eq_true rfl)⟩ [aI G od 164 z] [oM a nw th ps sl hd pd od v, aI G pd 80 o, aI G od 164 z] (perm_idx [0, 1, 2] 3 rfl (by decide +kernel) rfl) rfl ?_
        refine j_if_ne (tgt := 57) C dX5_isOrder_41 (by decide) (fun c41 => ?_) (fun c41 => ?_)
        · exact K57 (show f_X5_isOrder_v v o z = f_X5_isOrder_vT57 v o z from ((f_X5_isOrder_v_eq v o z).trans ((if_pos c8).trans ((if_pos c19).trans ((if_pos c30).trans (if_neg c41)))))) (show f_X5_isOrder_z v o z = f_X5_isOrder_zT57 v o z from ((f_X5_isOrder_z_eq v o z).trans ((if_pos c8).trans ((if_pos c19).trans ((if_pos c30).trans (if_neg c41)))))) (show f_X5_isOrder_r v o z = f_X5_isOrder_rT57 v o z from ((f_X5_isOrder_r_eq v o z).trans ((if_pos c8).trans ((if_pos c19).trans ((if_pos c30).trans (if_neg c41)))))) (isAt_iff.mp c41).1
        · refine j_aload_n C dX5_isOrder_44 0 rfl ?_
          refine j_bipush (v := 116) C dX5_isOrder_45 (by decide) ?_
          refine j_bipush (v := 116) C dX5_isOrder_47 (by decide) ?_
          refine j_callV_i (r := f_X5_isAt_r v o 116 116) (wc' := [oM a nw th ps sl hd pd od v, aI G pd 80 o]) C (m_X5_isAt l G a nw th ps sl hd pd od v o 116 116 hP.a hP.b) rfl 0 rfl 2 (gV kw_737 kw_738 kw_785 kw_7 kw_739) (by decide +kernel) ⟨(Nat.le_of_ble_eq_true rfl), (Nat.le_of_ble_eq_true rfl)⟩ rfl rfl (Nat.le_of_ble_eq_true rfl) dX5_isOrder_49 ⟨(Nat.le_of_ble_eq_true rfl), (Nat.le_of_ble_eq_true rfl)⟩ [aI G od 164 z] [oM a nw th ps sl hd pd od v, aI G pd 80 o, aI G od 164 z] (perm_idx [0, 1, 2] 3 rfl (by decide +kernel) rfl) rfl ?_
          refine j_if_ne (tgt := 57) C dX5_isOrder_52 (by decide) (fun c52 => ?_) (fun c52 => ?_)
          · exact K57 (show f_X5_isOrder_v v o z = f_X5_isOrder_vT57 v o z from ((f_X5_isOrder_v_eq v o z).trans ((if_pos c8).trans ((if_pos c19).trans ((if_pos c30).trans ((if_pos c41).trans (if_neg c52))))))) (show f_X5_isOrder_z v o z = f_X5_isOrder_zT57 v o z from ((f_X5_isOrder_z_eq v o z).trans ((if_pos c8).trans ((if_pos c19).trans ((if_pos c30).trans ((if_pos c41).trans (if_neg c52))))))) (show f_X5_isOrder_r v o z = f_X5_isOrder_rT57 v o z from ((f_X5_isOrder_r_eq v o z).trans ((if_pos c8).trans ((if_pos c19).trans ((if_pos c30).trans ((if_pos c41).trans (if_neg c52))))))) (isAt_iff.mp c52).1
          · refine j_iconst (v := 0) C dX5_isOrder_55 (by decide) ?_
            subst hQ; exact j_zret C hr hk rfl ((show f_X5_isOrder_r v o z = 0 from ((f_X5_isOrder_r_eq v o z).trans ((if_pos c8).trans ((if_pos c19).trans ((if_pos c30).trans ((if_pos c41).trans (if_pos c52))))))).symm) (by rw [show f_X5_isOrder_v v o z = v from ((f_X5_isOrder_v_eq v o z).trans ((if_pos c8).trans ((if_pos c19).trans ((if_pos c30).trans ((if_pos c41).trans (if_pos c52)))))), show f_X5_isOrder_z v o z = z from ((f_X5_isOrder_z_eq v o z).trans ((if_pos c8).trans ((if_pos c19).trans ((if_pos c30).trans ((if_pos c41).trans (if_pos c52))))))]) dX5_isOrder_56
