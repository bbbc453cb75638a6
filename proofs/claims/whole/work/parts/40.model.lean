/-! THE MODEL: the text -/
/-- the reader has gone on, by n at least -/
def adv (v v1 : Nat → Int32) (n : Int) : Prop := okP v1 ∧ v1 10 = v 10 ∧ v1 7 = v 7 ∧ (v 8).toInt + n ≤ (v1 8).toInt
theorem adv.trans {v v1 v2 : Nat → Int32} {n k : Int} (h : adv v v1 n) (g : adv v1 v2 k) : adv v v2 (n + k) := ⟨g.1, g.2.1.trans h.2.1, g.2.2.1.trans h.2.2.1, by have := h.2.2.2; have := g.2.2.2; omega⟩
theorem adv.add0 {v v1 v2 : Nat → Int32} {n : Int} (h : adv v v1 n) (g : adv v1 v2 0) : adv v v2 n := ⟨g.1, g.2.1.trans h.2.1, g.2.2.1.trans h.2.2.1, by have := h.2.2.2; have := g.2.2.2; omega⟩
theorem adv.le {v v1 : Nat → Int32} {n k : Int} (h : adv v v1 n) (hk : k ≤ n) : adv v v1 k := ⟨h.1, h.2.1, h.2.2.1, by have := h.2.2.2; omega⟩
theorem sign_adv {v o : Nat → Int32} {k : Int32} (h : okP v) : adv v (f_X5_isSign_v v o k) 0 := by
  refine ⟨(sign_ok h).1, rfl, rfl, ?_⟩
  by_cases c : f_X5_isSign_r v o k = 0
  · have e : f_X5_isSign_v v o k 8 = v 8 := by
      show v 8 + f_X5_isSign_x2 v o k = v 8
      unfold f_X5_isSign_x2
      rw [show f_X5_isAt_r v o k k = 0 from c, if_pos rfl]
      exact Int32.add_zero (v 8)
    rw [e]
    omega
  · have := (sign_ok h).2 c
    omega
theorem num_adv {v o z : Nat → Int32} {k : Int32} (h : okP v) : adv v (f_X5_isNumber_v v o z k) 0 := by
  obtain ⟨a, b, c, d, e⟩ := num_ok (o := o) (z := z) (k := k) h
  exact ⟨a, b, c, by omega⟩
theorem num_adv1 {v o z : Nat → Int32} {k : Int32} (h : okP v) (hr : ¬ f_X5_isNumber_r v o z k = 0) : adv v (f_X5_isNumber_v v o z k) 1 := by
  obtain ⟨a, b, c, d, e⟩ := num_ok (o := o) (z := z) (k := k) h
  exact ⟨a, b, c, d hr⟩
theorem inc1_adv {v : Nat → Int32} (h : okP v) (h1 : (v 8).toInt < (v 7).toInt) : adv v (upd v 8 (v 8 + 1)) 1 := by
  have h2 := h.1
  have h3 := h.2.2.1
  have i := inc80 h2 (by omega)
  refine ⟨h.inc1 h1, rfl, rfl, ?_⟩
  show _ ≤ (v 8 + 1).toInt
  omega
theorem inc2_adv {v o : Nat → Int32} {k y : Int32} (h : okP v) (h1 : (v 8).toInt < (v 7).toInt) (c : ¬ f_X5_isAt_r (upd v 8 (v 8 + 1)) o k y = 0) : adv v (upd v 8 (v 8 + 1 + 1)) 2 := by
  have g := inc1_adv h h1
  have g2 := inc1_adv g.1 (isAt_iff.mp c).1
  have g3 := g.trans g2
  exact ⟨h.inc2 h1 c, g3.2.1, g3.2.2.1, by have := g3.2.2.2; exact Int.le_trans (by omega) this⟩
theorem ordT_ok {v o z : Nat → Int32} (h : okP v) (h1 : (v 8).toInt < (v 7).toInt) : adv v (f_X5_isOrder_vT57 v o z) 1 ∧ (¬ f_X5_isOrder_rT57 v o z = 0 → adv v (f_X5_isOrder_vT57 v o z) 2) := by
  rw [f_X5_isOrder_vT57_eq, f_X5_isOrder_rT57_eq]
  by_cases c1 : o (v 8).toNatClampNeg = 116
  · rw [if_pos c1, if_pos c1, f_X5_isOrder_vq16_eq, f_X5_isOrder_rq16_eq]
    have g := inc1_adv h h1
    exact ⟨g.add0 (num_adv g.1), fun hr => (g.trans (num_adv1 g.1 hr)).le (by decide)⟩
  · rw [if_neg c1, if_neg c1]
    by_cases c2 : f_X5_isAt_r (upd v 8 ((v 8) + 1)) o 48 51 = 0
    · rw [if_pos c2, if_pos c2]
      exact ⟨inc1_adv h h1, fun g => absurd rfl g⟩
    · rw [if_neg c2, if_neg c2]
      have g := inc2_adv h h1 c2
      suffices hs : adv v (if o (v 8).toNatClampNeg = 118 then (f_X5_isOrder_v14 v o z) else (f_X5_isOrder_v7 v o z)) 2 from ⟨hs.le (by omega), fun _ => hs⟩
      by_cases c3 : o (v 8).toNatClampNeg = 118
      · rw [if_pos c3, f_X5_isOrder_v14_eq]
        have s1 := g.add0 (sign_adv (o := o) (k := 47) g.1)
        split
        · exact s1
        · have s2 : adv v (f_X5_isOrder_vq10 v o z) 2 := by
            rw [f_X5_isOrder_vq10_eq]
            exact s1.add0 (num_adv s1.1)
          split
          · exact s2
          · have s3 : adv v (f_X5_isSign_v (f_X5_isOrder_vq10 v o z) o 42) 2 := s2.add0 (sign_adv s2.1)
            split
            · exact s3
            · rw [f_X5_isOrder_vq12_eq]
              exact s3.add0 (num_adv s3.1)
      · rw [if_neg c3, f_X5_isOrder_v7_eq]
        have s1 : adv v (f_X5_isOrder_vq4 v o z) 2 := by
          rw [f_X5_isOrder_vq4_eq]
          exact g.add0 (sign_adv g.1)
        split
        · exact s1
        · rw [f_X5_isOrder_vq5_eq]
          exact s1.add0 (num_adv s1.1)
theorem ord_ok {v o z : Nat → Int32} (h : okP v) : adv v (f_X5_isOrder_v v o z) 0 ∧ (¬ f_X5_isOrder_r v o z = 0 → adv v (f_X5_isOrder_v v o z) 2) := by
  have T : ∀ {k : Int32}, ¬ f_X5_isAt_r v o k k = 0 → adv v (f_X5_isOrder_vT57 v o z) 0 ∧ (¬ f_X5_isOrder_rT57 v o z = 0 → adv v (f_X5_isOrder_vT57 v o z) 2) := fun c => ⟨(ordT_ok h (isAt_iff.mp c).1).1.le (by omega), (ordT_ok h (isAt_iff.mp c).1).2⟩
  rw [f_X5_isOrder_v_eq, f_X5_isOrder_r_eq]
  by_cases c1 : f_X5_isAt_r v o 115 115 = 0
  · rw [if_pos c1, if_pos c1]
    by_cases c2 : f_X5_isAt_r v o 103 103 = 0
    · rw [if_pos c2, if_pos c2]
      by_cases c3 : f_X5_isAt_r v o 119 119 = 0
      · rw [if_pos c3, if_pos c3]
        by_cases c4 : f_X5_isAt_r v o 118 118 = 0
        · rw [if_pos c4, if_pos c4]
          by_cases c5 : f_X5_isAt_r v o 116 116 = 0
          · rw [if_pos c5, if_pos c5]
            exact ⟨⟨h, rfl, rfl, by omega⟩, fun g => absurd rfl g⟩
          · rw [if_neg c5, if_neg c5]
            exact T c5
        · rw [if_neg c4, if_neg c4]
          exact T c4
      · rw [if_neg c3, if_neg c3]
        exact T c3
    · rw [if_neg c2, if_neg c2]
      exact T c2
  · rw [if_neg c1, if_neg c1]
    exact T c1
/-- the orders, n at most: the answer, the reader and the row of orders then -/
noncomputable def textM (o : Nat → Int32) : Nat → (Nat → Int32) → (Nat → Int32) → Int32 → Int32 × (Nat → Int32) × (Nat → Int32)
  | 0, vv, zz, q => (if vv 8 = vv 7 then 1 else 0, vv, zz)
  | n + 1, vv, zz, q => if q = 0 then (if vv 8 = vv 7 then 1 else 0, vv, zz) else if f_X5_isOrder_r vv o zz = 0 then (0, f_X5_isOrder_v vv o zz, f_X5_isOrder_z vv o zz) else textM o n (f_X5_isSign_v (upd (f_X5_isOrder_v vv o zz) 10 (f_X5_isOrder_v vv o zz 10 + 1)) o 59) (f_X5_isOrder_z vv o zz) (f_X5_isSign_r (upd (f_X5_isOrder_v vv o zz) 10 (f_X5_isOrder_v vv o zz 10 + 1)) o 59)
def txI (n : Nat) (vv : Nat → Int32) (q : Int32) : Prop := okP vv ∧ (vv 10).toInt + (n : Int) = 28 ∧ (¬ q = 0 → 3 * (vv 10).toInt ≤ (vv 8).toInt)
theorem txI_0 {vv : Nat → Int32} {q : Int32} (h : txI 0 vv q) : q = 0 := by
  by_cases c : q = 0
  · exact c
  · have h1 := h.2.2 c
    have h2 := h.2.1
    have h3 := h.1.2.1
    have h4 := h.1.2.2.1
    omega
theorem txI_o {o : Nat → Int32} {zz : Nat → Int32} {n : Nat} {vv : Nat → Int32} {q : Int32} (h : txI (n + 1) vv q) : okP (upd (f_X5_isOrder_v vv o zz) 10 (f_X5_isOrder_v vv o zz 10 + 1)) := by
  have g := (ord_ok (o := o) (z := zz) h.1).1
  obtain ⟨a, b, d, e, f⟩ := g.1
  have h2 := h.2.1
  rw [g.2.1] at e f
  have i := inc80 e (by omega)
  refine ⟨a, b, d, ?_, ?_⟩
  · show 0 ≤ (f_X5_isOrder_v vv o zz 10 + 1).toInt
    rw [g.2.1]
    omega
  · show (f_X5_isOrder_v vv o zz 10 + 1).toInt < 41
    rw [g.2.1]
    omega
theorem txI_s {o : Nat → Int32} {zz : Nat → Int32} {n : Nat} {vv : Nat → Int32} {q : Int32} (h : txI (n + 1) vv q) (hq : ¬ q = 0) (hr : ¬ f_X5_isOrder_r vv o zz = 0) : txI n (f_X5_isSign_v (upd (f_X5_isOrder_v vv o zz) 10 (f_X5_isOrder_v vv o zz 10 + 1)) o 59) (f_X5_isSign_r (upd (f_X5_isOrder_v vv o zz) 10 (f_X5_isOrder_v vv o zz 10 + 1)) o 59) := by
  have g := (ord_ok (o := o) (z := zz) h.1).2 hr
  have hw := txI_o (o := o) (zz := zz) h
  have hs := sign_ok (o := o) (k := 59) hw
  have e1 : (f_X5_isOrder_v vv o zz 10 + 1).toInt = (vv 10).toInt + 1 := by
    rw [g.2.1]
    have h2 := h.2.1
    exact inc80 h.1.2.2.2.1 (by omega)
  have h2 := h.2.1
  have h3 := h.2.2 hq
  refine ⟨hs.1, ?_, fun c => ?_⟩
  · show (f_X5_isOrder_v vv o zz 10 + 1).toInt + (n : Int) = 28
    omega
  · have h4 := hs.2 c
    show 3 * (f_X5_isOrder_v vv o zz 10 + 1).toInt ≤ _
    rw [h4, e1]
    show _ ≤ (f_X5_isOrder_v vv o zz 8).toInt + 1
    have := g.2.2.2
    omega
noncomputable def f_X5_isText_s (v o z : Nat → Int32) : Int32 × (Nat → Int32) × (Nat → Int32) := textM o 28 (upd (upd v 8 0) 10 0) z 1
theorem txI_1 {v : Nat → Int32} (h0 : 0 ≤ (v 7).toInt) (h1 : (v 7).toInt ≤ 80) : txI 28 (upd (upd v 8 0) 10 0) 1 := ⟨⟨Int.le_refl _, h0, h1, Int.le_refl _, show (0 : Int32).toInt < 41 by decide⟩, show (0 : Int32).toInt + ((28 : Nat) : Int) = 28 by decide, fun _ => show 3 * (0 : Int32).toInt ≤ (0 : Int32).toInt by decide⟩
noncomputable def f_X5_isText_x2 (v : Nat → Int32) (o : Nat → Int32) (z : Nat → Int32) (vv : Nat → Int32) (zz : Nat → Int32) (q : Int32) : Int32 := (if vv 8 = vv 7 then 1 else 0)
noncomputable def f_X5_isText_x3 (v : Nat → Int32) (o : Nat → Int32) (z : Nat → Int32) (vv : Nat → Int32) (zz : Nat → Int32) (q : Int32) (n : Nat) : Int32 := (if vv 8 = vv 7 then 1 else 0)
noncomputable def f_X5_isText_rq5 (v : Nat → Int32) (o : Nat → Int32) (z : Nat → Int32) (vv : Nat → Int32) (zz : Nat → Int32) (q : Int32) (n : Nat) : Int32 := f_X5_isSign_r (upd (f_X5_isOrder_v vv o zz) 10 (((f_X5_isOrder_v vv o zz) 10) + 1)) o 59
noncomputable def f_X5_isText_vq5 (v : Nat → Int32) (o : Nat → Int32) (z : Nat → Int32) (vv : Nat → Int32) (zz : Nat → Int32) (q : Int32) (n : Nat) : (Nat → Int32) := f_X5_isSign_v (upd (f_X5_isOrder_v vv o zz) 10 (((f_X5_isOrder_v vv o zz) 10) + 1)) o 59
set_option maxRecDepth 100000 in
set_option maxHeartbeats 4000000 in
theorem m_X5_isText (l : Launch) (G : GG) (a nw th ps sl hd pd od : Nat) (v : Nat → Int32) (o : Nat → Int32) (z : Nat → Int32) (h0 : 0 ≤ (v 7).toInt) (h1 : (v 7).toInt ≤ 80) : CtI l yX5_isText cX5_isText 2 (some .boolean) (RM 5) G [.ref a] ([oM a nw th ps sl hd pd od v, aI G pd 80 o, aI G od 164 z]) ((f_X5_isText_s v o z).1) ([oM a nw th ps sl hd pd od ((f_X5_isText_s v o z).2.1), aI G pd 80 o, aI G od 164 ((f_X5_isText_s v o z).2.2)]) := by
  refine ct_I RX5 [(0, .ref a)] rfl (by decide +kernel) (Nat.le_of_ble_eq_true rfl) rfl ?_
  intro p e s m args below meth c A C hr hk hnm
  generalize hQ : (MQ below (PostI G A ((f_X5_isText_s v o z).1) ([oM a nw th ps sl hd pd od ((f_X5_isText_s v o z).2.1), aI G pd 80 o, aI G od 164 ((f_X5_isText_s v o z).2.2)])) args s (RM 5).cells (RM 5).slots A) = Q
  refine j_aload_n C dX5_isText_0 0 rfl ?_
  refine j_iconst (v := 0) C dX5_isText_1 (by decide) ?_
  refine j_put C kin5 rfl 0 rfl 8 (by decide) kw_497 rfl tyX5 tyX5_ok nmX5 rfl rfl rfl (Nat.le_of_ble_eq_true rfl) ([oM a nw th ps sl hd pd od (upd v 8 0), aI G pd 80 o, aI G od 164 z]) rfl dX5_isText_2 ?_
  refine j_aload_n C dX5_isText_5 0 rfl ?_
  refine j_iconst (v := 0) C dX5_isText_6 (by decide) ?_
  refine j_put C kin5 rfl 0 rfl 10 (by decide) kw_499 rfl tyX5 tyX5_ok nmX5 rfl rfl rfl (Nat.le_of_ble_eq_true rfl) ([oM a nw th ps sl hd pd od (upd (upd v 8 0) 10 0), aI G pd 80 o, aI G od 164 z]) rfl dX5_isText_7 ?_
  refine j_iconst (v := 1) C dX5_isText_10 (by decide) ?_
  refine j_istore_n C [(1, .int 1), (0, .ref a)] dX5_isText_11 (by decide) rfl ?_
  have L1 : ∀ (n : Nat) (vv : Nat → Int32) (zz : Nat → Int32) (q : Int32), txI n vv q → textM o n vv zz q = f_X5_isText_s v o z → WJ p l e (RM 5) s m args below meth c G A 2 0 0 Q ([oM a nw th ps sl hd pd od vv, aI G pd 80 o, aI G od 164 zz]) [(1, .int q), (0, .ref a)] 12 [] := by
    intro n
    induction n with
    | zero =>
      intro vv zz q hI hx
      refine j_iload_n C dX5_isText_12 0 rfl ?_
      refine j_if_eq (tgt := 45) C dX5_isText_13 (by decide) (fun c13 => ?_) (fun h => absurd (txI_0 hI) h)
      refine j_aload_n C dX5_isText_45 1 rfl ?_
      refine j_get C kin5 rfl 0 rfl 8 (by decide) kw_497 rfl (v := .int (vv 8)) rfl dX5_isText_46 ?_
      refine j_aload_n C dX5_isText_49 1 rfl ?_
      refine j_get C kin5 rfl 0 rfl 7 (by decide) kw_496 rfl (v := .int (vv 7)) rfl dX5_isText_50 ?_
      have K61 : WJ p l e (RM 5) s m args below meth c G A 2 0 0 Q ([oM a nw th ps sl hd pd od vv, aI G pd 80 o, aI G od 164 zz]) [(1, .int q), (0, .ref a)] 61 [.int (f_X5_isText_x2 v o z vv zz q)] := by
        generalize hw0 : f_X5_isText_x2 v o z vv zz q = w0
        subst hQ; subst hw0; exact j_zret C hr hk (by unfold f_X5_isText_x2; (repeat' split) <;> rfl) (show (f_X5_isText_x2 v o z vv zz q) = ((f_X5_isText_s v o z).1) from (congrArg Prod.fst hx.symm).symm) (by rw [show ((f_X5_isText_s v o z).2.1) = vv from (congrArg (fun y => y.2.1) hx.symm), show ((f_X5_isText_s v o z).2.2) = zz from (congrArg (fun y => y.2.2) hx.symm)]) dX5_isText_61
      refine j_icmp_ne (tgt := 60) C dX5_isText_53 (by decide) (fun c53 => ?_) (fun c53 => ?_)
      · refine j_iconst (v := 0) C dX5_isText_60 (by decide) ?_
        exact j_eq rfl rfl (by rw [show f_X5_isText_x2 v o z vv zz q = 0 from (if_neg c53)]) K61
      · refine j_iconst (v := 1) C dX5_isText_56 (by decide) ?_
        refine j_goto (tgt := 61) C dX5_isText_57 (by decide) ?_
        exact j_eq rfl rfl (by rw [show f_X5_isText_x2 v o z vv zz q = 1 from (if_pos c53)]) K61
    | succ n ih =>
      intro vv zz q hI hx
      refine j_iload_n C dX5_isText_12 0 rfl ?_
      refine j_if_eq (tgt := 45) C dX5_isText_13 (by decide) (fun c13 => ?_) (fun c13 => ?_)
      · refine j_aload_n C dX5_isText_45 1 rfl ?_
        refine j_get C kin5 rfl 0 rfl 8 (by decide) kw_497 rfl (v := .int (vv 8)) rfl dX5_isText_46 ?_
        refine j_aload_n C dX5_isText_49 1 rfl ?_
        refine j_get C kin5 rfl 0 rfl 7 (by decide) kw_496 rfl (v := .int (vv 7)) rfl dX5_isText_50 ?_
        have K61_1 : WJ p l e (RM 5) s m args below meth c G A 2 0 0 Q ([oM a nw th ps sl hd pd od vv, aI G pd 80 o, aI G od 164 zz]) [(1, .int q), (0, .ref a)] 61 [.int (f_X5_isText_x3 v o z vv zz q n)] := by
          generalize hw1 : f_X5_isText_x3 v o z vv zz q n = w1
          subst hQ; subst hw1; exact j_zret C hr hk (by unfold f_X5_isText_x3; (repeat' split) <;> rfl) (show (f_X5_isText_x3 v o z vv zz q n) = ((f_X5_isText_s v o z).1) from (congrArg Prod.fst (hx.symm.trans (if_pos c13))).symm) (by rw [show ((f_X5_isText_s v o z).2.1) = vv from (congrArg (fun y => y.2.1) (hx.symm.trans (if_pos c13))), show ((f_X5_isText_s v o z).2.2) = zz from (congrArg (fun y => y.2.2) (hx.symm.trans (if_pos c13)))]) dX5_isText_61
        refine j_icmp_ne (tgt := 60) C dX5_isText_53 (by decide) (fun c53 => ?_) (fun c53 => ?_)
        · refine j_iconst (v := 0) C dX5_isText_60 (by decide) ?_
          exact j_eq rfl rfl (by rw [show f_X5_isText_x3 v o z vv zz q n = 0 from (if_neg c53)]) K61_1
        · refine j_iconst (v := 1) C dX5_isText_56 (by decide) ?_
          refine j_goto (tgt := 61) C dX5_isText_57 (by decide) ?_
          exact j_eq rfl rfl (by rw [show f_X5_isText_x3 v o z vv zz q n = 1 from (if_pos c53)]) K61_1
      · refine j_aload_n C dX5_isText_16 1 rfl ?_
        refine j_callV_i (r := f_X5_isOrder_r vv o zz) (wc' := [oM a nw th ps sl hd pd od (f_X5_isOrder_v vv o zz), aI G pd 80 o, aI G od 164 (f_X5_isOrder_z vv o zz)]) C (m_X5_isOrder l G a nw th ps sl hd pd od vv o zz hI.1) rfl 0 rfl 0 (gV kw_734 kw_735 kw_784 kw_7 kw_736) (by decide +kernel) ⟨(Nat.le_of_ble_eq_true rfl), (Nat.le_of_ble_eq_true rfl)⟩ rfl rfl (Nat.le_of_ble_eq_true rfl) dX5_isText_17 ⟨(Nat.le_of_ble_eq_true rfl), (Nat.le_of_ble_eq_true rfl)⟩ [] [oM a nw th ps sl hd pd od (f_X5_isOrder_v vv o zz), aI G pd 80 o, aI G od 164 (f_X5_isOrder_z vv o zz)] (perm_idx [0, 1, 2] 3 rfl (by decide +kernel) rfl) rfl ?_
        refine j_if_ne (tgt := 25) C dX5_isText_20 (by decide) (fun c20 => ?_) (fun c20 => ?_)
        · refine j_aload_n C dX5_isText_25 1 rfl ?_
          refine j_dup C dX5_isText_26 rfl ?_
          refine j_get C kin5 rfl 0 rfl 10 (by decide) kw_499 rfl (v := .int ((f_X5_isOrder_v vv o zz) 10)) rfl dX5_isText_27 ?_
          refine j_iconst (v := 1) C dX5_isText_30 (by decide) ?_
          refine j_iadd C dX5_isText_31 rfl ?_
          generalize hw2 : ((f_X5_isOrder_v vv o zz) 10) + 1 = w2
          refine j_put C kin5 rfl 0 rfl 10 (by decide) kw_499 rfl tyX5 tyX5_ok nmX5 rfl rfl rfl (Nat.le_of_ble_eq_true rfl) ([oM a nw th ps sl hd pd od (upd (f_X5_isOrder_v vv o zz) 10 w2), aI G pd 80 o, aI G od 164 (f_X5_isOrder_z vv o zz)]) rfl dX5_isText_32 ?_
          refine j_aload_n C dX5_isText_35 1 rfl ?_
          refine j_bipush (v := 59) C dX5_isText_36 (by decide) ?_
          refine j_callV_i (r := f_X5_isSign_r (upd (f_X5_isOrder_v vv o zz) 10 w2) o 59) (wc' := [oM a nw th ps sl hd pd od (f_X5_isSign_v (upd (f_X5_isOrder_v vv o zz) 10 w2) o 59), aI G pd 80 o]) C (m_X5_isSign l G a nw th ps sl hd pd od (upd (f_X5_isOrder_v vv o zz) 10 w2) o 59 (by subst hw2; exact (txI_o hI).a) (by subst hw2; exact (txI_o hI).b)) rfl 0 rfl 1 (gV kw_743 kw_744 kw_787 kw_7 kw_745) (by decide +kernel) ⟨(Nat.le_of_ble_eq_true rfl), (Nat.le_of_ble_eq_true rfl)⟩ rfl rfl (Nat.le_of_ble_eq_true rfl) dX5_isText_38 ⟨(Nat.le_of_ble_eq_true rfl), (Nat.le_of_ble_eq_true rfl)⟩ [aI G od 164 (f_X5_isOrder_z vv o zz)] [oM a nw th ps sl hd pd od (f_X5_isSign_v (upd (f_X5_isOrder_v vv o zz) 10 w2) o 59), aI G pd 80 o, aI G od 164 (f_X5_isOrder_z vv o zz)] (perm_idx [0, 1, 2] 3 rfl (by decide +kernel) rfl) rfl ?_
          generalize hzw3 : f_X5_isSign_r (upd (f_X5_isOrder_v vv o zz) 10 w2) o 59 = w3
          have hw3 : f_X5_isText_rq5 v o z vv zz q n = w3 := by subst hw2; subst hzw3; rfl
          generalize hzw4 : f_X5_isSign_v (upd (f_X5_isOrder_v vv o zz) 10 w2) o 59 = w4
          have hw4 : f_X5_isText_vq5 v o z vv zz q n = w4 := by subst hw2 hw3; subst hzw4; rfl
          refine j_istore_n C [(1, .int w3), (0, .ref a)] dX5_isText_41 (by decide) rfl ?_
          refine j_goto (tgt := 12) C dX5_isText_42 (by decide) ?_
          subst hw2 hw3 hw4; exact j_eq rfl rfl rfl (ih (f_X5_isText_vq5 v o z vv zz q n) (f_X5_isOrder_z vv o zz) (f_X5_isText_rq5 v o z vv zz q n) (txI_s hI c13 c20) (((if_neg c13).trans (if_neg c20)).symm.trans hx))
        · refine j_iconst (v := 0) C dX5_isText_23 (by decide) ?_
          subst hQ; exact j_zret C hr hk rfl (show 0 = ((f_X5_isText_s v o z).1) from (congrArg Prod.fst (hx.symm.trans ((if_neg c13).trans (if_pos c20)))).symm) (by rw [show ((f_X5_isText_s v o z).2.1) = (f_X5_isOrder_v vv o zz) from (congrArg (fun y => y.2.1) (hx.symm.trans ((if_neg c13).trans (if_pos c20)))), show ((f_X5_isText_s v o z).2.2) = (f_X5_isOrder_z vv o zz) from (congrArg (fun y => y.2.2) (hx.symm.trans ((if_neg c13).trans (if_pos c20))))]) dX5_isText_24
  exact j_eq rfl rfl rfl (L1 28 (upd (upd v 8 0) 10 0) z 1 (txI_1 h0 h1) rfl)
noncomputable def f_X5_fault_x2 (v : Nat → Int32) (o : Nat → Int32) (z : Nat → Int32) : Int32 := (if (f_X5_isText_s v o z).1 = 0 then ((f_X5_isText_s v o z).2.1) 8 else (-6))
noncomputable def f_X5_fault_v (v : Nat → Int32) (o : Nat → Int32) (z : Nat → Int32) : (Nat → Int32) := (f_X5_isText_s v o z).2.1
noncomputable def f_X5_fault_z (v : Nat → Int32) (o : Nat → Int32) (z : Nat → Int32) : (Nat → Int32) := (f_X5_isText_s v o z).2.2
noncomputable def f_X5_fault_r (v : Nat → Int32) (o : Nat → Int32) (z : Nat → Int32) : Int32 := (f_X5_fault_x2 v o z)
set_option maxRecDepth 100000 in
set_option maxHeartbeats 4000000 in
theorem m_X5_fault (l : Launch) (G : GG) (a nw th ps sl hd pd od : Nat) (v : Nat → Int32) (o : Nat → Int32) (z : Nat → Int32) (h0 : 0 ≤ (v 7).toInt) (h1 : (v 7).toInt ≤ 80) : CtI l yX5_fault cX5_fault 1 (some .int) (RM 6) G [.ref a] ([oM a nw th ps sl hd pd od v, aI G pd 80 o, aI G od 164 z]) (f_X5_fault_r v o z) ([oM a nw th ps sl hd pd od (f_X5_fault_v v o z), aI G pd 80 o, aI G od 164 (f_X5_fault_z v o z)]) := by
  refine ct_I RX5 [(0, .ref a)] rfl (by decide +kernel) (Nat.le_of_ble_eq_true rfl) rfl ?_
  intro p e s m args below meth c A C hr hk hnm
  generalize hQ : (MQ below (PostI G A (f_X5_fault_r v o z) ([oM a nw th ps sl hd pd od (f_X5_fault_v v o z), aI G pd 80 o, aI G od 164 (f_X5_fault_z v o z)])) args s (RM 6).cells (RM 6).slots A) = Q
  refine j_aload_n C dX5_fault_0 0 rfl ?_
  refine j_callV_i (r := (f_X5_isText_s v o z).1) (wc' := [oM a nw th ps sl hd pd od ((f_X5_isText_s v o z).2.1), aI G pd 80 o, aI G od 164 ((f_X5_isText_s v o z).2.2)]) C (m_X5_isText l G a nw th ps sl hd pd od v o z h0 h1) rfl 0 rfl 0 (gV kw_731 kw_732 kw_783 kw_7 kw_733) (by decide +kernel) ⟨(Nat.le_of_ble_eq_true rfl), (Nat.le_of_ble_eq_true rfl)⟩ rfl rfl (Nat.le_of_ble_eq_true rfl) dX5_fault_1 ⟨(Nat.le_of_ble_eq_true rfl), (Nat.le_of_ble_eq_true rfl)⟩ [] [oM a nw th ps sl hd pd od ((f_X5_isText_s v o z).2.1), aI G pd 80 o, aI G od 164 ((f_X5_isText_s v o z).2.2)] (perm_idx [0, 1, 2] 3 rfl (by decide +kernel) rfl) rfl ?_
  have K16 : WJ p l e (RM 6) s m args below meth c G A 1 0 0 Q ([oM a nw th ps sl hd pd od ((f_X5_isText_s v o z).2.1), aI G pd 80 o, aI G od 164 ((f_X5_isText_s v o z).2.2)]) [(0, .ref a)] 16 [.int (f_X5_fault_x2 v o z)] := by
    generalize hw0 : f_X5_fault_x2 v o z = w0
    subst hQ; subst hw0; exact j_iret C hr hk ((show f_X5_fault_r v o z = (f_X5_fault_x2 v o z) from rfl).symm) (by rw [show f_X5_fault_v v o z = (f_X5_isText_s v o z).2.1 from rfl, show f_X5_fault_z v o z = (f_X5_isText_s v o z).2.2 from rfl]) dX5_fault_16
  refine j_if_eq (tgt := 12) C dX5_fault_4 (by decide) (fun c4 => ?_) (fun c4 => ?_)
  · refine j_aload_n C dX5_fault_12 0 rfl ?_
    refine j_get C kin5 rfl 0 rfl 8 (by decide) kw_497 rfl (v := .int (((f_X5_isText_s v o z).2.1) 8)) rfl dX5_fault_13 ?_
    exact j_eq rfl rfl (by rw [show f_X5_fault_x2 v o z = ((f_X5_isText_s v o z).2.1) 8 from (if_pos c4)]) K16
  · refine j_bipush (v := (-6)) C dX5_fault_7 (by decide) ?_
    refine j_goto (tgt := 16) C dX5_fault_9 (by decide) ?_
    exact j_eq rfl rfl (by rw [show f_X5_fault_x2 v o z = (-6) from (if_neg c4)]) K16
