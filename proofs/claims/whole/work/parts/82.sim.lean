/-! THE SIMULATION: a text -/
/-- from the place p' the class comes to the order at p -/
def PL (o : Nat → Int32) (L p' p : Nat) : Prop := (p' = 0 ∧ p = 0) ∨ (1 ≤ p' ∧ chT o L p' = 59 ∧ p = p' + 1)
/-- from the place p' the class reads r orders, from the i-th on, as they stand in Z, and then no more -/
def RD (q : Nat → UInt16) (L : Nat) (Z : Nat → Int32) : Nat → Nat → Nat → Prop
  | 0, _, p' => ∀ w : Nat → Int32, w 1 = nI L → w 2 = nI p' → f_X2_readNext_r w q = 0
  | r + 1, i, p' => ∃ p2 : Nat, (∀ w : Nat → Int32, w 1 = nI L → w 2 = nI p' → ¬ f_X2_readNext_r w q = 0 ∧ f_X2_readNext_v w q 1 = nI L ∧ f_X2_readNext_v w q 2 = nI p2 ∧ OD (f_X2_readNext_v w q) Z i) ∧ RD q L Z r (i + 1) p2
theorem OD.ext {w z Z : Nat → Int32} {m : Nat} (H : OD w z m) (h : ∀ n : Nat, n < 4 * (m + 1) → Z n = z n) : OD w Z m := by
  unfold OD
  rw [h (4 * m) (by omega), h (4 * m + 1) (by omega), h (4 * m + 2) (by omega), h (4 * m + 3) (by omega)]
  exact H
section TEXT
variable {q : Nat → UInt16} {o : Nat → Int32} {L : Nat}
theorem nx_ok (h : TX q o L) {w : Nat → Int32} {p' p : Nat} (hp : p' < 500) (P : PL o L p' p) (h1 : w 1 = nI L) (h2 : w 2 = nI p') : ∃ w' : Nat → Int32, w' 1 = nI L ∧ w' 2 = nI p ∧ f_X2_readNext_r w q = (if f_X2_readOrder_r w' q = 0 then 0 else 1) ∧ f_X2_readNext_v w q = f_X2_readOrder_v w' q := by
  rw [f_X2_readNext_r_eq, f_X2_readNext_x4_eq, f_X2_readNext_v_eq, f_X2_readNext_v5_eq, h2]
  rcases P with ⟨a, b⟩ | ⟨a, b, c⟩
  · subst a b
    have z0 : nI 0 = 0 := rfl
    rw [if_pos z0, if_pos z0]
    exact ⟨w, h1, h2, rfl, rfl⟩
  · obtain ⟨r1, r2⟩ := rS h h1 h2 (by omega) 59
    have n0 : ¬ nI p' = 0 := fun g => by have := (nJ_eq (b := 0) (by omega) (by decide)).mp g; omega
    rw [if_neg n0, if_neg n0, r1, r2, if_pos b, if_pos b, if_neg (show ¬ (1 : Int32) = 0 by decide), if_neg (show ¬ (1 : Int32) = 0 by decide)]
    exact ⟨upd w 2 (nI (p' + 1)), h1, by rw [c]; rfl, rfl, rfl⟩
theorem nx_no (h : TX q o L) {w : Nat → Int32} {p' : Nat} (hp : p' < 500) (h0 : 1 ≤ p') (hc : ¬ chT o L p' = 59) (h1 : w 1 = nI L) (h2 : w 2 = nI p') : f_X2_readNext_r w q = 0 ∧ f_X2_readNext_v w q = w := by
  rw [f_X2_readNext_r_eq, f_X2_readNext_x4_eq, f_X2_readNext_v_eq, f_X2_readNext_v5_eq, h2]
  obtain ⟨r1, r2⟩ := rS h h1 h2 (by omega) 59
  have n0 : ¬ nI p' = 0 := fun g => by have := (nJ_eq (b := 0) (by omega) (by decide)).mp g; omega
  rw [if_neg n0, if_neg n0, r1, r2, if_neg hc, if_neg hc, if_pos rfl, if_pos rfl]
  exact ⟨rfl, rfl⟩
theorem text_sim (h : TX q o L) : ∀ (n m p p' c : Nat) (w vv zz : Nat → Int32), n + m = 28 → 3 * m ≤ p → p ≤ L → PL o L p' p → c + m = 80 → w 1 = nI L → w 2 = nI p' → vv 7 = nI L → vv 8 = nI p → vv 10 = nI m →
    (((textM o n vv zz 1).1 = 0 ∧ (faultF q c w).1 = (textM o n vv zz 1).2.1 8 ∧ 0 ≤ ((textM o n vv zz 1).2.1 8).toInt) ∨ ((textM o n vv zz 1).1 = 1 ∧ (faultF q c w).1 = -6 ∧ ∃ r : Nat, m + r ≤ 28 ∧ (textM o n vv zz 1).2.1 10 = nI (m + r) ∧ RD q L (textM o n vv zz 1).2.2 r m p')) ∧ (faultF q c w).2 1 = nI L ∧ (textM o n vv zz 1).2.1 7 = nI L ∧ ∀ j : Nat, j < 4 * m → (textM o n vv zz 1).2.2 j = zz j
  | 0, m, p, p', c, w, vv, zz, hn, h3, hp, P, hc, h1, h2, h7, h8, h10 => by
    have := h.1
    omega
  | n + 1, m, p, p', 0, w, vv, zz, hn, h3, hp, P, hc, h1, h2, h7, h8, h10 => by omega
  | n + 1, m, p, p', c + 1, w, vv, zz, hn, h3, hp, P, hc, h1, h2, h7, h8, h10 => by
    have hL := h.1
    have hp' : p' ≤ p := by rcases P with ⟨a, b⟩ | ⟨a, b, d⟩ <;> omega
    obtain ⟨w', a1, a2, a3, a4⟩ := nx_ok h (by omega) P h1 h2
    obtain ⟨q1, p2, b1, b2, b3, b4, b5, b6, b7⟩ := ord_sim (z := zz) h a1 a2 h7 h8 h10 (by omega) hp
    have eT : textM o (n + 1) vv zz 1 = if f_X5_isOrder_r vv o zz = 0 then (0, f_X5_isOrder_v vv o zz, f_X5_isOrder_z vv o zz) else textM o n (f_X5_isSign_v (upd (f_X5_isOrder_v vv o zz) 10 (f_X5_isOrder_v vv o zz 10 + 1)) o 59) (f_X5_isOrder_z vv o zz) (f_X5_isSign_r (upd (f_X5_isOrder_v vv o zz) 10 (f_X5_isOrder_v vv o zz 10 + 1)) o 59) := if_neg (show ¬ (1 : Int32) = 0 by decide)
    have eF : faultF q (c + 1) w = if f_X2_readNext_r w q = 0 then (f_X2_readNext_v w q 2, f_X2_readNext_v w q) else if f_X2_readNext_v w q 2 = f_X2_readNext_v w q 1 then (-6, f_X2_readNext_v w q) else faultF q c (f_X2_readNext_v w q) := rfl
    rw [a3, a4, b3, b4] at eF
    by_cases d : f_X2_readOrder_r w' q = 0
    · rw [if_pos d, if_pos rfl] at eF
      rw [if_pos (q1.mp d), b5] at eT
      rw [eF, eT]
      refine ⟨.inl ⟨rfl, rfl, ?_⟩, b3, h7, fun j hj => b6 j (by omega)⟩
      show 0 ≤ (nI p2).toInt
      rw [nI_T (by omega)]
      omega
    · have d' : ¬ f_X5_isOrder_r vv o zz = 0 := fun g => d (q1.mpr g)
      rw [if_neg d, if_neg (show ¬ (1 : Int32) = 0 by decide)] at eF
      obtain ⟨b8, b9⟩ := b7 d
      -- the order that was read, for any reader at this place
      have RDn : ∀ x : Nat → Int32, x 1 = nI L → x 2 = nI p' → ¬ f_X2_readNext_r x q = 0 ∧ f_X2_readNext_v x q 1 = nI L ∧ f_X2_readNext_v x q 2 = nI p2 ∧ OD (f_X2_readNext_v x q) (f_X5_isOrder_z vv o zz) m := fun x x1 x2 => by
        obtain ⟨w2, c1, c2, c3, c4⟩ := nx_ok h (by omega) P x1 x2
        obtain ⟨t1, p3, u1, u2, u3, u4, u5, u6, u7⟩ := ord_sim (z := zz) h c1 c2 h7 h8 h10 (by omega) hp
        have dd : ¬ f_X2_readOrder_r w2 q = 0 := fun g => d' (t1.mp g)
        have e23 : p3 = p2 := by
          have := congrFun (u5.symm.trans b5) 8
          exact (nJ_eq (by omega) (by omega)).mp this
        rw [c3, c4, if_neg dd, u3, u4, e23]
        exact ⟨by decide, rfl, rfl, (u7 dd).2⟩
      -- the order's own length
      have okv : okP vv := by
        unfold okP
        rw [h7, h8, h10, nI_T (by omega), nI_T (by omega), nI_T (by omega)]
        omega
      have len : p + 2 ≤ p2 := by
        have := ((ord_ok (o := o) (z := zz) okv).2 d').2.2.2
        rw [b5, h8, nI_T (by omega), show upd vv 8 (nI p2) 8 = nI p2 from rfl, nI_T (by omega)] at this
        omega
      have V7 : upd (upd vv 8 (nI p2)) 10 (nI (m + 1)) 7 = nI L := h7
      have V8 : upd (upd vv 8 (nI p2)) 10 (nI (m + 1)) 8 = nI p2 := rfl
      have sr := iS_r h V7 V8 (by omega) (a := 59) (by decide)
      have sv := iSv h V7 V8 (by omega) (a := 59) (by decide)
      rw [if_neg d', b5, show upd vv 8 (nI p2) 10 = vv 10 from rfl, h10, nI_s1 (by omega)] at eT
      by_cases s : chT o L p2 = 59
      · have sl := (ch_in s (by decide)).1
        have sq : f_X5_isSign_r (upd (upd vv 8 (nI p2)) 10 (nI (m + 1))) o 59 = 1 := by
          have : ¬ f_X5_isSign_r (upd (upd vv 8 (nI p2)) 10 (nI (m + 1))) o 59 = 0 := fun g => sr.mp g s
          have e : f_X5_isSign_r (upd (upd vv 8 (nI p2)) 10 (nI (m + 1))) o 59 = f_X5_isAt_x2 (upd (upd vv 8 (nI p2)) 10 (nI (m + 1))) o 59 59 := rfl
          rw [e] at this ⊢
          unfold f_X5_isAt_x2 at this ⊢
          by_cases x1 : upd (upd vv 8 (nI p2)) 10 (nI (m + 1)) 7 ≤ upd (upd vv 8 (nI p2)) 10 (nI (m + 1)) 8
          · rw [if_pos x1] at this
            exact absurd rfl this
          · rw [if_neg x1] at this ⊢
            by_cases x2 : f_X5_isAt_rq1 (upd (upd vv 8 (nI p2)) 10 (nI (m + 1))) o 59 59 = 0
            · rw [if_pos x2] at this
              exact absurd rfl this
            · rw [if_neg x2]
        rw [sv, if_pos s, sq] at eT
        rw [if_neg (fun g => by have := (nJ_eq (by omega) (by omega)).mp g; omega)] at eF
        have ih := text_sim h n (m + 1) (p2 + 1) p2 c (f_X2_readOrder_v w' q) (upd (upd (upd vv 8 (nI p2)) 10 (nI (m + 1))) 8 (nI (p2 + 1))) (f_X5_isOrder_z vv o zz) (by omega) (by omega) (by omega) (.inr ⟨by omega, s, rfl⟩) (by omega) b3 b4 h7 rfl rfl
        rw [eT, eF]
        obtain ⟨i1, i2, i3, i4⟩ := ih
        refine ⟨?_, i2, i3, fun j hj => (i4 j (by omega)).trans (b6 j (by omega))⟩
        rcases i1 with i1 | ⟨g1, g2, r, g3, g4, g5⟩
        · exact .inl i1
        · exact .inr ⟨g1, g2, r + 1, by omega, by rw [g4]; exact congrArg nI (by omega), p2, fun x x1 x2 => ⟨(RDn x x1 x2).1, (RDn x x1 x2).2.1, (RDn x x1 x2).2.2.1, (RDn x x1 x2).2.2.2.ext i4⟩, g5⟩
      · have sq : f_X5_isSign_r (upd (upd vv 8 (nI p2)) 10 (nI (m + 1))) o 59 = 0 := sr.mpr s
        rw [sv, if_neg s, sq] at eT
        have e0 : textM o n (upd (upd (upd vv 8 (nI p2)) 10 (nI (m + 1))) 8 (nI p2)) (f_X5_isOrder_z vv o zz) 0 = (if nI p2 = nI L then 1 else 0, upd (upd (upd vv 8 (nI p2)) 10 (nI (m + 1))) 8 (nI p2), f_X5_isOrder_z vv o zz) := by
          have g : upd (upd (upd vv 8 (nI p2)) 10 (nI (m + 1))) 8 (nI p2) 7 = nI L := h7
          rw [← g]
          cases n with
          | zero => rfl
          | succ n => exact if_pos rfl
        rw [e0] at eT
        have nn : ∀ x : Nat → Int32, x 1 = nI L → x 2 = nI p2 → f_X2_readNext_r x q = 0 ∧ f_X2_readNext_v x q = x := fun x x1 x2 => nx_no h (by omega) (by omega) s x1 x2
        by_cases e : p2 = L
        · rw [if_pos (by rw [e])] at eF
          rw [if_pos (by rw [e])] at eT
          rw [eT, eF]
          exact ⟨.inr ⟨rfl, rfl, 1, by omega, rfl, p2, RDn, fun x x1 x2 => (nn x x1 x2).1⟩, b3, h7, fun j hj => b6 j (by omega)⟩
        · have e' : ¬ nI p2 = nI L := fun g => e ((nJ_eq (by omega) (by omega)).mp g)
          rw [if_neg e'] at eF
          rw [if_neg e'] at eT
          obtain ⟨y1, y2⟩ := nn _ b3 b4
          have eF2 : faultF q c (f_X2_readOrder_v w' q) = (nI p2, f_X2_readOrder_v w' q) := by
            cases c with
            | zero => omega
            | succ c =>
              show (if _ = 0 then _ else _) = _
              rw [if_pos y1, y2, b4]
          rw [eF2] at eF
          rw [eT, eF]
          refine ⟨.inl ⟨rfl, rfl, ?_⟩, b3, h7, fun j hj => b6 j (by omega)⟩
          show 0 ≤ (nI p2).toInt
          rw [nI_T (by omega)]
          omega
theorem text_0 (h : TX q o L) {w v : Nat → Int32} (z : Nat → Int32) (h1 : w 1 = nI L) (h7 : v 7 = nI L) :
    (((f_X5_isText_s v o z).1 = 0 ∧ (faultF q 80 (f_X2_begin_v w)).1 = (f_X5_isText_s v o z).2.1 8 ∧ 0 ≤ ((f_X5_isText_s v o z).2.1 8).toInt) ∨ ((f_X5_isText_s v o z).1 = 1 ∧ (faultF q 80 (f_X2_begin_v w)).1 = -6 ∧ ∃ r : Nat, r ≤ 28 ∧ (f_X5_isText_s v o z).2.1 10 = nI r ∧ RD q L (f_X5_isText_s v o z).2.2 r 0 0)) ∧ (faultF q 80 (f_X2_begin_v w)).2 1 = nI L ∧ (f_X5_isText_s v o z).2.1 7 = nI L := by
  obtain ⟨a, b, c, -⟩ := text_sim h 28 0 0 0 80 (f_X2_begin_v w) (upd (upd v 8 0) 10 0) z rfl (by omega) (by omega) (.inl ⟨rfl, rfl⟩) rfl h1 rfl h7 rfl rfl
  refine ⟨?_, b, c⟩
  rcases a with a | ⟨a1, a2, r, a3, a4, a5⟩
  · exact .inl a
  · exact .inr ⟨a1, a2, r, by omega, by rw [show r = 0 + r by omega]; exact a4, a5⟩
theorem op_fault {w v : Nat → Int32} (z : Nat → Int32) (P : PR w q v o) : f_X4_fault_r w q = f_X5_fault_r v o z ∧ PR (f_X4_fault_v w q) q (f_X5_fault_v v o z) o ∧ f_X5_fault_v v o z 3 = v 3 := by
  obtain ⟨L, hL, hw, hv, ho⟩ := P
  obtain ⟨a, b, c⟩ := text_0 (q := q) (o := o) ⟨hL, ho⟩ z hw hv
  refine ⟨?_, ⟨L, hL, b, c, ho⟩, text_3 (by rw [hv, nI_T (by omega)]; omega) (by rw [hv, nI_T (by omega)]; omega)⟩
  unfold f_X4_fault_r f_X5_fault_r f_X5_fault_x2
  rcases a with ⟨a1, a2, -⟩ | ⟨a1, a2, -⟩
  · rw [if_pos a1, a2]
  · rw [a1, a2, if_neg (by decide)]
end TEXT
