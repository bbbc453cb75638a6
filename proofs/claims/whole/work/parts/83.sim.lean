/-! THE SIMULATION: orders carried out -/
theorem now_trade (x : StV) (k y z u : Int32) : (f_X3_changeHour_x x k y z u).1 2 = x.1 2 := by
  unfold f_X3_changeHour_x
  (repeat' split) <;> rfl
theorem now_take (x : StV) (k y : Int32) : (f_X3_takeHourBack_x x k y).1 2 = x.1 2 := by
  unfold f_X3_takeHourBack_x
  exact now_trade x k y 1 0
theorem now_sell (x : StV) (k y : Int32) : (f_X3_sellHour_x x k y).1 2 = x.1 2 := by
  unfold f_X3_sellHour_x
  exact now_trade x k y 0 1
theorem op_take {x : StV} {f : Nat → Int64} (R : RR x f) (I : II x) (v v' : Nat → Int32) (k y : Int32) : OP x (f_X3_takeHourBack_r x k y) (f_X3_takeHourBack_x x k y) (f_X5_mayTrade_r v f k y 0) f (f_X5_trades_f v' f k y 0) (f_X5_trades_r v' f k y 0) := by
  unfold f_X3_takeHourBack_r f_X3_takeHourBack_x
  exact op_trade R I v v' k y (.inr ⟨rfl, rfl, rfl⟩)
theorem op_sell {x : StV} {f : Nat → Int64} (R : RR x f) (I : II x) (v v' : Nat → Int32) (k y : Int32) : OP x (f_X3_sellHour_r x k y) (f_X3_sellHour_x x k y) (f_X5_mayTrade_r v f k y 1) f (f_X5_trades_f v' f k y 1) (f_X5_trades_r v' f k y 1) := by
  unfold f_X3_sellHour_r f_X3_sellHour_x
  exact op_trade R I v v' k y (.inl ⟨rfl, rfl, rfl⟩)
theorem now_stream (x : StV) (k y z : Int32) : (f_X3_changeStream_x x k y z).1 2 = x.1 2 := by
  unfold f_X3_changeStream_x
  (repeat' split) <;> rfl
theorem now_write (x : StV) (k y : Int32) : (f_X3_bringUnits_x x k y).1 2 = x.1 2 := by
  unfold f_X3_bringUnits_x
  (repeat' split) <;> rfl
theorem now_set (x : StV) (k y : Int32) : (f_X3_changeSetting_x x k y).1 2 = x.1 2 := by
  unfold f_X3_changeSetting_x
  (repeat' split) <;> rfl
def DOs (x : StV) (f : Nat → Int64) (w Z v : Nat → Int32) (i : Nat) : Prop := (f_X4_carryOutOrder_r x w < 0 ∧ f_X4_carryOutOrder_xp x w = x ∧ f_X5_does_r v f Z (nI i) = 0 ∧ f_X5_does_f v f Z (nI i) = f) ∨ (¬ f_X4_carryOutOrder_r x w < 0 ∧ ¬ f_X5_does_r v f Z (nI i) = 0 ∧ RR (f_X4_carryOutOrder_xp x w) (f_X5_does_f v f Z (nI i)) ∧ II (f_X4_carryOutOrder_xp x w) ∧ ((f_X4_carryOutOrder_xp x w).1 2).toInt ≤ (x.1 2).toInt + 600)
theorem do_A {x : StV} {f : Nat → Int64} (hn : (x.1 2).toInt ≤ 12990000) : ∀ (r : Int32) (X : StV) (may : Int32) (F : Nat → Int64) (an : Int32), OP x r X may f F an → (X.1 2 = x.1 2) → (r < 0 ∧ X = x ∧ (if may = 0 then (1 : Int32) else 0) = 0 ∧ (if may = 0 then F else f) = f) ∨ (¬ r < 0 ∧ ¬ (if may = 0 then (1 : Int32) else 0) = 0 ∧ RR X (if may = 0 then F else f) ∧ II X ∧ (X.1 2).toInt ≤ (x.1 2).toInt + 600) := fun r X may F an o hx => by
    rcases o with ⟨a, b, c⟩ | ⟨a, b, c, d, e⟩
    · have m0 : ¬ may = 0 := fun g => by rw [g] at a; exact absurd a (by decide)
      rw [if_neg m0, if_neg m0, b, c]
      exact .inl ⟨a, rfl, rfl, rfl⟩
    · rw [if_pos a, if_pos a]
      exact .inr ⟨fun g => by have := lt_T.mp g; rw [T_0] at this; omega, by decide, d, e, by rw [hx]; omega⟩
theorem do_103 {x : StV} {f : Nat → Int64} (R : RR x f) (I : II x) (hn : (x.1 2).toInt ≤ 12990000) {w Z v : Nat → Int32} {i : Nat} (hi : i < 41) (H : OD w Z i) (k : w 3 = 103) : DOs x f w Z v i := by
  obtain ⟨x0, x1, x2, x3⟩ := z_ix (v := fun _ => nI i) rfl hi
  obtain ⟨e0, eK, e6, eO, e8⟩ := H
  have A := do_A (f := f) hn
  unfold DOs f_X5_does_r f_X5_does_f f_X5_does_x6 f_X5_does_v12 f_X4_carryOutOrder_r f_X4_carryOutOrder_xp f_X5_does_rq2 f_X5_does_rq3 f_X5_does_rq4 f_X5_does_x1 f_X5_does_fq8 f_X5_does_fq9 f_X5_does_fq10 f_X5_does_x7
  rw [x0, x1, x2, x3, e0]
  obtain ⟨o1, o2⟩ := eO (by rw [k]; decide)
  rw [k, o1, o2, if_pos (show (103 : Int32) = 103 from rfl), if_pos (show (103 : Int32) = 103 from rfl), if_neg (show ¬ (103 : Int32) = 116 by decide), if_neg (show ¬ (103 : Int32) = 116 by decide), if_neg (show ¬ (103 : Int32) = 118 by decide), if_neg (show ¬ (103 : Int32) = 118 by decide), if_neg (show ¬ (103 : Int32) = 119 by decide), if_neg (show ¬ (103 : Int32) = 119 by decide), if_neg (show ¬ (103 : Int32) = 115 by decide)]
  exact A _ _ _ _ _ (op_take R I v v (w 4) (w 5)) (now_take x _ _)
theorem do_115 {x : StV} {f : Nat → Int64} (R : RR x f) (I : II x) (hn : (x.1 2).toInt ≤ 12990000) {w Z v : Nat → Int32} {i : Nat} (hi : i < 41) (H : OD w Z i) (k : w 3 = 115) : DOs x f w Z v i := by
  obtain ⟨x0, x1, x2, x3⟩ := z_ix (v := fun _ => nI i) rfl hi
  obtain ⟨e0, eK, e6, eO, e8⟩ := H
  have A := do_A (f := f) hn
  unfold DOs f_X5_does_r f_X5_does_f f_X5_does_x6 f_X5_does_v12 f_X4_carryOutOrder_r f_X4_carryOutOrder_xp f_X5_does_rq2 f_X5_does_rq3 f_X5_does_rq4 f_X5_does_x1 f_X5_does_fq8 f_X5_does_fq9 f_X5_does_fq10 f_X5_does_x7
  rw [x0, x1, x2, x3, e0]
  obtain ⟨o1, o2⟩ := eO (by rw [k]; decide)
  rw [k, o1, o2, if_neg (show ¬ (115 : Int32) = 103 by decide), if_neg (show ¬ (115 : Int32) = 103 by decide), if_pos (show (115 : Int32) = 115 from rfl), if_pos (show (115 : Int32) = 115 from rfl), if_pos (show (115 : Int32) = 115 from rfl), if_neg (show ¬ (115 : Int32) = 116 by decide), if_neg (show ¬ (115 : Int32) = 116 by decide), if_neg (show ¬ (115 : Int32) = 118 by decide), if_neg (show ¬ (115 : Int32) = 118 by decide), if_neg (show ¬ (115 : Int32) = 119 by decide), if_neg (show ¬ (115 : Int32) = 119 by decide)]
  exact A _ _ _ _ _ (op_sell R I v v (w 4) (w 5)) (now_sell x _ _)
theorem do_116 {x : StV} {f : Nat → Int64} (R : RR x f) (I : II x) (hn : (x.1 2).toInt ≤ 12990000) {w Z v : Nat → Int32} {i : Nat} (hi : i < 41) (H : OD w Z i) (k : w 3 = 116) : DOs x f w Z v i := by
  obtain ⟨x0, x1, x2, x3⟩ := z_ix (v := fun _ => nI i) rfl hi
  obtain ⟨e0, eK, e6, eO, e8⟩ := H
  have A := do_A (f := f) hn
  unfold DOs f_X5_does_r f_X5_does_f f_X5_does_x6 f_X5_does_v12 f_X4_carryOutOrder_r f_X4_carryOutOrder_xp f_X5_does_rq2 f_X5_does_rq3 f_X5_does_rq4 f_X5_does_x1 f_X5_does_fq8 f_X5_does_fq9 f_X5_does_fq10 f_X5_does_x7
  rw [x0, x1, x2, x3, e0]
  have o1 := e6 k
  rw [k, o1]
  have n103 : ¬ (116 : Int32) = 103 := by decide
  have n115 : ¬ (116 : Int32) = 115 := by decide
  have n118 : ¬ (116 : Int32) = 118 := by decide
  have n119 : ¬ (116 : Int32) = 119 := by decide
  have y116 : (116 : Int32) = 116 := rfl
  rw [if_pos y116, if_neg n103, if_neg n115, if_neg n118, if_neg n119, if_neg n103, if_neg n115, if_neg n118, if_neg n119, if_pos y116]
  rcases op_pass R I hn (w 5) with ⟨a, b, c⟩ | ⟨a, b, c, d, e, g⟩
  · rw [if_pos a, b, c, if_neg (by decide), if_neg (by decide)]
    exact .inl ⟨by decide, rfl, rfl, rfl⟩
  · rw [if_neg a, if_pos rfl, if_pos rfl]
    exact .inr ⟨fun t => by have := lt_T.mp t; rw [T_0] at this; omega, by decide, d, e, g⟩
theorem do_118 {x : StV} {f : Nat → Int64} (R : RR x f) (I : II x) (hn : (x.1 2).toInt ≤ 12990000) {w Z v : Nat → Int32} {i : Nat} (hi : i < 41) (H : OD w Z i) (k : w 3 = 118) : DOs x f w Z v i := by
  obtain ⟨x0, x1, x2, x3⟩ := z_ix (v := fun _ => nI i) rfl hi
  obtain ⟨e0, eK, e6, eO, e8⟩ := H
  have A := do_A (f := f) hn
  unfold DOs f_X5_does_r f_X5_does_f f_X5_does_x6 f_X5_does_v12 f_X4_carryOutOrder_r f_X4_carryOutOrder_xp f_X5_does_rq2 f_X5_does_rq3 f_X5_does_rq4 f_X5_does_x1 f_X5_does_fq8 f_X5_does_fq9 f_X5_does_fq10 f_X5_does_x7
  rw [x0, x1, x2, x3, e0]
  obtain ⟨o1, o2⟩ := eO (by rw [k]; decide)
  have o3 := e8 k
  rw [k, o1, o2, o3, if_neg (show ¬ (118 : Int32) = 116 by decide), if_neg (show ¬ (118 : Int32) = 116 by decide), if_pos (show (118 : Int32) = 118 from rfl), if_pos (show (118 : Int32) = 118 from rfl), if_pos (show (118 : Int32) = 118 from rfl), if_pos (show (118 : Int32) = 118 from rfl), if_neg (show ¬ (118 : Int32) = 103 by decide), if_neg (show ¬ (118 : Int32) = 103 by decide), if_neg (show ¬ (118 : Int32) = 115 by decide), if_neg (show ¬ (118 : Int32) = 115 by decide)]
  exact A _ _ _ _ _ (op_stream R I v v (w 4) (w 5) (w 6)) (now_stream x _ _ _)
theorem do_119 {x : StV} {f : Nat → Int64} (R : RR x f) (I : II x) (hn : (x.1 2).toInt ≤ 12990000) {w Z v : Nat → Int32} {i : Nat} (hi : i < 41) (H : OD w Z i) (k : w 3 = 119) : DOs x f w Z v i := by
  obtain ⟨x0, x1, x2, x3⟩ := z_ix (v := fun _ => nI i) rfl hi
  obtain ⟨e0, eK, e6, eO, e8⟩ := H
  have A := do_A (f := f) hn
  unfold DOs f_X5_does_r f_X5_does_f f_X5_does_x6 f_X5_does_v12 f_X4_carryOutOrder_r f_X4_carryOutOrder_xp f_X5_does_rq2 f_X5_does_rq3 f_X5_does_rq4 f_X5_does_x1 f_X5_does_fq8 f_X5_does_fq9 f_X5_does_fq10 f_X5_does_x7
  rw [x0, x1, x2, x3, e0]
  obtain ⟨o1, o2⟩ := eO (by rw [k]; decide)
  rw [k, o1, o2, if_neg (show ¬ (119 : Int32) = 116 by decide), if_neg (show ¬ (119 : Int32) = 116 by decide), if_neg (show ¬ (119 : Int32) = 118 by decide), if_neg (show ¬ (119 : Int32) = 118 by decide), if_neg (show ¬ (119 : Int32) = 118 by decide), if_neg (show ¬ (119 : Int32) = 118 by decide), if_pos (show (119 : Int32) = 119 from rfl), if_pos (show (119 : Int32) = 119 from rfl), if_pos (show (119 : Int32) = 119 from rfl), if_pos (show (119 : Int32) = 119 from rfl), if_neg (show ¬ (119 : Int32) = 103 by decide), if_neg (show ¬ (119 : Int32) = 103 by decide), if_neg (show ¬ (119 : Int32) = 115 by decide), if_neg (show ¬ (119 : Int32) = 115 by decide)]
  exact A _ _ _ _ _ (op_write R I v v (w 4) (w 5)) (now_write x _ _)
theorem do_sim {x : StV} {f : Nat → Int64} (R : RR x f) (I : II x) (hn : (x.1 2).toInt ≤ 12990000) {w Z v : Nat → Int32} {i : Nat} (hi : i < 41) (H : OD w Z i) :
    (f_X4_carryOutOrder_r x w < 0 ∧ f_X4_carryOutOrder_xp x w = x ∧ f_X5_does_r v f Z (nI i) = 0 ∧ f_X5_does_f v f Z (nI i) = f) ∨ (¬ f_X4_carryOutOrder_r x w < 0 ∧ ¬ f_X5_does_r v f Z (nI i) = 0 ∧ RR (f_X4_carryOutOrder_xp x w) (f_X5_does_f v f Z (nI i)) ∧ II (f_X4_carryOutOrder_xp x w) ∧ ((f_X4_carryOutOrder_xp x w).1 2).toInt ≤ (x.1 2).toInt + 600) := by
  rcases H.2.1 with k | k | k | k | k
  · exact do_103 R I hn hi H k
  · exact do_115 R I hn hi H k
  · exact do_116 R I hn hi H k
  · exact do_118 R I hn hi H k
  · exact do_119 R I hn hi H k
theorem carry_sim {q : Nat → UInt16} {L : Nat} {Z v : Nat → Int32} : ∀ (r n i p' : Nat) (w : Nat → Int32) (x : StV) (f : Nat → Int64), RD q L Z r i p' → r < n → i + r ≤ 28 → w 1 = nI L → w 2 = nI p' → RR x f → II x → (x.1 2).toInt + 600 * r ≤ 12990000 →
    (carryF q n i w x).1 = (carM v Z r i f).1 ∧ RR (carryF q n i w x).2.2 (carM v Z r i f).2 ∧ II (carryF q n i w x).2.2 ∧ ((carryF q n i w x).2.2.1 2).toInt ≤ (x.1 2).toInt + 600 * r
  | 0, 0, i, p', w, x, f, _, hn, _, _, _, _, _, _ => absurd hn (Nat.lt_irrefl 0)
  | 0, n + 1, i, p', w, x, f, H, hn, hi, h1, h2, R, I, hb => by
    unfold carryF
    rw [if_pos (H w h1 h2)]
    exact ⟨rfl, R, I, by show (x.1 2).toInt ≤ _; omega⟩
  | r + 1, 0, i, p', w, x, f, _, hn, _, _, _, _, _, _ => absurd hn (Nat.not_lt_zero _)
  | r + 1, n + 1, i, p', w, x, f, H, hn, hi, h1, h2, R, I, hb => by
    obtain ⟨p2, a, b⟩ := H
    obtain ⟨a1, a2, a3, a4⟩ := a w h1 h2
    unfold carryF carM
    rw [if_neg a1]
    rcases do_sim R I (by omega) (v := v) (show i < 41 by omega) a4 with ⟨c1, c2, c3, c4⟩ | ⟨c1, c2, c3, c4, c5⟩
    · rw [if_pos c1, if_pos c3, c2, c4]
      exact ⟨rfl, R, I, by show (x.1 2).toInt ≤ _; omega⟩
    · rw [if_neg c1, if_neg c2]
      obtain ⟨d1, d2, d3, d4⟩ := carry_sim (v := v) r n (i + 1) p2 _ _ _ b (by omega) (by omega) a2 a3 c3 c4 (by omega)
      exact ⟨d1, d2, d3, by omega⟩
theorem op_carry {x : StV} {f u : Nat → Int64} {h v w o : Nat → Int32} {sv : Nat → StV} {q : Nat → UInt16} {N : Int} (R : RR x f) (I : II x) (hN : (x.1 2).toInt ≤ N) (hb : N ≤ 12900000) (K : HR h sv v u N) (P : PR w q v o) (z : Nat → Int32) :
    f_X4_carryOut_r h sv x w q = f_X5_carryOut_r v f u o z ∧ RR (f_X4_carryOut_xp h sv x w q) (f_X5_carryOut_f v f u o z) ∧ II (f_X4_carryOut_xp h sv x w q) ∧ ((f_X4_carryOut_xp h sv x w q).1 2).toInt ≤ N + 16800 ∧ HR (f_X4_carryOut_h h sv x w q) (f_X4_carryOut_sv h sv x w q) (f_X5_carryOut_v v f u o z) (f_X5_carryOut_u v f u o z) N ∧ PR (f_X4_carryOut_v h sv x w q) q (f_X5_carryOut_v v f u o z) o := by
  have P' := P
  obtain ⟨L, hL, hw, hv, ho⟩ := P'
  obtain ⟨a, b, c⟩ := text_0 (q := q) (o := o) ⟨hL, ho⟩ z hw hv
  have v3 : (f_X5_isText_s v o z).2.1 3 = v 3 := text_3 (by rw [hv, nI_T (by omega)]; omega) (by rw [hv, nI_T (by omega)]; omega)
  unfold f_X4_carryOut_r f_X5_carryOut_r f_X4_carryOut_xp f_X5_carryOut_f f_X4_carryOut_h f_X4_carryOut_sv f_X5_carryOut_v f_X5_carryOut_u f_X4_carryOut_v
  rcases a with ⟨a1, a2, a3⟩ | ⟨a1, a2, r, a3, a4, a5⟩
  · have n6 : ¬ (faultF q 80 (f_X2_begin_v w)).1 = -6 := fun g => by
      rw [a2] at g
      rw [g, show (-6 : Int32).toInt = -6 by decide] at a3
      omega
    rw [if_neg n6, if_neg n6, if_neg n6, if_neg n6, if_neg n6, if_pos a1, if_pos a1, if_pos a1, if_pos a1]
    exact ⟨rfl, R, I, by omega, K.vext v3, L, hL, b, c, ho⟩
  · have n1 : ¬ (f_X5_isText_s v o z).1 = 0 := by rw [a1]; decide
    rw [if_pos a2, if_pos a2, if_pos a2, if_pos a2, if_pos a2, if_neg n1, if_neg n1, if_neg n1, if_neg n1]
    have K' := (K.vext v3).keep R I hN
    have nn : f_X5_carryOut_n v o z = r := by
      unfold f_X5_carryOut_n
      rw [a4, nI_clamp (by omega)]
    unfold f_X4_carryOut_s f_X5_carryOut_s
    rw [nn]
    obtain ⟨d1, d2, d3, d4⟩ := carry_sim (v := upd (f_X5_records_v (f_X5_isText_s v o z).2.1 f u) 7 0) r 80 0 0 (f_X2_begin_v (faultF q 80 (f_X2_begin_v w)).2) x f a5 (by omega) (by omega) b rfl R I (by omega)
    exact ⟨d1, d2, d3, by omega, K'.vext rfl, 0, by omega, rfl, rfl, fun i hi => absurd hi (Nat.not_lt_zero i)⟩
