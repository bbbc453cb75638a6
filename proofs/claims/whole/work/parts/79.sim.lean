/-! THE SIMULATION: signs, digits, numbers of a text -/
/-- the sign at a place of the text, 0 behind its end -/
def chT (o : Nat → Int32) (L p : Nat) : Int32 := if p < L then o p else 0
def TX (q : Nat → UInt16) (o : Nat → Int32) (L : Nat) : Prop := L ≤ 80 ∧ ∀ i : Nat, i < L → (q i).toUInt32.toInt32 = o i
abbrev dg (x : Int32) : Prop := 48 ≤ x.toInt ∧ x.toInt ≤ 57
def nlen (o : Nat → Int32) (L p : Nat) : Nat := if dg (chT o L p) then (if chT o L p = 48 then 1 else if dg (chT o L (p + 1)) then (if dg (chT o L (p + 2)) then 3 else 2) else 1) else 0
def nval (o : Nat → Int32) (L p : Nat) : Int32 := if chT o L p = 48 then 0 else if dg (chT o L (p + 1)) then (if dg (chT o L (p + 2)) then ((chT o L p - 48) * 10 + (chT o L (p + 1) - 48)) * 10 + (chT o L (p + 2) - 48) else (chT o L p - 48) * 10 + (chT o L (p + 1) - 48)) else chT o L p - 48
theorem T_48 : (48 : Int32).toInt = 48 := by decide
theorem T_10 : (10 : Int32).toInt = 10 := by decide
theorem updI (f : Nat → Int32) (k : Nat) (a b : Int32) : upd (upd f k a) k b = upd f k b := by
  funext j
  unfold upd
  by_cases c : j = k
  · rw [if_pos c, if_pos c]
  · rw [if_neg c, if_neg c, if_neg c]
theorem updI_id (f : Nat → Int32) (k : Nat) : upd f k (f k) = f := by
  funext j
  unfold upd
  by_cases c : j = k
  · rw [if_pos c, c]
  · rw [if_neg c]
theorem c16 (x : UInt16) : 0 ≤ x.toUInt32.toInt32.toInt ∧ x.toUInt32.toInt32.toInt ≤ 65535 := by
  have l := x.toNat_lt
  have t : x.toUInt32.toBitVec.toNat = x.toNat := UInt16.toNat_toUInt32 x
  have e : x.toUInt32.toInt32.toInt = (x.toNat : Int) := by
    show x.toUInt32.toBitVec.toInt = _
    rw [BitVec.toInt_eq_toNat_of_lt (by rw [t]; omega), t]
  rw [e]
  omega
section TXT
variable {q : Nat → UInt16} {o w v z : Nat → Int32} {L p : Nat}
theorem ch_rng (h : TX q o L) (p : Nat) : 0 ≤ (chT o L p).toInt ∧ (chT o L p).toInt ≤ 65535 := by
  unfold chT
  split
  · rename_i hp
    rw [← h.2 p hp]
    exact c16 _
  · rw [T_0]
    omega
theorem sH (h : TX q o L) (h1 : w 1 = nI L) (h2 : w 2 = nI p) (hp : p < 1000) : f_X2_signHere_r w q = chT o L p := by
  have hL := h.1
  unfold f_X2_signHere_r f_X2_signHere_x1 chT
  rw [h1, h2, if_neg (fun g => by have := (nJ_lt (b := 0) (by omega) (by decide)).mp g; omega)]
  by_cases c : p < L
  · rw [if_neg (fun g => by have := (nJ_le (by omega) (by omega)).mp g; omega), if_neg (fun g => by have := (nJ_le (a := 80) (by decide) (by omega)).mp g; omega), if_pos c, nI_clamp (by omega), h.2 p c]
  · rw [if_pos ((nJ_le (by omega) (by omega)).mpr (by omega)), if_neg c]
theorem iA (h : TX q o L) (h7 : v 7 = nI L) (h8 : v 8 = nI p) (hp : p < 1000) {a b : Int32} (ha : 0 < a.toInt) : (¬ f_X5_isAt_r v o a b = 0) ↔ (a.toInt ≤ (chT o L p).toInt ∧ (chT o L p).toInt ≤ b.toInt) := by
  have hL := h.1
  rw [isAt_iff, h7, h8, nI_T (by omega), nI_T (by omega), nI_clamp (by omega)]
  unfold chT
  by_cases c : p < L
  · rw [if_pos c]
    exact ⟨fun g => g.2, fun g => ⟨by omega, g⟩⟩
  · rw [if_neg c, T_0]
    exact ⟨fun g => by omega, fun g => by omega⟩
theorem iA1 (h : TX q o L) (h7 : v 7 = nI L) (h8 : v 8 = nI p) (hp : p < 1000) {a : Int32} (ha : 0 < a.toInt) : (f_X5_isAt_r v o a a = 0) ↔ ¬ chT o L p = a := by
  have e := iA h h7 h8 hp (b := a) ha
  constructor
  · intro g c
    exact e.mpr ⟨by rw [c]; omega, by rw [c]; omega⟩ g
  · intro g
    exact Classical.byContradiction fun c => g (Int32.toInt_inj.mp (by have := e.mp c; omega))
theorem iS_r (h : TX q o L) (h7 : v 7 = nI L) (h8 : v 8 = nI p) (hp : p < 1000) {a : Int32} (ha : 0 < a.toInt) : (f_X5_isSign_r v o a = 0) ↔ ¬ chT o L p = a := iA1 h h7 h8 hp ha
theorem iS_v (h : TX q o L) (h7 : v 7 = nI L) (h8 : v 8 = nI p) (hp : p < 1000) {a : Int32} (ha : 0 < a.toInt) : f_X5_isSign_v v o a = upd v 8 (if chT o L p = a then nI (p + 1) else nI p) := by
  have e := iA1 h h7 h8 hp ha
  unfold f_X5_isSign_v f_X5_isSign_x2
  by_cases c : chT o L p = a
  · rw [if_neg (fun g => e.mp g c), if_pos c, h8, nI_s1 (by omega)]
  · rw [if_pos (e.mpr c), if_neg c, h8, Int32.add_zero]
theorem rS (h : TX q o L) (h1 : w 1 = nI L) (h2 : w 2 = nI p) (hp : p < 1000) (a : Int32) : f_X2_readSign_r w q a = (if chT o L p = a then 1 else 0) ∧ f_X2_readSign_v w q a = (if chT o L p = a then upd w 2 (nI (p + 1)) else w) := by
  rw [f_X2_readSign_r_eq, f_X2_readSign_v_eq, sH h h1 h2 hp, h2, nI_s1 (by omega)]
  exact ⟨rfl, rfl⟩
theorem dg_r (x : Int32) : (f_X2_isDigit_r x = 0) ↔ ¬ dg x := by
  unfold f_X2_isDigit_r f_X2_isDigit_x1 dg
  by_cases c0 : x < 48
  · rw [if_pos c0]
    have := lt_T.mp c0
    rw [T_48] at this
    exact ⟨fun _ => by omega, fun _ => rfl⟩
  · rw [if_neg c0]
    have h0 := le_T.mp (Int32.not_lt.mp c0)
    rw [T_48] at h0
    by_cases c1 : 57 < x
    · rw [if_pos c1]
      have := lt_T.mp c1
      rw [show (57 : Int32).toInt = 57 by decide] at this
      exact ⟨fun _ => by omega, fun _ => rfl⟩
    · rw [if_neg c1]
      have := le_T.mp (Int32.not_lt.mp c1)
      rw [show (57 : Int32).toInt = 57 by decide] at this
      exact ⟨fun g => absurd g (by decide), fun g => by omega⟩
theorem dg0 {x : Int32} (h : dg x) : (x - 48 = 0) ↔ x = 48 := by
  have t := T_sub (x := x) (y := 48) (by rw [T_48]; omega) (by rw [T_48]; omega)
  rw [T_48] at t
  constructor
  · intro g
    rw [g, T_0] at t
    exact Int32.toInt_inj.mp (by rw [T_48]; omega)
  · intro g
    rw [g]
    rfl
theorem rN (h : TX q o L) (h1 : w 1 = nI L) (h2 : w 2 = nI p) (hp : p < 900) : f_X2_readNumber_r w q = (if nlen o L p = 0 then -1 else nval o L p) ∧ f_X2_readNumber_v w q = (if nlen o L p = 0 then w else upd w 2 (nI (p + nlen o L p))) := by
  have s0 := sH h h1 h2 (by omega)
  have s1 := sH h (w := upd w 2 (w 2 + 1)) (p := p + 1) h1 (by show w 2 + 1 = _; rw [h2, nI_s1 (by omega)]) (by omega)
  have s2 := sH h (w := upd w 2 (w 2 + 1 + 1)) (p := p + 2) h1 (by show w 2 + 1 + 1 = _; rw [h2, nI_s1 (by omega), nI_s1 (by omega)]) (by omega)
  have d0 := dg_r (chT o L p)
  have d1 := dg_r (chT o L (p + 1))
  have d2 := dg_r (chT o L (p + 2))
  have w1 : w 2 + 1 = nI (p + 1) := by rw [h2, nI_s1 (by omega)]
  have w2 : w 2 + 1 + 1 = nI (p + 2) := by rw [w1, nI_s1 (by omega)]
  have w3 : w 2 + 1 + 1 + 1 = nI (p + 3) := by rw [w2, nI_s1 (by omega)]
  rw [f_X2_readNumber_r_eq, f_X2_readNumber_v_eq, f_X2_readNumber_x11_eq, f_X2_readNumber_v12_eq, f_X2_readNumber_rq8_eq, s0, s1, s2, w3, w2, w1]
  unfold nlen nval
  by_cases c0 : dg (chT o L p)
  · rw [if_neg (fun g => d0.mp g c0), if_neg (fun g => d0.mp g c0), if_pos c0]
    by_cases c4 : chT o L p = 48
    · rw [if_pos ((dg0 c0).mpr c4), if_pos ((dg0 c0).mpr c4), if_pos c4, if_neg (show ¬ (1 : Nat) = 0 by decide), if_neg (show ¬ (1 : Nat) = 0 by decide), if_pos c4, (dg0 c0).mpr c4]
      exact ⟨rfl, rfl⟩
    · rw [if_neg (fun g => c4 ((dg0 c0).mp g)), if_neg (fun g => c4 ((dg0 c0).mp g)), if_neg c4]
      by_cases c1 : dg (chT o L (p + 1))
      · rw [if_neg (fun g => d1.mp g c1), if_neg (fun g => d1.mp g c1), if_pos c1]
        by_cases c2 : dg (chT o L (p + 2))
        · rw [if_neg (fun g => d2.mp g c2), if_neg (fun g => d2.mp g c2), if_pos c2, if_neg (show ¬ (3 : Nat) = 0 by decide), if_neg (show ¬ (3 : Nat) = 0 by decide), if_neg c4, if_pos c1, if_pos c2]
          exact ⟨rfl, rfl⟩
        · rw [if_pos (d2.mpr c2), if_pos (d2.mpr c2), if_neg c2, if_neg (show ¬ (2 : Nat) = 0 by decide), if_neg (show ¬ (2 : Nat) = 0 by decide), if_neg c4, if_pos c1, if_neg c2]
          exact ⟨rfl, rfl⟩
      · rw [if_pos (d1.mpr c1), if_pos (d1.mpr c1), if_neg c1, if_neg (show ¬ (1 : Nat) = 0 by decide), if_neg (show ¬ (1 : Nat) = 0 by decide), if_neg c4, if_neg c1]
        exact ⟨rfl, rfl⟩
  · rw [if_pos (d0.mpr c0), if_pos (d0.mpr c0), if_neg c0, if_pos rfl, if_pos rfl]
    exact ⟨rfl, rfl⟩
theorem dig_st {a c : Int32} (ha : 0 ≤ a.toInt ∧ a.toInt ≤ 99) (hc : dg c) : 10 * a + c - 48 = a * 10 + (c - 48) ∧ (a * 10 + (c - 48)).toInt = 10 * a.toInt + c.toInt - 48 := by
  have t1 := T_sub (x := c) (y := 48) (by rw [T_48]; omega) (by rw [T_48]; omega)
  rw [T_48] at t1
  have t2 := T_mul (x := a) (y := 10) (by rw [T_10]; omega) (by rw [T_10]; omega)
  have t3 := T_mul (x := 10) (y := a) (by rw [T_10]; omega) (by rw [T_10]; omega)
  rw [T_10] at t2 t3
  have t4 := T_add (x := 10 * a) (y := c) (by omega) (by omega)
  have t5 := T_sub (x := 10 * a + c) (y := 48) (by rw [T_48]; omega) (by rw [T_48]; omega)
  rw [T_48] at t5
  have t6 := T_add (x := a * 10) (y := c - 48) (by omega) (by omega)
  exact ⟨Int32.toInt_inj.mp (by omega), by omega⟩
theorem dg_in (h : dg (chT o L p)) : p < L ∧ chT o L p = o p := by
  unfold chT at h ⊢
  by_cases c : p < L
  · rw [if_pos c]
    exact ⟨c, rfl⟩
  · rw [if_neg c] at h
    exact absurd h (by decide)
theorem nM (h : TX q o L) (h7 : v 7 = nI L) (hp : p < 900) (d0 : dg (chT o L p)) : numM o 3 (upd v 8 (nI (p + 1))) (chT o L p - 48) = (nval o L p, upd v 8 (nI (p + nlen o L p))) := by
  have t0 := T_sub (x := chT o L p) (y := 48) (by rw [T_48]; omega) (by rw [T_48]; omega)
  rw [T_48] at t0
  have a1 := iA h (v := upd v 8 (nI (p + 1))) (p := p + 1) h7 rfl (by omega) (a := 48) (b := 57) (by decide)
  have a2 := iA h (v := upd v 8 (nI (p + 2))) (p := p + 2) h7 rfl (by omega) (a := 48) (b := 57) (by decide)
  have T100 : (100 : Int32).toInt = 100 := by decide
  rw [T_48, show (57 : Int32).toInt = 57 by decide] at a1 a2
  unfold numM nval nlen
  rw [if_pos d0]
  by_cases c4 : chT o L p = 48
  · rw [if_pos c4, if_pos c4, if_pos (by rw [c4]; decide), c4]
    rfl
  · have n0 : 1 ≤ (chT o L p - 48).toInt := by
      have : ¬ (chT o L p).toInt = 48 := fun g => c4 (Int32.toInt_inj.mp (by rw [T_48]; exact g))
      omega
    rw [if_neg (fun g => by have := le_T.mp g; rw [T_0] at this; omega), if_neg (fun g => by have := le_T.mp g; rw [T100] at this; omega), if_neg c4, if_neg c4]
    by_cases c1 : dg (chT o L (p + 1))
    · obtain ⟨i1, e1⟩ := dg_in c1
      rw [if_neg (a1.mpr c1), if_pos c1, if_pos c1]
      rw [show upd v 8 (nI (p + 1)) 8 = nI (p + 1) from rfl, nI_s1 (by omega), updI, nI_clamp (by omega), ← e1, (dig_st (by omega) c1).1]
      have t1 := (dig_st (a := chT o L p - 48) (by omega) c1).2
      unfold numM
      rw [if_neg (fun g => by have := le_T.mp g; rw [T_0] at this; omega), if_neg (fun g => by have := le_T.mp g; rw [T100] at this; omega)]
      by_cases c2 : dg (chT o L (p + 2))
      · obtain ⟨i2, e2⟩ := dg_in c2
        rw [if_neg (a2.mpr c2), if_pos c2, if_pos c2]
        rw [show upd v 8 (nI (p + 1 + 1)) 8 = nI (p + 2) from rfl, nI_s1 (by omega), updI, nI_clamp (by omega), ← e2, (dig_st (by omega) c2).1]
        have t2 := (dig_st (a := (chT o L p - 48) * 10 + (chT o L (p + 1) - 48)) (by omega) c2).2
        unfold numM
        rw [if_neg (fun g => by have := le_T.mp g; rw [T_0] at this; omega), if_pos (le_T.mpr (by rw [T100]; omega))]
      · rw [if_pos (Classical.byContradiction fun g => c2 (a2.mp g)), if_neg c2, if_neg c2]
    · rw [if_pos (Classical.byContradiction fun g => c1 (a1.mp g)), if_neg c1, if_neg c1]
theorem iN (h : TX q o L) (h7 : v 7 = nI L) (h8 : v 8 = nI p) (hp : p < 900) (k : Int32) : (f_X5_isNumber_r v o z k = 0 ↔ nlen o L p = 0) ∧ f_X5_isNumber_v v o z k = (if nlen o L p = 0 then v else upd v 8 (nI (p + nlen o L p))) ∧ f_X5_isNumber_z v o z k = (if nlen o L p = 0 then z else upd z (4 * v 10 + k).toNatClampNeg (nval o L p)) := by
  have a := iA h h7 h8 (by omega) (a := 48) (b := 57) (by decide)
  rw [T_48, show (57 : Int32).toInt = 57 by decide] at a
  have nz : dg (chT o L p) ↔ ¬ nlen o L p = 0 := by
    unfold nlen
    by_cases c : dg (chT o L p)
    · rw [if_pos c]
      exact ⟨fun _ => by (repeat' split) <;> omega, fun _ => c⟩
    · rw [if_neg c]
      exact ⟨fun g => absurd g c, fun g => absurd rfl g⟩
  unfold f_X5_isNumber_r f_X5_isNumber_v f_X5_isNumber_z f_X5_isNumber_s
  by_cases c : dg (chT o L p)
  · obtain ⟨i0, e0⟩ := dg_in c
    have n0 := nz.mp c
    rw [if_neg (a.mpr c), if_neg (a.mpr c), if_neg (a.mpr c), if_neg n0, if_neg n0, h8, nI_s1 (by omega), nI_clamp (by omega), ← e0, nM h h7 hp c]
    exact ⟨⟨fun g => absurd g (by decide), fun g => absurd g n0⟩, rfl, rfl⟩
  · have n0 : nlen o L p = 0 := Classical.byContradiction fun g => c (nz.mpr g)
    have z0 : f_X5_isAt_r v o 48 57 = 0 := Classical.byContradiction fun g => c (a.mp g)
    rw [if_pos z0, if_pos z0, if_pos z0, if_pos n0, if_pos n0]
    exact ⟨⟨fun _ => n0, fun _ => rfl⟩, rfl, rfl⟩
end TXT
