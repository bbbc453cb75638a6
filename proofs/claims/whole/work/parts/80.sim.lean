/-! THE SIMULATION: an order -/
abbrev dd (x : Int32) : Prop := 48 ≤ x.toInt ∧ x.toInt ≤ 51
/-- an order that was read: kind, drive, first and second number stand in the row of orders -/
def OD (w z : Nat → Int32) (m : Nat) : Prop := z (4 * m) = w 3 ∧ (w 3 = 103 ∨ w 3 = 115 ∨ w 3 = 116 ∨ w 3 = 118 ∨ w 3 = 119) ∧ (w 3 = 116 → z (4 * m + 1) = w 5) ∧ (¬ w 3 = 116 → z (4 * m + 1) = w 4 ∧ z (4 * m + 2) = w 5) ∧ (w 3 = 118 → z (4 * m + 3) = w 6)
def OS (v z : Nat → Int32) (L p m : Nat) (rc : Int32) (wc : Nat → Int32) (rm : Int32) (vm zm : Nat → Int32) : Prop := (rc = 0 ↔ rm = 0) ∧ ∃ p' : Nat, p ≤ p' ∧ p' ≤ L ∧ wc 1 = nI L ∧ wc 2 = nI p' ∧ vm = upd v 8 (nI p') ∧ (∀ n : Nat, n < 4 * m ∨ 4 * m + 4 ≤ n → zm n = z n) ∧ (¬ rc = 0 → p < p' ∧ OD wc zm m)
section ORD
variable {q : Nat → UInt16} {o w v z : Nat → Int32} {L p : Nat}
theorem ch_in {a : Int32} (h : chT o L p = a) (ha : 0 < a.toInt) : p < L ∧ o p = a := by
  unfold chT at h
  by_cases c : p < L
  · rw [if_pos c] at h
    exact ⟨c, h⟩
  · rw [if_neg c] at h
    rw [← h] at ha
    exact absurd ha (by decide)
theorem nlen_L (hp : p ≤ L) : p + nlen o L p ≤ L := by
  unfold nlen
  by_cases c0 : dg (chT o L p)
  · have := (dg_in c0).1
    rw [if_pos c0]
    by_cases c4 : chT o L p = 48
    · rw [if_pos c4]
      omega
    · rw [if_neg c4]
      by_cases c1 : dg (chT o L (p + 1))
      · have := (dg_in c1).1
        rw [if_pos c1]
        by_cases c2 : dg (chT o L (p + 2))
        · have := (dg_in c2).1
          rw [if_pos c2]
          omega
        · rw [if_neg c2]
          omega
      · rw [if_neg c1]
        omega
  · rw [if_neg c0]
    omega
theorem nval_0 (h : ¬ nlen o L p = 0) : 0 ≤ (nval o L p).toInt ∧ (nval o L p).toInt ≤ 999 := by
  have c0 : dg (chT o L p) := Classical.byContradiction fun c => h (by unfold nlen; rw [if_neg c])
  have t0 := T_sub (x := chT o L p) (y := 48) (by rw [T_48]; omega) (by rw [T_48]; omega)
  rw [T_48] at t0
  unfold nval
  by_cases c4 : chT o L p = 48
  · rw [if_pos c4]
    decide
  · rw [if_neg c4]
    by_cases c1 : dg (chT o L (p + 1))
    · rw [if_pos c1]
      have t1 := (dig_st (a := chT o L p - 48) (by omega) c1).2
      by_cases c2 : dg (chT o L (p + 2))
      · rw [if_pos c2]
        have t2 := (dig_st (a := (chT o L p - 48) * 10 + (chT o L (p + 1) - 48)) (by omega) c2).2
        omega
      · rw [if_neg c2]
        omega
    · rw [if_neg c1]
      omega
theorem rF (h : TX q o L) (h1 : w 1 = nI L) (h2 : w 2 = nI p) (hp : p < 900) : f_X2_readFirst_r w q = (if nlen o L p = 0 then 0 else 1) ∧ f_X2_readFirst_v w q = upd (upd w 2 (nI (p + nlen o L p))) 5 (if nlen o L p = 0 then -1 else nval o L p) := by
  obtain ⟨a, b⟩ := rN h h1 h2 hp
  rw [f_X2_readFirst_r_eq, f_X2_readFirst_x2_eq, f_X2_readFirst_v_eq, a, b]
  by_cases c : nlen o L p = 0
  · rw [if_pos c, if_pos rfl, if_pos c, if_pos c, c, Nat.add_zero, ← h2, updI_id]
    exact ⟨rfl, rfl⟩
  · have n0 := nval_0 c
    rw [if_neg c, if_neg (fun g => by rw [g, show (-1 : Int32).toInt = -1 by decide] at n0; omega), if_neg c, if_neg c]
    exact ⟨rfl, rfl⟩
theorem rF2 (h : TX q o L) (h1 : w 1 = nI L) (h2 : w 2 = nI p) (hp : p < 900) : f_X2_readSecond_r w q = (if nlen o L p = 0 then 0 else 1) ∧ f_X2_readSecond_v w q = upd (upd w 2 (nI (p + nlen o L p))) 6 (if nlen o L p = 0 then -1 else nval o L p) := by
  obtain ⟨a, b⟩ := rN h h1 h2 hp
  rw [f_X2_readSecond_r_eq, f_X2_readSecond_x2_eq, f_X2_readSecond_v_eq, a, b]
  by_cases c : nlen o L p = 0
  · rw [if_pos c, if_pos rfl, if_pos c, if_pos c, c, Nat.add_zero, ← h2, updI_id]
    exact ⟨rfl, rfl⟩
  · have n0 := nval_0 c
    rw [if_neg c, if_neg (fun g => by rw [g, show (-1 : Int32).toInt = -1 by decide] at n0; omega), if_neg c, if_neg c]
    exact ⟨rfl, rfl⟩
theorem kd (h : TX q o L) (h1 : w 1 = nI L) (h2 : w 2 = nI p) (hp : p < 900) : f_X2_readKindAndDrive_r w q = (if dd (chT o L (p + 1)) then 1 else 0) ∧ f_X2_readKindAndDrive_v w q = upd (upd w 2 (nI (if dd (chT o L (p + 1)) then p + 2 else p + 1))) 4 (chT o L (p + 1) - 48) := by
  have s1 := sH h (w := upd w 2 (w 2 + 1)) (p := p + 1) h1 (by show w 2 + 1 = _; rw [h2, nI_s1 (by omega)]) (by omega)
  have r := ch_rng h (p + 1)
  have t := T_sub (x := chT o L (p + 1)) (y := 48) (by rw [T_48]; omega) (by rw [T_48]; omega)
  rw [T_48] at t
  have d := dr4_T (chT o L (p + 1) - 48)
  rw [f_X2_readKindAndDrive_r_eq, f_X2_readKindAndDrive_v_eq, f_X2_readKindAndDrive_rq2_eq, s1, h2, nI_s1 (by omega), nI_s1 (by omega)]
  by_cases c : dd (chT o L (p + 1))
  · rw [if_neg (d.mpr (by omega)), if_pos c, if_pos c, if_neg (d.mpr (by omega))]
    exact ⟨rfl, rfl⟩
  · have e : f_X4_isDrive_r (chT o L (p + 1) - 48) = 0 := Classical.byContradiction fun g => c (by have := d.mp g; omega)
    rw [if_pos e, if_pos e, if_neg c, if_neg c]
    exact ⟨rfl, rfl⟩
theorem rSv (h : TX q o L) (h1 : w 1 = nI L) (h2 : w 2 = nI p) (hp : p < 900) (a : Int32) : f_X2_readSign_v w q a = upd w 2 (nI (if chT o L p = a then p + 1 else p)) := by
  rw [(rS h h1 h2 (by omega) a).2]
  by_cases c : chT o L p = a
  · rw [if_pos c, if_pos c]
  · rw [if_neg c, if_neg c, ← h2, updI_id]
theorem iSv (h : TX q o L) (h7 : v 7 = nI L) (h8 : v 8 = nI p) (hp : p < 900) {a : Int32} (ha : 0 < a.toInt) : f_X5_isSign_v v o a = upd v 8 (nI (if chT o L p = a then p + 1 else p)) := by
  rw [iS_v h h7 h8 (by omega) ha]
  by_cases c : chT o L p = a
  · rw [if_pos c, if_pos c]
  · rw [if_neg c, if_neg c]
theorem iNv (h : TX q o L) (h7 : v 7 = nI L) (h8 : v 8 = nI p) (hp : p < 900) (k : Int32) : f_X5_isNumber_v v o z k = upd v 8 (nI (p + nlen o L p)) := by
  rw [(iN h h7 h8 hp (z := z) k).2.1]
  by_cases c : nlen o L p = 0
  · rw [if_pos c, c, Nat.add_zero, ← h8, updI_id]
  · rw [if_neg c]
theorem z_ix {m : Nat} (h10 : v 10 = nI m) (hm : m < 41) : (4 * v 10).toNatClampNeg = 4 * m ∧ (4 * v 10 + 1).toNatClampNeg = 4 * m + 1 ∧ (4 * v 10 + 2).toNatClampNeg = 4 * m + 2 ∧ (4 * v 10 + 3).toNatClampNeg = 4 * m + 3 := by
  have e : (4 * v 10).toInt = 4 * (m : Int) := by rw [h10, T_mul (by rw [nI_T (by omega), show (4 : Int32).toInt = 4 by decide]; omega) (by rw [nI_T (by omega), show (4 : Int32).toInt = 4 by decide]; omega), nI_T (by omega), show (4 : Int32).toInt = 4 by decide]
  have A : ∀ (c : Nat), c < 4 → (4 * v 10 + nI c).toNatClampNeg = 4 * m + c := fun c hc => by
    have : (4 * v 10 + nI c).toInt = ((4 * m + c : Nat) : Int) := by rw [T_add (by rw [e, nI_T (by omega)]; omega) (by rw [e, nI_T (by omega)]; omega), e, nI_T (by omega)]; omega
    rw [nI_i this, nI_clamp (by omega)]
  refine ⟨?_, A 1 (by decide), A 2 (by decide), A 3 (by decide)⟩
  rw [nI_i (a := 4 * v 10) (n := 4 * m) (by rw [e]; omega), nI_clamp (by omega)]
noncomputable def kfR (w : Nat → Int32) (q : Nat → UInt16) (a : Int32) : Int32 := if f_X2_readKindAndDrive_r w q = 0 then 0 else (if f_X2_readSign_r (f_X2_readKindAndDrive_v w q) q a = 0 then 0 else (if f_X2_readFirst_r (f_X2_readSign_v (f_X2_readKindAndDrive_v w q) q a) q = 0 then 0 else 1))
noncomputable def kfV (w : Nat → Int32) (q : Nat → UInt16) (a : Int32) : Nat → Int32 := if f_X2_readKindAndDrive_r w q = 0 then f_X2_readKindAndDrive_v w q else (if f_X2_readSign_r (f_X2_readKindAndDrive_v w q) q a = 0 then f_X2_readSign_v (f_X2_readKindAndDrive_v w q) q a else f_X2_readFirst_v (f_X2_readSign_v (f_X2_readKindAndDrive_v w q) q a) q)
theorem os_kf (h : TX q o L) (h1 : w 1 = nI L) (h2 : w 2 = nI p) (h7 : v 7 = nI L) (h8 : v 8 = nI p) {m : Nat} (h10 : v 10 = nI m) (hm : m < 41) (hp : p < L) (K6 : ¬ o p = 116) (K8 : ¬ o p = 118) (KS : o p = 103 ∨ o p = 115 ∨ o p = 119) {a : Int32} (ha : a = if o p = 119 then 42 else 64) :
    OS v z L p m (kfR (upd w 3 (o p)) q a) (kfV (upd w 3 (o p)) q a) (f_X5_isOrder_rT57 v o z) (f_X5_isOrder_vT57 v o z) (f_X5_isOrder_zT57 v o z) := by
  have hL := h.1
  have a0 : 0 < a.toInt := by
    rw [ha]
    split <;> decide
  obtain ⟨x0, x1, x2, x3⟩ := z_ix h10 hm
  have v8 : v 8 + 1 = nI (p + 1) := by rw [h8, nI_s1 (by omega)]
  have v8' : v 8 + 1 + 1 = nI (p + 2) := by rw [v8, nI_s1 (by omega)]
  have ov : o (v 8).toNatClampNeg = o p := by rw [h8, nI_clamp (by omega)]
  have o1 : dd (chT o L (p + 1)) → o (v 8 + 1).toNatClampNeg = chT o L (p + 1) := fun d => by
    rw [v8, nI_clamp (by omega)]
    exact (dg_in (show dg _ from ⟨d.1, by omega⟩)).2.symm
  obtain ⟨k1, k2⟩ := kd h (w := upd w 3 (o p)) h1 h2 (by omega)
  have iD := iA h (v := upd v 8 (nI (p + 1))) (p := p + 1) h7 rfl (by omega) (a := 48) (b := 51) (by decide)
  rw [T_48, show (51 : Int32).toInt = 51 by decide] at iD
  rw [f_X5_isOrder_rT57_eq, f_X5_isOrder_vT57_eq, f_X5_isOrder_zT57_eq, ov, if_neg K6, if_neg K6, if_neg K6, v8, x0]
  unfold kfR kfV
  rw [k1, k2]
  have hi : ∀ (n : Nat) (A : Int32), (n < 4 * m ∨ 4 * m + 4 ≤ n) → upd z (4 * m) A n = z n := fun n A hn => if_neg (by omega)
  by_cases D : dd (chT o L (p + 1))
  · have L1 := (dg_in (show dg (chT o L (p + 1)) from ⟨D.1, by omega⟩)).1
    rw [if_pos D, if_pos D, if_neg (show ¬ (1 : Int32) = 0 by decide), if_neg (show ¬ (1 : Int32) = 0 by decide), if_neg (iD.mpr D), if_neg (iD.mpr D), if_neg (iD.mpr D), if_neg K8, if_neg K8, if_neg K8]
    have W1 : upd (upd (upd w 3 (o p)) 2 (nI (p + 2))) 4 (chT o L (p + 1) - 48) 1 = nI L := h1
    have W2 : upd (upd (upd w 3 (o p)) 2 (nI (p + 2))) 4 (chT o L (p + 1) - 48) 2 = nI (p + 2) := rfl
    have W3 : upd (upd (upd w 3 (o p)) 2 (nI (p + 2))) 4 (chT o L (p + 1) - 48) 3 = o p := rfl
    have W4 : upd (upd (upd w 3 (o p)) 2 (nI (p + 2))) 4 (chT o L (p + 1) - 48) 4 = chT o L (p + 1) - 48 := rfl
    generalize upd (upd (upd w 3 (o p)) 2 (nI (p + 2))) 4 (chT o L (p + 1) - 48) = w1 at W1 W2 W3 W4
    have rs := (rS h W1 W2 (by omega) a).1
    have rv := rSv h W1 W2 (by omega) a
    have V7 : upd v 8 (nI (p + 2)) 7 = nI L := h7
    have sr := iS_r h V7 (show upd v 8 (nI (p + 2)) 8 = nI (p + 2) from rfl) (by omega) a0
    have sv := iSv h V7 (show upd v 8 (nI (p + 2)) 8 = nI (p + 2) from rfl) (by omega) a0
    rw [updI] at sv
    rw [f_X5_isOrder_x6_eq, f_X5_isOrder_v7_eq, f_X5_isOrder_v8_eq, f_X5_isOrder_rq5_eq, f_X5_isOrder_vq5_eq, f_X5_isOrder_zq5_eq, f_X5_isOrder_rq4_eq, f_X5_isOrder_vq4_eq, f_X5_isOrder_x3_eq, ov, ← ha, v8', sv, rs, rv, x0, x1, o1 D]
    have hz : ∀ (n : Nat), (n < 4 * m ∨ 4 * m + 4 ≤ n) → upd (upd z (4 * m) (o p)) (4 * m + 1) (chT o L (p + 1) - 48) n = z n := fun n hn => (if_neg (by omega)).trans (hi n _ hn)
    by_cases S : chT o L (p + 2) = a
    · have L2 := (ch_in S a0).1
      rw [if_pos S, if_pos S, if_neg (show ¬ (1 : Int32) = 0 by decide), if_neg (show ¬ (1 : Int32) = 0 by decide)]
      have ns : ¬ f_X5_isSign_r (upd v 8 (nI (p + 2))) o a = 0 := fun g => sr.mp g S
      rw [if_neg ns, if_neg ns, if_neg ns]
      obtain ⟨f1, f2⟩ := rF h (w := upd w1 2 (nI (p + 2 + 1))) (p := p + 3) W1 rfl (by omega)
      obtain ⟨n1, -, n3⟩ := iN h (v := upd v 8 (nI (p + 2 + 1))) (p := p + 3) (z := upd (upd z (4 * m) (o p)) (4 * m + 1) (chT o L (p + 1) - 48)) h7 rfl (by omega) 2
      have n2 := iNv h (v := upd v 8 (nI (p + 2 + 1))) (p := p + 3) (z := upd (upd z (4 * m) (o p)) (4 * m + 1) (chT o L (p + 1) - 48)) h7 rfl (by omega) 2
      rw [updI] at n2
      rw [f1, f2, n2, n3, show upd v 8 (nI (p + 2 + 1)) 10 = v 10 from rfl, x2]
      have pl := nlen_L (o := o) (show p + 3 ≤ L by omega)
      by_cases N : nlen o L (p + 3) = 0
      · rw [if_pos N, if_pos rfl, if_pos (n1.mpr N), if_pos N, if_pos N]
        exact ⟨⟨fun _ => rfl, fun _ => rfl⟩, p + 3 + nlen o L (p + 3), by omega, pl, W1, rfl, rfl, hz, fun g => absurd rfl g⟩
      · rw [if_neg N, if_neg (show ¬ (1 : Int32) = 0 by decide), if_neg (fun g => N (n1.mp g)), if_neg N, if_neg N]
        refine ⟨⟨fun g => absurd g (by decide), fun g => absurd g (by decide)⟩, p + 3 + nlen o L (p + 3), by omega, pl, W1, rfl, rfl, fun n hn => (if_neg (by omega)).trans (hz n hn), fun _ => ⟨by omega, ?_⟩⟩
        have e3 : upd (upd (upd w1 2 (nI (p + 2 + 1))) 2 (nI (p + 3 + nlen o L (p + 3)))) 5 (nval o L (p + 3)) 3 = o p := W3
        have e4 : upd (upd (upd w1 2 (nI (p + 2 + 1))) 2 (nI (p + 3 + nlen o L (p + 3)))) 5 (nval o L (p + 3)) 4 = chT o L (p + 1) - 48 := W4
        unfold OD
        rw [e3, e4]
        refine ⟨(if_neg (by omega)).trans ((if_neg (by omega)).trans (if_pos rfl)), by rcases KS with e | e | e <;> rw [e] <;> decide, fun g => absurd g K6, fun _ => ⟨(if_neg (by omega)).trans (if_pos rfl), if_pos rfl⟩, fun g => absurd g K8⟩
    · rw [if_neg S, if_neg S, if_pos rfl, if_pos rfl]
      have ns : f_X5_isSign_r (upd v 8 (nI (p + 2))) o a = 0 := sr.mpr S
      rw [if_pos ns, if_pos ns, if_pos ns]
      exact ⟨⟨fun _ => rfl, fun _ => rfl⟩, p + 2, by omega, by omega, W1, rfl, rfl, hz, fun g => absurd rfl g⟩
  · have e : f_X5_isAt_r (upd v 8 (nI (p + 1))) o 48 51 = 0 := Classical.byContradiction fun g => D (iD.mp g)
    rw [if_neg D, if_neg D, if_pos rfl, if_pos rfl, if_pos e, if_pos e, if_pos e]
    exact ⟨⟨fun _ => rfl, fun _ => rfl⟩, p + 1, by omega, by omega, h1, rfl, rfl, fun n hn => hi n _ hn, fun g => absurd rfl g⟩
end ORD
