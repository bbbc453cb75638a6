/-! THE SIMULATION: every order -/
section ORD2
variable {q : Nat → UInt16} {o w v z : Nat → Int32} {L p : Nat}
theorem os_t (h : TX q o L) (h1 : w 1 = nI L) (h2 : w 2 = nI p) (h7 : v 7 = nI L) (h8 : v 8 = nI p) {m : Nat} (h10 : v 10 = nI m) (hm : m < 41) (hp : p < L) (K6 : o p = 116) (hc : chT o L p = 116) :
    OS v z L p m (f_X2_readOrder_x14 w q) (f_X2_readOrder_v15 w q) (f_X5_isOrder_rT57 v o z) (f_X5_isOrder_vT57 v o z) (f_X5_isOrder_zT57 v o z) := by
  have hL := h.1
  obtain ⟨x0, x1, x2, x3⟩ := z_ix h10 hm
  have v8 : v 8 + 1 = nI (p + 1) := by rw [h8, nI_s1 (by omega)]
  have ov : o (v 8).toNatClampNeg = o p := by rw [h8, nI_clamp (by omega)]
  have s0 := sH h h1 h2 (by omega)
  obtain ⟨r1, r2⟩ := rS h (w := upd w 3 (116 : Int32)) h1 h2 (by omega) 116
  rw [if_pos hc] at r1 r2
  obtain ⟨f1, f2⟩ := rF h (w := upd (upd w 3 (116 : Int32)) 2 (nI (p + 1))) (p := p + 1) h1 rfl (by omega)
  obtain ⟨n1, -, n3⟩ := iN h (v := upd v 8 (nI (p + 1))) (p := p + 1) (z := upd z (4 * m) (116 : Int32)) h7 rfl (by omega) 1
  have n2 := iNv h (v := upd v 8 (nI (p + 1))) (p := p + 1) (z := upd z (4 * m) (116 : Int32)) h7 rfl (by omega) 1
  rw [updI] at n2
  rw [f_X5_isOrder_rT57_eq, f_X5_isOrder_vT57_eq, f_X5_isOrder_zT57_eq, ov, if_pos K6, if_pos K6, if_pos K6, f_X5_isOrder_rq16_eq, f_X5_isOrder_vq16_eq, f_X5_isOrder_zq16_eq, ov, K6, v8, x0, n2, n3, show upd v 8 (nI (p + 1)) 10 = v 10 from rfl, x1]
  rw [f_X2_readOrder_x14_eq, f_X2_readOrder_v15_eq, f_X2_readOrder_rq13_eq, f_X2_readOrder_vq13_eq, s0, hc, r1, r2, if_neg (show ¬ (1 : Int32) = 0 by decide), if_neg (show ¬ (1 : Int32) = 0 by decide), f1, f2]
  have pl := nlen_L (o := o) (show p + 1 ≤ L by omega)
  have hi : ∀ (n : Nat) (A : Int32), (n < 4 * m ∨ 4 * m + 4 ≤ n) → upd z (4 * m) A n = z n := fun n A hn => if_neg (by omega)
  by_cases N : nlen o L (p + 1) = 0
  · rw [if_pos N, if_pos rfl, if_pos N, if_pos N]
    exact ⟨⟨fun _ => n1.mpr N, fun _ => rfl⟩, p + 1 + nlen o L (p + 1), by omega, pl, h1, rfl, rfl, fun n hn => hi n _ hn, fun g => absurd rfl g⟩
  · rw [if_neg N, if_neg (show ¬ (1 : Int32) = 0 by decide), if_neg N, if_neg N]
    refine ⟨⟨fun g => absurd g (by decide), fun g => absurd (n1.mp g) N⟩, p + 1 + nlen o L (p + 1), by omega, pl, h1, rfl, rfl, fun n hn => (if_neg (by omega)).trans (hi n _ hn), fun _ => ⟨by omega, ?_⟩⟩
    have e3 : upd (upd (upd (upd w 3 (116 : Int32)) 2 (nI (p + 1))) 2 (nI (p + 1 + nlen o L (p + 1)))) 5 (nval o L (p + 1)) 3 = 116 := rfl
    unfold OD
    rw [e3]
    exact ⟨(if_neg (by omega)).trans (if_pos rfl), by decide, fun _ => if_pos rfl, fun g => absurd rfl g, fun g => absurd g (by decide)⟩
theorem os_v2 (h : TX q o L) (h7 : v 7 = nI L) {m : Nat} (h10 : v 10 = nI m) (hm : m < 41) {w2 z2 : Nat → Int32} {r : Nat} (p4 : r < 900) {b c : Int32} (q4 : p + 3 < r) (pl : r ≤ L) (Y1 : w2 1 = nI L) (Y2 : w2 2 = nI r) (Y3 : w2 3 = 118) (Y4 : w2 4 = b) (Y5 : w2 5 = c) (Z0 : z2 (4 * m) = 118) (Z1 : z2 (4 * m + 1) = b) (Z2 : z2 (4 * m + 2) = c) (Zh : ∀ (n : Nat), (n < 4 * m ∨ 4 * m + 4 ≤ n) → z2 n = z n) :
    OS v z L p m (if f_X2_readSign_r w2 q 42 = 0 then 0 else (if f_X2_readSecond_r (f_X2_readSign_v w2 q 42) q = 0 then 0 else 1)) (if f_X2_readSign_r w2 q 42 = 0 then f_X2_readSign_v w2 q 42 else f_X2_readSecond_v (f_X2_readSign_v w2 q 42) q) (if f_X5_isSign_r (upd v 8 (nI r)) o 42 = 0 then 0 else (if f_X5_isNumber_r (f_X5_isSign_v (upd v 8 (nI r)) o 42) o z2 3 = 0 then 0 else 1)) (if f_X5_isSign_r (upd v 8 (nI r)) o 42 = 0 then f_X5_isSign_v (upd v 8 (nI r)) o 42 else f_X5_isNumber_v (f_X5_isSign_v (upd v 8 (nI r)) o 42) o z2 3) (if f_X5_isSign_r (upd v 8 (nI r)) o 42 = 0 then z2 else f_X5_isNumber_z (f_X5_isSign_v (upd v 8 (nI r)) o 42) o z2 3) := by
  have hL := h.1
  obtain ⟨x0, x1, x2, x3⟩ := z_ix h10 hm
  have rs := (rS h Y1 Y2 (by omega) 42).1
  have rv := rSv h Y1 Y2 (by omega) 42
  have V7 : upd v 8 (nI r) 7 = nI L := h7
  have sr := iS_r h V7 (show upd v 8 (nI r) 8 = nI r from rfl) (by omega) (a := 42) (by decide)
  have sv := iSv h V7 (show upd v 8 (nI r) 8 = nI r from rfl) (by omega) (a := 42) (by decide)
  rw [updI] at sv
  rw [sv, rs, rv]
  by_cases S2 : chT o L r = 42
  · have L3 := (ch_in S2 (by decide)).1
    rw [if_pos S2, if_pos S2, if_neg (show ¬ (1 : Int32) = 0 by decide), if_neg (show ¬ (1 : Int32) = 0 by decide)]
    have ns : ¬ f_X5_isSign_r (upd v 8 (nI r)) o 42 = 0 := fun g => sr.mp g S2
    rw [if_neg ns, if_neg ns, if_neg ns]
    obtain ⟨f1, f2⟩ := rF2 h (w := upd w2 2 (nI (r + 1))) (p := r + 1) Y1 rfl (by omega)
    obtain ⟨n1, -, n3⟩ := iN h (v := upd v 8 (nI (r + 1))) (p := r + 1) (z := z2) h7 rfl (by omega) 3
    have n2 := iNv h (v := upd v 8 (nI (r + 1))) (p := r + 1) (z := z2) h7 rfl (by omega) 3
    rw [updI] at n2
    rw [f1, f2, n2, n3, show upd v 8 (nI (r + 1)) 10 = v 10 from rfl, x3]
    have pl2 := nlen_L (o := o) (show r + 1 ≤ L by omega)
    by_cases M : nlen o L (r + 1) = 0
    · have M' := n1.mpr M
      rw [if_pos M', if_pos M, if_pos rfl, if_pos M, if_pos M]
      exact ⟨⟨fun _ => rfl, fun _ => rfl⟩, r + 1 + nlen o L (r + 1), by omega, pl2, Y1, rfl, rfl, Zh, fun g => absurd rfl g⟩
    · have M' : ¬ f_X5_isNumber_r (upd v 8 (nI (r + 1))) o z2 3 = 0 := fun g => M (n1.mp g)
      rw [if_neg M', if_neg M, if_neg (show ¬ (1 : Int32) = 0 by decide), if_neg M, if_neg M]
      refine ⟨⟨fun g => absurd g (by decide), fun g => absurd g (by decide)⟩, r + 1 + nlen o L (r + 1), by omega, pl2, Y1, rfl, rfl, fun n hn => (if_neg (by omega)).trans (Zh n hn), fun _ => ⟨by omega, ?_⟩⟩
      have e3 : upd (upd (upd w2 2 (nI (r + 1))) 2 (nI (r + 1 + nlen o L (r + 1)))) 6 (nval o L (r + 1)) 3 = 118 := Y3
      have e4 : upd (upd (upd w2 2 (nI (r + 1))) 2 (nI (r + 1 + nlen o L (r + 1)))) 6 (nval o L (r + 1)) 4 = b := Y4
      have e5 : upd (upd (upd w2 2 (nI (r + 1))) 2 (nI (r + 1 + nlen o L (r + 1)))) 6 (nval o L (r + 1)) 5 = c := Y5
      unfold OD
      rw [e3, e4, e5]
      exact ⟨(if_neg (by omega)).trans Z0, by decide, fun g => absurd g (by decide), fun _ => ⟨(if_neg (by omega)).trans Z1, (if_neg (by omega)).trans Z2⟩, fun _ => if_pos rfl⟩
  · rw [if_neg S2, if_neg S2, if_pos rfl, if_pos rfl]
    have ns : f_X5_isSign_r (upd v 8 (nI r)) o 42 = 0 := sr.mpr S2
    rw [if_pos ns, if_pos ns, if_pos ns]
    exact ⟨⟨fun _ => rfl, fun _ => rfl⟩, r, by omega, pl, Y1, rfl, rfl, Zh, fun g => absurd rfl g⟩
theorem os_v (h : TX q o L) (h1 : w 1 = nI L) (h2 : w 2 = nI p) (h7 : v 7 = nI L) (h8 : v 8 = nI p) {m : Nat} (h10 : v 10 = nI m) (hm : m < 41) (hp : p < L) (K8 : o p = 118) (hc : chT o L p = 118) :
    OS v z L p m (f_X2_readOrder_x21 w q) (f_X2_readOrder_v22 w q) (f_X5_isOrder_rT57 v o z) (f_X5_isOrder_vT57 v o z) (f_X5_isOrder_zT57 v o z) := by
  have hL := h.1
  obtain ⟨x0, x1, x2, x3⟩ := z_ix h10 hm
  have v8 : v 8 + 1 = nI (p + 1) := by rw [h8, nI_s1 (by omega)]
  have v8' : v 8 + 1 + 1 = nI (p + 2) := by rw [v8, nI_s1 (by omega)]
  have ov : o (v 8).toNatClampNeg = o p := by rw [h8, nI_clamp (by omega)]
  have s0 := sH h h1 h2 (by omega)
  have o1 : dd (chT o L (p + 1)) → o (v 8 + 1).toNatClampNeg = chT o L (p + 1) := fun d => by
    rw [v8, nI_clamp (by omega)]
    exact (dg_in (show dg _ from ⟨d.1, by omega⟩)).2.symm
  obtain ⟨k1, k2⟩ := kd h (w := upd w 3 (118 : Int32)) h1 h2 (by omega)
  have iD := iA h (v := upd v 8 (nI (p + 1))) (p := p + 1) h7 rfl (by omega) (a := 48) (b := 51) (by decide)
  rw [T_48, show (51 : Int32).toInt = 51 by decide] at iD
  have n6 : ¬ (118 : Int32) = 116 := by decide
  rw [f_X5_isOrder_rT57_eq, f_X5_isOrder_vT57_eq, f_X5_isOrder_zT57_eq, ov, K8, if_neg n6, if_neg n6, if_neg n6, v8, x0]
  rw [f_X2_readOrder_x21_eq, f_X2_readOrder_v22_eq, f_X2_readOrder_rq19_eq, f_X2_readOrder_vq19_eq, f_X2_readOrder_rq17_eq, f_X2_readOrder_vq17_eq, s0, hc, k1, k2]
  have hi : ∀ (n : Nat) (A : Int32), (n < 4 * m ∨ 4 * m + 4 ≤ n) → upd z (4 * m) A n = z n := fun n A hn => if_neg (by omega)
  by_cases D : dd (chT o L (p + 1))
  · have L1 := (dg_in (show dg (chT o L (p + 1)) from ⟨D.1, by omega⟩)).1
    rw [if_pos D, if_pos D, if_neg (show ¬ (1 : Int32) = 0 by decide), if_neg (show ¬ (1 : Int32) = 0 by decide), if_neg (iD.mpr D), if_neg (iD.mpr D), if_neg (iD.mpr D), if_pos rfl, if_pos rfl, if_pos rfl]
    have W1 : upd (upd (upd w 3 (118 : Int32)) 2 (nI (p + 2))) 4 (chT o L (p + 1) - 48) 1 = nI L := h1
    have W2 : upd (upd (upd w 3 (118 : Int32)) 2 (nI (p + 2))) 4 (chT o L (p + 1) - 48) 2 = nI (p + 2) := rfl
    have W3 : upd (upd (upd w 3 (118 : Int32)) 2 (nI (p + 2))) 4 (chT o L (p + 1) - 48) 3 = 118 := rfl
    have W4 : upd (upd (upd w 3 (118 : Int32)) 2 (nI (p + 2))) 4 (chT o L (p + 1) - 48) 4 = chT o L (p + 1) - 48 := rfl
    generalize upd (upd (upd w 3 (118 : Int32)) 2 (nI (p + 2))) 4 (chT o L (p + 1) - 48) = w1 at W1 W2 W3 W4
    have rs := (rS h W1 W2 (by omega) 47).1
    have rv := rSv h W1 W2 (by omega) 47
    have V7 : upd v 8 (nI (p + 2)) 7 = nI L := h7
    have sr := iS_r h V7 (show upd v 8 (nI (p + 2)) 8 = nI (p + 2) from rfl) (by omega) (a := 47) (by decide)
    have sv := iSv h V7 (show upd v 8 (nI (p + 2)) 8 = nI (p + 2) from rfl) (by omega) (a := 47) (by decide)
    rw [updI] at sv
    rw [f_X5_isOrder_x13_eq, f_X5_isOrder_v14_eq, f_X5_isOrder_v15_eq, f_X5_isOrder_rq12_eq, f_X5_isOrder_vq12_eq, f_X5_isOrder_zq12_eq, f_X5_isOrder_rq10_eq, f_X5_isOrder_vq10_eq, f_X5_isOrder_zq10_eq, ov, K8, v8', sv, rs, rv, x0, x1, o1 D]
    have hz : ∀ (n : Nat), (n < 4 * m ∨ 4 * m + 4 ≤ n) → upd (upd z (4 * m) (118 : Int32)) (4 * m + 1) (chT o L (p + 1) - 48) n = z n := fun n hn => (if_neg (by omega)).trans (hi n _ hn)
    by_cases S : chT o L (p + 2) = 47
    · have L2 := (ch_in S (by decide)).1
      rw [if_pos S, if_pos S, if_neg (show ¬ (1 : Int32) = 0 by decide), if_neg (show ¬ (1 : Int32) = 0 by decide)]
      have ns : ¬ f_X5_isSign_r (upd v 8 (nI (p + 2))) o 47 = 0 := fun g => sr.mp g S
      rw [if_neg ns, if_neg ns, if_neg ns]
      obtain ⟨f1, f2⟩ := rF h (w := upd w1 2 (nI (p + 2 + 1))) (p := p + 3) W1 rfl (by omega)
      obtain ⟨n1, -, n3⟩ := iN h (v := upd v 8 (nI (p + 2 + 1))) (p := p + 3) (z := upd (upd z (4 * m) (118 : Int32)) (4 * m + 1) (chT o L (p + 1) - 48)) h7 rfl (by omega) 2
      have n2 := iNv h (v := upd v 8 (nI (p + 2 + 1))) (p := p + 3) (z := upd (upd z (4 * m) (118 : Int32)) (4 * m + 1) (chT o L (p + 1) - 48)) h7 rfl (by omega) 2
      rw [updI] at n2
      rw [f1, f2, n2, n3, show upd v 8 (nI (p + 2 + 1)) 10 = v 10 from rfl, x2]
      have pl := nlen_L (o := o) (show p + 3 ≤ L by omega)
      by_cases N : nlen o L (p + 3) = 0
      · have N' := n1.mpr N
        rw [if_pos N', if_pos N', if_pos N', if_pos N, if_pos rfl, if_pos rfl, if_pos N, if_pos N]
        exact ⟨⟨fun _ => rfl, fun _ => rfl⟩, p + 3 + nlen o L (p + 3), by omega, pl, W1, rfl, rfl, hz, fun g => absurd rfl g⟩
      · have N' : ¬ f_X5_isNumber_r (upd v 8 (nI (p + 2 + 1))) o (upd (upd z (4 * m) (118 : Int32)) (4 * m + 1) (chT o L (p + 1) - 48)) 2 = 0 := fun g => N (n1.mp g)
        rw [if_neg N', if_neg N', if_neg N', if_neg N, if_neg (show ¬ (1 : Int32) = 0 by decide), if_neg (show ¬ (1 : Int32) = 0 by decide), if_neg N, if_neg N]
        have Y1 : upd (upd (upd w1 2 (nI (p + 2 + 1))) 2 (nI (p + 3 + nlen o L (p + 3)))) 5 (nval o L (p + 3)) 1 = nI L := W1
        have Y2 : upd (upd (upd w1 2 (nI (p + 2 + 1))) 2 (nI (p + 3 + nlen o L (p + 3)))) 5 (nval o L (p + 3)) 2 = nI (p + 3 + nlen o L (p + 3)) := rfl
        have Y3 : upd (upd (upd w1 2 (nI (p + 2 + 1))) 2 (nI (p + 3 + nlen o L (p + 3)))) 5 (nval o L (p + 3)) 3 = 118 := W3
        have Y4 : upd (upd (upd w1 2 (nI (p + 2 + 1))) 2 (nI (p + 3 + nlen o L (p + 3)))) 5 (nval o L (p + 3)) 4 = chT o L (p + 1) - 48 := W4
        have Y5 : upd (upd (upd w1 2 (nI (p + 2 + 1))) 2 (nI (p + 3 + nlen o L (p + 3)))) 5 (nval o L (p + 3)) 5 = nval o L (p + 3) := rfl
        have Z0 : upd (upd (upd z (4 * m) (118 : Int32)) (4 * m + 1) (chT o L (p + 1) - 48)) (4 * m + 2) (nval o L (p + 3)) (4 * m) = 118 := (if_neg (by omega)).trans ((if_neg (by omega)).trans (if_pos rfl))
        have Z1 : upd (upd (upd z (4 * m) (118 : Int32)) (4 * m + 1) (chT o L (p + 1) - 48)) (4 * m + 2) (nval o L (p + 3)) (4 * m + 1) = chT o L (p + 1) - 48 := (if_neg (by omega)).trans (if_pos rfl)
        have Z2 : upd (upd (upd z (4 * m) (118 : Int32)) (4 * m + 1) (chT o L (p + 1) - 48)) (4 * m + 2) (nval o L (p + 3)) (4 * m + 2) = nval o L (p + 3) := if_pos rfl
        have Zh : ∀ (n : Nat), (n < 4 * m ∨ 4 * m + 4 ≤ n) → upd (upd (upd z (4 * m) (118 : Int32)) (4 * m + 1) (chT o L (p + 1) - 48)) (4 * m + 2) (nval o L (p + 3)) n = z n := fun n hn => (if_neg (by omega)).trans (hz n hn)
        generalize upd (upd (upd w1 2 (nI (p + 2 + 1))) 2 (nI (p + 3 + nlen o L (p + 3)))) 5 (nval o L (p + 3)) = w2 at Y1 Y2 Y3 Y4 Y5
        generalize upd (upd (upd z (4 * m) (118 : Int32)) (4 * m + 1) (chT o L (p + 1) - 48)) (4 * m + 2) (nval o L (p + 3)) = z2 at Z0 Z1 Z2 Zh
        have p4 : p + 3 + nlen o L (p + 3) < 900 := by omega
        have q4 : p + 3 < p + 3 + nlen o L (p + 3) := by omega
        generalize p + 3 + nlen o L (p + 3) = r at pl Y2 p4 q4
        exact os_v2 h h7 h10 hm (by omega) q4 pl Y1 Y2 Y3 Y4 Y5 Z0 Z1 Z2 Zh
    · rw [if_neg S, if_neg S, if_pos rfl, if_pos rfl]
      have ns : f_X5_isSign_r (upd v 8 (nI (p + 2))) o 47 = 0 := sr.mpr S
      rw [if_pos ns, if_pos ns, if_pos ns]
      exact ⟨⟨fun _ => rfl, fun _ => rfl⟩, p + 2, by omega, by omega, W1, rfl, rfl, hz, fun g => absurd rfl g⟩
  · have e : f_X5_isAt_r (upd v 8 (nI (p + 1))) o 48 51 = 0 := Classical.byContradiction fun g => D (iD.mp g)
    rw [if_neg D, if_neg D, if_pos rfl, if_pos rfl, if_pos e, if_pos e, if_pos e]
    exact ⟨⟨fun _ => rfl, fun _ => rfl⟩, p + 1, by omega, by omega, h1, rfl, rfl, fun n hn => hi n _ hn, fun g => absurd rfl g⟩
theorem ord_sim (h : TX q o L) (h1 : w 1 = nI L) (h2 : w 2 = nI p) (h7 : v 7 = nI L) (h8 : v 8 = nI p) {m : Nat} (h10 : v 10 = nI m) (hm : m < 41) (hp : p ≤ L) : OS v z L p m (f_X2_readOrder_r w q) (f_X2_readOrder_v w q) (f_X5_isOrder_r v o z) (f_X5_isOrder_v v o z) (f_X5_isOrder_z v o z) := by
  have hL := h.1
  have s0 := sH h h1 h2 (by omega)
  have a5 := iA1 h h7 h8 (by omega) (a := 115) (by decide)
  have a3 := iA1 h h7 h8 (by omega) (a := 103) (by decide)
  have a9 := iA1 h h7 h8 (by omega) (a := 119) (by decide)
  have a8 := iA1 h h7 h8 (by omega) (a := 118) (by decide)
  have a6 := iA1 h h7 h8 (by omega) (a := 116) (by decide)
  rw [f_X5_isOrder_r_eq, f_X5_isOrder_v_eq, f_X5_isOrder_z_eq, f_X2_readOrder_r_eq, f_X2_readOrder_v_eq, f_X2_readOrder_x5_eq, f_X2_readOrder_x10_eq, f_X2_readOrder_x26_eq, f_X2_readOrder_v6_eq, f_X2_readOrder_v11_eq, f_X2_readOrder_v27_eq, f_X2_readOrder_rq3_eq, f_X2_readOrder_vq3_eq, f_X2_readOrder_rq8_eq, f_X2_readOrder_vq8_eq, f_X2_readOrder_rq24_eq, f_X2_readOrder_vq24_eq, s0]
  by_cases k5 : chT o L p = 115
  · obtain ⟨i, e⟩ := ch_in k5 (by decide)
    have ns : ¬ f_X5_isAt_r v o 115 115 = 0 := fun g => a5.mp g k5
    rw [if_neg ns, if_neg ns, if_neg ns, k5, if_neg (show ¬ (115 : Int32) = 103 by decide), if_pos (show (115 : Int32) = 115 from rfl), if_neg (show ¬ (115 : Int32) = 103 by decide), if_pos (show (115 : Int32) = 115 from rfl), ← e]
    exact os_kf h h1 h2 h7 h8 h10 hm i (by rw [e]; decide) (by rw [e]; decide) (.inr (.inl e)) (by rw [e]; decide)
  · have ns : f_X5_isAt_r v o 115 115 = 0 := a5.mpr k5
    rw [if_pos ns, if_pos ns, if_pos ns]
    by_cases k3 : chT o L p = 103
    · obtain ⟨i, e⟩ := ch_in k3 (by decide)
      have ns : ¬ f_X5_isAt_r v o 103 103 = 0 := fun g => a3.mp g k3
      rw [if_neg ns, if_neg ns, if_neg ns, k3, if_pos (show (103 : Int32) = 103 from rfl), if_pos (show (103 : Int32) = 103 from rfl), ← e]
      exact os_kf h h1 h2 h7 h8 h10 hm i (by rw [e]; decide) (by rw [e]; decide) (.inl e) (by rw [e]; decide)
    · have ns : f_X5_isAt_r v o 103 103 = 0 := a3.mpr k3
      rw [if_pos ns, if_pos ns, if_pos ns]
      by_cases k9 : chT o L p = 119
      · obtain ⟨i, e⟩ := ch_in k9 (by decide)
        have ns : ¬ f_X5_isAt_r v o 119 119 = 0 := fun g => a9.mp g k9
        rw [if_neg ns, if_neg ns, if_neg ns, k9, if_neg (show ¬ (119 : Int32) = 103 by decide), if_neg (show ¬ (119 : Int32) = 115 by decide), if_neg (show ¬ (119 : Int32) = 116 by decide), if_neg (show ¬ (119 : Int32) = 118 by decide), if_pos (show (119 : Int32) = 119 from rfl), if_neg (show ¬ (119 : Int32) = 103 by decide), if_neg (show ¬ (119 : Int32) = 115 by decide), if_neg (show ¬ (119 : Int32) = 116 by decide), if_neg (show ¬ (119 : Int32) = 118 by decide), if_pos (show (119 : Int32) = 119 from rfl), ← e]
        exact os_kf h h1 h2 h7 h8 h10 hm i (by rw [e]; decide) (by rw [e]; decide) (.inr (.inr e)) (by rw [e]; decide)
      · have ns : f_X5_isAt_r v o 119 119 = 0 := a9.mpr k9
        rw [if_pos ns, if_pos ns, if_pos ns]
        by_cases k8 : chT o L p = 118
        · obtain ⟨i, e⟩ := ch_in k8 (by decide)
          have ns : ¬ f_X5_isAt_r v o 118 118 = 0 := fun g => a8.mp g k8
          rw [if_neg ns, if_neg ns, if_neg ns, k8, if_neg (show ¬ (118 : Int32) = 103 by decide), if_neg (show ¬ (118 : Int32) = 115 by decide), if_neg (show ¬ (118 : Int32) = 116 by decide), if_pos (show (118 : Int32) = 118 from rfl), if_neg (show ¬ (118 : Int32) = 103 by decide), if_neg (show ¬ (118 : Int32) = 115 by decide), if_neg (show ¬ (118 : Int32) = 116 by decide), if_pos (show (118 : Int32) = 118 from rfl)]
          exact os_v h h1 h2 h7 h8 h10 hm i e k8
        · have ns : f_X5_isAt_r v o 118 118 = 0 := a8.mpr k8
          rw [if_pos ns, if_pos ns, if_pos ns]
          by_cases k6 : chT o L p = 116
          · obtain ⟨i, e⟩ := ch_in k6 (by decide)
            have ns : ¬ f_X5_isAt_r v o 116 116 = 0 := fun g => a6.mp g k6
            rw [if_neg ns, if_neg ns, if_neg ns, k6, if_neg (show ¬ (116 : Int32) = 103 by decide), if_neg (show ¬ (116 : Int32) = 115 by decide), if_pos (show (116 : Int32) = 116 from rfl), if_neg (show ¬ (116 : Int32) = 103 by decide), if_neg (show ¬ (116 : Int32) = 115 by decide), if_pos (show (116 : Int32) = 116 from rfl)]
            exact os_t h h1 h2 h7 h8 h10 hm i e k6
          · have ns : f_X5_isAt_r v o 116 116 = 0 := a6.mpr k6
            rw [if_pos ns, if_pos ns, if_pos ns, if_neg k3, if_neg k5, if_neg k6, if_neg k8, if_neg k9, if_neg k3, if_neg k5, if_neg k6, if_neg k8, if_neg k9]
            exact ⟨⟨fun _ => rfl, fun _ => rfl⟩, p, Nat.le_refl _, hp, h1, h2, by rw [← h8, updI_id], fun _ _ => rfl, fun g => absurd rfl g⟩
end ORD2
