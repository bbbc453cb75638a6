/-! THE LAW: its loops -/
theorem j_lawret {p : Program} {l : Launch} {e : Env} {s : State} {m : MethodId} {below : List Frame} {meth : Method} {c : Code} {G : GG} (C : Cx p s m #[Value.ref (G.2.2 3)] c cL_law 17 RL G (LA s)) (hr : meth.sig.returnType = ret) (hlocks : meth.locks = false) {w : va_W} {lv : List (Nat × Value)} : LJ p l e s m below meth c G (lw_Z below #[Value.ref (G.2.2 3)] s) w lv 483 [.int 1] := fun H locs ls hP hD hS hl => va_forget (fun q hq => hS.2.2 q hq) (W.widen (k := 600000) (n := 7302250) (by decide) (by decide) (lw_ret (d0 := s.drawn) (Drawn.sameBut.refl s.drawn lw_cs) C.1 C.2.1 hr hlocks dL_law_483))
theorem nI_m4 (i : Nat) : 4 * nI i = nI (4 * i) := (Int32.ofNat_mul 4 i).symm
/-- the minutes behind an action -/
theorem loop_in {p : Program} {l : Launch} {e : Env} {s : State} {m : MethodId} {below : List Frame} {meth : Method} {c : Code} {G : GG} {Q : State → Prop} (C : Cx p s m #[Value.ref (G.2.2 3)] c cL_law 17 RL G (LA s)) {a hi sl su pa ha ga : Nat} {AP AT AU : Nat → Nat} {AH AS : Nat → Nat → Nat} (w : Nat → Int32) (k tn : Int32) (qc : Nat → UInt16) (us : Nat → Int32) (zv : Nat → StV) (xt xu : StV) (M : Nat) (hM : M < 50) (N0 : Int) (hN0 : N0 ≤ 4000) (K : ∀ (h : Nat → Int32) (sv : Nat → StV) (xp : StV) (ca : Int32) (N : Int), N ≤ N0 + M → STN xp N (36 * N) (fun _ => 0) → ca = totS xp → vp_in (h 1) 7 → LJ p l e s m below meth c G Q (fl [[oX a (AP 0) hi sl su pa (AT 0) (AU 0)], [oH hi ha (h)], [aS G ha 7 (fun k => some (AH k 0))], [oP pa ga w], [aC G ga qc], [aS G sl 2 (fun k => some (AS k 0))], [aZ G su 2 us], cMany G AH (sv) 7, cMany G AS zv 2, cSt G AP (xp), cSt G AT xt, cSt G AU xu]) [(0, .ref (G.2.2 3)), (1, .ref a), (2, .int 1), (3, .int (ca)), (4, .int (tn)), (5, .int (k))] 450 []) :
    ∀ (n j : Nat), j + n = M → ∀ (h : Nat → Int32) (sv : Nat → StV) (xp : StV) (ca : Int32) (N : Int), N ≤ N0 + j → STN xp N (36 * N) (fun _ => 0) → ca = totS xp → vp_in (h 1) 7 → LJ p l e s m below meth c G Q (fl [[oX a (AP 0) hi sl su pa (AT 0) (AU 0)], [oH hi ha (h)], [aS G ha 7 (fun k => some (AH k 0))], [oP pa ga w], [aC G ga qc], [aS G sl 2 (fun k => some (AS k 0))], [aZ G su 2 us], cMany G AH (sv) 7, cMany G AS zv 2, cSt G AP (xp), cSt G AT xt, cSt G AU xu]) [(0, .ref (G.2.2 3)), (1, .ref a), (2, .int 1), (3, .int (ca)), (4, .int (tn)), (5, .int (k)), (9, .int (nI M)), (10, .int (nI j))] 169 []
  | 0, j, hj, h, sv, xp, ca, N, hN, I, hca, h7 => by
    refine j_iload C dL_law_169 7 rfl ?_
    refine j_iload C dL_law_171 6 rfl ?_
    refine j_icmp_ge (tgt := 450) C dL_law_173 (by decide) (fun _ => ?_) (fun g => absurd (nI_le (show M ≤ j by omega) (by omega)) g)
    refine j_lv [0, 1, 2, 3, 4, 5] [(0, .ref (G.2.2 3)), (1, .ref a), (2, .int 1), (3, .int (ca)), (4, .int (tn)), (5, .int (k))] rfl ?_
    exact K h sv xp ca N (by omega) I hca h7
  | n + 1, j, hj, h, sv, xp, ca, N, hN, I, hca, h7 => by
    refine j_iload C dL_law_169 7 rfl ?_
    refine j_iload C dL_law_171 6 rfl ?_
    refine j_icmp_ge (tgt := 450) C dL_law_173 (by decide) (fun g => absurd g (nI_ge (show j < M by omega) (by omega))) (fun _ => ?_)
    refine j_iload_n C dL_law_176 2 rfl ?_
    refine j_if_eq (tgt := 450) C dL_law_177 (by decide) (fun g => absurd g (by decide)) (fun _ => ?_)
    obtain ⟨I', E, q1, q2, q3, q4, q5, q6⟩ := min_F I (by omega) h sv w k tn (nI M) (nI j) hca
    obtain ⟨v0, v1, v2, v3⟩ := min_12 I
    refine seg_B C h sv xp w k tn ca (nI M) (nI j) qc us zv xt xu h7 v0 v1 v2 v3 q1 q2 q3 q4 q5 q6 ?_
    refine j_iinc (k := 7) (v := nI (j + 1)) C [(10, .int (nI (j + 1))), (0, .ref (G.2.2 3)), (1, .ref a), (2, .int 1), (3, .int (ca + f_law_B_x10 h sv xp w k tn ca (nI M) (nI j) + f_law_B_x13 h sv xp w k tn ca (nI M) (nI j) + f_law_B_x16 h sv xp w k tn ca (nI M) (nI j) + f_law_B_x19 h sv xp w k tn ca (nI M) (nI j))), (4, .int (tn)), (5, .int (k)), (9, .int (nI M))] dL_law_444 rfl (nI_1 j) (by decide) rfl ?_
    refine j_goto (tgt := 169) C dL_law_447 (by decide) ?_
    refine j_lv [1, 2, 3, 4, 5, 6, 7, 0] [(0, .ref (G.2.2 3)), (1, .ref a), (2, .int 1), (3, .int (ca + f_law_B_x10 h sv xp w k tn ca (nI M) (nI j) + f_law_B_x13 h sv xp w k tn ca (nI M) (nI j) + f_law_B_x16 h sv xp w k tn ca (nI M) (nI j) + f_law_B_x19 h sv xp w k tn ca (nI M) (nI j))), (4, .int (tn)), (5, .int (k)), (9, .int (nI M)), (10, .int (nI (j + 1)))] rfl ?_
    exact loop_in C w k tn qc us zv xt xu M hM N0 hN0 K n (j + 1) (by omega) (f_X4_pass_h h sv xp 1) (f_X4_pass_sv h sv xp 1) (f_X4_pass_xp h sv xp 1) (ca + f_law_B_x10 h sv xp w k tn ca (nI M) (nI j) + f_law_B_x13 h sv xp w k tn ca (nI M) (nI j) + f_law_B_x16 h sv xp w k tn ca (nI M) (nI j) + f_law_B_x19 h sv xp w k tn ca (nI M) (nI j)) (N + 1) (by omega) (by rw [pass_1]; exact I') (by rw [pass_1]; exact E) (rec_h h7 _).1
/-- an action of the script -/
theorem idx_4 {L T i : Nat} (hi : i < T) (hT : 4 * T ≤ L) (hL : L ≤ 260) : (vp_in (4 * nI i) L ∧ ¬ nI L ≤ 4 * nI i) ∧ (vp_in (4 * nI i + 1) L ∧ ¬ nI L ≤ 4 * nI i + 1) ∧ (vp_in (4 * nI i + 2) L ∧ ¬ nI L ≤ 4 * nI i + 2) ∧ (vp_in (4 * nI i + 3) L ∧ ¬ nI L ≤ 4 * nI i + 3) := by
  rw [nI_m4, nI_1, show nI (4 * i) + 2 = nI (4 * i + 2) from nI_add _ 2, show nI (4 * i) + 3 = nI (4 * i + 3) from nI_add _ 3]
  exact ⟨⟨vp_in_nI (by omega) (by omega), nI_ge (by omega) (by omega)⟩, ⟨vp_in_nI (by omega) (by omega), nI_ge (by omega) (by omega)⟩, ⟨vp_in_nI (by omega) (by omega), nI_ge (by omega) (by omega)⟩, ⟨vp_in_nI (by omega) (by omega), nI_ge (by omega) (by omega)⟩⟩
theorem act_h {h : Nat → Int32} {xp : StV} {n c : Int} (I : STN xp n c (fun _ => 0)) (h7 : vp_in (h 1) 7) (sv : Nat → StV) (w z : Nat → Int32) (k : Int32) (hr : ¬ 0 ≤ f_L_act_r h sv xp w z k) : f_X4_count_r (f_L_act_h h sv xp w z k) (f_L_act_xp h sv xp w z k) w 14 = f_X4_count_r h xp w 14 := by
  rw [cq_14, cq_14, (act_S I h7 sv w z k).2.2 (Int32.not_le.mp hr)]
theorem loop_out {p : Program} {l : Launch} {e : Env} {s : State} {m : MethodId} {below : List Frame} {meth : Method} {c : Code} {G : GG} (C : Cx p s m #[Value.ref (G.2.2 3)] c cL_law 17 RL G (LA s)) (hr : meth.sig.returnType = ret) (hlocks : meth.locks = false) (hL : G.2.2 4 ≤ 260) (T : Nat) (hT : T ≤ 14) (hTL : 4 * T ≤ G.2.2 4) {a hi sl su pa ha ga : Nat} {AP AT AU : Nat → Nat} {AH AS : Nat → Nat → Nat} (w : Nat → Int32) (qc : Nat → UInt16) (us : Nat → Int32) (zv : Nat → StV) (xt xu : StV) :
    ∀ (n i : Nat), i + n = T → ∀ (h : Nat → Int32) (sv : Nat → StV) (xp : StV) (ca : Int32) (N : Int), N ≤ 49 * (i : Int) → STN xp N (36 * N) (fun _ => 0) → ca = totS xp → vp_in (h 1) 7 → LJ p l e s m below meth c G (lw_Z below #[Value.ref (G.2.2 3)] s) (fl [[oX a (AP 0) hi sl su pa (AT 0) (AU 0)], [oH hi ha (h)], [aS G ha 7 (fun k => some (AH k 0))], [oP pa ga w], [aC G ga qc], [aS G sl 2 (fun k => some (AS k 0))], [aZ G su 2 us], cMany G AH (sv) 7, cMany G AS zv 2, cSt G AP (xp), cSt G AT xt, cSt G AU xu]) [(0, .ref (G.2.2 3)), (1, .ref a), (2, .int 1), (3, .int (ca)), (4, .int (nI T)), (5, .int (nI i))] 35 []
  | 0, i, hi, h, sv, xp, ca, N, hN, I, hca, h7 => by
    refine j_iload C dL_law_35 5 rfl ?_
    refine j_iload C dL_law_37 4 rfl ?_
    refine j_icmp_ge (tgt := 482) C dL_law_39 (by decide) (fun _ => ?_) (fun g => absurd (nI_le (show T ≤ i by omega) (by omega)) g)
    refine j_iload_n C dL_law_482 2 rfl ?_
    exact j_lawret C hr hlocks
  | n + 1, i, hi, h, sv, xp, ca, N, hN, I, hca, h7 => by
    refine j_iload C dL_law_35 5 rfl ?_
    refine j_iload C dL_law_37 4 rfl ?_
    refine j_icmp_ge (tgt := 482) C dL_law_39 (by decide) (fun g => absurd g (nI_ge (show i < T by omega) (by omega))) (fun _ => ?_)
    refine j_iload_n C dL_law_42 2 rfl ?_
    refine j_if_eq (tgt := 482) C dL_law_43 (by decide) (fun g => absurd g (by decide)) (fun _ => ?_)
    obtain ⟨⟨k0, l0⟩, ⟨k1, l1⟩, ⟨k2, l2⟩, ⟨k3, l3⟩⟩ := idx_4 (L := G.2.2 4) (T := T) (i := i) (by omega) hTL hL
    obtain ⟨A1, A2, A3⟩ := act_S I h7 sv w (scr G) (4 * nI i)
    refine seg_A C h sv xp w (scr G) (nI i) (nI T) ca qc us zv xt xu h7 rfl k0 l0 k1 l1 k2 l2 k3 l3 (act_h I h7 sv w (scr G) (4 * nI i)) ?_
    have hca' := act_C A1
    rw [← hca] at hca'
    obtain ⟨M, hM, eM⟩ : ∃ M : Nat, M < 50 ∧ lowF (scr G (4 * nI i + 3).toNatClampNeg) 50 = nI M := by
      obtain ⟨p1, p2⟩ := low_ge (scr G (4 * nI i + 3).toNatClampNeg) (n := 50) (by decide)
      rw [show (50 : Int32).toInt = 50 by decide] at p2
      exact ⟨_, by omega, of_T p1⟩
    rw [eM, hca']
    refine loop_in C w (nI i) (nI T) qc us zv xt xu M hM N (by omega) ?_ M 0 (by omega) _ _ _ _ N (by omega) A1.1 rfl A2
    intro h sv xp ca N' hN' I' hca' h7'
    obtain ⟨c0, c1, c2, c3⟩ := chk_4 I' (by omega) h w
    refine seg_C C h sv xp w (nI i) (nI T) ca qc us zv xt xu c0 c1 c2 c3 ?_
    refine j_iinc (k := 5) (v := nI (i + 1)) C [(5, .int (nI (i + 1))), (0, .ref (G.2.2 3)), (1, .ref a), (2, .int 1), (3, .int (ca)), (4, .int (nI T))] dL_law_476 rfl (nI_1 i) (by decide) rfl ?_
    refine j_goto (tgt := 35) C dL_law_479 (by decide) ?_
    refine j_lv [1, 2, 3, 4, 5, 0] [(0, .ref (G.2.2 3)), (1, .ref a), (2, .int 1), (3, .int (ca)), (4, .int (nI T)), (5, .int (nI (i + 1)))] rfl ?_
    exact loop_out C hr hlocks hL T hT hTL w qc us zv xt xu n (i + 1) (by omega) h sv xp ca N' (by omega) I' hca' h7'
