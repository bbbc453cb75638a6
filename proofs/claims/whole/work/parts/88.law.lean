/-! THE LAW: its loop, its start -/
theorem WJ.widen {p : Program} {l : Launch} {e : Env} {R : Room} {s : State} {m : MethodId} {args : Array Value} {below : List Frame} {meth : Method} {c : Code} {G : GG} {A : Nat → Prop} {nL cells slots k n : Nat} {Q : State → Prop} {w : va_W} {lv : List (Nat × Value)} {pc : Nat} {st : List Value} (h1 : cells ≤ k) (h2 : slots ≤ n) (K : WJ p l e R s m args below meth c G A nL k n Q w lv pc st) : WJ p l e R s m args below meth c G A nL cells slots Q w lv pc st := fun H locs ls hP hD hS hl => W.widen h1 h2 (K H locs ls hP hD hS hl)
section LL
variable {p : Program} {l : Launch} {e : Env} {s : State} {m : MethodId} {below : List Frame} {meth : Method} {c : Code} {G : GG} {b L : Nat} {xs : Nat → Int32} {Q : State → Prop}
theorem j_lawret (C : Cx p s m #[Value.ref b] c cL_law 4 RL G (LA s)) (hr : meth.sig.returnType = ret) (hlocks : meth.locks = false) {w : va_W} {lv : List (Nat × Value)} : LJ p l e s m below meth c G b (lw_Z below #[Value.ref b] s) w lv 804 [.int 1] := fun H locs ls hP hD hS hl => va_forget (fun q hq => hS.2.2 q hq) (W.widen (k := 600000) (n := 7302250) (by decide) (by decide) (lw_ret (d0 := s.drawn) (Drawn.sameBut.refl s.drawn lw_cs) C.1 C.2.1 hr hlocks dL_law_804))
theorem tab_0 (x : Int32) : (x.toInt < 0 ∨ 23 < x.toInt) ∨ x.toInt = 0 ∨ x.toInt = 1 ∨ x.toInt = 2 ∨ x.toInt = 3 ∨ x.toInt = 4 ∨ x.toInt = 5 ∨ x.toInt = 6 ∨ x.toInt = 7 ∨ x.toInt = 8 ∨ x.toInt = 9 ∨ x.toInt = 10 ∨ x.toInt = 11 ∨ x.toInt = 12 ∨ x.toInt = 13 ∨ x.toInt = 14 ∨ x.toInt = 15 ∨ x.toInt = 16 ∨ x.toInt = 17 ∨ x.toInt = 18 ∨ x.toInt = 19 ∨ x.toInt = 20 ∨ x.toInt = 21 ∨ x.toInt = 22 ∨ x.toInt = 23 := by omega
set_option maxRecDepth 100000 in
set_option maxHeartbeats 4000000 in
theorem law_loop (C : Cx p s m #[Value.ref b] c cL_law 4 RL G (LA s)) (hX : va_X b L xs s s.heap) (hbl : b < s.heap.size) (hL : L ≤ 2048) (hr : meth.sig.returnType = ret) (hlocks : meth.locks = false) {a1 hi sl su pa ha ga : Nat} {AP AT AU : Nat → Nat} {AH AS : Nat → Nat → Nat} {a2 nw th ps sm hh pd od : Nat} : ∀ (n i : Nat), 4 * i ≤ L → L < 4 * i + 4 * n → ∀ (h : Nat → Int32) (sv : Nat → StV) (xp xt xu : StV) (zv : Nat → StV) (us w : Nat → Int32) (q : Nat → UInt16) (v : Nat → Int32) (f g u sg : Nat → Int64) (hd o z : Nat → Int32), LR (16800 * (i : Int)) h sv xp zv us w q v f u sg hd o → LJ p l e s m below meth c G b (lw_Z below #[Value.ref b] s) (fl [[oX a1 (AP 0) hi sl su pa (AT 0) (AU 0)], [oH hi ha h], [aS G ha 7 (fun k => some (AH k 0))], [oP pa ga w], [aC G ga q], [aS G sl 2 (fun k => some (AS k 0))], [aZ G su 2 us], cMany G AH sv 7, cMany G AS zv 2, cSt G AP xp, cSt G AT xt, cSt G AU xu, [oM a2 nw th ps sm hh pd od v], [aJ G nw 456 f], [aJ G th 456 g], [aJ G ps 2736 u], [aJ G sm 912 sg], [aZ G hh 2 hd], [aI G pd 80 o], [aI G od 164 z]]) [(3, .int (nI (4 * i))), (2, .ref a2), (1, .ref a1), (0, .ref b)] 18 []
  | 0, i, h0, h1, _, _, _, _, _, _, _, _, _, _, _, _, _, _, _, _, _, _ => absurd h1 (by omega)
  | n + 1, i, h0, h1, h, sv, xp, xt, xu, zv, us, w, q, v, f, g, u, sg, hd, o, z, T => by
    refine j_iload_n C dL_law_18 0 rfl ?_
    refine j_aload_n C dL_law_19 3 rfl ?_
    refine j_slen C hX hbl dL_law_20 ?_
    refine j_iconst (v := 4) C dL_law_21 (by decide) ?_
    refine j_isub C dL_law_22 rfl ?_
    have t4 : (nI L - 4).toInt = (L : Int) - 4 := by
      have e4 : (4 : Int32).toInt = 4 := by decide
      rw [T_sub (by rw [nI_T (by omega), e4]; omega) (by rw [nI_T (by omega), e4]; omega), nI_T (by omega), e4]
    refine j_icmp_gt (tgt := 803) C dL_law_23 (by decide) (fun _ => ?_) (fun c0 => ?_)
    · refine j_iconst (v := 1) C dL_law_803 (by decide) ?_
      exact j_lawret C hr hlocks
    have h4 : 4 * i + 4 ≤ L := by
      have := mt lt_T.mpr c0
      rw [t4, nI_T (by omega)] at this
      omega
    -- behind a call the next one begins
    have tail : ∀ (h : Nat → Int32) (sv : Nat → StV) (xp xt xu : StV) (zv : Nat → StV) (us w : Nat → Int32) (q : Nat → UInt16) (v : Nat → Int32) (f g u sg : Nat → Int64) (hd o z : Nat → Int32), LR (16800 * ((i : Int) + 1)) h sv xp zv us w q v f u sg hd o → LJ p l e s m below meth c G b (lw_Z below #[Value.ref b] s) (fl [[oX a1 (AP 0) hi sl su pa (AT 0) (AU 0)], [oH hi ha h], [aS G ha 7 (fun k => some (AH k 0))], [oP pa ga w], [aC G ga q], [aS G sl 2 (fun k => some (AS k 0))], [aZ G su 2 us], cMany G AH sv 7, cMany G AS zv 2, cSt G AP xp, cSt G AT xt, cSt G AU xu, [oM a2 nw th ps sm hh pd od v], [aJ G nw 456 f], [aJ G th 456 g], [aJ G ps 2736 u], [aJ G sm 912 sg], [aZ G hh 2 hd], [aI G pd 80 o], [aI G od 164 z]]) [(3, .int (nI (4 * i))), (2, .ref a2), (1, .ref a1), (0, .ref b)] 797 [] := fun h sv xp xt xu zv us w q v f g u sg hd o z T => by
      refine j_iinc (k := 0) (v := nI (4 * (i + 1))) C [(3, .int (nI (4 * (i + 1)))), (2, .ref a2), (1, .ref a1), (0, .ref b)] dL_law_797 rfl (nI_j (a := 4 * i) (k := 4) (by omega)) (by decide) rfl ?_
      refine j_goto (tgt := 18) C dL_law_800 (by decide) ?_
      exact law_loop C hX hbl hL hr hlocks n (i + 1) (by omega) (by omega) h sv xp xt xu zv us w q v f g u sg hd o z (T.mono (by omega))
    refine j_aload_n C dL_law_26 3 rfl ?_
    refine j_iload_n C dL_law_27 0 rfl ?_
    refine j_sld C hX hbl (j := 4 * i) (by omega) hL dL_law_28 ?_
    refine j_bipush (v := 31) C dL_law_29 (by decide) ?_
    refine j_iand C dL_law_31 rfl ?_
    generalize xs (4 * i) &&& 31 = kd
    rcases tab_0 kd with t | t | t | t | t | t | t | t | t | t | t | t | t | t | t | t | t | t | t | t | t | t | t | t | t
    · refine j_tableOut (tgt := 797) C dL_law_32 t (by decide) ?_
      exact tail h sv xp xt xu zv us w q v f g u sg hd o z (T.mono (by omega))
    · refine j_tableIn (off := 112) (tgt := 144) C dL_law_32 (by rw [t]; decide) (by rw [t]; decide) (by rw [t]; rfl) (by decide) ?_
      exact law_set C hX hbl hL h4 h sv xp xt xu zv us w q v f g u sg hd o z T tail
    · refine j_tableIn (off := 145) (tgt := 177) C dL_law_32 (by rw [t]; decide) (by rw [t]; decide) (by rw [t]; rfl) (by decide) ?_
      exact law_stream C hX hbl hL h4 h sv xp xt xu zv us w q v f g u sg hd o z T tail
    · refine j_tableIn (off := 188) (tgt := 220) C dL_law_32 (by rw [t]; decide) (by rw [t]; decide) (by rw [t]; rfl) (by decide) ?_
      exact law_write C hX hbl hL h4 h sv xp xt xu zv us w q v f g u sg hd o z T tail
    · refine j_tableIn (off := 221) (tgt := 253) C dL_law_32 (by rw [t]; decide) (by rw [t]; decide) (by rw [t]; rfl) (by decide) ?_
      exact law_sell C hX hbl hL h4 h sv xp xt xu zv us w q v f g u sg hd o z T tail
    · refine j_tableIn (off := 254) (tgt := 286) C dL_law_32 (by rw [t]; decide) (by rw [t]; decide) (by rw [t]; rfl) (by decide) ?_
      exact law_giveBack C hX hbl hL h4 h sv xp xt xu zv us w q v f g u sg hd o z T tail
    · refine j_tableIn (off := 287) (tgt := 319) C dL_law_32 (by rw [t]; decide) (by rw [t]; decide) (by rw [t]; rfl) (by decide) ?_
      exact law_pass C hX hbl hL h4 h sv xp xt xu zv us w q v f g u sg hd o z T tail
    · refine j_tableIn (off := 310) (tgt := 342) C dL_law_32 (by rw [t]; decide) (by rw [t]; decide) (by rw [t]; rfl) (by decide) ?_
      exact law_ofDrive C hX hbl hL h4 h sv xp xt xu zv us w q v f g u sg hd o z T tail
    · refine j_tableIn (off := 343) (tgt := 375) C dL_law_32 (by rw [t]; decide) (by rw [t]; decide) (by rw [t]; rfl) (by decide) ?_
      exact law_hour C hX hbl hL h4 h sv xp xt xu zv us w q v f g u sg hd o z T tail
    · refine j_tableIn (off := 376) (tgt := 408) C dL_law_32 (by rw [t]; decide) (by rw [t]; decide) (by rw [t]; rfl) (by decide) ?_
      exact law_streak C hX hbl hL h4 h sv xp xt xu zv us w q v f g u sg hd o z T tail
    · refine j_tableIn (off := 399) (tgt := 431) C dL_law_32 (by rw [t]; decide) (by rw [t]; decide) (by rw [t]; rfl) (by decide) ?_
      exact law_share C hX hbl hL h4 h sv xp xt xu zv us w q v f g u sg hd o z T tail
    · refine j_tableIn (off := 422) (tgt := 454) C dL_law_32 (by rw [t]; decide) (by rw [t]; decide) (by rw [t]; rfl) (by decide) ?_
      exact law_mean C hX hbl hL h4 h sv xp xt xu zv us w q v f g u sg hd o z T tail
    · refine j_tableIn (off := 446) (tgt := 478) C dL_law_32 (by rw [t]; decide) (by rw [t]; decide) (by rw [t]; rfl) (by decide) ?_
      exact law_count C hX hbl hL h4 h sv xp xt xu zv us w q v f g u sg hd o z T tail
    · refine j_tableIn (off := 469) (tgt := 501) C dL_law_32 (by rw [t]; decide) (by rw [t]; decide) (by rw [t]; rfl) (by decide) ?_
      exact law_loudIn C hX hbl hL h4 h sv xp xt xu zv us w q v f g u sg hd o z T tail
    · refine j_tableIn (off := 502) (tgt := 534) C dL_law_32 (by rw [t]; decide) (by rw [t]; decide) (by rw [t]; rfl) (by decide) ?_
      exact law_freeIn C hX hbl hL h4 h sv xp xt xu zv us w q v f g u sg hd o z T tail
    · refine j_tableIn (off := 535) (tgt := 567) C dL_law_32 (by rw [t]; decide) (by rw [t]; decide) (by rw [t]; rfl) (by decide) ?_
      exact law_mostHeld C hX hbl hL h4 h sv xp xt xu zv us w q v f g u sg hd o z T tail
    · refine j_tableIn (off := 568) (tgt := 600) C dL_law_32 (by rw [t]; decide) (by rw [t]; decide) (by rw [t]; rfl) (by decide) ?_
      exact law_firstSafe C hX hbl hL h4 h sv xp xt xu zv us w q v f g u sg hd o z T tail
    · refine j_tableIn (off := 591) (tgt := 623) C dL_law_32 (by rw [t]; decide) (by rw [t]; decide) (by rw [t]; rfl) (by decide) ?_
      exact law_leastRoom C hX hbl hL h4 h sv xp xt xu zv us w q v f g u sg hd o z T tail
    · refine j_tableIn (off := 614) (tgt := 646) C dL_law_32 (by rw [t]; decide) (by rw [t]; decide) (by rw [t]; rfl) (by decide) ?_
      exact law_put C hX hbl hL h4 h sv xp xt xu zv us w q v f g u sg hd o z T tail
    · refine j_tableIn (off := 667) (tgt := 699) C dL_law_32 (by rw [t]; decide) (by rw [t]; decide) (by rw [t]; rfl) (by decide) ?_
      exact law_wipe C hX hbl hL h4 h sv xp xt xu zv us w q v f g u sg hd o z T tail
    · refine j_tableIn (off := 680) (tgt := 712) C dL_law_32 (by rw [t]; decide) (by rw [t]; decide) (by rw [t]; rfl) (by decide) ?_
      exact law_fault C hX hbl hL h4 h sv xp xt xu zv us w q v f g u sg hd o z T tail
    · refine j_tableIn (off := 693) (tgt := 725) C dL_law_32 (by rw [t]; decide) (by rw [t]; decide) (by rw [t]; rfl) (by decide) ?_
      exact law_carryOut C hX hbl hL h4 h sv xp xt xu zv us w q v f g u sg hd o z T tail
    · refine j_tableIn (off := 706) (tgt := 738) C dL_law_32 (by rw [t]; decide) (by rw [t]; decide) (by rw [t]; rfl) (by decide) ?_
      exact law_undo C hX hbl hL h4 h sv xp xt xu zv us w q v f g u sg hd o z T tail
    · refine j_tableIn (off := 719) (tgt := 751) C dL_law_32 (by rw [t]; decide) (by rw [t]; decide) (by rw [t]; rfl) (by decide) ?_
      exact law_save C hX hbl hL h4 h sv xp xt xu zv us w q v f g u sg hd o z T tail
    · refine j_tableIn (off := 742) (tgt := 774) C dL_law_32 (by rw [t]; decide) (by rw [t]; decide) (by rw [t]; rfl) (by decide) ?_
      exact law_restore C hX hbl hL h4 h sv xp xt xu zv us w q v f g u sg hd o z T tail
end LL
set_option maxRecDepth 100000 in
set_option maxHeartbeats 4000000 in
theorem law_walk {p : Program} {l : Launch} {e : Env} {s : State} {m : MethodId} {below : List Frame} {meth : Method} {c : Code} {G : GG} {b L : Nat} {xs : Nat → Int32} (C : Cx p s m #[Value.ref b] c cL_law 4 RL G (LA s)) (hX : va_X b L xs s s.heap) (hbl : b < s.heap.size) (hL : L ≤ 2048) (hr : meth.sig.returnType = ret) (hlocks : meth.locks = false) : WJ p l e room_1 s m #[Value.ref b] below meth c G (LA s) 4 0 0 (lw_Z below #[Value.ref b] s) [] [(0, .ref b)] 0 [] := by
  refine j_new (ci := 4) (fs := fsX4) C kin4 tyX4 tyX4_ok kw_11 kw_12 kw_1 rfl df_X4 (Nat.le_of_ble_eq_true rfl) (Nat.le_of_ble_eq_true rfl) dL_law_0 (fun a1 => ?_)
  refine j_dup C dL_law_3 rfl ?_
  refine j_callI_n C (m_X4_init l G a1) 0 kw_15 kw_1 kw_13 kw_14 rfl (by decide +kernel) ⟨(Nat.le_of_ble_eq_true rfl), (Nat.le_of_ble_eq_true rfl)⟩ rfl rfl (Nat.le_of_ble_eq_true rfl) dL_law_4 ⟨(Nat.le_of_ble_eq_true rfl), (Nat.le_of_ble_eq_true rfl)⟩ [] (List.Perm.refl _) (fun y1 _ => ?_)
  refine j_astore_n C [(1, .ref a1), (0, .ref b)] dL_law_7 (by decide) rfl ?_
  refine j_new (ci := 5) (fs := fsX5) C kin5 tyX5 tyX5_ok kw_474 kw_475 kw_7 rfl df_X5 (Nat.le_of_ble_eq_true rfl) (Nat.le_of_ble_eq_true rfl) dL_law_8 (fun a2 => ?_)
  refine j_dup C dL_law_11 rfl ?_
  refine j_callI_n C (m_X5_init l G a2) 0 kw_478 kw_7 kw_476 kw_477 rfl (by decide +kernel) ⟨(Nat.le_of_ble_eq_true rfl), (Nat.le_of_ble_eq_true rfl)⟩ rfl rfl (Nat.le_of_ble_eq_true rfl) dL_law_12 ⟨(Nat.le_of_ble_eq_true rfl), (Nat.le_of_ble_eq_true rfl)⟩ (fl [[oX a1 (y1.2 0 0) (y1.1 0) (y1.1 2) (y1.1 3) (y1.1 4) (y1.2 1 0) (y1.2 2 0)], [oH (y1.1 0) (y1.1 1) zI], [aS G (y1.1 1) 7 (fun k => some ((fun k => y1.2 (3 + k)) k 0))], [oP (y1.1 4) (y1.1 5) zI], [aC G (y1.1 5) (fun _ => 0)], [aS G (y1.1 2) 2 (fun k => some ((fun k => y1.2 (10 + k)) k 0))], [aZ G (y1.1 3) 2 (fun _ => 0)], cMany G (fun k => y1.2 (3 + k)) (fun _ => stv0) 7, cMany G (fun k => y1.2 (10 + k)) (fun _ => stv0) 2, cSt G (y1.2 0) stv0, cSt G (y1.2 1) stv0, cSt G (y1.2 2) stv0]) (by rw [List.append_nil]; exact List.perm_append_comm) (fun y2 _ => ?_)
  refine j_astore_n C [(2, .ref a2), (1, .ref a1), (0, .ref b)] dL_law_15 (by decide) rfl ?_
  refine j_iconst (v := nI (4 * 0)) C dL_law_16 (by decide) ?_
  refine j_istore_n C [(3, .int (nI (4 * 0))), (2, .ref a2), (1, .ref a1), (0, .ref b)] dL_law_17 (by decide) rfl ?_
  refine WJ.widen (k := 147) (n := 10524) (Nat.le_of_ble_eq_true rfl) (Nat.le_of_ble_eq_true rfl) ?_
  have hp : (fl [[oM a2 (y2 0) (y2 1) (y2 2) (y2 3) (y2 4) (y2 5) (y2 6) zI], [aJ G (y2 0) 456 mv0], [aJ G (y2 1) 456 (fun _ => 0)], [aJ G (y2 2) 2736 (fun _ => 0)], [aJ G (y2 3) 912 (fun _ => 0)], [aZ G (y2 4) 2 (fun _ => 0)], [aI G (y2 5) 80 (fun _ => 0)], [aI G (y2 6) 164 (fun _ => 0)]] ++ (fl [[oX a1 (y1.2 0 0) (y1.1 0) (y1.1 2) (y1.1 3) (y1.1 4) (y1.2 1 0) (y1.2 2 0)], [oH (y1.1 0) (y1.1 1) zI], [aS G (y1.1 1) 7 (fun k => some ((fun k => y1.2 (3 + k)) k 0))], [oP (y1.1 4) (y1.1 5) zI], [aC G (y1.1 5) (fun _ => 0)], [aS G (y1.1 2) 2 (fun k => some ((fun k => y1.2 (10 + k)) k 0))], [aZ G (y1.1 3) 2 (fun _ => 0)], cMany G (fun k => y1.2 (3 + k)) (fun _ => stv0) 7, cMany G (fun k => y1.2 (10 + k)) (fun _ => stv0) 2, cSt G (y1.2 0) stv0, cSt G (y1.2 1) stv0, cSt G (y1.2 2) stv0])).Perm (fl ([[oX a1 (y1.2 0 0) (y1.1 0) (y1.1 2) (y1.1 3) (y1.1 4) (y1.2 1 0) (y1.2 2 0)], [oH (y1.1 0) (y1.1 1) zI], [aS G (y1.1 1) 7 (fun k => some ((fun k => y1.2 (3 + k)) k 0))], [oP (y1.1 4) (y1.1 5) zI], [aC G (y1.1 5) (fun _ => 0)], [aS G (y1.1 2) 2 (fun k => some ((fun k => y1.2 (10 + k)) k 0))], [aZ G (y1.1 3) 2 (fun _ => 0)], cMany G (fun k => y1.2 (3 + k)) (fun _ => stv0) 7, cMany G (fun k => y1.2 (10 + k)) (fun _ => stv0) 2, cSt G (y1.2 0) stv0, cSt G (y1.2 1) stv0, cSt G (y1.2 2) stv0] ++ [[oM a2 (y2 0) (y2 1) (y2 2) (y2 3) (y2 4) (y2 5) (y2 6) zI], [aJ G (y2 0) 456 mv0], [aJ G (y2 1) 456 (fun _ => 0)], [aJ G (y2 2) 2736 (fun _ => 0)], [aJ G (y2 3) 912 (fun _ => 0)], [aZ G (y2 4) 2 (fun _ => 0)], [aI G (y2 5) 80 (fun _ => 0)], [aI G (y2 6) 164 (fun _ => 0)]])) := by
    rw [← fl_app]
    exact List.perm_append_comm
  refine j_perm _ hp ?_
  exact law_loop (AH := fun k => y1.2 (3 + k)) (AS := fun k => y1.2 (10 + k)) (AP := y1.2 0) (AT := y1.2 1) (AU := y1.2 2) C hX hbl hL hr hlocks (L + 1) 0 (by omega) (by omega) zI (fun _ => stv0) stv0 stv0 stv0 (fun _ => stv0) (fun _ => 0) zI (fun _ => 0) zI mv0 (fun _ => 0) (fun _ => 0) (fun _ => 0) (fun _ => 0) (fun _ => 0) (fun _ => 0) (LR_0.mono (by decide))
theorem whole_start {p : Program} {e : Env} {s : State} {m : MethodId} {below : List Frame} {meth : Method} {c : Code} (l : Launch) (hflags : l.flags = flags0) {b L : Nat} {xs : Nat → Int32} (hL : L ≤ 2048) (C0 : lw_At p s m meth c b L xs) : W p l e room_1 s m #[Value.ref b] below meth c s.heap [] 0 0 (lw_Z below #[Value.ref b] s) (entryFrame m ([Value.ref b] : List Value).toArray 4) := by
  obtain ⟨G, hK, hGS⟩ := law_G C0
  have hN := law_NW C0
  have C1 := C0
  obtain ⟨hx, hb, hr, hml, hown, hts, hX, hbl, hlocks, hgv⟩ := C1
  have C : Cx p s m #[Value.ref b] c cL_law 4 RL G (LA s) := ⟨hx, hb, hml, hown, law_aw C0, hK, fun _ h => h, hN, hGS⟩
  have hl := lv_entry ([.ref b]) (n := 4) (Nat.le_of_ble_eq_true rfl)
  rw [lg_entry_eq]
  generalize (lg_sl ([.ref b]) ++ List.replicate (4 - (lg_sl ([.ref b])).length) Slot.unset).toArray = ls at hl ⊢
  have hl : lv_has ls 4 [(0, .ref b)] := hl
  exact law_walk C hX hbl hL hr hlocks s.heap [] ls (fun k q h => by simp at h) ⟨fun i j p q h => by simp at h, fun k q h => by simp at h⟩ va_S.rf hl
