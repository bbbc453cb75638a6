/-! THE LAW: from its entry -/
theorem quart {L : Nat} (hL : L ≤ 260) : nI L / 4 = nI (L / 4) := by
  apply Int32.toInt_inj.mp
  rw [T_div (by rw [nI_T (by omega)]; omega) (by decide), nI_T (by omega), nI_T (by omega), show (4 : Int32).toInt = 4 by decide]
  omega
set_option maxRecDepth 100000 in
set_option maxHeartbeats 4000000 in
theorem law_walk {p : Program} {l : Launch} {e : Env} {s : State} {m : MethodId} {below : List Frame} {meth : Method} {c : Code} {G : GG} (C : Cx p s m #[Value.ref (G.2.2 3)] c cL_law 17 RL G (LA s)) (hr : meth.sig.returnType = ret) (hlocks : meth.locks = false) (hL : G.2.2 4 ≤ 260) : WJ p l e room_1 s m #[Value.ref (G.2.2 3)] below meth c G (LA s) 17 0 0 (lw_Z below #[Value.ref (G.2.2 3)] s) [] [(0, .ref (G.2.2 3))] 0 [] := by
  refine j_new (ci := 4) (fs := fsX4) C kin4 tyX4 tyX4_ok kw_8 kw_9 kw_1 rfl df_X4 (Nat.le_of_ble_eq_true rfl) (Nat.le_of_ble_eq_true rfl) dL_law_0 (fun a => ?_)
  refine j_dup C dL_law_3 rfl ?_
  refine j_callI_n C (m_X4_init l G a) 0 kw_12 kw_1 kw_10 kw_11 rfl (by decide +kernel) ⟨(Nat.le_of_ble_eq_true rfl), (Nat.le_of_ble_eq_true rfl)⟩ rfl rfl (Nat.le_of_ble_eq_true rfl) dL_law_4 ⟨(Nat.le_of_ble_eq_true rfl), (Nat.le_of_ble_eq_true rfl)⟩ [] (List.Perm.refl _) (fun y1 _ => ?_)
  refine j_w (fl [[oX a (y1.2 0 0) (y1.1 0) (y1.1 2) (y1.1 3) (y1.1 4) (y1.2 1 0) (y1.2 2 0)], [oH (y1.1 0) (y1.1 1) zI], [aS G (y1.1 1) 7 (fun k => some ((fun k => y1.2 (3 + k)) k 0))], [oP (y1.1 4) (y1.1 5) zI], [aC G (y1.1 5) (fun _ => 0)], [aS G (y1.1 2) 2 (fun k => some ((fun k => y1.2 (10 + k)) k 0))], [aZ G (y1.1 3) 2 (fun _ => 0)], cMany G (fun k => y1.2 (3 + k)) (fun _ => stv0) 7, cMany G (fun k => y1.2 (10 + k)) (fun _ => stv0) 2, cSt G (y1.2 0) stv0, cSt G (y1.2 1) stv0, cSt G (y1.2 2) stv0]) (List.append_nil _) ?_
  refine j_astore_n C [(1, .ref a), (0, .ref (G.2.2 3))] dL_law_7 (by decide) rfl ?_
  refine j_iconst (v := 1) C dL_law_8 (by decide) ?_
  refine j_istore_n C [(2, .int 1), (1, .ref a), (0, .ref (G.2.2 3))] dL_law_9 (by decide) rfl ?_
  refine j_iconst (v := 0) C dL_law_10 (by decide) ?_
  refine j_istore_n C [(3, .int 0), (2, .int 1), (1, .ref a), (0, .ref (G.2.2 3))] dL_law_11 (by decide) rfl ?_
  refine j_widen (k := 139) (n := 5700) (Nat.le_of_ble_eq_true rfl) (Nat.le_of_ble_eq_true rfl) ?_
  have K30 : ∀ T : Nat, T ≤ 14 → 4 * T ≤ G.2.2 4 → LJ p l e s m below meth c G (lw_Z below #[Value.ref (G.2.2 3)] s) (fl [[oX a (y1.2 0 0) (y1.1 0) (y1.1 2) (y1.1 3) (y1.1 4) (y1.2 1 0) (y1.2 2 0)], [oH (y1.1 0) (y1.1 1) zI], [aS G (y1.1 1) 7 (fun k => some ((fun k => y1.2 (3 + k)) k 0))], [oP (y1.1 4) (y1.1 5) zI], [aC G (y1.1 5) (fun _ => 0)], [aS G (y1.1 2) 2 (fun k => some ((fun k => y1.2 (10 + k)) k 0))], [aZ G (y1.1 3) 2 (fun _ => 0)], cMany G (fun k => y1.2 (3 + k)) (fun _ => stv0) 7, cMany G (fun k => y1.2 (10 + k)) (fun _ => stv0) 2, cSt G (y1.2 0) stv0, cSt G (y1.2 1) stv0, cSt G (y1.2 2) stv0]) [(3, .int 0), (2, .int 1), (1, .ref a), (0, .ref (G.2.2 3))] 30 [.int (nI T)] := by
    intro T hT hTL
    refine j_istore C [(4, .int (nI T)), (3, .int 0), (2, .int 1), (1, .ref a), (0, .ref (G.2.2 3))] dL_law_30 (by decide) rfl ?_
    refine j_iconst (v := nI 0) C dL_law_32 (by decide) ?_
    refine j_istore C [(5, .int (nI 0)), (4, .int (nI T)), (3, .int 0), (2, .int 1), (1, .ref a), (0, .ref (G.2.2 3))] dL_law_33 (by decide) rfl ?_
    refine j_lv [5, 4, 3, 2, 1, 0] [(0, .ref (G.2.2 3)), (1, .ref a), (2, .int 1), (3, .int 0), (4, .int (nI T)), (5, .int (nI 0))] rfl ?_
    exact loop_out (a := a) (hi := y1.1 0) (sl := y1.1 2) (su := y1.1 3) (pa := y1.1 4) (ha := y1.1 1) (ga := y1.1 5) (AP := y1.2 0) (AT := y1.2 1) (AU := y1.2 2) (AH := fun k => y1.2 (3 + k)) (AS := fun k => y1.2 (10 + k)) C hr hlocks hL T hT hTL zI (fun _ => 0) (fun _ => 0) (fun _ => stv0) stv0 stv0 T 0 (by omega) zI (fun _ => stv0) stv0 0 0 (by omega) STN_0 tot_0.symm (vin_lit (by decide))
  refine j_aload_n C dL_law_12 3 rfl ?_
  refine j_slen C dL_law_13 ?_
  refine j_iconst (v := 4) C dL_law_14 (by decide) ?_
  refine j_idiv C dL_law_15 (by decide) (quart hL) ?_
  refine j_bipush (v := 14) C dL_law_16 (by decide) ?_
  refine j_icmp_le (tgt := 26) C dL_law_18 (by decide) (fun g => ?_) (fun g => ?_)
  · have g := le_T.mp g
    rw [nI_T (by omega), show (14 : Int32).toInt = 14 by decide] at g
    refine j_aload_n C dL_law_26 3 rfl ?_
    refine j_slen C dL_law_27 ?_
    refine j_iconst (v := 4) C dL_law_28 (by decide) ?_
    refine j_idiv C dL_law_29 (by decide) (quart hL) ?_
    exact K30 (G.2.2 4 / 4) (by omega) (by omega)
  · have g := mt le_T.mpr g
    rw [nI_T (by omega), show (14 : Int32).toInt = 14 by decide] at g
    refine j_bipush (v := nI 14) C dL_law_21 (by decide) ?_
    refine j_goto (tgt := 30) C dL_law_23 (by decide) ?_
    exact K30 14 (by omega) (by omega)
theorem whole_start {p : Program} {e : Env} {s : State} {m : MethodId} {below : List Frame} {meth : Method} {c : Code} (l : Launch) (hflags : l.flags = flags0) {b L : Nat} {xs : Nat → Int32} (hL : L ≤ 260) (C0 : lw_At p s m meth c b L xs) : W p l e room_1 s m #[Value.ref b] below meth c s.heap [] 0 0 (lw_Z below #[Value.ref b] s) (entryFrame m ([Value.ref b] : List Value).toArray 17) := by
  obtain ⟨G, hK, hGS, hb3, hL4⟩ := law_G C0
  have hN := law_NW C0
  have C1 := C0
  obtain ⟨hx, hb, hr, hml, hown, hts, hX, hbl, hlocks, hgv⟩ := C1
  have haw := law_aw C0
  subst hb3
  subst hL4
  have C : Cx p s m #[Value.ref (G.2.2 3)] c cL_law 17 RL G (LA s) := ⟨hx, hb, hml, hown, haw, hK, fun _ h => h, hN, hGS⟩
  have hl := lv_entry ([.ref (G.2.2 3)]) (n := 17) (Nat.le_of_ble_eq_true rfl)
  rw [lg_entry_eq]
  generalize (lg_sl ([.ref (G.2.2 3)]) ++ List.replicate (17 - (lg_sl ([.ref (G.2.2 3)])).length) Slot.unset).toArray = ls at hl ⊢
  have hl : lv_has ls 17 [(0, .ref (G.2.2 3))] := hl
  exact law_walk C hr hlocks hL s.heap [] ls (fun k q h => by simp at h) ⟨fun i j p q h => by simp at h, fun k q h => by simp at h⟩ va_S.rf hl
