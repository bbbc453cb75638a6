/-! THE MODEL: minutes, and what if -/
/-- minutes -/
noncomputable def pasM (f : Nat → Int64) : Nat → Nat → Int64
  | 0 => f
  | n + 1 => oneM (pasM f n)
theorem okR_pasM {f : Nat → Int64} (h : okR f) : ∀ n : Nat, okR (pasM f n)
  | 0 => h
  | n + 1 => okR_oneM (okR_pasM h n)
noncomputable def mosM (f : Nat → Int64) (k : Int32) : Nat → Int64
  | 0 => 0
  | i + 1 => if lg_cmp (pasM f (i + 1) (f_X5_row_r k + 3).toNatClampNeg) (mosM f k i) ≤ 0 then mosM f k i else pasM f (i + 1) (f_X5_row_r k + 3).toNatClampNeg
theorem lay_at (f g : Nat → Int64) (a b : Nat) : ∀ N : Nat, a + N < 2 ^ 31 → b + N < 2 ^ 31 → ∀ n : Nat, lay f (nI a) g (nI b) N n = if b ≤ n ∧ n < b + N then f (a + (n - b)) else g n
  | 0, _, _, n => by
    rw [lay, if_neg (by omega)]
  | i + 1, ha, hb, n => by
    rw [lay, nI_add, nI_add, nI_clamp (by omega), nI_clamp (by omega)]
    by_cases h : n = b + i
    · subst h
      rw [if_pos (by omega), show b + i - b = i by omega]
      exact if_pos rfl
    · rw [show vp_updL (lay f (nI a) g (nI b) i) (b + i) (f (a + i)) n = lay f (nI a) g (nI b) i n from if_neg h, lay_at f g a b i (by omega) (by omega) n]
      by_cases h2 : b ≤ n ∧ n < b + i
      · rw [if_pos h2, if_pos (by omega)]
      · rw [if_neg h2, if_neg (by omega)]
theorem lay_0 (f g : Nat → Int64) {n : Nat} (hn : n < 456) : lay f 0 g 0 456 n = f n := by
  have h := lay_at f g 0 0 456 (by decide) (by decide) n
  rw [nI_0] at h
  rw [h, if_pos (by omega), show 0 + (n - 0) = n by omega]
theorem okR_lay {f g : Nat → Int64} (h : okR f) : okR (lay f 0 g 0 456) := fun j hj => by
  rw [lay_0 f g (by omega)]
  exact h j hj
theorem ask_drive {k y : Int32} (h : f_X5_mayAsk_r k y = 0) : vp_in k 4 := by
  unfold f_X5_mayAsk_r f_X5_mayAsk_x3 at h
  by_cases c4 : f_X5_isDrive_r k = 0
  · rw [if_pos c4] at h
    exact absurd h (by decide)
  · exact drv5 c4
set_option maxRecDepth 100000 in
set_option maxHeartbeats 4000000 in
theorem m_X5_passes (l : Launch) (G : GG) (a nw th ps sl hd pd od : Nat) (v : Nat → Int32) (f : Nat → Int64) (k : Int32) (h8 : okR f) : CtV l yX5_passes cX5_passes 3 (none : Option Jvm.ClassFile.FieldType) (RM 4) G [.ref a, .int k] ([oM a nw th ps sl hd pd od v, aJ G nw 456 f]) ([oM a nw th ps sl hd pd od v, aJ G nw 456 (pasM f k.toNatClampNeg)]) := by
  refine ct_V RX5 [(0, .ref a), (1, .int k)] rfl (by decide +kernel) (Nat.le_of_ble_eq_true rfl) rfl ?_
  intro p e s m args below meth c A C hr hk hnm
  generalize hQ : (MQ below (PostV G A ([oM a nw th ps sl hd pd od v, aJ G nw 456 (pasM f k.toNatClampNeg)])) args s (RM 4).cells (RM 4).slots A) = Q
  refine j_iconst (v := 0) C dX5_passes_0 (by decide) ?_
  refine j_istore_n C [(2, .int 0), (0, .ref a), (1, .int k)] dX5_passes_1 (by decide) rfl ?_
  have L1 : ∀ (n i : Nat), i + n = k.toNatClampNeg → WJ p l e (RM 4) s m args below meth c G A 3 0 0 Q ([oM a nw th ps sl hd pd od v, aJ G nw 456 (pasM f i)]) [(2, .int (nI i)), (0, .ref a), (1, .int k)] 2 [] := by
    intro n
    induction n with
    | zero =>
      intro i hIN
      have hN : i = k.toNatClampNeg := by omega
      subst hN
      refine j_iload_n C dX5_passes_2 0 rfl ?_
      refine j_iload_n C dX5_passes_3 2 rfl ?_
      refine j_icmp_ge (tgt := 20) C dX5_passes_4 (by decide) (fun c4 => ?_) (fun h => absurd (le_cl k (cl_31 k)) h)
      subst hQ; exact j_vret C hr hk (by rw [show (pasM f k.toNatClampNeg) = (pasM f k.toNatClampNeg) from rfl]) dX5_passes_20
    | succ n ih =>
      intro i hIN
      have hlt : i < k.toNatClampNeg := by omega
      refine j_iload_n C dX5_passes_2 0 rfl ?_
      refine j_iload_n C dX5_passes_3 2 rfl ?_
      refine j_icmp_ge (tgt := 20) C dX5_passes_4 (by decide) (fun h => absurd h (nle_cl hlt)) (fun c4 => ?_)
      refine j_aload_n C dX5_passes_7 1 rfl ?_
      refine j_get C kin5 rfl 0 rfl 0 (by decide) kw_489 rfl (v := .ref nw) rfl dX5_passes_8 ?_
      refine j_callS_v (wc' := [aJ G nw 456 (oneM (pasM f i))]) C (m_X5_passesOne l G nw (pasM f i) (okR_pasM h8 i)) 1 (gS kw_605 kw_606 kw_7 kw_607) (by decide +kernel) ⟨(Nat.le_of_ble_eq_true rfl), (Nat.le_of_ble_eq_true rfl)⟩ rfl rfl (Nat.le_of_ble_eq_true rfl) dX5_passes_11 ⟨(Nat.le_of_ble_eq_true rfl), (Nat.le_of_ble_eq_true rfl)⟩ [oM a nw th ps sl hd pd od v] [aJ G nw 456 (oneM (pasM f i)), oM a nw th ps sl hd pd od v] (perm_idx [1, 0] 2 rfl (by decide +kernel) rfl) rfl ?_
      refine j_iinc (v := nI (i + 1)) C [(2, .int (nI (i + 1))), (0, .ref a), (1, .int k)] dX5_passes_14 (k := 0) rfl (nI_1 i) (by decide) rfl ?_
      refine j_goto (tgt := 2) C dX5_passes_17 (by decide) ?_
      refine j_perm ([oM a nw th ps sl hd pd od v, aJ G nw 456 (oneM (pasM f i))]) (perm_idx [1, 0] 2 rfl (by decide +kernel) rfl) ?_
      exact j_eq (by rw [show (pasM f (i + 1)) = oneM (pasM f i) from rfl]) rfl rfl (ih (i + 1) (by omega))
  exact j_eq (by rw [show (pasM f 0) = f from rfl]) (by rw [show nI 0 = 0 from rfl]) rfl (L1 k.toNatClampNeg 0 (by omega))
noncomputable def f_X5_pass_v (v : Nat → Int32) (f : Nat → Int64) (u : Nat → Int64) (k : Int32) : (Nat → Int32) := (if f_X5_areMinutes_r k = 0 then v else f_X5_records_v v f u)
noncomputable def f_X5_pass_f (v : Nat → Int32) (f : Nat → Int64) (u : Nat → Int64) (k : Int32) : (Nat → Int64) := (if f_X5_areMinutes_r k = 0 then f else pasM f k.toNatClampNeg)
noncomputable def f_X5_pass_u (v : Nat → Int32) (f : Nat → Int64) (u : Nat → Int64) (k : Int32) : (Nat → Int64) := (if f_X5_areMinutes_r k = 0 then u else f_X5_records_u v f u)
noncomputable def f_X5_pass_r (v : Nat → Int32) (f : Nat → Int64) (u : Nat → Int64) (k : Int32) : Int32 := (if f_X5_areMinutes_r k = 0 then (-2) else ((pasM f k.toNatClampNeg) 0).toInt32)
set_option maxRecDepth 100000 in
set_option maxHeartbeats 4000000 in
theorem m_X5_pass (l : Launch) (G : GG) (a nw th ps sl hd pd od : Nat) (v : Nat → Int32) (f : Nat → Int64) (u : Nat → Int64) (k : Int32) (h7 : vp_in (v 3) 7) (h8 : okR f) : CtI l yX5_pass cX5_pass 2 (some .int) (RM 5) G [.ref a, .int k] ([oM a nw th ps sl hd pd od v, aJ G nw 456 f, aJ G ps 2736 u]) (f_X5_pass_r v f u k) ([oM a nw th ps sl hd pd od (f_X5_pass_v v f u k), aJ G nw 456 (f_X5_pass_f v f u k), aJ G ps 2736 (f_X5_pass_u v f u k)]) := by
  refine ct_I RX5 [(0, .ref a), (1, .int k)] rfl (by decide +kernel) (Nat.le_of_ble_eq_true rfl) rfl ?_
  intro p e s m args below meth c A C hr hk hnm
  generalize hQ : (MQ below (PostI G A (f_X5_pass_r v f u k) ([oM a nw th ps sl hd pd od (f_X5_pass_v v f u k), aJ G nw 456 (f_X5_pass_f v f u k), aJ G ps 2736 (f_X5_pass_u v f u k)])) args s (RM 5).cells (RM 5).slots A) = Q
  refine j_iload_n C dX5_pass_0 1 rfl ?_
  refine j_pureS_i (r := f_X5_areMinutes_r k) C (m_X5_areMinutes l G k) 1 (gS kw_598 kw_599 kw_7 kw_600) (by decide +kernel) ⟨(Nat.le_of_ble_eq_true rfl), (Nat.le_of_ble_eq_true rfl)⟩ rfl rfl (Nat.le_of_ble_eq_true rfl) dX5_pass_1 ⟨(Nat.le_of_ble_eq_true rfl), (Nat.le_of_ble_eq_true rfl)⟩ ?_
  refine j_if_ne (tgt := 10) C dX5_pass_4 (by decide) (fun c4 => ?_) (fun c4 => ?_)
  · refine j_aload_n C dX5_pass_10 0 rfl ?_
    refine j_callV_v (wc' := [oM a nw th ps sl hd pd od (f_X5_records_v v f u), aJ G nw 456 f, aJ G ps 2736 (f_X5_records_u v f u)]) C (m_X5_records l G a nw th ps sl hd pd od v f u h7) rfl 0 rfl 0 (gV kw_530 kw_531 kw_771 kw_7 kw_532) (by decide +kernel) ⟨(Nat.le_of_ble_eq_true rfl), (Nat.le_of_ble_eq_true rfl)⟩ rfl rfl (Nat.le_of_ble_eq_true rfl) dX5_pass_11 ⟨(Nat.le_of_ble_eq_true rfl), (Nat.le_of_ble_eq_true rfl)⟩ [] [oM a nw th ps sl hd pd od (f_X5_records_v v f u), aJ G nw 456 f, aJ G ps 2736 (f_X5_records_u v f u)] (perm_idx [0, 1, 2] 3 rfl (by decide +kernel) rfl) rfl ?_
    refine j_aload_n C dX5_pass_14 0 rfl ?_
    refine j_iload_n C dX5_pass_15 1 rfl ?_
    refine j_callV_v (wc' := [oM a nw th ps sl hd pd od (f_X5_records_v v f u), aJ G nw 456 (pasM f k.toNatClampNeg)]) C (m_X5_passes l G a nw th ps sl hd pd od (f_X5_records_v v f u) f k h8) rfl 0 rfl 1 (gV kw_602 kw_603 kw_779 kw_7 kw_604) (by decide +kernel) ⟨(Nat.le_of_ble_eq_true rfl), (Nat.le_of_ble_eq_true rfl)⟩ rfl rfl (Nat.le_of_ble_eq_true rfl) dX5_pass_16 ⟨(Nat.le_of_ble_eq_true rfl), (Nat.le_of_ble_eq_true rfl)⟩ [aJ G ps 2736 (f_X5_records_u v f u)] [oM a nw th ps sl hd pd od (f_X5_records_v v f u), aJ G nw 456 (pasM f k.toNatClampNeg), aJ G ps 2736 (f_X5_records_u v f u)] (perm_idx [0, 1, 2] 3 rfl (by decide +kernel) rfl) rfl ?_
    refine j_aload_n C dX5_pass_19 0 rfl ?_
    refine j_get C kin5 rfl 0 rfl 0 (by decide) kw_489 rfl (v := .ref nw) rfl dX5_pass_20 ?_
    refine j_iconst (v := 0) C dX5_pass_23 (by decide) ?_
    refine j_lald C 1 rfl (vin_lit rfl) (v := (pasM f k.toNatClampNeg) 0) rfl dX5_pass_24 ?_
    refine j_l2i C dX5_pass_25 rfl ?_
    subst hQ; exact j_iret C hr hk ((show f_X5_pass_r v f u k = ((pasM f k.toNatClampNeg) 0).toInt32 from (if_neg c4)).symm) (by rw [show f_X5_pass_v v f u k = f_X5_records_v v f u from (if_neg c4), show f_X5_pass_f v f u k = pasM f k.toNatClampNeg from (if_neg c4), show f_X5_pass_u v f u k = f_X5_records_u v f u from (if_neg c4)]) dX5_pass_26
  · refine j_bipush (v := (-2)) C dX5_pass_7 (by decide) ?_
    subst hQ; exact j_iret C hr hk ((show f_X5_pass_r v f u k = (-2) from (if_pos c4)).symm) (by rw [show f_X5_pass_v v f u k = v from (if_pos c4), show f_X5_pass_f v f u k = f from (if_pos c4), show f_X5_pass_u v f u k = u from (if_pos c4)]) dX5_pass_9
noncomputable def f_X5_passesThen_x5 (v : Nat → Int32) (g : Nat → Int64) (y : Int32) (k : Int32) (i : Nat) : Int64 := (if lg_cmp ((oneM (pasM g i)) ((f_X5_row_r k) + 3).toNatClampNeg) (mosM g k i) ≤ 0 then mosM g k i else (oneM (pasM g i)) ((f_X5_row_r k) + 3).toNatClampNeg)
set_option maxRecDepth 100000 in
set_option maxHeartbeats 4000000 in
theorem m_X5_passesThen (l : Launch) (G : GG) (a nw th ps sl hd pd od : Nat) (v : Nat → Int32) (g : Nat → Int64) (y : Int32) (k : Int32) (h4 : vp_in k 4) (h8 : okR g) : CtL l yX5_passesThen cX5_passesThen 6 (some .long) (RM 4) G [.ref a, .int y, .int k] ([oM a nw th ps sl hd pd od v, aJ G th 456 g]) (mosM g k y.toNatClampNeg) ([oM a nw th ps sl hd pd od v, aJ G th 456 (pasM g y.toNatClampNeg)]) := by
  refine ct_L RX5 [(0, .ref a), (1, .int y), (2, .int k)] rfl (by decide +kernel) (Nat.le_of_ble_eq_true rfl) rfl ?_
  intro p e s m args below meth c A C hr hk hnm
  generalize hQ : (MQ below (PostL G A (mosM g k y.toNatClampNeg) ([oM a nw th ps sl hd pd od v, aJ G th 456 (pasM g y.toNatClampNeg)])) args s (RM 4).cells (RM 4).slots A) = Q
  refine j_lconst (v := 0) C dX5_passesThen_0 (by decide) ?_
  refine j_lstore_n C [(3, .long 0), (0, .ref a), (1, .int y), (2, .int k)] dX5_passesThen_1 (by decide) rfl ?_
  refine j_iconst (v := 0) C dX5_passesThen_2 (by decide) ?_
  refine j_istore C [(5, .int 0), (3, .long 0), (0, .ref a), (1, .int y), (2, .int k)] dX5_passesThen_3 (by decide) rfl ?_
  have L1 : ∀ (n i : Nat), i + n = y.toNatClampNeg → WJ p l e (RM 4) s m args below meth c G A 6 0 0 Q ([oM a nw th ps sl hd pd od v, aJ G th 456 (pasM g i)]) [(5, .int (nI i)), (3, .long (mosM g k i)), (0, .ref a), (1, .int y), (2, .int k)] 5 [] := by
    intro n
    induction n with
    | zero =>
      intro i hIN
      have hN : i = y.toNatClampNeg := by omega
      subst hN
      refine j_iload C dX5_passesThen_5 0 rfl ?_
      refine j_iload_n C dX5_passesThen_7 3 rfl ?_
      refine j_icmp_ge (tgt := 56) C dX5_passesThen_8 (by decide) (fun c8 => ?_) (fun h => absurd (le_cl y (cl_31 y)) h)
      refine j_lload_n C dX5_passesThen_56 1 rfl ?_
      subst hQ; exact j_lret C hr hk rfl (by rw [show (pasM g y.toNatClampNeg) = (pasM g y.toNatClampNeg) from rfl]) dX5_passesThen_57
    | succ n ih =>
      intro i hIN
      have hlt : i < y.toNatClampNeg := by omega
      refine j_iload C dX5_passesThen_5 0 rfl ?_
      refine j_iload_n C dX5_passesThen_7 3 rfl ?_
      refine j_icmp_ge (tgt := 56) C dX5_passesThen_8 (by decide) (fun h => absurd h (nle_cl hlt)) (fun c8 => ?_)
      refine j_aload_n C dX5_passesThen_11 2 rfl ?_
      refine j_get C kin5 rfl 0 rfl 1 (by decide) kw_490 rfl (v := .ref th) rfl dX5_passesThen_12 ?_
      refine j_callS_v (wc' := [aJ G th 456 (oneM (pasM g i))]) C (m_X5_passesOne l G th (pasM g i) (okR_pasM h8 i)) 1 (gS kw_605 kw_606 kw_7 kw_607) (by decide +kernel) ⟨(Nat.le_of_ble_eq_true rfl), (Nat.le_of_ble_eq_true rfl)⟩ rfl rfl (Nat.le_of_ble_eq_true rfl) dX5_passesThen_15 ⟨(Nat.le_of_ble_eq_true rfl), (Nat.le_of_ble_eq_true rfl)⟩ [oM a nw th ps sl hd pd od v] [aJ G th 456 (oneM (pasM g i)), oM a nw th ps sl hd pd od v] (perm_idx [1, 0] 2 rfl (by decide +kernel) rfl) rfl ?_
      refine j_aload_n C dX5_passesThen_18 2 rfl ?_
      refine j_get C kin5 rfl 1 rfl 1 (by decide) kw_490 rfl (v := .ref th) rfl dX5_passesThen_19 ?_
      refine j_iload_n C dX5_passesThen_22 4 rfl ?_
      refine j_pureS_i (r := f_X5_row_r k) C (m_X5_row l G k) 1 (gS kw_486 kw_487 kw_7 kw_488) (by decide +kernel) ⟨(Nat.le_of_ble_eq_true rfl), (Nat.le_of_ble_eq_true rfl)⟩ rfl rfl (Nat.le_of_ble_eq_true rfl) dX5_passesThen_23 ⟨(Nat.le_of_ble_eq_true rfl), (Nat.le_of_ble_eq_true rfl)⟩ ?_
      refine j_iconst (v := 3) C dX5_passesThen_26 (by decide) ?_
      refine j_iadd C dX5_passesThen_27 rfl ?_
      refine j_lald C 0 rfl (vin_row h4 (by decide)) (v := (oneM (pasM g i)) ((f_X5_row_r k) + 3).toNatClampNeg) rfl dX5_passesThen_28 ?_
      refine j_lload_n C dX5_passesThen_29 1 rfl ?_
      refine j_lcmp C dX5_passesThen_30 ?_
      have K49 : WJ p l e (RM 4) s m args below meth c G A 6 0 0 Q ([aJ G th 456 (oneM (pasM g i)), oM a nw th ps sl hd pd od v]) [(5, .int (nI i)), (3, .long (mosM g k i)), (0, .ref a), (1, .int y), (2, .int k)] 49 [.long (f_X5_passesThen_x5 v g y k i)] := by
        generalize hw0 : f_X5_passesThen_x5 v g y k i = w0
        refine j_lstore_n C [(3, .long w0), (5, .int (nI i)), (0, .ref a), (1, .int y), (2, .int k)] dX5_passesThen_49 (by decide) rfl ?_
        refine j_iinc (v := nI (i + 1)) C [(5, .int (nI (i + 1))), (3, .long w0), (0, .ref a), (1, .int y), (2, .int k)] dX5_passesThen_50 (k := 1) rfl (nI_1 i) (by decide) rfl ?_
        refine j_goto (tgt := 5) C dX5_passesThen_53 (by decide) ?_
        refine j_perm ([oM a nw th ps sl hd pd od v, aJ G th 456 (oneM (pasM g i))]) (perm_idx [1, 0] 2 rfl (by decide +kernel) rfl) ?_
        subst hw0; exact j_eq (by rw [show (pasM g (i + 1)) = oneM (pasM g i) from rfl]) (by rw [show mosM g k (i + 1) = (f_X5_passesThen_x5 v g y k i) from rfl]) rfl (ih (i + 1) (by omega))
      refine j_if_le (tgt := 48) C dX5_passesThen_31 (by decide) (fun c31 => ?_) (fun c31 => ?_)
      · refine j_lload_n C dX5_passesThen_48 1 rfl ?_
        exact j_eq rfl rfl (by rw [show f_X5_passesThen_x5 v g y k i = mosM g k i from (if_pos c31)]) K49
      · refine j_aload_n C dX5_passesThen_34 2 rfl ?_
        refine j_get C kin5 rfl 1 rfl 1 (by decide) kw_490 rfl (v := .ref th) rfl dX5_passesThen_35 ?_
        refine j_iload_n C dX5_passesThen_38 4 rfl ?_
        refine j_pureS_i (r := f_X5_row_r k) C (m_X5_row l G k) 1 (gS kw_486 kw_487 kw_7 kw_488) (by decide +kernel) ⟨(Nat.le_of_ble_eq_true rfl), (Nat.le_of_ble_eq_true rfl)⟩ rfl rfl (Nat.le_of_ble_eq_true rfl) dX5_passesThen_39 ⟨(Nat.le_of_ble_eq_true rfl), (Nat.le_of_ble_eq_true rfl)⟩ ?_
        refine j_iconst (v := 3) C dX5_passesThen_42 (by decide) ?_
        refine j_iadd C dX5_passesThen_43 rfl ?_
        refine j_lald C 0 rfl (vin_row h4 (by decide)) (v := (oneM (pasM g i)) ((f_X5_row_r k) + 3).toNatClampNeg) rfl dX5_passesThen_44 ?_
        refine j_goto (tgt := 49) C dX5_passesThen_45 (by decide) ?_
        exact j_eq rfl rfl (by rw [show f_X5_passesThen_x5 v g y k i = (oneM (pasM g i)) ((f_X5_row_r k) + 3).toNatClampNeg from (if_neg c31)]) K49
  exact j_eq (by rw [show (pasM g 0) = g from rfl]) (by rw [show nI 0 = 0 from rfl, show mosM g k 0 = 0 from rfl]) rfl (L1 y.toNatClampNeg 0 (by omega))
noncomputable def f_X5_loudIn_g (v : Nat → Int32) (f : Nat → Int64) (g : Nat → Int64) (k : Int32) (y : Int32) : (Nat → Int64) := (if f_X5_mayAsk_r k y = 0 then pasM (f_X5_tries_g v f g) y.toNatClampNeg else g)
noncomputable def f_X5_loudIn_r (v : Nat → Int32) (f : Nat → Int64) (g : Nat → Int64) (k : Int32) (y : Int32) : Int32 := (if f_X5_mayAsk_r k y = 0 then (((pasM (f_X5_tries_g v f g) y.toNatClampNeg) ((f_X5_row_r k) + 7).toNatClampNeg) - (f ((f_X5_row_r k) + 7).toNatClampNeg)).toInt32 else f_X5_mayAsk_r k y)
set_option maxRecDepth 100000 in
set_option maxHeartbeats 4000000 in
theorem m_X5_loudIn (l : Launch) (G : GG) (a nw th ps sl hd pd od : Nat) (v : Nat → Int32) (f : Nat → Int64) (g : Nat → Int64) (k : Int32) (y : Int32) (h8 : okR f) : CtI l yX5_loudIn cX5_loudIn 4 (some .int) (RM 5) G [.ref a, .int k, .int y] ([oM a nw th ps sl hd pd od v, aJ G nw 456 f, aJ G th 456 g]) (f_X5_loudIn_r v f g k y) ([oM a nw th ps sl hd pd od v, aJ G nw 456 f, aJ G th 456 (f_X5_loudIn_g v f g k y)]) := by
  refine ct_I RX5 [(0, .ref a), (1, .int k), (2, .int y)] rfl (by decide +kernel) (Nat.le_of_ble_eq_true rfl) rfl ?_
  intro p e s m args below meth c A C hr hk hnm
  generalize hQ : (MQ below (PostI G A (f_X5_loudIn_r v f g k y) ([oM a nw th ps sl hd pd od v, aJ G nw 456 f, aJ G th 456 (f_X5_loudIn_g v f g k y)])) args s (RM 5).cells (RM 5).slots A) = Q
  refine j_iload_n C dX5_loudIn_0 1 rfl ?_
  refine j_iload_n C dX5_loudIn_1 2 rfl ?_
  refine j_pureS_i (r := f_X5_mayAsk_r k y) C (m_X5_mayAsk l G k y) 2 (gS kw_677 kw_678 kw_7 kw_679) (by decide +kernel) ⟨(Nat.le_of_ble_eq_true rfl), (Nat.le_of_ble_eq_true rfl)⟩ rfl rfl (Nat.le_of_ble_eq_true rfl) dX5_loudIn_2 ⟨(Nat.le_of_ble_eq_true rfl), (Nat.le_of_ble_eq_true rfl)⟩ ?_
  refine j_istore_n C [(3, .int (f_X5_mayAsk_r k y)), (0, .ref a), (1, .int k), (2, .int y)] dX5_loudIn_5 (by decide) rfl ?_
  refine j_iload_n C dX5_loudIn_6 0 rfl ?_
  refine j_if_eq (tgt := 12) C dX5_loudIn_7 (by decide) (fun c7 => ?_) (fun c7 => ?_)
  · refine j_aload_n C dX5_loudIn_12 1 rfl ?_
    refine j_callV_v (wc' := [oM a nw th ps sl hd pd od v, aJ G nw 456 f, aJ G th 456 (f_X5_tries_g v f g)]) C (m_X5_tries l G a nw th ps sl hd pd od v f g) rfl 0 rfl 0 (gV kw_680 kw_681 kw_780 kw_7 kw_682) (by decide +kernel) ⟨(Nat.le_of_ble_eq_true rfl), (Nat.le_of_ble_eq_true rfl)⟩ rfl rfl (Nat.le_of_ble_eq_true rfl) dX5_loudIn_13 ⟨(Nat.le_of_ble_eq_true rfl), (Nat.le_of_ble_eq_true rfl)⟩ [] [oM a nw th ps sl hd pd od v, aJ G nw 456 f, aJ G th 456 (f_X5_tries_g v f g)] (perm_idx [0, 1, 2] 3 rfl (by decide +kernel) rfl) rfl ?_
    refine j_aload_n C dX5_loudIn_16 1 rfl ?_
    refine j_iload_n C dX5_loudIn_17 3 rfl ?_
    refine j_iload_n C dX5_loudIn_18 2 rfl ?_
    refine j_callV_l (r := mosM (f_X5_tries_g v f g) k y.toNatClampNeg) (wc' := [oM a nw th ps sl hd pd od v, aJ G th 456 (pasM (f_X5_tries_g v f g) y.toNatClampNeg)]) C (m_X5_passesThen l G a nw th ps sl hd pd od v (f_X5_tries_g v f g) y k (ask_drive c7) (okR_lay h8)) rfl 0 rfl 2 (gV kw_683 kw_684 kw_781 kw_7 kw_685) (by decide +kernel) ⟨(Nat.le_of_ble_eq_true rfl), (Nat.le_of_ble_eq_true rfl)⟩ rfl rfl (Nat.le_of_ble_eq_true rfl) dX5_loudIn_19 ⟨(Nat.le_of_ble_eq_true rfl), (Nat.le_of_ble_eq_true rfl)⟩ [aJ G nw 456 f] [oM a nw th ps sl hd pd od v, aJ G th 456 (pasM (f_X5_tries_g v f g) y.toNatClampNeg), aJ G nw 456 f] (perm_idx [0, 2, 1] 3 rfl (by decide +kernel) rfl) rfl ?_
    refine j_pop2_2 C dX5_loudIn_22 rfl ?_
    refine j_aload_n C dX5_loudIn_23 1 rfl ?_
    refine j_get C kin5 rfl 0 rfl 1 (by decide) kw_490 rfl (v := .ref th) rfl dX5_loudIn_24 ?_
    refine j_iload_n C dX5_loudIn_27 2 rfl ?_
    refine j_pureS_i (r := f_X5_row_r k) C (m_X5_row l G k) 1 (gS kw_486 kw_487 kw_7 kw_488) (by decide +kernel) ⟨(Nat.le_of_ble_eq_true rfl), (Nat.le_of_ble_eq_true rfl)⟩ rfl rfl (Nat.le_of_ble_eq_true rfl) dX5_loudIn_28 ⟨(Nat.le_of_ble_eq_true rfl), (Nat.le_of_ble_eq_true rfl)⟩ ?_
    refine j_bipush (v := 7) C dX5_loudIn_31 (by decide) ?_
    refine j_iadd C dX5_loudIn_33 rfl ?_
    refine j_lald C 1 rfl (vin_row (ask_drive c7) (by decide)) (v := (pasM (f_X5_tries_g v f g) y.toNatClampNeg) ((f_X5_row_r k) + 7).toNatClampNeg) rfl dX5_loudIn_34 ?_
    refine j_aload_n C dX5_loudIn_35 1 rfl ?_
    refine j_get C kin5 rfl 0 rfl 0 (by decide) kw_489 rfl (v := .ref nw) rfl dX5_loudIn_36 ?_
    refine j_iload_n C dX5_loudIn_39 2 rfl ?_
    refine j_pureS_i (r := f_X5_row_r k) C (m_X5_row l G k) 1 (gS kw_486 kw_487 kw_7 kw_488) (by decide +kernel) ⟨(Nat.le_of_ble_eq_true rfl), (Nat.le_of_ble_eq_true rfl)⟩ rfl rfl (Nat.le_of_ble_eq_true rfl) dX5_loudIn_40 ⟨(Nat.le_of_ble_eq_true rfl), (Nat.le_of_ble_eq_true rfl)⟩ ?_
    refine j_bipush (v := 7) C dX5_loudIn_43 (by decide) ?_
    refine j_iadd C dX5_loudIn_45 rfl ?_
    refine j_lald C 2 rfl (vin_row (ask_drive c7) (by decide)) (v := f ((f_X5_row_r k) + 7).toNatClampNeg) rfl dX5_loudIn_46 ?_
    refine j_lsub C dX5_loudIn_47 rfl ?_
    refine j_l2i C dX5_loudIn_48 rfl ?_
    refine j_perm ([oM a nw th ps sl hd pd od v, aJ G nw 456 f, aJ G th 456 (pasM (f_X5_tries_g v f g) y.toNatClampNeg)]) (perm_idx [0, 2, 1] 3 rfl (by decide +kernel) rfl) ?_
    subst hQ; exact j_iret C hr hk ((show f_X5_loudIn_r v f g k y = (((pasM (f_X5_tries_g v f g) y.toNatClampNeg) ((f_X5_row_r k) + 7).toNatClampNeg) - (f ((f_X5_row_r k) + 7).toNatClampNeg)).toInt32 from (if_pos c7)).symm) (by rw [show f_X5_loudIn_g v f g k y = pasM (f_X5_tries_g v f g) y.toNatClampNeg from (if_pos c7)]) dX5_loudIn_49
  · refine j_iload_n C dX5_loudIn_10 0 rfl ?_
    subst hQ; exact j_iret C hr hk ((show f_X5_loudIn_r v f g k y = f_X5_mayAsk_r k y from (if_neg c7)).symm) (by rw [show f_X5_loudIn_g v f g k y = g from (if_neg c7)]) dX5_loudIn_11
noncomputable def f_X5_freeIn_g (v : Nat → Int32) (f : Nat → Int64) (g : Nat → Int64) (k : Int32) (y : Int32) : (Nat → Int64) := (if f_X5_mayAsk_r k y = 0 then pasM (f_X5_tries_g v f g) y.toNatClampNeg else g)
noncomputable def f_X5_freeIn_r (v : Nat → Int32) (f : Nat → Int64) (g : Nat → Int64) (k : Int32) (y : Int32) : Int32 := (if f_X5_mayAsk_r k y = 0 then ((pasM (f_X5_tries_g v f g) y.toNatClampNeg) ((f_X5_row_r k) + 0).toNatClampNeg).toInt32 else f_X5_mayAsk_r k y)
set_option maxRecDepth 100000 in
set_option maxHeartbeats 4000000 in
theorem m_X5_freeIn (l : Launch) (G : GG) (a nw th ps sl hd pd od : Nat) (v : Nat → Int32) (f : Nat → Int64) (g : Nat → Int64) (k : Int32) (y : Int32) (h8 : okR f) : CtI l yX5_freeIn cX5_freeIn 4 (some .int) (RM 5) G [.ref a, .int k, .int y] ([oM a nw th ps sl hd pd od v, aJ G nw 456 f, aJ G th 456 g]) (f_X5_freeIn_r v f g k y) ([oM a nw th ps sl hd pd od v, aJ G nw 456 f, aJ G th 456 (f_X5_freeIn_g v f g k y)]) := by
  refine ct_I RX5 [(0, .ref a), (1, .int k), (2, .int y)] rfl (by decide +kernel) (Nat.le_of_ble_eq_true rfl) rfl ?_
  intro p e s m args below meth c A C hr hk hnm
  generalize hQ : (MQ below (PostI G A (f_X5_freeIn_r v f g k y) ([oM a nw th ps sl hd pd od v, aJ G nw 456 f, aJ G th 456 (f_X5_freeIn_g v f g k y)])) args s (RM 5).cells (RM 5).slots A) = Q
  refine j_iload_n C dX5_freeIn_0 1 rfl ?_
  refine j_iload_n C dX5_freeIn_1 2 rfl ?_
  refine j_pureS_i (r := f_X5_mayAsk_r k y) C (m_X5_mayAsk l G k y) 2 (gS kw_677 kw_678 kw_7 kw_679) (by decide +kernel) ⟨(Nat.le_of_ble_eq_true rfl), (Nat.le_of_ble_eq_true rfl)⟩ rfl rfl (Nat.le_of_ble_eq_true rfl) dX5_freeIn_2 ⟨(Nat.le_of_ble_eq_true rfl), (Nat.le_of_ble_eq_true rfl)⟩ ?_
  refine j_istore_n C [(3, .int (f_X5_mayAsk_r k y)), (0, .ref a), (1, .int k), (2, .int y)] dX5_freeIn_5 (by decide) rfl ?_
  refine j_iload_n C dX5_freeIn_6 0 rfl ?_
  refine j_if_eq (tgt := 12) C dX5_freeIn_7 (by decide) (fun c7 => ?_) (fun c7 => ?_)
  · refine j_aload_n C dX5_freeIn_12 1 rfl ?_
    refine j_callV_v (wc' := [oM a nw th ps sl hd pd od v, aJ G nw 456 f, aJ G th 456 (f_X5_tries_g v f g)]) C (m_X5_tries l G a nw th ps sl hd pd od v f g) rfl 0 rfl 0 (gV kw_680 kw_681 kw_780 kw_7 kw_682) (by decide +kernel) ⟨(Nat.le_of_ble_eq_true rfl), (Nat.le_of_ble_eq_true rfl)⟩ rfl rfl (Nat.le_of_ble_eq_true rfl) dX5_freeIn_13 ⟨(Nat.le_of_ble_eq_true rfl), (Nat.le_of_ble_eq_true rfl)⟩ [] [oM a nw th ps sl hd pd od v, aJ G nw 456 f, aJ G th 456 (f_X5_tries_g v f g)] (perm_idx [0, 1, 2] 3 rfl (by decide +kernel) rfl) rfl ?_
    refine j_aload_n C dX5_freeIn_16 1 rfl ?_
    refine j_iload_n C dX5_freeIn_17 3 rfl ?_
    refine j_iload_n C dX5_freeIn_18 2 rfl ?_
    refine j_callV_l (r := mosM (f_X5_tries_g v f g) k y.toNatClampNeg) (wc' := [oM a nw th ps sl hd pd od v, aJ G th 456 (pasM (f_X5_tries_g v f g) y.toNatClampNeg)]) C (m_X5_passesThen l G a nw th ps sl hd pd od v (f_X5_tries_g v f g) y k (ask_drive c7) (okR_lay h8)) rfl 0 rfl 2 (gV kw_683 kw_684 kw_781 kw_7 kw_685) (by decide +kernel) ⟨(Nat.le_of_ble_eq_true rfl), (Nat.le_of_ble_eq_true rfl)⟩ rfl rfl (Nat.le_of_ble_eq_true rfl) dX5_freeIn_19 ⟨(Nat.le_of_ble_eq_true rfl), (Nat.le_of_ble_eq_true rfl)⟩ [aJ G nw 456 f] [oM a nw th ps sl hd pd od v, aJ G th 456 (pasM (f_X5_tries_g v f g) y.toNatClampNeg), aJ G nw 456 f] (perm_idx [0, 2, 1] 3 rfl (by decide +kernel) rfl) rfl ?_
    refine j_pop2_2 C dX5_freeIn_22 rfl ?_
    refine j_aload_n C dX5_freeIn_23 1 rfl ?_
    refine j_get C kin5 rfl 0 rfl 1 (by decide) kw_490 rfl (v := .ref th) rfl dX5_freeIn_24 ?_
    refine j_iload_n C dX5_freeIn_27 2 rfl ?_
    refine j_pureS_i (r := f_X5_row_r k) C (m_X5_row l G k) 1 (gS kw_486 kw_487 kw_7 kw_488) (by decide +kernel) ⟨(Nat.le_of_ble_eq_true rfl), (Nat.le_of_ble_eq_true rfl)⟩ rfl rfl (Nat.le_of_ble_eq_true rfl) dX5_freeIn_28 ⟨(Nat.le_of_ble_eq_true rfl), (Nat.le_of_ble_eq_true rfl)⟩ ?_
    refine j_iconst (v := 0) C dX5_freeIn_31 (by decide) ?_
    refine j_iadd C dX5_freeIn_32 rfl ?_
    refine j_lald C 1 rfl (vin_row (ask_drive c7) (by decide)) (v := (pasM (f_X5_tries_g v f g) y.toNatClampNeg) ((f_X5_row_r k) + 0).toNatClampNeg) rfl dX5_freeIn_33 ?_
    refine j_l2i C dX5_freeIn_34 rfl ?_
    refine j_perm ([oM a nw th ps sl hd pd od v, aJ G nw 456 f, aJ G th 456 (pasM (f_X5_tries_g v f g) y.toNatClampNeg)]) (perm_idx [0, 2, 1] 3 rfl (by decide +kernel) rfl) ?_
    subst hQ; exact j_iret C hr hk ((show f_X5_freeIn_r v f g k y = ((pasM (f_X5_tries_g v f g) y.toNatClampNeg) ((f_X5_row_r k) + 0).toNatClampNeg).toInt32 from (if_pos c7)).symm) (by rw [show f_X5_freeIn_g v f g k y = pasM (f_X5_tries_g v f g) y.toNatClampNeg from (if_pos c7)]) dX5_freeIn_35
  · refine j_iload_n C dX5_freeIn_10 0 rfl ?_
    subst hQ; exact j_iret C hr hk ((show f_X5_freeIn_r v f g k y = f_X5_mayAsk_r k y from (if_neg c7)).symm) (by rw [show f_X5_freeIn_g v f g k y = g from (if_neg c7)]) dX5_freeIn_11
noncomputable def f_X5_mostHeld_g (v : Nat → Int32) (f : Nat → Int64) (g : Nat → Int64) (k : Int32) (y : Int32) : (Nat → Int64) := (if f_X5_mayAsk_r k y = 0 then pasM (f_X5_tries_g v f g) y.toNatClampNeg else g)
noncomputable def f_X5_mostHeld_r (v : Nat → Int32) (f : Nat → Int64) (g : Nat → Int64) (k : Int32) (y : Int32) : Int32 := (if f_X5_mayAsk_r k y = 0 then (mosM (f_X5_tries_g v f g) k y.toNatClampNeg).toInt32 else f_X5_mayAsk_r k y)
set_option maxRecDepth 100000 in
set_option maxHeartbeats 4000000 in
theorem m_X5_mostHeld (l : Launch) (G : GG) (a nw th ps sl hd pd od : Nat) (v : Nat → Int32) (f : Nat → Int64) (g : Nat → Int64) (k : Int32) (y : Int32) (h8 : okR f) : CtI l yX5_mostHeld cX5_mostHeld 4 (some .int) (RM 5) G [.ref a, .int k, .int y] ([oM a nw th ps sl hd pd od v, aJ G nw 456 f, aJ G th 456 g]) (f_X5_mostHeld_r v f g k y) ([oM a nw th ps sl hd pd od v, aJ G nw 456 f, aJ G th 456 (f_X5_mostHeld_g v f g k y)]) := by
  refine ct_I RX5 [(0, .ref a), (1, .int k), (2, .int y)] rfl (by decide +kernel) (Nat.le_of_ble_eq_true rfl) rfl ?_
  intro p e s m args below meth c A C hr hk hnm
  generalize hQ : (MQ below (PostI G A (f_X5_mostHeld_r v f g k y) ([oM a nw th ps sl hd pd od v, aJ G nw 456 f, aJ G th 456 (f_X5_mostHeld_g v f g k y)])) args s (RM 5).cells (RM 5).slots A) = Q
  refine j_iload_n C dX5_mostHeld_0 1 rfl ?_
  refine j_iload_n C dX5_mostHeld_1 2 rfl ?_
  refine j_pureS_i (r := f_X5_mayAsk_r k y) C (m_X5_mayAsk l G k y) 2 (gS kw_677 kw_678 kw_7 kw_679) (by decide +kernel) ⟨(Nat.le_of_ble_eq_true rfl), (Nat.le_of_ble_eq_true rfl)⟩ rfl rfl (Nat.le_of_ble_eq_true rfl) dX5_mostHeld_2 ⟨(Nat.le_of_ble_eq_true rfl), (Nat.le_of_ble_eq_true rfl)⟩ ?_
  refine j_istore_n C [(3, .int (f_X5_mayAsk_r k y)), (0, .ref a), (1, .int k), (2, .int y)] dX5_mostHeld_5 (by decide) rfl ?_
  refine j_iload_n C dX5_mostHeld_6 0 rfl ?_
  refine j_if_eq (tgt := 12) C dX5_mostHeld_7 (by decide) (fun c7 => ?_) (fun c7 => ?_)
  · refine j_aload_n C dX5_mostHeld_12 1 rfl ?_
    refine j_callV_v (wc' := [oM a nw th ps sl hd pd od v, aJ G nw 456 f, aJ G th 456 (f_X5_tries_g v f g)]) C (m_X5_tries l G a nw th ps sl hd pd od v f g) rfl 0 rfl 0 (gV kw_680 kw_681 kw_780 kw_7 kw_682) (by decide +kernel) ⟨(Nat.le_of_ble_eq_true rfl), (Nat.le_of_ble_eq_true rfl)⟩ rfl rfl (Nat.le_of_ble_eq_true rfl) dX5_mostHeld_13 ⟨(Nat.le_of_ble_eq_true rfl), (Nat.le_of_ble_eq_true rfl)⟩ [] [oM a nw th ps sl hd pd od v, aJ G nw 456 f, aJ G th 456 (f_X5_tries_g v f g)] (perm_idx [0, 1, 2] 3 rfl (by decide +kernel) rfl) rfl ?_
    refine j_aload_n C dX5_mostHeld_16 1 rfl ?_
    refine j_iload_n C dX5_mostHeld_17 3 rfl ?_
    refine j_iload_n C dX5_mostHeld_18 2 rfl ?_
    refine j_callV_l (r := mosM (f_X5_tries_g v f g) k y.toNatClampNeg) (wc' := [oM a nw th ps sl hd pd od v, aJ G th 456 (pasM (f_X5_tries_g v f g) y.toNatClampNeg)]) C (m_X5_passesThen l G a nw th ps sl hd pd od v (f_X5_tries_g v f g) y k (ask_drive c7) (okR_lay h8)) rfl 0 rfl 2 (gV kw_683 kw_684 kw_781 kw_7 kw_685) (by decide +kernel) ⟨(Nat.le_of_ble_eq_true rfl), (Nat.le_of_ble_eq_true rfl)⟩ rfl rfl (Nat.le_of_ble_eq_true rfl) dX5_mostHeld_19 ⟨(Nat.le_of_ble_eq_true rfl), (Nat.le_of_ble_eq_true rfl)⟩ [aJ G nw 456 f] [oM a nw th ps sl hd pd od v, aJ G th 456 (pasM (f_X5_tries_g v f g) y.toNatClampNeg), aJ G nw 456 f] (perm_idx [0, 2, 1] 3 rfl (by decide +kernel) rfl) rfl ?_
    refine j_l2i C dX5_mostHeld_22 rfl ?_
    refine j_perm ([oM a nw th ps sl hd pd od v, aJ G nw 456 f, aJ G th 456 (pasM (f_X5_tries_g v f g) y.toNatClampNeg)]) (perm_idx [0, 2, 1] 3 rfl (by decide +kernel) rfl) ?_
    subst hQ; exact j_iret C hr hk ((show f_X5_mostHeld_r v f g k y = (mosM (f_X5_tries_g v f g) k y.toNatClampNeg).toInt32 from (if_pos c7)).symm) (by rw [show f_X5_mostHeld_g v f g k y = pasM (f_X5_tries_g v f g) y.toNatClampNeg from (if_pos c7)]) dX5_mostHeld_23
  · refine j_iload_n C dX5_mostHeld_10 0 rfl ?_
    subst hQ; exact j_iret C hr hk ((show f_X5_mostHeld_r v f g k y = f_X5_mayAsk_r k y from (if_neg c7)).symm) (by rw [show f_X5_mostHeld_g v f g k y = g from (if_neg c7)]) dX5_mostHeld_11
