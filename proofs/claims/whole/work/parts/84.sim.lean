/-! THE SIMULATION: both states together, a step for each call -/
def LR (N : Int) (h : Nat → Int32) (sv : Nat → StV) (xp : StV) (zv : Nat → StV) (us w : Nat → Int32) (q : Nat → UInt16) (v : Nat → Int32) (f u s : Nat → Int64) (hd o : Nat → Int32) : Prop := RR xp f ∧ II xp ∧ (xp.1 2).toInt ≤ N ∧ HR h sv v u N ∧ SR zv us s hd N ∧ PR w q v o
section LAWREL
variable {N : Int} {h : Nat → Int32} {sv : Nat → StV} {xp : StV} {zv : Nat → StV} {us w : Nat → Int32} {q : Nat → UInt16} {v : Nat → Int32} {f u s : Nat → Int64} {hd o : Nat → Int32}
theorem LR.mono (L : LR N h sv xp zv us w q v f u s hd o) {N' : Int} (hN : N ≤ N') : LR N' h sv xp zv us w q v f u s hd o := ⟨L.1, L.2.1, Int.le_trans L.2.2.1 hN, L.2.2.2.1.mono hN, L.2.2.2.2.1.mono hN, L.2.2.2.2.2⟩
theorem PR.vext {v' : Nat → Int32} (P : PR w q v o) (e : v' 7 = v 7) : PR w q v' o := by
  obtain ⟨L, a, b, c, d⟩ := P
  exact ⟨L, a, b, e.trans c, d⟩
/-- a call that changes the station, and is recorded where it answers no error -/
theorem LR.rec (L : LR N h sv xp zv us w q v f u s hd o) {r may an : Int32} {X : StV} {F : Nat → Int64} (O : OP xp r X may f F an) {N' : Int} (hN : N ≤ N') (hX : (X.1 2).toInt ≤ N') : r = (if may = 0 then an else may) ∧ LR N' (f_X4_recorded_h h r) (f_X1_prepare_sv h sv xp) X zv us w q (if may = 0 then f_X5_records_v v f u else v) (if may = 0 then F else f) (if may = 0 then f_X5_records_u v f u else u) s hd o := by
  obtain ⟨R, I, hn, K, S, P⟩ := L
  unfold f_X4_recorded_h f_X4_recorded_v2
  rcases O with ⟨a, b, c⟩ | ⟨a, b, c, d, e⟩
  · have m0 : ¬ may = 0 := fun g => by rw [g] at a; exact absurd a (by decide)
    rw [if_neg m0, if_neg m0, if_neg m0, if_neg m0, b, if_pos a, c]
    exact ⟨rfl, R, I, Int.le_trans hn hN, (K.prep xp).mono hN, S.mono hN, P⟩
  · rw [if_pos a, if_pos a, if_pos a, if_pos a, if_neg (fun g => by have := lt_T.mp g; rw [T_0] at this; omega)]
    exact ⟨c, d, e, hX, (K.keep R I hn).mono hN, S.mono hN, P.vext (rec_oth _ _ _ (by decide))⟩
theorem LR.set (L : LR N h sv xp zv us w q v f u s hd o) (k y : Int32) : f_X4_set_r h sv xp k y = f_X5_set_r v f u k y ∧ LR N (f_X4_set_h h sv xp k y) (f_X4_set_sv h sv xp k y) (f_X4_set_xp h sv xp k y) zv us w q (f_X5_set_v v f u k y) (f_X5_set_f v f u k y) (f_X5_set_u v f u k y) s hd o := by
  have L' := L
  obtain ⟨R, I, hn, K, S, P⟩ := L'
  unfold f_X4_set_r f_X4_recorded_r f_X5_set_r f_X4_set_h f_X4_set_sv f_X4_set_xp f_X5_set_v f_X5_set_f f_X5_set_u
  rcases op_set R I k y with ⟨a, b, c⟩ | ⟨a1, a2, b, c, d, e⟩
  · have O : OP xp (f_X3_changeSetting_r xp k y) (f_X3_changeSetting_x xp k y) (-2) f f (-2) := .inl ⟨by decide, b, c⟩
    have T := L.rec O (Int.le_refl N) (by rw [c]; exact hn)
    rw [if_neg (by decide), if_neg (by decide), if_neg (by decide), if_neg (by decide)] at T
    by_cases c1 : f_X5_in_r k.toInt64 0 6 = 0
    · rw [if_pos c1, if_pos c1, if_pos c1, if_pos c1]
      exact T
    · have c2 : f_X5_isFor_r k y = 0 := Classical.byContradiction fun g => a ⟨c1, g⟩
      rw [if_neg c1, if_neg c1, if_neg c1, if_neg c1, if_pos c2, if_pos c2, if_pos c2, if_pos c2]
      exact T
  · rw [if_neg a1, if_neg a1, if_neg a1, if_neg a1, if_neg a2, if_neg a2, if_neg a2, if_neg a2]
    have T := L.rec (.inr ⟨rfl, b, c, d, e⟩ : OP xp (f_X3_changeSetting_r xp k y) (f_X3_changeSetting_x xp k y) 0 f (vp_updL f (5 + k).toNatClampNeg y.toInt64) (f (5 + k).toNatClampNeg).toInt32) (Int.le_refl N) (by rw [now_set]; exact hn)
    rw [if_pos rfl, if_pos rfl, if_pos rfl, if_pos rfl] at T
    exact T
theorem LR.stream (L : LR N h sv xp zv us w q v f u s hd o) (k y z : Int32) : f_X4_stream_r h sv xp k y z = f_X5_stream_r v f u k y z ∧ LR N (f_X4_stream_h h sv xp k y z) (f_X4_stream_sv h sv xp k y z) (f_X4_stream_xp h sv xp k y z) zv us w q (f_X5_stream_v v f u k y z) (f_X5_stream_f v f u k y z) (f_X5_stream_u v f u k y z) s hd o := by
  unfold f_X4_stream_r f_X4_recorded_r f_X5_stream_r f_X4_stream_h f_X4_stream_sv f_X4_stream_xp f_X5_stream_v f_X5_stream_f f_X5_stream_u
  exact L.rec (op_stream L.1 L.2.1 v (f_X5_records_v v f u) k y z) (Int.le_refl N) (by rw [now_stream]; exact L.2.2.1)
theorem LR.write (L : LR N h sv xp zv us w q v f u s hd o) (k y : Int32) : f_X4_write_r h sv xp k y = f_X5_write_r v f u k y ∧ LR N (f_X4_write_h h sv xp k y) (f_X4_write_sv h sv xp k y) (f_X4_write_xp h sv xp k y) zv us w q (f_X5_write_v v f u k y) (f_X5_write_f v f u k y) (f_X5_write_u v f u k y) s hd o := by
  unfold f_X4_write_r f_X4_recorded_r f_X5_write_r f_X4_write_h f_X4_write_sv f_X4_write_xp f_X5_write_v f_X5_write_f f_X5_write_u
  exact L.rec (op_write L.1 L.2.1 v (f_X5_records_v v f u) k y) (Int.le_refl N) (by rw [now_write]; exact L.2.2.1)
theorem LR.sell (L : LR N h sv xp zv us w q v f u s hd o) (k y : Int32) : f_X4_sell_r h sv xp k y = f_X5_sell_r v f u k y ∧ LR N (f_X4_sell_h h sv xp k y) (f_X4_sell_sv h sv xp k y) (f_X4_sell_xp h sv xp k y) zv us w q (f_X5_sell_v v f u k y) (f_X5_sell_f v f u k y) (f_X5_sell_u v f u k y) s hd o := by
  unfold f_X4_sell_r f_X4_recorded_r f_X5_sell_r f_X4_sell_h f_X4_sell_sv f_X4_sell_xp f_X5_sell_v f_X5_sell_f f_X5_sell_u
  exact L.rec (op_sell L.1 L.2.1 v (f_X5_records_v v f u) k y) (Int.le_refl N) (by rw [now_sell]; exact L.2.2.1)
theorem LR.give (L : LR N h sv xp zv us w q v f u s hd o) (k y : Int32) : f_X4_giveBack_r h sv xp k y = f_X5_giveBack_r v f u k y ∧ LR N (f_X4_giveBack_h h sv xp k y) (f_X4_giveBack_sv h sv xp k y) (f_X4_giveBack_xp h sv xp k y) zv us w q (f_X5_giveBack_v v f u k y) (f_X5_giveBack_f v f u k y) (f_X5_giveBack_u v f u k y) s hd o := by
  unfold f_X4_giveBack_r f_X4_recorded_r f_X5_giveBack_r f_X4_giveBack_h f_X4_giveBack_sv f_X4_giveBack_xp f_X5_giveBack_v f_X5_giveBack_f f_X5_giveBack_u
  exact L.rec (op_take L.1 L.2.1 v (f_X5_records_v v f u) k y) (Int.le_refl N) (by rw [now_take]; exact L.2.2.1)
theorem LR.pass (L : LR N h sv xp zv us w q v f u s hd o) (hb : N ≤ 12900000) (k : Int32) : f_X4_pass_r h sv xp k = f_X5_pass_r v f u k ∧ LR (N + 600) (f_X4_pass_h h sv xp k) (f_X4_pass_sv h sv xp k) (f_X4_pass_xp h sv xp k) zv us w q (f_X5_pass_v v f u k) (f_X5_pass_f v f u k) (f_X5_pass_u v f u k) s hd o := by
  have L' := L
  obtain ⟨R, I, hn, K, S, P⟩ := L'
  unfold f_X4_pass_r f_X4_recorded_r f_X5_pass_r f_X4_pass_h f_X4_pass_sv f_X4_pass_xp f_X5_pass_v f_X5_pass_f f_X5_pass_u
  rcases op_pass R I (by omega) k with ⟨a, b, c⟩ | ⟨a, b, c, d, e, g⟩
  · rw [if_pos a, if_pos a, if_pos a, if_pos a]
    have T := L.rec (.inl ⟨by decide, b, c⟩ : OP xp (f_X3_passMinutes_r xp k) (f_X3_passMinutes_x xp k) (-2) f f (-2)) (N' := N + 600) (by omega) (by rw [c]; omega)
    rw [if_neg (by decide), if_neg (by decide), if_neg (by decide), if_neg (by decide)] at T
    exact T
  · rw [if_neg a, if_neg a, if_neg a, if_neg a]
    have T := L.rec (.inr ⟨rfl, b, c, d, e⟩ : OP xp (f_X3_passMinutes_r xp k) (f_X3_passMinutes_x xp k) 0 f (pasM f k.toNatClampNeg) (pasM f k.toNatClampNeg 0).toInt32) (N' := N + 600) (by omega) (by omega)
    rw [if_pos rfl, if_pos rfl, if_pos rfl, if_pos rfl] at T
    exact T
theorem LR.h7 (L : LR N h sv xp zv us w q v f u s hd o) : vp_in (h 1) 7 ∧ vp_in (v 3) 7 := by
  obtain ⟨nx, sz, a, b, c, d, e, -⟩ := L.2.2.2.1
  rw [c, e]
  exact ⟨vp_in_nI (by omega) (by decide), vp_in_nI (by omega) (by decide)⟩
theorem LR.p7 (L : LR N h sv xp zv us w q v f u s hd o) : ¬ w 1 < 0 ∧ 0 ≤ (v 7).toInt ∧ (v 7).toInt ≤ 80 ∧ v 7 = w 1 := by
  obtain ⟨M, a, b, c, -⟩ := L.2.2.2.2.2
  rw [b, c, nI_T (by omega)]
  exact ⟨fun g => by have := lt_T.mp g; rw [nI_T (by omega), T_0] at this; omega, by omega, by omega, rfl⟩
theorem LR.ok (L : LR N h sv xp zv us w q v f u s hd o) : okR f := fun j hj => by
  have d := (L.2.1.dv hj).2.2.2.2.2.2.2.2.2.2.2.2.2.1
  have e := L.1.v hj (i := 8) (by decide)
  intro g
  rw [show 20 + 11 * j = 12 + 11 * j + 8 by omega, e, E_0, E_inj] at g
  rw [g, T_0] at d
  omega
theorem LR.t0 (L : LR N h sv xp zv us w q v f u s hd o) : ¬ xp.1 2 < 0 ∧ 0 ≤ (f 0).toInt ∧ (f 0).toInt < 2 ^ 31 ∧ (f 0).toInt < 9007199254740992 := by
  have n0 := L.2.1.n
  rw [L.1.t, Int32.toInt_toInt64]
  exact ⟨fun g => by have := lt_T.mp g; rw [T_0] at this; omega, by omega, by omega, by omega⟩
theorem LR.sums (L : LR N h sv xp zv us w q v f u s hd o) : (∀ d : Nat, d < 4 → 0 ≤ (xp.2.2.1 d).2.toInt ∧ (xp.2.2.1 d).2.toInt < 9007199254740992) ∧ ∀ d : Nat, d < 4 → 0 ≤ (f (22 + 11 * d)).toInt ∧ (f (22 + 11 * d)).toInt < 9007199254740992 := by
  have n0 := L.2.1.n
  have A : ∀ d : Nat, d < 4 → 0 ≤ (xp.2.2.1 d).2.toInt ∧ (xp.2.2.1 d).2.toInt < 9007199254740992 := fun d hd => by
    have := L.2.1.2 d hd
    omega
  exact ⟨A, fun d hd => by rw [L.1.z hd]; exact A d hd⟩
theorem LR.cnt (L : LR N h sv xp zv us w q v f u s hd o) (y : Int32) : f_X4_count_r h xp w y = f_X5_count_r v f y := by
  obtain ⟨nx, sz, a, b, c, d, e, -⟩ := L.2.2.2.1
  exact an_count L.1 (e.trans d.symm) L.p7.2.2.2 y
theorem LR.put (L : LR N h sv xp zv us w q v f u s hd o) (ch : Int64) : f_X4_put_r w q ch = f_X5_put_r v o ch ∧ LR N h sv xp zv us (f_X4_put_v w q ch) (f_X4_put_q w q ch) (f_X5_put_v v o ch) f u s hd (f_X5_put_o v o ch) := by
  obtain ⟨R, I, hn, K, S, P⟩ := L
  obtain ⟨a, b, c⟩ := op_put P ch
  exact ⟨a, R, I, hn, K.vext c, S, b⟩
theorem LR.wipe (L : LR N h sv xp zv us w q v f u s hd o) : f_X4_wipe_r w = f_X5_wipe_r v ∧ LR N h sv xp zv us (f_X4_wipe_v w) q (f_X5_wipe_v v) f u s hd o := by
  obtain ⟨R, I, hn, K, S, P⟩ := L
  obtain ⟨a, b⟩ := op_wipe P
  exact ⟨a, R, I, hn, K.vext rfl, S, b⟩
theorem LR.fault (L : LR N h sv xp zv us w q v f u s hd o) (z : Nat → Int32) : f_X4_fault_r w q = f_X5_fault_r v o z ∧ LR N h sv xp zv us (f_X4_fault_v w q) q (f_X5_fault_v v o z) f u s hd o := by
  obtain ⟨R, I, hn, K, S, P⟩ := L
  obtain ⟨a, b, c⟩ := op_fault z P
  exact ⟨a, R, I, hn, K.vext c, S, b⟩
theorem LR.carry (L : LR N h sv xp zv us w q v f u s hd o) (hb : N ≤ 12900000) (z : Nat → Int32) : f_X4_carryOut_r h sv xp w q = f_X5_carryOut_r v f u o z ∧ LR (N + 16800) (f_X4_carryOut_h h sv xp w q) (f_X4_carryOut_sv h sv xp w q) (f_X4_carryOut_xp h sv xp w q) zv us (f_X4_carryOut_v h sv xp w q) q (f_X5_carryOut_v v f u o z) (f_X5_carryOut_f v f u o z) (f_X5_carryOut_u v f u o z) s hd o := by
  obtain ⟨R, I, hn, K, S, P⟩ := L
  obtain ⟨a, b, c, d, e, g⟩ := op_carry R I hn hb K P z
  exact ⟨a, b, c, d, e.mono (by omega), S.mono (by omega), g⟩
theorem LR.undo (L : LR N h sv xp zv us w q v f u s hd o) : f_X4_undo_r h sv xp = f_X5_undo_r v f u ∧ LR N (f_X4_undo_h h sv xp) sv (f_X4_undo_xp h sv xp) zv us w q (f_X5_undo_v v f u) (f_X5_undo_f v f u) u s hd o := by
  obtain ⟨R, I, hn, K, S, P⟩ := L
  obtain ⟨a, b, c, d, e⟩ := K.undo R I hn
  refine ⟨a, b, c, d, e, S, P.vext ?_⟩
  unfold f_X5_undo_v
  split <;> rfl
theorem LR.save (L : LR N h sv xp zv us w q v f u s hd o) (k : Int32) : f_X4_save_r xp zv us k = f_X5_save_r v f s hd k ∧ LR N h sv xp (f_X4_save_zv xp zv us k) (f_X4_save_us xp zv us k) w q v f u (f_X5_save_z v f s hd k) (f_X5_save_w v f s hd k) o := by
  obtain ⟨R, I, hn, K, S, P⟩ := L
  obtain ⟨a, b⟩ := op_save R I hn S v k
  exact ⟨a, R, I, hn, K, b, P⟩
theorem LR.restore (L : LR N h sv xp zv us w q v f u s hd o) (k : Int32) : f_X4_restore_r h sv xp zv us k = f_X5_restore_r v f u s hd k ∧ LR N (f_X4_restore_h h sv xp zv us k) (f_X4_restore_sv h sv xp zv us k) (f_X4_restore_xp h sv xp zv us k) zv us w q (f_X5_restore_v v f u s hd k) (f_X5_restore_f v f u s hd k) (f_X5_restore_u v f u s hd k) s hd o := by
  obtain ⟨R, I, hn, K, S, P⟩ := L
  obtain ⟨a, b, c, d, e⟩ := op_restore R I hn S K k
  refine ⟨a, b, c, d, e, S, P.vext ?_⟩
  unfold f_X5_restore_v
  (repeat' split) <;> first | rfl | exact rec_oth _ _ _ (by decide)
end LAWREL
/-- the states that the constructors make -/
theorem LR_0 : LR 0 zI (fun _ => stv0) stv0 (fun _ => stv0) (fun _ => 0) zI (fun _ => 0) zI mv0 (fun _ => 0) (fun _ => 0) (fun _ => 0) (fun _ => 0) := by
  have D : DI dv0.1 (9999 + 20 * (stv0.1 2).toInt) (120 * (stv0.1 2).toInt) (stv0.1 2).toInt (stv0.1 2).toInt := by
    show DIx 60 0 0 0 0 0 0 0 1 0 _ _ _ _
    unfold DIx
    show _ ∧ _
    refine ⟨by decide, by decide, by decide, by decide, by decide, by decide, .inl rfl, by decide, by decide, by decide, by decide, by decide, by decide, by decide, by decide, by decide, by decide⟩
  have A0 : ∀ i : Nat, i < 5 → mv0 (0 + i) = (stv0.1 (i + 2)).toInt64 := by decide +kernel
  have A1 : ∀ i : Nat, i < 7 → mv0 (5 + i) = (stv0.2.1 i).toInt64 := by decide +kernel
  have A2 : ∀ d : Nat, d < 4 → ∀ i : Nat, i < 10 → mv0 (12 + 11 * d + i) = (dv0.1 i).toInt64 := by decide +kernel
  have A3 : ∀ d : Nat, d < 4 → ∀ i : Nat, i < 100 → mv0 (56 + 100 * d + i) = (hv0 i).toInt32.toInt64 := by decide +kernel
  have A4 : ∀ d : Nat, d < 4 → mv0 (22 + 11 * d) = dv0.2 := by decide +kernel
  have A5 : 0 ≤ dv0.2.toInt ∧ dv0.2.toInt ≤ 270000000 * (stv0.1 2).toInt := by decide +kernel
  have A6 : SI stv0.2.1 := by
    unfold SI
    decide +kernel
  have A7 : GI stv0.1 (4 * min (stv0.1 2).toInt 6060) (4 * (stv0.1 2).toInt) := by
    unfold GI
    decide +kernel
  exact ⟨⟨⟨A0, A1, A2, A3⟩, A4⟩, II.mk (by decide) A6 A7 (fun _ _ => D) (fun _ _ h _ => ⟨.inl rfl, fun _ => .inl rfl⟩) (fun _ _ => A5), by decide, ⟨0, 0, by decide, by decide, rfl, rfl, rfl, fun j hj => absurd hj (Nat.not_lt_zero j)⟩, fun j _ => ⟨rfl, fun h => absurd rfl h⟩, ⟨0, by decide, rfl, rfl, fun i hi => absurd hi (Nat.not_lt_zero i)⟩⟩
