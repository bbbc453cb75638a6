/-! THE SIMULATION: saved states -/
def SR (zv : Nat → StV) (us : Nat → Int32) (s : Nat → Int64) (w : Nat → Int32) (N : Int) : Prop := ∀ j : Nat, j < 2 → us j = w j ∧ (¬ us j = 0 → RR (zv j) (fun i => s (456 * j + i)) ∧ II (zv j) ∧ ((zv j).1 2).toInt ≤ N)
theorem SR.mono {zv : Nat → StV} {us w : Nat → Int32} {s : Nat → Int64} {N N' : Int} (H : SR zv us s w N) (hN : N ≤ N') : SR zv us s w N' := fun j hj => ⟨(H j hj).1, fun h => ⟨((H j hj).2 h).1, ((H j hj).2 h).2.1, Int.le_trans ((H j hj).2 h).2.2 hN⟩⟩
theorem slC (k : Int32) : (f_X4_isSlot_r k = 0 ∧ f_X5_in_r k.toInt64 0 1 = 0) ∨ (¬ f_X4_isSlot_r k = 0 ∧ ¬ f_X5_in_r k.toInt64 0 1 = 0 ∧ ∃ d : Nat, d < 2 ∧ k = nI d) := by
  have b := in_T k 0 1
  rw [show (0 : Int64).toInt = 0 by decide, show (1 : Int64).toInt = 1 by decide] at b
  have a : (¬ f_X4_isSlot_r k = 0) ↔ (0 ≤ k.toInt ∧ k.toInt ≤ 1) := by
    unfold f_X4_isSlot_r f_X4_isSlot_x1
    by_cases c0 : k < 0
    · rw [if_pos c0]
      have := lt_T.mp c0
      rw [T_0] at this
      exact ⟨fun h => absurd rfl h, fun h => by omega⟩
    · rw [if_neg c0]
      have h0 := le_T.mp (Int32.not_lt.mp c0)
      rw [T_0] at h0
      by_cases c1 : 2 ≤ k
      · rw [if_pos c1]
        have := le_T.mp c1
        rw [show (2 : Int32).toInt = 2 by decide] at this
        exact ⟨fun h => absurd rfl h, fun h => by omega⟩
      · rw [if_neg c1]
        have := lt_T.mp (Int32.not_le.mp c1)
        rw [show (2 : Int32).toInt = 2 by decide] at this
        exact ⟨fun _ => ⟨h0, by omega⟩, fun _ => by decide⟩
  by_cases c : 0 ≤ k.toInt ∧ k.toInt ≤ 1
  · exact .inr ⟨a.mpr c, b.mpr c, k.toInt.toNat, by omega, of_T c.1⟩
  · exact .inl ⟨Classical.byContradiction fun h => c (a.mp h), Classical.byContradiction fun h => c (b.mp h)⟩
theorem op_save {x : StV} {f s : Nat → Int64} {zv : Nat → StV} {us w : Nat → Int32} {N : Int} (R : RR x f) (I : II x) (hN : (x.1 2).toInt ≤ N) (H : SR zv us s w N) (v : Nat → Int32) (k : Int32) : f_X4_save_r x zv us k = f_X5_save_r v f s w k ∧ SR (f_X4_save_zv x zv us k) (f_X4_save_us x zv us k) (f_X5_save_z v f s w k) (f_X5_save_w v f s w k) N := by
  unfold f_X4_save_r f_X5_save_r f_X4_save_zv f_X4_save_us f_X5_save_z f_X5_save_w
  rcases slC k with ⟨a, b⟩ | ⟨a, b, d, hd, rfl⟩
  · rw [if_pos a, if_pos b, if_pos a, if_pos a, if_pos b, if_pos b]
    exact ⟨rfl, H⟩
  · rw [if_neg a, if_neg b, if_neg a, if_neg a, if_neg b, if_neg b, R.t, E_toInt32, T_456 (by omega), nI_clamp (n := d) (by omega)]
    refine ⟨rfl, fun j hj => ?_⟩
    by_cases c : j = d
    · subst c
      rw [updF_same]
      exact ⟨(show upd us j 1 j = 1 from if_pos rfl).trans (show upd w j 1 j = 1 from if_pos rfl).symm, fun _ => ⟨R.ext fun n hn => lay_in f s (by omega) n hn, I, hN⟩⟩
    · rw [updF_oth c, show upd us d 1 j = us j from if_neg c, show upd w d 1 j = w j from if_neg c]
      obtain ⟨h1, h2⟩ := H j hj
      refine ⟨h1, fun q => ⟨(h2 q).1.ext fun n hn => ?_, (h2 q).2⟩⟩
      rw [lay_out f s (by omega) (by omega)]
theorem op_restore {x : StV} {f u s : Nat → Int64} {sv zv : Nat → StV} {h v us w : Nat → Int32} {N : Int} (R : RR x f) (I : II x) (hN : (x.1 2).toInt ≤ N) (H : SR zv us s w N) (K : HR h sv v u N) (k : Int32) :
    f_X4_restore_r h sv x zv us k = f_X5_restore_r v f u s w k ∧ RR (f_X4_restore_xp h sv x zv us k) (f_X5_restore_f v f u s w k) ∧ II (f_X4_restore_xp h sv x zv us k) ∧ ((f_X4_restore_xp h sv x zv us k).1 2).toInt ≤ N ∧ HR (f_X4_restore_h h sv x zv us k) (f_X4_restore_sv h sv x zv us k) (f_X5_restore_v v f u s w k) (f_X5_restore_u v f u s w k) N := by
  unfold f_X4_restore_r f_X5_restore_r f_X4_restore_xp f_X5_restore_f f_X4_restore_h f_X4_restore_sv f_X5_restore_v f_X5_restore_u
  rcases slC k with ⟨a, b⟩ | ⟨a, b, d, hd, rfl⟩
  · rw [if_pos a, if_pos b, if_pos a, if_pos a, if_pos a, if_pos b, if_pos b, if_pos b]
    exact ⟨rfl, R, I, hN, K⟩
  · obtain ⟨h1, h2⟩ := H d hd
    rw [if_neg a, if_neg b, if_neg a, if_neg a, if_neg a, if_neg b, if_neg b, if_neg b, nI_clamp (n := d) (by omega), ← h1]
    by_cases c : us d = 0
    · rw [if_pos c, if_pos c, if_pos c, if_pos c, if_pos c, if_pos c, if_pos c, if_pos c]
      exact ⟨rfl, R, I, hN, K⟩
    · rw [if_neg c, if_neg c, if_neg c, if_neg c, if_neg c, if_neg c, if_neg c, if_neg c, T_456 (by omega)]
      obtain ⟨r1, r2, r3⟩ := h2 c
      have R' : RR (zv d) (lay s (nI (456 * d)) f 0 456) := r1.ext fun n hn => by
        rw [show (0 : Int32) = nI 0 from rfl, lay_at s f (456 * d) 0 456 (by omega) (by omega), if_pos (by omega)]
        exact congrArg s (by omega)
      have pos : ¬ (zv d).1 2 < 0 := fun g => by
        have := lt_T.mp g
        rw [T_0] at this
        have := r2.n
        omega
      refine ⟨?_, R', r2, r3, ?_⟩
      · rw [R'.t, E_toInt32]
        rfl
      · unfold f_X4_recorded_h f_X4_recorded_v2
        rw [if_neg pos]
        exact K.keep R I hN
