/-! THE SIMULATION: the four turns of a minute -/
noncomputable def on1 (x : StV) : StV := turnO x 0 1
noncomputable def on2 (x : StV) : StV := turnO (on1 x) 1 0
noncomputable def on3 (x : StV) : StV := turnO (on2 x) 2 3
noncomputable def on4 (x : StV) : StV := turnO (on3 x) 3 2
theorem tO_g (x : StV) (k e : Nat) : (turnO x k e).1 = f_X3_passMinuteOf_g x.1 x.2.1 (x.2.2.1 k) (x.2.2.2 k) (x.2.2.1 e) (x.2.2.2 e) := rfl
theorem tO_s (x : StV) (k e : Nat) : (turnO x k e).2.1 = x.2.1 := rfl
theorem tO_v (x : StV) {k e : Nat} (h : ¬ k = e) : (turnO x k e).2.2.1 k = f_X3_passMinuteOf_v x.1 x.2.1 (x.2.2.1 k) (x.2.2.2 k) (x.2.2.1 e) (x.2.2.2 e) := (updF_oth h).trans (updF_same _ _ _)
theorem tO_t (x : StV) (k e : Nat) : (turnO x k e).2.2.1 e = f_X3_passMinuteOf_tv x.1 x.2.1 (x.2.2.1 k) (x.2.2.2 k) (x.2.2.1 e) (x.2.2.2 e) := updF_same _ _ _
theorem tO_o (x : StV) {k e d : Nat} (h1 : ¬ d = k) (h2 : ¬ d = e) : (turnO x k e).2.2.1 d = x.2.2.1 d := (updF_oth h2).trans (updF_oth h1)
theorem tO_f (x : StV) (k e : Nat) : (turnO x k e).2.2.2 k = f_X3_passMinuteOf_f x.1 x.2.1 (x.2.2.1 k) (x.2.2.2 k) (x.2.2.1 e) (x.2.2.2 e) := updF_same _ _ _
theorem tO_h (x : StV) {k e d : Nat} (h1 : ¬ d = k) : (turnO x k e).2.2.2 d = x.2.2.2 d := updF_oth h1
theorem o1_g (x : StV) : (on1 x).1 = f_X3_passOneMinute_gq2 x := by
  rw [f_X3_passOneMinute_gq2_eq, on1, tO_g]
theorem o1_r (x : StV) : turnR x 0 1 = f_X3_passOneMinute_rq2 x := by
  rw [f_X3_passOneMinute_rq2_eq, turnR]
theorem o1_s (x : StV) : (on1 x).2.1 = x.2.1 := rfl
theorem o1_v0 (x : StV) : (on1 x).2.2.1 0 = f_X3_passOneMinute_vq2 x := by
  rw [f_X3_passOneMinute_vq2_eq, on1, tO_v _ (by decide)]
theorem o1_v1 (x : StV) : (on1 x).2.2.1 1 = f_X3_passOneMinute_tvq2 x := by
  rw [f_X3_passOneMinute_tvq2_eq, on1, tO_t]
theorem o1_v2 (x : StV) : (on1 x).2.2.1 2 = x.2.2.1 2 := (tO_o _ (by decide) (by decide))
theorem o1_v3 (x : StV) : (on1 x).2.2.1 3 = x.2.2.1 3 := (tO_o _ (by decide) (by decide))
theorem o1_h0 (x : StV) : (on1 x).2.2.2 0 = f_X3_passOneMinute_fq2 x := by
  rw [f_X3_passOneMinute_fq2_eq, on1, tO_f]
theorem o1_h1 (x : StV) : (on1 x).2.2.2 1 = x.2.2.2 1 := (tO_h _ (by decide))
theorem o1_h2 (x : StV) : (on1 x).2.2.2 2 = x.2.2.2 2 := (tO_h _ (by decide))
theorem o1_h3 (x : StV) : (on1 x).2.2.2 3 = x.2.2.2 3 := (tO_h _ (by decide))
theorem o2_g (x : StV) : (on2 x).1 = f_X3_passOneMinute_gq5 x := by
  rw [f_X3_passOneMinute_gq5_eq, on2, tO_g, o1_g, o1_s, o1_v1, o1_h1, o1_v0, o1_h0]
theorem o2_r (x : StV) : turnR (on1 x) 1 0 = f_X3_passOneMinute_rq5 x := by
  rw [f_X3_passOneMinute_rq5_eq, turnR, o1_g, o1_s, o1_v1, o1_h1, o1_v0, o1_h0]
theorem o2_s (x : StV) : (on2 x).2.1 = x.2.1 := rfl
theorem o2_v0 (x : StV) : (on2 x).2.2.1 0 = f_X3_passOneMinute_tvq5 x := by
  rw [f_X3_passOneMinute_tvq5_eq, on2, tO_t, o1_g, o1_s, o1_v1, o1_h1, o1_v0, o1_h0]
theorem o2_v1 (x : StV) : (on2 x).2.2.1 1 = f_X3_passOneMinute_vq5 x := by
  rw [f_X3_passOneMinute_vq5_eq, on2, tO_v _ (by decide), o1_g, o1_s, o1_v1, o1_h1, o1_v0, o1_h0]
theorem o2_v2 (x : StV) : (on2 x).2.2.1 2 = x.2.2.1 2 := (tO_o _ (by decide) (by decide)).trans (o1_v2 x)
theorem o2_v3 (x : StV) : (on2 x).2.2.1 3 = x.2.2.1 3 := (tO_o _ (by decide) (by decide)).trans (o1_v3 x)
theorem o2_h0 (x : StV) : (on2 x).2.2.2 0 = f_X3_passOneMinute_fq2 x := (tO_h _ (by decide)).trans (o1_h0 x)
theorem o2_h1 (x : StV) : (on2 x).2.2.2 1 = f_X3_passOneMinute_fq5 x := by
  rw [f_X3_passOneMinute_fq5_eq, on2, tO_f, o1_g, o1_s, o1_v1, o1_h1, o1_v0, o1_h0]
theorem o2_h2 (x : StV) : (on2 x).2.2.2 2 = x.2.2.2 2 := (tO_h _ (by decide)).trans (o1_h2 x)
theorem o2_h3 (x : StV) : (on2 x).2.2.2 3 = x.2.2.2 3 := (tO_h _ (by decide)).trans (o1_h3 x)
theorem o3_g (x : StV) : (on3 x).1 = f_X3_passOneMinute_gq8 x := by
  rw [f_X3_passOneMinute_gq8_eq, on3, tO_g, o2_g, o2_s, o2_v2, o2_h2, o2_v3, o2_h3]
theorem o3_r (x : StV) : turnR (on2 x) 2 3 = f_X3_passOneMinute_rq8 x := by
  rw [f_X3_passOneMinute_rq8_eq, turnR, o2_g, o2_s, o2_v2, o2_h2, o2_v3, o2_h3]
theorem o3_s (x : StV) : (on3 x).2.1 = x.2.1 := rfl
theorem o3_v0 (x : StV) : (on3 x).2.2.1 0 = f_X3_passOneMinute_tvq5 x := (tO_o _ (by decide) (by decide)).trans (o2_v0 x)
theorem o3_v1 (x : StV) : (on3 x).2.2.1 1 = f_X3_passOneMinute_vq5 x := (tO_o _ (by decide) (by decide)).trans (o2_v1 x)
theorem o3_v2 (x : StV) : (on3 x).2.2.1 2 = f_X3_passOneMinute_vq8 x := by
  rw [f_X3_passOneMinute_vq8_eq, on3, tO_v _ (by decide), o2_g, o2_s, o2_v2, o2_h2, o2_v3, o2_h3]
theorem o3_v3 (x : StV) : (on3 x).2.2.1 3 = f_X3_passOneMinute_tvq8 x := by
  rw [f_X3_passOneMinute_tvq8_eq, on3, tO_t, o2_g, o2_s, o2_v2, o2_h2, o2_v3, o2_h3]
theorem o3_h0 (x : StV) : (on3 x).2.2.2 0 = f_X3_passOneMinute_fq2 x := (tO_h _ (by decide)).trans (o2_h0 x)
theorem o3_h1 (x : StV) : (on3 x).2.2.2 1 = f_X3_passOneMinute_fq5 x := (tO_h _ (by decide)).trans (o2_h1 x)
theorem o3_h2 (x : StV) : (on3 x).2.2.2 2 = f_X3_passOneMinute_fq8 x := by
  rw [f_X3_passOneMinute_fq8_eq, on3, tO_f, o2_g, o2_s, o2_v2, o2_h2, o2_v3, o2_h3]
theorem o3_h3 (x : StV) : (on3 x).2.2.2 3 = x.2.2.2 3 := (tO_h _ (by decide)).trans (o2_h3 x)
theorem o4_g (x : StV) : (on4 x).1 = f_X3_passOneMinute_gq11 x := by
  rw [f_X3_passOneMinute_gq11_eq, on4, tO_g, o3_g, o3_s, o3_v3, o3_h3, o3_v2, o3_h2]
theorem o4_r (x : StV) : turnR (on3 x) 3 2 = f_X3_passOneMinute_rq11 x := by
  rw [f_X3_passOneMinute_rq11_eq, turnR, o3_g, o3_s, o3_v3, o3_h3, o3_v2, o3_h2]
theorem o4_s (x : StV) : (on4 x).2.1 = x.2.1 := rfl
theorem o4_v0 (x : StV) : (on4 x).2.2.1 0 = f_X3_passOneMinute_tvq5 x := (tO_o _ (by decide) (by decide)).trans (o3_v0 x)
theorem o4_v1 (x : StV) : (on4 x).2.2.1 1 = f_X3_passOneMinute_vq5 x := (tO_o _ (by decide) (by decide)).trans (o3_v1 x)
theorem o4_v2 (x : StV) : (on4 x).2.2.1 2 = f_X3_passOneMinute_tvq11 x := by
  rw [f_X3_passOneMinute_tvq11_eq, on4, tO_t, o3_g, o3_s, o3_v3, o3_h3, o3_v2, o3_h2]
theorem o4_v3 (x : StV) : (on4 x).2.2.1 3 = f_X3_passOneMinute_vq11 x := by
  rw [f_X3_passOneMinute_vq11_eq, on4, tO_v _ (by decide), o3_g, o3_s, o3_v3, o3_h3, o3_v2, o3_h2]
theorem o4_h0 (x : StV) : (on4 x).2.2.2 0 = f_X3_passOneMinute_fq2 x := (tO_h _ (by decide)).trans (o3_h0 x)
theorem o4_h1 (x : StV) : (on4 x).2.2.2 1 = f_X3_passOneMinute_fq5 x := (tO_h _ (by decide)).trans (o3_h1 x)
theorem o4_h2 (x : StV) : (on4 x).2.2.2 2 = f_X3_passOneMinute_fq8 x := (tO_h _ (by decide)).trans (o3_h2 x)
theorem o4_h3 (x : StV) : (on4 x).2.2.2 3 = f_X3_passOneMinute_fq11 x := by
  rw [f_X3_passOneMinute_fq11_eq, on4, tO_f, o3_g, o3_s, o3_v3, o3_h3, o3_v2, o3_h2]
theorem one_g (x : StV) : (passOne x).1 = upd (on4 x).1 2 ((on4 x).1 2 + 1) := by
  rw [o4_g]
  exact f_X3_passOneMinute_g_eq x
theorem all4 {P : Nat → Prop} (h0 : P 0) (h1 : P 1) (h2 : P 2) (h3 : P 3) : ∀ d : Nat, d < 4 → P d := fun d hd => by
  have : d = 0 ∨ d = 1 ∨ d = 2 ∨ d = 3 := by omega
  rcases this with h | h | h | h <;> subst h <;> assumption
theorem one_v (x : StV) : ∀ d : Nat, d < 4 → (passOne x).2.2.1 d = (on4 x).2.2.1 d := all4 ((f_X3_passOneMinute_v0_eq x).trans (o4_v0 x).symm) ((f_X3_passOneMinute_v1_eq x).trans (o4_v1 x).symm) ((f_X3_passOneMinute_v2_eq x).trans (o4_v2 x).symm) ((f_X3_passOneMinute_v3_eq x).trans (o4_v3 x).symm)
theorem one_h (x : StV) : ∀ d : Nat, d < 4 → (passOne x).2.2.2 d = (on4 x).2.2.2 d := all4 ((f_X3_passOneMinute_f0_eq x).trans (o4_h0 x).symm) ((f_X3_passOneMinute_f1_eq x).trans (o4_h1 x).symm) ((f_X3_passOneMinute_f2_eq x).trans (o4_h2 x).symm) ((f_X3_passOneMinute_f3_eq x).trans (o4_h3 x).symm)
theorem one_r (x : StV) : (passOneR x = 0) ↔ (turnR x 0 1 = 0 ∧ turnR (on1 x) 1 0 = 0 ∧ turnR (on2 x) 2 3 = 0 ∧ turnR (on3 x) 3 2 = 0) := by
  rw [o1_r, o2_r, o3_r, o4_r]
  unfold passOneR
  rw [f_X3_passOneMinute_r_eq, f_X3_passOneMinute_x12_eq, f_X3_passOneMinute_x9_eq, f_X3_passOneMinute_x6_eq, f_X3_passOneMinute_x3_eq]
  by_cases a : f_X3_passOneMinute_rq11 x = 0
  · rw [if_pos a]
    by_cases b : f_X3_passOneMinute_rq8 x = 0
    · rw [if_pos b]
      by_cases c : f_X3_passOneMinute_rq5 x = 0
      · rw [if_pos c]
        by_cases d : f_X3_passOneMinute_rq2 x = 0
        · rw [if_pos d]
          exact ⟨fun _ => ⟨d, c, b, a⟩, fun _ => rfl⟩
        · rw [if_neg d]
          exact ⟨fun h => absurd h (by decide), fun h => absurd h.1 d⟩
      · rw [if_neg c]
        exact ⟨fun h => absurd h (by decide), fun h => absurd h.2.1 c⟩
    · rw [if_neg b]
      exact ⟨fun h => absurd h (by decide), fun h => absurd h.2.2.1 b⟩
  · rw [if_neg a]
    exact ⟨fun h => absurd h (by decide), fun h => absurd h.2.2.2 a⟩
/-- the sums, added behind the four turns -/
theorem sumA_at (f : Nat → Int64) : ∀ i : Nat, i ≤ 4 → (∀ j : Nat, j < i → sumA f i (22 + 11 * j) = oneA f 4 (22 + 11 * j) + oneA f 4 (15 + 11 * j)) ∧ ∀ n : Nat, (∀ j : Nat, j < i → ¬ n = 22 + 11 * j) → sumA f i n = oneA f 4 n
  | 0, _ => ⟨fun j hj => absurd hj (by omega), fun _ _ => rfl⟩
  | i + 1, hi => by
    obtain ⟨h1, h2⟩ := sumA_at f i (by omega)
    have p10 : (f_X5_row_r (nI i) + 10).toNatClampNeg = 22 + 11 * i := by
      rw [rw_cl (vp_in_nI (show i < 4 by omega) (by decide)) (by decide), nI_clamp (by omega), show (10 : Int32).toNatClampNeg = 10 by decide]
      omega
    have p3 : (f_X5_row_r (nI i) + 3).toNatClampNeg = 15 + 11 * i := by
      rw [rw_cl (vp_in_nI (show i < 4 by omega) (by decide)) (by decide), nI_clamp (by omega), show (3 : Int32).toNatClampNeg = 3 by decide]
      omega
    have e : sumA f (i + 1) = vp_updL (sumA f i) (22 + 11 * i) (sumA f i (22 + 11 * i) + sumA f i (15 + 11 * i)) := by
      rw [← p10, ← p3]
      rfl
    rw [e]
    refine ⟨fun j hj => ?_, fun n hn => ?_⟩
    · by_cases z : j = i
      · subst z
        rw [show vp_updL (sumA f j) (22 + 11 * j) (sumA f j (22 + 11 * j) + sumA f j (15 + 11 * j)) (22 + 11 * j) = sumA f j (22 + 11 * j) + sumA f j (15 + 11 * j) from if_pos rfl, h2 _ (fun q hq => by omega), h2 _ (fun q hq => by omega)]
      · rw [show vp_updL (sumA f i) (22 + 11 * i) (sumA f i (22 + 11 * i) + sumA f i (15 + 11 * i)) (22 + 11 * j) = sumA f i (22 + 11 * j) from if_neg (by omega)]
        exact h1 j (by omega)
    · rw [show vp_updL (sumA f i) (22 + 11 * i) (sumA f i (22 + 11 * i) + sumA f i (15 + 11 * i)) n = sumA f i n from if_neg (hn i (by omega))]
      exact h2 n fun j hj => hn j (by omega)
