/-! THE SIMULATION: signs that are put -/
theorem u_and255 (y : UInt64) : (y &&& 255).toNat = y.toNat % 256 := by
  rw [UInt64.toNat_and]
  exact Nat.and_two_pow_sub_one_eq_mod y.toNat 8
theorem i_and255 (y : UInt64) : y.toInt64 &&& 255 = (nI (y.toNat % 256)).toInt64 := by
  have e : y.toInt64 &&& 255 = (y &&& 255).toInt64 := rfl
  have l := u_and255 y
  apply Int64.toInt_inj.mp
  rw [e, Int32.toInt_toInt64, nI_T (by omega)]
  show (y &&& 255).toBitVec.toInt = _
  have t : (y &&& 255).toBitVec.toNat = y.toNat % 256 := l
  rw [BitVec.toInt_eq_toNat_of_lt (by rw [t]; omega), t]
theorem bit255 (i : Nat) (hi : 8 ≤ i) : (255#64).getLsbD i = false := by
  show Nat.testBit (255 % 2 ^ 64) i = false
  apply Nat.testBit_lt_two_pow
  have : 2 ^ 8 ≤ 2 ^ i := Nat.pow_le_pow_right (by decide) hi
  omega
theorem b_shift (x : BitVec 64) {n : Nat} (hn : n ≤ 56) : x.sshiftRight n &&& 255#64 = x >>> n &&& 255#64 := by
  apply BitVec.eq_of_getLsbD_eq
  intro i hi
  rw [BitVec.getLsbD_and, BitVec.getLsbD_and]
  by_cases c : i < 8
  · rw [BitVec.getLsbD_sshiftRight, BitVec.getLsbD_ushiftRight, if_pos (by omega)]
    simp only [show decide (64 ≤ i) = false from decide_eq_false (by omega), Bool.not_false, Bool.true_and]
  · rw [bit255 i (by omega), Bool.and_false, Bool.and_false]
/-- the byte k of a number -/
def byt (ch : Int64) (k : Nat) : Nat := ch.toUInt64.toNat / 256 ^ k % 256
theorem byt_lt (ch : Int64) (k : Nat) : byt ch k < 256 := Nat.mod_lt _ (by decide)
theorem i_shift (ch : Int64) {n : Nat} (hn : n ≤ 56) (s : Int64) (hs : s.toBitVec.smod 64 = BitVec.ofNat 64 n) : ch >>> s &&& 255 = (ch.toUInt64 >>> UInt64.ofNat n).toInt64 &&& 255 := by
  apply Int64.toBitVec_inj.mp
  rw [Int64.toBitVec_and, Int64.toBitVec_and, Int64.toBitVec_shiftRight, hs]
  have t : (BitVec.ofNat 64 n).toNat = n := by
    rw [BitVec.toNat_ofNat]
    omega
  have l : ch.toBitVec.sshiftRight' (BitVec.ofNat 64 n) = ch.toBitVec.sshiftRight n := by
    unfold BitVec.sshiftRight'
    rw [t]
  have r : (ch.toUInt64 >>> UInt64.ofNat n).toInt64.toBitVec = ch.toBitVec >>> n := by
    show (ch.toUInt64 >>> UInt64.ofNat n).toBitVec = _
    rw [UInt64.toBitVec_shiftRight]
    show ch.toBitVec >>> ((BitVec.ofNat 64 n) % 64) = _
    have t2 : ((BitVec.ofNat 64 n) % 64).toNat = n := by
      rw [BitVec.toNat_umod, t]
      show n % 64 = n
      omega
    show ch.toBitVec >>> ((BitVec.ofNat 64 n) % 64).toNat = _
    rw [t2]
  rw [l, r]
  exact b_shift _ hn
theorem u_shift (c : UInt64) {n : Nat} (hn : n ≤ 56) : (c >>> UInt64.ofNat n).toNat = c.toNat / 2 ^ n := by
  rw [UInt64.toNat_shiftRight]
  have : (UInt64.ofNat n).toNat = n := by
    show n % 2 ^ 64 = n
    omega
  rw [this, Nat.mod_eq_of_lt (by omega), Nat.shiftRight_eq_div_pow]
theorem all8 {P : Nat → Prop} (h0 : P 0) (h1 : P 1) (h2 : P 2) (h3 : P 3) (h4 : P 4) (h5 : P 5) (h6 : P 6) (h7 : P 7) : ∀ k : Nat, k < 8 → P k := fun k hk => by
  have : k = 0 ∨ k = 1 ∨ k = 2 ∨ k = 3 ∨ k = 4 ∨ k = 5 ∨ k = 6 ∨ k = 7 := by omega
  rcases this with h | h | h | h | h | h | h | h <;> subst h <;> assumption
theorem byte_n (ch : Int64) : ∀ k : Nat, k < 8 → f_X5_byteOf_r ch (nI k) = nI (byt ch k) := by
  have A : ∀ (k n : Nat) (s : Int64), n ≤ 56 → s.toBitVec.smod 64 = BitVec.ofNat 64 n → (8 * nI k).toInt64 &&& 63 = s → 2 ^ n = 256 ^ k → f_X5_byteOf_r ch (nI k) = nI (byt ch k) := fun k n s hn hs e p => by
    unfold f_X5_byteOf_r byt
    rw [e, i_shift ch hn s hs, i_and255, E_toInt32, u_shift _ hn, p]
  exact all8 (A 0 0 0 (by decide) (by decide) (by decide) (by decide)) (A 1 8 8 (by decide) (by decide) (by decide) (by decide)) (A 2 16 16 (by decide) (by decide) (by decide) (by decide)) (A 3 24 24 (by decide) (by decide) (by decide) (by decide)) (A 4 32 32 (by decide) (by decide) (by decide) (by decide)) (A 5 40 40 (by decide) (by decide) (by decide) (by decide)) (A 6 48 48 (by decide) (by decide) (by decide) (by decide)) (A 7 56 56 (by decide) (by decide) (by decide) (by decide))
theorem small_c : ∀ b : Fin 256, ((nI b.val).toUInt32 % 65536).toInt32 = nI b.val ∧ ((nI b.val).toUInt32.toUInt16).toUInt32.toInt32 = nI b.val := by decide +kernel
theorem sign_n (ch : Int64) : ∀ k : Nat, k < 8 → signAt ch k = nI (byt ch k) := by
  have A : ∀ (k n : Nat), n ≤ 56 → ((8 * nI k).toInt64.toUInt64 &&& Int64.toUInt64 63) = UInt64.ofNat n → 2 ^ n = 256 ^ k → signAt ch k = nI (byt ch k) := fun k n hn e p => by
    unfold signAt
    rw [e, i_and255, E_toInt32, u_shift _ hn, p]
    exact (small_c ⟨byt ch k, byt_lt ch k⟩).1
  exact all8 (A 0 0 (by decide) (by decide) (by decide)) (A 1 8 (by decide) (by decide) (by decide)) (A 2 16 (by decide) (by decide) (by decide)) (A 3 24 (by decide) (by decide) (by decide)) (A 4 32 (by decide) (by decide) (by decide)) (A 5 40 (by decide) (by decide) (by decide)) (A 6 48 (by decide) (by decide) (by decide)) (A 7 56 (by decide) (by decide) (by decide))
theorem nJ_lt {a b : Nat} (ha : a < 2000000000) (hb : b < 2000000000) : (nI a < nI b) ↔ a < b := by
  rw [lt_T, nI_T (by omega), nI_T (by omega)]
  omega
theorem nJ_le {a b : Nat} (ha : a < 2000000000) (hb : b < 2000000000) : (nI a ≤ nI b) ↔ a ≤ b := by
  rw [le_T, nI_T (by omega), nI_T (by omega)]
  omega
theorem nJ_eq {a b : Nat} (ha : a < 2000000000) (hb : b < 2000000000) : (nI a = nI b) ↔ a = b := by
  rw [eq_T, nI_T (by omega), nI_T (by omega)]
  omega
theorem pow_step (c k : Nat) : c / 256 ^ k = 256 * (c / 256 ^ (k + 1)) + c / 256 ^ k % 256 := by
  have e : c / 256 ^ (k + 1) = c / 256 ^ k / 256 := by rw [Nat.pow_succ, Nat.div_div_eq_div_mul]
  rw [e]
  exact (Nat.div_add_mod _ _).symm
theorem zer_iff (ch : Int64) : ∀ n k : Nat, n + k = 8 → (zerM ch n k = 0 ↔ ¬ ch.toUInt64.toNat / 256 ^ k = 0)
  | 0, k, h => by
    have : ch.toUInt64.toNat / 256 ^ k = 0 := by
      rw [show k = 8 by omega]
      have := ch.toUInt64.toNat_lt
      exact Nat.div_eq_of_lt (by omega)
    exact ⟨fun z => absurd z (by show ¬ (1 : Int32) = 0; decide), fun z => absurd this z⟩
  | n + 1, k, h => by
    have st := pow_step ch.toUInt64.toNat k
    have b : f_X5_byteOf_r ch (nI k) = nI (byt ch k) := byte_n ch k (by omega)
    have ih := zer_iff ch n (k + 1) (by omega)
    have bl := byt_lt ch k
    unfold zerM
    rw [b]
    by_cases c : byt ch k = 0
    · rw [if_pos (by rw [c]; rfl), ih]
      have c' : ch.toUInt64.toNat / 256 ^ k % 256 = 0 := c
      omega
    · rw [if_neg (fun z => c ((nJ_eq (by omega) (by decide)).mp (z.trans (show (0 : Int32) = nI 0 from rfl))))]
      have c' : ¬ ch.toUInt64.toNat / 256 ^ k % 256 = 0 := c
      exact ⟨fun _ => by omega, fun _ => rfl⟩
theorem c33 {a : Nat} (ha : a < 256) : (lg_cmp (nI a).toInt64 33 < 0) ↔ a < 33 := by
  have e := Ec_lt (x := nI a) (y := 33)
  rw [show (33 : Int32).toInt64 = 33 by decide] at e
  exact e.trans (nJ_lt (b := 33) (by omega) (by decide))
theorem c126 {a : Nat} (ha : a < 256) : (lg_cmp (nI a).toInt64 126 ≤ 0) ↔ a ≤ 126 := by
  have e := Ec_le (x := nI a) (y := 126)
  rw [show (126 : Int32).toInt64 = 126 by decide] at e
  exact e.trans (nJ_le (b := 126) (by omega) (by decide))
/-- both count the same signs; where the class says 0 the model refuses -/
theorem put_n (ch : Int64) : ∀ (n i : Nat) (x : Int64), n + i = 8 → x.toUInt64.toNat = ch.toUInt64.toNat / 256 ^ i → (sgnF n x i = 0 ∧ tolM ch n i = -2) ∨ ∃ j : Nat, 1 ≤ j ∧ j ≤ 8 ∧ sgnF n x i = nI j ∧ tolM ch n i = nI j
  | 0, i, x, h, _ => by
    have e : i = 8 := by omega
    subst e
    refine .inr ⟨8, by decide, by decide, rfl, ?_⟩
    show finM ch 8 = nI 8
    unfold finM
    rw [if_neg (show ¬ zerM ch (8 - 8) 8 = 0 from show ¬ (1 : Int32) = 0 by decide), if_neg (by decide)]
  | n + 1, i, x, h, hx => by
    have bl := byt_lt ch i
    have b : f_X5_byteOf_r ch (nI i) = nI (byt ch i) := byte_n ch i (by omega)
    have x0 : (lg_cmp x 0 = 0) ↔ ch.toUInt64.toNat / 256 ^ i = 0 := by
      rw [lg_cmp_eq, ← hx]
      constructor
      · intro g
        rw [g]
        rfl
      · intro g
        have : x.toUInt64 = 0 := UInt64.toNat_inj.mp g
        exact congrArg UInt64.toInt64 this
    have xb : x &&& 255 = (nI (byt ch i)).toInt64 := by
      have := i_and255 x.toUInt64
      rw [hx] at this
      exact this
    have fin : byt ch i = 0 → (sgnF (n + 1) x i = 0 ∧ finM ch i = -2) ∨ ∃ j : Nat, 1 ≤ j ∧ j ≤ 8 ∧ sgnF (n + 1) x i = nI j ∧ finM ch i = nI j := fun b0 => by
      have z := zer_iff ch (n + 1) i h
      unfold finM sgnF
      rw [show 8 - i = n + 1 by omega]
      by_cases c : ch.toUInt64.toNat / 256 ^ i = 0
      · rw [if_pos (x0.mpr c), if_neg (fun g => z.mp g c)]
        by_cases i0 : i = 0
        · rw [if_pos (by rw [i0]; rfl), i0]
          exact .inl ⟨rfl, rfl⟩
        · rw [if_neg (fun g => i0 ((nJ_eq (by omega) (by decide)).mp (g.trans (show (0 : Int32) = nI 0 from rfl))))]
          exact .inr ⟨i, by omega, by omega, rfl, rfl⟩
      · rw [if_neg (fun g => c (x0.mp g)), if_pos (z.mpr c), xb, if_pos ((c33 bl).mpr (by omega))]
        exact .inl ⟨rfl, rfl⟩
    unfold tolM
    rw [b]
    by_cases b0 : byt ch i = 0
    · rw [if_pos (by rw [b0]; rfl)]
      exact fin b0
    · rw [if_neg (fun z => b0 ((nJ_eq (by omega) (by decide)).mp (z.trans (show (0 : Int32) = nI 0 from rfl))))]
      have c : ¬ ch.toUInt64.toNat / 256 ^ i = 0 := fun g => b0 (by unfold byt; rw [g])
      have r := in_T (nI (byt ch i)) 33 126
      rw [show (33 : Int64).toInt = 33 by decide, show (126 : Int64).toInt = 126 by decide, nI_T (by omega)] at r
      unfold sgnF
      rw [if_neg (fun g => c (x0.mp g)), xb]
      by_cases c1 : byt ch i < 33
      · rw [if_pos ((c33 bl).mpr c1), if_pos (Classical.byContradiction fun g => by have := r.mp g; omega)]
        exact .inl ⟨rfl, rfl⟩
      · rw [if_neg (fun g => c1 ((c33 bl).mp g))]
        by_cases c2 : byt ch i ≤ 126
        · rw [if_pos ((c126 bl).mpr c2), if_neg (r.mpr (by omega))]
          refine put_n ch n (i + 1) _ (by omega) ?_
          rw [show ((8 : Int32).toInt64.toUInt64 &&& Int64.toUInt64 63) = UInt64.ofNat 8 by decide]
          show (x.toUInt64 >>> UInt64.ofNat 8).toNat = _
          rw [u_shift _ (by decide), hx, show (2 : Nat) ^ 8 = 256 by decide, Nat.div_div_eq_div_mul, show (256 : Nat) ^ (i + 1) = 256 ^ i * 256 from Nat.pow_succ _ _]
        · rw [if_neg (fun g => c2 ((c126 bl).mp g)), if_pos (Classical.byContradiction fun g => by have := r.mp g; omega)]
          exact .inl ⟨rfl, rfl⟩
/-- the pad's text is the same -/
def PR (w : Nat → Int32) (q : Nat → UInt16) (v o : Nat → Int32) : Prop := ∃ L : Nat, L ≤ 80 ∧ w 1 = nI L ∧ v 7 = nI L ∧ ∀ i : Nat, i < L → (q i).toUInt32.toInt32 = o i
theorem PR.run (ch : Int64) : ∀ (n : Nat) {w : Nat → Int32} {q : Nat → UInt16} {v o : Nat → Int32} {L : Nat}, n ≤ 8 → L + n ≤ 80 → w 1 = nI L → v 7 = nI L → (∀ i : Nat, i < L → (q i).toUInt32.toInt32 = o i) → PR (runP ch n (w, q)).1 (runP ch n (w, q)).2 (runM ch n v o).1 (runM ch n v o).2 ∧ (runP ch n (w, q)).1 1 = (runM ch n v o).1 7 ∧ ∀ i : Nat, ¬ i = 7 → (runM ch n v o).1 i = v i
  | 0, w, q, v, o, L, _, h, hw, hv, ho => ⟨⟨L, by omega, hw, hv, ho⟩, hw.trans hv.symm, fun _ _ => rfl⟩
  | n + 1, w, q, v, o, L, hn, h, hw, hv, ho => by
    have e : runP ch (n + 1) (w, q) = runP ch n (upd w 1 (w 1 + 1), updC q (w 1).toNatClampNeg (signAt ch n)) := by
      show (if 80 ≤ w 1 then _ else _) = _
      rw [if_neg]
      rw [hw]
      exact fun g => by have := (nJ_le (a := 80) (by decide) (by omega)).mp g; omega
    have e2 : runM ch (n + 1) v o = runM ch n (upd v 7 (v 7 + 1)) (upd o (v 7).toNatClampNeg (f_X5_byteOf_r ch (nI n))) := rfl
    rw [e, e2, hw, hv, nI_clamp (by omega), sign_n ch n (by omega), byte_n ch n (by omega), nI_s1 (by omega)]
    obtain ⟨p1, p2, p3⟩ := PR.run ch n (w := upd w 1 (nI (L + 1))) (q := updC q L (nI (byt ch n))) (v := upd v 7 (nI (L + 1))) (o := upd o L (nI (byt ch n))) (L := L + 1) (by omega) (by omega) rfl rfl (fun i hi => by
      unfold updC upd
      by_cases c : i = L
      · rw [if_pos c, if_pos c]
        exact (small_c ⟨byt ch n, byt_lt ch n⟩).2
      · rw [if_neg c, if_neg c]
        exact ho i (by omega))
    exact ⟨p1, p2, fun i hi => (p3 i hi).trans (if_neg hi)⟩
theorem op_put {w : Nat → Int32} {q : Nat → UInt16} {v o : Nat → Int32} (P : PR w q v o) (ch : Int64) : f_X4_put_r w q ch = f_X5_put_r v o ch ∧ PR (f_X4_put_v w q ch) (f_X4_put_q w q ch) (f_X5_put_v v o ch) (f_X5_put_o v o ch) ∧ f_X5_put_v v o ch 3 = v 3 := by
  obtain ⟨L, hL, hw, hv, ho⟩ := P
  unfold f_X4_put_r f_X5_put_r f_X4_put_v f_X4_put_q f_X5_put_v f_X5_put_o
  have pn := put_n ch 8 0 ch rfl (by rw [Nat.pow_zero, Nat.div_one])
  rcases pn with ⟨a, b⟩ | ⟨j, j1, j8, a, b⟩
  · rw [show f_X4_signsIn_r ch = 0 from a, show f_X5_toldBy_r ch = -2 from b, if_pos rfl, if_pos rfl, if_pos rfl, if_neg (by decide), if_neg (by decide), if_neg (by decide)]
    exact ⟨rfl, ⟨L, hL, hw, hv, ho⟩, rfl⟩
  · have j0 : ¬ nI j = 0 := fun g => by have := (nJ_eq (b := 0) (by omega) (by decide)).mp g; omega
    have jp : (0 : Int32) ≤ nI j := (nJ_le (a := 0) (by decide) (by omega)).mpr (by omega)
    rw [show f_X4_signsIn_r ch = nI j from a, show f_X5_toldBy_r ch = nI j from b, if_neg j0, if_neg j0, if_neg j0, if_pos jp, if_pos jp, if_pos jp, hw, hv, nI_clamp (by omega)]
    have s : nI L + nI j = nI (L + j) := nI_i (by rw [T_add (by rw [nI_T (by omega), nI_T (by omega)]; omega) (by rw [nI_T (by omega), nI_T (by omega)]; omega), nI_T (by omega), nI_T (by omega)]; omega)
    rw [s]
    by_cases c : L + j ≤ 80
    · have c' : nI (L + j) ≤ 80 := (nJ_le (b := 80) (by omega) (by decide)).mpr c
      rw [if_pos c', if_pos c', if_pos c', if_pos c', if_pos c', if_pos c']
      obtain ⟨p1, p2, p3⟩ := PR.run ch j (q := q) (o := o) j8 c hw hv ho
      exact ⟨p2, p1, p3 3 (by decide)⟩
    · have c' : ¬ nI (L + j) ≤ 80 := fun g => c ((nJ_le (b := 80) (by omega) (by decide)).mp g)
      rw [if_neg c', if_neg c', if_neg c', if_neg c', if_neg c', if_neg c']
      exact ⟨rfl, ⟨L, hL, hw, hv, ho⟩, rfl⟩
theorem op_wipe {w : Nat → Int32} {q : Nat → UInt16} {v o : Nat → Int32} (P : PR w q v o) : f_X4_wipe_r w = f_X5_wipe_r v ∧ PR (f_X4_wipe_v w) q (f_X5_wipe_v v) o := by
  obtain ⟨L, hL, hw, hv, ho⟩ := P
  exact ⟨hw.trans hv.symm, 0, by decide, rfl, rfl, fun i hi => absurd hi (Nat.not_lt_zero i)⟩
