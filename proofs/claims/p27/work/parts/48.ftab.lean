/-! FLOATING NUMBERS: the shares -/
def shk (a b : Nat) : Bool := decide (FP.ddiv (FP.i2d (nI a)) (FP.i2d (nI b)) &&& 0x7fffffffffffffff ≤ 0x7ff0000000000000) && (decide (FP.d2f (FP.ddiv (FP.i2d (nI a)) (FP.i2d (nI b))) &&& 0x7fffffff ≤ 0x7f800000) && (decide (FP.d2f (FP.ddiv (FP.i2d (nI a)) (FP.i2d (nI b))) = 0) || (decide (1 ≤ yE (FP.d2f (FP.ddiv (FP.i2d (nI a)) (FP.i2d (nI b))))) && decide (yE (FP.d2f (FP.ddiv (FP.i2d (nI a)) (FP.i2d (nI b)))) ≤ 254))))
theorem sh_tab : ((List.range 101).all fun b => (List.range (b + 1)).all fun a => decide (b = 0) || shk a b) = true := by decide +kernel
theorem sh_ab {a b : Nat} (ha : a ≤ b) (hb : b < 101) (h0 : 0 < b) : vf_n64 (FP.ddiv (FP.i2d (nI a)) (FP.i2d (nI b))) ∧ vf_n32 (FP.d2f (FP.ddiv (FP.i2d (nI a)) (FP.i2d (nI b)))) ∧ (FP.d2f (FP.ddiv (FP.i2d (nI a)) (FP.i2d (nI b))) = 0 ∨ okY (FP.d2f (FP.ddiv (FP.i2d (nI a)) (FP.i2d (nI b))))) := by
  have h := List.all_eq_true.mp sh_tab b (List.mem_range.mpr hb)
  have h := List.all_eq_true.mp h a (List.mem_range.mpr (by omega))
  simp only [shk, Bool.or_eq_true, Bool.and_eq_true, decide_eq_true_eq] at h
  rcases h with h | h
  · omega
  · exact ⟨h.1, h.2.1, h.2.2⟩
