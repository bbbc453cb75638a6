/-! THE LAW: its calls -/
abbrev LA (s : State) : Nat → Prop := fun q => s.heap.size ≤ q
abbrev LJ (p : Program) (l : Launch) (e : Env) (s : State) (m : MethodId) (below : List Frame) (meth : Method) (c : Code) (G : GG) (b : Nat) (Q : State → Prop) (w : va_W) (lv : List (Nat × Value)) (pc : Nat) (st : List Value) : Prop := WJ p l e room_1 s m #[Value.ref b] below meth c G (LA s) 4 147 10524 Q w lv pc st
section LAWROWS
variable {p : Program} {l : Launch} {e : Env} {s : State} {m : MethodId} {below : List Frame} {meth : Method} {c : Code} {G : GG} {b L : Nat} {xs : Nat → Int32} {Q : State → Prop} {w : va_W} {lv : List (Nat × Value)} {pc : Nat} {st : List Value} {cells slots : Nat}
theorem j_slen (C : Cx p s m #[Value.ref b] c cL_law 4 RL G (LA s)) (hX : va_X b L xs s s.heap) (hbl : b < s.heap.size) (d : decode cL_law pc = .ok (.arraylength, 1)) (K : WJ p l e room_1 s m #[Value.ref b] below meth c G (LA s) 4 cells slots Q w lv (pc + 1) (.int (nI L) :: st)) : WJ p l e room_1 s m #[Value.ref b] below meth c G (LA s) 4 cells slots Q w lv pc (.ref b :: st) := fun H locs ls hP hD hS hl => va_slen C.1 C.2.1 hX hbl (Nat.not_le.mpr hbl) hS d (K H locs ls hP hD hS hl)
theorem j_sld (C : Cx p s m #[Value.ref b] c cL_law 4 RL G (LA s)) (hX : va_X b L xs s s.heap) (hbl : b < s.heap.size) {j : Nat} (hj : j < L) (hL : L ≤ 2048) (d : decode cL_law pc = .ok (.iaload, 1)) (K : WJ p l e room_1 s m #[Value.ref b] below meth c G (LA s) 4 cells slots Q w lv (pc + 1) (.int (xs j) :: st)) : WJ p l e room_1 s m #[Value.ref b] below meth c G (LA s) 4 cells slots Q w lv pc (.int (nI j) :: .ref b :: st) := fun H locs ls hP hD hS hl => va_sld C.1 C.2.1 hX hbl (Nat.not_le.mpr hbl) hS (vp_in_nI hj (by omega)) d (by rw [nI_clamp (by omega)]; exact K H locs ls hP hD hS hl)
theorem nI_j {a k : Nat} (h : a + k < 2000000000) : nI a + nI k = nI (a + k) := nI_i (by rw [T_add (by rw [nI_T (by omega), nI_T (by omega)]; omega) (by rw [nI_T (by omega), nI_T (by omega)]; omega), nI_T (by omega), nI_T (by omega)]; omega)
/-- an int of the script behind the i-th call's kind -/
theorem j_arg (C : Cx p s m #[Value.ref b] c cL_law 4 RL G (LA s)) (hX : va_X b L xs s s.heap) (hbl : b < s.heap.size) (hL : L ≤ 2048) {i j a1 a2 : Nat} (hj : 4 * i + j < L) {jj : Int} (hjj : Int32.ofInt jj = nI j) (d0 : decode cL_law pc = .ok (.aload_n 0, 1)) (d1 : decode cL_law (pc + 1) = .ok (.iload_n 3, 1)) (d2 : decode cL_law (pc + 2) = .ok (.iconst jj, 1)) (d3 : decode cL_law (pc + 3) = .ok (.iadd, 1)) (d4 : decode cL_law (pc + 4) = .ok (.iaload, 1)) (K : LJ p l e s m below meth c G b Q w [(3, .int (nI (4 * i))), (2, .ref a2), (1, .ref a1), (0, .ref b)] (pc + 5) (.int (xs (4 * i + j)) :: st)) : LJ p l e s m below meth c G b Q w [(3, .int (nI (4 * i))), (2, .ref a2), (1, .ref a1), (0, .ref b)] pc st := by
  refine j_aload_n C d0 3 rfl ?_
  refine j_iload_n C d1 0 rfl ?_
  refine j_iconst C d2 hjj ?_
  refine j_iadd C d3 (nI_j (by omega)) ?_
  exact j_sld C hX hbl hj hL d4 K
end LAWROWS
