/-! THE CELLS: what a cell of each class holds, read off a record; the rows that speak of these cells -/
abbrev DO : Type := (Nat → Int32) × Int64
def b01 (x : Int32) : Int32 := if x = 0 then 0 else 1
def upd8 (f : Nat → Int8) (k : Nat) (x : Int32) : Nat → Int8 := fun j => if j = k then x.toInt8 else f j
def updC (f : Nat → UInt16) (k : Nat) (x : Int32) : Nat → UInt16 := fun j => if j = k then x.toUInt32.toUInt16 else f j
theorem imin_ex : ∃ F : Int32 → Int32 → Int32, ∀ x y, F x y = if y < x then y else x := ⟨fun x y => if y < x then y else x, fun _ _ => rfl⟩
noncomputable def imin : Int32 → Int32 → Int32 := Classical.choose imin_ex
theorem imin_eq (x y : Int32) : imin x y = if y < x then y else x := Classical.choose_spec imin_ex x y
theorem imax_ex : ∃ F : Int32 → Int32 → Int32, ∀ x y, F x y = if x < y then y else x := ⟨fun x y => if x < y then y else x, fun _ _ => rfl⟩
noncomputable def imax : Int32 → Int32 → Int32 := Classical.choose imax_ex
theorem imax_eq (x y : Int32) : imax x y = if x < y then y else x := Classical.choose_spec imax_ex x y
abbrev oD (a h : Nat) (v : DO) : Nat × va_E := (a, .inr (0, [.int (v.1 0), .int (v.1 1), .int (v.1 2), .int (v.1 3), .int (b01 (v.1 4)), .int (v.1 5), .int (v.1 6), .int (v.1 7), .int (v.1 8), .int (v.1 9), .long v.2, .ref h]))
abbrev oH (a sa : Nat) (v : Nat → Int32) : Nat × va_E := (a, .inr (1, [.ref sa, .int (v 1), .int (v 2)]))
abbrev oP (a ga : Nat) (v : Nat → Int32) : Nat × va_E := (a, .inr (2, [.ref ga, .int (v 1), .int (v 2), .int (v 3), .int (v 4), .int (v 5), .int (v 6)]))
abbrev oS (a sa da : Nat) (v : Nat → Int32) : Nat × va_E := (a, .inr (3, [.ref sa, .ref da, .int (v 2), .int (v 3), .int (v 4), .int (v 5), .int (v 6)]))
abbrev oX (a p h s u g t o : Nat) : Nat × va_E := (a, .inr (4, [.ref p, .ref h, .ref s, .ref u, .ref g, .ref t, .ref o]))
abbrev oM (a n t p s h g o : Nat) (v : Nat → Int32) : Nat × va_E := (a, .inr (5, [.ref n, .ref t, .ref p, .int (v 3), .ref s, .ref h, .ref g, .int (v 7), .int (v 8), .ref o, .int (v 10)]))
abbrev aB (G : GG) (a : Nat) (f : Nat → Int8) : Nat × va_E := (a, .inl (G.2.1 0, 100, .inl (fun j => (f j).toInt32)))
abbrev aC (G : GG) (a : Nat) (f : Nat → UInt16) : Nat × va_E := (a, .inl (G.2.1 1, 80, .inl (fun j => (f j).toUInt32.toInt32)))
abbrev aI (G : GG) (a n : Nat) (f : Nat → Int32) : Nat × va_E := (a, .inl (G.2.1 2, n, .inl f))
abbrev aJ (G : GG) (a n : Nat) (f : Nat → Int64) : Nat × va_E := (a, .inl (G.2.1 3, n, .inr (.inl f)))
abbrev aZ (G : GG) (a n : Nat) (f : Nat → Int32) : Nat × va_E := (a, .inl (G.2.1 4, n, .inl f))
abbrev aD (G : GG) (a n : Nat) (f : Nat → Option Nat) : Nat × va_E := (a, .inl (G.2.1 5, n, .inr (.inr (.inr (.inr f)))))
abbrev aS (G : GG) (a n : Nat) (f : Nat → Option Nat) : Nat × va_E := (a, .inl (G.2.1 6, n, .inr (.inr (.inr (.inr f)))))
/-- a station's value: its numbers by slot, its settings, its drives, their hours -/
abbrev StV : Type := (Nat → Int32) × (Nat → Int32) × (Nat → DO) × (Nat → Nat → Int8)
def pick4 {α : Type} (a b c d : α) : Nat → α := fun k => match k with
  | 0 => a
  | 1 => b
  | 2 => c
  | _ => d
def updF {α : Type} (f : Nat → α) (k : Nat) (x : α) : Nat → α := fun j => if j = k then x else f j
/-- four drives with their hours: A (3 + 2 * d) a drive, A (4 + 2 * d) its hours -/
def cDrs (G : GG) (A : Nat → Nat) (dv : Nat → DO) (hv : Nat → Nat → Int8) : va_W := [oD (A 3) (A 4) (dv 0), aB G (A 4) (hv 0), oD (A 5) (A 6) (dv 1), aB G (A 6) (hv 1), oD (A 7) (A 8) (dv 2), aB G (A 8) (hv 2), oD (A 9) (A 10) (dv 3), aB G (A 10) (hv 3)]
/-- a station's cells: A 0 itself, A 1 its settings, A 2 its row of drives -/
def cSt (G : GG) (A : Nat → Nat) (x : StV) : va_W := oS (A 0) (A 1) (A 2) x.1 :: aI G (A 1) 7 x.2.1 :: aD G (A 2) 4 (fun k => some (A (3 + 2 * k))) :: cDrs G A x.2.2.1 x.2.2.2
/-- the drives but the drive n -/
def cRs (G : GG) (A : Nat → Nat) (dv : Nat → DO) (hv : Nat → Nat → Int8) (n : Nat) : va_W := match n with
  | 0 => [oD (A 5) (A 6) (dv 1), aB G (A 6) (hv 1), oD (A 7) (A 8) (dv 2), aB G (A 8) (hv 2), oD (A 9) (A 10) (dv 3), aB G (A 10) (hv 3)]
  | 1 => [oD (A 3) (A 4) (dv 0), aB G (A 4) (hv 0), oD (A 7) (A 8) (dv 2), aB G (A 8) (hv 2), oD (A 9) (A 10) (dv 3), aB G (A 10) (hv 3)]
  | 2 => [oD (A 3) (A 4) (dv 0), aB G (A 4) (hv 0), oD (A 5) (A 6) (dv 1), aB G (A 6) (hv 1), oD (A 9) (A 10) (dv 3), aB G (A 10) (hv 3)]
  | _ => [oD (A 3) (A 4) (dv 0), aB G (A 4) (hv 0), oD (A 5) (A 6) (dv 1), aB G (A 6) (hv 1), oD (A 7) (A 8) (dv 2), aB G (A 8) (hv 2)]
theorem closeDrs (G : GG) (A : Nat → Nat) (dv : Nat → DO) (hv : Nat → Nat → Int8) (n : Nat) (hn : n < 4) (v : DO) (f : Nat → Int8) : (fl [[oD (A (3 + 2 * n)) (A (4 + 2 * n)) v], [aB G (A (4 + 2 * n)) f], cRs G A dv hv n]).Perm (cDrs G A (updF dv n v) (updF hv n f)) := by
  rcases (show n = 0 ∨ n = 1 ∨ n = 2 ∨ n = 3 by omega) with rfl | rfl | rfl | rfl
  · exact perm_idx [0, 1, 2, 3, 4, 5, 6, 7] 8 rfl (by decide +kernel) rfl
  · exact perm_idx [2, 3, 0, 1, 4, 5, 6, 7] 8 rfl (by decide +kernel) rfl
  · exact perm_idx [2, 3, 4, 5, 0, 1, 6, 7] 8 rfl (by decide +kernel) rfl
  · exact perm_idx [2, 3, 4, 5, 6, 7, 0, 1] 8 rfl (by decide +kernel) rfl
theorem openDrs (G : GG) (A : Nat → Nat) (dv : Nat → DO) (hv : Nat → Nat → Int8) (n : Nat) (hn : n < 4) : (cDrs G A dv hv).Perm (fl [[oD (A (3 + 2 * n)) (A (4 + 2 * n)) (dv n)], [aB G (A (4 + 2 * n)) (hv n)], cRs G A dv hv n]) := by
  rcases (show n = 0 ∨ n = 1 ∨ n = 2 ∨ n = 3 by omega) with rfl | rfl | rfl | rfl
  · exact perm_idx [0, 1, 2, 3, 4, 5, 6, 7] 8 rfl (by decide +kernel) rfl
  · exact perm_idx [2, 3, 0, 1, 4, 5, 6, 7] 8 rfl (by decide +kernel) rfl
  · exact perm_idx [4, 5, 0, 1, 2, 3, 6, 7] 8 rfl (by decide +kernel) rfl
  · exact perm_idx [6, 7, 0, 1, 2, 3, 4, 5] 8 rfl (by decide +kernel) rfl
theorem open_at {B : va_W} {bs R : List va_W} (h : B.Perm (fl bs)) : (fl (B :: R)).Perm (fl (bs ++ R)) := by
  rw [← fl_app]
  exact h.append_right _
theorem shut_at {B : va_W} {bs R : List va_W} (h : (fl bs).Perm B) : (fl (bs ++ R)).Perm (fl (B :: R)) := by
  rw [← fl_app]
  exact h.append_right _
/-- N stations in a row: the station k at the addresses AH k -/
def cMany (G : GG) (AH : Nat → Nat → Nat) (sv : Nat → StV) (N : Nat) : va_W := fl ((List.range N).map fun k => cSt G (AH k) (sv k))
def cManyR (G : GG) (AH : Nat → Nat → Nat) (sv : Nat → StV) (N n : Nat) : va_W := fl (((List.range N).erase n).map fun k => cSt G (AH k) (sv k))
theorem openMany (G : GG) (AH : Nat → Nat → Nat) (sv : Nat → StV) (N n : Nat) (hn : n < N) : (cMany G AH sv N).Perm (fl [cSt G (AH n) (sv n), cManyR G AH sv N n]) := by
  have h : (List.range N).Perm (n :: (List.range N).erase n) := List.perm_cons_erase (List.mem_range.mpr hn)
  have h2 := (h.map (fun k => cSt G (AH k) (sv k))).flatten
  have e : fl [cSt G (AH n) (sv n), cManyR G AH sv N n] = cSt G (AH n) (sv n) ++ cManyR G AH sv N n := by
    show cSt G (AH n) (sv n) ++ (cManyR G AH sv N n ++ []) = _
    rw [List.append_nil]
  rw [e]
  exact h2
theorem closeMany (G : GG) (AH : Nat → Nat → Nat) (sv : Nat → StV) (N n : Nat) (hn : n < N) (x : StV) : (fl [cSt G (AH n) x, cManyR G AH sv N n]).Perm (cMany G AH (updF sv n x) N) := by
  have h := (openMany G AH (updF sv n x) N n hn).symm
  have e1 : updF sv n x n = x := if_pos rfl
  have e2 : cManyR G AH (updF sv n x) N n = cManyR G AH sv N n := by
    unfold cManyR
    congr 1
    apply List.map_congr_left
    intro k hk
    have hne : k ≠ n := ((List.nodup_range.mem_erase_iff).mp hk).1
    rw [show updF sv n x k = sv k from if_neg hne]
  rw [e1, e2] at h
  exact h
theorem b01_0 : b01 0 = 0 := rfl
theorem b01_1 : b01 1 = 1 := rfl
theorem b01_of {x : Int32} (h : x = 0 ∨ x = 1) : b01 x = x := by rcases h with rfl | rfl <;> rfl
theorem b01_or (x : Int32) : b01 x = 0 ∨ b01 x = 1 := by unfold b01; split <;> simp
theorem nar_01 {x : Int32} (h : x = 0 ∨ x = 1) : narrow .boolean (.int x) = .int x := by rcases h with rfl | rfl <;> rfl
theorem fit_01 {x : Int32} (h : x = 0 ∨ x = 1) : Jvm.fits .boolean (.int x) = true := by rcases h with rfl | rfl <;> rfl
theorem nar_b01 (x : Int32) : narrow .boolean (.int (b01 x)) = .int (b01 x) := nar_01 (b01_or x)
theorem fit_b01 (x : Int32) : Jvm.fits .boolean (.int (b01 x)) = true := fit_01 (b01_or x)
theorem vin_lit {i : Int32} {n : Nat} (h : decide (¬ (i < 0 ∨ n ≤ i.toNatClampNeg)) = true) : vp_in i n := (of_decide_eq_true h : ¬ (i < 0 ∨ n ≤ i.toNatClampNeg))
theorem upd8_eq (f : Nat → Int8) (k : Nat) (x : Int32) : upd (fun j => (f j).toInt32) k (vp_nar .byte x) = fun j => (upd8 f k x j).toInt32 := by
  funext j
  simp only [upd, upd8, vp_nar_byte]
  split <;> rfl
theorem updC_eq (f : Nat → UInt16) (k : Nat) (x : Int32) : upd (fun j => (f j).toUInt32.toInt32) k (vp_nar .char x) = fun j => (updC f k x j).toUInt32.toInt32 := by
  funext j
  simp only [upd, updC, vp_nar_char]
  split <;> rfl
theorem nar_c (u : UInt16) : narrow .char (.int u.toUInt32.toInt32) = .int u.toUInt32.toInt32 := by
  have h := (pk_charN (q := u.toNat) u.toNat_lt).1
  have e : nI u.toNat = u.toUInt32.toInt32 := by
    apply Int32.toInt_inj.mp
    have : u.toNat < 65536 := u.toNat_lt
    rw [nI_toInt (by omega)]
    show _ = (u.toUInt32.toBitVec).toInt
    rw [BitVec.toInt_eq_toNat_of_lt (by show 2 * u.toNat < 2 ^ 32; omega)]
    rfl
  rw [← e]; exact h
theorem fit_c (u : UInt16) : Jvm.fits .char (.int u.toUInt32.toInt32) = true := by
  have h := (pk_charN (q := u.toNat) u.toNat_lt).2
  have e : nI u.toNat = u.toUInt32.toInt32 := by
    apply Int32.toInt_inj.mp
    have : u.toNat < 65536 := u.toNat_lt
    rw [nI_toInt (by omega)]
    show _ = (u.toUInt32.toBitVec).toInt
    rw [BitVec.toInt_eq_toNat_of_lt (by show 2 * u.toNat < 2 ^ 32; omega)]
    rfl
  rw [← e]; exact h
theorem fit_b8 (x : Int8) : Jvm.fits .byte (.int x.toInt32) = true := by
  have h := pk_fb x.toInt32
  rw [Int8.toInt8_toInt32] at h
  exact h
theorem arrV_congr {c : ClassId} {N : Nat} {f g : Nat → Value} (h : ∀ j, j < N → f j = g j) : arrV c N f = arrV c N g := by
  unfold arrV
  have e : (fun j : Fin N => f j.val) = fun j : Fin N => g j.val := funext fun j => h j.val j.isLt
  rw [e]
theorem va_at_i {D : va_G} {cl : List vw_C} {a n : Nat} {cA : ClassId} {f g : Nat → Int32} {H : Heap} (hfg : ∀ j, j < n → f j = g j) (h : va_at D cl (a, .inl (cA, n, .inl f)) H) : va_at D cl (a, .inl (cA, n, .inl g)) H := by
  have e : vp_cell cA (n, .inl f) = vp_cell cA (n, .inl g) := arrV_congr (f := fun j => .int (f j)) (g := fun j => .int (g j)) (fun j hj => congrArg Value.int (hfg j hj))
  show H[a]? = some (vp_cell cA (n, .inl g))
  rw [← e]
  exact h
theorem va_P_at {D : va_G} {cl : List vw_C} {ws : va_W} {H : Heap} {q0 a : Nat} {e e' : va_E} (h : va_P D cl (ws.set q0 (a, e)) H) (he : va_at D cl (a, e) H → va_at D cl (a, e') H) : va_P D cl (ws.set q0 (a, e')) H := by
  intro k q hk
  by_cases hkq : q0 = k
  · subst hkq
    by_cases hl : q0 < ws.length
    · rw [List.getElem?_set_self hl] at hk
      cases hk
      exact he (h q0 _ (List.getElem?_set_self hl))
    · rw [List.getElem?_eq_none (by rw [List.length_set]; omega)] at hk
      cases hk
  · rw [List.getElem?_set_ne hkq] at hk
    exact h k q (by rw [List.getElem?_set_ne hkq]; exact hk)
theorem aw_oi_inst : Cond.instanceMethod Lib.objectInit ∈ AW := kw_14
theorem aw_oi_code : Cond.code Lib.objectInit ⟨#[0xb1]⟩ 1 none ∈ AW := kw_15
theorem aw_ac_native : Cond.native arraycopyName ∈ AW := kw_25
theorem aw_ac_static : Cond.static arraycopyName ∈ AW := kw_24
theorem aw_ac_ini : Cond.initialized "java/lang/System" ∈ AW := kw_3
section OBJ
variable {p : Program} {l : Launch} {e : Env} {R : Room} {s : State} {m : MethodId} {args : Array Value} {below : List Frame} {meth : Method} {c : Code} {cc : ByteArray} {own : String} {G : GG} {A : Nat → Prop} {nL cells slots : Nat} {Q : State → Prop} {w : va_W} {lv : List (Nat × Value)} {pc : Nat} {st : List Value}
theorem j_top01 {x : Int32} (hx : b01 x = x) (K : WJ p l e R s m args below meth c G A nL cells slots Q w lv pc (.int (b01 x) :: st)) : WJ p l e R s m args below meth c G A nL cells slots Q w lv pc (.int x :: st) := by
  rw [hx] at K
  exact K
theorem j_bast8 (C : Cx p s m args c cc nL own G A) {a : Nat} {f : Nat → Int8} {i x : Int32} (q0 : Nat) (he : w[q0]? = some (aB G a f)) (hin : vp_in i 100) (w2 : va_W) (hw : w.set q0 (aB G a (upd8 f i.toNatClampNeg x)) = w2) (d : decode cc pc = .ok (.bastore, 1)) (K : WJ p l e R s m args below meth c G A nL cells slots Q w2 lv (pc + 1) st) : WJ p l e R s m args below meth c G A nL cells slots Q w lv pc (.int x :: .int i :: .ref a :: st) := j_bast C q0 he hin w2 (by rw [upd8_eq]; exact hw) d K
theorem j_castC (C : Cx p s m args c cc nL own G A) {a : Nat} {f : Nat → UInt16} {i x : Int32} (q0 : Nat) (he : w[q0]? = some (aC G a f)) (hin : vp_in i 80) (w2 : va_W) (hw : w.set q0 (aC G a (updC f i.toNatClampNeg x)) = w2) (d : decode cc pc = .ok (.castore, 1)) (K : WJ p l e R s m args below meth c G A nL cells slots Q w2 lv (pc + 1) st) : WJ p l e R s m args below meth c G A nL cells slots Q w lv pc (.int x :: .int i :: .ref a :: st) := j_cast C q0 he hin w2 (by rw [updC_eq]; exact hw) d K
theorem j_objinit (C : Cx p s m args c cc nL own G A) {a idx : Nat} (hl : Cond.methodLink own idx Lib.objectInit ∈ AW) (hnm2 : True = True) (hf : 1 ≤ R.frames) (hlo : 12 + 8 ≤ R.locals) (hst : (st.map fun v => v.category).sum ≤ 8) (d : decode cc pc = .ok (.invokespecial idx, 3)) (K : WJ p l e R s m args below meth c G A nL cells slots Q w lv (pc + 3) st) : WJ p l e R s m args below meth c G A nL cells slots Q w lv pc (.ref a :: st) := fun H locs ls hP hD hS hl9 => W.objInit C.1 C.2.1 C.2.2.2.1 (C.2.2.2.2.1 _ hl) (C.2.2.2.2.1 _ aw_oi_inst) (C.2.2.2.2.1 _ aw_oi_code) rfl (hl9.1.trans C.2.2.1.symm) rfl d hf (by show 2 * 0 + _ + 12 ≤ _; omega) (K H locs ls hP hD hS hl9)
theorem j_gstF (C : Cx p s m args c cc nL own G A) {index : Nat} (hl : Cond.fieldLink own index "SilentDrives" "FIRST_VALUES" "[I" ∈ AW) (d : decode cc pc = .ok (.getstatic index, 3)) (K : WJ p l e R s m args below meth c G A nL cells slots Q w lv (pc + 3) (.ref (G.2.2 0) :: st)) : WJ p l e R s m args below meth c G A nL cells slots Q w lv pc st := fun H locs ls hP hD hS hl9 => va_gets C.1 C.2.1 C.2.2.2.2.2.2.2.2.1.1 hS C.2.2.2.1 (C.2.2.2.2.1 _ hl) (fun _ h => h) d (K H locs ls hP hD hS hl9)
theorem j_gstFN (C : Cx p s m args c cc nL own G A) {index : Nat} {host : String} (hl : Cond.fieldLinkNest own index "SilentDrives" "FIRST_VALUES" "[I" host ∈ nestL) (d : decode cc pc = .ok (.getstatic index, 3)) (K : WJ p l e R s m args below meth c G A nL cells slots Q w lv (pc + 3) (.ref (G.2.2 0) :: st)) : WJ p l e R s m args below meth c G A nL cells slots Q w lv pc st := fun H locs ls hP hD hS hl9 => va_getsN C.1 C.2.1 C.2.2.2.2.2.2.2.2.1.1 hS C.2.2.2.1 (va_Nw.use rfl (C.2.2.2.2.2.2.2.1.1 _ hl)) (fun _ h => h) d (K H locs ls hP hD hS hl9)
theorem j_stiF (C : Cx p s m args c cc nL own G A) {i : Int32} (hin : vp_in i 7) {v : Int32} (hv : vFirst i.toNatClampNeg = v) (d : decode cc pc = .ok (.iaload, 1)) (K : WJ p l e R s m args below meth c G A nL cells slots Q w lv (pc + 1) (.int v :: st)) : WJ p l e R s m args below meth c G A nL cells slots Q w lv pc (.int i :: .ref (G.2.2 0) :: st) := fun H locs ls hP hD hS hl9 => va_ti C.1 C.2.1 C.2.2.2.2.2.2.2.2.1.2 hS hin (by rw [hv]) d (K H locs ls hP hD hS hl9)
theorem j_gstL (C : Cx p s m args c cc nL own G A) {index : Nat} (hl : Cond.fieldLink own index "SilentDrives" "LEAST_VALUES" "[I" ∈ AW) (d : decode cc pc = .ok (.getstatic index, 3)) (K : WJ p l e R s m args below meth c G A nL cells slots Q w lv (pc + 3) (.ref (G.2.2 1) :: st)) : WJ p l e R s m args below meth c G A nL cells slots Q w lv pc st := fun H locs ls hP hD hS hl9 => va_gets C.1 C.2.1 C.2.2.2.2.2.2.2.2.2.1.1 hS C.2.2.2.1 (C.2.2.2.2.1 _ hl) (fun _ h => h) d (K H locs ls hP hD hS hl9)
theorem j_gstLN (C : Cx p s m args c cc nL own G A) {index : Nat} {host : String} (hl : Cond.fieldLinkNest own index "SilentDrives" "LEAST_VALUES" "[I" host ∈ nestL) (d : decode cc pc = .ok (.getstatic index, 3)) (K : WJ p l e R s m args below meth c G A nL cells slots Q w lv (pc + 3) (.ref (G.2.2 1) :: st)) : WJ p l e R s m args below meth c G A nL cells slots Q w lv pc st := fun H locs ls hP hD hS hl9 => va_getsN C.1 C.2.1 C.2.2.2.2.2.2.2.2.2.1.1 hS C.2.2.2.1 (va_Nw.use rfl (C.2.2.2.2.2.2.2.1.1 _ hl)) (fun _ h => h) d (K H locs ls hP hD hS hl9)
theorem j_stiL (C : Cx p s m args c cc nL own G A) {i : Int32} (hin : vp_in i 7) {v : Int32} (hv : vLeast i.toNatClampNeg = v) (d : decode cc pc = .ok (.iaload, 1)) (K : WJ p l e R s m args below meth c G A nL cells slots Q w lv (pc + 1) (.int v :: st)) : WJ p l e R s m args below meth c G A nL cells slots Q w lv pc (.int i :: .ref (G.2.2 1) :: st) := fun H locs ls hP hD hS hl9 => va_ti C.1 C.2.1 C.2.2.2.2.2.2.2.2.2.1.2 hS hin (by rw [hv]) d (K H locs ls hP hD hS hl9)
theorem j_gstM (C : Cx p s m args c cc nL own G A) {index : Nat} (hl : Cond.fieldLink own index "SilentDrives" "MOST_VALUES" "[I" ∈ AW) (d : decode cc pc = .ok (.getstatic index, 3)) (K : WJ p l e R s m args below meth c G A nL cells slots Q w lv (pc + 3) (.ref (G.2.2 2) :: st)) : WJ p l e R s m args below meth c G A nL cells slots Q w lv pc st := fun H locs ls hP hD hS hl9 => va_gets C.1 C.2.1 C.2.2.2.2.2.2.2.2.2.2.1.1 hS C.2.2.2.1 (C.2.2.2.2.1 _ hl) (fun _ h => h) d (K H locs ls hP hD hS hl9)
theorem j_gstMN (C : Cx p s m args c cc nL own G A) {index : Nat} {host : String} (hl : Cond.fieldLinkNest own index "SilentDrives" "MOST_VALUES" "[I" host ∈ nestL) (d : decode cc pc = .ok (.getstatic index, 3)) (K : WJ p l e R s m args below meth c G A nL cells slots Q w lv (pc + 3) (.ref (G.2.2 2) :: st)) : WJ p l e R s m args below meth c G A nL cells slots Q w lv pc st := fun H locs ls hP hD hS hl9 => va_getsN C.1 C.2.1 C.2.2.2.2.2.2.2.2.2.2.1.1 hS C.2.2.2.1 (va_Nw.use rfl (C.2.2.2.2.2.2.2.1.1 _ hl)) (fun _ h => h) d (K H locs ls hP hD hS hl9)
theorem j_stiM (C : Cx p s m args c cc nL own G A) {i : Int32} (hin : vp_in i 7) {v : Int32} (hv : vMost i.toNatClampNeg = v) (d : decode cc pc = .ok (.iaload, 1)) (K : WJ p l e R s m args below meth c G A nL cells slots Q w lv (pc + 1) (.int v :: st)) : WJ p l e R s m args below meth c G A nL cells slots Q w lv pc (.int i :: .ref (G.2.2 2) :: st) := fun H locs ls hP hD hS hl9 => va_ti C.1 C.2.1 C.2.2.2.2.2.2.2.2.2.2.1.2 hS hin (by rw [hv]) d (K H locs ls hP hD hS hl9)
theorem j_copyb (C : Cx p s m args c cc nL own G A) {idx a b : Nat} {f g : Nat → Int8} (hl : Cond.methodLink own idx arraycopyName ∈ AW) (q0 q1 : Nat) (he0 : w[q0]? = some (aB G b f)) (he1 : w[q1]? = some (aB G a g)) (hR : 1 ≤ R.frames) (hlo : 8 + (nativeFrameWords "java/lang/System" "arraycopy" 5 + 11) ≤ R.locals) (hst : (st.map fun v => v.category).sum ≤ 8) (w2 : va_W) (hw : w.set q1 (aB G a f) = w2) (d : decode cc pc = .ok (.invokestatic idx, 3)) (K : WJ p l e R s m args below meth c G A nL cells slots Q w2 lv (pc + 3) st) : WJ p l e R s m args below meth c G A nL cells slots Q w lv pc (.int 100 :: .int 0 :: .ref a :: .int 0 :: .ref b :: st) := by
  subst hw
  intro H locs ls hP hD hS hl9
  refine va_copyi C.1 C.2.1 (C.2.2.1.trans hl9.1.symm) C.2.2.2.1 (C.2.2.2.2.1 _ hl) (C.2.2.2.2.1 _ aw_ac_native) (C.2.2.2.2.1 _ aw_ac_static) (C.2.2.2.2.1 _ aw_ac_ini) C.2.2.2.2.2.1 hP hD hS q0 q1 0 0 he0 he1 rfl rfl rfl (by decide) (by decide) (by decide) (by decide) (by decide) (fun i _ => fit_b8 _) hR (by omega) d (fun H1 locs1 h1 h2 h3 => K H1 locs1 ls (va_P_at h1 (fun h => va_at_i (fun j hj => (pk_cpy_in (show 0 ≤ j from Nat.zero_le _) (show j < 0 + 100 by omega)).trans (congrArg (fun j => (f j).toInt32) (show 0 + (j - 0) = j by omega))) h)) (hD.set he1) h3 hl9)
theorem j_copyI (C : Cx p s m args c cc nL own G A) {idx a b : Nat} {f g : Nat → Int32} (hl : Cond.methodLink own idx arraycopyName ∈ AW) (q0 q1 : Nat) (he0 : w[q0]? = some (aI G b 7 f)) (he1 : w[q1]? = some (aI G a 7 g)) (hR : 1 ≤ R.frames) (hlo : 8 + (nativeFrameWords "java/lang/System" "arraycopy" 5 + 11) ≤ R.locals) (hst : (st.map fun v => v.category).sum ≤ 8) (w2 : va_W) (hw : w.set q1 (aI G a 7 f) = w2) (d : decode cc pc = .ok (.invokestatic idx, 3)) (K : WJ p l e R s m args below meth c G A nL cells slots Q w2 lv (pc + 3) st) : WJ p l e R s m args below meth c G A nL cells slots Q w lv pc (.int 7 :: .int 0 :: .ref a :: .int 0 :: .ref b :: st) := by
  subst hw
  intro H locs ls hP hD hS hl9
  refine va_copyi C.1 C.2.1 (C.2.2.1.trans hl9.1.symm) C.2.2.2.1 (C.2.2.2.2.1 _ hl) (C.2.2.2.2.1 _ aw_ac_native) (C.2.2.2.2.1 _ aw_ac_static) (C.2.2.2.2.1 _ aw_ac_ini) C.2.2.2.2.2.1 hP hD hS q0 q1 2 2 he0 he1 rfl rfl rfl (by decide) (by decide) (by decide) (by decide) (by decide) (fun i _ => rfl) hR (by omega) d (fun H1 locs1 h1 h2 h3 => K H1 locs1 ls (va_P_at h1 (fun h => va_at_i (fun j hj => (pk_cpy_in (show 0 ≤ j from Nat.zero_le _) (show j < 0 + 7 by omega)).trans (congrArg f (show 0 + (j - 0) = j by omega))) h)) (hD.set he1) h3 hl9)
end OBJ
