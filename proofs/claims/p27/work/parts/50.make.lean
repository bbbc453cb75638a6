/-! MAKING: new objects and arrays; contracts that give addresses; the copy of a static array -/
section MAKE
variable {p : Program} {l : Launch} {e : Env} {R : Room} {s : State} {m : MethodId} {args : Array Value} {below : List Frame} {meth : Method} {c : Code} {cc : ByteArray} {own : String} {G : GG} {A : Nat → Prop} {nL cells slots : Nat} {Q : State → Prop} {w : va_W} {lv : List (Nat × Value)} {pc : Nat} {st : List Value}
theorem j_new (C : Cx p s m args c cc nL own G A) {Cn : String} {T : u_T} {N ci index : Nat} (hin : ∀ w' ∈ u_ws Cn T N, w' ∈ AW) (ty : Nat → FieldType) (hty : ∀ k, k < N → parseFieldDescriptor (T k).2.2.1 = some (ty k)) (hcl : Cond.classLink own index Cn ∈ AW) (hinst : Cond.instantiable Cn N ∈ AW) (hini : Cond.initialized Cn ∈ AW) (hc : vwCl[ci]? = some (Cn, T, N)) {fs : List Value} (hfs : ∀ j, j < N → defaultValue (ty j) = vp_V fs j) (hcells : cells + 1 ≤ R.cells) (hslots : slots + N ≤ R.slots) (d : decode cc pc = .ok (.new index, 3)) (K : ∀ q : Nat, WJ p l e R s m args below meth c G A nL (cells + 1) (slots + N) Q (w ++ [(q, .inr (ci, fs))]) lv (pc + 3) (.ref q :: st)) : WJ p l e R s m args below meth c G A nL cells slots Q w lv pc st := fun H locs ls hP hD hS hl => va_new C.1 C.2.1 C.2.2.2.2.1 hin ty hty C.2.2.2.1 (C.2.2.2.2.1 _ hcl) (C.2.2.2.2.1 _ hinst) (C.2.2.2.2.1 _ hini) C.2.2.2.2.2.1 hP hD hS C.2.2.2.2.2.2.1 hc hfs hcells hslots d (fun q H1 h1 h2 h3 => K q H1 locs ls h1 h2 h3 hl)
theorem j_newaB (C : Cx p s m args c cc nL own G A) {n : Int32} (hn : ¬ n < 0) (hN : n.toNatClampNeg = 100) (hb : 100 * componentBytes .byte ≤ 536870912) (hcells : cells + 1 ≤ R.cells) (hslots : slots + 100 ≤ R.slots) (d : decode cc pc = .ok (.newarray .byte, 2)) (K : ∀ q : Nat, WJ p l e R s m args below meth c G A nL (cells + 1) (slots + 100) Q (w ++ [aB G q (fun _ => 0)]) lv (pc + 2) (.ref q :: st)) : WJ p l e R s m args below meth c G A nL cells slots Q w lv pc (.int n :: st) := fun H locs ls hP hD hS hl => va_newa (atype := .byte) C.1 C.2.1 (C.2.2.2.2.1 _ kw_73) (ty := .byte) rfl C.2.2.2.2.2.1 hP hD hS C.2.2.2.2.2.2.1 (a0 := (100, .inl (fun j => ((fun _ : Nat => (0 : Int8)) j).toInt32))) (fun cA => rfl) hn hN hb hcells hslots d (fun q cA H1 k1 h1 h2 h3 => by
  have r1 := va_nm_byte (k1.2 7 (cA, .byte) rfl).2
  have r2 := va_nm_byte (C.2.2.2.2.2.1.2 0 (G.2.1 0, .byte) rfl).2
  have e1 : cA = G.2.1 0 := Option.some.inj (r1.symm.trans r2)
  subst e1
  exact K q H1 locs ls h1 h2 h3 hl)
theorem j_newaC (C : Cx p s m args c cc nL own G A) {n : Int32} (hn : ¬ n < 0) (hN : n.toNatClampNeg = 80) (hb : 80 * componentBytes .char ≤ 536870912) (hcells : cells + 1 ≤ R.cells) (hslots : slots + 80 ≤ R.slots) (d : decode cc pc = .ok (.newarray .char, 2)) (K : ∀ q : Nat, WJ p l e R s m args below meth c G A nL (cells + 1) (slots + 80) Q (w ++ [aC G q (fun _ => 0)]) lv (pc + 2) (.ref q :: st)) : WJ p l e R s m args below meth c G A nL cells slots Q w lv pc (.int n :: st) := fun H locs ls hP hD hS hl => va_newa (atype := .char) C.1 C.2.1 (C.2.2.2.2.1 _ kw_125) (ty := .char) rfl C.2.2.2.2.2.1 hP hD hS C.2.2.2.2.2.2.1 (a0 := (80, .inl (fun j => ((fun _ : Nat => (0 : UInt16)) j).toUInt32.toInt32))) (fun cA => rfl) hn hN hb hcells hslots d (fun q cA H1 k1 h1 h2 h3 => by
  have r1 := va_nm_char (k1.2 7 (cA, .char) rfl).2
  have r2 := va_nm_char (C.2.2.2.2.2.1.2 1 (G.2.1 1, .char) rfl).2
  have e1 : cA = G.2.1 1 := Option.some.inj (r1.symm.trans r2)
  subst e1
  exact K q H1 locs ls h1 h2 h3 hl)
theorem j_newaI (C : Cx p s m args c cc nL own G A) {n : Int32} {N' : Nat} (hn : ¬ n < 0) (hN : n.toNatClampNeg = N') (hb : N' * componentBytes .int ≤ 536870912) (hcells : cells + 1 ≤ R.cells) (hslots : slots + N' ≤ R.slots) (d : decode cc pc = .ok (.newarray .int, 2)) (K : ∀ q : Nat, WJ p l e R s m args below meth c G A nL (cells + 1) (slots + N') Q (w ++ [aI G q N' (fun _ => 0)]) lv (pc + 2) (.ref q :: st)) : WJ p l e R s m args below meth c G A nL cells slots Q w lv pc (.int n :: st) := fun H locs ls hP hD hS hl => va_newa (atype := .int) C.1 C.2.1 (C.2.2.2.2.1 _ kw_72) (ty := .int) rfl C.2.2.2.2.2.1 hP hD hS C.2.2.2.2.2.2.1 (a0 := (N', .inl (fun _ => 0))) (fun cA => rfl) hn hN hb hcells hslots d (fun q cA H1 k1 h1 h2 h3 => by
  have r1 := va_nm_int (k1.2 7 (cA, .int) rfl).2
  have r2 := va_nm_int (C.2.2.2.2.2.1.2 2 (G.2.1 2, .int) rfl).2
  have e1 : cA = G.2.1 2 := Option.some.inj (r1.symm.trans r2)
  subst e1
  exact K q H1 locs ls h1 h2 h3 hl)
theorem j_newaZ (C : Cx p s m args c cc nL own G A) {n : Int32} {N' : Nat} (hn : ¬ n < 0) (hN : n.toNatClampNeg = N') (hb : N' * componentBytes .boolean ≤ 536870912) (hcells : cells + 1 ≤ R.cells) (hslots : slots + N' ≤ R.slots) (d : decode cc pc = .ok (.newarray .boolean, 2)) (K : ∀ q : Nat, WJ p l e R s m args below meth c G A nL (cells + 1) (slots + N') Q (w ++ [aZ G q N' (fun _ => 0)]) lv (pc + 2) (.ref q :: st)) : WJ p l e R s m args below meth c G A nL cells slots Q w lv pc (.int n :: st) := fun H locs ls hP hD hS hl => va_newa (atype := .boolean) C.1 C.2.1 (C.2.2.2.2.1 _ kw_124) (ty := .boolean) rfl C.2.2.2.2.2.1 hP hD hS C.2.2.2.2.2.2.1 (a0 := (N', .inl (fun _ => 0))) (fun cA => rfl) hn hN hb hcells hslots d (fun q cA H1 k1 h1 h2 h3 => by
  have r1 := va_nm_boolean (k1.2 7 (cA, .boolean) rfl).2
  have r2 := va_nm_boolean (C.2.2.2.2.2.1.2 4 (G.2.1 4, .boolean) rfl).2
  have e1 : cA = G.2.1 4 := Option.some.inj (r1.symm.trans r2)
  subst e1
  exact K q H1 locs ls h1 h2 h3 hl)
theorem j_newqD (C : Cx p s m args c cc nL own G A) {index : Nat} {n : Int32} {N' : Nat} (hcl : Cond.classLink own index "SilentDrives$Drive" ∈ AW) (hn : ¬ n < 0) (hN : n.toNatClampNeg = N') (hb : N' * 4 ≤ 536870912) (hcells : cells + 1 ≤ R.cells) (hslots : slots + N' ≤ R.slots) (d : decode cc pc = .ok (.anewarray index, 3)) (K : ∀ q : Nat, WJ p l e R s m args below meth c G A nL (cells + 1) (slots + N') Q (w ++ [aD G q N' (fun _ => none)]) lv (pc + 3) (.ref q :: st)) : WJ p l e R s m args below meth c G A nL cells slots Q w lv pc (.int n :: st) := fun H locs ls hP hD hS hl => va_newq C.1 C.2.1 C.2.2.2.1 (C.2.2.2.2.1 _ hcl) C.2.2.2.2.2.2.2.1.2.1 C.2.2.2.2.2.1 hP hD hS C.2.2.2.2.2.2.1 hn hN hb hcells hslots d (fun q cA H1 k1 h1 h2 h3 => by
  obtain ⟨_, _, _, _, _, r1⟩ := (k1.2 7 (cA, .object "SilentDrives$Drive") rfl).2
  obtain ⟨_, _, _, _, _, r2⟩ := (C.2.2.2.2.2.1.2 5 (G.2.1 5, .object "SilentDrives$Drive") rfl).2
  have e1 : cA = G.2.1 5 := Option.some.inj (r1.symm.trans r2)
  subst e1
  exact K q H1 locs ls h1 h2 h3 hl)
theorem j_newqS (C : Cx p s m args c cc nL own G A) {index : Nat} {n : Int32} {N' : Nat} (hcl : Cond.classLink own index "SilentDrives$Station" ∈ AW) (hn : ¬ n < 0) (hN : n.toNatClampNeg = N') (hb : N' * 4 ≤ 536870912) (hcells : cells + 1 ≤ R.cells) (hslots : slots + N' ≤ R.slots) (d : decode cc pc = .ok (.anewarray index, 3)) (K : ∀ q : Nat, WJ p l e R s m args below meth c G A nL (cells + 1) (slots + N') Q (w ++ [aS G q N' (fun _ => none)]) lv (pc + 3) (.ref q :: st)) : WJ p l e R s m args below meth c G A nL cells slots Q w lv pc (.int n :: st) := fun H locs ls hP hD hS hl => va_newq C.1 C.2.1 C.2.2.2.1 (C.2.2.2.2.1 _ hcl) C.2.2.2.2.2.2.2.1.2.2 C.2.2.2.2.2.1 hP hD hS C.2.2.2.2.2.2.1 hn hN hb hcells hslots d (fun q cA H1 k1 h1 h2 h3 => by
  obtain ⟨_, _, _, _, _, r1⟩ := (k1.2 7 (cA, .object "SilentDrives$Station") rfl).2
  obtain ⟨_, _, _, _, _, r2⟩ := (C.2.2.2.2.2.1.2 6 (G.2.1 6, .object "SilentDrives$Station") rfl).2
  have e1 : cA = G.2.1 6 := Option.some.inj (r1.symm.trans r2)
  subst e1
  exact K q H1 locs ls h1 h2 h3 hl)
theorem va_P_up {D : va_G} {cl : List vw_C} {ws : va_W} {H : Heap} {q0 a : Nat} {e0 e1 : va_E} (h : va_P D cl ws H) (hq : ws[q0]? = some (a, e0)) (he : va_at D cl (a, e0) H → va_at D cl (a, e1) H) : va_P D cl (ws.set q0 (a, e1)) H := by
  intro k q hk
  by_cases hkq : q0 = k
  · subst hkq
    have hl : q0 < ws.length := (List.getElem?_eq_some_iff.mp hq).1
    rw [List.getElem?_set_self hl] at hk
    cases hk
    exact he (h q0 _ hq)
  · rw [List.getElem?_set_ne hkq] at hk
    exact h k q hk
theorem va_at_q {D : va_G} {cl : List vw_C} {a n : Nat} {cA : ClassId} {f g : Nat → Option Nat} {H : Heap} (hfg : ∀ j, j < n → f j = g j) (h : va_at D cl (a, .inl (cA, n, .inr (.inr (.inr (.inr f))))) H) : va_at D cl (a, .inl (cA, n, .inr (.inr (.inr (.inr g))))) H := by
  have e : vp_cell cA (n, .inr (.inr (.inr (.inr f)))) = vp_cell cA (n, .inr (.inr (.inr (.inr g)))) := arrV_congr (f := fun j => va_rf (f j)) (g := fun j => va_rf (g j)) (fun j hj => congrArg va_rf (hfg j hj))
  show H[a]? = some (vp_cell cA (n, .inr (.inr (.inr (.inr g)))))
  rw [← e]
  exact h
theorem j_arq {a n : Nat} {cA : ClassId} {f g : Nat → Option Nat} (q0 : Nat) (he : w[q0]? = some (a, .inl (cA, n, .inr (.inr (.inr (.inr f)))))) (hfg : ∀ j, j < n → f j = g j) (w2 : va_W) (hw : w.set q0 (a, .inl (cA, n, .inr (.inr (.inr (.inr g))))) = w2) (K : WJ p l e R s m args below meth c G A nL cells slots Q w2 lv pc st) : WJ p l e R s m args below meth c G A nL cells slots Q w lv pc st := by
  subst hw
  exact fun H locs ls hP hD hS hl => K H locs ls (va_P_up hP he (va_at_q hfg)) (hD.set he) hS hl
theorem fl_snoc (bs : List va_W) (x : Nat × va_E) : fl bs ++ [x] = fl (bs ++ [[x]]) := by
  rw [← fl_app, fl_one]
/-- a contract of a constructor: it gives addresses -/
def CtN (l : Launch) (y : MethodName) (b : ByteArray) (n : Nat) (rm : Room) (G : GG) (av : List Value) (w : va_W) {S : Type} (P : S → Prop) (w' : S → va_W) : Prop := ∀ sz : Nat, Met l y (.code y b n none :: AW) rm (PreG G av w sz) (va_Qv P (fun u t => va_P G.1 vwCl (w' u) t.heap ∧ va_D (va_A w sz) (w' u)) (va_A w sz)) rm.cells rm.slots (va_A w sz)
theorem ct_N {l : Launch} {y : MethodName} {b : ByteArray} {n : Nat} {rm : Room} {G : GG} {av : List Value} {w : va_W} {S : Type} {P : S → Prop} {w' : S → va_W} (own : String) (lv0 : List (Nat × Value)) (hcls : y.cls = own) (hpl : plainName y.cls = true) (hn : (lg_sl av).length ≤ n) (hlv : lv_args 0 av = lv0)
    (K : ∀ (p : Program) (e : Env) (s : State) (m : MethodId) (args : Array Value) (below : List Frame) (meth : Method) (c : Code) (A : Nat → Prop), Cx p s m args c b n own G A → meth.sig.returnType = none → meth.locks = false → meth.name = y.name → WJ p l e rm s m args below meth c G A n 0 0 (MQ below (va_Qv P (fun u t => va_P G.1 vwCl (w' u) t.heap ∧ va_D A (w' u)) A) args s rm.cells rm.slots A) w lv0 0 []) : CtN l y b n rm G av w P w' := by
  intro sz
  refine Met.ofW (cc := b) (maxL := n) (ret := none) hpl rfl ?_
  intro p e s m args below meth c s₁ B hml hv
  obtain ⟨rfl, hsz, hP, hK, hD0, hN, hG⟩ := hv
  have hts := atoms_spec (ws := .code y b n none :: AW) B.pre
  have hown : s.vm.findClass own = some m.cls := by rw [← hcls]; exact findClass_of_methodNamed B.named
  subst hsz
  have hD := hD0.self (sz := s.heap.size)
  have hl := lv_entry av (n := n) hn
  rw [lg_entry_eq]
  exact K p e s m _ below meth c (va_A w s.heap.size) ⟨B.exec, B.bytes, hml, hown, fun w h => hts w (List.mem_cons_of_mem _ h), hK, fun q h => Or.inr h, hN, hG⟩ B.returns B.notSynchronized (name_of_methodNamed B.named B.method).1 s.heap [] _ hP hD va_S.rf (hlv ▸ hl)
theorem j_nret (C : Cx p s m args c cc nL own G A) (hr : meth.sig.returnType = none) (hk : meth.locks = false) {S : Type} {P : S → Prop} {w' : S → va_W} (u : S) (hu : P u) (hw : w = w' u) {k n : Nat} (h1 : cells ≤ k) (h2 : slots ≤ n) (d : decode cc pc = .ok (.return_, 1)) : WJ p l e R s m args below meth c G A nL cells slots (MQ below (va_Qv P (fun u t => va_P G.1 vwCl (w' u) t.heap ∧ va_D A (w' u)) A) args s k n A) w lv pc [] := by
  subst hw
  refine j_widen h1 h2 ?_
  intro H locs ls hP hD hS hl
  exact W.vret C.1 C.2.1 hr (fun t ht hW => ⟨⟨u, rfl, hu, by rw [ht]; exact hP, hD⟩, hS.F ht⟩) hS.2.2 d hk
theorem j_callI_n (C : Cx p s m args c cc nL own G A) {y : MethodName} {idx n' : Nat} {b : ByteArray} {rm : Room} {a : Nat} {As st0 : List Value} {wc : va_W} {S : Type} {P : S → Prop} {wc' : S → va_W} (M : CtN l y b n' rm G (.ref a :: As) wc P wc') (nA : Nat) (g : Cond.code y b n' none ∈ AW) (hini : Cond.initialized y.cls ∈ AW) (hlk : Cond.methodLink own idx y ∈ AW) (hinm : Cond.instanceMethod y ∈ AW) (hy1 : y.name = "<init>") (hd : y.cls ≠ "java/lang/invoke/MethodHandle" ∧ y.cls ≠ "java/lang/invoke/VarHandle" ∧ (parseMethodDescriptor y.desc).map (fun d => d.parameters.length) = some nA) (hR : rm.frames + 1 ≤ R.frames ∧ 8 + (n' + 11) + rm.locals ≤ R.locals) (hA' : As.length = nA) (hst : st0 = As.reverse ++ .ref a :: st) (hW : (st.map fun v => v.category).sum ≤ 8) (d : decode cc pc = .ok (.invokespecial idx, 3)) (hf : cells + rm.cells ≤ R.cells ∧ slots + rm.slots ≤ R.slots) (wr : va_W) (hp : w.Perm (wc ++ wr)) (K : ∀ u : S, P u → WJ p l e R s m args below meth c G A nL (cells + rm.cells) (slots + rm.slots) Q (wc' u ++ wr) lv (pc + 3) st) : WJ p l e R s m args below meth c G A nL cells slots Q w lv pc st0 := by
  subst hst
  intro H locs ls hP hD hS hl
  have hP := hP.perm hp
  have hD := hD.perm hp
  have hPc := hP.left
  have hDc := hD.left
  have hFc := free_left hD hS C.2.2.2.2.2.2.1
  refine va_callv (va_runI (As := As) (rest := st) ⟨C.1, C.2.1, C.2.2.1, C.2.2.2.1, C.2.2.2.2.1⟩ (M H.size) (cwI nA C.2.2.2.2.1 (aw_g (aw_1 g)) rfl rfl rfl (C.2.2.2.2.1 _ hini) (C.2.2.2.2.1 _ hlk) (C.2.2.2.2.1 _ hinm) hy1 hd hR) ⟨PreG.blind, fun U hU hW' => ⟨rfl, by rw [hU], by rw [hU]; exact hPc, va_K.moved hW'.alike C.2.2.2.2.2.1, hDc.weaken (fun _ _ _ _ => trivial), NW.warm hW' C.2.2.2.2.2.2.2.1, by rw [hU]; exact ((GS.kept C.2.2.2.2.2.2.2.2 (fun a h1 h2 => hS.2.1 a h1 h2)).narrow hFc).moved hW'.alike⟩⟩ rfl hA' hl.1 rfl (lv_room hW) d hf) hS (fun q _ h => hFc q h) hFc (fun u t H1 locs1 ht hvm hw hB hz1 hk1 hS1 => ?_)
  obtain ⟨hP1, hD1⟩ := hB
  rw [ht] at hP1
  obtain ⟨hP2, hD2⟩ := join_left hP hD hk1 hFc hP1 hD1
  exact K u hw H1 locs1 ls hP2 hD2 hS1 hl
theorem j_callIN_n (C : Cx p s m args c cc nL own G A) {y : MethodName} {idx n' : Nat} {b : ByteArray} {rm : Room} {a : Nat} {As st0 : List Value} {wc : va_W} {S : Type} {P : S → Prop} {wc' : S → va_W} (M : CtN l y b n' rm G (.ref a :: As) wc P wc') (nA : Nat) {host : String} (g : Cond.code y b n' none ∈ AW) (hnest : Cond.methodLinkNest own idx y host ∈ nestL) (hini : Cond.initialized y.cls ∈ AW) (hinm : Cond.instanceMethod y ∈ AW) (hy1 : y.name = "<init>") (hd : y.cls ≠ "java/lang/invoke/MethodHandle" ∧ y.cls ≠ "java/lang/invoke/VarHandle" ∧ (parseMethodDescriptor y.desc).map (fun d => d.parameters.length) = some nA) (hR : rm.frames + 1 ≤ R.frames ∧ 8 + (n' + 11) + rm.locals ≤ R.locals) (hA' : As.length = nA) (hst : st0 = As.reverse ++ .ref a :: st) (hW : (st.map fun v => v.category).sum ≤ 8) (d : decode cc pc = .ok (.invokespecial idx, 3)) (hf : cells + rm.cells ≤ R.cells ∧ slots + rm.slots ≤ R.slots) (wr : va_W) (hp : w.Perm (wc ++ wr)) (K : ∀ u : S, P u → WJ p l e R s m args below meth c G A nL (cells + rm.cells) (slots + rm.slots) Q (wc' u ++ wr) lv (pc + 3) st) : WJ p l e R s m args below meth c G A nL cells slots Q w lv pc st0 := by
  subst hst
  intro H locs ls hP hD hS hl
  have hP := hP.perm hp
  have hD := hD.perm hp
  have hPc := hP.left
  have hDc := hD.left
  have hFc := free_left hD hS C.2.2.2.2.2.2.1
  refine va_callv (va_runIN (As := As) (rest := st) ⟨C.1, C.2.1, C.2.2.1, C.2.2.2.1, C.2.2.2.2.1⟩ (M H.size) ⟨va_cnB nA C.2.2.2.2.1 (aw_g (aw_1 g)) rfl rfl rfl (C.2.2.2.2.2.2.2.1.1 _ hnest) (C.2.2.2.2.1 _ hini) hd hR, hy1, C.2.2.2.2.1 _ hinm⟩ ⟨PreG.blind, fun U hU hW' => ⟨rfl, by rw [hU], by rw [hU]; exact hPc, va_K.moved hW'.alike C.2.2.2.2.2.1, hDc.weaken (fun _ _ _ _ => trivial), NW.warm hW' C.2.2.2.2.2.2.2.1, by rw [hU]; exact ((GS.kept C.2.2.2.2.2.2.2.2 (fun a h1 h2 => hS.2.1 a h1 h2)).narrow hFc).moved hW'.alike⟩⟩ rfl hA' hl.1 rfl (lv_room hW) d hf) hS (fun q _ h => hFc q h) hFc (fun u t H1 locs1 ht hvm hw hB hz1 hk1 hS1 => ?_)
  obtain ⟨hP1, hD1⟩ := hB
  rw [ht] at hP1
  obtain ⟨hP2, hD2⟩ := join_left hP hD hk1 hFc hP1 hD1
  exact K u hw H1 locs1 ls hP2 hD2 hS1 hl
/-- a whole static array of seven ints is copied -/
theorem j_copyS (C : Cx p s m args c cc nL own G A) {idx a t : Nat} {f g : Nat → Int32} (hX : va_T .int t 7 (fun k => .int (f k)) A s s.heap) (hl : Cond.methodLink own idx arraycopyName ∈ AW) (q1 : Nat) (he1 : w[q1]? = some (aI G a 7 g)) (hR : 1 ≤ R.frames) (hlo : 8 + (nativeFrameWords "java/lang/System" "arraycopy" 5 + 11) ≤ R.locals) (hst : (st.map fun v => v.category).sum ≤ 8) (w2 : va_W) (hw : w.set q1 (aI G a 7 f) = w2) (d : decode cc pc = .ok (.invokestatic idx, 3)) (K : WJ p l e R s m args below meth c G A nL cells slots Q w2 lv (pc + 3) st) : WJ p l e R s m args below meth c G A nL cells slots Q w lv pc (.int 7 :: .int 0 :: .ref a :: .int 0 :: .ref t :: st) := by
  subst hw
  intro H locs ls hP hD hS hl9
  have K1 : ∀ (H1 : Heap) (locs1 : List Loc), va_P G.1 vwCl (w.set q1 (a, .inl (G.2.1 2, 7, .inl (va_cpy f g 0 0 7)))) H1 → va_D A (w.set q1 (a, .inl (G.2.1 2, 7, .inl (va_cpy f g 0 0 7)))) → va_S A s.heap H1 locs1 → W p l e R s m args below meth c H1 locs1 cells slots Q (F0 m (pc + 3) ls st) := fun H1 locs1 h1 h2 h3 => K H1 locs1 ls (va_P_at h1 (fun h => va_at_i (fun j hj => (pk_cpy_in (show 0 ≤ j from Nat.zero_le _) (show j < 0 + 7 by omega)).trans (congrArg f (show 0 + (j - 0) = j by omega))) h)) (hD.set he1) h3 hl9
  intro T hT X
  obtain ⟨src, x1, x2, x3, x4, -, x5, x7⟩ := hX
  have y0 : H[t]? = some src := by rw [hS.2.1 t (Array.getElem?_eq_some_iff.mp x1).1 x7]; exact x1
  have y1 : H[a]? = some (vp_cell (G.2.1 2) (7, .inl g)) := hP q1 _ he1
  obtain ⟨x6, k0, hk0, cm0, hkk0⟩ := x2
  obtain ⟨-, k1, hk1, cm1, hkk1⟩ := (C.2.2.2.2.2.1.2 2 (G.2.1 2, .int) rfl).1 7 (fun j => .int (g j))
  have sz : ((arrV (G.2.1 2) 7 (fun j => .int (g j))).slots.size : Int) = 7 := by rw [arrV_size]; rfl
  obtain ⟨vm', X', step⟩ := X.arraycopy C.1 C.2.2.2.1 (C.2.2.2.2.1 _ hl) (C.2.2.2.2.1 _ aw_ac_native) (C.2.2.2.2.1 _ aw_ac_static) (C.2.2.2.2.1 _ aw_ac_ini) (src := t) (dst := a) (cs := src) (cd := vp_cell (G.2.1 2) (7, .inl g)) (srcPos := 0) (destPos := 0) (n := 7) (by rw [hT]; exact y0) (by rw [hT]; exact y1)
    x6 (fun _ h => by cases h) x3 (fun h => by cases h) hk0 hk1 hkk0 hkk1 (by simp [refKind]) (by decide) (by decide) (by decide)
    (by rw [show (0 : Int32).toInt = 0 by decide, show (7 : Int32).toInt = 7 by decide]; omega)
    (by rw [show (0 : Int32).toInt = 0 by decide, show (7 : Int32).toInt = 7 by decide]; show ¬ _ > ((arrV (G.2.1 2) 7 (fun j => .int (g j))).slots.size : Int); rw [sz]; omega)
    (fun vm₁ _ i hi => by
      have hi7 : i < 7 := hi
      have e0 : src.slots.getD ((0 : Int32).toNatClampNeg + i) .null = .int (f i) := by
        rw [show (0 : Int32).toNatClampNeg + i = i from Nat.zero_add i, Array.getD_eq_getD_getElem?, x5 i hi7]
        rfl
      refine ⟨?_, ?_⟩
      · rw [e0]
        rfl
      · rw [e0]
        exact trivial)
    (g := F0 m pc ls (.int 7 :: .int 0 :: .ref a :: .int 0 :: .ref t :: st)) rfl (by rw [C.2.2.1]; exact hl9.1) (rest := st) rfl (by rw [C.2.1]; exact d) hR (by show 2 * 0 + _ + _ ≤ _; omega)
  have e1 : copied src (vp_cell (G.2.1 2) (7, .inl g)) 0 0 7 = vp_cell (G.2.1 2) (7, .inl (va_cpy f g 0 0 7)) := va_copiedX (fun z => .int z) src (G.2.1 2) f g x5 (by decide)
  rw [e1] at X' step
  have hla : a < H.size := (Array.getElem?_eq_some_iff.mp y1).1
  have hheap : ((T.setVm vm').setCell a (vp_cell (G.2.1 2) (7, .inl (va_cpy f g 0 0 7)))).heap = H.setIfInBounds a (vp_cell (G.2.1 2) (7, .inl (va_cpy f g 0 0 7))) := by rw [← hT]; rfl
  have oq : ∀ q : Nat, q ≠ a → (H.setIfInBounds a (vp_cell (G.2.1 2) (7, .inl (va_cpy f g 0 0 7))))[q]? = H[q]? := fun q hq => by simp [Array.getElem?_setIfInBounds, Ne.symm hq]
  obtain ⟨t', a1, b1⟩ := K1 _ _ (hP.set hD he1 (show (H.setIfInBounds a _)[a]? = some _ by simp [Array.getElem?_setIfInBounds, hla]) oq) (hD.set he1) ⟨by simp; exact hS.1, fun q g1 g2 => by
      rw [oq q (fun e => g2 (by rw [e]; exact hD.2 q1 _ he1))]
      exact hS.2.1 q g1 g2, fun q hq => by
      rcases List.mem_append.mp hq with h | h
      · exact hS.2.2 q h
      · obtain ⟨z, -, hz⟩ := List.mem_map.mp h
        rw [← hz]
        exact hD.2 q1 _ he1⟩ _ hheap X'
  exact ⟨t', step t' a1, b1⟩
end MAKE
abbrev fsX0 : List Value := [.int 0, .int 0, .int 0, .int 0, .int 0, .int 0, .int 0, .int 0, .int 0, .int 0, .long 0, .null]
theorem df_X0 : ∀ j, j < 12 → defaultValue (tyX0 j) = vp_V fsX0 j := by
  intro j hj
  rcases (show j = 0 ∨ j = 1 ∨ j = 2 ∨ j = 3 ∨ j = 4 ∨ j = 5 ∨ j = 6 ∨ j = 7 ∨ j = 8 ∨ j = 9 ∨ j = 10 ∨ j = 11 by omega) with rfl | rfl | rfl | rfl | rfl | rfl | rfl | rfl | rfl | rfl | rfl | rfl <;> rfl
abbrev fsX1 : List Value := [.null, .int 0, .int 0]
theorem df_X1 : ∀ j, j < 3 → defaultValue (tyX1 j) = vp_V fsX1 j := by
  intro j hj
  rcases (show j = 0 ∨ j = 1 ∨ j = 2 by omega) with rfl | rfl | rfl <;> rfl
abbrev fsX2 : List Value := [.null, .int 0, .int 0, .int 0, .int 0, .int 0, .int 0]
theorem df_X2 : ∀ j, j < 7 → defaultValue (tyX2 j) = vp_V fsX2 j := by
  intro j hj
  rcases (show j = 0 ∨ j = 1 ∨ j = 2 ∨ j = 3 ∨ j = 4 ∨ j = 5 ∨ j = 6 by omega) with rfl | rfl | rfl | rfl | rfl | rfl | rfl <;> rfl
abbrev fsX3 : List Value := [.null, .null, .int 0, .int 0, .int 0, .int 0, .int 0]
theorem df_X3 : ∀ j, j < 7 → defaultValue (tyX3 j) = vp_V fsX3 j := by
  intro j hj
  rcases (show j = 0 ∨ j = 1 ∨ j = 2 ∨ j = 3 ∨ j = 4 ∨ j = 5 ∨ j = 6 by omega) with rfl | rfl | rfl | rfl | rfl | rfl | rfl <;> rfl
abbrev fsX4 : List Value := [.null, .null, .null, .null, .null, .null, .null]
theorem df_X4 : ∀ j, j < 7 → defaultValue (tyX4 j) = vp_V fsX4 j := by
  intro j hj
  rcases (show j = 0 ∨ j = 1 ∨ j = 2 ∨ j = 3 ∨ j = 4 ∨ j = 5 ∨ j = 6 by omega) with rfl | rfl | rfl | rfl | rfl | rfl | rfl <;> rfl
