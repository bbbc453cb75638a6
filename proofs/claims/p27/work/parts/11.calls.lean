theorem aw_mmin_static : Cond.static Lib.Math.min.name ∈ AW := by decide +kernel
theorem aw_math_ini : Cond.initialized "java/lang/Math" ∈ AW := by decide +kernel
theorem aw_mmin_code : Cond.code Lib.Math.min.name Lib.Math.min.code 2 (some .int) ∈ AW := by decide +kernel
/-! CONTRACTS over the layer: CtI, CtL, CtV, CtF (answers an int, a long, nothing): from the cells w to the cells w', the answer is r -/
def PreG (G : GG) (av : List Value) (w : va_W) (sz : Nat) : Array Value → State → Prop := va_Pc av (fun U => U.heap.size = sz ∧ va_P G.1 vwCl w U.heap ∧ va_K G.1 vwCl (TY G) U ∧ va_D (fun _ => True) w ∧ NW U ∧ GS G (va_A w sz) U U.heap)
theorem PreG.blind {G : GG} {av : List Value} {w : va_W} {sz : Nat} : FrameBlind (PreG G av w sz) := fun a U g mk q => by
  obtain ⟨h0, h1, h2, h3, h4, h5, h6⟩ := q
  exact ⟨h0, h1, h2, va_K.moved (u := U) (U := U.calling g mk a) (Vm.Alike.refl U.vm) h3, h4, NW.same (u := U) rfl h5, GS.moved (u := U) (Vm.Alike.refl U.vm) h6⟩
abbrev EndQ (G : GG) (A : Nat → Prop) (w' : va_W) : Unit → State → Prop := fun _ t => va_P G.1 vwCl w' t.heap ∧ va_D A w'
abbrev PostI (G : GG) (A : Nat → Prop) (r : Int32) (w' : va_W) : Array Value → State → Outcome → State → Prop := va_Qi (fun (x : Int32) (_ : Unit) => x = r) (EndQ G A w') A
abbrev PostL (G : GG) (A : Nat → Prop) (r : Int64) (w' : va_W) : Array Value → State → Outcome → State → Prop := va_Ql (fun (x : Int64) (_ : Unit) => x = r) (EndQ G A w') A
abbrev PostV (G : GG) (A : Nat → Prop) (w' : va_W) : Array Value → State → Outcome → State → Prop := va_Qv (fun (_ : Unit) => True) (EndQ G A w') A
def CtI (l : Launch) (y : MethodName) (b : ByteArray) (n : Nat) (ret : Option FieldType) (rm : Room) (G : GG) (av : List Value) (w : va_W) (r : Int32) (w' : va_W) : Prop := ∀ sz : Nat, Met l y (.code y b n ret :: AW) rm (PreG G av w sz) (PostI G (va_A w sz) r w') rm.cells rm.slots (va_A w sz)
def CtL (l : Launch) (y : MethodName) (b : ByteArray) (n : Nat) (ret : Option FieldType) (rm : Room) (G : GG) (av : List Value) (w : va_W) (r : Int64) (w' : va_W) : Prop := ∀ sz : Nat, Met l y (.code y b n ret :: AW) rm (PreG G av w sz) (PostL G (va_A w sz) r w') rm.cells rm.slots (va_A w sz)
def CtV (l : Launch) (y : MethodName) (b : ByteArray) (n : Nat) (ret : Option FieldType) (rm : Room) (G : GG) (av : List Value) (w : va_W) (w' : va_W) : Prop := ∀ sz : Nat, Met l y (.code y b n ret :: AW) rm (PreG G av w sz) (PostV G (va_A w sz) w') rm.cells rm.slots (va_A w sz)
/-- the room of a method that makes nothing, at depth d -/
abbrev RM (d : Nat) : Room := { frames := d, cells := 0, slots := 0, locals := 40 * d }
abbrev RC (d k n : Nat) : Room := { frames := d, cells := k, slots := n, locals := 40 * d }
theorem fm_of_map {α β : Type} {f : α → Option β} : ∀ {is : List α} {w : List β}, is.map f = w.map some → is.filterMap f = w
  | [], [], _ => rfl
  | [], _ :: _, h => by simp at h
  | _ :: _, [], h => by simp at h
  | i :: is, x :: w, h => by
    simp only [List.map_cons, List.cons.injEq] at h
    rw [List.filterMap_cons, h.1]
    exact congrArg (x :: ·) (fm_of_map h.2)

theorem range_map {α : Type} (w : List α) : (List.range w.length).map (fun i => w[i]?) = w.map some := by
  apply List.ext_getElem?
  intro k
  rw [List.getElem?_map, List.getElem?_map]
  by_cases h : k < w.length
  · rw [List.getElem?_range h, List.getElem?_eq_getElem h]
    simp [List.getElem?_eq_getElem h]
  · rw [List.getElem?_eq_none (by simpa using h), List.getElem?_eq_none (by simpa using h)]
    rfl
def pchk (is : List Nat) (n : Nat) : Bool := va_nd is && is.all (fun i => decide (i < n)) && (List.range n).all (fun i => is.contains i)
theorem va_nd_nodup : ∀ {l : List Nat}, va_nd l = true → l.Nodup
  | [], _ => List.nodup_nil
  | a :: l, h => by
    simp only [va_nd, Bool.and_eq_true, decide_eq_true_eq] at h
    exact List.nodup_cons.mpr ⟨h.1, va_nd_nodup h.2⟩
theorem perm_idx {α : Type} {w w' : List α} (is : List Nat) (n : Nat) (hn : w.length = n) (his : pchk is n = true) (h : is.map (fun i => w[i]?) = w'.map some) : w.Perm w' := by
  simp only [pchk, Bool.and_eq_true, List.all_eq_true, decide_eq_true_eq, List.contains_iff_mem] at his
  have hp : is.Perm (List.range n) := (List.perm_ext_iff_of_nodup (va_nd_nodup his.1.1) List.nodup_range).mpr fun a => ⟨fun ha => List.mem_range.mpr (his.1.2 a ha), fun ha => his.2 a ha⟩
  have h2 := hp.filterMap (fun i => w[i]?)
  rw [fm_of_map h, ← hn, fm_of_map (range_map w)] at h2
  exact h2.symm
abbrev fl (bs : List va_W) : va_W := bs.flatten
theorem bperm {bs bs' : List va_W} (is : List Nat) (n : Nat) (hn : bs.length = n) (his : pchk is n = true) (h : is.map (fun i => bs[i]?) = bs'.map some) : (fl bs).Perm (fl bs') := (perm_idx is n hn his h).flatten
theorem fl_one (B : va_W) : fl [B] = B := List.append_nil B
theorem fl_app (a b : List va_W) : fl a ++ fl b = fl (a ++ b) := (List.flatten_append).symm
theorem bperm2 {bs bC bR : List va_W} (is : List Nat) (n : Nat) (hn : bs.length = n) (his : pchk is n = true) (h : is.map (fun i => bs[i]?) = (bC ++ bR).map some) : (fl bs).Perm (fl bC ++ fl bR) := by
  rw [fl_app]
  exact bperm is n hn his h
theorem va_P_iff {D : va_G} {cl : List vw_C} {ws : va_W} {H : Heap} : va_P D cl ws H ↔ ∀ q ∈ ws, va_at D cl q H :=
  ⟨fun h q hq => by
    obtain ⟨k, hk⟩ := List.getElem?_of_mem hq
    exact h k q hk, fun h k q hk => h q (List.mem_of_getElem? hk)⟩
theorem va_D_iff {A : Nat → Prop} {ws : va_W} : va_D A ws ↔ (ws.map Prod.fst).Nodup ∧ ∀ q ∈ ws, A q.1 := by
  constructor
  · intro h
    refine ⟨List.pairwise_iff_getElem.mpr ?_, fun q hq => ?_⟩
    · intro i j hi hj hij e
      rw [List.length_map] at hi hj
      rw [List.getElem_map, List.getElem_map] at e
      have := h.1 i j ws[i] ws[j] (List.getElem?_eq_getElem hi) (List.getElem?_eq_getElem hj) e
      omega
    · obtain ⟨k, hk⟩ := List.getElem?_of_mem hq
      exact h.2 k q hk
  · intro h
    have h1 := List.pairwise_iff_getElem.mp h.1
    refine ⟨fun i j p q hi hj e => ?_, fun k q hk => h.2 q (List.mem_of_getElem? hk)⟩
    obtain ⟨hi1, hi2⟩ := List.getElem?_eq_some_iff.mp hi
    obtain ⟨hj1, hj2⟩ := List.getElem?_eq_some_iff.mp hj
    rcases Nat.lt_trichotomy i j with g | g | g
    · exact absurd (by rw [List.getElem_map, List.getElem_map, hi2, hj2]; exact e) (h1 i j (by rw [List.length_map]; exact hi1) (by rw [List.length_map]; exact hj1) g)
    · exact g
    · exact absurd (by rw [List.getElem_map, List.getElem_map, hi2, hj2]; exact e.symm) (h1 j i (by rw [List.length_map]; exact hj1) (by rw [List.length_map]; exact hi1) g)
theorem va_P.perm {D : va_G} {cl : List vw_C} {w w' : va_W} {H : Heap} (h : va_P D cl w H) (p : w.Perm w') : va_P D cl w' H := va_P_iff.mpr fun q hq => va_P_iff.mp h q (p.mem_iff.mpr hq)
theorem va_D.perm {A : Nat → Prop} {w w' : va_W} (h : va_D A w) (p : w.Perm w') : va_D A w' := by
  obtain ⟨h1, h2⟩ := va_D_iff.mp h
  exact va_D_iff.mpr ⟨(p.map Prod.fst).nodup_iff.mp h1, fun q hq => h2 q (p.mem_iff.mpr hq)⟩
theorem va_P.left {D : va_G} {cl : List vw_C} {a b : va_W} {H : Heap} (h : va_P D cl (a ++ b) H) : va_P D cl a H := va_P_iff.mpr fun q hq => va_P_iff.mp h q (List.mem_append_left _ hq)
theorem va_D.left {A : Nat → Prop} {a b : va_W} (h : va_D A (a ++ b)) : va_D A a := by
  obtain ⟨h1, h2⟩ := va_D_iff.mp h
  rw [List.map_append] at h1
  exact va_D_iff.mpr ⟨(List.nodup_append.mp h1).1, fun q hq => h2 q (List.mem_append_left _ hq)⟩
theorem free_left {A0 : Nat → Prop} {wc wr : va_W} {H0 H : Heap} {locs : List Loc} (hD : va_D A0 (wc ++ wr)) (hS : va_S A0 H0 H locs) (hA : ∀ q, H0.size ≤ q → A0 q) : ∀ q, va_A wc H.size q → A0 q := by
  intro q h
  rcases h with ⟨k, e, h⟩ | h
  · exact (va_D_iff.mp hD).2 (q, e) (List.mem_append_left _ (List.mem_of_getElem? h))
  · exact hA q (Nat.le_trans hS.1 h)
theorem join_left {A0 : Nat → Prop} {D : va_G} {cl : List vw_C} {wc wr w1 : va_W} {H H1 : Heap} (hP : va_P D cl (wc ++ wr) H) (hD : va_D A0 (wc ++ wr)) (hk : ∀ q : Nat, q < H.size → ¬ va_A wc H.size q → H1[q]? = H[q]?) (hF : ∀ q, va_A wc H.size q → A0 q) (hP1 : va_P D cl w1 H1) (hD1 : va_D (va_A wc H.size) w1) : va_P D cl (w1 ++ wr) H1 ∧ va_D A0 (w1 ++ wr) := by
  have hp := va_P_iff.mp hP
  obtain ⟨d1, d2⟩ := va_D_iff.mp hD
  obtain ⟨e1, e2⟩ := va_D_iff.mp hD1
  rw [List.map_append] at d1
  have apart : ∀ q ∈ wr, q.1 < H.size ∧ ¬ va_A wc H.size q.1 := by
    intro q hq
    have hl := (hp q (List.mem_append_right _ hq)).lt
    refine ⟨hl, fun h => ?_⟩
    rcases h with ⟨k, e, h⟩ | h
    · exact (List.nodup_append.mp d1).2.2 q.1 (List.mem_map.mpr ⟨(q.1, e), List.mem_of_getElem? h, rfl⟩) q.1 (List.mem_map.mpr ⟨q, hq, rfl⟩) rfl
    · exact Nat.lt_irrefl _ (Nat.lt_of_lt_of_le hl h)
  refine ⟨va_P_iff.mpr fun q hq => ?_, va_D_iff.mpr ⟨?_, fun q hq => ?_⟩⟩
  · rcases List.mem_append.mp hq with h | h
    · exact va_P_iff.mp hP1 q h
    · exact (hp q (List.mem_append_right _ h)).kept (hk q.1 (apart q h).1 (apart q h).2)
  · rw [List.map_append]
    refine List.nodup_append.mpr ⟨e1, (List.nodup_append.mp d1).2.1, fun a ha b hb e => ?_⟩
    obtain ⟨p, hp1, hp2⟩ := List.mem_map.mp ha
    obtain ⟨q, hq1, hq2⟩ := List.mem_map.mp hb
    exact (apart q hq1).2 (by rw [hq2, ← e, ← hp2]; exact e2 p hp1)
  · rcases List.mem_append.mp hq with h | h
    · exact hF q.1 (e2 q h)
    · exact d2 q (List.mem_append_right _ h)
theorem aw_g {ws : List Cond} (h : ∀ w ∈ ws, w ∈ AW) : GoodIn AW ws := fun w hw => ⟨h w hw, good_of_word (List.all_eq_true.mp AW_good w (h w hw))⟩
theorem aw_1 {y : MethodName} {b : ByteArray} {n : Nat} {ret : Option FieldType} (h : Cond.code y b n ret ∈ AW) : ∀ w ∈ (.code y b n ret :: AW), w ∈ AW := fun w hw => (List.mem_cons.mp hw).elim (fun e => e ▸ h) id
theorem gV {own Cn : String} {idx : Nat} {y : MethodName} {b : ByteArray} {n : Nat} {ret : Option FieldType} (h1 : Cond.methodLink own idx y ∈ AW) (h2 : Cond.instanceMethod y ∈ AW) (h3 : Cond.selects Cn y y ∈ AW) (h4 : Cond.initialized Cn ∈ AW) (h5 : Cond.code y b n ret ∈ AW) : GoodIn AW (wsV own idx Cn y (.code y b n ret :: AW)) := aw_g fun w hw => by
  simp only [wsV, List.cons_append, List.nil_append] at hw
  rcases List.mem_cons.mp hw with rfl | hw
  · exact h1
  rcases List.mem_cons.mp hw with rfl | hw
  · exact h2
  rcases List.mem_cons.mp hw with rfl | hw
  · exact h3
  rcases List.mem_cons.mp hw with rfl | hw
  · exact h4
  exact aw_1 h5 w hw
theorem gS {own : String} {idx : Nat} {y : MethodName} {b : ByteArray} {n : Nat} {ret : Option FieldType} (h1 : Cond.methodLink own idx y ∈ AW) (h2 : Cond.static y ∈ AW) (h4 : Cond.initialized y.cls ∈ AW) (h5 : Cond.code y b n ret ∈ AW) : GoodIn AW (va_wsS own idx y (.code y b n ret :: AW)) := aw_g fun w hw => by
  simp only [va_wsS, List.cons_append, List.nil_append] at hw
  rcases List.mem_cons.mp hw with rfl | hw
  · exact h1
  rcases List.mem_cons.mp hw with rfl | hw
  · exact h2
  rcases List.mem_cons.mp hw with rfl | hw
  · exact h4
  exact aw_1 h5 w hw
theorem ct_I {l : Launch} {y : MethodName} {b : ByteArray} {n : Nat} {ret : Option FieldType} {rm : Room} {G : GG} {av : List Value} {w : va_W} {r : Int32} {w' : va_W} (own : String) (lv0 : List (Nat × Value)) (hcls : y.cls = own) (hpl : plainName y.cls = true) (hn : (lg_sl av).length ≤ n) (hlv : lv_args 0 av = lv0)
    (K : ∀ (p : Program) (e : Env) (s : State) (m : MethodId) (args : Array Value) (below : List Frame) (meth : Method) (c : Code) (A : Nat → Prop), Cx p s m args c b n own G A → meth.sig.returnType = ret → meth.locks = false → meth.name = y.name → WJ p l e rm s m args below meth c G A n 0 0 (MQ below (PostI G A r w') args s rm.cells rm.slots A) w lv0 0 []) : CtI l y b n ret rm G av w r w' := by
  intro sz
  refine Met.ofW (cc := b) (maxL := n) (ret := ret) hpl rfl ?_
  intro p e s m args below meth c s₁ B hml hv
  obtain ⟨rfl, hsz, hP, hK, hD0, hN, hG⟩ := hv
  have hts := atoms_spec (ws := .code y b n ret :: AW) B.pre
  have hown : s.vm.findClass own = some m.cls := by rw [← hcls]; exact findClass_of_methodNamed B.named
  subst hsz
  have hD := hD0.self (sz := s.heap.size)
  have hl := lv_entry av (n := n) hn
  rw [lg_entry_eq]
  exact K p e s m _ below meth c (va_A w s.heap.size) ⟨B.exec, B.bytes, hml, hown, fun w h => hts w (List.mem_cons_of_mem _ h), hK, fun q h => Or.inr h, hN, hG⟩ B.returns B.notSynchronized (name_of_methodNamed B.named B.method).1 s.heap [] _ hP hD va_S.rf (hlv ▸ hl)
theorem ct_L {l : Launch} {y : MethodName} {b : ByteArray} {n : Nat} {ret : Option FieldType} {rm : Room} {G : GG} {av : List Value} {w : va_W} {r : Int64} {w' : va_W} (own : String) (lv0 : List (Nat × Value)) (hcls : y.cls = own) (hpl : plainName y.cls = true) (hn : (lg_sl av).length ≤ n) (hlv : lv_args 0 av = lv0)
    (K : ∀ (p : Program) (e : Env) (s : State) (m : MethodId) (args : Array Value) (below : List Frame) (meth : Method) (c : Code) (A : Nat → Prop), Cx p s m args c b n own G A → meth.sig.returnType = ret → meth.locks = false → meth.name = y.name → WJ p l e rm s m args below meth c G A n 0 0 (MQ below (PostL G A r w') args s rm.cells rm.slots A) w lv0 0 []) : CtL l y b n ret rm G av w r w' := by
  intro sz
  refine Met.ofW (cc := b) (maxL := n) (ret := ret) hpl rfl ?_
  intro p e s m args below meth c s₁ B hml hv
  obtain ⟨rfl, hsz, hP, hK, hD0, hN, hG⟩ := hv
  have hts := atoms_spec (ws := .code y b n ret :: AW) B.pre
  have hown : s.vm.findClass own = some m.cls := by rw [← hcls]; exact findClass_of_methodNamed B.named
  subst hsz
  have hD := hD0.self (sz := s.heap.size)
  have hl := lv_entry av (n := n) hn
  rw [lg_entry_eq]
  exact K p e s m _ below meth c (va_A w s.heap.size) ⟨B.exec, B.bytes, hml, hown, fun w h => hts w (List.mem_cons_of_mem _ h), hK, fun q h => Or.inr h, hN, hG⟩ B.returns B.notSynchronized (name_of_methodNamed B.named B.method).1 s.heap [] _ hP hD va_S.rf (hlv ▸ hl)
theorem ct_V {l : Launch} {y : MethodName} {b : ByteArray} {n : Nat} {ret : Option FieldType} {rm : Room} {G : GG} {av : List Value} {w : va_W}  {w' : va_W} (own : String) (lv0 : List (Nat × Value)) (hcls : y.cls = own) (hpl : plainName y.cls = true) (hn : (lg_sl av).length ≤ n) (hlv : lv_args 0 av = lv0)
    (K : ∀ (p : Program) (e : Env) (s : State) (m : MethodId) (args : Array Value) (below : List Frame) (meth : Method) (c : Code) (A : Nat → Prop), Cx p s m args c b n own G A → meth.sig.returnType = ret → meth.locks = false → meth.name = y.name → WJ p l e rm s m args below meth c G A n 0 0 (MQ below (PostV G A w') args s rm.cells rm.slots A) w lv0 0 []) : CtV l y b n ret rm G av w w' := by
  intro sz
  refine Met.ofW (cc := b) (maxL := n) (ret := ret) hpl rfl ?_
  intro p e s m args below meth c s₁ B hml hv
  obtain ⟨rfl, hsz, hP, hK, hD0, hN, hG⟩ := hv
  have hts := atoms_spec (ws := .code y b n ret :: AW) B.pre
  have hown : s.vm.findClass own = some m.cls := by rw [← hcls]; exact findClass_of_methodNamed B.named
  subst hsz
  have hD := hD0.self (sz := s.heap.size)
  have hl := lv_entry av (n := n) hn
  rw [lg_entry_eq]
  exact K p e s m _ below meth c (va_A w s.heap.size) ⟨B.exec, B.bytes, hml, hown, fun w h => hts w (List.mem_cons_of_mem _ h), hK, fun q h => Or.inr h, hN, hG⟩ B.returns B.notSynchronized (name_of_methodNamed B.named B.method).1 s.heap [] _ hP hD va_S.rf (hlv ▸ hl)
section LAYC
variable {p : Program} {l : Launch} {e : Env} {R : Room} {s : State} {m : MethodId} {args : Array Value} {below : List Frame} {meth : Method} {c : Code} {cc : ByteArray} {own : String} {G : GG} {A : Nat → Prop} {nL cells slots : Nat} {Q : State → Prop} {w : va_W} {lv : List (Nat × Value)} {pc : Nat} {st : List Value}
theorem j_iret (C : Cx p s m args c cc nL own G A) (hr : meth.sig.returnType = some .int) (hk : meth.locks = false) {v r : Int32} {w' : va_W} (hv : v = r) (hw : w = w') (d : decode cc pc = .ok (.ireturn, 1)) : WJ p l e R s m args below meth c G A nL cells slots (MQ below (PostI G A r w') args s cells slots A) w lv pc [.int v] := by
  subst hv hw
  intro H locs ls hP hD hS hl
  exact W.iret C.1 C.2.1 hr (fun t ht hW => ⟨⟨v, (), rfl, rfl, by rw [ht]; exact hP, hD⟩, hS.F ht⟩) hS.2.2 d hk
theorem j_zret (C : Cx p s m args c cc nL own G A) {ty : FieldType} (hr : meth.sig.returnType = some ty) (hk : meth.locks = false) {v r : Int32} {w' : va_W} (hn : narrow ty (.int v) = .int v) (hv : v = r) (hw : w = w') (d : decode cc pc = .ok (.ireturn, 1)) : WJ p l e R s m args below meth c G A nL cells slots (MQ below (PostI G A r w') args s cells slots A) w lv pc [.int v] := by
  subst hv hw
  intro H locs ls hP hD hS hl
  exact W.zret C.1 C.2.1 hr hn (fun t ht hW => ⟨⟨v, (), rfl, rfl, by rw [ht]; exact hP, hD⟩, hS.F ht⟩) hS.2.2 d hk
theorem j_lret (C : Cx p s m args c cc nL own G A) (hr : meth.sig.returnType = some .long) (hk : meth.locks = false) {v r : Int64} {w' : va_W} (hv : v = r) (hw : w = w') (d : decode cc pc = .ok (.lreturn, 1)) : WJ p l e R s m args below meth c G A nL cells slots (MQ below (PostL G A r w') args s cells slots A) w lv pc [.long v] := by
  subst hv hw
  intro H locs ls hP hD hS hl
  exact W.lret C.1 C.2.1 hr (fun t ht hW => ⟨⟨v, (), rfl, rfl, by rw [ht]; exact hP, hD⟩, hS.F ht⟩) hS.2.2 d hk
theorem j_vret (C : Cx p s m args c cc nL own G A) (hr : meth.sig.returnType = none) (hk : meth.locks = false) {w' : va_W} (hw : w = w') (d : decode cc pc = .ok (.return_, 1)) : WJ p l e R s m args below meth c G A nL cells slots (MQ below (PostV G A w') args s cells slots A) w lv pc [] := by
  subst hw
  intro H locs ls hP hD hS hl
  exact W.vret C.1 C.2.1 hr (fun t ht hW => ⟨⟨(), rfl, trivial, by rw [ht]; exact hP, hD⟩, hS.F ht⟩) hS.2.2 d hk
theorem j_perm (w2 : va_W) (hp : w.Perm w2) (K : WJ p l e R s m args below meth c G A nL cells slots Q w2 lv pc st) : WJ p l e R s m args below meth c G A nL cells slots Q w lv pc st := fun H locs ls hP hD hS hl => K H locs ls (hP.perm hp) (hD.perm hp) hS hl
theorem j_lv (ks : List Nat) (lv' : List (Nat × Value)) (h : lv_pick lv ks = lv') (K : WJ p l e R s m args below meth c G A nL cells slots Q w lv' pc st) : WJ p l e R s m args below meth c G A nL cells slots Q w lv pc st := fun H locs ls hP hD hS hl => K H locs ls hP hD hS (lv_sub hl ks h)
theorem j_w (w2 : va_W) (h : w = w2) (K : WJ p l e R s m args below meth c G A nL cells slots Q w2 lv pc st) : WJ p l e R s m args below meth c G A nL cells slots Q w lv pc st := h ▸ K
theorem j_widen {k n : Nat} (h1 : cells ≤ k) (h2 : slots ≤ n) (K : WJ p l e R s m args below meth c G A nL k n Q w lv pc st) : WJ p l e R s m args below meth c G A nL cells slots Q w lv pc st := fun H locs ls hP hD hS hl => W.widen h1 h2 (K H locs ls hP hD hS hl)
theorem j_callV_i (C : Cx p s m args c cc nL own G A) {y : MethodName} {idx n' : Nat} {b : ByteArray} {ret : Option FieldType} {rm : Room} {a : Nat} {As st0 : List Value} {wc wc' : va_W} {r : Int32} (M : CtI l y b n' ret rm G (.ref a :: As) wc r wc') {Cn : String} {T : u_T} {N ci : Nat} {fs : List Value} (hc : vwCl[ci]? = some (Cn, T, N)) (q0 : Nat) (he : wc[q0]? = some (a, .inr (ci, fs))) (nA : Nat) (g : GoodIn AW (wsV own idx Cn y (.code y b n' ret :: AW))) (hd : y.cls = Cn ∧ y.cls ≠ "java/lang/invoke/MethodHandle" ∧ y.cls ≠ "java/lang/invoke/VarHandle" ∧ (parseMethodDescriptor y.desc).map (fun d => d.parameters.length) = some nA) (hR : rm.frames + 1 ≤ R.frames ∧ 8 + (n' + 11) + rm.locals ≤ R.locals) (hA' : As.length = nA) (hst : st0 = As.reverse ++ .ref a :: st) (hW : (st.map fun v => v.category).sum ≤ 8) (d : decode cc pc = .ok (.invokevirtual idx, 3)) (hf : cells + rm.cells ≤ R.cells ∧ slots + rm.slots ≤ R.slots) (wr w2 : va_W) (hp : w.Perm (wc ++ wr)) (hw2 : wc' ++ wr = w2) (K : WJ p l e R s m args below meth c G A nL (cells + rm.cells) (slots + rm.slots) Q w2 lv (pc + 3) (.int r :: st)) : WJ p l e R s m args below meth c G A nL cells slots Q w lv pc st0 := by
  subst hst
  intro H locs ls hP hD hS hl
  have hP := hP.perm hp
  have hD := hD.perm hp
  have hPc := hP.left
  have hDc := hD.left
  have hFc := free_left hD hS C.2.2.2.2.2.2.1
  refine va_calli (va_runV (As := As) (rest := st) ⟨C.1, C.2.1, C.2.2.1, C.2.2.2.1, C.2.2.2.2.1⟩ (M H.size) (cwV nA C.2.2.2.2.1 g rfl rfl rfl hd hR) ⟨PreG.blind, va_recv C.2.2.2.2.2.1 hPc hc he, fun U hU hW' => ⟨rfl, by rw [hU], by rw [hU]; exact hPc, va_K.moved hW'.alike C.2.2.2.2.2.1, hDc.weaken (fun _ _ _ _ => trivial), NW.warm hW' C.2.2.2.2.2.2.2.1, by rw [hU]; exact ((GS.kept C.2.2.2.2.2.2.2.2 (fun a h1 h2 => hS.2.1 a h1 h2)).narrow hFc).moved hW'.alike⟩⟩ rfl hA' hl.1 rfl (lv_room hW) d hf) hS (fun q _ h => hFc q h) hFc (fun r' u t H1 locs1 ht hvm hw hB hz1 hk1 hS1 => ?_)
  subst hw
  obtain ⟨hP1, hD1⟩ := hB
  rw [ht] at hP1
  obtain ⟨hP2, hD2⟩ := join_left hP hD hk1 hFc hP1 hD1
  exact K H1 locs1 ls (hw2 ▸ hP2) (hw2 ▸ hD2) hS1 hl
theorem j_callV_l (C : Cx p s m args c cc nL own G A) {y : MethodName} {idx n' : Nat} {b : ByteArray} {ret : Option FieldType} {rm : Room} {a : Nat} {As st0 : List Value} {wc wc' : va_W} {r : Int64} (M : CtL l y b n' ret rm G (.ref a :: As) wc r wc') {Cn : String} {T : u_T} {N ci : Nat} {fs : List Value} (hc : vwCl[ci]? = some (Cn, T, N)) (q0 : Nat) (he : wc[q0]? = some (a, .inr (ci, fs))) (nA : Nat) (g : GoodIn AW (wsV own idx Cn y (.code y b n' ret :: AW))) (hd : y.cls = Cn ∧ y.cls ≠ "java/lang/invoke/MethodHandle" ∧ y.cls ≠ "java/lang/invoke/VarHandle" ∧ (parseMethodDescriptor y.desc).map (fun d => d.parameters.length) = some nA) (hR : rm.frames + 1 ≤ R.frames ∧ 8 + (n' + 11) + rm.locals ≤ R.locals) (hA' : As.length = nA) (hst : st0 = As.reverse ++ .ref a :: st) (hW : (st.map fun v => v.category).sum ≤ 8) (d : decode cc pc = .ok (.invokevirtual idx, 3)) (hf : cells + rm.cells ≤ R.cells ∧ slots + rm.slots ≤ R.slots) (wr w2 : va_W) (hp : w.Perm (wc ++ wr)) (hw2 : wc' ++ wr = w2) (K : WJ p l e R s m args below meth c G A nL (cells + rm.cells) (slots + rm.slots) Q w2 lv (pc + 3) (.long r :: st)) : WJ p l e R s m args below meth c G A nL cells slots Q w lv pc st0 := by
  subst hst
  intro H locs ls hP hD hS hl
  have hP := hP.perm hp
  have hD := hD.perm hp
  have hPc := hP.left
  have hDc := hD.left
  have hFc := free_left hD hS C.2.2.2.2.2.2.1
  refine va_calll (va_runV (As := As) (rest := st) ⟨C.1, C.2.1, C.2.2.1, C.2.2.2.1, C.2.2.2.2.1⟩ (M H.size) (cwV nA C.2.2.2.2.1 g rfl rfl rfl hd hR) ⟨PreG.blind, va_recv C.2.2.2.2.2.1 hPc hc he, fun U hU hW' => ⟨rfl, by rw [hU], by rw [hU]; exact hPc, va_K.moved hW'.alike C.2.2.2.2.2.1, hDc.weaken (fun _ _ _ _ => trivial), NW.warm hW' C.2.2.2.2.2.2.2.1, by rw [hU]; exact ((GS.kept C.2.2.2.2.2.2.2.2 (fun a h1 h2 => hS.2.1 a h1 h2)).narrow hFc).moved hW'.alike⟩⟩ rfl hA' hl.1 rfl (lv_room hW) d hf) hS (fun q _ h => hFc q h) hFc (fun r' u t H1 locs1 ht hvm hw hB hz1 hk1 hS1 => ?_)
  subst hw
  obtain ⟨hP1, hD1⟩ := hB
  rw [ht] at hP1
  obtain ⟨hP2, hD2⟩ := join_left hP hD hk1 hFc hP1 hD1
  exact K H1 locs1 ls (hw2 ▸ hP2) (hw2 ▸ hD2) hS1 hl
theorem j_callV_v (C : Cx p s m args c cc nL own G A) {y : MethodName} {idx n' : Nat} {b : ByteArray} {ret : Option FieldType} {rm : Room} {a : Nat} {As st0 : List Value} {wc wc' : va_W} (M : CtV l y b n' ret rm G (.ref a :: As) wc wc') {Cn : String} {T : u_T} {N ci : Nat} {fs : List Value} (hc : vwCl[ci]? = some (Cn, T, N)) (q0 : Nat) (he : wc[q0]? = some (a, .inr (ci, fs))) (nA : Nat) (g : GoodIn AW (wsV own idx Cn y (.code y b n' ret :: AW))) (hd : y.cls = Cn ∧ y.cls ≠ "java/lang/invoke/MethodHandle" ∧ y.cls ≠ "java/lang/invoke/VarHandle" ∧ (parseMethodDescriptor y.desc).map (fun d => d.parameters.length) = some nA) (hR : rm.frames + 1 ≤ R.frames ∧ 8 + (n' + 11) + rm.locals ≤ R.locals) (hA' : As.length = nA) (hst : st0 = As.reverse ++ .ref a :: st) (hW : (st.map fun v => v.category).sum ≤ 8) (d : decode cc pc = .ok (.invokevirtual idx, 3)) (hf : cells + rm.cells ≤ R.cells ∧ slots + rm.slots ≤ R.slots) (wr w2 : va_W) (hp : w.Perm (wc ++ wr)) (hw2 : wc' ++ wr = w2) (K : WJ p l e R s m args below meth c G A nL (cells + rm.cells) (slots + rm.slots) Q w2 lv (pc + 3) st) : WJ p l e R s m args below meth c G A nL cells slots Q w lv pc st0 := by
  subst hst
  intro H locs ls hP hD hS hl
  have hP := hP.perm hp
  have hD := hD.perm hp
  have hPc := hP.left
  have hDc := hD.left
  have hFc := free_left hD hS C.2.2.2.2.2.2.1
  refine va_callv (va_runV (As := As) (rest := st) ⟨C.1, C.2.1, C.2.2.1, C.2.2.2.1, C.2.2.2.2.1⟩ (M H.size) (cwV nA C.2.2.2.2.1 g rfl rfl rfl hd hR) ⟨PreG.blind, va_recv C.2.2.2.2.2.1 hPc hc he, fun U hU hW' => ⟨rfl, by rw [hU], by rw [hU]; exact hPc, va_K.moved hW'.alike C.2.2.2.2.2.1, hDc.weaken (fun _ _ _ _ => trivial), NW.warm hW' C.2.2.2.2.2.2.2.1, by rw [hU]; exact ((GS.kept C.2.2.2.2.2.2.2.2 (fun a h1 h2 => hS.2.1 a h1 h2)).narrow hFc).moved hW'.alike⟩⟩ rfl hA' hl.1 rfl (lv_room hW) d hf) hS (fun q _ h => hFc q h) hFc (fun u t H1 locs1 ht hvm hw hB hz1 hk1 hS1 => ?_)
  obtain ⟨hP1, hD1⟩ := hB
  rw [ht] at hP1
  obtain ⟨hP2, hD2⟩ := join_left hP hD hk1 hFc hP1 hD1
  exact K H1 locs1 ls (hw2 ▸ hP2) (hw2 ▸ hD2) hS1 hl
theorem j_callS_i (C : Cx p s m args c cc nL own G A) {y : MethodName} {idx n' : Nat} {b : ByteArray} {ret : Option FieldType} {rm : Room} {As st0 : List Value} {wc wc' : va_W} {r : Int32} (M : CtI l y b n' ret rm G As wc r wc') (nA : Nat) (g : GoodIn AW (va_wsS own idx y (.code y b n' ret :: AW))) (hd : y.cls ≠ "java/lang/invoke/MethodHandle" ∧ y.cls ≠ "java/lang/invoke/VarHandle" ∧ (parseMethodDescriptor y.desc).map (fun d => d.parameters.length) = some nA) (hR : rm.frames + 1 ≤ R.frames ∧ 8 + (n' + 11) + rm.locals ≤ R.locals) (hA' : As.length = nA) (hst : st0 = As.reverse ++ st) (hW : (st.map fun v => v.category).sum ≤ 8) (d : decode cc pc = .ok (.invokestatic idx, 3)) (hf : cells + rm.cells ≤ R.cells ∧ slots + rm.slots ≤ R.slots) (wr w2 : va_W) (hp : w.Perm (wc ++ wr)) (hw2 : wc' ++ wr = w2) (K : WJ p l e R s m args below meth c G A nL (cells + rm.cells) (slots + rm.slots) Q w2 lv (pc + 3) (.int r :: st)) : WJ p l e R s m args below meth c G A nL cells slots Q w lv pc st0 := by
  subst hst
  intro H locs ls hP hD hS hl
  have hP := hP.perm hp
  have hD := hD.perm hp
  have hPc := hP.left
  have hDc := hD.left
  have hFc := free_left hD hS C.2.2.2.2.2.2.1
  refine va_calli (va_runS (As := As) (rest := st) ⟨C.1, C.2.1, C.2.2.1, C.2.2.2.1, C.2.2.2.2.1⟩ (M H.size) (va_cwS nA C.2.2.2.2.1 g rfl rfl rfl hd hR) ⟨PreG.blind, fun U hU hW' => ⟨rfl, by rw [hU], by rw [hU]; exact hPc, va_K.moved hW'.alike C.2.2.2.2.2.1, hDc.weaken (fun _ _ _ _ => trivial), NW.warm hW' C.2.2.2.2.2.2.2.1, by rw [hU]; exact ((GS.kept C.2.2.2.2.2.2.2.2 (fun a h1 h2 => hS.2.1 a h1 h2)).narrow hFc).moved hW'.alike⟩⟩ rfl hA' hl.1 rfl (lv_room hW) d hf) hS (fun q _ h => hFc q h) hFc (fun r' u t H1 locs1 ht hvm hw hB hz1 hk1 hS1 => ?_)
  subst hw
  obtain ⟨hP1, hD1⟩ := hB
  rw [ht] at hP1
  obtain ⟨hP2, hD2⟩ := join_left hP hD hk1 hFc hP1 hD1
  exact K H1 locs1 ls (hw2 ▸ hP2) (hw2 ▸ hD2) hS1 hl
theorem j_pureS_i (C : Cx p s m args c cc nL own G A) {y : MethodName} {idx n' : Nat} {b : ByteArray} {ret : Option FieldType} {rm : Room} {As st0 : List Value} {r : Int32} (M : CtI l y b n' ret rm G As [] r []) (nA : Nat) (g : GoodIn AW (va_wsS own idx y (.code y b n' ret :: AW))) (hd : y.cls ≠ "java/lang/invoke/MethodHandle" ∧ y.cls ≠ "java/lang/invoke/VarHandle" ∧ (parseMethodDescriptor y.desc).map (fun d => d.parameters.length) = some nA) (hR : rm.frames + 1 ≤ R.frames ∧ 8 + (n' + 11) + rm.locals ≤ R.locals) (hA' : As.length = nA) (hst : st0 = As.reverse ++ st) (hW : (st.map fun v => v.category).sum ≤ 8) (d : decode cc pc = .ok (.invokestatic idx, 3)) (hf : cells + rm.cells ≤ R.cells ∧ slots + rm.slots ≤ R.slots) (K : WJ p l e R s m args below meth c G A nL (cells + rm.cells) (slots + rm.slots) Q w lv (pc + 3) (.int r :: st)) : WJ p l e R s m args below meth c G A nL cells slots Q w lv pc st0 := by
  subst hst
  intro H locs ls hP hD hS hl
  have hPc := hP.sub (ws' := []) [] rfl
  have hDc := hD.sub (ws' := []) [] rfl rfl
  have hFc := va_free (wc := []) hD hS C.2.2.2.2.2.2.1 [] rfl
  refine va_calli (va_runS (As := As) (rest := st) ⟨C.1, C.2.1, C.2.2.1, C.2.2.2.1, C.2.2.2.2.1⟩ (M H.size) (va_cwS nA C.2.2.2.2.1 g rfl rfl rfl hd hR) ⟨PreG.blind, fun U hU hW' => ⟨rfl, by rw [hU], by rw [hU]; exact hPc, va_K.moved hW'.alike C.2.2.2.2.2.1, hDc.weaken (fun _ _ _ _ => trivial), NW.warm hW' C.2.2.2.2.2.2.2.1, by rw [hU]; exact ((GS.kept C.2.2.2.2.2.2.2.2 (fun a h1 h2 => hS.2.1 a h1 h2)).narrow hFc).moved hW'.alike⟩⟩ rfl hA' hl.1 rfl (lv_room hW) d hf) hS (fun q _ h => hFc q h) hFc (fun r' u t H1 locs1 ht hvm hw hB hz1 hk1 hS1 => ?_)
  subst hw
  exact K H1 locs1 ls (hP.kept (fun k q hk => hk1 q.1 (hP k q hk).lt (fun h => h.elim (fun ⟨_, _, h2⟩ => by simp at h2) (fun h2 => Nat.lt_irrefl _ (Nat.lt_of_lt_of_le (hP k q hk).lt h2))))) hD hS1 hl
theorem j_callS_l (C : Cx p s m args c cc nL own G A) {y : MethodName} {idx n' : Nat} {b : ByteArray} {ret : Option FieldType} {rm : Room} {As st0 : List Value} {wc wc' : va_W} {r : Int64} (M : CtL l y b n' ret rm G As wc r wc') (nA : Nat) (g : GoodIn AW (va_wsS own idx y (.code y b n' ret :: AW))) (hd : y.cls ≠ "java/lang/invoke/MethodHandle" ∧ y.cls ≠ "java/lang/invoke/VarHandle" ∧ (parseMethodDescriptor y.desc).map (fun d => d.parameters.length) = some nA) (hR : rm.frames + 1 ≤ R.frames ∧ 8 + (n' + 11) + rm.locals ≤ R.locals) (hA' : As.length = nA) (hst : st0 = As.reverse ++ st) (hW : (st.map fun v => v.category).sum ≤ 8) (d : decode cc pc = .ok (.invokestatic idx, 3)) (hf : cells + rm.cells ≤ R.cells ∧ slots + rm.slots ≤ R.slots) (wr w2 : va_W) (hp : w.Perm (wc ++ wr)) (hw2 : wc' ++ wr = w2) (K : WJ p l e R s m args below meth c G A nL (cells + rm.cells) (slots + rm.slots) Q w2 lv (pc + 3) (.long r :: st)) : WJ p l e R s m args below meth c G A nL cells slots Q w lv pc st0 := by
  subst hst
  intro H locs ls hP hD hS hl
  have hP := hP.perm hp
  have hD := hD.perm hp
  have hPc := hP.left
  have hDc := hD.left
  have hFc := free_left hD hS C.2.2.2.2.2.2.1
  refine va_calll (va_runS (As := As) (rest := st) ⟨C.1, C.2.1, C.2.2.1, C.2.2.2.1, C.2.2.2.2.1⟩ (M H.size) (va_cwS nA C.2.2.2.2.1 g rfl rfl rfl hd hR) ⟨PreG.blind, fun U hU hW' => ⟨rfl, by rw [hU], by rw [hU]; exact hPc, va_K.moved hW'.alike C.2.2.2.2.2.1, hDc.weaken (fun _ _ _ _ => trivial), NW.warm hW' C.2.2.2.2.2.2.2.1, by rw [hU]; exact ((GS.kept C.2.2.2.2.2.2.2.2 (fun a h1 h2 => hS.2.1 a h1 h2)).narrow hFc).moved hW'.alike⟩⟩ rfl hA' hl.1 rfl (lv_room hW) d hf) hS (fun q _ h => hFc q h) hFc (fun r' u t H1 locs1 ht hvm hw hB hz1 hk1 hS1 => ?_)
  subst hw
  obtain ⟨hP1, hD1⟩ := hB
  rw [ht] at hP1
  obtain ⟨hP2, hD2⟩ := join_left hP hD hk1 hFc hP1 hD1
  exact K H1 locs1 ls (hw2 ▸ hP2) (hw2 ▸ hD2) hS1 hl
theorem j_pureS_l (C : Cx p s m args c cc nL own G A) {y : MethodName} {idx n' : Nat} {b : ByteArray} {ret : Option FieldType} {rm : Room} {As st0 : List Value} {r : Int64} (M : CtL l y b n' ret rm G As [] r []) (nA : Nat) (g : GoodIn AW (va_wsS own idx y (.code y b n' ret :: AW))) (hd : y.cls ≠ "java/lang/invoke/MethodHandle" ∧ y.cls ≠ "java/lang/invoke/VarHandle" ∧ (parseMethodDescriptor y.desc).map (fun d => d.parameters.length) = some nA) (hR : rm.frames + 1 ≤ R.frames ∧ 8 + (n' + 11) + rm.locals ≤ R.locals) (hA' : As.length = nA) (hst : st0 = As.reverse ++ st) (hW : (st.map fun v => v.category).sum ≤ 8) (d : decode cc pc = .ok (.invokestatic idx, 3)) (hf : cells + rm.cells ≤ R.cells ∧ slots + rm.slots ≤ R.slots) (K : WJ p l e R s m args below meth c G A nL (cells + rm.cells) (slots + rm.slots) Q w lv (pc + 3) (.long r :: st)) : WJ p l e R s m args below meth c G A nL cells slots Q w lv pc st0 := by
  subst hst
  intro H locs ls hP hD hS hl
  have hPc := hP.sub (ws' := []) [] rfl
  have hDc := hD.sub (ws' := []) [] rfl rfl
  have hFc := va_free (wc := []) hD hS C.2.2.2.2.2.2.1 [] rfl
  refine va_calll (va_runS (As := As) (rest := st) ⟨C.1, C.2.1, C.2.2.1, C.2.2.2.1, C.2.2.2.2.1⟩ (M H.size) (va_cwS nA C.2.2.2.2.1 g rfl rfl rfl hd hR) ⟨PreG.blind, fun U hU hW' => ⟨rfl, by rw [hU], by rw [hU]; exact hPc, va_K.moved hW'.alike C.2.2.2.2.2.1, hDc.weaken (fun _ _ _ _ => trivial), NW.warm hW' C.2.2.2.2.2.2.2.1, by rw [hU]; exact ((GS.kept C.2.2.2.2.2.2.2.2 (fun a h1 h2 => hS.2.1 a h1 h2)).narrow hFc).moved hW'.alike⟩⟩ rfl hA' hl.1 rfl (lv_room hW) d hf) hS (fun q _ h => hFc q h) hFc (fun r' u t H1 locs1 ht hvm hw hB hz1 hk1 hS1 => ?_)
  subst hw
  exact K H1 locs1 ls (hP.kept (fun k q hk => hk1 q.1 (hP k q hk).lt (fun h => h.elim (fun ⟨_, _, h2⟩ => by simp at h2) (fun h2 => Nat.lt_irrefl _ (Nat.lt_of_lt_of_le (hP k q hk).lt h2))))) hD hS1 hl
theorem j_callS_v (C : Cx p s m args c cc nL own G A) {y : MethodName} {idx n' : Nat} {b : ByteArray} {ret : Option FieldType} {rm : Room} {As st0 : List Value} {wc wc' : va_W} (M : CtV l y b n' ret rm G As wc wc') (nA : Nat) (g : GoodIn AW (va_wsS own idx y (.code y b n' ret :: AW))) (hd : y.cls ≠ "java/lang/invoke/MethodHandle" ∧ y.cls ≠ "java/lang/invoke/VarHandle" ∧ (parseMethodDescriptor y.desc).map (fun d => d.parameters.length) = some nA) (hR : rm.frames + 1 ≤ R.frames ∧ 8 + (n' + 11) + rm.locals ≤ R.locals) (hA' : As.length = nA) (hst : st0 = As.reverse ++ st) (hW : (st.map fun v => v.category).sum ≤ 8) (d : decode cc pc = .ok (.invokestatic idx, 3)) (hf : cells + rm.cells ≤ R.cells ∧ slots + rm.slots ≤ R.slots) (wr w2 : va_W) (hp : w.Perm (wc ++ wr)) (hw2 : wc' ++ wr = w2) (K : WJ p l e R s m args below meth c G A nL (cells + rm.cells) (slots + rm.slots) Q w2 lv (pc + 3) st) : WJ p l e R s m args below meth c G A nL cells slots Q w lv pc st0 := by
  subst hst
  intro H locs ls hP hD hS hl
  have hP := hP.perm hp
  have hD := hD.perm hp
  have hPc := hP.left
  have hDc := hD.left
  have hFc := free_left hD hS C.2.2.2.2.2.2.1
  refine va_callv (va_runS (As := As) (rest := st) ⟨C.1, C.2.1, C.2.2.1, C.2.2.2.1, C.2.2.2.2.1⟩ (M H.size) (va_cwS nA C.2.2.2.2.1 g rfl rfl rfl hd hR) ⟨PreG.blind, fun U hU hW' => ⟨rfl, by rw [hU], by rw [hU]; exact hPc, va_K.moved hW'.alike C.2.2.2.2.2.1, hDc.weaken (fun _ _ _ _ => trivial), NW.warm hW' C.2.2.2.2.2.2.2.1, by rw [hU]; exact ((GS.kept C.2.2.2.2.2.2.2.2 (fun a h1 h2 => hS.2.1 a h1 h2)).narrow hFc).moved hW'.alike⟩⟩ rfl hA' hl.1 rfl (lv_room hW) d hf) hS (fun q _ h => hFc q h) hFc (fun u t H1 locs1 ht hvm hw hB hz1 hk1 hS1 => ?_)
  obtain ⟨hP1, hD1⟩ := hB
  rw [ht] at hP1
  obtain ⟨hP2, hD2⟩ := join_left hP hD hk1 hFc hP1 hD1
  exact K H1 locs1 ls (hw2 ▸ hP2) (hw2 ▸ hD2) hS1 hl
theorem j_pureS_v (C : Cx p s m args c cc nL own G A) {y : MethodName} {idx n' : Nat} {b : ByteArray} {ret : Option FieldType} {rm : Room} {As st0 : List Value} (M : CtV l y b n' ret rm G As [] []) (nA : Nat) (g : GoodIn AW (va_wsS own idx y (.code y b n' ret :: AW))) (hd : y.cls ≠ "java/lang/invoke/MethodHandle" ∧ y.cls ≠ "java/lang/invoke/VarHandle" ∧ (parseMethodDescriptor y.desc).map (fun d => d.parameters.length) = some nA) (hR : rm.frames + 1 ≤ R.frames ∧ 8 + (n' + 11) + rm.locals ≤ R.locals) (hA' : As.length = nA) (hst : st0 = As.reverse ++ st) (hW : (st.map fun v => v.category).sum ≤ 8) (d : decode cc pc = .ok (.invokestatic idx, 3)) (hf : cells + rm.cells ≤ R.cells ∧ slots + rm.slots ≤ R.slots) (K : WJ p l e R s m args below meth c G A nL (cells + rm.cells) (slots + rm.slots) Q w lv (pc + 3) st) : WJ p l e R s m args below meth c G A nL cells slots Q w lv pc st0 := by
  subst hst
  intro H locs ls hP hD hS hl
  have hPc := hP.sub (ws' := []) [] rfl
  have hDc := hD.sub (ws' := []) [] rfl rfl
  have hFc := va_free (wc := []) hD hS C.2.2.2.2.2.2.1 [] rfl
  refine va_callv (va_runS (As := As) (rest := st) ⟨C.1, C.2.1, C.2.2.1, C.2.2.2.1, C.2.2.2.2.1⟩ (M H.size) (va_cwS nA C.2.2.2.2.1 g rfl rfl rfl hd hR) ⟨PreG.blind, fun U hU hW' => ⟨rfl, by rw [hU], by rw [hU]; exact hPc, va_K.moved hW'.alike C.2.2.2.2.2.1, hDc.weaken (fun _ _ _ _ => trivial), NW.warm hW' C.2.2.2.2.2.2.2.1, by rw [hU]; exact ((GS.kept C.2.2.2.2.2.2.2.2 (fun a h1 h2 => hS.2.1 a h1 h2)).narrow hFc).moved hW'.alike⟩⟩ rfl hA' hl.1 rfl (lv_room hW) d hf) hS (fun q _ h => hFc q h) hFc (fun u t H1 locs1 ht hvm hw hB hz1 hk1 hS1 => ?_)
  exact K H1 locs1 ls (hP.kept (fun k q hk => hk1 q.1 (hP k q hk).lt (fun h => h.elim (fun ⟨_, _, h2⟩ => by simp at h2) (fun h2 => Nat.lt_irrefl _ (Nat.lt_of_lt_of_le (hP k q hk).lt h2))))) hD hS1 hl
theorem j_callI_v (C : Cx p s m args c cc nL own G A) {y : MethodName} {idx n' : Nat} {b : ByteArray} {ret : Option FieldType} {rm : Room} {a : Nat} {As st0 : List Value} {wc wc' : va_W} (M : CtV l y b n' ret rm G (.ref a :: As) wc wc') (nA : Nat) (g : Cond.code y b n' ret ∈ AW) (hret : ret = none) (hini : Cond.initialized y.cls ∈ AW) (hlk : Cond.methodLink own idx y ∈ AW) (hinm : Cond.instanceMethod y ∈ AW) (hy1 : y.name = "<init>") (hd : y.cls ≠ "java/lang/invoke/MethodHandle" ∧ y.cls ≠ "java/lang/invoke/VarHandle" ∧ (parseMethodDescriptor y.desc).map (fun d => d.parameters.length) = some nA) (hR : rm.frames + 1 ≤ R.frames ∧ 8 + (n' + 11) + rm.locals ≤ R.locals) (hA' : As.length = nA) (hst : st0 = As.reverse ++ .ref a :: st) (hW : (st.map fun v => v.category).sum ≤ 8) (d : decode cc pc = .ok (.invokespecial idx, 3)) (hf : cells + rm.cells ≤ R.cells ∧ slots + rm.slots ≤ R.slots) (wr w2 : va_W) (hp : w.Perm (wc ++ wr)) (hw2 : wc' ++ wr = w2) (K : WJ p l e R s m args below meth c G A nL (cells + rm.cells) (slots + rm.slots) Q w2 lv (pc + 3) st) : WJ p l e R s m args below meth c G A nL cells slots Q w lv pc st0 := by
  subst hst
  subst hret
  intro H locs ls hP hD hS hl
  have hP := hP.perm hp
  have hD := hD.perm hp
  have hPc := hP.left
  have hDc := hD.left
  have hFc := free_left hD hS C.2.2.2.2.2.2.1
  refine va_callv (va_runI (As := As) (rest := st) ⟨C.1, C.2.1, C.2.2.1, C.2.2.2.1, C.2.2.2.2.1⟩ (M H.size) (cwI nA C.2.2.2.2.1 (aw_g (aw_1 g)) rfl rfl rfl (C.2.2.2.2.1 _ hini) (C.2.2.2.2.1 _ hlk) (C.2.2.2.2.1 _ hinm) hy1 hd hR) ⟨PreG.blind, fun U hU hW' => ⟨rfl, by rw [hU], by rw [hU]; exact hPc, va_K.moved hW'.alike C.2.2.2.2.2.1, hDc.weaken (fun _ _ _ _ => trivial), NW.warm hW' C.2.2.2.2.2.2.2.1, by rw [hU]; exact ((GS.kept C.2.2.2.2.2.2.2.2 (fun a h1 h2 => hS.2.1 a h1 h2)).narrow hFc).moved hW'.alike⟩⟩ rfl hA' hl.1 rfl (lv_room hW) d hf) hS (fun q _ h => hFc q h) hFc (fun u t H1 locs1 ht hvm hw hB hz1 hk1 hS1 => ?_)
  obtain ⟨hP1, hD1⟩ := hB
  rw [ht] at hP1
  obtain ⟨hP2, hD2⟩ := join_left hP hD hk1 hFc hP1 hD1
  exact K H1 locs1 ls (hw2 ▸ hP2) (hw2 ▸ hD2) hS1 hl
theorem j_callSN_i (C : Cx p s m args c cc nL own G A) {y : MethodName} {idx n' : Nat} {b : ByteArray} {ret : Option FieldType} {rm : Room} {As st0 : List Value} {wc wc' : va_W} {r : Int32} (M : CtI l y b n' ret rm G As wc r wc') (nA : Nat) {host : String} (g : Cond.code y b n' ret ∈ AW) (hnest : Cond.methodLinkNest own idx y host ∈ nestL) (hini : Cond.initialized y.cls ∈ AW) (hstt : Cond.static y ∈ AW) (hd : y.cls ≠ "java/lang/invoke/MethodHandle" ∧ y.cls ≠ "java/lang/invoke/VarHandle" ∧ (parseMethodDescriptor y.desc).map (fun d => d.parameters.length) = some nA) (hR : rm.frames + 1 ≤ R.frames ∧ 8 + (n' + 11) + rm.locals ≤ R.locals) (hA' : As.length = nA) (hst : st0 = As.reverse ++ st) (hW : (st.map fun v => v.category).sum ≤ 8) (d : decode cc pc = .ok (.invokestatic idx, 3)) (hf : cells + rm.cells ≤ R.cells ∧ slots + rm.slots ≤ R.slots) (wr w2 : va_W) (hp : w.Perm (wc ++ wr)) (hw2 : wc' ++ wr = w2) (K : WJ p l e R s m args below meth c G A nL (cells + rm.cells) (slots + rm.slots) Q w2 lv (pc + 3) (.int r :: st)) : WJ p l e R s m args below meth c G A nL cells slots Q w lv pc st0 := by
  subst hst
  intro H locs ls hP hD hS hl
  have hP := hP.perm hp
  have hD := hD.perm hp
  have hPc := hP.left
  have hDc := hD.left
  have hFc := free_left hD hS C.2.2.2.2.2.2.1
  refine va_calli (va_runSN (As := As) (rest := st) ⟨C.1, C.2.1, C.2.2.1, C.2.2.2.1, C.2.2.2.2.1⟩ (M H.size) ⟨va_cnB nA C.2.2.2.2.1 (aw_g (aw_1 g)) rfl rfl rfl (C.2.2.2.2.2.2.2.1.1 _ hnest) (C.2.2.2.2.1 _ hini) hd hR, C.2.2.2.2.1 _ hstt, trivial⟩ ⟨PreG.blind, fun U hU hW' => ⟨rfl, by rw [hU], by rw [hU]; exact hPc, va_K.moved hW'.alike C.2.2.2.2.2.1, hDc.weaken (fun _ _ _ _ => trivial), NW.warm hW' C.2.2.2.2.2.2.2.1, by rw [hU]; exact ((GS.kept C.2.2.2.2.2.2.2.2 (fun a h1 h2 => hS.2.1 a h1 h2)).narrow hFc).moved hW'.alike⟩⟩ rfl hA' hl.1 rfl (lv_room hW) d hf) hS (fun q _ h => hFc q h) hFc (fun r' u t H1 locs1 ht hvm hw hB hz1 hk1 hS1 => ?_)
  subst hw
  obtain ⟨hP1, hD1⟩ := hB
  rw [ht] at hP1
  obtain ⟨hP2, hD2⟩ := join_left hP hD hk1 hFc hP1 hD1
  exact K H1 locs1 ls (hw2 ▸ hP2) (hw2 ▸ hD2) hS1 hl
theorem j_pureSN_i (C : Cx p s m args c cc nL own G A) {y : MethodName} {idx n' : Nat} {b : ByteArray} {ret : Option FieldType} {rm : Room} {As st0 : List Value} {r : Int32} (M : CtI l y b n' ret rm G As [] r []) (nA : Nat) {host : String} (g : Cond.code y b n' ret ∈ AW) (hnest : Cond.methodLinkNest own idx y host ∈ nestL) (hini : Cond.initialized y.cls ∈ AW) (hstt : Cond.static y ∈ AW) (hd : y.cls ≠ "java/lang/invoke/MethodHandle" ∧ y.cls ≠ "java/lang/invoke/VarHandle" ∧ (parseMethodDescriptor y.desc).map (fun d => d.parameters.length) = some nA) (hR : rm.frames + 1 ≤ R.frames ∧ 8 + (n' + 11) + rm.locals ≤ R.locals) (hA' : As.length = nA) (hst : st0 = As.reverse ++ st) (hW : (st.map fun v => v.category).sum ≤ 8) (d : decode cc pc = .ok (.invokestatic idx, 3)) (hf : cells + rm.cells ≤ R.cells ∧ slots + rm.slots ≤ R.slots) (K : WJ p l e R s m args below meth c G A nL (cells + rm.cells) (slots + rm.slots) Q w lv (pc + 3) (.int r :: st)) : WJ p l e R s m args below meth c G A nL cells slots Q w lv pc st0 := by
  subst hst
  intro H locs ls hP hD hS hl
  have hPc := hP.sub (ws' := []) [] rfl
  have hDc := hD.sub (ws' := []) [] rfl rfl
  have hFc := va_free (wc := []) hD hS C.2.2.2.2.2.2.1 [] rfl
  refine va_calli (va_runSN (As := As) (rest := st) ⟨C.1, C.2.1, C.2.2.1, C.2.2.2.1, C.2.2.2.2.1⟩ (M H.size) ⟨va_cnB nA C.2.2.2.2.1 (aw_g (aw_1 g)) rfl rfl rfl (C.2.2.2.2.2.2.2.1.1 _ hnest) (C.2.2.2.2.1 _ hini) hd hR, C.2.2.2.2.1 _ hstt, trivial⟩ ⟨PreG.blind, fun U hU hW' => ⟨rfl, by rw [hU], by rw [hU]; exact hPc, va_K.moved hW'.alike C.2.2.2.2.2.1, hDc.weaken (fun _ _ _ _ => trivial), NW.warm hW' C.2.2.2.2.2.2.2.1, by rw [hU]; exact ((GS.kept C.2.2.2.2.2.2.2.2 (fun a h1 h2 => hS.2.1 a h1 h2)).narrow hFc).moved hW'.alike⟩⟩ rfl hA' hl.1 rfl (lv_room hW) d hf) hS (fun q _ h => hFc q h) hFc (fun r' u t H1 locs1 ht hvm hw hB hz1 hk1 hS1 => ?_)
  subst hw
  exact K H1 locs1 ls (hP.kept (fun k q hk => hk1 q.1 (hP k q hk).lt (fun h => h.elim (fun ⟨_, _, h2⟩ => by simp at h2) (fun h2 => Nat.lt_irrefl _ (Nat.lt_of_lt_of_le (hP k q hk).lt h2))))) hD hS1 hl
theorem j_callIN_v (C : Cx p s m args c cc nL own G A) {y : MethodName} {idx n' : Nat} {b : ByteArray} {ret : Option FieldType} {rm : Room} {a : Nat} {As st0 : List Value} {wc wc' : va_W} (M : CtV l y b n' ret rm G (.ref a :: As) wc wc') (nA : Nat) {host : String} (g : Cond.code y b n' ret ∈ AW) (hret : ret = none) (hnest : Cond.methodLinkNest own idx y host ∈ nestL) (hini : Cond.initialized y.cls ∈ AW) (hinm : Cond.instanceMethod y ∈ AW) (hy1 : y.name = "<init>") (hd : y.cls ≠ "java/lang/invoke/MethodHandle" ∧ y.cls ≠ "java/lang/invoke/VarHandle" ∧ (parseMethodDescriptor y.desc).map (fun d => d.parameters.length) = some nA) (hR : rm.frames + 1 ≤ R.frames ∧ 8 + (n' + 11) + rm.locals ≤ R.locals) (hA' : As.length = nA) (hst : st0 = As.reverse ++ .ref a :: st) (hW : (st.map fun v => v.category).sum ≤ 8) (d : decode cc pc = .ok (.invokespecial idx, 3)) (hf : cells + rm.cells ≤ R.cells ∧ slots + rm.slots ≤ R.slots) (wr w2 : va_W) (hp : w.Perm (wc ++ wr)) (hw2 : wc' ++ wr = w2) (K : WJ p l e R s m args below meth c G A nL (cells + rm.cells) (slots + rm.slots) Q w2 lv (pc + 3) st) : WJ p l e R s m args below meth c G A nL cells slots Q w lv pc st0 := by
  subst hst
  subst hret
  intro H locs ls hP hD hS hl
  have hP := hP.perm hp
  have hD := hD.perm hp
  have hPc := hP.left
  have hDc := hD.left
  have hFc := free_left hD hS C.2.2.2.2.2.2.1
  refine va_callv (va_runIN (As := As) (rest := st) ⟨C.1, C.2.1, C.2.2.1, C.2.2.2.1, C.2.2.2.2.1⟩ (M H.size) ⟨va_cnB nA C.2.2.2.2.1 (aw_g (aw_1 g)) rfl rfl rfl (C.2.2.2.2.2.2.2.1.1 _ hnest) (C.2.2.2.2.1 _ hini) hd hR, hy1, C.2.2.2.2.1 _ hinm⟩ ⟨PreG.blind, fun U hU hW' => ⟨rfl, by rw [hU], by rw [hU]; exact hPc, va_K.moved hW'.alike C.2.2.2.2.2.1, hDc.weaken (fun _ _ _ _ => trivial), NW.warm hW' C.2.2.2.2.2.2.2.1, by rw [hU]; exact ((GS.kept C.2.2.2.2.2.2.2.2 (fun a h1 h2 => hS.2.1 a h1 h2)).narrow hFc).moved hW'.alike⟩⟩ rfl hA' hl.1 rfl (lv_room hW) d hf) hS (fun q _ h => hFc q h) hFc (fun u t H1 locs1 ht hvm hw hB hz1 hk1 hS1 => ?_)
  obtain ⟨hP1, hD1⟩ := hB
  rw [ht] at hP1
  obtain ⟨hP2, hD2⟩ := join_left hP hD hk1 hFc hP1 hD1
  exact K H1 locs1 ls (hw2 ▸ hP2) (hw2 ▸ hD2) hS1 hl
theorem j_mmin (C : Cx p s m args c cc nL own G A) {idx : Nat} {x y : Int32} (hlink : Cond.methodLink own idx Lib.Math.min.name ∈ AW) (hf : 1 ≤ R.frames) (hlo : (st.map fun v => v.category).sum + 13 ≤ R.locals) (hcs : cells ≤ R.cells ∧ slots ≤ R.slots) (d : decode cc pc = .ok (.invokestatic idx, 3)) {v : Int32} (hv : (if y < x then y else x) = v) (K : WJ p l e R s m args below meth c G A nL cells slots Q w lv (pc + 3) (.int v :: st)) : WJ p l e R s m args below meth c G A nL cells slots Q w lv pc (.int y :: .int x :: st) := by
  subst hv
  exact fun H locs ls hP hD hS hl => va_mmin C.1 C.2.1 (C.2.2.1.trans hl.1.symm) C.2.2.2.1 (C.2.2.2.2.1 _ hlink) (C.2.2.2.2.1 _ aw_mmin_static) (C.2.2.2.2.1 _ aw_math_ini) (C.2.2.2.2.1 _ aw_mmin_code) hf hlo hcs.1 hcs.2 d (K H locs ls hP hD hS hl)
theorem j_eq {w2 : va_W} {lv2 : List (Nat × Value)} {st2 : List Value} (hw : w = w2) (hl : lv = lv2) (hs : st = st2) (K : WJ p l e R s m args below meth c G A nL cells slots Q w2 lv2 pc st2) : WJ p l e R s m args below meth c G A nL cells slots Q w lv pc st := by
  subst hw hl hs
  exact K
end LAYC
