/-! THE CLAIM OUT OF ONE WALK OF THE LAW'S BODY. Your part is whole_start (and what it stands on); all else here is the same for every law, but numbers. -/
def R_law : String := "SilentDrivesLaw"
def lw_P (b : Addr) (xs : List Int32) (args : Array Value) (s : State) : Prop := args = #[.ref b] ∧ s.IntsAt b xs ∧ xs.length ≤ 260 ∧ (Jvm.Cond.and given_1 narrow_1).before args s = true
/-- what a walk over the start with the record d0 says of its end, said of the start itself -/
theorem lw_closed {s t : State} {o : Outcome} {d0 : Drawn} {L : List Loc} {k n : Nat} (hd0 : s.drawn.sameBut d0 lw_cs) (hv : ∃ v, o = .returned v) (hW : (s.setDrawn d0).WarmedH t.vm) (hs : (s.setDrawn d0).sameButNew ({ t with vm := s.vm } : State) L k n) : State.butDraws s t lw_cs (fun t1 => Framed s o t1 L k n) := by
  have h2 : t.drawn = d0 := congrArg State.drawn hs.1
  refine ⟨⟨hv, hW, State.sameButNew.setDrawn hs s.drawn⟩, ?_, by decide⟩
  rw [h2]
  exact hd0
def lw_Q (_ : Array Value) (s : State) (o : Outcome) (t : State) : Prop := o = .returned (some (.int 1)) ∧ State.butDraws s t lw_cs (fun t1 => Framed s o t1 [] 600000 7302250)
def lw_Z (below : List Frame) (a : Array Value) (s : State) : State → Prop := fun t => ∃ o, t.status = .running ∧ Ended t below o ∧ lw_Q a s o t
/-- the law's own end, with 1 on the stack, nothing written that was there before, its room as the claim has it; d0: the record of draws at this point (at the entry s.drawn: begin with 'refine W.base ?_' and 'have hd0 := Drawn.sameBut.refl s.drawn lw_cs') -/
theorem lw_ret {p : Program} {l : Launch} {e : Env} {s : State} {m : MethodId} {below : List Frame} {meth : Method} {c : Code} {b : Nat} {d0 : Drawn} (hd0 : s.drawn.sameBut d0 lw_cs) (hx : p.tables.exec = Jvm.exec) (hb : c.code = code) (hr : meth.sig.returnType = ret) (hlocks : meth.locks = false) {pc : Nat} {H : Heap} {ls : Array Slot} (hdg : decode code pc = .ok (.ireturn, 1)) : W p l e room_1 (s.setDrawn d0) m #[Value.ref b] below meth c H [] 600000 7302250 (lw_Z below #[Value.ref b] s) (F0 m pc ls [.int 1]) := by
  intro T hT X
  obtain ⟨fs, hret, hrun, hended, hW, hframe⟩ := X.leave (v := some (.int 1)) (hlocks := hlocks) (fun h => by rw [hr] at h; cases h)
  have hmeth' : T.vm.method? m = some meth := X.method'
  refine ⟨T.setFrames fs, ?_, .returned (some (.int 1)), hrun, hended, rfl, lw_closed hd0 ⟨_, rfl⟩ hW hframe⟩
  jvm_step X.here [X.here.top, hx, hb, hdg, hmeth', hr, ret, narrow_b1]
  (try refine ⟨rfl, ?_⟩); (try refine ⟨rfl, ?_⟩)
  first | (intro acts; rw [hret _ acts rfl rfl rfl]) | rw [hret _ _ rfl rfl rfl]
  exact Steps.refl _
/-- what holds at the law's entry: the machine, the code, the tables' words (any of lw_tbl by 'hts w (by decide +kernel)'), the script of L ints xs at the cell b, what the Statement gives of the start (any of its parts by flat_of_before) -/
def lw_At (p : Program) (s : State) (m : MethodId) (meth : Method) (c : Code) (b L : Nat) (xs : Nat → Int32) : Prop :=
  p.tables.exec = Jvm.exec ∧ c.code = code ∧ meth.sig.returnType = ret ∧ c.maxLocals = 17 ∧ s.vm.findClass R_law = some m.cls ∧ (∀ w ∈ lw_tbl, w.before #[Value.ref b] s = true) ∧ va_X b L xs s s.heap ∧ b < s.heap.size ∧ meth.locks = false ∧ (Jvm.Cond.and given_1 narrow_1).before #[Value.ref b] s = true
/-! THE LAW: what holds at its start -/
theorem arr_prim {t : FieldType} {args : Array Value} {s : State} (h : (Cond.arrayClass t).before args s = true) (ht : ∀ C : String, ¬ t = .object C) : ∃ cA : ClassId, ArrOfT s cA t ∧ s.vm.findClass ("[" ++ t.toString) = some cA := by
  obtain ⟨cA, kA, comp, h1, h2, h3⟩ := Cond.arrayClass_spec h
  exact ⟨cA, fun n z => ⟨fun k h => (by cases h), kA, h2, comp, h3⟩, h1⟩
theorem arr_ref {C : String} {args : Array Value} {s : State} (h : (Cond.arrayOver (.object C)).before args s = true) : ∃ cA : ClassId, ArrOfT s cA (.object C) ∧ va_RA s cA (.object C) := by
  obtain ⟨comp, cA, kA, h1, h2, h3, h4, h5⟩ := Cond.arrayOver_spec h
  exact ⟨cA, fun n z => ⟨fun k h => (by cases h), kA, h3, comp, h4⟩, kA, comp, h3, h4, h1, h5⟩
/-- a static array of seven ints, out of what the claim gives of it -/
theorem gs_of {args : Array Value} {s : State} {nm : String} {f : Nat → Int32} (hl : (Cond.laysStatic "SilentDrives" nm "[I").before args s = true) (hini : (Cond.initialized "SilentDrives").before args s = true) (harr : (Cond.arrayOf (.static "SilentDrives" nm "[I") .int).before args s = true) (hlen : (Cond.eq (.length (.static "SilentDrives" nm "[I")) (.int 7)).before args s = true) (hel : ∀ j : Nat, j < 7 → (Cond.eq (.elem (.static "SilentDrives" nm "[I") (.int (Int32.ofNat j))) (.int (f j))).before args s = true) : ∃ t : Nat, GS1 nm t f (fun q => s.heap.size ≤ q) s s.heap := by
  have hA : ∀ a : Nat, a < s.heap.size → ¬ (fun q : Nat => s.heap.size ≤ q) a := fun a h => Nat.not_le.mpr h
  obtain ⟨t, h1, h2⟩ := va_Tof (ty := .int) (N := 7) (f := fun k => .int (f k)) (A := fun q => s.heap.size ≤ q) (by decide) harr (va_eqt hlen) (fun j hj => va_eqt (hel j hj)) hA
  exact ⟨t, va_Zof hl hini h1 hA, h2⟩
theorem all7 {P : Nat → Prop} (h0 : P 0) (h1 : P 1) (h2 : P 2) (h3 : P 3) (h4 : P 4) (h5 : P 5) (h6 : P 6) : ∀ j : Nat, j < 7 → P j := fun j hj => by
  have : j = 0 ∨ j = 1 ∨ j = 2 ∨ j = 3 ∨ j = 4 ∨ j = 5 ∨ j = 6 := by omega
  rcases this with h | h | h | h | h | h | h <;> subst h <;> assumption
theorem gs_vFirst {p : Program} {s : State} {m : MethodId} {meth : Method} {c : Code} {b L : Nat} {xs : Nat → Int32} (C0 : lw_At p s m meth c b L xs) : ∃ t : Nat, GS1 "FIRST_VALUES" t vFirst (fun q => s.heap.size ≤ q) s s.heap := by
  have hs := flat_of_before _ C0.2.2.2.2.2.2.2.2.2
  have hts := C0.2.2.2.2.2.1
  exact gs_of (hts _ (by decide +kernel)) (hts _ (by decide +kernel)) (hs _ (by decide +kernel)) (hs _ (by decide +kernel)) (all7 (P := fun j => (Cond.eq (.elem (.static "SilentDrives" "FIRST_VALUES" "[I") (.int (Int32.ofNat j))) (.int (vFirst j))).before #[Value.ref b] s = true) (hs (.eq (.elem (.static "SilentDrives" "FIRST_VALUES" "[I") (.int 0)) (.int 60)) (by decide +kernel)) (hs (.eq (.elem (.static "SilentDrives" "FIRST_VALUES" "[I") (.int 1)) (.int 5)) (by decide +kernel)) (hs (.eq (.elem (.static "SilentDrives" "FIRST_VALUES" "[I") (.int 2)) (.int 2)) (by decide +kernel)) (hs (.eq (.elem (.static "SilentDrives" "FIRST_VALUES" "[I") (.int 3)) (.int 20)) (by decide +kernel)) (hs (.eq (.elem (.static "SilentDrives" "FIRST_VALUES" "[I") (.int 4)) (.int 50)) (by decide +kernel)) (hs (.eq (.elem (.static "SilentDrives" "FIRST_VALUES" "[I") (.int 5)) (.int 4)) (by decide +kernel)) (hs (.eq (.elem (.static "SilentDrives" "FIRST_VALUES" "[I") (.int 6)) (.int 20)) (by decide +kernel)))
theorem gs_vLeast {p : Program} {s : State} {m : MethodId} {meth : Method} {c : Code} {b L : Nat} {xs : Nat → Int32} (C0 : lw_At p s m meth c b L xs) : ∃ t : Nat, GS1 "LEAST_VALUES" t vLeast (fun q => s.heap.size ≤ q) s s.heap := by
  have hs := flat_of_before _ C0.2.2.2.2.2.2.2.2.2
  have hts := C0.2.2.2.2.2.1
  exact gs_of (hts _ (by decide +kernel)) (hts _ (by decide +kernel)) (hs _ (by decide +kernel)) (hs _ (by decide +kernel)) (all7 (P := fun j => (Cond.eq (.elem (.static "SilentDrives" "LEAST_VALUES" "[I") (.int (Int32.ofNat j))) (.int (vLeast j))).before #[Value.ref b] s = true) (hs (.eq (.elem (.static "SilentDrives" "LEAST_VALUES" "[I") (.int 0)) (.int 0)) (by decide +kernel)) (hs (.eq (.elem (.static "SilentDrives" "LEAST_VALUES" "[I") (.int 1)) (.int 0)) (by decide +kernel)) (hs (.eq (.elem (.static "SilentDrives" "LEAST_VALUES" "[I") (.int 2)) (.int 0)) (by decide +kernel)) (hs (.eq (.elem (.static "SilentDrives" "LEAST_VALUES" "[I") (.int 3)) (.int 0)) (by decide +kernel)) (hs (.eq (.elem (.static "SilentDrives" "LEAST_VALUES" "[I") (.int 4)) (.int 0)) (by decide +kernel)) (hs (.eq (.elem (.static "SilentDrives" "LEAST_VALUES" "[I") (.int 5)) (.int 1)) (by decide +kernel)) (hs (.eq (.elem (.static "SilentDrives" "LEAST_VALUES" "[I") (.int 6)) (.int 0)) (by decide +kernel)))
theorem gs_vMost {p : Program} {s : State} {m : MethodId} {meth : Method} {c : Code} {b L : Nat} {xs : Nat → Int32} (C0 : lw_At p s m meth c b L xs) : ∃ t : Nat, GS1 "MOST_VALUES" t vMost (fun q => s.heap.size ≤ q) s s.heap := by
  have hs := flat_of_before _ C0.2.2.2.2.2.2.2.2.2
  have hts := C0.2.2.2.2.2.1
  exact gs_of (hts _ (by decide +kernel)) (hts _ (by decide +kernel)) (hs _ (by decide +kernel)) (hs _ (by decide +kernel)) (all7 (P := fun j => (Cond.eq (.elem (.static "SilentDrives" "MOST_VALUES" "[I") (.int (Int32.ofNat j))) (.int (vMost j))).before #[Value.ref b] s = true) (hs (.eq (.elem (.static "SilentDrives" "MOST_VALUES" "[I") (.int 0)) (.int 999)) (by decide +kernel)) (hs (.eq (.elem (.static "SilentDrives" "MOST_VALUES" "[I") (.int 1)) (.int 99)) (by decide +kernel)) (hs (.eq (.elem (.static "SilentDrives" "MOST_VALUES" "[I") (.int 2)) (.int 9)) (by decide +kernel)) (hs (.eq (.elem (.static "SilentDrives" "MOST_VALUES" "[I") (.int 3)) (.int 60)) (by decide +kernel)) (hs (.eq (.elem (.static "SilentDrives" "MOST_VALUES" "[I") (.int 4)) (.int 60)) (by decide +kernel)) (hs (.eq (.elem (.static "SilentDrives" "MOST_VALUES" "[I") (.int 5)) (.int 20)) (by decide +kernel)) (hs (.eq (.elem (.static "SilentDrives" "MOST_VALUES" "[I") (.int 6)) (.int 60)) (by decide +kernel)))
theorem law_aw {p : Program} {s : State} {m : MethodId} {meth : Method} {c : Code} {b L : Nat} {xs : Nat → Int32} (C0 : lw_At p s m meth c b L xs) : ∀ w ∈ AW, w.before #[Value.ref b] s = true := fun w hw => C0.2.2.2.2.2.1 w (List.mem_filter.mp hw).1
theorem law_NW {p : Program} {s : State} {m : MethodId} {meth : Method} {c : Code} {b L : Nat} {xs : Nat → Int32} (C0 : lw_At p s m meth c b L xs) : NW s := by
  have hts := C0.2.2.2.2.2.1
  refine ⟨?_, va_AO.of (hts _ (by decide +kernel)), va_AO.of (hts _ (by decide +kernel))⟩
  intro w hw
  have hin : w ∈ lw_tbl := by
    have A : ∀ x ∈ nestL, x ∈ lw_tbl := by decide +kernel
    exact A w hw
  have hon : w.onTables = true := by
    have A : ∀ x ∈ nestL, x.onTables = true := by decide +kernel
    exact A w hw
  exact va_Nw.of hon (hts w hin)
theorem law_G {p : Program} {s : State} {m : MethodId} {meth : Method} {c : Code} {b L : Nat} {xs : Nat → Int32} (C0 : lw_At p s m meth c b L xs) : ∃ G : GG, va_K G.1 vwCl (TY G) s ∧ GS G (fun q => s.heap.size ≤ q) s s.heap ∧ G.2.2 3 = b ∧ G.2.2 4 = L := by
  have hw := law_aw C0
  have hts := C0.2.2.2.2.2.1
  obtain ⟨c0, i0, n0⟩ := u_known (C := RX0) (T := TX0) (N := 12) (n := 12) hw kin0 (hw _ kw_26)
  obtain ⟨c1, i1, n1⟩ := u_known (C := RX1) (T := TX1) (N := 3) (n := 3) hw kin1 (hw _ kw_96)
  obtain ⟨c2, i2, n2⟩ := u_known (C := RX2) (T := TX2) (N := 7) (n := 7) hw kin2 (hw _ kw_111)
  obtain ⟨c3, i3, n3⟩ := u_known (C := RX3) (T := TX3) (N := 7) (n := 7) hw kin3 (hw _ kw_17)
  obtain ⟨c4, i4, n4⟩ := u_known (C := RX4) (T := TX4) (N := 7) (n := 7) hw kin4 (hw _ kw_9)
  obtain ⟨ab, xb, yb⟩ := arr_prim (t := .byte) (hw _ kw_73) (fun C h => by cases h)
  obtain ⟨ac, xc, yc⟩ := arr_prim (t := .char) (hw _ kw_125) (fun C h => by cases h)
  obtain ⟨ai, xi, yi⟩ := arr_prim (t := .int) (hw _ kw_72) (fun C h => by cases h)
  obtain ⟨az, xz, yz⟩ := arr_prim (t := .boolean) (hw _ kw_124) (fun C h => by cases h)
  obtain ⟨ad, xd, yd⟩ := arr_ref (C := "SilentDrives$Drive") (hts _ (by decide +kernel))
  obtain ⟨aq, xq, yq⟩ := arr_ref (C := "SilentDrives$Station") (hts _ (by decide +kernel))
  obtain ⟨t0, z0⟩ := gs_vFirst C0
  obtain ⟨t1, z1⟩ := gs_vLeast C0
  obtain ⟨t2, z2⟩ := gs_vMost C0
  have hx : ∀ j : Nat, Int32.ofNat (xs j).toUInt32.toNat = xs j := fun j => by
    show (⟨UInt32.ofNat (xs j).toUInt32.toNat⟩ : Int32) = xs j
    rw [UInt32.ofNat_toNat]
  have X := C0.2.2.2.2.2.2.1
  have hbl := C0.2.2.2.2.2.2.2.1
  refine ⟨((fun k => match k with | 0 => c0 | 1 => c1 | 2 => c2 | 3 => c3 | _ => c4, fun k => match k with | 0 => i0 | 1 => i1 | 2 => i2 | 3 => i3 | _ => i4), (fun k => match k with | 0 => ab | 1 => ac | 2 => ai | 3 => ai | 4 => az | 5 => ad | _ => aq), fun k => match k with | 0 => t0 | 1 => t1 | 2 => t2 | 3 => b | 4 => L | k + 5 => (xs k).toUInt32.toNat), ⟨?_, ?_⟩, ⟨z0, z1, z2, ?_⟩, rfl, rfl⟩
  · intro k q hq
    match k, hq with
    | 0, hq => cases hq; exact n0
    | 1, hq => cases hq; exact n1
    | 2, hq => cases hq; exact n2
    | 3, hq => cases hq; exact n3
    | 4, hq => cases hq; exact n4
    | k + 5, hq => exact absurd hq (by simp)
  · intro k q hq
    match k, hq with
    | 0, hq => cases hq; exact ⟨xb, yb⟩
    | 1, hq => cases hq; exact ⟨xc, yc⟩
    | 2, hq => cases hq; exact ⟨xi, yi⟩
    | 3, hq => cases hq; exact ⟨xi, yi⟩
    | 4, hq => cases hq; exact ⟨xz, yz⟩
    | 5, hq => cases hq; exact ⟨xd, yd⟩
    | 6, hq => cases hq; exact ⟨xq, yq⟩
    | k + 7, hq => exact absurd hq (by simp [TY])
  · refine ⟨?_, hbl, Nat.not_le.mpr hbl⟩
    have e : (fun j : Nat => Int32.ofNat (xs j).toUInt32.toNat) = xs := funext hx
    show va_X b L (fun j => Int32.ofNat (match 5 + j with | 0 => t0 | 1 => t1 | 2 => t2 | 3 => b | 4 => L | k + 5 => (xs k).toUInt32.toNat)) s s.heap
    have e2 : (fun j : Nat => Int32.ofNat (match 5 + j with | 0 => t0 | 1 => t1 | 2 => t2 | 3 => b | 4 => L | k + 5 => (xs k).toUInt32.toNat)) = xs := by
      funext j
      rw [Nat.add_comm 5 j]
      exact hx j
    rw [e2]
    exact X
