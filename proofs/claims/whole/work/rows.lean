section
-- ===== PART A: goes FIRST, ahead of the names: the tables' words, and 'selects' of the private methods out of them =====
/-- a private method of a class that the tables say can be made, by its rows of tables_1 -/
def lw_okq (q : MethodName × Nat) : Prop := (q.1.cls ≠ "java/lang/invoke/MethodHandle" ∧ q.1.cls ≠ "java/lang/invoke/VarHandle") ∧ Cond.instantiable q.1.cls q.2 ∈ tables_1 ∧ Cond.privateMethod q.1 ∈ tables_1 ∧ Cond.instanceMethod q.1 ∈ tables_1
theorem lw_p0 : lw_okq (⟨"SilentDrives", "recorded", "(I)I"⟩, 7) := ⟨⟨by decide +kernel, by decide +kernel⟩, List.mem_of_getElem? (i := 12) (by decide +kernel), List.mem_of_getElem? (i := 227) (by decide +kernel), List.mem_of_getElem? (i := 228) (by decide +kernel)⟩
theorem lw_p1 : lw_okq (⟨"SilentDrives$Station", "changeHour", "(IIII)I"⟩, 7) := ⟨⟨by decide +kernel, by decide +kernel⟩, List.mem_of_getElem? (i := 20) (by decide +kernel), List.mem_of_getElem? (i := 265) (by decide +kernel), List.mem_of_getElem? (i := 266) (by decide +kernel)⟩
theorem lw_p2 : lw_okq (⟨"SilentDrives$Station", "passMinuteOf", "(LSilentDrives$Drive;LSilentDrives$Drive;)Z"⟩, 7) := ⟨⟨by decide +kernel, by decide +kernel⟩, List.mem_of_getElem? (i := 20) (by decide +kernel), List.mem_of_getElem? (i := 319) (by decide +kernel), List.mem_of_getElem? (i := 320) (by decide +kernel)⟩
theorem lw_p3 : lw_okq (⟨"SilentDrives$Station", "settleHours", "(LSilentDrives$Drive;IZ)V"⟩, 7) := ⟨⟨by decide +kernel, by decide +kernel⟩, List.mem_of_getElem? (i := 20) (by decide +kernel), List.mem_of_getElem? (i := 328) (by decide +kernel), List.mem_of_getElem? (i := 329) (by decide +kernel)⟩
theorem lw_p4 : lw_okq (⟨"SilentDrives$Drive", "fillCells", "(I)V"⟩, 12) := ⟨⟨by decide +kernel, by decide +kernel⟩, List.mem_of_getElem? (i := 32) (by decide +kernel), List.mem_of_getElem? (i := 341) (by decide +kernel), List.mem_of_getElem? (i := 342) (by decide +kernel)⟩
theorem lw_p5 : lw_okq (⟨"SilentDrives$Station", "cleanUp", "(LSilentDrives$Drive;Z)Z"⟩, 7) := ⟨⟨by decide +kernel, by decide +kernel⟩, List.mem_of_getElem? (i := 20) (by decide +kernel), List.mem_of_getElem? (i := 353) (by decide +kernel), List.mem_of_getElem? (i := 354) (by decide +kernel)⟩
theorem lw_p6 : lw_okq (⟨"SilentDrives$Station", "chargeOverrun", "(LSilentDrives$Drive;I)V"⟩, 7) := ⟨⟨by decide +kernel, by decide +kernel⟩, List.mem_of_getElem? (i := 20) (by decide +kernel), List.mem_of_getElem? (i := 362) (by decide +kernel), List.mem_of_getElem? (i := 363) (by decide +kernel)⟩
theorem lw_p7 : lw_okq (⟨"SilentDrives", "errorOfQuestion", "(II)I"⟩, 7) := ⟨⟨by decide +kernel, by decide +kernel⟩, List.mem_of_getElem? (i := 12) (by decide +kernel), List.mem_of_getElem? (i := 415) (by decide +kernel), List.mem_of_getElem? (i := 416) (by decide +kernel)⟩
theorem lw_p8 : lw_okq (⟨"SilentDrives", "tryMinutes", "(I)V"⟩, 7) := ⟨⟨by decide +kernel, by decide +kernel⟩, List.mem_of_getElem? (i := 12) (by decide +kernel), List.mem_of_getElem? (i := 420) (by decide +kernel), List.mem_of_getElem? (i := 421) (by decide +kernel)⟩
theorem lw_p9 : lw_okq (⟨"SilentDrives$Pad", "readSign", "(C)Z"⟩, 7) := ⟨⟨by decide +kernel, by decide +kernel⟩, List.mem_of_getElem? (i := 145) (by decide +kernel), List.mem_of_getElem? (i := 488) (by decide +kernel), List.mem_of_getElem? (i := 489) (by decide +kernel)⟩
theorem lw_p10 : lw_okq (⟨"SilentDrives$Pad", "signHere", "()C"⟩, 7) := ⟨⟨by decide +kernel, by decide +kernel⟩, List.mem_of_getElem? (i := 145) (by decide +kernel), List.mem_of_getElem? (i := 492) (by decide +kernel), List.mem_of_getElem? (i := 493) (by decide +kernel)⟩
theorem lw_p11 : lw_okq (⟨"SilentDrives$Pad", "readOrder", "()Z"⟩, 7) := ⟨⟨by decide +kernel, by decide +kernel⟩, List.mem_of_getElem? (i := 145) (by decide +kernel), List.mem_of_getElem? (i := 496) (by decide +kernel), List.mem_of_getElem? (i := 497) (by decide +kernel)⟩
theorem lw_p12 : lw_okq (⟨"SilentDrives$Pad", "readKindAndDrive", "()Z"⟩, 7) := ⟨⟨by decide +kernel, by decide +kernel⟩, List.mem_of_getElem? (i := 145) (by decide +kernel), List.mem_of_getElem? (i := 500) (by decide +kernel), List.mem_of_getElem? (i := 501) (by decide +kernel)⟩
theorem lw_p13 : lw_okq (⟨"SilentDrives$Pad", "readFirst", "()Z"⟩, 7) := ⟨⟨by decide +kernel, by decide +kernel⟩, List.mem_of_getElem? (i := 145) (by decide +kernel), List.mem_of_getElem? (i := 505) (by decide +kernel), List.mem_of_getElem? (i := 506) (by decide +kernel)⟩
theorem lw_p14 : lw_okq (⟨"SilentDrives$Pad", "readNumber", "()I"⟩, 7) := ⟨⟨by decide +kernel, by decide +kernel⟩, List.mem_of_getElem? (i := 145) (by decide +kernel), List.mem_of_getElem? (i := 509) (by decide +kernel), List.mem_of_getElem? (i := 510) (by decide +kernel)⟩
theorem lw_p15 : lw_okq (⟨"SilentDrives$Pad", "readSecond", "()Z"⟩, 7) := ⟨⟨by decide +kernel, by decide +kernel⟩, List.mem_of_getElem? (i := 145) (by decide +kernel), List.mem_of_getElem? (i := 516) (by decide +kernel), List.mem_of_getElem? (i := 517) (by decide +kernel)⟩
def lw_privs_1 : List (MethodName × Nat) := [(⟨"SilentDrives", "recorded", "(I)I"⟩, 7), (⟨"SilentDrives$Station", "changeHour", "(IIII)I"⟩, 7), (⟨"SilentDrives$Station", "passMinuteOf", "(LSilentDrives$Drive;LSilentDrives$Drive;)Z"⟩, 7), (⟨"SilentDrives$Station", "settleHours", "(LSilentDrives$Drive;IZ)V"⟩, 7), (⟨"SilentDrives$Drive", "fillCells", "(I)V"⟩, 12), (⟨"SilentDrives$Station", "cleanUp", "(LSilentDrives$Drive;Z)Z"⟩, 7), (⟨"SilentDrives$Station", "chargeOverrun", "(LSilentDrives$Drive;I)V"⟩, 7), (⟨"SilentDrives", "errorOfQuestion", "(II)I"⟩, 7), (⟨"SilentDrives", "tryMinutes", "(I)V"⟩, 7), (⟨"SilentDrives$Pad", "readSign", "(C)Z"⟩, 7), (⟨"SilentDrives$Pad", "signHere", "()C"⟩, 7), (⟨"SilentDrives$Pad", "readOrder", "()Z"⟩, 7), (⟨"SilentDrives$Pad", "readKindAndDrive", "()Z"⟩, 7), (⟨"SilentDrives$Pad", "readFirst", "()Z"⟩, 7), (⟨"SilentDrives$Pad", "readNumber", "()I"⟩, 7), (⟨"SilentDrives$Pad", "readSecond", "()Z"⟩, 7)]
theorem lw_r1 : ∀ q ∈ lw_privs_1, lw_okq q := List.forall_mem_cons.mpr ⟨lw_p0, List.forall_mem_cons.mpr ⟨lw_p1, List.forall_mem_cons.mpr ⟨lw_p2, List.forall_mem_cons.mpr ⟨lw_p3, List.forall_mem_cons.mpr ⟨lw_p4, List.forall_mem_cons.mpr ⟨lw_p5, List.forall_mem_cons.mpr ⟨lw_p6, List.forall_mem_cons.mpr ⟨lw_p7, List.forall_mem_cons.mpr ⟨lw_p8, List.forall_mem_cons.mpr ⟨lw_p9, List.forall_mem_cons.mpr ⟨lw_p10, List.forall_mem_cons.mpr ⟨lw_p11, List.forall_mem_cons.mpr ⟨lw_p12, List.forall_mem_cons.mpr ⟨lw_p13, List.forall_mem_cons.mpr ⟨lw_p14, List.forall_mem_cons.mpr ⟨lw_p15, fun _ h => absurd h List.not_mem_nil⟩⟩⟩⟩⟩⟩⟩⟩⟩⟩⟩⟩⟩⟩⟩⟩
theorem lw_p16 : lw_okq (⟨"SilentDrives", "carryOutOrder", "()I"⟩, 7) := ⟨⟨by decide +kernel, by decide +kernel⟩, List.mem_of_getElem? (i := 12) (by decide +kernel), List.mem_of_getElem? (i := 526) (by decide +kernel), List.mem_of_getElem? (i := 527) (by decide +kernel)⟩
theorem lw_p17 : lw_okq (⟨"SilentDrivesModel", "records", "()V"⟩, 11) := ⟨⟨by decide +kernel, by decide +kernel⟩, List.mem_of_getElem? (i := 549) (by decide +kernel), List.mem_of_getElem? (i := 617) (by decide +kernel), List.mem_of_getElem? (i := 618) (by decide +kernel)⟩
theorem lw_p18 : lw_okq (⟨"SilentDrivesModel", "mayStream", "(III)I"⟩, 11) := ⟨⟨by decide +kernel, by decide +kernel⟩, List.mem_of_getElem? (i := 549) (by decide +kernel), List.mem_of_getElem? (i := 636) (by decide +kernel), List.mem_of_getElem? (i := 637) (by decide +kernel)⟩
theorem lw_p19 : lw_okq (⟨"SilentDrivesModel", "streams", "(III)I"⟩, 11) := ⟨⟨by decide +kernel, by decide +kernel⟩, List.mem_of_getElem? (i := 549) (by decide +kernel), List.mem_of_getElem? (i := 644) (by decide +kernel), List.mem_of_getElem? (i := 645) (by decide +kernel)⟩
theorem lw_p20 : lw_okq (⟨"SilentDrivesModel", "mayWrite", "(II)I"⟩, 11) := ⟨⟨by decide +kernel, by decide +kernel⟩, List.mem_of_getElem? (i := 549) (by decide +kernel), List.mem_of_getElem? (i := 652) (by decide +kernel), List.mem_of_getElem? (i := 653) (by decide +kernel)⟩
theorem lw_p21 : lw_okq (⟨"SilentDrivesModel", "comes", "(II)I"⟩, 11) := ⟨⟨by decide +kernel, by decide +kernel⟩, List.mem_of_getElem? (i := 549) (by decide +kernel), List.mem_of_getElem? (i := 658) (by decide +kernel), List.mem_of_getElem? (i := 659) (by decide +kernel)⟩
theorem lw_p22 : lw_okq (⟨"SilentDrivesModel", "mayTrade", "(IIZ)I"⟩, 11) := ⟨⟨by decide +kernel, by decide +kernel⟩, List.mem_of_getElem? (i := 549) (by decide +kernel), List.mem_of_getElem? (i := 666) (by decide +kernel), List.mem_of_getElem? (i := 667) (by decide +kernel)⟩
theorem lw_p23 : lw_okq (⟨"SilentDrivesModel", "trades", "(IIZ)I"⟩, 11) := ⟨⟨by decide +kernel, by decide +kernel⟩, List.mem_of_getElem? (i := 549) (by decide +kernel), List.mem_of_getElem? (i := 677) (by decide +kernel), List.mem_of_getElem? (i := 678) (by decide +kernel)⟩
theorem lw_p24 : lw_okq (⟨"SilentDrivesModel", "hoursOf", "(II)I"⟩, 11) := ⟨⟨by decide +kernel, by decide +kernel⟩, List.mem_of_getElem? (i := 549) (by decide +kernel), List.mem_of_getElem? (i := 681) (by decide +kernel), List.mem_of_getElem? (i := 682) (by decide +kernel)⟩
theorem lw_p25 : lw_okq (⟨"SilentDrivesModel", "passes", "(I)V"⟩, 11) := ⟨⟨by decide +kernel, by decide +kernel⟩, List.mem_of_getElem? (i := 549) (by decide +kernel), List.mem_of_getElem? (i := 697) (by decide +kernel), List.mem_of_getElem? (i := 698) (by decide +kernel)⟩
theorem lw_p26 : lw_okq (⟨"SilentDrivesModel", "tries", "()V"⟩, 11) := ⟨⟨by decide +kernel, by decide +kernel⟩, List.mem_of_getElem? (i := 549) (by decide +kernel), List.mem_of_getElem? (i := 776) (by decide +kernel), List.mem_of_getElem? (i := 777) (by decide +kernel)⟩
theorem lw_p27 : lw_okq (⟨"SilentDrivesModel", "passesThen", "(II)J"⟩, 11) := ⟨⟨by decide +kernel, by decide +kernel⟩, List.mem_of_getElem? (i := 549) (by decide +kernel), List.mem_of_getElem? (i := 780) (by decide +kernel), List.mem_of_getElem? (i := 781) (by decide +kernel)⟩
theorem lw_p28 : lw_okq (⟨"SilentDrivesModel", "isSafe", "(II)Z"⟩, 11) := ⟨⟨by decide +kernel, by decide +kernel⟩, List.mem_of_getElem? (i := 549) (by decide +kernel), List.mem_of_getElem? (i := 797) (by decide +kernel), List.mem_of_getElem? (i := 798) (by decide +kernel)⟩
theorem lw_p29 : lw_okq (⟨"SilentDrivesModel", "isText", "()Z"⟩, 11) := ⟨⟨by decide +kernel, by decide +kernel⟩, List.mem_of_getElem? (i := 549) (by decide +kernel), List.mem_of_getElem? (i := 830) (by decide +kernel), List.mem_of_getElem? (i := 831) (by decide +kernel)⟩
theorem lw_p30 : lw_okq (⟨"SilentDrivesModel", "isOrder", "()Z"⟩, 11) := ⟨⟨by decide +kernel, by decide +kernel⟩, List.mem_of_getElem? (i := 549) (by decide +kernel), List.mem_of_getElem? (i := 834) (by decide +kernel), List.mem_of_getElem? (i := 835) (by decide +kernel)⟩
theorem lw_p31 : lw_okq (⟨"SilentDrivesModel", "isAt", "(II)Z"⟩, 11) := ⟨⟨by decide +kernel, by decide +kernel⟩, List.mem_of_getElem? (i := 549) (by decide +kernel), List.mem_of_getElem? (i := 838) (by decide +kernel), List.mem_of_getElem? (i := 839) (by decide +kernel)⟩
def lw_privs_2 : List (MethodName × Nat) := [(⟨"SilentDrives", "carryOutOrder", "()I"⟩, 7), (⟨"SilentDrivesModel", "records", "()V"⟩, 11), (⟨"SilentDrivesModel", "mayStream", "(III)I"⟩, 11), (⟨"SilentDrivesModel", "streams", "(III)I"⟩, 11), (⟨"SilentDrivesModel", "mayWrite", "(II)I"⟩, 11), (⟨"SilentDrivesModel", "comes", "(II)I"⟩, 11), (⟨"SilentDrivesModel", "mayTrade", "(IIZ)I"⟩, 11), (⟨"SilentDrivesModel", "trades", "(IIZ)I"⟩, 11), (⟨"SilentDrivesModel", "hoursOf", "(II)I"⟩, 11), (⟨"SilentDrivesModel", "passes", "(I)V"⟩, 11), (⟨"SilentDrivesModel", "tries", "()V"⟩, 11), (⟨"SilentDrivesModel", "passesThen", "(II)J"⟩, 11), (⟨"SilentDrivesModel", "isSafe", "(II)Z"⟩, 11), (⟨"SilentDrivesModel", "isText", "()Z"⟩, 11), (⟨"SilentDrivesModel", "isOrder", "()Z"⟩, 11), (⟨"SilentDrivesModel", "isAt", "(II)Z"⟩, 11)]
theorem lw_r2 : ∀ q ∈ lw_privs_2, lw_okq q := List.forall_mem_cons.mpr ⟨lw_p16, List.forall_mem_cons.mpr ⟨lw_p17, List.forall_mem_cons.mpr ⟨lw_p18, List.forall_mem_cons.mpr ⟨lw_p19, List.forall_mem_cons.mpr ⟨lw_p20, List.forall_mem_cons.mpr ⟨lw_p21, List.forall_mem_cons.mpr ⟨lw_p22, List.forall_mem_cons.mpr ⟨lw_p23, List.forall_mem_cons.mpr ⟨lw_p24, List.forall_mem_cons.mpr ⟨lw_p25, List.forall_mem_cons.mpr ⟨lw_p26, List.forall_mem_cons.mpr ⟨lw_p27, List.forall_mem_cons.mpr ⟨lw_p28, List.forall_mem_cons.mpr ⟨lw_p29, List.forall_mem_cons.mpr ⟨lw_p30, List.forall_mem_cons.mpr ⟨lw_p31, fun _ h => absurd h List.not_mem_nil⟩⟩⟩⟩⟩⟩⟩⟩⟩⟩⟩⟩⟩⟩⟩⟩
theorem lw_p32 : lw_okq (⟨"SilentDrivesModel", "isNumber", "(I)Z"⟩, 11) := ⟨⟨by decide +kernel, by decide +kernel⟩, List.mem_of_getElem? (i := 549) (by decide +kernel), List.mem_of_getElem? (i := 842) (by decide +kernel), List.mem_of_getElem? (i := 843) (by decide +kernel)⟩
theorem lw_p33 : lw_okq (⟨"SilentDrivesModel", "isSign", "(I)Z"⟩, 11) := ⟨⟨by decide +kernel, by decide +kernel⟩, List.mem_of_getElem? (i := 549) (by decide +kernel), List.mem_of_getElem? (i := 846) (by decide +kernel), List.mem_of_getElem? (i := 847) (by decide +kernel)⟩
theorem lw_p34 : lw_okq (⟨"SilentDrivesModel", "does", "(I)Z"⟩, 11) := ⟨⟨by decide +kernel, by decide +kernel⟩, List.mem_of_getElem? (i := 549) (by decide +kernel), List.mem_of_getElem? (i := 854) (by decide +kernel), List.mem_of_getElem? (i := 855) (by decide +kernel)⟩
def lw_privs_3 : List (MethodName × Nat) := [(⟨"SilentDrivesModel", "isNumber", "(I)Z"⟩, 11), (⟨"SilentDrivesModel", "isSign", "(I)Z"⟩, 11), (⟨"SilentDrivesModel", "does", "(I)Z"⟩, 11)]
theorem lw_r3 : ∀ q ∈ lw_privs_3, lw_okq q := List.forall_mem_cons.mpr ⟨lw_p32, List.forall_mem_cons.mpr ⟨lw_p33, List.forall_mem_cons.mpr ⟨lw_p34, fun _ h => absurd h List.not_mem_nil⟩⟩⟩
def lw_privs : List (MethodName × Nat) := lw_privs_1 ++ (lw_privs_2 ++ (lw_privs_3))
def lw_tbl : List Cond := k2_sels lw_privs ++ tables_1
theorem lw_privs_ok : ∀ q ∈ lw_privs, lw_okq q := by
  show ∀ q ∈ lw_privs_1 ++ (lw_privs_2 ++ (lw_privs_3)), lw_okq q
  exact List.forall_mem_append.mpr ⟨lw_r1, List.forall_mem_append.mpr ⟨lw_r2, lw_r3⟩⟩
/-- the streams that the claim lets the run draw from -/
abbrev lw_cs : List Choice := [Jvm.Choice.named "NaN.bits"]
theorem lw_bits : nanBits ∈ lw_cs := by first | decide | exact List.mem_cons_self | simp [lw_cs, nanBits]
-- ===== end of PART A; then your names; then what follows =====
/-! ===== BEGIN words of one list among another's, by their places ===== -/
theorem goodIn_r {big : List Cond} (ws : List Cond) (ps : List Nat) (hp : ws = ps.filterMap (fun i => big[i]?)) (h : ws.all goodWord = true) : GoodIn big ws := by
  intro w hw
  have h1 := List.all_eq_true.mp h w hw
  rw [hp] at hw
  obtain ⟨i, -, hi⟩ := List.mem_filterMap.mp hw
  have hm : w ∈ big := by first | exact List.mem_of_getElem? hi | exact List.getElem?_mem hi
  exact ⟨hm, good_of_word h1⟩
theorem goodIn_app {big a b : List Cond} (ha : GoodIn big a) (hb : GoodIn big b) : GoodIn big (a ++ b) := fun w h => (List.mem_append.mp h).elim (ha w) (hb w)
theorem goodIn_ca {big a b : List Cond} {c : Cond} (ha : GoodIn big (c :: a)) (hb : GoodIn big b) : GoodIn big (c :: (a ++ b)) := fun w h => (List.mem_cons.mp h).elim (fun e => ha w (List.mem_cons.mpr (Or.inl e))) (fun h => (List.mem_append.mp h).elim (fun h => ha w (List.mem_cons.mpr (Or.inr h))) (hb w))
theorem goodIn_sub {big ws : List Cond} (hm : ∀ w ∈ ws, w ∈ big) (h : ws.all goodWord = true) : GoodIn big ws := fun w hw => ⟨hm w hw, good_of_word (List.all_eq_true.mp h w hw)⟩
/-! ===== END ===== -/

/-! ===== BEGIN printed: names, fields, word lists, decode rows ===== -/
def RX0 : String := "SilentDrives$Drive"
def TX0 : u_T := fun k => match k with
  | 0 => ("SilentDrives$Drive", "free", "I", false)
  | 1 => ("SilentDrives$Drive", "stale", "I", false)
  | 2 => ("SilentDrives$Drive", "lent", "I", false)
  | 3 => ("SilentDrives$Drive", "held", "I", false)
  | 4 => ("SilentDrives$Drive", "cleaning", "Z", false)
  | 5 => ("SilentDrives$Drive", "written", "I", false)
  | 6 => ("SilentDrives$Drive", "sounded", "I", false)
  | 7 => ("SilentDrives$Drive", "overruns", "I", false)
  | 8 => ("SilentDrives$Drive", "every", "I", false)
  | 9 => ("SilentDrives$Drive", "units", "I", false)
  | 10 => ("SilentDrives$Drive", "heldSum", "J", false)
  | _ => ("SilentDrives$Drive", "hours", "[B", true)
def tyX0 : Nat → FieldType := fun k => match k with
  | 0 => .int
  | 1 => .int
  | 2 => .int
  | 3 => .int
  | 4 => .boolean
  | 5 => .int
  | 6 => .int
  | 7 => .int
  | 8 => .int
  | 9 => .int
  | 10 => .long
  | _ => .array .byte
abbrev wsX00 : List Cond := u_ws RX0 TX0 12
theorem nmX0 : ∀ a, a < 12 → ∀ b, b < 12 → a ≠ b → (TX0 a).2.1 ≠ (TX0 b).2.1 := by decide +kernel
theorem tyX0_ok : ∀ k, k < 12 → parseFieldDescriptor (TX0 k).2.2.1 = some (tyX0 k) := by decide +kernel
abbrev cX0_init : ByteArray := prog_2_method_1_code
def yX0_init : MethodName := ⟨RX0, "<init>", "()V"⟩
abbrev cX0_copyFrom : ByteArray := prog_2_method_2_code
def yX0_copyFrom : MethodName := ⟨RX0, "copyFrom", "(LSilentDrives$Drive;)V"⟩
abbrev cX0_hourState : ByteArray := prog_2_method_3_code
def yX0_hourState : MethodName := ⟨RX0, "hourState", "(I)I"⟩
abbrev cX0_markHour : ByteArray := prog_2_method_4_code
def yX0_markHour : MethodName := ⟨RX0, "markHour", "(II)V"⟩
abbrev cX0_isQuietIn : ByteArray := prog_2_method_5_code
def yX0_isQuietIn : MethodName := ⟨RX0, "isQuietIn", "(I)Z"⟩
abbrev cX0_hoursThatAre : ByteArray := prog_2_method_6_code
def yX0_hoursThatAre : MethodName := ⟨RX0, "hoursThatAre", "(I)I"⟩
abbrev cX0_soldHours : ByteArray := prog_2_method_7_code
def yX0_soldHours : MethodName := ⟨RX0, "soldHours", "()I"⟩
abbrev cX0_keptInARow : ByteArray := prog_2_method_8_code
def yX0_keptInARow : MethodName := ⟨RX0, "keptInARow", "()I"⟩
abbrev cX0_takeStream : ByteArray := prog_2_method_9_code
def yX0_takeStream : MethodName := ⟨RX0, "takeStream", "(I)V"⟩
abbrev cX0_takeBackFrom : ByteArray := prog_2_method_10_code
def yX0_takeBackFrom : MethodName := ⟨RX0, "takeBackFrom", "(LSilentDrives$Drive;)V"⟩
abbrev cX0_writeHeld : ByteArray := prog_2_method_11_code
def yX0_writeHeld : MethodName := ⟨RX0, "writeHeld", "()V"⟩
abbrev cX0_fillCells : ByteArray := prog_2_method_12_code
def yX0_fillCells : MethodName := ⟨RX0, "fillCells", "(I)V"⟩
abbrev cX0_lendTo : ByteArray := prog_2_method_13_code
def yX0_lendTo : MethodName := ⟨RX0, "lendTo", "(LSilentDrives$Drive;I)V"⟩
abbrev cX0_cleanCells : ByteArray := prog_2_method_14_code
def yX0_cleanCells : MethodName := ⟨RX0, "cleanCells", "(I)V"⟩
def RX1 : String := "SilentDrives$History"
def TX1 : u_T := fun k => match k with
  | 0 => ("SilentDrives$History", "states", "[LSilentDrives$Station;", true)
  | 1 => ("SilentDrives$History", "next", "I", false)
  | _ => ("SilentDrives$History", "size", "I", false)
def tyX1 : Nat → FieldType := fun k => match k with
  | 0 => .array (.object "SilentDrives$Station")
  | 1 => .int
  | _ => .int
abbrev wsX10 : List Cond := u_ws RX1 TX1 3
theorem nmX1 : ∀ a, a < 3 → ∀ b, b < 3 → a ≠ b → (TX1 a).2.1 ≠ (TX1 b).2.1 := by decide +kernel
theorem tyX1_ok : ∀ k, k < 3 → parseFieldDescriptor (TX1 k).2.2.1 = some (tyX1 k) := by decide +kernel
abbrev cX1_init : ByteArray := prog_3_method_1_code
def yX1_init : MethodName := ⟨RX1, "<init>", "()V"⟩
abbrev cX1_prepare : ByteArray := prog_3_method_2_code
def yX1_prepare : MethodName := ⟨RX1, "prepare", "(LSilentDrives$Station;)V"⟩
abbrev cX1_keepPrepared : ByteArray := prog_3_method_3_code
def yX1_keepPrepared : MethodName := ⟨RX1, "keepPrepared", "()V"⟩
abbrev cX1_bringBackLatest : ByteArray := prog_3_method_4_code
def yX1_bringBackLatest : MethodName := ⟨RX1, "bringBackLatest", "(LSilentDrives$Station;)V"⟩
def RX2 : String := "SilentDrives$Pad"
def TX2 : u_T := fun k => match k with
  | 0 => ("SilentDrives$Pad", "signs", "[C", true)
  | 1 => ("SilentDrives$Pad", "length", "I", false)
  | 2 => ("SilentDrives$Pad", "place", "I", false)
  | 3 => ("SilentDrives$Pad", "kind", "C", false)
  | 4 => ("SilentDrives$Pad", "drive", "I", false)
  | 5 => ("SilentDrives$Pad", "first", "I", false)
  | _ => ("SilentDrives$Pad", "second", "I", false)
def tyX2 : Nat → FieldType := fun k => match k with
  | 0 => .array .char
  | 1 => .int
  | 2 => .int
  | 3 => .char
  | 4 => .int
  | 5 => .int
  | _ => .int
abbrev wsX20 : List Cond := u_ws RX2 TX2 7
theorem nmX2 : ∀ a, a < 7 → ∀ b, b < 7 → a ≠ b → (TX2 a).2.1 ≠ (TX2 b).2.1 := by decide +kernel
theorem tyX2_ok : ∀ k, k < 7 → parseFieldDescriptor (TX2 k).2.2.1 = some (tyX2 k) := by decide +kernel
abbrev cX2_init : ByteArray := prog_4_method_1_code
def yX2_init : MethodName := ⟨RX2, "<init>", "()V"⟩
abbrev cX2_append : ByteArray := prog_4_method_2_code
def yX2_append : MethodName := ⟨RX2, "append", "(JI)V"⟩
abbrev cX2_firstFault : ByteArray := prog_4_method_3_code
def yX2_firstFault : MethodName := ⟨RX2, "firstFault", "()I"⟩
abbrev cX2_begin : ByteArray := prog_4_method_4_code
def yX2_begin : MethodName := ⟨RX2, "begin", "()V"⟩
abbrev cX2_readNext : ByteArray := prog_4_method_5_code
def yX2_readNext : MethodName := ⟨RX2, "readNext", "()Z"⟩
abbrev cX2_readOrder : ByteArray := prog_4_method_6_code
def yX2_readOrder : MethodName := ⟨RX2, "readOrder", "()Z"⟩
abbrev cX2_readKindAndDrive : ByteArray := prog_4_method_7_code
def yX2_readKindAndDrive : MethodName := ⟨RX2, "readKindAndDrive", "()Z"⟩
abbrev cX2_readSign : ByteArray := prog_4_method_8_code
def yX2_readSign : MethodName := ⟨RX2, "readSign", "(C)Z"⟩
abbrev cX2_readFirst : ByteArray := prog_4_method_9_code
def yX2_readFirst : MethodName := ⟨RX2, "readFirst", "()Z"⟩
abbrev cX2_readSecond : ByteArray := prog_4_method_10_code
def yX2_readSecond : MethodName := ⟨RX2, "readSecond", "()Z"⟩
abbrev cX2_readNumber : ByteArray := prog_4_method_11_code
def yX2_readNumber : MethodName := ⟨RX2, "readNumber", "()I"⟩
abbrev cX2_isDigit : ByteArray := prog_4_method_12_code
def yX2_isDigit : MethodName := ⟨RX2, "isDigit", "(C)Z"⟩
abbrev cX2_signHere : ByteArray := prog_4_method_13_code
def yX2_signHere : MethodName := ⟨RX2, "signHere", "()C"⟩
def RX3 : String := "SilentDrives$Station"
def TX3 : u_T := fun k => match k with
  | 0 => ("SilentDrives$Station", "settings", "[I", true)
  | 1 => ("SilentDrives$Station", "drives", "[LSilentDrives$Drive;", true)
  | 2 => ("SilentDrives$Station", "now", "I", false)
  | 3 => ("SilentDrives$Station", "earned", "I", false)
  | 4 => ("SilentDrives$Station", "fined", "I", false)
  | 5 => ("SilentDrives$Station", "credits", "I", false)
  | _ => ("SilentDrives$Station", "creditsUsed", "I", false)
def tyX3 : Nat → FieldType := fun k => match k with
  | 0 => .array .int
  | 1 => .array (.object "SilentDrives$Drive")
  | 2 => .int
  | 3 => .int
  | 4 => .int
  | 5 => .int
  | _ => .int
abbrev wsX30 : List Cond := u_ws RX3 TX3 7
theorem nmX3 : ∀ a, a < 7 → ∀ b, b < 7 → a ≠ b → (TX3 a).2.1 ≠ (TX3 b).2.1 := by decide +kernel
theorem tyX3_ok : ∀ k, k < 7 → parseFieldDescriptor (TX3 k).2.2.1 = some (tyX3 k) := by decide +kernel
abbrev cX3_init : ByteArray := prog_5_method_1_code
def yX3_init : MethodName := ⟨RX3, "<init>", "()V"⟩
abbrev cX3_copyFrom : ByteArray := prog_5_method_2_code
def yX3_copyFrom : MethodName := ⟨RX3, "copyFrom", "(LSilentDrives$Station;)V"⟩
abbrev cX3_hourOfNow : ByteArray := prog_5_method_3_code
def yX3_hourOfNow : MethodName := ⟨RX3, "hourOfNow", "()I"⟩
abbrev cX3_changeSetting : ByteArray := prog_5_method_4_code
def yX3_changeSetting : MethodName := ⟨RX3, "changeSetting", "(II)I"⟩
abbrev cX3_changeStream : ByteArray := prog_5_method_5_code
def yX3_changeStream : MethodName := ⟨RX3, "changeStream", "(III)I"⟩
abbrev cX3_bringUnits : ByteArray := prog_5_method_6_code
def yX3_bringUnits : MethodName := ⟨RX3, "bringUnits", "(II)I"⟩
abbrev cX3_sellHour : ByteArray := prog_5_method_7_code
def yX3_sellHour : MethodName := ⟨RX3, "sellHour", "(II)I"⟩
abbrev cX3_takeHourBack : ByteArray := prog_5_method_8_code
def yX3_takeHourBack : MethodName := ⟨RX3, "takeHourBack", "(II)I"⟩
abbrev cX3_changeHour : ByteArray := prog_5_method_9_code
def yX3_changeHour : MethodName := ⟨RX3, "changeHour", "(IIII)I"⟩
abbrev cX3_passMinutes : ByteArray := prog_5_method_10_code
def yX3_passMinutes : MethodName := ⟨RX3, "passMinutes", "(I)I"⟩
abbrev cX3_passesWithoutOverrun : ByteArray := prog_5_method_11_code
def yX3_passesWithoutOverrun : MethodName := ⟨RX3, "passesWithoutOverrun", "(I)Z"⟩
abbrev cX3_passOneMinute : ByteArray := prog_5_method_12_code
def yX3_passOneMinute : MethodName := ⟨RX3, "passOneMinute", "()Z"⟩
abbrev cX3_passMinuteOf : ByteArray := prog_5_method_13_code
def yX3_passMinuteOf : MethodName := ⟨RX3, "passMinuteOf", "(LSilentDrives$Drive;LSilentDrives$Drive;)Z"⟩
abbrev cX3_settleHours : ByteArray := prog_5_method_14_code
def yX3_settleHours : MethodName := ⟨RX3, "settleHours", "(LSilentDrives$Drive;IZ)V"⟩
abbrev cX3_cleanUp : ByteArray := prog_5_method_15_code
def yX3_cleanUp : MethodName := ⟨RX3, "cleanUp", "(LSilentDrives$Drive;Z)Z"⟩
abbrev cX3_chargeOverrun : ByteArray := prog_5_method_16_code
def yX3_chargeOverrun : MethodName := ⟨RX3, "chargeOverrun", "(LSilentDrives$Drive;I)V"⟩
def RX4 : String := "SilentDrives"
def TX4 : u_T := fun k => match k with
  | 0 => ("SilentDrives", "present", "LSilentDrives$Station;", true)
  | 1 => ("SilentDrives", "history", "LSilentDrives$History;", true)
  | 2 => ("SilentDrives", "slots", "[LSilentDrives$Station;", true)
  | 3 => ("SilentDrives", "slotUsed", "[Z", true)
  | 4 => ("SilentDrives", "pad", "LSilentDrives$Pad;", true)
  | 5 => ("SilentDrives", "trial", "LSilentDrives$Station;", true)
  | _ => ("SilentDrives", "soldTrial", "LSilentDrives$Station;", true)
def tyX4 : Nat → FieldType := fun k => match k with
  | 0 => .object "SilentDrives$Station"
  | 1 => .object "SilentDrives$History"
  | 2 => .array (.object "SilentDrives$Station")
  | 3 => .array .boolean
  | 4 => .object "SilentDrives$Pad"
  | 5 => .object "SilentDrives$Station"
  | _ => .object "SilentDrives$Station"
abbrev wsX40 : List Cond := u_ws RX4 TX4 7
theorem nmX4 : ∀ a, a < 7 → ∀ b, b < 7 → a ≠ b → (TX4 a).2.1 ≠ (TX4 b).2.1 := by decide +kernel
theorem tyX4_ok : ∀ k, k < 7 → parseFieldDescriptor (TX4 k).2.2.1 = some (tyX4 k) := by decide +kernel
abbrev cX4_init : ByteArray := prog_1_method_1_code
def yX4_init : MethodName := ⟨RX4, "<init>", "()V"⟩
abbrev cX4_set : ByteArray := prog_1_method_2_code
def yX4_set : MethodName := ⟨RX4, "set", "(II)I"⟩
abbrev cX4_stream : ByteArray := prog_1_method_3_code
def yX4_stream : MethodName := ⟨RX4, "stream", "(III)I"⟩
abbrev cX4_write : ByteArray := prog_1_method_4_code
def yX4_write : MethodName := ⟨RX4, "write", "(II)I"⟩
abbrev cX4_sell : ByteArray := prog_1_method_5_code
def yX4_sell : MethodName := ⟨RX4, "sell", "(II)I"⟩
abbrev cX4_giveBack : ByteArray := prog_1_method_6_code
def yX4_giveBack : MethodName := ⟨RX4, "giveBack", "(II)I"⟩
abbrev cX4_pass : ByteArray := prog_1_method_7_code
def yX4_pass : MethodName := ⟨RX4, "pass", "(I)I"⟩
abbrev cX4_ofDrive : ByteArray := prog_1_method_8_code
def yX4_ofDrive : MethodName := ⟨RX4, "ofDrive", "(II)I"⟩
abbrev cX4_hour : ByteArray := prog_1_method_9_code
def yX4_hour : MethodName := ⟨RX4, "hour", "(II)I"⟩
abbrev cX4_streak : ByteArray := prog_1_method_10_code
def yX4_streak : MethodName := ⟨RX4, "streak", "(I)I"⟩
abbrev cX4_share : ByteArray := prog_1_method_11_code
def yX4_share : MethodName := ⟨RX4, "share", "(I)I"⟩
abbrev cX4_mean : ByteArray := prog_1_method_12_code
def yX4_mean : MethodName := ⟨RX4, "mean", "(I)J"⟩
abbrev cX4_count : ByteArray := prog_1_method_13_code
def yX4_count : MethodName := ⟨RX4, "count", "(I)I"⟩
abbrev cX4_loudIn : ByteArray := prog_1_method_14_code
def yX4_loudIn : MethodName := ⟨RX4, "loudIn", "(II)I"⟩
abbrev cX4_freeIn : ByteArray := prog_1_method_15_code
def yX4_freeIn : MethodName := ⟨RX4, "freeIn", "(II)I"⟩
abbrev cX4_mostHeld : ByteArray := prog_1_method_16_code
def yX4_mostHeld : MethodName := ⟨RX4, "mostHeld", "(II)I"⟩
abbrev cX4_firstSafe : ByteArray := prog_1_method_17_code
def yX4_firstSafe : MethodName := ⟨RX4, "firstSafe", "(I)I"⟩
abbrev cX4_leastRoom : ByteArray := prog_1_method_18_code
def yX4_leastRoom : MethodName := ⟨RX4, "leastRoom", "(I)I"⟩
abbrev cX4_put : ByteArray := prog_1_method_19_code
def yX4_put : MethodName := ⟨RX4, "put", "(J)I"⟩
abbrev cX4_wipe : ByteArray := prog_1_method_20_code
def yX4_wipe : MethodName := ⟨RX4, "wipe", "()I"⟩
abbrev cX4_fault : ByteArray := prog_1_method_21_code
def yX4_fault : MethodName := ⟨RX4, "fault", "()I"⟩
abbrev cX4_carryOut : ByteArray := prog_1_method_22_code
def yX4_carryOut : MethodName := ⟨RX4, "carryOut", "()I"⟩
abbrev cX4_undo : ByteArray := prog_1_method_23_code
def yX4_undo : MethodName := ⟨RX4, "undo", "()I"⟩
abbrev cX4_save : ByteArray := prog_1_method_24_code
def yX4_save : MethodName := ⟨RX4, "save", "(I)I"⟩
abbrev cX4_restore : ByteArray := prog_1_method_25_code
def yX4_restore : MethodName := ⟨RX4, "restore", "(I)I"⟩
abbrev cX4_recorded : ByteArray := prog_1_method_26_code
def yX4_recorded : MethodName := ⟨RX4, "recorded", "(I)I"⟩
abbrev cX4_carryOutOrder : ByteArray := prog_1_method_27_code
def yX4_carryOutOrder : MethodName := ⟨RX4, "carryOutOrder", "()I"⟩
abbrev cX4_errorOfQuestion : ByteArray := prog_1_method_28_code
def yX4_errorOfQuestion : MethodName := ⟨RX4, "errorOfQuestion", "(II)I"⟩
abbrev cX4_tryMinutes : ByteArray := prog_1_method_29_code
def yX4_tryMinutes : MethodName := ⟨RX4, "tryMinutes", "(I)V"⟩
abbrev cX4_isDrive : ByteArray := prog_1_method_30_code
def yX4_isDrive : MethodName := ⟨RX4, "isDrive", "(I)Z"⟩
abbrev cX4_twinOf : ByteArray := prog_1_method_31_code
def yX4_twinOf : MethodName := ⟨RX4, "twinOf", "(I)I"⟩
abbrev cX4_isHour : ByteArray := prog_1_method_32_code
def yX4_isHour : MethodName := ⟨RX4, "isHour", "(I)Z"⟩
abbrev cX4_isSlot : ByteArray := prog_1_method_33_code
def yX4_isSlot : MethodName := ⟨RX4, "isSlot", "(I)Z"⟩
abbrev cX4_arePassable : ByteArray := prog_1_method_34_code
def yX4_arePassable : MethodName := ⟨RX4, "arePassable", "(I)Z"⟩
abbrev cX4_signsIn : ByteArray := prog_1_method_35_code
def yX4_signsIn : MethodName := ⟨RX4, "signsIn", "(J)I"⟩
abbrev cX4_doubleBits : ByteArray := prog_1_method_36_code
def yX4_doubleBits : MethodName := ⟨RX4, "doubleBits", "(D)J"⟩
abbrev cX4_floatBits : ByteArray := prog_1_method_37_code
def yX4_floatBits : MethodName := ⟨RX4, "floatBits", "(F)I"⟩
def RX5 : String := "SilentDrivesModel"
def TX5 : u_T := fun k => match k with
  | 0 => ("SilentDrivesModel", "now", "[J", true)
  | 1 => ("SilentDrivesModel", "then", "[J", true)
  | 2 => ("SilentDrivesModel", "past", "[J", true)
  | 3 => ("SilentDrivesModel", "kept", "I", false)
  | 4 => ("SilentDrivesModel", "slots", "[J", true)
  | 5 => ("SilentDrivesModel", "held", "[Z", true)
  | 6 => ("SilentDrivesModel", "pad", "[I", true)
  | 7 => ("SilentDrivesModel", "padded", "I", false)
  | 8 => ("SilentDrivesModel", "at", "I", false)
  | 9 => ("SilentDrivesModel", "orders", "[I", true)
  | _ => ("SilentDrivesModel", "ordered", "I", false)
def tyX5 : Nat → FieldType := fun k => match k with
  | 0 => .array .long
  | 1 => .array .long
  | 2 => .array .long
  | 3 => .int
  | 4 => .array .long
  | 5 => .array .boolean
  | 6 => .array .int
  | 7 => .int
  | 8 => .int
  | 9 => .array .int
  | _ => .int
abbrev wsX50 : List Cond := u_ws RX5 TX5 11
theorem nmX5 : ∀ a, a < 11 → ∀ b, b < 11 → a ≠ b → (TX5 a).2.1 ≠ (TX5 b).2.1 := by decide +kernel
theorem tyX5_ok : ∀ k, k < 11 → parseFieldDescriptor (TX5 k).2.2.1 = some (tyX5 k) := by decide +kernel
abbrev cX5_init : ByteArray := prog_7_method_1_code
def yX5_init : MethodName := ⟨RX5, "<init>", "()V"⟩
abbrev cX5_in : ByteArray := prog_7_method_3_code
def yX5_in : MethodName := ⟨RX5, "in", "(JJJ)Z"⟩
abbrev cX5_isDrive : ByteArray := prog_7_method_4_code
def yX5_isDrive : MethodName := ⟨RX5, "isDrive", "(I)Z"⟩
abbrev cX5_isHour : ByteArray := prog_7_method_5_code
def yX5_isHour : MethodName := ⟨RX5, "isHour", "(I)Z"⟩
abbrev cX5_row : ByteArray := prog_7_method_6_code
def yX5_row : MethodName := ⟨RX5, "row", "(I)I"⟩
abbrev cX5_lays : ByteArray := prog_7_method_7_code
def yX5_lays : MethodName := ⟨RX5, "lays", "([JI[JI)V"⟩
abbrev cX5_records : ByteArray := prog_7_method_8_code
def yX5_records : MethodName := ⟨RX5, "records", "()V"⟩
abbrev cX5_undo : ByteArray := prog_7_method_9_code
def yX5_undo : MethodName := ⟨RX5, "undo", "()I"⟩
abbrev cX5_save : ByteArray := prog_7_method_10_code
def yX5_save : MethodName := ⟨RX5, "save", "(I)I"⟩
abbrev cX5_restore : ByteArray := prog_7_method_11_code
def yX5_restore : MethodName := ⟨RX5, "restore", "(I)I"⟩
abbrev cX5_hourOf : ByteArray := prog_7_method_12_code
def yX5_hourOf : MethodName := ⟨RX5, "hourOf", "([JIJ)I"⟩
abbrev cX5_isQuiet : ByteArray := prog_7_method_13_code
def yX5_isQuiet : MethodName := ⟨RX5, "isQuiet", "([JI)Z"⟩
abbrev cX5_moves : ByteArray := prog_7_method_14_code
def yX5_moves : MethodName := ⟨RX5, "moves", "([JIIJ)V"⟩
abbrev cX5_least : ByteArray := prog_7_method_15_code
def yX5_least : MethodName := ⟨RX5, "least", "(JJ)J"⟩
abbrev cX5_turns : ByteArray := prog_7_method_16_code
def yX5_turns : MethodName := ⟨RX5, "turns", "([JI)V"⟩
abbrev cX5_writes : ByteArray := prog_7_method_17_code
def yX5_writes : MethodName := ⟨RX5, "writes", "([JIZ)V"⟩
abbrev cX5_cleans : ByteArray := prog_7_method_18_code
def yX5_cleans : MethodName := ⟨RX5, "cleans", "([JIZ)V"⟩
abbrev cX5_passesOne : ByteArray := prog_7_method_19_code
def yX5_passesOne : MethodName := ⟨RX5, "passesOne", "([J)V"⟩
abbrev cX5_overruns : ByteArray := prog_7_method_20_code
def yX5_overruns : MethodName := ⟨RX5, "overruns", "([J)J"⟩
abbrev cX5_isFor : ByteArray := prog_7_method_21_code
def yX5_isFor : MethodName := ⟨RX5, "isFor", "(II)Z"⟩
abbrev cX5_set : ByteArray := prog_7_method_22_code
def yX5_set : MethodName := ⟨RX5, "set", "(II)I"⟩
abbrev cX5_mayStream : ByteArray := prog_7_method_23_code
def yX5_mayStream : MethodName := ⟨RX5, "mayStream", "(III)I"⟩
abbrev cX5_streams : ByteArray := prog_7_method_24_code
def yX5_streams : MethodName := ⟨RX5, "streams", "(III)I"⟩
abbrev cX5_stream : ByteArray := prog_7_method_25_code
def yX5_stream : MethodName := ⟨RX5, "stream", "(III)I"⟩
abbrev cX5_mayWrite : ByteArray := prog_7_method_26_code
def yX5_mayWrite : MethodName := ⟨RX5, "mayWrite", "(II)I"⟩
abbrev cX5_comes : ByteArray := prog_7_method_27_code
def yX5_comes : MethodName := ⟨RX5, "comes", "(II)I"⟩
abbrev cX5_write : ByteArray := prog_7_method_28_code
def yX5_write : MethodName := ⟨RX5, "write", "(II)I"⟩
abbrev cX5_mayTrade : ByteArray := prog_7_method_29_code
def yX5_mayTrade : MethodName := ⟨RX5, "mayTrade", "(IIZ)I"⟩
abbrev cX5_hoursOf : ByteArray := prog_7_method_30_code
def yX5_hoursOf : MethodName := ⟨RX5, "hoursOf", "(II)I"⟩
abbrev cX5_trades : ByteArray := prog_7_method_31_code
def yX5_trades : MethodName := ⟨RX5, "trades", "(IIZ)I"⟩
abbrev cX5_sell : ByteArray := prog_7_method_32_code
def yX5_sell : MethodName := ⟨RX5, "sell", "(II)I"⟩
abbrev cX5_giveBack : ByteArray := prog_7_method_33_code
def yX5_giveBack : MethodName := ⟨RX5, "giveBack", "(II)I"⟩
abbrev cX5_areMinutes : ByteArray := prog_7_method_34_code
def yX5_areMinutes : MethodName := ⟨RX5, "areMinutes", "(I)Z"⟩
abbrev cX5_passes : ByteArray := prog_7_method_35_code
def yX5_passes : MethodName := ⟨RX5, "passes", "(I)V"⟩
abbrev cX5_pass : ByteArray := prog_7_method_36_code
def yX5_pass : MethodName := ⟨RX5, "pass", "(I)I"⟩
abbrev cX5_ofDrive : ByteArray := prog_7_method_37_code
def yX5_ofDrive : MethodName := ⟨RX5, "ofDrive", "(II)I"⟩
abbrev cX5_hour : ByteArray := prog_7_method_38_code
def yX5_hour : MethodName := ⟨RX5, "hour", "(II)I"⟩
abbrev cX5_streak : ByteArray := prog_7_method_39_code
def yX5_streak : MethodName := ⟨RX5, "streak", "(I)I"⟩
abbrev cX5_share : ByteArray := prog_7_method_40_code
def yX5_share : MethodName := ⟨RX5, "share", "(I)I"⟩
abbrev cX5_mean : ByteArray := prog_7_method_41_code
def yX5_mean : MethodName := ⟨RX5, "mean", "(I)J"⟩
abbrev cX5_count : ByteArray := prog_7_method_42_code
def yX5_count : MethodName := ⟨RX5, "count", "(I)I"⟩
abbrev cX5_tries : ByteArray := prog_7_method_43_code
def yX5_tries : MethodName := ⟨RX5, "tries", "()V"⟩
abbrev cX5_mayAsk : ByteArray := prog_7_method_44_code
def yX5_mayAsk : MethodName := ⟨RX5, "mayAsk", "(II)I"⟩
abbrev cX5_passesThen : ByteArray := prog_7_method_45_code
def yX5_passesThen : MethodName := ⟨RX5, "passesThen", "(II)J"⟩
abbrev cX5_loudIn : ByteArray := prog_7_method_46_code
def yX5_loudIn : MethodName := ⟨RX5, "loudIn", "(II)I"⟩
abbrev cX5_freeIn : ByteArray := prog_7_method_47_code
def yX5_freeIn : MethodName := ⟨RX5, "freeIn", "(II)I"⟩
abbrev cX5_mostHeld : ByteArray := prog_7_method_48_code
def yX5_mostHeld : MethodName := ⟨RX5, "mostHeld", "(II)I"⟩
abbrev cX5_isSafe : ByteArray := prog_7_method_49_code
def yX5_isSafe : MethodName := ⟨RX5, "isSafe", "(II)Z"⟩
abbrev cX5_firstSafe : ByteArray := prog_7_method_50_code
def yX5_firstSafe : MethodName := ⟨RX5, "firstSafe", "(I)I"⟩
abbrev cX5_leastRoom : ByteArray := prog_7_method_51_code
def yX5_leastRoom : MethodName := ⟨RX5, "leastRoom", "(I)I"⟩
abbrev cX5_byteOf : ByteArray := prog_7_method_52_code
def yX5_byteOf : MethodName := ⟨RX5, "byteOf", "(JI)I"⟩
abbrev cX5_toldBy : ByteArray := prog_7_method_53_code
def yX5_toldBy : MethodName := ⟨RX5, "toldBy", "(J)I"⟩
abbrev cX5_put : ByteArray := prog_7_method_54_code
def yX5_put : MethodName := ⟨RX5, "put", "(J)I"⟩
abbrev cX5_wipe : ByteArray := prog_7_method_55_code
def yX5_wipe : MethodName := ⟨RX5, "wipe", "()I"⟩
abbrev cX5_isAt : ByteArray := prog_7_method_56_code
def yX5_isAt : MethodName := ⟨RX5, "isAt", "(II)Z"⟩
abbrev cX5_isSign : ByteArray := prog_7_method_57_code
def yX5_isSign : MethodName := ⟨RX5, "isSign", "(I)Z"⟩
abbrev cX5_isNumber : ByteArray := prog_7_method_58_code
def yX5_isNumber : MethodName := ⟨RX5, "isNumber", "(I)Z"⟩
abbrev cX5_isOrder : ByteArray := prog_7_method_59_code
def yX5_isOrder : MethodName := ⟨RX5, "isOrder", "()Z"⟩
abbrev cX5_isText : ByteArray := prog_7_method_60_code
def yX5_isText : MethodName := ⟨RX5, "isText", "()Z"⟩
abbrev cX5_fault : ByteArray := prog_7_method_61_code
def yX5_fault : MethodName := ⟨RX5, "fault", "()I"⟩
abbrev cX5_does : ByteArray := prog_7_method_62_code
def yX5_does : MethodName := ⟨RX5, "does", "(I)Z"⟩
abbrev cX5_carryOut : ByteArray := prog_7_method_63_code
def yX5_carryOut : MethodName := ⟨RX5, "carryOut", "()I"⟩
def RJxe99ae : String := "java/lang/Double"
def TJxe99ae : u_T := fun k => match k with
  | _ => ("", "", "", false)
def tyJxe99ae : Nat → FieldType := fun k => match k with
  | _ => .int
abbrev wsJxe99ae0 : List Cond := u_ws RJxe99ae TJxe99ae 0
theorem nmJxe99ae : ∀ a, a < 0 → ∀ b, b < 0 → a ≠ b → (TJxe99ae a).2.1 ≠ (TJxe99ae b).2.1 := by decide +kernel
theorem tyJxe99ae_ok : ∀ k, k < 0 → parseFieldDescriptor (TJxe99ae k).2.2.1 = some (tyJxe99ae k) := by decide +kernel
abbrev cJxe99ae_isNaN_b9ae7 : ByteArray := prog_8_method_6_code
def yJxe99ae_isNaN_b9ae7 : MethodName := ⟨RJxe99ae, "isNaN", "(D)Z"⟩
abbrev cJxe99ae_doubleToLongBits_ccdee : ByteArray := prog_8_method_23_code
def yJxe99ae_doubleToLongBits_ccdee : MethodName := ⟨RJxe99ae, "doubleToLongBits", "(D)J"⟩
def RJxf58ca : String := "java/lang/Float"
def TJxf58ca : u_T := fun k => match k with
  | _ => ("", "", "", false)
def tyJxf58ca : Nat → FieldType := fun k => match k with
  | _ => .int
abbrev wsJxf58ca0 : List Cond := u_ws RJxf58ca TJxf58ca 0
theorem nmJxf58ca : ∀ a, a < 0 → ∀ b, b < 0 → a ≠ b → (TJxf58ca a).2.1 ≠ (TJxf58ca b).2.1 := by decide +kernel
theorem tyJxf58ca_ok : ∀ k, k < 0 → parseFieldDescriptor (TJxf58ca k).2.2.1 = some (tyJxf58ca k) := by decide +kernel
abbrev cJxf58ca_isNaN_12338 : ByteArray := prog_9_method_6_code
def yJxf58ca_isNaN_12338 : MethodName := ⟨RJxf58ca, "isNaN", "(F)Z"⟩
abbrev cJxf58ca_floatToIntBits_5c35a : ByteArray := prog_9_method_24_code
def yJxf58ca_floatToIntBits_5c35a : MethodName := ⟨RJxf58ca, "floatToIntBits", "(F)I"⟩
def RJ9 : String := "java/lang/Math"
def TJ9 : u_T := fun k => match k with
  | _ => ("", "", "", false)
def tyJ9 : Nat → FieldType := fun k => match k with
  | _ => .int
abbrev wsJ90 : List Cond := u_ws RJ9 TJ9 0
theorem nmJ9 : ∀ a, a < 0 → ∀ b, b < 0 → a ≠ b → (TJ9 a).2.1 ≠ (TJ9 b).2.1 := by decide +kernel
theorem tyJ9_ok : ∀ k, k < 0 → parseFieldDescriptor (TJ9 k).2.2.1 = some (tyJ9 k) := by decide +kernel
abbrev cJ9_max_7cf53 : ByteArray := prog_10_method_65_code
def yJ9_max_7cf53 : MethodName := ⟨RJ9, "max", "(II)I"⟩
abbrev cJ9_min_7cf53 : ByteArray := prog_10_method_69_code
def yJ9_min_7cf53 : MethodName := ⟨RJ9, "min", "(II)I"⟩
def RJ10 : String := "java/lang/System"
def TJ10 : u_T := fun k => match k with
  | _ => ("", "", "", false)
def tyJ10 : Nat → FieldType := fun k => match k with
  | _ => .int
abbrev wsJ100 : List Cond := u_ws RJ10 TJ10 0
theorem nmJ10 : ∀ a, a < 0 → ∀ b, b < 0 → a ≠ b → (TJ10 a).2.1 ≠ (TJ10 b).2.1 := by decide +kernel
theorem tyJ10_ok : ∀ k, k < 0 → parseFieldDescriptor (TJ10 k).2.2.1 = some (tyJ10 k) := by decide +kernel
def RL : String := "SilentDrivesLaw"
abbrev cL_law : ByteArray := code
def yL_law : MethodName := ⟨RL, "law", "([I)Z"⟩
abbrev vwCl : List vw_C := [(RX0, TX0, 12), (RX1, TX1, 3), (RX2, TX2, 7), (RX3, TX3, 7), (RX4, TX4, 7), (RX5, TX5, 11)]
end
section
/-! WORDS: AW is what of the tables a callee may be handed; each word by its place -/
def AW : List Cond := lw_tbl.filter goodWord
theorem AW_in {w : Cond} (h : w ∈ AW) : w ∈ lw_tbl := (List.mem_filter.mp h).1
theorem AW_good : AW.all goodWord = true := List.all_eq_true.mpr fun _ h => (List.mem_filter.mp h).2
theorem aw_0 {w : Cond} (h : w ∈ k2_sels lw_privs) (g : goodWord w = true) : w ∈ AW := List.mem_filter.mpr ⟨List.mem_append_left _ h, g⟩
theorem aw_t1 {w : Cond} (h : w ∈ tables_1_1) (g : goodWord w = true) : w ∈ AW := List.mem_filter.mpr ⟨List.mem_append_right _ (List.mem_append_left _ h), g⟩
theorem aw_t2 {w : Cond} (h : w ∈ tables_1_2) (g : goodWord w = true) : w ∈ AW := List.mem_filter.mpr ⟨List.mem_append_right _ (List.mem_append_right _ (List.mem_append_left _ h)), g⟩
theorem aw_t3 {w : Cond} (h : w ∈ tables_1_3) (g : goodWord w = true) : w ∈ AW := List.mem_filter.mpr ⟨List.mem_append_right _ (List.mem_append_right _ (List.mem_append_right _ (List.mem_append_left _ h))), g⟩
theorem aw_t4 {w : Cond} (h : w ∈ tables_1_4) (g : goodWord w = true) : w ∈ AW := List.mem_filter.mpr ⟨List.mem_append_right _ (List.mem_append_right _ (List.mem_append_right _ (List.mem_append_right _ h))), g⟩
theorem kw_0 : Cond.initialized RL ∈ AW := aw_t1 (List.mem_of_getElem? (i := 0) rfl) rfl
theorem kw_1 : Cond.initialized RX4 ∈ AW := aw_t1 (List.mem_of_getElem? (i := 1) rfl) rfl
theorem kw_2 : Cond.initialized RX3 ∈ AW := aw_t1 (List.mem_of_getElem? (i := 2) rfl) rfl
theorem kw_3 : Cond.initialized RJ10 ∈ AW := aw_t1 (List.mem_of_getElem? (i := 3) rfl) rfl
theorem kw_4 : Cond.initialized RX0 ∈ AW := aw_t1 (List.mem_of_getElem? (i := 4) rfl) rfl
theorem kw_5 : Cond.initialized RX1 ∈ AW := aw_t1 (List.mem_of_getElem? (i := 5) rfl) rfl
theorem kw_6 : Cond.initialized RX2 ∈ AW := aw_t1 (List.mem_of_getElem? (i := 6) rfl) rfl
theorem kw_7 : Cond.initialized RX5 ∈ AW := aw_t1 (List.mem_of_getElem? (i := 7) rfl) rfl
theorem kw_8 : Cond.initialized RJ9 ∈ AW := aw_t1 (List.mem_of_getElem? (i := 8) rfl) rfl
theorem kw_9 : Cond.initialized RJxf58ca ∈ AW := aw_t1 (List.mem_of_getElem? (i := 9) rfl) rfl
theorem kw_10 : Cond.initialized RJxe99ae ∈ AW := aw_t1 (List.mem_of_getElem? (i := 10) rfl) rfl
theorem kw_11 : Cond.classLink RL 7 RX4 ∈ AW := aw_t1 (List.mem_of_getElem? (i := 11) rfl) rfl
theorem kw_12 : Cond.instantiable RX4 7 ∈ AW := aw_t1 (List.mem_of_getElem? (i := 12) rfl) rfl
theorem kw_13 : Cond.methodLink RL 9 yX4_init ∈ AW := aw_t1 (List.mem_of_getElem? (i := 13) rfl) rfl
theorem kw_14 : Cond.instanceMethod yX4_init ∈ AW := aw_t1 (List.mem_of_getElem? (i := 14) rfl) rfl
theorem kw_15 : Cond.code yX4_init cX4_init 2 (Option.none : Option Jvm.ClassFile.FieldType) ∈ AW := aw_t1 (List.mem_of_getElem? (i := 15) rfl) rfl
theorem kw_16 : Cond.methodLink RX4 1 objectInit ∈ AW := aw_t1 (List.mem_of_getElem? (i := 16) rfl) rfl
theorem kw_17 : Cond.instanceMethod objectInit ∈ AW := aw_t1 (List.mem_of_getElem? (i := 17) rfl) rfl
theorem kw_18 : Cond.code objectInit object_method_1_code 1 (Option.none : Option Jvm.ClassFile.FieldType) ∈ AW := aw_t1 (List.mem_of_getElem? (i := 18) rfl) rfl
theorem kw_19 : Cond.classLink RX4 7 RX3 ∈ AW := aw_t1 (List.mem_of_getElem? (i := 19) rfl) rfl
theorem kw_20 : Cond.instantiable RX3 7 ∈ AW := aw_t1 (List.mem_of_getElem? (i := 20) rfl) rfl
theorem kw_21 : Cond.methodLink RX4 9 yX3_init ∈ AW := aw_t1 (List.mem_of_getElem? (i := 21) rfl) rfl
theorem kw_22 : Cond.instanceMethod yX3_init ∈ AW := aw_t1 (List.mem_of_getElem? (i := 22) rfl) rfl
theorem kw_23 : Cond.code yX3_init cX3_init 2 (Option.none : Option Jvm.ClassFile.FieldType) ∈ AW := aw_t1 (List.mem_of_getElem? (i := 23) rfl) rfl
theorem kw_24 : Cond.methodLink RX3 3 objectInit ∈ AW := aw_t1 (List.mem_of_getElem? (i := 24) rfl) rfl
theorem kw_25 : Cond.classLink RX3 15 RX0 ∈ AW := aw_t1 (List.mem_of_getElem? (i := 25) rfl) rfl
theorem kw_26 : Cond.methodLink RX3 24 arraycopyName ∈ AW := aw_t1 (List.mem_of_getElem? (i := 29) rfl) rfl
theorem kw_27 : Cond.static arraycopyName ∈ AW := aw_t1 (List.mem_of_getElem? (i := 30) rfl) rfl
theorem kw_28 : Cond.native arraycopyName ∈ AW := aw_t1 (List.mem_of_getElem? (i := 31) rfl) rfl
theorem kw_29 : Cond.instantiable RX0 12 ∈ AW := aw_t1 (List.mem_of_getElem? (i := 32) rfl) rfl
theorem kw_30 : Cond.instanceMethod yX0_init ∈ AW := aw_t1 (List.mem_of_getElem? (i := 34) rfl) rfl
theorem kw_31 : Cond.code yX0_init cX0_init 1 (Option.none : Option Jvm.ClassFile.FieldType) ∈ AW := aw_t1 (List.mem_of_getElem? (i := 35) rfl) rfl
theorem kw_32 : Cond.methodLink RX0 3 objectInit ∈ AW := aw_t1 (List.mem_of_getElem? (i := 36) rfl) rfl
theorem kw_33 : Cond.fieldLink RX0 9 "SilentDrives$Drive" "free" "I" ∈ AW := aw_t1 (List.mem_of_getElem? (i := 37) rfl) rfl
theorem kw_34 : Cond.fieldLink RX4 80 "SilentDrives$Drive" "free" "I" ∈ AW := aw_t1 (List.mem_of_getElem? (i := 38) rfl) rfl
theorem kw_35 : Cond.fieldLink RX3 142 "SilentDrives$Drive" "free" "I" ∈ AW := aw_t1 (List.mem_of_getElem? (i := 39) rfl) rfl
theorem kw_36 : Cond.fieldLink RX0 22 "SilentDrives$Drive" "stale" "I" ∈ AW := aw_t1 (List.mem_of_getElem? (i := 40) rfl) rfl
theorem kw_37 : Cond.fieldLink RX4 86 "SilentDrives$Drive" "stale" "I" ∈ AW := aw_t1 (List.mem_of_getElem? (i := 41) rfl) rfl
theorem kw_38 : Cond.fieldLink RX3 145 "SilentDrives$Drive" "stale" "I" ∈ AW := aw_t1 (List.mem_of_getElem? (i := 42) rfl) rfl
theorem kw_39 : Cond.fieldLink RX0 25 "SilentDrives$Drive" "lent" "I" ∈ AW := aw_t1 (List.mem_of_getElem? (i := 43) rfl) rfl
theorem kw_40 : Cond.fieldLink RX4 89 "SilentDrives$Drive" "lent" "I" ∈ AW := aw_t1 (List.mem_of_getElem? (i := 44) rfl) rfl
theorem kw_41 : Cond.fieldLink RX0 28 "SilentDrives$Drive" "held" "I" ∈ AW := aw_t1 (List.mem_of_getElem? (i := 45) rfl) rfl
theorem kw_42 : Cond.fieldLink RX3 67 "SilentDrives$Drive" "held" "I" ∈ AW := aw_t1 (List.mem_of_getElem? (i := 46) rfl) rfl
theorem kw_43 : Cond.fieldLink RX4 92 "SilentDrives$Drive" "held" "I" ∈ AW := aw_t1 (List.mem_of_getElem? (i := 47) rfl) rfl
theorem kw_44 : Cond.fieldLink RX0 31 "SilentDrives$Drive" "cleaning" "Z" ∈ AW := aw_t1 (List.mem_of_getElem? (i := 48) rfl) rfl
theorem kw_45 : Cond.fieldLink RX4 102 "SilentDrives$Drive" "cleaning" "Z" ∈ AW := aw_t1 (List.mem_of_getElem? (i := 49) rfl) rfl
theorem kw_46 : Cond.fieldLink RX3 138 "SilentDrives$Drive" "cleaning" "Z" ∈ AW := aw_t1 (List.mem_of_getElem? (i := 50) rfl) rfl
theorem kw_47 : Cond.fieldLink RX0 35 "SilentDrives$Drive" "written" "I" ∈ AW := aw_t1 (List.mem_of_getElem? (i := 51) rfl) rfl
theorem kw_48 : Cond.fieldLink RX4 106 "SilentDrives$Drive" "written" "I" ∈ AW := aw_t1 (List.mem_of_getElem? (i := 52) rfl) rfl
theorem kw_49 : Cond.fieldLink RX0 38 "SilentDrives$Drive" "sounded" "I" ∈ AW := aw_t1 (List.mem_of_getElem? (i := 53) rfl) rfl
theorem kw_50 : Cond.fieldLink RX4 109 "SilentDrives$Drive" "sounded" "I" ∈ AW := aw_t1 (List.mem_of_getElem? (i := 54) rfl) rfl
theorem kw_51 : Cond.fieldLink RX0 41 "SilentDrives$Drive" "overruns" "I" ∈ AW := aw_t1 (List.mem_of_getElem? (i := 55) rfl) rfl
theorem kw_52 : Cond.fieldLink RX4 112 "SilentDrives$Drive" "overruns" "I" ∈ AW := aw_t1 (List.mem_of_getElem? (i := 56) rfl) rfl
theorem kw_53 : Cond.fieldLink RX3 157 "SilentDrives$Drive" "overruns" "I" ∈ AW := aw_t1 (List.mem_of_getElem? (i := 57) rfl) rfl
theorem kw_54 : Cond.fieldLink RX0 15 "SilentDrives$Drive" "every" "I" ∈ AW := aw_t1 (List.mem_of_getElem? (i := 58) rfl) rfl
theorem kw_55 : Cond.fieldLink RX3 64 "SilentDrives$Drive" "every" "I" ∈ AW := aw_t1 (List.mem_of_getElem? (i := 59) rfl) rfl
theorem kw_56 : Cond.fieldLink RX4 121 "SilentDrives$Drive" "every" "I" ∈ AW := aw_t1 (List.mem_of_getElem? (i := 60) rfl) rfl
theorem kw_57 : Cond.fieldLink RX0 44 "SilentDrives$Drive" "units" "I" ∈ AW := aw_t1 (List.mem_of_getElem? (i := 61) rfl) rfl
theorem kw_58 : Cond.fieldLink RX3 61 "SilentDrives$Drive" "units" "I" ∈ AW := aw_t1 (List.mem_of_getElem? (i := 62) rfl) rfl
theorem kw_59 : Cond.fieldLink RX4 124 "SilentDrives$Drive" "units" "I" ∈ AW := aw_t1 (List.mem_of_getElem? (i := 63) rfl) rfl
theorem kw_60 : Cond.fieldLink RX0 47 "SilentDrives$Drive" "heldSum" "J" ∈ AW := aw_t1 (List.mem_of_getElem? (i := 64) rfl) rfl
theorem kw_61 : Cond.fieldLink RX4 145 "SilentDrives$Drive" "heldSum" "J" ∈ AW := aw_t1 (List.mem_of_getElem? (i := 65) rfl) rfl
theorem kw_62 : Cond.fieldLink RX3 134 "SilentDrives$Drive" "heldSum" "J" ∈ AW := aw_t1 (List.mem_of_getElem? (i := 66) rfl) rfl
theorem kw_63 : Cond.fieldLink RX0 18 "SilentDrives$Drive" "hours" "[B" ∈ AW := aw_t1 (List.mem_of_getElem? (i := 67) rfl) rfl
theorem kw_64 : Cond.lays "SilentDrives$Drive" "SilentDrives$Drive" "free" "I" ∈ AW := aw_t1 (List.mem_of_getElem? (i := 68) rfl) rfl
theorem kw_65 : Cond.lays "SilentDrives$Drive" "SilentDrives$Drive" "stale" "I" ∈ AW := aw_t1 (List.mem_of_getElem? (i := 70) rfl) rfl
theorem kw_66 : Cond.lays "SilentDrives$Drive" "SilentDrives$Drive" "lent" "I" ∈ AW := aw_t1 (List.mem_of_getElem? (i := 72) rfl) rfl
theorem kw_67 : Cond.lays "SilentDrives$Drive" "SilentDrives$Drive" "held" "I" ∈ AW := aw_t1 (List.mem_of_getElem? (i := 74) rfl) rfl
theorem kw_68 : Cond.lays "SilentDrives$Drive" "SilentDrives$Drive" "cleaning" "Z" ∈ AW := aw_t1 (List.mem_of_getElem? (i := 76) rfl) rfl
theorem kw_69 : Cond.lays "SilentDrives$Drive" "SilentDrives$Drive" "written" "I" ∈ AW := aw_t1 (List.mem_of_getElem? (i := 78) rfl) rfl
theorem kw_70 : Cond.lays "SilentDrives$Drive" "SilentDrives$Drive" "sounded" "I" ∈ AW := aw_t1 (List.mem_of_getElem? (i := 80) rfl) rfl
theorem kw_71 : Cond.lays "SilentDrives$Drive" "SilentDrives$Drive" "overruns" "I" ∈ AW := aw_t1 (List.mem_of_getElem? (i := 82) rfl) rfl
theorem kw_72 : Cond.lays "SilentDrives$Drive" "SilentDrives$Drive" "every" "I" ∈ AW := aw_t1 (List.mem_of_getElem? (i := 84) rfl) rfl
theorem kw_73 : Cond.lays "SilentDrives$Drive" "SilentDrives$Drive" "units" "I" ∈ AW := aw_t1 (List.mem_of_getElem? (i := 86) rfl) rfl
theorem kw_74 : Cond.lays "SilentDrives$Drive" "SilentDrives$Drive" "heldSum" "J" ∈ AW := aw_t1 (List.mem_of_getElem? (i := 88) rfl) rfl
theorem kw_75 : Cond.laysFinal "SilentDrives$Drive" "SilentDrives$Drive" "hours" "[B" ∈ AW := aw_t1 (List.mem_of_getElem? (i := 90) rfl) rfl
theorem kw_76 : Cond.arrayClass Jvm.ClassFile.FieldType.int ∈ AW := aw_t1 (List.mem_of_getElem? (i := 93) rfl) rfl
theorem kw_77 : Cond.arrayClass Jvm.ClassFile.FieldType.byte ∈ AW := aw_t1 (List.mem_of_getElem? (i := 94) rfl) rfl
theorem kw_78 : Cond.fieldLink RX3 9 "SilentDrives$Station" "settings" "[I" ∈ AW := aw_t1 (List.mem_of_getElem? (i := 95) rfl) rfl
theorem kw_79 : Cond.fieldLink RX4 153 "SilentDrives$Station" "settings" "[I" ∈ AW := aw_t1 (List.mem_of_getElem? (i := 96) rfl) rfl
theorem kw_80 : Cond.fieldLink RX3 17 "SilentDrives$Station" "drives" "[LSilentDrives$Drive;" ∈ AW := aw_t1 (List.mem_of_getElem? (i := 97) rfl) rfl
theorem kw_81 : Cond.fieldLink RX4 76 "SilentDrives$Station" "drives" "[LSilentDrives$Drive;" ∈ AW := aw_t1 (List.mem_of_getElem? (i := 98) rfl) rfl
theorem kw_82 : Cond.fieldLink RX3 35 "SilentDrives$Station" "now" "I" ∈ AW := aw_t1 (List.mem_of_getElem? (i := 99) rfl) rfl
theorem kw_83 : Cond.fieldLink RX4 142 "SilentDrives$Station" "now" "I" ∈ AW := aw_t1 (List.mem_of_getElem? (i := 100) rfl) rfl
theorem kw_84 : Cond.fieldLink RX3 39 "SilentDrives$Station" "earned" "I" ∈ AW := aw_t1 (List.mem_of_getElem? (i := 101) rfl) rfl
theorem kw_85 : Cond.fieldLink RX4 157 "SilentDrives$Station" "earned" "I" ∈ AW := aw_t1 (List.mem_of_getElem? (i := 102) rfl) rfl
theorem kw_86 : Cond.fieldLink RX3 42 "SilentDrives$Station" "fined" "I" ∈ AW := aw_t1 (List.mem_of_getElem? (i := 103) rfl) rfl
theorem kw_87 : Cond.fieldLink RX4 160 "SilentDrives$Station" "fined" "I" ∈ AW := aw_t1 (List.mem_of_getElem? (i := 104) rfl) rfl
theorem kw_88 : Cond.fieldLink RX3 45 "SilentDrives$Station" "credits" "I" ∈ AW := aw_t1 (List.mem_of_getElem? (i := 105) rfl) rfl
theorem kw_89 : Cond.fieldLink RX4 163 "SilentDrives$Station" "credits" "I" ∈ AW := aw_t1 (List.mem_of_getElem? (i := 106) rfl) rfl
theorem kw_90 : Cond.fieldLink RX3 48 "SilentDrives$Station" "creditsUsed" "I" ∈ AW := aw_t1 (List.mem_of_getElem? (i := 107) rfl) rfl
theorem kw_91 : Cond.fieldLink RX4 166 "SilentDrives$Station" "creditsUsed" "I" ∈ AW := aw_t1 (List.mem_of_getElem? (i := 108) rfl) rfl
theorem kw_92 : Cond.laysFinal "SilentDrives$Station" "SilentDrives$Station" "settings" "[I" ∈ AW := aw_t1 (List.mem_of_getElem? (i := 109) rfl) rfl
theorem kw_93 : Cond.laysFinal "SilentDrives$Station" "SilentDrives$Station" "drives" "[LSilentDrives$Drive;" ∈ AW := aw_t1 (List.mem_of_getElem? (i := 111) rfl) rfl
theorem kw_94 : Cond.lays "SilentDrives$Station" "SilentDrives$Station" "now" "I" ∈ AW := aw_t1 (List.mem_of_getElem? (i := 113) rfl) rfl
theorem kw_95 : Cond.lays "SilentDrives$Station" "SilentDrives$Station" "earned" "I" ∈ AW := aw_t1 (List.mem_of_getElem? (i := 115) rfl) rfl
theorem kw_96 : Cond.lays "SilentDrives$Station" "SilentDrives$Station" "fined" "I" ∈ AW := aw_t1 (List.mem_of_getElem? (i := 117) rfl) rfl
theorem kw_97 : Cond.lays "SilentDrives$Station" "SilentDrives$Station" "credits" "I" ∈ AW := aw_t1 (List.mem_of_getElem? (i := 119) rfl) rfl
theorem kw_98 : Cond.lays "SilentDrives$Station" "SilentDrives$Station" "creditsUsed" "I" ∈ AW := aw_t1 (List.mem_of_getElem? (i := 121) rfl) rfl
theorem kw_99 : Cond.classLink RX4 16 RX1 ∈ AW := aw_t1 (List.mem_of_getElem? (i := 124) rfl) rfl
theorem kw_100 : Cond.instantiable RX1 3 ∈ AW := aw_t1 (List.mem_of_getElem? (i := 125) rfl) rfl
theorem kw_101 : Cond.methodLink RX4 18 yX1_init ∈ AW := aw_t1 (List.mem_of_getElem? (i := 126) rfl) rfl
theorem kw_102 : Cond.instanceMethod yX1_init ∈ AW := aw_t1 (List.mem_of_getElem? (i := 127) rfl) rfl
theorem kw_103 : Cond.code yX1_init cX1_init 2 (Option.none : Option Jvm.ClassFile.FieldType) ∈ AW := aw_t1 (List.mem_of_getElem? (i := 128) rfl) rfl
theorem kw_104 : Cond.methodLink RX1 3 objectInit ∈ AW := aw_t1 (List.mem_of_getElem? (i := 129) rfl) rfl
theorem kw_105 : Cond.classLink RX1 9 RX3 ∈ AW := aw_t1 (List.mem_of_getElem? (i := 130) rfl) rfl
theorem kw_106 : Cond.methodLink RX1 17 yX3_init ∈ AW := aw_t1 (List.mem_of_getElem? (i := 132) rfl) rfl
theorem kw_107 : Cond.fieldLink RX1 11 "SilentDrives$History" "states" "[LSilentDrives$Station;" ∈ AW := aw_t1 (List.mem_of_getElem? (i := 133) rfl) rfl
theorem kw_108 : Cond.fieldLink RX1 18 "SilentDrives$History" "next" "I" ∈ AW := aw_t1 (List.mem_of_getElem? (i := 134) rfl) rfl
theorem kw_109 : Cond.fieldLink RX1 26 "SilentDrives$History" "size" "I" ∈ AW := aw_t1 (List.mem_of_getElem? (i := 135) rfl) rfl
theorem kw_110 : Cond.fieldLink RX4 172 "SilentDrives$History" "size" "I" ∈ AW := aw_t1 (List.mem_of_getElem? (i := 136) rfl) rfl
theorem kw_111 : Cond.laysFinal "SilentDrives$History" "SilentDrives$History" "states" "[LSilentDrives$Station;" ∈ AW := aw_t1 (List.mem_of_getElem? (i := 137) rfl) rfl
theorem kw_112 : Cond.lays "SilentDrives$History" "SilentDrives$History" "next" "I" ∈ AW := aw_t1 (List.mem_of_getElem? (i := 139) rfl) rfl
theorem kw_113 : Cond.lays "SilentDrives$History" "SilentDrives$History" "size" "I" ∈ AW := aw_t1 (List.mem_of_getElem? (i := 141) rfl) rfl
theorem kw_114 : Cond.classLink RX4 31 RX2 ∈ AW := aw_t1 (List.mem_of_getElem? (i := 144) rfl) rfl
theorem kw_115 : Cond.instantiable RX2 7 ∈ AW := aw_t1 (List.mem_of_getElem? (i := 145) rfl) rfl
theorem kw_116 : Cond.instanceMethod yX2_init ∈ AW := aw_t1 (List.mem_of_getElem? (i := 147) rfl) rfl
theorem kw_117 : Cond.code yX2_init cX2_init 1 (Option.none : Option Jvm.ClassFile.FieldType) ∈ AW := aw_t1 (List.mem_of_getElem? (i := 148) rfl) rfl
theorem kw_118 : Cond.methodLink RX2 3 objectInit ∈ AW := aw_t1 (List.mem_of_getElem? (i := 149) rfl) rfl
theorem kw_119 : Cond.fieldLink RX2 9 "SilentDrives$Pad" "signs" "[C" ∈ AW := aw_t1 (List.mem_of_getElem? (i := 150) rfl) rfl
theorem kw_120 : Cond.fieldLink RX2 15 "SilentDrives$Pad" "length" "I" ∈ AW := aw_t1 (List.mem_of_getElem? (i := 151) rfl) rfl
theorem kw_121 : Cond.fieldLink RX4 169 "SilentDrives$Pad" "length" "I" ∈ AW := aw_t1 (List.mem_of_getElem? (i := 152) rfl) rfl
theorem kw_122 : Cond.fieldLink RX2 28 "SilentDrives$Pad" "place" "I" ∈ AW := aw_t1 (List.mem_of_getElem? (i := 153) rfl) rfl
theorem kw_123 : Cond.fieldLink RX2 42 "SilentDrives$Pad" "kind" "C" ∈ AW := aw_t1 (List.mem_of_getElem? (i := 154) rfl) rfl
theorem kw_124 : Cond.fieldLink RX4 239 "SilentDrives$Pad" "kind" "C" ∈ AW := aw_t1 (List.mem_of_getElem? (i := 155) rfl) rfl
theorem kw_125 : Cond.fieldLink RX2 55 "SilentDrives$Pad" "drive" "I" ∈ AW := aw_t1 (List.mem_of_getElem? (i := 156) rfl) rfl
theorem kw_126 : Cond.fieldLink RX4 243 "SilentDrives$Pad" "drive" "I" ∈ AW := aw_t1 (List.mem_of_getElem? (i := 157) rfl) rfl
theorem kw_127 : Cond.fieldLink RX2 66 "SilentDrives$Pad" "first" "I" ∈ AW := aw_t1 (List.mem_of_getElem? (i := 158) rfl) rfl
theorem kw_128 : Cond.fieldLink RX4 246 "SilentDrives$Pad" "first" "I" ∈ AW := aw_t1 (List.mem_of_getElem? (i := 159) rfl) rfl
theorem kw_129 : Cond.fieldLink RX2 69 "SilentDrives$Pad" "second" "I" ∈ AW := aw_t1 (List.mem_of_getElem? (i := 160) rfl) rfl
theorem kw_130 : Cond.fieldLink RX4 249 "SilentDrives$Pad" "second" "I" ∈ AW := aw_t1 (List.mem_of_getElem? (i := 161) rfl) rfl
theorem kw_131 : Cond.laysFinal "SilentDrives$Pad" "SilentDrives$Pad" "signs" "[C" ∈ AW := aw_t1 (List.mem_of_getElem? (i := 162) rfl) rfl
theorem kw_132 : Cond.lays "SilentDrives$Pad" "SilentDrives$Pad" "length" "I" ∈ AW := aw_t1 (List.mem_of_getElem? (i := 164) rfl) rfl
theorem kw_133 : Cond.lays "SilentDrives$Pad" "SilentDrives$Pad" "place" "I" ∈ AW := aw_t1 (List.mem_of_getElem? (i := 166) rfl) rfl
theorem kw_134 : Cond.lays "SilentDrives$Pad" "SilentDrives$Pad" "kind" "C" ∈ AW := aw_t1 (List.mem_of_getElem? (i := 168) rfl) rfl
theorem kw_135 : Cond.lays "SilentDrives$Pad" "SilentDrives$Pad" "drive" "I" ∈ AW := aw_t1 (List.mem_of_getElem? (i := 170) rfl) rfl
theorem kw_136 : Cond.lays "SilentDrives$Pad" "SilentDrives$Pad" "first" "I" ∈ AW := aw_t1 (List.mem_of_getElem? (i := 172) rfl) rfl
theorem kw_137 : Cond.lays "SilentDrives$Pad" "SilentDrives$Pad" "second" "I" ∈ AW := aw_t1 (List.mem_of_getElem? (i := 174) rfl) rfl
theorem kw_138 : Cond.arrayClass Jvm.ClassFile.FieldType.boolean ∈ AW := aw_t1 (List.mem_of_getElem? (i := 177) rfl) rfl
theorem kw_139 : Cond.arrayClass Jvm.ClassFile.FieldType.char ∈ AW := aw_t1 (List.mem_of_getElem? (i := 178) rfl) rfl
theorem kw_140 : Cond.fieldLink RX4 10 "SilentDrives" "present" "LSilentDrives$Station;" ∈ AW := aw_t1 (List.mem_of_getElem? (i := 179) rfl) rfl
theorem kw_141 : Cond.fieldLink RX4 19 "SilentDrives" "history" "LSilentDrives$History;" ∈ AW := aw_t1 (List.mem_of_getElem? (i := 180) rfl) rfl
theorem kw_142 : Cond.fieldLink RX4 23 "SilentDrives" "slots" "[LSilentDrives$Station;" ∈ AW := aw_t1 (List.mem_of_getElem? (i := 181) rfl) rfl
theorem kw_143 : Cond.fieldLink RX4 27 "SilentDrives" "slotUsed" "[Z" ∈ AW := aw_t1 (List.mem_of_getElem? (i := 182) rfl) rfl
theorem kw_144 : Cond.fieldLink RX4 34 "SilentDrives" "pad" "LSilentDrives$Pad;" ∈ AW := aw_t1 (List.mem_of_getElem? (i := 183) rfl) rfl
theorem kw_145 : Cond.fieldLink RX4 38 "SilentDrives" "trial" "LSilentDrives$Station;" ∈ AW := aw_t1 (List.mem_of_getElem? (i := 184) rfl) rfl
theorem kw_146 : Cond.fieldLink RX4 41 "SilentDrives" "soldTrial" "LSilentDrives$Station;" ∈ AW := aw_t1 (List.mem_of_getElem? (i := 185) rfl) rfl
theorem kw_147 : Cond.laysFinal "SilentDrives" "SilentDrives" "present" "LSilentDrives$Station;" ∈ AW := aw_t1 (List.mem_of_getElem? (i := 186) rfl) rfl
theorem kw_148 : Cond.laysFinal "SilentDrives" "SilentDrives" "history" "LSilentDrives$History;" ∈ AW := aw_t1 (List.mem_of_getElem? (i := 188) rfl) rfl
theorem kw_149 : Cond.laysFinal "SilentDrives" "SilentDrives" "slots" "[LSilentDrives$Station;" ∈ AW := aw_t1 (List.mem_of_getElem? (i := 190) rfl) rfl
theorem kw_150 : Cond.laysFinal "SilentDrives" "SilentDrives" "slotUsed" "[Z" ∈ AW := aw_t1 (List.mem_of_getElem? (i := 192) rfl) rfl
theorem kw_151 : Cond.laysFinal "SilentDrives" "SilentDrives" "pad" "LSilentDrives$Pad;" ∈ AW := aw_t1 (List.mem_of_getElem? (i := 194) rfl) rfl
theorem kw_152 : Cond.laysFinal "SilentDrives" "SilentDrives" "trial" "LSilentDrives$Station;" ∈ AW := aw_t1 (List.mem_of_getElem? (i := 196) rfl) rfl
theorem kw_153 : Cond.laysFinal "SilentDrives" "SilentDrives" "soldTrial" "LSilentDrives$Station;" ∈ AW := aw_t1 (List.mem_of_getElem? (i := 198) rfl) rfl
theorem kw_154 : Cond.methodLink RL 13 yX4_set ∈ AW := aw_t1 (List.mem_of_getElem? (i := 201) rfl) rfl
theorem kw_155 : Cond.instanceMethod yX4_set ∈ AW := aw_t1 (List.mem_of_getElem? (i := 202) rfl) rfl
theorem kw_156 : Cond.selects RX4 yX4_set yX4_set ∈ AW := aw_t1 (List.mem_of_getElem? (i := 203) rfl) rfl
theorem kw_157 : Cond.code yX4_set cX4_set 3 (Option.some Jvm.ClassFile.FieldType.int) ∈ AW := aw_t1 (List.mem_of_getElem? (i := 204) rfl) rfl
theorem kw_158 : Cond.methodLink RX4 44 yX1_prepare ∈ AW := aw_t1 (List.mem_of_getElem? (i := 205) rfl) rfl
theorem kw_159 : Cond.instanceMethod yX1_prepare ∈ AW := aw_t1 (List.mem_of_getElem? (i := 206) rfl) rfl
theorem kw_160 : Cond.selects RX1 yX1_prepare yX1_prepare ∈ AW := aw_t1 (List.mem_of_getElem? (i := 207) rfl) rfl
theorem kw_161 : Cond.code yX1_prepare cX1_prepare 2 (Option.none : Option Jvm.ClassFile.FieldType) ∈ AW := aw_t1 (List.mem_of_getElem? (i := 208) rfl) rfl
theorem kw_162 : Cond.methodLink RX1 22 yX3_copyFrom ∈ AW := aw_t1 (List.mem_of_getElem? (i := 209) rfl) rfl
theorem kw_163 : Cond.instanceMethod yX3_copyFrom ∈ AW := aw_t1 (List.mem_of_getElem? (i := 210) rfl) rfl
theorem kw_164 : Cond.selects RX3 yX3_copyFrom yX3_copyFrom ∈ AW := aw_t1 (List.mem_of_getElem? (i := 211) rfl) rfl
theorem kw_165 : Cond.code yX3_copyFrom cX3_copyFrom 3 (Option.none : Option Jvm.ClassFile.FieldType) ∈ AW := aw_t1 (List.mem_of_getElem? (i := 212) rfl) rfl
theorem kw_166 : Cond.methodLink RX3 31 yX0_copyFrom ∈ AW := aw_t1 (List.mem_of_getElem? (i := 213) rfl) rfl
theorem kw_167 : Cond.instanceMethod yX0_copyFrom ∈ AW := aw_t1 (List.mem_of_getElem? (i := 214) rfl) rfl
theorem kw_168 : Cond.selects RX0 yX0_copyFrom yX0_copyFrom ∈ AW := aw_t1 (List.mem_of_getElem? (i := 215) rfl) rfl
theorem kw_169 : Cond.code yX0_copyFrom cX0_copyFrom 2 (Option.none : Option Jvm.ClassFile.FieldType) ∈ AW := aw_t1 (List.mem_of_getElem? (i := 216) rfl) rfl
theorem kw_170 : Cond.methodLink RX0 51 arraycopyName ∈ AW := aw_t1 (List.mem_of_getElem? (i := 217) rfl) rfl
theorem kw_171 : Cond.methodLink RX4 48 yX3_changeSetting ∈ AW := aw_t1 (List.mem_of_getElem? (i := 218) rfl) rfl
theorem kw_172 : Cond.instanceMethod yX3_changeSetting ∈ AW := aw_t1 (List.mem_of_getElem? (i := 219) rfl) rfl
theorem kw_173 : Cond.selects RX3 yX3_changeSetting yX3_changeSetting ∈ AW := aw_t1 (List.mem_of_getElem? (i := 220) rfl) rfl
theorem kw_174 : Cond.code yX3_changeSetting cX3_changeSetting 4 (Option.some Jvm.ClassFile.FieldType.int) ∈ AW := aw_t1 (List.mem_of_getElem? (i := 221) rfl) rfl
theorem kw_175 : Cond.methodLink RX4 52 yX4_recorded ∈ AW := aw_t1 (List.mem_of_getElem? (i := 226) rfl) rfl
theorem kw_176 : Cond.instanceMethod yX4_recorded ∈ AW := aw_t1 (List.mem_of_getElem? (i := 228) rfl) rfl
theorem kw_177 : Cond.code yX4_recorded cX4_recorded 2 (Option.some Jvm.ClassFile.FieldType.int) ∈ AW := aw_t1 (List.mem_of_getElem? (i := 229) rfl) rfl
theorem kw_178 : Cond.methodLink RX4 221 yX1_keepPrepared ∈ AW := aw_t1 (List.mem_of_getElem? (i := 230) rfl) rfl
theorem kw_179 : Cond.instanceMethod yX1_keepPrepared ∈ AW := aw_t1 (List.mem_of_getElem? (i := 231) rfl) rfl
theorem kw_180 : Cond.selects RX1 yX1_keepPrepared yX1_keepPrepared ∈ AW := aw_t1 (List.mem_of_getElem? (i := 232) rfl) rfl
theorem kw_181 : Cond.code yX1_keepPrepared cX1_keepPrepared 1 (Option.none : Option Jvm.ClassFile.FieldType) ∈ AW := aw_t1 (List.mem_of_getElem? (i := 233) rfl) rfl
theorem kw_182 : Cond.methodLink RX1 29 yJ9_min_7cf53 ∈ AW := aw_t1 (List.mem_of_getElem? (i := 234) rfl) rfl
theorem kw_183 : Cond.static yJ9_min_7cf53 ∈ AW := aw_t1 (List.mem_of_getElem? (i := 235) rfl) rfl
theorem kw_184 : Cond.code yJ9_min_7cf53 Lib.Math.min.code 2 (Option.some Jvm.ClassFile.FieldType.int) ∈ AW := aw_t1 (List.mem_of_getElem? (i := 236) rfl) rfl
theorem kw_185 : Cond.methodLink RL 18 yX4_stream ∈ AW := aw_t1 (List.mem_of_getElem? (i := 237) rfl) rfl
theorem kw_186 : Cond.instanceMethod yX4_stream ∈ AW := aw_t1 (List.mem_of_getElem? (i := 238) rfl) rfl
theorem kw_187 : Cond.selects RX4 yX4_stream yX4_stream ∈ AW := aw_t1 (List.mem_of_getElem? (i := 239) rfl) rfl
theorem kw_188 : Cond.code yX4_stream cX4_stream 4 (Option.some Jvm.ClassFile.FieldType.int) ∈ AW := aw_t2 (List.mem_of_getElem? (i := 0) rfl) rfl
theorem kw_189 : Cond.methodLink RX4 56 yX3_changeStream ∈ AW := aw_t2 (List.mem_of_getElem? (i := 1) rfl) rfl
theorem kw_190 : Cond.instanceMethod yX3_changeStream ∈ AW := aw_t2 (List.mem_of_getElem? (i := 2) rfl) rfl
theorem kw_191 : Cond.selects RX3 yX3_changeStream yX3_changeStream ∈ AW := aw_t2 (List.mem_of_getElem? (i := 3) rfl) rfl
theorem kw_192 : Cond.code yX3_changeStream cX3_changeStream 5 (Option.some Jvm.ClassFile.FieldType.int) ∈ AW := aw_t2 (List.mem_of_getElem? (i := 4) rfl) rfl
theorem kw_193 : Cond.static yX4_isDrive ∈ AW := aw_t2 (List.mem_of_getElem? (i := 6) rfl) rfl
theorem kw_194 : Cond.code yX4_isDrive cX4_isDrive 1 (Option.some Jvm.ClassFile.FieldType.boolean) ∈ AW := aw_t2 (List.mem_of_getElem? (i := 7) rfl) rfl
theorem kw_195 : Cond.methodLink RL 23 yX4_write ∈ AW := aw_t2 (List.mem_of_getElem? (i := 8) rfl) rfl
theorem kw_196 : Cond.instanceMethod yX4_write ∈ AW := aw_t2 (List.mem_of_getElem? (i := 9) rfl) rfl
theorem kw_197 : Cond.selects RX4 yX4_write yX4_write ∈ AW := aw_t2 (List.mem_of_getElem? (i := 10) rfl) rfl
theorem kw_198 : Cond.code yX4_write cX4_write 3 (Option.some Jvm.ClassFile.FieldType.int) ∈ AW := aw_t2 (List.mem_of_getElem? (i := 11) rfl) rfl
theorem kw_199 : Cond.methodLink RX4 60 yX3_bringUnits ∈ AW := aw_t2 (List.mem_of_getElem? (i := 12) rfl) rfl
theorem kw_200 : Cond.instanceMethod yX3_bringUnits ∈ AW := aw_t2 (List.mem_of_getElem? (i := 13) rfl) rfl
theorem kw_201 : Cond.selects RX3 yX3_bringUnits yX3_bringUnits ∈ AW := aw_t2 (List.mem_of_getElem? (i := 14) rfl) rfl
theorem kw_202 : Cond.code yX3_bringUnits cX3_bringUnits 3 (Option.some Jvm.ClassFile.FieldType.int) ∈ AW := aw_t2 (List.mem_of_getElem? (i := 15) rfl) rfl
theorem kw_203 : Cond.methodLink RL 27 yX4_sell ∈ AW := aw_t2 (List.mem_of_getElem? (i := 16) rfl) rfl
theorem kw_204 : Cond.instanceMethod yX4_sell ∈ AW := aw_t2 (List.mem_of_getElem? (i := 17) rfl) rfl
theorem kw_205 : Cond.selects RX4 yX4_sell yX4_sell ∈ AW := aw_t2 (List.mem_of_getElem? (i := 18) rfl) rfl
theorem kw_206 : Cond.code yX4_sell cX4_sell 3 (Option.some Jvm.ClassFile.FieldType.int) ∈ AW := aw_t2 (List.mem_of_getElem? (i := 19) rfl) rfl
theorem kw_207 : Cond.methodLink RX4 63 yX3_sellHour ∈ AW := aw_t2 (List.mem_of_getElem? (i := 20) rfl) rfl
theorem kw_208 : Cond.instanceMethod yX3_sellHour ∈ AW := aw_t2 (List.mem_of_getElem? (i := 21) rfl) rfl
theorem kw_209 : Cond.selects RX3 yX3_sellHour yX3_sellHour ∈ AW := aw_t2 (List.mem_of_getElem? (i := 22) rfl) rfl
theorem kw_210 : Cond.code yX3_sellHour cX3_sellHour 3 (Option.some Jvm.ClassFile.FieldType.int) ∈ AW := aw_t2 (List.mem_of_getElem? (i := 23) rfl) rfl
theorem kw_211 : Cond.methodLink RX3 70 yX3_changeHour ∈ AW := aw_t2 (List.mem_of_getElem? (i := 24) rfl) rfl
theorem kw_212 : Cond.instanceMethod yX3_changeHour ∈ AW := aw_t2 (List.mem_of_getElem? (i := 26) rfl) rfl
theorem kw_213 : Cond.code yX3_changeHour cX3_changeHour 5 (Option.some Jvm.ClassFile.FieldType.int) ∈ AW := aw_t2 (List.mem_of_getElem? (i := 27) rfl) rfl
theorem kw_214 : Cond.static yX4_isHour ∈ AW := aw_t2 (List.mem_of_getElem? (i := 29) rfl) rfl
theorem kw_215 : Cond.code yX4_isHour cX4_isHour 1 (Option.some Jvm.ClassFile.FieldType.boolean) ∈ AW := aw_t2 (List.mem_of_getElem? (i := 30) rfl) rfl
theorem kw_216 : Cond.methodLink RX3 77 yX3_hourOfNow ∈ AW := aw_t2 (List.mem_of_getElem? (i := 31) rfl) rfl
theorem kw_217 : Cond.instanceMethod yX3_hourOfNow ∈ AW := aw_t2 (List.mem_of_getElem? (i := 32) rfl) rfl
theorem kw_218 : Cond.selects RX3 yX3_hourOfNow yX3_hourOfNow ∈ AW := aw_t2 (List.mem_of_getElem? (i := 33) rfl) rfl
theorem kw_219 : Cond.code yX3_hourOfNow cX3_hourOfNow 1 (Option.some Jvm.ClassFile.FieldType.int) ∈ AW := aw_t2 (List.mem_of_getElem? (i := 34) rfl) rfl
theorem kw_220 : Cond.methodLink RX3 81 yX0_hourState ∈ AW := aw_t2 (List.mem_of_getElem? (i := 35) rfl) rfl
theorem kw_221 : Cond.instanceMethod yX0_hourState ∈ AW := aw_t2 (List.mem_of_getElem? (i := 36) rfl) rfl
theorem kw_222 : Cond.selects RX0 yX0_hourState yX0_hourState ∈ AW := aw_t2 (List.mem_of_getElem? (i := 37) rfl) rfl
theorem kw_223 : Cond.code yX0_hourState cX0_hourState 2 (Option.some Jvm.ClassFile.FieldType.int) ∈ AW := aw_t2 (List.mem_of_getElem? (i := 38) rfl) rfl
theorem kw_224 : Cond.methodLink RX3 85 yX0_markHour ∈ AW := aw_t2 (List.mem_of_getElem? (i := 40) rfl) rfl
theorem kw_225 : Cond.instanceMethod yX0_markHour ∈ AW := aw_t2 (List.mem_of_getElem? (i := 41) rfl) rfl
theorem kw_226 : Cond.selects RX0 yX0_markHour yX0_markHour ∈ AW := aw_t2 (List.mem_of_getElem? (i := 42) rfl) rfl
theorem kw_227 : Cond.code yX0_markHour cX0_markHour 3 (Option.none : Option Jvm.ClassFile.FieldType) ∈ AW := aw_t2 (List.mem_of_getElem? (i := 43) rfl) rfl
theorem kw_228 : Cond.methodLink RX3 89 yX0_soldHours ∈ AW := aw_t2 (List.mem_of_getElem? (i := 44) rfl) rfl
theorem kw_229 : Cond.instanceMethod yX0_soldHours ∈ AW := aw_t2 (List.mem_of_getElem? (i := 45) rfl) rfl
theorem kw_230 : Cond.selects RX0 yX0_soldHours yX0_soldHours ∈ AW := aw_t2 (List.mem_of_getElem? (i := 46) rfl) rfl
theorem kw_231 : Cond.code yX0_soldHours cX0_soldHours 1 (Option.some Jvm.ClassFile.FieldType.int) ∈ AW := aw_t2 (List.mem_of_getElem? (i := 47) rfl) rfl
theorem kw_232 : Cond.methodLink RX0 65 yX0_hoursThatAre ∈ AW := aw_t2 (List.mem_of_getElem? (i := 48) rfl) rfl
theorem kw_233 : Cond.instanceMethod yX0_hoursThatAre ∈ AW := aw_t2 (List.mem_of_getElem? (i := 49) rfl) rfl
theorem kw_234 : Cond.selects RX0 yX0_hoursThatAre yX0_hoursThatAre ∈ AW := aw_t2 (List.mem_of_getElem? (i := 50) rfl) rfl
theorem kw_235 : Cond.code yX0_hoursThatAre cX0_hoursThatAre 4 (Option.some Jvm.ClassFile.FieldType.int) ∈ AW := aw_t2 (List.mem_of_getElem? (i := 51) rfl) rfl
theorem kw_236 : Cond.methodLink RL 31 yX4_giveBack ∈ AW := aw_t2 (List.mem_of_getElem? (i := 52) rfl) rfl
theorem kw_237 : Cond.instanceMethod yX4_giveBack ∈ AW := aw_t2 (List.mem_of_getElem? (i := 53) rfl) rfl
theorem kw_238 : Cond.selects RX4 yX4_giveBack yX4_giveBack ∈ AW := aw_t2 (List.mem_of_getElem? (i := 54) rfl) rfl
theorem kw_239 : Cond.code yX4_giveBack cX4_giveBack 3 (Option.some Jvm.ClassFile.FieldType.int) ∈ AW := aw_t2 (List.mem_of_getElem? (i := 55) rfl) rfl
theorem kw_240 : Cond.methodLink RX4 66 yX3_takeHourBack ∈ AW := aw_t2 (List.mem_of_getElem? (i := 56) rfl) rfl
theorem kw_241 : Cond.instanceMethod yX3_takeHourBack ∈ AW := aw_t2 (List.mem_of_getElem? (i := 57) rfl) rfl
theorem kw_242 : Cond.selects RX3 yX3_takeHourBack yX3_takeHourBack ∈ AW := aw_t2 (List.mem_of_getElem? (i := 58) rfl) rfl
theorem kw_243 : Cond.code yX3_takeHourBack cX3_takeHourBack 3 (Option.some Jvm.ClassFile.FieldType.int) ∈ AW := aw_t2 (List.mem_of_getElem? (i := 59) rfl) rfl
theorem kw_244 : Cond.methodLink RL 35 yX4_pass ∈ AW := aw_t2 (List.mem_of_getElem? (i := 60) rfl) rfl
theorem kw_245 : Cond.instanceMethod yX4_pass ∈ AW := aw_t2 (List.mem_of_getElem? (i := 61) rfl) rfl
theorem kw_246 : Cond.selects RX4 yX4_pass yX4_pass ∈ AW := aw_t2 (List.mem_of_getElem? (i := 62) rfl) rfl
theorem kw_247 : Cond.code yX4_pass cX4_pass 2 (Option.some Jvm.ClassFile.FieldType.int) ∈ AW := aw_t2 (List.mem_of_getElem? (i := 63) rfl) rfl
theorem kw_248 : Cond.methodLink RX4 69 yX3_passMinutes ∈ AW := aw_t2 (List.mem_of_getElem? (i := 64) rfl) rfl
theorem kw_249 : Cond.instanceMethod yX3_passMinutes ∈ AW := aw_t2 (List.mem_of_getElem? (i := 65) rfl) rfl
theorem kw_250 : Cond.selects RX3 yX3_passMinutes yX3_passMinutes ∈ AW := aw_t2 (List.mem_of_getElem? (i := 66) rfl) rfl
theorem kw_251 : Cond.code yX3_passMinutes cX3_passMinutes 3 (Option.some Jvm.ClassFile.FieldType.int) ∈ AW := aw_t2 (List.mem_of_getElem? (i := 67) rfl) rfl
theorem kw_252 : Cond.static yX4_arePassable ∈ AW := aw_t2 (List.mem_of_getElem? (i := 69) rfl) rfl
theorem kw_253 : Cond.code yX4_arePassable cX4_arePassable 1 (Option.some Jvm.ClassFile.FieldType.boolean) ∈ AW := aw_t2 (List.mem_of_getElem? (i := 70) rfl) rfl
theorem kw_254 : Cond.methodLink RX3 95 yX3_passOneMinute ∈ AW := aw_t2 (List.mem_of_getElem? (i := 71) rfl) rfl
theorem kw_255 : Cond.instanceMethod yX3_passOneMinute ∈ AW := aw_t2 (List.mem_of_getElem? (i := 72) rfl) rfl
theorem kw_256 : Cond.selects RX3 yX3_passOneMinute yX3_passOneMinute ∈ AW := aw_t2 (List.mem_of_getElem? (i := 73) rfl) rfl
theorem kw_257 : Cond.code yX3_passOneMinute cX3_passOneMinute 3 (Option.some Jvm.ClassFile.FieldType.boolean) ∈ AW := aw_t2 (List.mem_of_getElem? (i := 74) rfl) rfl
theorem kw_258 : Cond.static yX4_twinOf ∈ AW := aw_t2 (List.mem_of_getElem? (i := 76) rfl) rfl
theorem kw_259 : Cond.code yX4_twinOf cX4_twinOf 1 (Option.some Jvm.ClassFile.FieldType.int) ∈ AW := aw_t2 (List.mem_of_getElem? (i := 77) rfl) rfl
theorem kw_260 : Cond.methodLink RX3 102 yX3_passMinuteOf ∈ AW := aw_t2 (List.mem_of_getElem? (i := 78) rfl) rfl
theorem kw_261 : Cond.instanceMethod yX3_passMinuteOf ∈ AW := aw_t2 (List.mem_of_getElem? (i := 80) rfl) rfl
theorem kw_262 : Cond.code yX3_passMinuteOf cX3_passMinuteOf 6 (Option.some Jvm.ClassFile.FieldType.boolean) ∈ AW := aw_t2 (List.mem_of_getElem? (i := 81) rfl) rfl
theorem kw_263 : Cond.methodLink RX3 106 yX0_isQuietIn ∈ AW := aw_t2 (List.mem_of_getElem? (i := 82) rfl) rfl
theorem kw_264 : Cond.instanceMethod yX0_isQuietIn ∈ AW := aw_t2 (List.mem_of_getElem? (i := 83) rfl) rfl
theorem kw_265 : Cond.selects RX0 yX0_isQuietIn yX0_isQuietIn ∈ AW := aw_t2 (List.mem_of_getElem? (i := 84) rfl) rfl
theorem kw_266 : Cond.code yX0_isQuietIn cX0_isQuietIn 2 (Option.some Jvm.ClassFile.FieldType.boolean) ∈ AW := aw_t2 (List.mem_of_getElem? (i := 85) rfl) rfl
theorem kw_267 : Cond.methodLink RX0 61 yX0_hourState ∈ AW := aw_t2 (List.mem_of_getElem? (i := 86) rfl) rfl
theorem kw_268 : Cond.methodLink RX3 109 yX3_settleHours ∈ AW := aw_t2 (List.mem_of_getElem? (i := 87) rfl) rfl
theorem kw_269 : Cond.instanceMethod yX3_settleHours ∈ AW := aw_t2 (List.mem_of_getElem? (i := 89) rfl) rfl
theorem kw_270 : Cond.code yX3_settleHours cX3_settleHours 4 (Option.none : Option Jvm.ClassFile.FieldType) ∈ AW := aw_t2 (List.mem_of_getElem? (i := 90) rfl) rfl
theorem kw_271 : Cond.methodLink RX3 113 yX0_takeStream ∈ AW := aw_t2 (List.mem_of_getElem? (i := 91) rfl) rfl
theorem kw_272 : Cond.instanceMethod yX0_takeStream ∈ AW := aw_t2 (List.mem_of_getElem? (i := 92) rfl) rfl
theorem kw_273 : Cond.selects RX0 yX0_takeStream yX0_takeStream ∈ AW := aw_t2 (List.mem_of_getElem? (i := 93) rfl) rfl
theorem kw_274 : Cond.code yX0_takeStream cX0_takeStream 2 (Option.none : Option Jvm.ClassFile.FieldType) ∈ AW := aw_t2 (List.mem_of_getElem? (i := 94) rfl) rfl
theorem kw_275 : Cond.methodLink RX3 117 yX0_takeBackFrom ∈ AW := aw_t2 (List.mem_of_getElem? (i := 95) rfl) rfl
theorem kw_276 : Cond.instanceMethod yX0_takeBackFrom ∈ AW := aw_t2 (List.mem_of_getElem? (i := 96) rfl) rfl
theorem kw_277 : Cond.selects RX0 yX0_takeBackFrom yX0_takeBackFrom ∈ AW := aw_t2 (List.mem_of_getElem? (i := 97) rfl) rfl
theorem kw_278 : Cond.code yX0_takeBackFrom cX0_takeBackFrom 3 (Option.none : Option Jvm.ClassFile.FieldType) ∈ AW := aw_t2 (List.mem_of_getElem? (i := 98) rfl) rfl
theorem kw_279 : Cond.methodLink RX0 68 yJ9_min_7cf53 ∈ AW := aw_t2 (List.mem_of_getElem? (i := 99) rfl) rfl
theorem kw_280 : Cond.methodLink RX0 74 yX0_fillCells ∈ AW := aw_t2 (List.mem_of_getElem? (i := 100) rfl) rfl
theorem kw_281 : Cond.instanceMethod yX0_fillCells ∈ AW := aw_t2 (List.mem_of_getElem? (i := 102) rfl) rfl
theorem kw_282 : Cond.code yX0_fillCells cX0_fillCells 2 (Option.none : Option Jvm.ClassFile.FieldType) ∈ AW := aw_t2 (List.mem_of_getElem? (i := 103) rfl) rfl
theorem kw_283 : Cond.methodLink RX3 120 yX0_writeHeld ∈ AW := aw_t2 (List.mem_of_getElem? (i := 104) rfl) rfl
theorem kw_284 : Cond.instanceMethod yX0_writeHeld ∈ AW := aw_t2 (List.mem_of_getElem? (i := 105) rfl) rfl
theorem kw_285 : Cond.selects RX0 yX0_writeHeld yX0_writeHeld ∈ AW := aw_t2 (List.mem_of_getElem? (i := 106) rfl) rfl
theorem kw_286 : Cond.code yX0_writeHeld cX0_writeHeld 2 (Option.none : Option Jvm.ClassFile.FieldType) ∈ AW := aw_t2 (List.mem_of_getElem? (i := 107) rfl) rfl
theorem kw_287 : Cond.methodLink RX3 123 yX0_lendTo ∈ AW := aw_t2 (List.mem_of_getElem? (i := 108) rfl) rfl
theorem kw_288 : Cond.instanceMethod yX0_lendTo ∈ AW := aw_t2 (List.mem_of_getElem? (i := 109) rfl) rfl
theorem kw_289 : Cond.selects RX0 yX0_lendTo yX0_lendTo ∈ AW := aw_t2 (List.mem_of_getElem? (i := 110) rfl) rfl
theorem kw_290 : Cond.code yX0_lendTo cX0_lendTo 4 (Option.none : Option Jvm.ClassFile.FieldType) ∈ AW := aw_t2 (List.mem_of_getElem? (i := 111) rfl) rfl
theorem kw_291 : Cond.methodLink RX3 127 yX3_cleanUp ∈ AW := aw_t2 (List.mem_of_getElem? (i := 112) rfl) rfl
theorem kw_292 : Cond.instanceMethod yX3_cleanUp ∈ AW := aw_t2 (List.mem_of_getElem? (i := 114) rfl) rfl
theorem kw_293 : Cond.code yX3_cleanUp cX3_cleanUp 5 (Option.some Jvm.ClassFile.FieldType.boolean) ∈ AW := aw_t2 (List.mem_of_getElem? (i := 115) rfl) rfl
theorem kw_294 : Cond.methodLink RX3 148 yJ9_min_7cf53 ∈ AW := aw_t2 (List.mem_of_getElem? (i := 116) rfl) rfl
theorem kw_295 : Cond.methodLink RX3 154 yX0_cleanCells ∈ AW := aw_t2 (List.mem_of_getElem? (i := 117) rfl) rfl
theorem kw_296 : Cond.instanceMethod yX0_cleanCells ∈ AW := aw_t2 (List.mem_of_getElem? (i := 118) rfl) rfl
theorem kw_297 : Cond.selects RX0 yX0_cleanCells yX0_cleanCells ∈ AW := aw_t2 (List.mem_of_getElem? (i := 119) rfl) rfl
theorem kw_298 : Cond.code yX0_cleanCells cX0_cleanCells 2 (Option.none : Option Jvm.ClassFile.FieldType) ∈ AW := aw_t2 (List.mem_of_getElem? (i := 120) rfl) rfl
theorem kw_299 : Cond.methodLink RX3 131 yX3_chargeOverrun ∈ AW := aw_t2 (List.mem_of_getElem? (i := 121) rfl) rfl
theorem kw_300 : Cond.instanceMethod yX3_chargeOverrun ∈ AW := aw_t2 (List.mem_of_getElem? (i := 123) rfl) rfl
theorem kw_301 : Cond.code yX3_chargeOverrun cX3_chargeOverrun 3 (Option.none : Option Jvm.ClassFile.FieldType) ∈ AW := aw_t2 (List.mem_of_getElem? (i := 124) rfl) rfl
theorem kw_302 : Cond.methodLink RL 40 yX4_ofDrive ∈ AW := aw_t2 (List.mem_of_getElem? (i := 125) rfl) rfl
theorem kw_303 : Cond.instanceMethod yX4_ofDrive ∈ AW := aw_t2 (List.mem_of_getElem? (i := 126) rfl) rfl
theorem kw_304 : Cond.selects RX4 yX4_ofDrive yX4_ofDrive ∈ AW := aw_t2 (List.mem_of_getElem? (i := 127) rfl) rfl
theorem kw_305 : Cond.code yX4_ofDrive cX4_ofDrive 4 (Option.some Jvm.ClassFile.FieldType.int) ∈ AW := aw_t2 (List.mem_of_getElem? (i := 128) rfl) rfl
theorem kw_306 : Cond.methodLink RX4 72 yX4_isDrive ∈ AW := aw_t2 (List.mem_of_getElem? (i := 129) rfl) rfl
theorem kw_307 : Cond.methodLink RX4 95 yX3_hourOfNow ∈ AW := aw_t2 (List.mem_of_getElem? (i := 130) rfl) rfl
theorem kw_308 : Cond.methodLink RX4 99 yX0_isQuietIn ∈ AW := aw_t2 (List.mem_of_getElem? (i := 131) rfl) rfl
theorem kw_309 : Cond.methodLink RX4 115 yX0_soldHours ∈ AW := aw_t2 (List.mem_of_getElem? (i := 132) rfl) rfl
theorem kw_310 : Cond.methodLink RX4 118 yX0_hoursThatAre ∈ AW := aw_t2 (List.mem_of_getElem? (i := 133) rfl) rfl
theorem kw_311 : Cond.methodLink RL 44 yX4_hour ∈ AW := aw_t2 (List.mem_of_getElem? (i := 134) rfl) rfl
theorem kw_312 : Cond.instanceMethod yX4_hour ∈ AW := aw_t2 (List.mem_of_getElem? (i := 135) rfl) rfl
theorem kw_313 : Cond.selects RX4 yX4_hour yX4_hour ∈ AW := aw_t2 (List.mem_of_getElem? (i := 136) rfl) rfl
theorem kw_314 : Cond.code yX4_hour cX4_hour 3 (Option.some Jvm.ClassFile.FieldType.int) ∈ AW := aw_t2 (List.mem_of_getElem? (i := 137) rfl) rfl
theorem kw_315 : Cond.methodLink RX4 127 yX4_isHour ∈ AW := aw_t2 (List.mem_of_getElem? (i := 138) rfl) rfl
theorem kw_316 : Cond.methodLink RX4 130 yX0_hourState ∈ AW := aw_t2 (List.mem_of_getElem? (i := 139) rfl) rfl
theorem kw_317 : Cond.methodLink RL 48 yX4_streak ∈ AW := aw_t2 (List.mem_of_getElem? (i := 140) rfl) rfl
theorem kw_318 : Cond.instanceMethod yX4_streak ∈ AW := aw_t2 (List.mem_of_getElem? (i := 141) rfl) rfl
theorem kw_319 : Cond.selects RX4 yX4_streak yX4_streak ∈ AW := aw_t2 (List.mem_of_getElem? (i := 142) rfl) rfl
theorem kw_320 : Cond.code yX4_streak cX4_streak 2 (Option.some Jvm.ClassFile.FieldType.int) ∈ AW := aw_t2 (List.mem_of_getElem? (i := 143) rfl) rfl
theorem kw_321 : Cond.methodLink RX4 133 yX0_keptInARow ∈ AW := aw_t2 (List.mem_of_getElem? (i := 144) rfl) rfl
theorem kw_322 : Cond.instanceMethod yX0_keptInARow ∈ AW := aw_t2 (List.mem_of_getElem? (i := 145) rfl) rfl
theorem kw_323 : Cond.selects RX0 yX0_keptInARow yX0_keptInARow ∈ AW := aw_t2 (List.mem_of_getElem? (i := 146) rfl) rfl
theorem kw_324 : Cond.code yX0_keptInARow cX0_keptInARow 3 (Option.some Jvm.ClassFile.FieldType.int) ∈ AW := aw_t2 (List.mem_of_getElem? (i := 147) rfl) rfl
theorem kw_325 : Cond.methodLink RL 52 yX4_share ∈ AW := aw_t2 (List.mem_of_getElem? (i := 148) rfl) rfl
theorem kw_326 : Cond.instanceMethod yX4_share ∈ AW := aw_t2 (List.mem_of_getElem? (i := 149) rfl) rfl
theorem kw_327 : Cond.selects RX4 yX4_share yX4_share ∈ AW := aw_t2 (List.mem_of_getElem? (i := 150) rfl) rfl
theorem kw_328 : Cond.code yX4_share cX4_share 4 (Option.some Jvm.ClassFile.FieldType.int) ∈ AW := aw_t2 (List.mem_of_getElem? (i := 151) rfl) rfl
theorem kw_329 : Cond.methodLink RX4 136 yX4_floatBits ∈ AW := aw_t2 (List.mem_of_getElem? (i := 152) rfl) rfl
theorem kw_330 : Cond.static yX4_floatBits ∈ AW := aw_t2 (List.mem_of_getElem? (i := 153) rfl) rfl
theorem kw_331 : Cond.code yX4_floatBits cX4_floatBits 5 (Option.some Jvm.ClassFile.FieldType.int) ∈ AW := aw_t2 (List.mem_of_getElem? (i := 154) rfl) rfl
theorem kw_332 : Cond.methodLink RX4 149 yX4_doubleBits ∈ AW := aw_t2 (List.mem_of_getElem? (i := 155) rfl) rfl
theorem kw_333 : Cond.static yX4_doubleBits ∈ AW := aw_t2 (List.mem_of_getElem? (i := 156) rfl) rfl
theorem kw_334 : Cond.code yX4_doubleBits cX4_doubleBits 7 (Option.some Jvm.ClassFile.FieldType.long) ∈ AW := aw_t2 (List.mem_of_getElem? (i := 157) rfl) rfl
theorem kw_335 : Cond.constantDouble RX4 261 (4611686018427387904) ∈ AW := aw_t2 (List.mem_of_getElem? (i := 158) rfl) rfl
theorem kw_336 : Cond.constantDouble RX4 263 (4841369599423283200) ∈ AW := aw_t2 (List.mem_of_getElem? (i := 159) rfl) rfl
theorem kw_337 : Cond.constantLong RX4 265 (7516192768) ∈ AW := aw_t2 (List.mem_of_getElem? (i := 160) rfl) rfl
theorem kw_338 : Cond.methodLink RL 56 yX4_mean ∈ AW := aw_t2 (List.mem_of_getElem? (i := 161) rfl) rfl
theorem kw_339 : Cond.instanceMethod yX4_mean ∈ AW := aw_t2 (List.mem_of_getElem? (i := 162) rfl) rfl
theorem kw_340 : Cond.selects RX4 yX4_mean yX4_mean ∈ AW := aw_t2 (List.mem_of_getElem? (i := 163) rfl) rfl
theorem kw_341 : Cond.code yX4_mean cX4_mean 3 (Option.some Jvm.ClassFile.FieldType.long) ∈ AW := aw_t2 (List.mem_of_getElem? (i := 164) rfl) rfl
theorem kw_342 : Cond.constantLong RX4 140 (-1) ∈ AW := aw_t2 (List.mem_of_getElem? (i := 165) rfl) rfl
theorem kw_343 : Cond.methodLink RL 61 yX4_count ∈ AW := aw_t2 (List.mem_of_getElem? (i := 166) rfl) rfl
theorem kw_344 : Cond.instanceMethod yX4_count ∈ AW := aw_t2 (List.mem_of_getElem? (i := 167) rfl) rfl
theorem kw_345 : Cond.selects RX4 yX4_count yX4_count ∈ AW := aw_t2 (List.mem_of_getElem? (i := 168) rfl) rfl
theorem kw_346 : Cond.code yX4_count cX4_count 2 (Option.some Jvm.ClassFile.FieldType.int) ∈ AW := aw_t2 (List.mem_of_getElem? (i := 169) rfl) rfl
theorem kw_347 : Cond.methodLink RL 65 yX4_loudIn ∈ AW := aw_t2 (List.mem_of_getElem? (i := 170) rfl) rfl
theorem kw_348 : Cond.instanceMethod yX4_loudIn ∈ AW := aw_t2 (List.mem_of_getElem? (i := 171) rfl) rfl
theorem kw_349 : Cond.selects RX4 yX4_loudIn yX4_loudIn ∈ AW := aw_t2 (List.mem_of_getElem? (i := 172) rfl) rfl
theorem kw_350 : Cond.code yX4_loudIn cX4_loudIn 4 (Option.some Jvm.ClassFile.FieldType.int) ∈ AW := aw_t2 (List.mem_of_getElem? (i := 173) rfl) rfl
theorem kw_351 : Cond.methodLink RX4 175 yX4_errorOfQuestion ∈ AW := aw_t2 (List.mem_of_getElem? (i := 174) rfl) rfl
theorem kw_352 : Cond.instanceMethod yX4_errorOfQuestion ∈ AW := aw_t2 (List.mem_of_getElem? (i := 176) rfl) rfl
theorem kw_353 : Cond.code yX4_errorOfQuestion cX4_errorOfQuestion 3 (Option.some Jvm.ClassFile.FieldType.int) ∈ AW := aw_t2 (List.mem_of_getElem? (i := 177) rfl) rfl
theorem kw_354 : Cond.methodLink RX4 252 yX4_arePassable ∈ AW := aw_t2 (List.mem_of_getElem? (i := 178) rfl) rfl
theorem kw_355 : Cond.methodLink RX4 178 yX4_tryMinutes ∈ AW := aw_t2 (List.mem_of_getElem? (i := 179) rfl) rfl
theorem kw_356 : Cond.instanceMethod yX4_tryMinutes ∈ AW := aw_t2 (List.mem_of_getElem? (i := 181) rfl) rfl
theorem kw_357 : Cond.code yX4_tryMinutes cX4_tryMinutes 2 (Option.none : Option Jvm.ClassFile.FieldType) ∈ AW := aw_t2 (List.mem_of_getElem? (i := 182) rfl) rfl
theorem kw_358 : Cond.methodLink RX4 182 yX3_copyFrom ∈ AW := aw_t2 (List.mem_of_getElem? (i := 183) rfl) rfl
theorem kw_359 : Cond.methodLink RL 69 yX4_freeIn ∈ AW := aw_t2 (List.mem_of_getElem? (i := 184) rfl) rfl
theorem kw_360 : Cond.instanceMethod yX4_freeIn ∈ AW := aw_t2 (List.mem_of_getElem? (i := 185) rfl) rfl
theorem kw_361 : Cond.selects RX4 yX4_freeIn yX4_freeIn ∈ AW := aw_t2 (List.mem_of_getElem? (i := 186) rfl) rfl
theorem kw_362 : Cond.code yX4_freeIn cX4_freeIn 4 (Option.some Jvm.ClassFile.FieldType.int) ∈ AW := aw_t2 (List.mem_of_getElem? (i := 187) rfl) rfl
theorem kw_363 : Cond.methodLink RL 73 yX4_mostHeld ∈ AW := aw_t2 (List.mem_of_getElem? (i := 188) rfl) rfl
theorem kw_364 : Cond.instanceMethod yX4_mostHeld ∈ AW := aw_t2 (List.mem_of_getElem? (i := 189) rfl) rfl
theorem kw_365 : Cond.selects RX4 yX4_mostHeld yX4_mostHeld ∈ AW := aw_t2 (List.mem_of_getElem? (i := 190) rfl) rfl
theorem kw_366 : Cond.code yX4_mostHeld cX4_mostHeld 6 (Option.some Jvm.ClassFile.FieldType.int) ∈ AW := aw_t2 (List.mem_of_getElem? (i := 191) rfl) rfl
theorem kw_367 : Cond.methodLink RX4 185 yX3_passOneMinute ∈ AW := aw_t2 (List.mem_of_getElem? (i := 192) rfl) rfl
theorem kw_368 : Cond.methodLink RX4 189 yJ9_max_7cf53 ∈ AW := aw_t2 (List.mem_of_getElem? (i := 193) rfl) rfl
theorem kw_369 : Cond.static yJ9_max_7cf53 ∈ AW := aw_t2 (List.mem_of_getElem? (i := 194) rfl) rfl
theorem kw_370 : Cond.code yJ9_max_7cf53 Lib.Math.max.code 2 (Option.some Jvm.ClassFile.FieldType.int) ∈ AW := aw_t2 (List.mem_of_getElem? (i := 195) rfl) rfl
theorem kw_371 : Cond.methodLink RL 77 yX4_firstSafe ∈ AW := aw_t2 (List.mem_of_getElem? (i := 196) rfl) rfl
theorem kw_372 : Cond.instanceMethod yX4_firstSafe ∈ AW := aw_t2 (List.mem_of_getElem? (i := 197) rfl) rfl
theorem kw_373 : Cond.selects RX4 yX4_firstSafe yX4_firstSafe ∈ AW := aw_t2 (List.mem_of_getElem? (i := 198) rfl) rfl
theorem kw_374 : Cond.code yX4_firstSafe cX4_firstSafe 5 (Option.some Jvm.ClassFile.FieldType.int) ∈ AW := aw_t2 (List.mem_of_getElem? (i := 199) rfl) rfl
theorem kw_375 : Cond.methodLink RX4 194 yJ9_min_7cf53 ∈ AW := aw_t2 (List.mem_of_getElem? (i := 200) rfl) rfl
theorem kw_376 : Cond.methodLink RX4 197 yX0_markHour ∈ AW := aw_t2 (List.mem_of_getElem? (i := 201) rfl) rfl
theorem kw_377 : Cond.methodLink RX4 201 yX3_passesWithoutOverrun ∈ AW := aw_t2 (List.mem_of_getElem? (i := 202) rfl) rfl
theorem kw_378 : Cond.instanceMethod yX3_passesWithoutOverrun ∈ AW := aw_t2 (List.mem_of_getElem? (i := 203) rfl) rfl
theorem kw_379 : Cond.selects RX3 yX3_passesWithoutOverrun yX3_passesWithoutOverrun ∈ AW := aw_t2 (List.mem_of_getElem? (i := 204) rfl) rfl
theorem kw_380 : Cond.code yX3_passesWithoutOverrun cX3_passesWithoutOverrun 3 (Option.some Jvm.ClassFile.FieldType.boolean) ∈ AW := aw_t2 (List.mem_of_getElem? (i := 205) rfl) rfl
theorem kw_381 : Cond.methodLink RL 81 yX4_leastRoom ∈ AW := aw_t2 (List.mem_of_getElem? (i := 206) rfl) rfl
theorem kw_382 : Cond.instanceMethod yX4_leastRoom ∈ AW := aw_t2 (List.mem_of_getElem? (i := 207) rfl) rfl
theorem kw_383 : Cond.selects RX4 yX4_leastRoom yX4_leastRoom ∈ AW := aw_t2 (List.mem_of_getElem? (i := 208) rfl) rfl
theorem kw_384 : Cond.code yX4_leastRoom cX4_leastRoom 3 (Option.some Jvm.ClassFile.FieldType.int) ∈ AW := aw_t2 (List.mem_of_getElem? (i := 209) rfl) rfl
theorem kw_385 : Cond.fieldLink RX4 204 "SilentDrives" "LEAST_VALUES" "[I" ∈ AW := aw_t2 (List.mem_of_getElem? (i := 210) rfl) rfl
theorem kw_386 : Cond.fieldLink RX4 207 "SilentDrives" "MOST_VALUES" "[I" ∈ AW := aw_t2 (List.mem_of_getElem? (i := 211) rfl) rfl
theorem kw_387 : Cond.methodLink RL 87 yX4_put ∈ AW := aw_t2 (List.mem_of_getElem? (i := 212) rfl) rfl
theorem kw_388 : Cond.instanceMethod yX4_put ∈ AW := aw_t2 (List.mem_of_getElem? (i := 213) rfl) rfl
theorem kw_389 : Cond.selects RX4 yX4_put yX4_put ∈ AW := aw_t2 (List.mem_of_getElem? (i := 214) rfl) rfl
theorem kw_390 : Cond.code yX4_put cX4_put 4 (Option.some Jvm.ClassFile.FieldType.int) ∈ AW := aw_t2 (List.mem_of_getElem? (i := 215) rfl) rfl
theorem kw_391 : Cond.methodLink RX4 210 yX4_signsIn ∈ AW := aw_t2 (List.mem_of_getElem? (i := 216) rfl) rfl
theorem kw_392 : Cond.static yX4_signsIn ∈ AW := aw_t2 (List.mem_of_getElem? (i := 217) rfl) rfl
theorem kw_393 : Cond.code yX4_signsIn cX4_signsIn 7 (Option.some Jvm.ClassFile.FieldType.int) ∈ AW := aw_t2 (List.mem_of_getElem? (i := 218) rfl) rfl
theorem kw_394 : Cond.constantLong RX4 255 (255) ∈ AW := aw_t2 (List.mem_of_getElem? (i := 219) rfl) rfl
theorem kw_395 : Cond.constantLong RX4 257 (33) ∈ AW := aw_t2 (List.mem_of_getElem? (i := 220) rfl) rfl
theorem kw_396 : Cond.constantLong RX4 259 (126) ∈ AW := aw_t2 (List.mem_of_getElem? (i := 221) rfl) rfl
theorem kw_397 : Cond.methodLink RX4 214 yX2_append ∈ AW := aw_t2 (List.mem_of_getElem? (i := 222) rfl) rfl
theorem kw_398 : Cond.instanceMethod yX2_append ∈ AW := aw_t2 (List.mem_of_getElem? (i := 223) rfl) rfl
theorem kw_399 : Cond.selects RX2 yX2_append yX2_append ∈ AW := aw_t2 (List.mem_of_getElem? (i := 224) rfl) rfl
theorem kw_400 : Cond.code yX2_append cX2_append 5 (Option.none : Option Jvm.ClassFile.FieldType) ∈ AW := aw_t2 (List.mem_of_getElem? (i := 225) rfl) rfl
theorem kw_401 : Cond.constantLong RX2 19 (255) ∈ AW := aw_t2 (List.mem_of_getElem? (i := 226) rfl) rfl
theorem kw_402 : Cond.methodLink RL 92 yX4_wipe ∈ AW := aw_t2 (List.mem_of_getElem? (i := 227) rfl) rfl
theorem kw_403 : Cond.instanceMethod yX4_wipe ∈ AW := aw_t2 (List.mem_of_getElem? (i := 228) rfl) rfl
theorem kw_404 : Cond.selects RX4 yX4_wipe yX4_wipe ∈ AW := aw_t2 (List.mem_of_getElem? (i := 229) rfl) rfl
theorem kw_405 : Cond.code yX4_wipe cX4_wipe 2 (Option.some Jvm.ClassFile.FieldType.int) ∈ AW := aw_t2 (List.mem_of_getElem? (i := 230) rfl) rfl
theorem kw_406 : Cond.methodLink RL 97 yX4_fault ∈ AW := aw_t2 (List.mem_of_getElem? (i := 231) rfl) rfl
theorem kw_407 : Cond.instanceMethod yX4_fault ∈ AW := aw_t2 (List.mem_of_getElem? (i := 232) rfl) rfl
theorem kw_408 : Cond.selects RX4 yX4_fault yX4_fault ∈ AW := aw_t2 (List.mem_of_getElem? (i := 233) rfl) rfl
theorem kw_409 : Cond.code yX4_fault cX4_fault 1 (Option.some Jvm.ClassFile.FieldType.int) ∈ AW := aw_t2 (List.mem_of_getElem? (i := 234) rfl) rfl
theorem kw_410 : Cond.methodLink RX4 218 yX2_firstFault ∈ AW := aw_t2 (List.mem_of_getElem? (i := 235) rfl) rfl
theorem kw_411 : Cond.instanceMethod yX2_firstFault ∈ AW := aw_t2 (List.mem_of_getElem? (i := 236) rfl) rfl
theorem kw_412 : Cond.selects RX2 yX2_firstFault yX2_firstFault ∈ AW := aw_t2 (List.mem_of_getElem? (i := 237) rfl) rfl
theorem kw_413 : Cond.code yX2_firstFault cX2_firstFault 2 (Option.some Jvm.ClassFile.FieldType.int) ∈ AW := aw_t2 (List.mem_of_getElem? (i := 238) rfl) rfl
theorem kw_414 : Cond.methodLink RX2 21 yX2_begin ∈ AW := aw_t2 (List.mem_of_getElem? (i := 239) rfl) rfl
theorem kw_415 : Cond.instanceMethod yX2_begin ∈ AW := aw_t3 (List.mem_of_getElem? (i := 0) rfl) rfl
theorem kw_416 : Cond.selects RX2 yX2_begin yX2_begin ∈ AW := aw_t3 (List.mem_of_getElem? (i := 1) rfl) rfl
theorem kw_417 : Cond.code yX2_begin cX2_begin 1 (Option.none : Option Jvm.ClassFile.FieldType) ∈ AW := aw_t3 (List.mem_of_getElem? (i := 2) rfl) rfl
theorem kw_418 : Cond.methodLink RX2 24 yX2_readNext ∈ AW := aw_t3 (List.mem_of_getElem? (i := 3) rfl) rfl
theorem kw_419 : Cond.instanceMethod yX2_readNext ∈ AW := aw_t3 (List.mem_of_getElem? (i := 4) rfl) rfl
theorem kw_420 : Cond.selects RX2 yX2_readNext yX2_readNext ∈ AW := aw_t3 (List.mem_of_getElem? (i := 5) rfl) rfl
theorem kw_421 : Cond.code yX2_readNext cX2_readNext 1 (Option.some Jvm.ClassFile.FieldType.boolean) ∈ AW := aw_t3 (List.mem_of_getElem? (i := 6) rfl) rfl
theorem kw_422 : Cond.methodLink RX2 31 yX2_readSign ∈ AW := aw_t3 (List.mem_of_getElem? (i := 7) rfl) rfl
theorem kw_423 : Cond.instanceMethod yX2_readSign ∈ AW := aw_t3 (List.mem_of_getElem? (i := 9) rfl) rfl
theorem kw_424 : Cond.code yX2_readSign cX2_readSign 2 (Option.some Jvm.ClassFile.FieldType.boolean) ∈ AW := aw_t3 (List.mem_of_getElem? (i := 10) rfl) rfl
theorem kw_425 : Cond.methodLink RX2 38 yX2_signHere ∈ AW := aw_t3 (List.mem_of_getElem? (i := 11) rfl) rfl
theorem kw_426 : Cond.instanceMethod yX2_signHere ∈ AW := aw_t3 (List.mem_of_getElem? (i := 13) rfl) rfl
theorem kw_427 : Cond.code yX2_signHere cX2_signHere 1 (Option.some Jvm.ClassFile.FieldType.char) ∈ AW := aw_t3 (List.mem_of_getElem? (i := 14) rfl) rfl
theorem kw_428 : Cond.methodLink RX2 35 yX2_readOrder ∈ AW := aw_t3 (List.mem_of_getElem? (i := 15) rfl) rfl
theorem kw_429 : Cond.instanceMethod yX2_readOrder ∈ AW := aw_t3 (List.mem_of_getElem? (i := 17) rfl) rfl
theorem kw_430 : Cond.code yX2_readOrder cX2_readOrder 1 (Option.some Jvm.ClassFile.FieldType.boolean) ∈ AW := aw_t3 (List.mem_of_getElem? (i := 18) rfl) rfl
theorem kw_431 : Cond.methodLink RX2 46 yX2_readKindAndDrive ∈ AW := aw_t3 (List.mem_of_getElem? (i := 19) rfl) rfl
theorem kw_432 : Cond.instanceMethod yX2_readKindAndDrive ∈ AW := aw_t3 (List.mem_of_getElem? (i := 21) rfl) rfl
theorem kw_433 : Cond.code yX2_readKindAndDrive cX2_readKindAndDrive 1 (Option.some Jvm.ClassFile.FieldType.boolean) ∈ AW := aw_t3 (List.mem_of_getElem? (i := 22) rfl) rfl
theorem kw_434 : Cond.methodLink RX2 49 yX2_readFirst ∈ AW := aw_t3 (List.mem_of_getElem? (i := 24) rfl) rfl
theorem kw_435 : Cond.instanceMethod yX2_readFirst ∈ AW := aw_t3 (List.mem_of_getElem? (i := 26) rfl) rfl
theorem kw_436 : Cond.code yX2_readFirst cX2_readFirst 1 (Option.some Jvm.ClassFile.FieldType.boolean) ∈ AW := aw_t3 (List.mem_of_getElem? (i := 27) rfl) rfl
theorem kw_437 : Cond.methodLink RX2 62 yX2_readNumber ∈ AW := aw_t3 (List.mem_of_getElem? (i := 28) rfl) rfl
theorem kw_438 : Cond.instanceMethod yX2_readNumber ∈ AW := aw_t3 (List.mem_of_getElem? (i := 30) rfl) rfl
theorem kw_439 : Cond.code yX2_readNumber cX2_readNumber 4 (Option.some Jvm.ClassFile.FieldType.int) ∈ AW := aw_t3 (List.mem_of_getElem? (i := 31) rfl) rfl
theorem kw_440 : Cond.methodLink RX2 72 yX2_isDigit ∈ AW := aw_t3 (List.mem_of_getElem? (i := 32) rfl) rfl
theorem kw_441 : Cond.static yX2_isDigit ∈ AW := aw_t3 (List.mem_of_getElem? (i := 33) rfl) rfl
theorem kw_442 : Cond.code yX2_isDigit cX2_isDigit 1 (Option.some Jvm.ClassFile.FieldType.boolean) ∈ AW := aw_t3 (List.mem_of_getElem? (i := 34) rfl) rfl
theorem kw_443 : Cond.methodLink RX2 52 yX2_readSecond ∈ AW := aw_t3 (List.mem_of_getElem? (i := 35) rfl) rfl
theorem kw_444 : Cond.instanceMethod yX2_readSecond ∈ AW := aw_t3 (List.mem_of_getElem? (i := 37) rfl) rfl
theorem kw_445 : Cond.code yX2_readSecond cX2_readSecond 1 (Option.some Jvm.ClassFile.FieldType.boolean) ∈ AW := aw_t3 (List.mem_of_getElem? (i := 38) rfl) rfl
theorem kw_446 : Cond.methodLink RL 101 yX4_carryOut ∈ AW := aw_t3 (List.mem_of_getElem? (i := 39) rfl) rfl
theorem kw_447 : Cond.instanceMethod yX4_carryOut ∈ AW := aw_t3 (List.mem_of_getElem? (i := 40) rfl) rfl
theorem kw_448 : Cond.selects RX4 yX4_carryOut yX4_carryOut ∈ AW := aw_t3 (List.mem_of_getElem? (i := 41) rfl) rfl
theorem kw_449 : Cond.code yX4_carryOut cX4_carryOut 2 (Option.some Jvm.ClassFile.FieldType.int) ∈ AW := aw_t3 (List.mem_of_getElem? (i := 42) rfl) rfl
theorem kw_450 : Cond.methodLink RX4 224 yX2_begin ∈ AW := aw_t3 (List.mem_of_getElem? (i := 43) rfl) rfl
theorem kw_451 : Cond.methodLink RX4 227 yX2_readNext ∈ AW := aw_t3 (List.mem_of_getElem? (i := 44) rfl) rfl
theorem kw_452 : Cond.methodLink RX4 230 yX4_carryOutOrder ∈ AW := aw_t3 (List.mem_of_getElem? (i := 45) rfl) rfl
theorem kw_453 : Cond.instanceMethod yX4_carryOutOrder ∈ AW := aw_t3 (List.mem_of_getElem? (i := 47) rfl) rfl
theorem kw_454 : Cond.code yX4_carryOutOrder cX4_carryOutOrder 1 (Option.some Jvm.ClassFile.FieldType.int) ∈ AW := aw_t3 (List.mem_of_getElem? (i := 48) rfl) rfl
theorem kw_455 : Cond.methodLink RL 105 yX4_undo ∈ AW := aw_t3 (List.mem_of_getElem? (i := 49) rfl) rfl
theorem kw_456 : Cond.instanceMethod yX4_undo ∈ AW := aw_t3 (List.mem_of_getElem? (i := 50) rfl) rfl
theorem kw_457 : Cond.selects RX4 yX4_undo yX4_undo ∈ AW := aw_t3 (List.mem_of_getElem? (i := 51) rfl) rfl
theorem kw_458 : Cond.code yX4_undo cX4_undo 1 (Option.some Jvm.ClassFile.FieldType.int) ∈ AW := aw_t3 (List.mem_of_getElem? (i := 52) rfl) rfl
theorem kw_459 : Cond.methodLink RX4 233 yX1_bringBackLatest ∈ AW := aw_t3 (List.mem_of_getElem? (i := 53) rfl) rfl
theorem kw_460 : Cond.instanceMethod yX1_bringBackLatest ∈ AW := aw_t3 (List.mem_of_getElem? (i := 54) rfl) rfl
theorem kw_461 : Cond.selects RX1 yX1_bringBackLatest yX1_bringBackLatest ∈ AW := aw_t3 (List.mem_of_getElem? (i := 55) rfl) rfl
theorem kw_462 : Cond.code yX1_bringBackLatest cX1_bringBackLatest 2 (Option.none : Option Jvm.ClassFile.FieldType) ∈ AW := aw_t3 (List.mem_of_getElem? (i := 56) rfl) rfl
theorem kw_463 : Cond.methodLink RL 109 yX4_save ∈ AW := aw_t3 (List.mem_of_getElem? (i := 57) rfl) rfl
theorem kw_464 : Cond.instanceMethod yX4_save ∈ AW := aw_t3 (List.mem_of_getElem? (i := 58) rfl) rfl
theorem kw_465 : Cond.selects RX4 yX4_save yX4_save ∈ AW := aw_t3 (List.mem_of_getElem? (i := 59) rfl) rfl
theorem kw_466 : Cond.code yX4_save cX4_save 2 (Option.some Jvm.ClassFile.FieldType.int) ∈ AW := aw_t3 (List.mem_of_getElem? (i := 60) rfl) rfl
theorem kw_467 : Cond.methodLink RX4 236 yX4_isSlot ∈ AW := aw_t3 (List.mem_of_getElem? (i := 61) rfl) rfl
theorem kw_468 : Cond.static yX4_isSlot ∈ AW := aw_t3 (List.mem_of_getElem? (i := 62) rfl) rfl
theorem kw_469 : Cond.code yX4_isSlot cX4_isSlot 1 (Option.some Jvm.ClassFile.FieldType.boolean) ∈ AW := aw_t3 (List.mem_of_getElem? (i := 63) rfl) rfl
theorem kw_470 : Cond.methodLink RL 113 yX4_restore ∈ AW := aw_t3 (List.mem_of_getElem? (i := 64) rfl) rfl
theorem kw_471 : Cond.instanceMethod yX4_restore ∈ AW := aw_t3 (List.mem_of_getElem? (i := 65) rfl) rfl
theorem kw_472 : Cond.selects RX4 yX4_restore yX4_restore ∈ AW := aw_t3 (List.mem_of_getElem? (i := 66) rfl) rfl
theorem kw_473 : Cond.code yX4_restore cX4_restore 2 (Option.some Jvm.ClassFile.FieldType.int) ∈ AW := aw_t3 (List.mem_of_getElem? (i := 67) rfl) rfl
theorem kw_474 : Cond.classLink RL 10 RX5 ∈ AW := aw_t3 (List.mem_of_getElem? (i := 68) rfl) rfl
theorem kw_475 : Cond.instantiable RX5 11 ∈ AW := aw_t3 (List.mem_of_getElem? (i := 69) rfl) rfl
theorem kw_476 : Cond.methodLink RL 12 yX5_init ∈ AW := aw_t3 (List.mem_of_getElem? (i := 70) rfl) rfl
theorem kw_477 : Cond.instanceMethod yX5_init ∈ AW := aw_t3 (List.mem_of_getElem? (i := 71) rfl) rfl
theorem kw_478 : Cond.code yX5_init cX5_init 2 (Option.none : Option Jvm.ClassFile.FieldType) ∈ AW := aw_t3 (List.mem_of_getElem? (i := 72) rfl) rfl
theorem kw_479 : Cond.methodLink RX5 1 objectInit ∈ AW := aw_t3 (List.mem_of_getElem? (i := 73) rfl) rfl
theorem kw_480 : Cond.constantLong RX5 33 (60) ∈ AW := aw_t3 (List.mem_of_getElem? (i := 74) rfl) rfl
theorem kw_481 : Cond.constantLong RX5 35 (5) ∈ AW := aw_t3 (List.mem_of_getElem? (i := 75) rfl) rfl
theorem kw_482 : Cond.constantLong RX5 37 (2) ∈ AW := aw_t3 (List.mem_of_getElem? (i := 76) rfl) rfl
theorem kw_483 : Cond.constantLong RX5 39 (20) ∈ AW := aw_t3 (List.mem_of_getElem? (i := 77) rfl) rfl
theorem kw_484 : Cond.constantLong RX5 41 (50) ∈ AW := aw_t3 (List.mem_of_getElem? (i := 78) rfl) rfl
theorem kw_485 : Cond.constantLong RX5 43 (4) ∈ AW := aw_t3 (List.mem_of_getElem? (i := 79) rfl) rfl
theorem kw_486 : Cond.methodLink RX5 45 yX5_row ∈ AW := aw_t3 (List.mem_of_getElem? (i := 80) rfl) rfl
theorem kw_487 : Cond.static yX5_row ∈ AW := aw_t3 (List.mem_of_getElem? (i := 81) rfl) rfl
theorem kw_488 : Cond.code yX5_row cX5_row 1 (Option.some Jvm.ClassFile.FieldType.int) ∈ AW := aw_t3 (List.mem_of_getElem? (i := 82) rfl) rfl
theorem kw_489 : Cond.fieldLink RX5 7 "SilentDrivesModel" "now" "[J" ∈ AW := aw_t3 (List.mem_of_getElem? (i := 83) rfl) rfl
theorem kw_490 : Cond.fieldLink RX5 13 "SilentDrivesModel" "then" "[J" ∈ AW := aw_t3 (List.mem_of_getElem? (i := 84) rfl) rfl
theorem kw_491 : Cond.fieldLink RX5 16 "SilentDrivesModel" "past" "[J" ∈ AW := aw_t3 (List.mem_of_getElem? (i := 85) rfl) rfl
theorem kw_492 : Cond.fieldLink RX5 57 "SilentDrivesModel" "kept" "I" ∈ AW := aw_t3 (List.mem_of_getElem? (i := 86) rfl) rfl
theorem kw_493 : Cond.fieldLink RX5 19 "SilentDrivesModel" "slots" "[J" ∈ AW := aw_t3 (List.mem_of_getElem? (i := 87) rfl) rfl
theorem kw_494 : Cond.fieldLink RX5 22 "SilentDrivesModel" "held" "[Z" ∈ AW := aw_t3 (List.mem_of_getElem? (i := 88) rfl) rfl
theorem kw_495 : Cond.fieldLink RX5 26 "SilentDrivesModel" "pad" "[I" ∈ AW := aw_t3 (List.mem_of_getElem? (i := 89) rfl) rfl
theorem kw_496 : Cond.fieldLink RX5 173 "SilentDrivesModel" "padded" "I" ∈ AW := aw_t3 (List.mem_of_getElem? (i := 90) rfl) rfl
theorem kw_497 : Cond.fieldLink RX5 211 "SilentDrivesModel" "at" "I" ∈ AW := aw_t3 (List.mem_of_getElem? (i := 91) rfl) rfl
theorem kw_498 : Cond.fieldLink RX5 30 "SilentDrivesModel" "orders" "[I" ∈ AW := aw_t3 (List.mem_of_getElem? (i := 92) rfl) rfl
theorem kw_499 : Cond.fieldLink RX5 217 "SilentDrivesModel" "ordered" "I" ∈ AW := aw_t3 (List.mem_of_getElem? (i := 93) rfl) rfl
theorem kw_500 : Cond.laysFinal "SilentDrivesModel" "SilentDrivesModel" "now" "[J" ∈ AW := aw_t3 (List.mem_of_getElem? (i := 94) rfl) rfl
theorem kw_501 : Cond.laysFinal "SilentDrivesModel" "SilentDrivesModel" "then" "[J" ∈ AW := aw_t3 (List.mem_of_getElem? (i := 96) rfl) rfl
theorem kw_502 : Cond.laysFinal "SilentDrivesModel" "SilentDrivesModel" "past" "[J" ∈ AW := aw_t3 (List.mem_of_getElem? (i := 98) rfl) rfl
theorem kw_503 : Cond.lays "SilentDrivesModel" "SilentDrivesModel" "kept" "I" ∈ AW := aw_t3 (List.mem_of_getElem? (i := 100) rfl) rfl
theorem kw_504 : Cond.laysFinal "SilentDrivesModel" "SilentDrivesModel" "slots" "[J" ∈ AW := aw_t3 (List.mem_of_getElem? (i := 102) rfl) rfl
theorem kw_505 : Cond.laysFinal "SilentDrivesModel" "SilentDrivesModel" "held" "[Z" ∈ AW := aw_t3 (List.mem_of_getElem? (i := 104) rfl) rfl
theorem kw_506 : Cond.laysFinal "SilentDrivesModel" "SilentDrivesModel" "pad" "[I" ∈ AW := aw_t3 (List.mem_of_getElem? (i := 106) rfl) rfl
theorem kw_507 : Cond.lays "SilentDrivesModel" "SilentDrivesModel" "padded" "I" ∈ AW := aw_t3 (List.mem_of_getElem? (i := 108) rfl) rfl
theorem kw_508 : Cond.lays "SilentDrivesModel" "SilentDrivesModel" "at" "I" ∈ AW := aw_t3 (List.mem_of_getElem? (i := 110) rfl) rfl
theorem kw_509 : Cond.laysFinal "SilentDrivesModel" "SilentDrivesModel" "orders" "[I" ∈ AW := aw_t3 (List.mem_of_getElem? (i := 112) rfl) rfl
theorem kw_510 : Cond.lays "SilentDrivesModel" "SilentDrivesModel" "ordered" "I" ∈ AW := aw_t3 (List.mem_of_getElem? (i := 114) rfl) rfl
theorem kw_511 : Cond.arrayClass Jvm.ClassFile.FieldType.long ∈ AW := aw_t3 (List.mem_of_getElem? (i := 117) rfl) rfl
theorem kw_512 : Cond.methodLink RL 108 yX5_undo ∈ AW := aw_t3 (List.mem_of_getElem? (i := 118) rfl) rfl
theorem kw_513 : Cond.instanceMethod yX5_undo ∈ AW := aw_t3 (List.mem_of_getElem? (i := 119) rfl) rfl
theorem kw_514 : Cond.selects RX5 yX5_undo yX5_undo ∈ AW := aw_t3 (List.mem_of_getElem? (i := 120) rfl) rfl
theorem kw_515 : Cond.code yX5_undo cX5_undo 1 (Option.some Jvm.ClassFile.FieldType.int) ∈ AW := aw_t3 (List.mem_of_getElem? (i := 121) rfl) rfl
theorem kw_516 : Cond.methodLink RX5 61 yX5_lays ∈ AW := aw_t3 (List.mem_of_getElem? (i := 122) rfl) rfl
theorem kw_517 : Cond.static yX5_lays ∈ AW := aw_t3 (List.mem_of_getElem? (i := 123) rfl) rfl
theorem kw_518 : Cond.code yX5_lays cX5_lays 5 (Option.none : Option Jvm.ClassFile.FieldType) ∈ AW := aw_t3 (List.mem_of_getElem? (i := 124) rfl) rfl
theorem kw_519 : Cond.methodLink RL 112 yX5_save ∈ AW := aw_t3 (List.mem_of_getElem? (i := 125) rfl) rfl
theorem kw_520 : Cond.instanceMethod yX5_save ∈ AW := aw_t3 (List.mem_of_getElem? (i := 126) rfl) rfl
theorem kw_521 : Cond.selects RX5 yX5_save yX5_save ∈ AW := aw_t3 (List.mem_of_getElem? (i := 127) rfl) rfl
theorem kw_522 : Cond.code yX5_save cX5_save 2 (Option.some Jvm.ClassFile.FieldType.int) ∈ AW := aw_t3 (List.mem_of_getElem? (i := 128) rfl) rfl
theorem kw_523 : Cond.methodLink RX5 51 yX5_in ∈ AW := aw_t3 (List.mem_of_getElem? (i := 129) rfl) rfl
theorem kw_524 : Cond.static yX5_in ∈ AW := aw_t3 (List.mem_of_getElem? (i := 130) rfl) rfl
theorem kw_525 : Cond.code yX5_in cX5_in 6 (Option.some Jvm.ClassFile.FieldType.boolean) ∈ AW := aw_t3 (List.mem_of_getElem? (i := 131) rfl) rfl
theorem kw_526 : Cond.methodLink RL 116 yX5_restore ∈ AW := aw_t3 (List.mem_of_getElem? (i := 132) rfl) rfl
theorem kw_527 : Cond.instanceMethod yX5_restore ∈ AW := aw_t3 (List.mem_of_getElem? (i := 133) rfl) rfl
theorem kw_528 : Cond.selects RX5 yX5_restore yX5_restore ∈ AW := aw_t3 (List.mem_of_getElem? (i := 134) rfl) rfl
theorem kw_529 : Cond.code yX5_restore cX5_restore 2 (Option.some Jvm.ClassFile.FieldType.int) ∈ AW := aw_t3 (List.mem_of_getElem? (i := 135) rfl) rfl
theorem kw_530 : Cond.methodLink RX5 65 yX5_records ∈ AW := aw_t3 (List.mem_of_getElem? (i := 136) rfl) rfl
theorem kw_531 : Cond.instanceMethod yX5_records ∈ AW := aw_t3 (List.mem_of_getElem? (i := 138) rfl) rfl
theorem kw_532 : Cond.code yX5_records cX5_records 2 (Option.none : Option Jvm.ClassFile.FieldType) ∈ AW := aw_t3 (List.mem_of_getElem? (i := 139) rfl) rfl
theorem kw_533 : Cond.methodLink RL 17 yX5_set ∈ AW := aw_t3 (List.mem_of_getElem? (i := 140) rfl) rfl
theorem kw_534 : Cond.instanceMethod yX5_set ∈ AW := aw_t3 (List.mem_of_getElem? (i := 141) rfl) rfl
theorem kw_535 : Cond.selects RX5 yX5_set yX5_set ∈ AW := aw_t3 (List.mem_of_getElem? (i := 142) rfl) rfl
theorem kw_536 : Cond.code yX5_set cX5_set 4 (Option.some Jvm.ClassFile.FieldType.int) ∈ AW := aw_t3 (List.mem_of_getElem? (i := 143) rfl) rfl
theorem kw_537 : Cond.constantLong RX5 101 (6) ∈ AW := aw_t3 (List.mem_of_getElem? (i := 144) rfl) rfl
theorem kw_538 : Cond.methodLink RX5 103 yX5_isFor ∈ AW := aw_t3 (List.mem_of_getElem? (i := 145) rfl) rfl
theorem kw_539 : Cond.static yX5_isFor ∈ AW := aw_t3 (List.mem_of_getElem? (i := 146) rfl) rfl
theorem kw_540 : Cond.code yX5_isFor cX5_isFor 2 (Option.some Jvm.ClassFile.FieldType.boolean) ∈ AW := aw_t3 (List.mem_of_getElem? (i := 147) rfl) rfl
theorem kw_541 : Cond.constantLong RX5 97 (999) ∈ AW := aw_t3 (List.mem_of_getElem? (i := 148) rfl) rfl
theorem kw_542 : Cond.constantLong RX5 55 (99) ∈ AW := aw_t3 (List.mem_of_getElem? (i := 149) rfl) rfl
theorem kw_543 : Cond.constantLong RX5 99 (9) ∈ AW := aw_t3 (List.mem_of_getElem? (i := 150) rfl) rfl
theorem kw_544 : Cond.methodLink RL 22 yX5_stream ∈ AW := aw_t3 (List.mem_of_getElem? (i := 151) rfl) rfl
theorem kw_545 : Cond.instanceMethod yX5_stream ∈ AW := aw_t3 (List.mem_of_getElem? (i := 152) rfl) rfl
theorem kw_546 : Cond.selects RX5 yX5_stream yX5_stream ∈ AW := aw_t3 (List.mem_of_getElem? (i := 153) rfl) rfl
theorem kw_547 : Cond.code yX5_stream cX5_stream 5 (Option.some Jvm.ClassFile.FieldType.int) ∈ AW := aw_t3 (List.mem_of_getElem? (i := 154) rfl) rfl
theorem kw_548 : Cond.methodLink RX5 111 yX5_mayStream ∈ AW := aw_t3 (List.mem_of_getElem? (i := 155) rfl) rfl
theorem kw_549 : Cond.instanceMethod yX5_mayStream ∈ AW := aw_t3 (List.mem_of_getElem? (i := 157) rfl) rfl
theorem kw_550 : Cond.code yX5_mayStream cX5_mayStream 4 (Option.some Jvm.ClassFile.FieldType.int) ∈ AW := aw_t3 (List.mem_of_getElem? (i := 158) rfl) rfl
theorem kw_551 : Cond.methodLink RX5 107 yX5_isDrive ∈ AW := aw_t3 (List.mem_of_getElem? (i := 159) rfl) rfl
theorem kw_552 : Cond.static yX5_isDrive ∈ AW := aw_t3 (List.mem_of_getElem? (i := 160) rfl) rfl
theorem kw_553 : Cond.code yX5_isDrive cX5_isDrive 1 (Option.some Jvm.ClassFile.FieldType.boolean) ∈ AW := aw_t3 (List.mem_of_getElem? (i := 161) rfl) rfl
theorem kw_554 : Cond.constantLong RX5 49 (3) ∈ AW := aw_t3 (List.mem_of_getElem? (i := 162) rfl) rfl
theorem kw_555 : Cond.methodLink RX5 115 yX5_streams ∈ AW := aw_t3 (List.mem_of_getElem? (i := 163) rfl) rfl
theorem kw_556 : Cond.instanceMethod yX5_streams ∈ AW := aw_t3 (List.mem_of_getElem? (i := 165) rfl) rfl
theorem kw_557 : Cond.code yX5_streams cX5_streams 5 (Option.some Jvm.ClassFile.FieldType.int) ∈ AW := aw_t3 (List.mem_of_getElem? (i := 166) rfl) rfl
theorem kw_558 : Cond.methodLink RL 26 yX5_write ∈ AW := aw_t3 (List.mem_of_getElem? (i := 167) rfl) rfl
theorem kw_559 : Cond.instanceMethod yX5_write ∈ AW := aw_t3 (List.mem_of_getElem? (i := 168) rfl) rfl
theorem kw_560 : Cond.selects RX5 yX5_write yX5_write ∈ AW := aw_t3 (List.mem_of_getElem? (i := 169) rfl) rfl
theorem kw_561 : Cond.code yX5_write cX5_write 4 (Option.some Jvm.ClassFile.FieldType.int) ∈ AW := aw_t3 (List.mem_of_getElem? (i := 170) rfl) rfl
theorem kw_562 : Cond.methodLink RX5 122 yX5_mayWrite ∈ AW := aw_t3 (List.mem_of_getElem? (i := 171) rfl) rfl
theorem kw_563 : Cond.instanceMethod yX5_mayWrite ∈ AW := aw_t3 (List.mem_of_getElem? (i := 173) rfl) rfl
theorem kw_564 : Cond.code yX5_mayWrite cX5_mayWrite 3 (Option.some Jvm.ClassFile.FieldType.int) ∈ AW := aw_t3 (List.mem_of_getElem? (i := 174) rfl) rfl
theorem kw_565 : Cond.constantLong RX5 118 (200) ∈ AW := aw_t3 (List.mem_of_getElem? (i := 175) rfl) rfl
theorem kw_566 : Cond.constantLong RX5 120 (9999) ∈ AW := aw_t3 (List.mem_of_getElem? (i := 176) rfl) rfl
theorem kw_567 : Cond.methodLink RX5 126 yX5_comes ∈ AW := aw_t3 (List.mem_of_getElem? (i := 177) rfl) rfl
theorem kw_568 : Cond.instanceMethod yX5_comes ∈ AW := aw_t3 (List.mem_of_getElem? (i := 179) rfl) rfl
theorem kw_569 : Cond.code yX5_comes cX5_comes 3 (Option.some Jvm.ClassFile.FieldType.int) ∈ AW := aw_t3 (List.mem_of_getElem? (i := 180) rfl) rfl
theorem kw_570 : Cond.methodLink RL 30 yX5_sell ∈ AW := aw_t3 (List.mem_of_getElem? (i := 181) rfl) rfl
theorem kw_571 : Cond.instanceMethod yX5_sell ∈ AW := aw_t3 (List.mem_of_getElem? (i := 182) rfl) rfl
theorem kw_572 : Cond.selects RX5 yX5_sell yX5_sell ∈ AW := aw_t3 (List.mem_of_getElem? (i := 183) rfl) rfl
theorem kw_573 : Cond.code yX5_sell cX5_sell 4 (Option.some Jvm.ClassFile.FieldType.int) ∈ AW := aw_t3 (List.mem_of_getElem? (i := 184) rfl) rfl
theorem kw_574 : Cond.methodLink RX5 135 yX5_mayTrade ∈ AW := aw_t3 (List.mem_of_getElem? (i := 185) rfl) rfl
theorem kw_575 : Cond.instanceMethod yX5_mayTrade ∈ AW := aw_t3 (List.mem_of_getElem? (i := 187) rfl) rfl
theorem kw_576 : Cond.code yX5_mayTrade cX5_mayTrade 5 (Option.some Jvm.ClassFile.FieldType.int) ∈ AW := aw_t3 (List.mem_of_getElem? (i := 188) rfl) rfl
theorem kw_577 : Cond.methodLink RX5 129 yX5_isHour ∈ AW := aw_t3 (List.mem_of_getElem? (i := 189) rfl) rfl
theorem kw_578 : Cond.static yX5_isHour ∈ AW := aw_t3 (List.mem_of_getElem? (i := 190) rfl) rfl
theorem kw_579 : Cond.code yX5_isHour cX5_isHour 1 (Option.some Jvm.ClassFile.FieldType.boolean) ∈ AW := aw_t3 (List.mem_of_getElem? (i := 191) rfl) rfl
theorem kw_580 : Cond.methodLink RX5 70 yX5_hourOf ∈ AW := aw_t3 (List.mem_of_getElem? (i := 192) rfl) rfl
theorem kw_581 : Cond.static yX5_hourOf ∈ AW := aw_t3 (List.mem_of_getElem? (i := 193) rfl) rfl
theorem kw_582 : Cond.code yX5_hourOf cX5_hourOf 4 (Option.some Jvm.ClassFile.FieldType.int) ∈ AW := aw_t3 (List.mem_of_getElem? (i := 194) rfl) rfl
theorem kw_583 : Cond.constantLong RX5 68 (100) ∈ AW := aw_t3 (List.mem_of_getElem? (i := 195) rfl) rfl
theorem kw_584 : Cond.methodLink RX5 139 yX5_trades ∈ AW := aw_t3 (List.mem_of_getElem? (i := 196) rfl) rfl
theorem kw_585 : Cond.instanceMethod yX5_trades ∈ AW := aw_t3 (List.mem_of_getElem? (i := 198) rfl) rfl
theorem kw_586 : Cond.code yX5_trades cX5_trades 4 (Option.some Jvm.ClassFile.FieldType.int) ∈ AW := aw_t3 (List.mem_of_getElem? (i := 199) rfl) rfl
theorem kw_587 : Cond.methodLink RX5 132 yX5_hoursOf ∈ AW := aw_t3 (List.mem_of_getElem? (i := 200) rfl) rfl
theorem kw_588 : Cond.instanceMethod yX5_hoursOf ∈ AW := aw_t3 (List.mem_of_getElem? (i := 202) rfl) rfl
theorem kw_589 : Cond.code yX5_hoursOf cX5_hoursOf 6 (Option.some Jvm.ClassFile.FieldType.int) ∈ AW := aw_t3 (List.mem_of_getElem? (i := 203) rfl) rfl
theorem kw_590 : Cond.methodLink RL 34 yX5_giveBack ∈ AW := aw_t3 (List.mem_of_getElem? (i := 204) rfl) rfl
theorem kw_591 : Cond.instanceMethod yX5_giveBack ∈ AW := aw_t3 (List.mem_of_getElem? (i := 205) rfl) rfl
theorem kw_592 : Cond.selects RX5 yX5_giveBack yX5_giveBack ∈ AW := aw_t3 (List.mem_of_getElem? (i := 206) rfl) rfl
theorem kw_593 : Cond.code yX5_giveBack cX5_giveBack 4 (Option.some Jvm.ClassFile.FieldType.int) ∈ AW := aw_t3 (List.mem_of_getElem? (i := 207) rfl) rfl
theorem kw_594 : Cond.methodLink RL 39 yX5_pass ∈ AW := aw_t3 (List.mem_of_getElem? (i := 208) rfl) rfl
theorem kw_595 : Cond.instanceMethod yX5_pass ∈ AW := aw_t3 (List.mem_of_getElem? (i := 209) rfl) rfl
theorem kw_596 : Cond.selects RX5 yX5_pass yX5_pass ∈ AW := aw_t3 (List.mem_of_getElem? (i := 210) rfl) rfl
theorem kw_597 : Cond.code yX5_pass cX5_pass 2 (Option.some Jvm.ClassFile.FieldType.int) ∈ AW := aw_t3 (List.mem_of_getElem? (i := 211) rfl) rfl
theorem kw_598 : Cond.methodLink RX5 148 yX5_areMinutes ∈ AW := aw_t3 (List.mem_of_getElem? (i := 212) rfl) rfl
theorem kw_599 : Cond.static yX5_areMinutes ∈ AW := aw_t3 (List.mem_of_getElem? (i := 213) rfl) rfl
theorem kw_600 : Cond.code yX5_areMinutes cX5_areMinutes 1 (Option.some Jvm.ClassFile.FieldType.boolean) ∈ AW := aw_t3 (List.mem_of_getElem? (i := 214) rfl) rfl
theorem kw_601 : Cond.constantLong RX5 142 (600) ∈ AW := aw_t3 (List.mem_of_getElem? (i := 215) rfl) rfl
theorem kw_602 : Cond.methodLink RX5 151 yX5_passes ∈ AW := aw_t3 (List.mem_of_getElem? (i := 216) rfl) rfl
theorem kw_603 : Cond.instanceMethod yX5_passes ∈ AW := aw_t3 (List.mem_of_getElem? (i := 218) rfl) rfl
theorem kw_604 : Cond.code yX5_passes cX5_passes 3 (Option.none : Option Jvm.ClassFile.FieldType) ∈ AW := aw_t3 (List.mem_of_getElem? (i := 219) rfl) rfl
theorem kw_605 : Cond.methodLink RX5 144 yX5_passesOne ∈ AW := aw_t3 (List.mem_of_getElem? (i := 220) rfl) rfl
theorem kw_606 : Cond.static yX5_passesOne ∈ AW := aw_t3 (List.mem_of_getElem? (i := 221) rfl) rfl
theorem kw_607 : Cond.code yX5_passesOne cX5_passesOne 4 (Option.none : Option Jvm.ClassFile.FieldType) ∈ AW := aw_t3 (List.mem_of_getElem? (i := 222) rfl) rfl
theorem kw_608 : Cond.methodLink RX5 86 yX5_turns ∈ AW := aw_t3 (List.mem_of_getElem? (i := 223) rfl) rfl
theorem kw_609 : Cond.static yX5_turns ∈ AW := aw_t3 (List.mem_of_getElem? (i := 224) rfl) rfl
theorem kw_610 : Cond.code yX5_turns cX5_turns 4 (Option.none : Option Jvm.ClassFile.FieldType) ∈ AW := aw_t3 (List.mem_of_getElem? (i := 225) rfl) rfl
theorem kw_611 : Cond.methodLink RX5 82 yX5_isQuiet ∈ AW := aw_t3 (List.mem_of_getElem? (i := 226) rfl) rfl
theorem kw_612 : Cond.static yX5_isQuiet ∈ AW := aw_t3 (List.mem_of_getElem? (i := 227) rfl) rfl
theorem kw_613 : Cond.code yX5_isQuiet cX5_isQuiet 2 (Option.some Jvm.ClassFile.FieldType.boolean) ∈ AW := aw_t3 (List.mem_of_getElem? (i := 228) rfl) rfl
theorem kw_614 : Cond.methodLink RX5 90 yX5_writes ∈ AW := aw_t3 (List.mem_of_getElem? (i := 229) rfl) rfl
theorem kw_615 : Cond.static yX5_writes ∈ AW := aw_t3 (List.mem_of_getElem? (i := 230) rfl) rfl
theorem kw_616 : Cond.code yX5_writes cX5_writes 11 (Option.none : Option Jvm.ClassFile.FieldType) ∈ AW := aw_t3 (List.mem_of_getElem? (i := 231) rfl) rfl
theorem kw_617 : Cond.methodLink RX5 74 yX5_least ∈ AW := aw_t3 (List.mem_of_getElem? (i := 232) rfl) rfl
theorem kw_618 : Cond.static yX5_least ∈ AW := aw_t3 (List.mem_of_getElem? (i := 233) rfl) rfl
theorem kw_619 : Cond.code yX5_least cX5_least 4 (Option.some Jvm.ClassFile.FieldType.long) ∈ AW := aw_t3 (List.mem_of_getElem? (i := 234) rfl) rfl
theorem kw_620 : Cond.methodLink RX5 78 yX5_moves ∈ AW := aw_t3 (List.mem_of_getElem? (i := 235) rfl) rfl
theorem kw_621 : Cond.static yX5_moves ∈ AW := aw_t3 (List.mem_of_getElem? (i := 236) rfl) rfl
theorem kw_622 : Cond.code yX5_moves cX5_moves 5 (Option.none : Option Jvm.ClassFile.FieldType) ∈ AW := aw_t3 (List.mem_of_getElem? (i := 237) rfl) rfl
theorem kw_623 : Cond.methodLink RX5 94 yX5_cleans ∈ AW := aw_t3 (List.mem_of_getElem? (i := 238) rfl) rfl
theorem kw_624 : Cond.static yX5_cleans ∈ AW := aw_t3 (List.mem_of_getElem? (i := 239) rfl) rfl
theorem kw_625 : Cond.code yX5_cleans cX5_cleans 7 (Option.none : Option Jvm.ClassFile.FieldType) ∈ AW := aw_t4 (List.mem_of_getElem? (i := 0) rfl) rfl
theorem kw_626 : Cond.methodLink RL 43 yX5_ofDrive ∈ AW := aw_t4 (List.mem_of_getElem? (i := 1) rfl) rfl
theorem kw_627 : Cond.instanceMethod yX5_ofDrive ∈ AW := aw_t4 (List.mem_of_getElem? (i := 2) rfl) rfl
theorem kw_628 : Cond.selects RX5 yX5_ofDrive yX5_ofDrive ∈ AW := aw_t4 (List.mem_of_getElem? (i := 3) rfl) rfl
theorem kw_629 : Cond.code yX5_ofDrive cX5_ofDrive 4 (Option.some Jvm.ClassFile.FieldType.int) ∈ AW := aw_t4 (List.mem_of_getElem? (i := 4) rfl) rfl
theorem kw_630 : Cond.constantLong RX5 155 (13) ∈ AW := aw_t4 (List.mem_of_getElem? (i := 5) rfl) rfl
theorem kw_631 : Cond.methodLink RL 47 yX5_hour ∈ AW := aw_t4 (List.mem_of_getElem? (i := 6) rfl) rfl
theorem kw_632 : Cond.instanceMethod yX5_hour ∈ AW := aw_t4 (List.mem_of_getElem? (i := 7) rfl) rfl
theorem kw_633 : Cond.selects RX5 yX5_hour yX5_hour ∈ AW := aw_t4 (List.mem_of_getElem? (i := 8) rfl) rfl
theorem kw_634 : Cond.code yX5_hour cX5_hour 3 (Option.some Jvm.ClassFile.FieldType.int) ∈ AW := aw_t4 (List.mem_of_getElem? (i := 9) rfl) rfl
theorem kw_635 : Cond.methodLink RL 51 yX5_streak ∈ AW := aw_t4 (List.mem_of_getElem? (i := 10) rfl) rfl
theorem kw_636 : Cond.instanceMethod yX5_streak ∈ AW := aw_t4 (List.mem_of_getElem? (i := 11) rfl) rfl
theorem kw_637 : Cond.selects RX5 yX5_streak yX5_streak ∈ AW := aw_t4 (List.mem_of_getElem? (i := 12) rfl) rfl
theorem kw_638 : Cond.code yX5_streak cX5_streak 5 (Option.some Jvm.ClassFile.FieldType.int) ∈ AW := aw_t4 (List.mem_of_getElem? (i := 13) rfl) rfl
theorem kw_639 : Cond.methodLink RL 55 yX5_share ∈ AW := aw_t4 (List.mem_of_getElem? (i := 14) rfl) rfl
theorem kw_640 : Cond.instanceMethod yX5_share ∈ AW := aw_t4 (List.mem_of_getElem? (i := 15) rfl) rfl
theorem kw_641 : Cond.selects RX5 yX5_share yX5_share ∈ AW := aw_t4 (List.mem_of_getElem? (i := 16) rfl) rfl
theorem kw_642 : Cond.code yX5_share cX5_share 4 (Option.some Jvm.ClassFile.FieldType.int) ∈ AW := aw_t4 (List.mem_of_getElem? (i := 17) rfl) rfl
theorem kw_643 : Cond.methodLink RX5 157 yJxf58ca_floatToIntBits_5c35a ∈ AW := aw_t4 (List.mem_of_getElem? (i := 18) rfl) rfl
theorem kw_644 : Cond.static yJxf58ca_floatToIntBits_5c35a ∈ AW := aw_t4 (List.mem_of_getElem? (i := 19) rfl) rfl
theorem kw_645 : Cond.code yJxf58ca_floatToIntBits_5c35a cJxf58ca_floatToIntBits_5c35a 1 (Option.some Jvm.ClassFile.FieldType.int) ∈ AW := aw_t4 (List.mem_of_getElem? (i := 20) rfl) rfl
theorem kw_646 : Cond.methodLink RJxf58ca 59 yJxf58ca_isNaN_12338 ∈ AW := aw_t4 (List.mem_of_getElem? (i := 21) rfl) rfl
theorem kw_647 : Cond.static yJxf58ca_isNaN_12338 ∈ AW := aw_t4 (List.mem_of_getElem? (i := 22) rfl) rfl
theorem kw_648 : Cond.code yJxf58ca_isNaN_12338 cJxf58ca_isNaN_12338 1 (Option.some Jvm.ClassFile.FieldType.boolean) ∈ AW := aw_t4 (List.mem_of_getElem? (i := 23) rfl) rfl
theorem kw_649 : Cond.methodLink RJxf58ca 74 ⟨"java/lang/Float", "floatToRawIntBits", "(F)I"⟩ ∈ AW := aw_t4 (List.mem_of_getElem? (i := 24) rfl) rfl
theorem kw_650 : Cond.static ⟨"java/lang/Float", "floatToRawIntBits", "(F)I"⟩ ∈ AW := aw_t4 (List.mem_of_getElem? (i := 25) rfl) rfl
theorem kw_651 : Cond.native ⟨"java/lang/Float", "floatToRawIntBits", "(F)I"⟩ ∈ AW := aw_t4 (List.mem_of_getElem? (i := 26) rfl) rfl
theorem kw_652 : Cond.constant RJxf58ca 77 (2143289344) ∈ AW := aw_t4 (List.mem_of_getElem? (i := 27) rfl) rfl
theorem kw_653 : Cond.methodLink RL 60 yX5_mean ∈ AW := aw_t4 (List.mem_of_getElem? (i := 28) rfl) rfl
theorem kw_654 : Cond.instanceMethod yX5_mean ∈ AW := aw_t4 (List.mem_of_getElem? (i := 29) rfl) rfl
theorem kw_655 : Cond.selects RX5 yX5_mean yX5_mean ∈ AW := aw_t4 (List.mem_of_getElem? (i := 30) rfl) rfl
theorem kw_656 : Cond.code yX5_mean cX5_mean 2 (Option.some Jvm.ClassFile.FieldType.long) ∈ AW := aw_t4 (List.mem_of_getElem? (i := 31) rfl) rfl
theorem kw_657 : Cond.constantLong RX5 163 (-1) ∈ AW := aw_t4 (List.mem_of_getElem? (i := 32) rfl) rfl
theorem kw_658 : Cond.methodLink RX5 165 yJxe99ae_doubleToLongBits_ccdee ∈ AW := aw_t4 (List.mem_of_getElem? (i := 33) rfl) rfl
theorem kw_659 : Cond.static yJxe99ae_doubleToLongBits_ccdee ∈ AW := aw_t4 (List.mem_of_getElem? (i := 34) rfl) rfl
theorem kw_660 : Cond.code yJxe99ae_doubleToLongBits_ccdee cJxe99ae_doubleToLongBits_ccdee 2 (Option.some Jvm.ClassFile.FieldType.long) ∈ AW := aw_t4 (List.mem_of_getElem? (i := 35) rfl) rfl
theorem kw_661 : Cond.methodLink RJxe99ae 122 yJxe99ae_isNaN_b9ae7 ∈ AW := aw_t4 (List.mem_of_getElem? (i := 36) rfl) rfl
theorem kw_662 : Cond.static yJxe99ae_isNaN_b9ae7 ∈ AW := aw_t4 (List.mem_of_getElem? (i := 37) rfl) rfl
theorem kw_663 : Cond.code yJxe99ae_isNaN_b9ae7 cJxe99ae_isNaN_b9ae7 2 (Option.some Jvm.ClassFile.FieldType.boolean) ∈ AW := aw_t4 (List.mem_of_getElem? (i := 38) rfl) rfl
theorem kw_664 : Cond.methodLink RJxe99ae 134 ⟨"java/lang/Double", "doubleToRawLongBits", "(D)J"⟩ ∈ AW := aw_t4 (List.mem_of_getElem? (i := 39) rfl) rfl
theorem kw_665 : Cond.static ⟨"java/lang/Double", "doubleToRawLongBits", "(D)J"⟩ ∈ AW := aw_t4 (List.mem_of_getElem? (i := 40) rfl) rfl
theorem kw_666 : Cond.native ⟨"java/lang/Double", "doubleToRawLongBits", "(D)J"⟩ ∈ AW := aw_t4 (List.mem_of_getElem? (i := 41) rfl) rfl
theorem kw_667 : Cond.constantLong RJxe99ae 137 (9221120237041090560) ∈ AW := aw_t4 (List.mem_of_getElem? (i := 42) rfl) rfl
theorem kw_668 : Cond.methodLink RL 64 yX5_count ∈ AW := aw_t4 (List.mem_of_getElem? (i := 43) rfl) rfl
theorem kw_669 : Cond.instanceMethod yX5_count ∈ AW := aw_t4 (List.mem_of_getElem? (i := 44) rfl) rfl
theorem kw_670 : Cond.selects RX5 yX5_count yX5_count ∈ AW := aw_t4 (List.mem_of_getElem? (i := 45) rfl) rfl
theorem kw_671 : Cond.code yX5_count cX5_count 2 (Option.some Jvm.ClassFile.FieldType.int) ∈ AW := aw_t4 (List.mem_of_getElem? (i := 46) rfl) rfl
theorem kw_672 : Cond.constantLong RX5 171 (14) ∈ AW := aw_t4 (List.mem_of_getElem? (i := 47) rfl) rfl
theorem kw_673 : Cond.methodLink RL 68 yX5_loudIn ∈ AW := aw_t4 (List.mem_of_getElem? (i := 48) rfl) rfl
theorem kw_674 : Cond.instanceMethod yX5_loudIn ∈ AW := aw_t4 (List.mem_of_getElem? (i := 49) rfl) rfl
theorem kw_675 : Cond.selects RX5 yX5_loudIn yX5_loudIn ∈ AW := aw_t4 (List.mem_of_getElem? (i := 50) rfl) rfl
theorem kw_676 : Cond.code yX5_loudIn cX5_loudIn 4 (Option.some Jvm.ClassFile.FieldType.int) ∈ AW := aw_t4 (List.mem_of_getElem? (i := 51) rfl) rfl
theorem kw_677 : Cond.methodLink RX5 176 yX5_mayAsk ∈ AW := aw_t4 (List.mem_of_getElem? (i := 52) rfl) rfl
theorem kw_678 : Cond.static yX5_mayAsk ∈ AW := aw_t4 (List.mem_of_getElem? (i := 53) rfl) rfl
theorem kw_679 : Cond.code yX5_mayAsk cX5_mayAsk 2 (Option.some Jvm.ClassFile.FieldType.int) ∈ AW := aw_t4 (List.mem_of_getElem? (i := 54) rfl) rfl
theorem kw_680 : Cond.methodLink RX5 179 yX5_tries ∈ AW := aw_t4 (List.mem_of_getElem? (i := 55) rfl) rfl
theorem kw_681 : Cond.instanceMethod yX5_tries ∈ AW := aw_t4 (List.mem_of_getElem? (i := 57) rfl) rfl
theorem kw_682 : Cond.code yX5_tries cX5_tries 1 (Option.none : Option Jvm.ClassFile.FieldType) ∈ AW := aw_t4 (List.mem_of_getElem? (i := 58) rfl) rfl
theorem kw_683 : Cond.methodLink RX5 182 yX5_passesThen ∈ AW := aw_t4 (List.mem_of_getElem? (i := 59) rfl) rfl
theorem kw_684 : Cond.instanceMethod yX5_passesThen ∈ AW := aw_t4 (List.mem_of_getElem? (i := 61) rfl) rfl
theorem kw_685 : Cond.code yX5_passesThen cX5_passesThen 6 (Option.some Jvm.ClassFile.FieldType.long) ∈ AW := aw_t4 (List.mem_of_getElem? (i := 62) rfl) rfl
theorem kw_686 : Cond.methodLink RL 72 yX5_freeIn ∈ AW := aw_t4 (List.mem_of_getElem? (i := 63) rfl) rfl
theorem kw_687 : Cond.instanceMethod yX5_freeIn ∈ AW := aw_t4 (List.mem_of_getElem? (i := 64) rfl) rfl
theorem kw_688 : Cond.selects RX5 yX5_freeIn yX5_freeIn ∈ AW := aw_t4 (List.mem_of_getElem? (i := 65) rfl) rfl
theorem kw_689 : Cond.code yX5_freeIn cX5_freeIn 4 (Option.some Jvm.ClassFile.FieldType.int) ∈ AW := aw_t4 (List.mem_of_getElem? (i := 66) rfl) rfl
theorem kw_690 : Cond.methodLink RL 76 yX5_mostHeld ∈ AW := aw_t4 (List.mem_of_getElem? (i := 67) rfl) rfl
theorem kw_691 : Cond.instanceMethod yX5_mostHeld ∈ AW := aw_t4 (List.mem_of_getElem? (i := 68) rfl) rfl
theorem kw_692 : Cond.selects RX5 yX5_mostHeld yX5_mostHeld ∈ AW := aw_t4 (List.mem_of_getElem? (i := 69) rfl) rfl
theorem kw_693 : Cond.code yX5_mostHeld cX5_mostHeld 4 (Option.some Jvm.ClassFile.FieldType.int) ∈ AW := aw_t4 (List.mem_of_getElem? (i := 70) rfl) rfl
theorem kw_694 : Cond.methodLink RL 80 yX5_firstSafe ∈ AW := aw_t4 (List.mem_of_getElem? (i := 71) rfl) rfl
theorem kw_695 : Cond.instanceMethod yX5_firstSafe ∈ AW := aw_t4 (List.mem_of_getElem? (i := 72) rfl) rfl
theorem kw_696 : Cond.selects RX5 yX5_firstSafe yX5_firstSafe ∈ AW := aw_t4 (List.mem_of_getElem? (i := 73) rfl) rfl
theorem kw_697 : Cond.code yX5_firstSafe cX5_firstSafe 6 (Option.some Jvm.ClassFile.FieldType.int) ∈ AW := aw_t4 (List.mem_of_getElem? (i := 74) rfl) rfl
theorem kw_698 : Cond.constantLong RX5 190 (24) ∈ AW := aw_t4 (List.mem_of_getElem? (i := 75) rfl) rfl
theorem kw_699 : Cond.methodLink RX5 192 yX5_isSafe ∈ AW := aw_t4 (List.mem_of_getElem? (i := 76) rfl) rfl
theorem kw_700 : Cond.instanceMethod yX5_isSafe ∈ AW := aw_t4 (List.mem_of_getElem? (i := 78) rfl) rfl
theorem kw_701 : Cond.code yX5_isSafe cX5_isSafe 5 (Option.some Jvm.ClassFile.FieldType.boolean) ∈ AW := aw_t4 (List.mem_of_getElem? (i := 79) rfl) rfl
theorem kw_702 : Cond.methodLink RX5 186 yX5_overruns ∈ AW := aw_t4 (List.mem_of_getElem? (i := 80) rfl) rfl
theorem kw_703 : Cond.static yX5_overruns ∈ AW := aw_t4 (List.mem_of_getElem? (i := 81) rfl) rfl
theorem kw_704 : Cond.code yX5_overruns cX5_overruns 4 (Option.some Jvm.ClassFile.FieldType.long) ∈ AW := aw_t4 (List.mem_of_getElem? (i := 82) rfl) rfl
theorem kw_705 : Cond.methodLink RL 84 yX5_leastRoom ∈ AW := aw_t4 (List.mem_of_getElem? (i := 83) rfl) rfl
theorem kw_706 : Cond.instanceMethod yX5_leastRoom ∈ AW := aw_t4 (List.mem_of_getElem? (i := 84) rfl) rfl
theorem kw_707 : Cond.selects RX5 yX5_leastRoom yX5_leastRoom ∈ AW := aw_t4 (List.mem_of_getElem? (i := 85) rfl) rfl
theorem kw_708 : Cond.code yX5_leastRoom cX5_leastRoom 3 (Option.some Jvm.ClassFile.FieldType.int) ∈ AW := aw_t4 (List.mem_of_getElem? (i := 86) rfl) rfl
theorem kw_709 : Cond.constantLong RX5 195 (10) ∈ AW := aw_t4 (List.mem_of_getElem? (i := 87) rfl) rfl
theorem kw_710 : Cond.methodLink RL 91 yX5_put ∈ AW := aw_t4 (List.mem_of_getElem? (i := 88) rfl) rfl
theorem kw_711 : Cond.instanceMethod yX5_put ∈ AW := aw_t4 (List.mem_of_getElem? (i := 89) rfl) rfl
theorem kw_712 : Cond.selects RX5 yX5_put yX5_put ∈ AW := aw_t4 (List.mem_of_getElem? (i := 90) rfl) rfl
theorem kw_713 : Cond.code yX5_put cX5_put 5 (Option.some Jvm.ClassFile.FieldType.int) ∈ AW := aw_t4 (List.mem_of_getElem? (i := 91) rfl) rfl
theorem kw_714 : Cond.methodLink RX5 207 yX5_toldBy ∈ AW := aw_t4 (List.mem_of_getElem? (i := 92) rfl) rfl
theorem kw_715 : Cond.static yX5_toldBy ∈ AW := aw_t4 (List.mem_of_getElem? (i := 93) rfl) rfl
theorem kw_716 : Cond.code yX5_toldBy cX5_toldBy 4 (Option.some Jvm.ClassFile.FieldType.int) ∈ AW := aw_t4 (List.mem_of_getElem? (i := 94) rfl) rfl
theorem kw_717 : Cond.methodLink RX5 199 yX5_byteOf ∈ AW := aw_t4 (List.mem_of_getElem? (i := 95) rfl) rfl
theorem kw_718 : Cond.static yX5_byteOf ∈ AW := aw_t4 (List.mem_of_getElem? (i := 96) rfl) rfl
theorem kw_719 : Cond.code yX5_byteOf cX5_byteOf 3 (Option.some Jvm.ClassFile.FieldType.int) ∈ AW := aw_t4 (List.mem_of_getElem? (i := 97) rfl) rfl
theorem kw_720 : Cond.constantLong RX5 197 (255) ∈ AW := aw_t4 (List.mem_of_getElem? (i := 98) rfl) rfl
theorem kw_721 : Cond.constantLong RX5 203 (33) ∈ AW := aw_t4 (List.mem_of_getElem? (i := 99) rfl) rfl
theorem kw_722 : Cond.constantLong RX5 205 (126) ∈ AW := aw_t4 (List.mem_of_getElem? (i := 100) rfl) rfl
theorem kw_723 : Cond.methodLink RL 96 yX5_wipe ∈ AW := aw_t4 (List.mem_of_getElem? (i := 101) rfl) rfl
theorem kw_724 : Cond.instanceMethod yX5_wipe ∈ AW := aw_t4 (List.mem_of_getElem? (i := 102) rfl) rfl
theorem kw_725 : Cond.selects RX5 yX5_wipe yX5_wipe ∈ AW := aw_t4 (List.mem_of_getElem? (i := 103) rfl) rfl
theorem kw_726 : Cond.code yX5_wipe cX5_wipe 2 (Option.some Jvm.ClassFile.FieldType.int) ∈ AW := aw_t4 (List.mem_of_getElem? (i := 104) rfl) rfl
theorem kw_727 : Cond.methodLink RL 100 yX5_fault ∈ AW := aw_t4 (List.mem_of_getElem? (i := 105) rfl) rfl
theorem kw_728 : Cond.instanceMethod yX5_fault ∈ AW := aw_t4 (List.mem_of_getElem? (i := 106) rfl) rfl
theorem kw_729 : Cond.selects RX5 yX5_fault yX5_fault ∈ AW := aw_t4 (List.mem_of_getElem? (i := 107) rfl) rfl
theorem kw_730 : Cond.code yX5_fault cX5_fault 1 (Option.some Jvm.ClassFile.FieldType.int) ∈ AW := aw_t4 (List.mem_of_getElem? (i := 108) rfl) rfl
theorem kw_731 : Cond.methodLink RX5 230 yX5_isText ∈ AW := aw_t4 (List.mem_of_getElem? (i := 109) rfl) rfl
theorem kw_732 : Cond.instanceMethod yX5_isText ∈ AW := aw_t4 (List.mem_of_getElem? (i := 111) rfl) rfl
theorem kw_733 : Cond.code yX5_isText cX5_isText 2 (Option.some Jvm.ClassFile.FieldType.boolean) ∈ AW := aw_t4 (List.mem_of_getElem? (i := 112) rfl) rfl
theorem kw_734 : Cond.methodLink RX5 226 yX5_isOrder ∈ AW := aw_t4 (List.mem_of_getElem? (i := 113) rfl) rfl
theorem kw_735 : Cond.instanceMethod yX5_isOrder ∈ AW := aw_t4 (List.mem_of_getElem? (i := 115) rfl) rfl
theorem kw_736 : Cond.code yX5_isOrder cX5_isOrder 2 (Option.some Jvm.ClassFile.FieldType.boolean) ∈ AW := aw_t4 (List.mem_of_getElem? (i := 116) rfl) rfl
theorem kw_737 : Cond.methodLink RX5 214 yX5_isAt ∈ AW := aw_t4 (List.mem_of_getElem? (i := 117) rfl) rfl
theorem kw_738 : Cond.instanceMethod yX5_isAt ∈ AW := aw_t4 (List.mem_of_getElem? (i := 119) rfl) rfl
theorem kw_739 : Cond.code yX5_isAt cX5_isAt 3 (Option.some Jvm.ClassFile.FieldType.boolean) ∈ AW := aw_t4 (List.mem_of_getElem? (i := 120) rfl) rfl
theorem kw_740 : Cond.methodLink RX5 220 yX5_isNumber ∈ AW := aw_t4 (List.mem_of_getElem? (i := 121) rfl) rfl
theorem kw_741 : Cond.instanceMethod yX5_isNumber ∈ AW := aw_t4 (List.mem_of_getElem? (i := 123) rfl) rfl
theorem kw_742 : Cond.code yX5_isNumber cX5_isNumber 3 (Option.some Jvm.ClassFile.FieldType.boolean) ∈ AW := aw_t4 (List.mem_of_getElem? (i := 124) rfl) rfl
theorem kw_743 : Cond.methodLink RX5 223 yX5_isSign ∈ AW := aw_t4 (List.mem_of_getElem? (i := 125) rfl) rfl
theorem kw_744 : Cond.instanceMethod yX5_isSign ∈ AW := aw_t4 (List.mem_of_getElem? (i := 127) rfl) rfl
theorem kw_745 : Cond.code yX5_isSign cX5_isSign 3 (Option.some Jvm.ClassFile.FieldType.boolean) ∈ AW := aw_t4 (List.mem_of_getElem? (i := 128) rfl) rfl
theorem kw_746 : Cond.methodLink RL 104 yX5_carryOut ∈ AW := aw_t4 (List.mem_of_getElem? (i := 129) rfl) rfl
theorem kw_747 : Cond.instanceMethod yX5_carryOut ∈ AW := aw_t4 (List.mem_of_getElem? (i := 130) rfl) rfl
theorem kw_748 : Cond.selects RX5 yX5_carryOut yX5_carryOut ∈ AW := aw_t4 (List.mem_of_getElem? (i := 131) rfl) rfl
theorem kw_749 : Cond.code yX5_carryOut cX5_carryOut 2 (Option.some Jvm.ClassFile.FieldType.int) ∈ AW := aw_t4 (List.mem_of_getElem? (i := 132) rfl) rfl
theorem kw_750 : Cond.methodLink RX5 233 yX5_does ∈ AW := aw_t4 (List.mem_of_getElem? (i := 133) rfl) rfl
theorem kw_751 : Cond.instanceMethod yX5_does ∈ AW := aw_t4 (List.mem_of_getElem? (i := 135) rfl) rfl
theorem kw_752 : Cond.code yX5_does cX5_does 7 (Option.some Jvm.ClassFile.FieldType.boolean) ∈ AW := aw_t4 (List.mem_of_getElem? (i := 136) rfl) rfl
theorem kw_753 : Cond.constantLong RL 85 (4294967295) ∈ AW := aw_t4 (List.mem_of_getElem? (i := 137) rfl) rfl
theorem kw_754 : Cond.selects RX4 yX4_recorded yX4_recorded ∈ AW := aw_0 (List.mem_of_getElem? (i := 0) rfl) rfl
theorem kw_755 : Cond.selects RX3 yX3_changeHour yX3_changeHour ∈ AW := aw_0 (List.mem_of_getElem? (i := 1) rfl) rfl
theorem kw_756 : Cond.selects RX3 yX3_passMinuteOf yX3_passMinuteOf ∈ AW := aw_0 (List.mem_of_getElem? (i := 2) rfl) rfl
theorem kw_757 : Cond.selects RX3 yX3_settleHours yX3_settleHours ∈ AW := aw_0 (List.mem_of_getElem? (i := 3) rfl) rfl
theorem kw_758 : Cond.selects RX0 yX0_fillCells yX0_fillCells ∈ AW := aw_0 (List.mem_of_getElem? (i := 4) rfl) rfl
theorem kw_759 : Cond.selects RX3 yX3_cleanUp yX3_cleanUp ∈ AW := aw_0 (List.mem_of_getElem? (i := 5) rfl) rfl
theorem kw_760 : Cond.selects RX3 yX3_chargeOverrun yX3_chargeOverrun ∈ AW := aw_0 (List.mem_of_getElem? (i := 6) rfl) rfl
theorem kw_761 : Cond.selects RX4 yX4_errorOfQuestion yX4_errorOfQuestion ∈ AW := aw_0 (List.mem_of_getElem? (i := 7) rfl) rfl
theorem kw_762 : Cond.selects RX4 yX4_tryMinutes yX4_tryMinutes ∈ AW := aw_0 (List.mem_of_getElem? (i := 8) rfl) rfl
theorem kw_763 : Cond.selects RX2 yX2_readSign yX2_readSign ∈ AW := aw_0 (List.mem_of_getElem? (i := 9) rfl) rfl
theorem kw_764 : Cond.selects RX2 yX2_signHere yX2_signHere ∈ AW := aw_0 (List.mem_of_getElem? (i := 10) rfl) rfl
theorem kw_765 : Cond.selects RX2 yX2_readOrder yX2_readOrder ∈ AW := aw_0 (List.mem_of_getElem? (i := 11) rfl) rfl
theorem kw_766 : Cond.selects RX2 yX2_readKindAndDrive yX2_readKindAndDrive ∈ AW := aw_0 (List.mem_of_getElem? (i := 12) rfl) rfl
theorem kw_767 : Cond.selects RX2 yX2_readFirst yX2_readFirst ∈ AW := aw_0 (List.mem_of_getElem? (i := 13) rfl) rfl
theorem kw_768 : Cond.selects RX2 yX2_readNumber yX2_readNumber ∈ AW := aw_0 (List.mem_of_getElem? (i := 14) rfl) rfl
theorem kw_769 : Cond.selects RX2 yX2_readSecond yX2_readSecond ∈ AW := aw_0 (List.mem_of_getElem? (i := 15) rfl) rfl
theorem kw_770 : Cond.selects RX4 yX4_carryOutOrder yX4_carryOutOrder ∈ AW := aw_0 (List.mem_of_getElem? (i := 16) rfl) rfl
theorem kw_771 : Cond.selects RX5 yX5_records yX5_records ∈ AW := aw_0 (List.mem_of_getElem? (i := 17) rfl) rfl
theorem kw_772 : Cond.selects RX5 yX5_mayStream yX5_mayStream ∈ AW := aw_0 (List.mem_of_getElem? (i := 18) rfl) rfl
theorem kw_773 : Cond.selects RX5 yX5_streams yX5_streams ∈ AW := aw_0 (List.mem_of_getElem? (i := 19) rfl) rfl
theorem kw_774 : Cond.selects RX5 yX5_mayWrite yX5_mayWrite ∈ AW := aw_0 (List.mem_of_getElem? (i := 20) rfl) rfl
theorem kw_775 : Cond.selects RX5 yX5_comes yX5_comes ∈ AW := aw_0 (List.mem_of_getElem? (i := 21) rfl) rfl
theorem kw_776 : Cond.selects RX5 yX5_mayTrade yX5_mayTrade ∈ AW := aw_0 (List.mem_of_getElem? (i := 22) rfl) rfl
theorem kw_777 : Cond.selects RX5 yX5_trades yX5_trades ∈ AW := aw_0 (List.mem_of_getElem? (i := 23) rfl) rfl
theorem kw_778 : Cond.selects RX5 yX5_hoursOf yX5_hoursOf ∈ AW := aw_0 (List.mem_of_getElem? (i := 24) rfl) rfl
theorem kw_779 : Cond.selects RX5 yX5_passes yX5_passes ∈ AW := aw_0 (List.mem_of_getElem? (i := 25) rfl) rfl
theorem kw_780 : Cond.selects RX5 yX5_tries yX5_tries ∈ AW := aw_0 (List.mem_of_getElem? (i := 26) rfl) rfl
theorem kw_781 : Cond.selects RX5 yX5_passesThen yX5_passesThen ∈ AW := aw_0 (List.mem_of_getElem? (i := 27) rfl) rfl
theorem kw_782 : Cond.selects RX5 yX5_isSafe yX5_isSafe ∈ AW := aw_0 (List.mem_of_getElem? (i := 28) rfl) rfl
theorem kw_783 : Cond.selects RX5 yX5_isText yX5_isText ∈ AW := aw_0 (List.mem_of_getElem? (i := 29) rfl) rfl
theorem kw_784 : Cond.selects RX5 yX5_isOrder yX5_isOrder ∈ AW := aw_0 (List.mem_of_getElem? (i := 30) rfl) rfl
theorem kw_785 : Cond.selects RX5 yX5_isAt yX5_isAt ∈ AW := aw_0 (List.mem_of_getElem? (i := 31) rfl) rfl
theorem kw_786 : Cond.selects RX5 yX5_isNumber yX5_isNumber ∈ AW := aw_0 (List.mem_of_getElem? (i := 32) rfl) rfl
theorem kw_787 : Cond.selects RX5 yX5_isSign yX5_isSign ∈ AW := aw_0 (List.mem_of_getElem? (i := 33) rfl) rfl
theorem kw_788 : Cond.selects RX5 yX5_does yX5_does ∈ AW := aw_0 (List.mem_of_getElem? (i := 34) rfl) rfl
theorem kin0 : ∀ w ∈ u_ws RX0 TX0 12, w ∈ AW := by
  intro w hw
  have hw : w ∈ ([u_lay RX0 TX0 0, u_lay RX0 TX0 1, u_lay RX0 TX0 2, u_lay RX0 TX0 3, u_lay RX0 TX0 4, u_lay RX0 TX0 5, u_lay RX0 TX0 6, u_lay RX0 TX0 7, u_lay RX0 TX0 8, u_lay RX0 TX0 9, u_lay RX0 TX0 10, u_lay RX0 TX0 11] : List Cond) := hw
  simp only [List.mem_cons, List.not_mem_nil, or_false] at hw
  rcases hw with rfl | rfl | rfl | rfl | rfl | rfl | rfl | rfl | rfl | rfl | rfl | rfl
  · exact kw_64
  · exact kw_65
  · exact kw_66
  · exact kw_67
  · exact kw_68
  · exact kw_69
  · exact kw_70
  · exact kw_71
  · exact kw_72
  · exact kw_73
  · exact kw_74
  · exact kw_75
theorem kin1 : ∀ w ∈ u_ws RX1 TX1 3, w ∈ AW := by
  intro w hw
  have hw : w ∈ ([u_lay RX1 TX1 0, u_lay RX1 TX1 1, u_lay RX1 TX1 2] : List Cond) := hw
  simp only [List.mem_cons, List.not_mem_nil, or_false] at hw
  rcases hw with rfl | rfl | rfl
  · exact kw_111
  · exact kw_112
  · exact kw_113
theorem kin2 : ∀ w ∈ u_ws RX2 TX2 7, w ∈ AW := by
  intro w hw
  have hw : w ∈ ([u_lay RX2 TX2 0, u_lay RX2 TX2 1, u_lay RX2 TX2 2, u_lay RX2 TX2 3, u_lay RX2 TX2 4, u_lay RX2 TX2 5, u_lay RX2 TX2 6] : List Cond) := hw
  simp only [List.mem_cons, List.not_mem_nil, or_false] at hw
  rcases hw with rfl | rfl | rfl | rfl | rfl | rfl | rfl
  · exact kw_131
  · exact kw_132
  · exact kw_133
  · exact kw_134
  · exact kw_135
  · exact kw_136
  · exact kw_137
theorem kin3 : ∀ w ∈ u_ws RX3 TX3 7, w ∈ AW := by
  intro w hw
  have hw : w ∈ ([u_lay RX3 TX3 0, u_lay RX3 TX3 1, u_lay RX3 TX3 2, u_lay RX3 TX3 3, u_lay RX3 TX3 4, u_lay RX3 TX3 5, u_lay RX3 TX3 6] : List Cond) := hw
  simp only [List.mem_cons, List.not_mem_nil, or_false] at hw
  rcases hw with rfl | rfl | rfl | rfl | rfl | rfl | rfl
  · exact kw_92
  · exact kw_93
  · exact kw_94
  · exact kw_95
  · exact kw_96
  · exact kw_97
  · exact kw_98
theorem kin4 : ∀ w ∈ u_ws RX4 TX4 7, w ∈ AW := by
  intro w hw
  have hw : w ∈ ([u_lay RX4 TX4 0, u_lay RX4 TX4 1, u_lay RX4 TX4 2, u_lay RX4 TX4 3, u_lay RX4 TX4 4, u_lay RX4 TX4 5, u_lay RX4 TX4 6] : List Cond) := hw
  simp only [List.mem_cons, List.not_mem_nil, or_false] at hw
  rcases hw with rfl | rfl | rfl | rfl | rfl | rfl | rfl
  · exact kw_147
  · exact kw_148
  · exact kw_149
  · exact kw_150
  · exact kw_151
  · exact kw_152
  · exact kw_153
theorem kin5 : ∀ w ∈ u_ws RX5 TX5 11, w ∈ AW := by
  intro w hw
  have hw : w ∈ ([u_lay RX5 TX5 0, u_lay RX5 TX5 1, u_lay RX5 TX5 2, u_lay RX5 TX5 3, u_lay RX5 TX5 4, u_lay RX5 TX5 5, u_lay RX5 TX5 6, u_lay RX5 TX5 7, u_lay RX5 TX5 8, u_lay RX5 TX5 9, u_lay RX5 TX5 10] : List Cond) := hw
  simp only [List.mem_cons, List.not_mem_nil, or_false] at hw
  rcases hw with rfl | rfl | rfl | rfl | rfl | rfl | rfl | rfl | rfl | rfl | rfl
  · exact kw_500
  · exact kw_501
  · exact kw_502
  · exact kw_503
  · exact kw_504
  · exact kw_505
  · exact kw_506
  · exact kw_507
  · exact kw_508
  · exact kw_509
  · exact kw_510
end
section
theorem dX0_init_0 : decode cX0_init 0 = .ok (.aload_n 0, 1) := by decide +kernel
theorem dX0_init_1 : decode cX0_init 1 = .ok (.invokespecial 3, 3) := by decide +kernel
theorem dX0_init_4 : decode cX0_init 4 = .ok (.aload_n 0, 1) := by decide +kernel
theorem dX0_init_5 : decode cX0_init 5 = .ok (.bipush 60, 2) := by decide +kernel
theorem dX0_init_7 : decode cX0_init 7 = .ok (.putfield 9, 3) := by decide +kernel
theorem dX0_init_10 : decode cX0_init 10 = .ok (.aload_n 0, 1) := by decide +kernel
theorem dX0_init_11 : decode cX0_init 11 = .ok (.iconst 1, 1) := by decide +kernel
theorem dX0_init_12 : decode cX0_init 12 = .ok (.putfield 15, 3) := by decide +kernel
theorem dX0_init_15 : decode cX0_init 15 = .ok (.aload_n 0, 1) := by decide +kernel
theorem dX0_init_16 : decode cX0_init 16 = .ok (.bipush 100, 2) := by decide +kernel
theorem dX0_init_18 : decode cX0_init 18 = .ok (.newarray .byte, 2) := by decide +kernel
theorem dX0_init_20 : decode cX0_init 20 = .ok (.putfield 18, 3) := by decide +kernel
theorem dX0_init_23 : decode cX0_init 23 = .ok (.return_, 1) := by decide +kernel
theorem dX0_copyFrom_0 : decode cX0_copyFrom 0 = .ok (.aload_n 0, 1) := by decide +kernel
theorem dX0_copyFrom_1 : decode cX0_copyFrom 1 = .ok (.aload_n 1, 1) := by decide +kernel
theorem dX0_copyFrom_2 : decode cX0_copyFrom 2 = .ok (.getfield 9, 3) := by decide +kernel
theorem dX0_copyFrom_5 : decode cX0_copyFrom 5 = .ok (.putfield 9, 3) := by decide +kernel
theorem dX0_copyFrom_8 : decode cX0_copyFrom 8 = .ok (.aload_n 0, 1) := by decide +kernel
theorem dX0_copyFrom_9 : decode cX0_copyFrom 9 = .ok (.aload_n 1, 1) := by decide +kernel
theorem dX0_copyFrom_10 : decode cX0_copyFrom 10 = .ok (.getfield 22, 3) := by decide +kernel
theorem dX0_copyFrom_13 : decode cX0_copyFrom 13 = .ok (.putfield 22, 3) := by decide +kernel
theorem dX0_copyFrom_16 : decode cX0_copyFrom 16 = .ok (.aload_n 0, 1) := by decide +kernel
theorem dX0_copyFrom_17 : decode cX0_copyFrom 17 = .ok (.aload_n 1, 1) := by decide +kernel
theorem dX0_copyFrom_18 : decode cX0_copyFrom 18 = .ok (.getfield 25, 3) := by decide +kernel
theorem dX0_copyFrom_21 : decode cX0_copyFrom 21 = .ok (.putfield 25, 3) := by decide +kernel
theorem dX0_copyFrom_24 : decode cX0_copyFrom 24 = .ok (.aload_n 0, 1) := by decide +kernel
theorem dX0_copyFrom_25 : decode cX0_copyFrom 25 = .ok (.aload_n 1, 1) := by decide +kernel
theorem dX0_copyFrom_26 : decode cX0_copyFrom 26 = .ok (.getfield 28, 3) := by decide +kernel
theorem dX0_copyFrom_29 : decode cX0_copyFrom 29 = .ok (.putfield 28, 3) := by decide +kernel
theorem dX0_copyFrom_32 : decode cX0_copyFrom 32 = .ok (.aload_n 0, 1) := by decide +kernel
theorem dX0_copyFrom_33 : decode cX0_copyFrom 33 = .ok (.aload_n 1, 1) := by decide +kernel
theorem dX0_copyFrom_34 : decode cX0_copyFrom 34 = .ok (.getfield 31, 3) := by decide +kernel
theorem dX0_copyFrom_37 : decode cX0_copyFrom 37 = .ok (.putfield 31, 3) := by decide +kernel
theorem dX0_copyFrom_40 : decode cX0_copyFrom 40 = .ok (.aload_n 0, 1) := by decide +kernel
theorem dX0_copyFrom_41 : decode cX0_copyFrom 41 = .ok (.aload_n 1, 1) := by decide +kernel
theorem dX0_copyFrom_42 : decode cX0_copyFrom 42 = .ok (.getfield 35, 3) := by decide +kernel
theorem dX0_copyFrom_45 : decode cX0_copyFrom 45 = .ok (.putfield 35, 3) := by decide +kernel
theorem dX0_copyFrom_48 : decode cX0_copyFrom 48 = .ok (.aload_n 0, 1) := by decide +kernel
theorem dX0_copyFrom_49 : decode cX0_copyFrom 49 = .ok (.aload_n 1, 1) := by decide +kernel
theorem dX0_copyFrom_50 : decode cX0_copyFrom 50 = .ok (.getfield 38, 3) := by decide +kernel
theorem dX0_copyFrom_53 : decode cX0_copyFrom 53 = .ok (.putfield 38, 3) := by decide +kernel
theorem dX0_copyFrom_56 : decode cX0_copyFrom 56 = .ok (.aload_n 0, 1) := by decide +kernel
theorem dX0_copyFrom_57 : decode cX0_copyFrom 57 = .ok (.aload_n 1, 1) := by decide +kernel
theorem dX0_copyFrom_58 : decode cX0_copyFrom 58 = .ok (.getfield 41, 3) := by decide +kernel
theorem dX0_copyFrom_61 : decode cX0_copyFrom 61 = .ok (.putfield 41, 3) := by decide +kernel
theorem dX0_copyFrom_64 : decode cX0_copyFrom 64 = .ok (.aload_n 0, 1) := by decide +kernel
theorem dX0_copyFrom_65 : decode cX0_copyFrom 65 = .ok (.aload_n 1, 1) := by decide +kernel
theorem dX0_copyFrom_66 : decode cX0_copyFrom 66 = .ok (.getfield 15, 3) := by decide +kernel
theorem dX0_copyFrom_69 : decode cX0_copyFrom 69 = .ok (.putfield 15, 3) := by decide +kernel
theorem dX0_copyFrom_72 : decode cX0_copyFrom 72 = .ok (.aload_n 0, 1) := by decide +kernel
theorem dX0_copyFrom_73 : decode cX0_copyFrom 73 = .ok (.aload_n 1, 1) := by decide +kernel
theorem dX0_copyFrom_74 : decode cX0_copyFrom 74 = .ok (.getfield 44, 3) := by decide +kernel
theorem dX0_copyFrom_77 : decode cX0_copyFrom 77 = .ok (.putfield 44, 3) := by decide +kernel
theorem dX0_copyFrom_80 : decode cX0_copyFrom 80 = .ok (.aload_n 0, 1) := by decide +kernel
theorem dX0_copyFrom_81 : decode cX0_copyFrom 81 = .ok (.aload_n 1, 1) := by decide +kernel
theorem dX0_copyFrom_82 : decode cX0_copyFrom 82 = .ok (.getfield 47, 3) := by decide +kernel
theorem dX0_copyFrom_85 : decode cX0_copyFrom 85 = .ok (.putfield 47, 3) := by decide +kernel
theorem dX0_copyFrom_88 : decode cX0_copyFrom 88 = .ok (.aload_n 1, 1) := by decide +kernel
theorem dX0_copyFrom_89 : decode cX0_copyFrom 89 = .ok (.getfield 18, 3) := by decide +kernel
theorem dX0_copyFrom_92 : decode cX0_copyFrom 92 = .ok (.iconst 0, 1) := by decide +kernel
theorem dX0_copyFrom_93 : decode cX0_copyFrom 93 = .ok (.aload_n 0, 1) := by decide +kernel
theorem dX0_copyFrom_94 : decode cX0_copyFrom 94 = .ok (.getfield 18, 3) := by decide +kernel
theorem dX0_copyFrom_97 : decode cX0_copyFrom 97 = .ok (.iconst 0, 1) := by decide +kernel
theorem dX0_copyFrom_98 : decode cX0_copyFrom 98 = .ok (.bipush 100, 2) := by decide +kernel
theorem dX0_copyFrom_100 : decode cX0_copyFrom 100 = .ok (.invokestatic 51, 3) := by decide +kernel
theorem dX0_copyFrom_103 : decode cX0_copyFrom 103 = .ok (.return_, 1) := by decide +kernel
theorem dX0_hourState_0 : decode cX0_hourState 0 = .ok (.iload_n 1, 1) := by decide +kernel
theorem dX0_hourState_1 : decode cX0_hourState 1 = .ok (.invokestatic 57, 3) := by decide +kernel
theorem dX0_hourState_4 : decode cX0_hourState 4 = .ok (.ifCond .eq 12, 3) := by decide +kernel
theorem dX0_hourState_7 : decode cX0_hourState 7 = .ok (.aload_n 0, 1) := by decide +kernel
theorem dX0_hourState_8 : decode cX0_hourState 8 = .ok (.getfield 18, 3) := by decide +kernel
theorem dX0_hourState_11 : decode cX0_hourState 11 = .ok (.iload_n 1, 1) := by decide +kernel
theorem dX0_hourState_12 : decode cX0_hourState 12 = .ok (.baload, 1) := by decide +kernel
theorem dX0_hourState_13 : decode cX0_hourState 13 = .ok (.goto 4, 3) := by decide +kernel
theorem dX0_hourState_16 : decode cX0_hourState 16 = .ok (.iconst 0, 1) := by decide +kernel
theorem dX0_hourState_17 : decode cX0_hourState 17 = .ok (.ireturn, 1) := by decide +kernel
theorem dX0_markHour_0 : decode cX0_markHour 0 = .ok (.iload_n 1, 1) := by decide +kernel
theorem dX0_markHour_1 : decode cX0_markHour 1 = .ok (.invokestatic 57, 3) := by decide +kernel
theorem dX0_markHour_4 : decode cX0_markHour 4 = .ok (.ifCond .eq 11, 3) := by decide +kernel
theorem dX0_markHour_7 : decode cX0_markHour 7 = .ok (.aload_n 0, 1) := by decide +kernel
theorem dX0_markHour_8 : decode cX0_markHour 8 = .ok (.getfield 18, 3) := by decide +kernel
theorem dX0_markHour_11 : decode cX0_markHour 11 = .ok (.iload_n 1, 1) := by decide +kernel
theorem dX0_markHour_12 : decode cX0_markHour 12 = .ok (.iload_n 2, 1) := by decide +kernel
theorem dX0_markHour_13 : decode cX0_markHour 13 = .ok (.i2b, 1) := by decide +kernel
theorem dX0_markHour_14 : decode cX0_markHour 14 = .ok (.bastore, 1) := by decide +kernel
theorem dX0_markHour_15 : decode cX0_markHour 15 = .ok (.return_, 1) := by decide +kernel
theorem dX0_isQuietIn_0 : decode cX0_isQuietIn 0 = .ok (.aload_n 0, 1) := by decide +kernel
theorem dX0_isQuietIn_1 : decode cX0_isQuietIn 1 = .ok (.iload_n 1, 1) := by decide +kernel
theorem dX0_isQuietIn_2 : decode cX0_isQuietIn 2 = .ok (.invokevirtual 61, 3) := by decide +kernel
theorem dX0_isQuietIn_5 : decode cX0_isQuietIn 5 = .ok (.ifCond .eq 7, 3) := by decide +kernel
theorem dX0_isQuietIn_8 : decode cX0_isQuietIn 8 = .ok (.iconst 1, 1) := by decide +kernel
theorem dX0_isQuietIn_9 : decode cX0_isQuietIn 9 = .ok (.goto 4, 3) := by decide +kernel
theorem dX0_isQuietIn_12 : decode cX0_isQuietIn 12 = .ok (.iconst 0, 1) := by decide +kernel
theorem dX0_isQuietIn_13 : decode cX0_isQuietIn 13 = .ok (.ireturn, 1) := by decide +kernel
theorem dX0_hoursThatAre_0 : decode cX0_hoursThatAre 0 = .ok (.iconst 0, 1) := by decide +kernel
theorem dX0_hoursThatAre_1 : decode cX0_hoursThatAre 1 = .ok (.istore_n 2, 1) := by decide +kernel
theorem dX0_hoursThatAre_2 : decode cX0_hoursThatAre 2 = .ok (.iconst 0, 1) := by decide +kernel
theorem dX0_hoursThatAre_3 : decode cX0_hoursThatAre 3 = .ok (.istore_n 3, 1) := by decide +kernel
theorem dX0_hoursThatAre_4 : decode cX0_hoursThatAre 4 = .ok (.iload_n 3, 1) := by decide +kernel
theorem dX0_hoursThatAre_5 : decode cX0_hoursThatAre 5 = .ok (.bipush 100, 2) := by decide +kernel
theorem dX0_hoursThatAre_7 : decode cX0_hoursThatAre 7 = .ok (.if_icmp .ge 22, 3) := by decide +kernel
theorem dX0_hoursThatAre_10 : decode cX0_hoursThatAre 10 = .ok (.aload_n 0, 1) := by decide +kernel
theorem dX0_hoursThatAre_11 : decode cX0_hoursThatAre 11 = .ok (.getfield 18, 3) := by decide +kernel
theorem dX0_hoursThatAre_14 : decode cX0_hoursThatAre 14 = .ok (.iload_n 3, 1) := by decide +kernel
theorem dX0_hoursThatAre_15 : decode cX0_hoursThatAre 15 = .ok (.baload, 1) := by decide +kernel
theorem dX0_hoursThatAre_16 : decode cX0_hoursThatAre 16 = .ok (.iload_n 1, 1) := by decide +kernel
theorem dX0_hoursThatAre_17 : decode cX0_hoursThatAre 17 = .ok (.if_icmp .ne 6, 3) := by decide +kernel
theorem dX0_hoursThatAre_20 : decode cX0_hoursThatAre 20 = .ok (.iinc 2 1, 3) := by decide +kernel
theorem dX0_hoursThatAre_23 : decode cX0_hoursThatAre 23 = .ok (.iinc 3 1, 3) := by decide +kernel
theorem dX0_hoursThatAre_26 : decode cX0_hoursThatAre 26 = .ok (.goto (-22), 3) := by decide +kernel
theorem dX0_hoursThatAre_29 : decode cX0_hoursThatAre 29 = .ok (.iload_n 2, 1) := by decide +kernel
theorem dX0_hoursThatAre_30 : decode cX0_hoursThatAre 30 = .ok (.ireturn, 1) := by decide +kernel
theorem dX0_soldHours_0 : decode cX0_soldHours 0 = .ok (.bipush 100, 2) := by decide +kernel
theorem dX0_soldHours_2 : decode cX0_soldHours 2 = .ok (.aload_n 0, 1) := by decide +kernel
theorem dX0_soldHours_3 : decode cX0_soldHours 3 = .ok (.iconst 0, 1) := by decide +kernel
theorem dX0_soldHours_4 : decode cX0_soldHours 4 = .ok (.invokevirtual 65, 3) := by decide +kernel
theorem dX0_soldHours_7 : decode cX0_soldHours 7 = .ok (.isub, 1) := by decide +kernel
theorem dX0_soldHours_8 : decode cX0_soldHours 8 = .ok (.ireturn, 1) := by decide +kernel
theorem dX0_keptInARow_0 : decode cX0_keptInARow 0 = .ok (.iconst 0, 1) := by decide +kernel
theorem dX0_keptInARow_1 : decode cX0_keptInARow 1 = .ok (.istore_n 1, 1) := by decide +kernel
theorem dX0_keptInARow_2 : decode cX0_keptInARow 2 = .ok (.bipush 99, 2) := by decide +kernel
theorem dX0_keptInARow_4 : decode cX0_keptInARow 4 = .ok (.istore_n 2, 1) := by decide +kernel
theorem dX0_keptInARow_5 : decode cX0_keptInARow 5 = .ok (.iload_n 2, 1) := by decide +kernel
theorem dX0_keptInARow_6 : decode cX0_keptInARow 6 = .ok (.ifCond .lt 32, 3) := by decide +kernel
theorem dX0_keptInARow_9 : decode cX0_keptInARow 9 = .ok (.aload_n 0, 1) := by decide +kernel
theorem dX0_keptInARow_10 : decode cX0_keptInARow 10 = .ok (.getfield 18, 3) := by decide +kernel
theorem dX0_keptInARow_13 : decode cX0_keptInARow 13 = .ok (.iload_n 2, 1) := by decide +kernel
theorem dX0_keptInARow_14 : decode cX0_keptInARow 14 = .ok (.baload, 1) := by decide +kernel
theorem dX0_keptInARow_15 : decode cX0_keptInARow 15 = .ok (.iconst 3, 1) := by decide +kernel
theorem dX0_keptInARow_16 : decode cX0_keptInARow 16 = .ok (.if_icmp .eq 22, 3) := by decide +kernel
theorem dX0_keptInARow_19 : decode cX0_keptInARow 19 = .ok (.aload_n 0, 1) := by decide +kernel
theorem dX0_keptInARow_20 : decode cX0_keptInARow 20 = .ok (.getfield 18, 3) := by decide +kernel
theorem dX0_keptInARow_23 : decode cX0_keptInARow 23 = .ok (.iload_n 2, 1) := by decide +kernel
theorem dX0_keptInARow_24 : decode cX0_keptInARow 24 = .ok (.baload, 1) := by decide +kernel
theorem dX0_keptInARow_25 : decode cX0_keptInARow 25 = .ok (.iconst 2, 1) := by decide +kernel
theorem dX0_keptInARow_26 : decode cX0_keptInARow 26 = .ok (.if_icmp .ne 6, 3) := by decide +kernel
theorem dX0_keptInARow_29 : decode cX0_keptInARow 29 = .ok (.iinc 1 1, 3) := by decide +kernel
theorem dX0_keptInARow_32 : decode cX0_keptInARow 32 = .ok (.iinc 2 (-1), 3) := by decide +kernel
theorem dX0_keptInARow_35 : decode cX0_keptInARow 35 = .ok (.goto (-30), 3) := by decide +kernel
theorem dX0_keptInARow_38 : decode cX0_keptInARow 38 = .ok (.iload_n 1, 1) := by decide +kernel
theorem dX0_keptInARow_39 : decode cX0_keptInARow 39 = .ok (.ireturn, 1) := by decide +kernel
theorem dX0_takeStream_0 : decode cX0_takeStream 0 = .ok (.aload_n 0, 1) := by decide +kernel
theorem dX0_takeStream_1 : decode cX0_takeStream 1 = .ok (.getfield 15, 3) := by decide +kernel
theorem dX0_takeStream_4 : decode cX0_takeStream 4 = .ok (.ifCond .le 25, 3) := by decide +kernel
theorem dX0_takeStream_7 : decode cX0_takeStream 7 = .ok (.iload_n 1, 1) := by decide +kernel
theorem dX0_takeStream_8 : decode cX0_takeStream 8 = .ok (.aload_n 0, 1) := by decide +kernel
theorem dX0_takeStream_9 : decode cX0_takeStream 9 = .ok (.getfield 15, 3) := by decide +kernel
theorem dX0_takeStream_12 : decode cX0_takeStream 12 = .ok (.irem, 1) := by decide +kernel
theorem dX0_takeStream_13 : decode cX0_takeStream 13 = .ok (.ifCond .ne 16, 3) := by decide +kernel
theorem dX0_takeStream_16 : decode cX0_takeStream 16 = .ok (.aload_n 0, 1) := by decide +kernel
theorem dX0_takeStream_17 : decode cX0_takeStream 17 = .ok (.dup, 1) := by decide +kernel
theorem dX0_takeStream_18 : decode cX0_takeStream 18 = .ok (.getfield 28, 3) := by decide +kernel
theorem dX0_takeStream_21 : decode cX0_takeStream 21 = .ok (.aload_n 0, 1) := by decide +kernel
theorem dX0_takeStream_22 : decode cX0_takeStream 22 = .ok (.getfield 44, 3) := by decide +kernel
theorem dX0_takeStream_25 : decode cX0_takeStream 25 = .ok (.iadd, 1) := by decide +kernel
theorem dX0_takeStream_26 : decode cX0_takeStream 26 = .ok (.putfield 28, 3) := by decide +kernel
theorem dX0_takeStream_29 : decode cX0_takeStream 29 = .ok (.return_, 1) := by decide +kernel
theorem dX0_takeBackFrom_0 : decode cX0_takeBackFrom 0 = .ok (.aload_n 1, 1) := by decide +kernel
theorem dX0_takeBackFrom_1 : decode cX0_takeBackFrom 1 = .ok (.getfield 25, 3) := by decide +kernel
theorem dX0_takeBackFrom_4 : decode cX0_takeBackFrom 4 = .ok (.aload_n 0, 1) := by decide +kernel
theorem dX0_takeBackFrom_5 : decode cX0_takeBackFrom 5 = .ok (.getfield 9, 3) := by decide +kernel
theorem dX0_takeBackFrom_8 : decode cX0_takeBackFrom 8 = .ok (.invokestatic 68, 3) := by decide +kernel
theorem dX0_takeBackFrom_11 : decode cX0_takeBackFrom 11 = .ok (.istore_n 2, 1) := by decide +kernel
theorem dX0_takeBackFrom_12 : decode cX0_takeBackFrom 12 = .ok (.aload_n 1, 1) := by decide +kernel
theorem dX0_takeBackFrom_13 : decode cX0_takeBackFrom 13 = .ok (.dup, 1) := by decide +kernel
theorem dX0_takeBackFrom_14 : decode cX0_takeBackFrom 14 = .ok (.getfield 25, 3) := by decide +kernel
theorem dX0_takeBackFrom_17 : decode cX0_takeBackFrom 17 = .ok (.iload_n 2, 1) := by decide +kernel
theorem dX0_takeBackFrom_18 : decode cX0_takeBackFrom 18 = .ok (.isub, 1) := by decide +kernel
theorem dX0_takeBackFrom_19 : decode cX0_takeBackFrom 19 = .ok (.putfield 25, 3) := by decide +kernel
theorem dX0_takeBackFrom_22 : decode cX0_takeBackFrom 22 = .ok (.aload_n 1, 1) := by decide +kernel
theorem dX0_takeBackFrom_23 : decode cX0_takeBackFrom 23 = .ok (.dup, 1) := by decide +kernel
theorem dX0_takeBackFrom_24 : decode cX0_takeBackFrom 24 = .ok (.getfield 22, 3) := by decide +kernel
theorem dX0_takeBackFrom_27 : decode cX0_takeBackFrom 27 = .ok (.iload_n 2, 1) := by decide +kernel
theorem dX0_takeBackFrom_28 : decode cX0_takeBackFrom 28 = .ok (.iadd, 1) := by decide +kernel
theorem dX0_takeBackFrom_29 : decode cX0_takeBackFrom 29 = .ok (.putfield 22, 3) := by decide +kernel
theorem dX0_takeBackFrom_32 : decode cX0_takeBackFrom 32 = .ok (.aload_n 0, 1) := by decide +kernel
theorem dX0_takeBackFrom_33 : decode cX0_takeBackFrom 33 = .ok (.iload_n 2, 1) := by decide +kernel
theorem dX0_takeBackFrom_34 : decode cX0_takeBackFrom 34 = .ok (.invokevirtual 74, 3) := by decide +kernel
theorem dX0_takeBackFrom_37 : decode cX0_takeBackFrom 37 = .ok (.return_, 1) := by decide +kernel
theorem dX0_writeHeld_0 : decode cX0_writeHeld 0 = .ok (.aload_n 0, 1) := by decide +kernel
theorem dX0_writeHeld_1 : decode cX0_writeHeld 1 = .ok (.getfield 28, 3) := by decide +kernel
theorem dX0_writeHeld_4 : decode cX0_writeHeld 4 = .ok (.aload_n 0, 1) := by decide +kernel
theorem dX0_writeHeld_5 : decode cX0_writeHeld 5 = .ok (.getfield 9, 3) := by decide +kernel
theorem dX0_writeHeld_8 : decode cX0_writeHeld 8 = .ok (.invokestatic 68, 3) := by decide +kernel
theorem dX0_writeHeld_11 : decode cX0_writeHeld 11 = .ok (.istore_n 1, 1) := by decide +kernel
theorem dX0_writeHeld_12 : decode cX0_writeHeld 12 = .ok (.aload_n 0, 1) := by decide +kernel
theorem dX0_writeHeld_13 : decode cX0_writeHeld 13 = .ok (.dup, 1) := by decide +kernel
theorem dX0_writeHeld_14 : decode cX0_writeHeld 14 = .ok (.getfield 28, 3) := by decide +kernel
theorem dX0_writeHeld_17 : decode cX0_writeHeld 17 = .ok (.iload_n 1, 1) := by decide +kernel
theorem dX0_writeHeld_18 : decode cX0_writeHeld 18 = .ok (.isub, 1) := by decide +kernel
theorem dX0_writeHeld_19 : decode cX0_writeHeld 19 = .ok (.putfield 28, 3) := by decide +kernel
theorem dX0_writeHeld_22 : decode cX0_writeHeld 22 = .ok (.aload_n 0, 1) := by decide +kernel
theorem dX0_writeHeld_23 : decode cX0_writeHeld 23 = .ok (.iload_n 1, 1) := by decide +kernel
theorem dX0_writeHeld_24 : decode cX0_writeHeld 24 = .ok (.invokevirtual 74, 3) := by decide +kernel
theorem dX0_writeHeld_27 : decode cX0_writeHeld 27 = .ok (.return_, 1) := by decide +kernel
theorem dX0_fillCells_0 : decode cX0_fillCells 0 = .ok (.aload_n 0, 1) := by decide +kernel
theorem dX0_fillCells_1 : decode cX0_fillCells 1 = .ok (.dup, 1) := by decide +kernel
theorem dX0_fillCells_2 : decode cX0_fillCells 2 = .ok (.getfield 9, 3) := by decide +kernel
theorem dX0_fillCells_5 : decode cX0_fillCells 5 = .ok (.iload_n 1, 1) := by decide +kernel
theorem dX0_fillCells_6 : decode cX0_fillCells 6 = .ok (.isub, 1) := by decide +kernel
theorem dX0_fillCells_7 : decode cX0_fillCells 7 = .ok (.putfield 9, 3) := by decide +kernel
theorem dX0_fillCells_10 : decode cX0_fillCells 10 = .ok (.aload_n 0, 1) := by decide +kernel
theorem dX0_fillCells_11 : decode cX0_fillCells 11 = .ok (.dup, 1) := by decide +kernel
theorem dX0_fillCells_12 : decode cX0_fillCells 12 = .ok (.getfield 22, 3) := by decide +kernel
theorem dX0_fillCells_15 : decode cX0_fillCells 15 = .ok (.iload_n 1, 1) := by decide +kernel
theorem dX0_fillCells_16 : decode cX0_fillCells 16 = .ok (.iadd, 1) := by decide +kernel
theorem dX0_fillCells_17 : decode cX0_fillCells 17 = .ok (.putfield 22, 3) := by decide +kernel
theorem dX0_fillCells_20 : decode cX0_fillCells 20 = .ok (.aload_n 0, 1) := by decide +kernel
theorem dX0_fillCells_21 : decode cX0_fillCells 21 = .ok (.dup, 1) := by decide +kernel
theorem dX0_fillCells_22 : decode cX0_fillCells 22 = .ok (.getfield 35, 3) := by decide +kernel
theorem dX0_fillCells_25 : decode cX0_fillCells 25 = .ok (.iload_n 1, 1) := by decide +kernel
theorem dX0_fillCells_26 : decode cX0_fillCells 26 = .ok (.iadd, 1) := by decide +kernel
theorem dX0_fillCells_27 : decode cX0_fillCells 27 = .ok (.putfield 35, 3) := by decide +kernel
theorem dX0_fillCells_30 : decode cX0_fillCells 30 = .ok (.return_, 1) := by decide +kernel
theorem dX0_lendTo_0 : decode cX0_lendTo 0 = .ok (.aload_n 0, 1) := by decide +kernel
theorem dX0_lendTo_1 : decode cX0_lendTo 1 = .ok (.getfield 28, 3) := by decide +kernel
theorem dX0_lendTo_4 : decode cX0_lendTo 4 = .ok (.iload_n 2, 1) := by decide +kernel
theorem dX0_lendTo_5 : decode cX0_lendTo 5 = .ok (.if_icmp .le 47, 3) := by decide +kernel
theorem dX0_lendTo_8 : decode cX0_lendTo 8 = .ok (.aload_n 0, 1) := by decide +kernel
theorem dX0_lendTo_9 : decode cX0_lendTo 9 = .ok (.getfield 28, 3) := by decide +kernel
theorem dX0_lendTo_12 : decode cX0_lendTo 12 = .ok (.iload_n 2, 1) := by decide +kernel
theorem dX0_lendTo_13 : decode cX0_lendTo 13 = .ok (.isub, 1) := by decide +kernel
theorem dX0_lendTo_14 : decode cX0_lendTo 14 = .ok (.aload_n 1, 1) := by decide +kernel
theorem dX0_lendTo_15 : decode cX0_lendTo 15 = .ok (.getfield 9, 3) := by decide +kernel
theorem dX0_lendTo_18 : decode cX0_lendTo 18 = .ok (.invokestatic 68, 3) := by decide +kernel
theorem dX0_lendTo_21 : decode cX0_lendTo 21 = .ok (.istore_n 3, 1) := by decide +kernel
theorem dX0_lendTo_22 : decode cX0_lendTo 22 = .ok (.aload_n 1, 1) := by decide +kernel
theorem dX0_lendTo_23 : decode cX0_lendTo 23 = .ok (.dup, 1) := by decide +kernel
theorem dX0_lendTo_24 : decode cX0_lendTo 24 = .ok (.getfield 9, 3) := by decide +kernel
theorem dX0_lendTo_27 : decode cX0_lendTo 27 = .ok (.iload_n 3, 1) := by decide +kernel
theorem dX0_lendTo_28 : decode cX0_lendTo 28 = .ok (.isub, 1) := by decide +kernel
theorem dX0_lendTo_29 : decode cX0_lendTo 29 = .ok (.putfield 9, 3) := by decide +kernel
theorem dX0_lendTo_32 : decode cX0_lendTo 32 = .ok (.aload_n 1, 1) := by decide +kernel
theorem dX0_lendTo_33 : decode cX0_lendTo 33 = .ok (.dup, 1) := by decide +kernel
theorem dX0_lendTo_34 : decode cX0_lendTo 34 = .ok (.getfield 25, 3) := by decide +kernel
theorem dX0_lendTo_37 : decode cX0_lendTo 37 = .ok (.iload_n 3, 1) := by decide +kernel
theorem dX0_lendTo_38 : decode cX0_lendTo 38 = .ok (.iadd, 1) := by decide +kernel
theorem dX0_lendTo_39 : decode cX0_lendTo 39 = .ok (.putfield 25, 3) := by decide +kernel
theorem dX0_lendTo_42 : decode cX0_lendTo 42 = .ok (.aload_n 0, 1) := by decide +kernel
theorem dX0_lendTo_43 : decode cX0_lendTo 43 = .ok (.dup, 1) := by decide +kernel
theorem dX0_lendTo_44 : decode cX0_lendTo 44 = .ok (.getfield 28, 3) := by decide +kernel
theorem dX0_lendTo_47 : decode cX0_lendTo 47 = .ok (.iload_n 3, 1) := by decide +kernel
theorem dX0_lendTo_48 : decode cX0_lendTo 48 = .ok (.isub, 1) := by decide +kernel
theorem dX0_lendTo_49 : decode cX0_lendTo 49 = .ok (.putfield 28, 3) := by decide +kernel
theorem dX0_lendTo_52 : decode cX0_lendTo 52 = .ok (.return_, 1) := by decide +kernel
theorem dX0_cleanCells_0 : decode cX0_cleanCells 0 = .ok (.aload_n 0, 1) := by decide +kernel
theorem dX0_cleanCells_1 : decode cX0_cleanCells 1 = .ok (.dup, 1) := by decide +kernel
theorem dX0_cleanCells_2 : decode cX0_cleanCells 2 = .ok (.getfield 22, 3) := by decide +kernel
theorem dX0_cleanCells_5 : decode cX0_cleanCells 5 = .ok (.iload_n 1, 1) := by decide +kernel
theorem dX0_cleanCells_6 : decode cX0_cleanCells 6 = .ok (.isub, 1) := by decide +kernel
theorem dX0_cleanCells_7 : decode cX0_cleanCells 7 = .ok (.putfield 22, 3) := by decide +kernel
theorem dX0_cleanCells_10 : decode cX0_cleanCells 10 = .ok (.aload_n 0, 1) := by decide +kernel
theorem dX0_cleanCells_11 : decode cX0_cleanCells 11 = .ok (.dup, 1) := by decide +kernel
theorem dX0_cleanCells_12 : decode cX0_cleanCells 12 = .ok (.getfield 9, 3) := by decide +kernel
theorem dX0_cleanCells_15 : decode cX0_cleanCells 15 = .ok (.iload_n 1, 1) := by decide +kernel
theorem dX0_cleanCells_16 : decode cX0_cleanCells 16 = .ok (.iadd, 1) := by decide +kernel
theorem dX0_cleanCells_17 : decode cX0_cleanCells 17 = .ok (.putfield 9, 3) := by decide +kernel
theorem dX0_cleanCells_20 : decode cX0_cleanCells 20 = .ok (.aload_n 0, 1) := by decide +kernel
theorem dX0_cleanCells_21 : decode cX0_cleanCells 21 = .ok (.dup, 1) := by decide +kernel
theorem dX0_cleanCells_22 : decode cX0_cleanCells 22 = .ok (.getfield 38, 3) := by decide +kernel
theorem dX0_cleanCells_25 : decode cX0_cleanCells 25 = .ok (.iconst 1, 1) := by decide +kernel
theorem dX0_cleanCells_26 : decode cX0_cleanCells 26 = .ok (.iadd, 1) := by decide +kernel
theorem dX0_cleanCells_27 : decode cX0_cleanCells 27 = .ok (.putfield 38, 3) := by decide +kernel
theorem dX0_cleanCells_30 : decode cX0_cleanCells 30 = .ok (.return_, 1) := by decide +kernel
theorem dX1_init_0 : decode cX1_init 0 = .ok (.aload_n 0, 1) := by decide +kernel
theorem dX1_init_1 : decode cX1_init 1 = .ok (.invokespecial 3, 3) := by decide +kernel
theorem dX1_init_4 : decode cX1_init 4 = .ok (.aload_n 0, 1) := by decide +kernel
theorem dX1_init_5 : decode cX1_init 5 = .ok (.bipush 7, 2) := by decide +kernel
theorem dX1_init_7 : decode cX1_init 7 = .ok (.anewarray 9, 3) := by decide +kernel
theorem dX1_init_10 : decode cX1_init 10 = .ok (.putfield 11, 3) := by decide +kernel
theorem dX1_init_13 : decode cX1_init 13 = .ok (.iconst 0, 1) := by decide +kernel
theorem dX1_init_14 : decode cX1_init 14 = .ok (.istore_n 1, 1) := by decide +kernel
theorem dX1_init_15 : decode cX1_init 15 = .ok (.iload_n 1, 1) := by decide +kernel
theorem dX1_init_16 : decode cX1_init 16 = .ok (.bipush 6, 2) := by decide +kernel
theorem dX1_init_18 : decode cX1_init 18 = .ok (.if_icmp .gt 22, 3) := by decide +kernel
theorem dX1_init_21 : decode cX1_init 21 = .ok (.aload_n 0, 1) := by decide +kernel
theorem dX1_init_22 : decode cX1_init 22 = .ok (.getfield 11, 3) := by decide +kernel
theorem dX1_init_25 : decode cX1_init 25 = .ok (.iload_n 1, 1) := by decide +kernel
theorem dX1_init_26 : decode cX1_init 26 = .ok (.new 9, 3) := by decide +kernel
theorem dX1_init_29 : decode cX1_init 29 = .ok (.dup, 1) := by decide +kernel
theorem dX1_init_30 : decode cX1_init 30 = .ok (.invokespecial 17, 3) := by decide +kernel
theorem dX1_init_33 : decode cX1_init 33 = .ok (.aastore, 1) := by decide +kernel
theorem dX1_init_34 : decode cX1_init 34 = .ok (.iinc 1 1, 3) := by decide +kernel
theorem dX1_init_37 : decode cX1_init 37 = .ok (.goto (-22), 3) := by decide +kernel
theorem dX1_init_40 : decode cX1_init 40 = .ok (.return_, 1) := by decide +kernel
theorem dX1_prepare_0 : decode cX1_prepare 0 = .ok (.aload_n 0, 1) := by decide +kernel
theorem dX1_prepare_1 : decode cX1_prepare 1 = .ok (.getfield 11, 3) := by decide +kernel
theorem dX1_prepare_4 : decode cX1_prepare 4 = .ok (.aload_n 0, 1) := by decide +kernel
theorem dX1_prepare_5 : decode cX1_prepare 5 = .ok (.getfield 18, 3) := by decide +kernel
theorem dX1_prepare_8 : decode cX1_prepare 8 = .ok (.aaload, 1) := by decide +kernel
theorem dX1_prepare_9 : decode cX1_prepare 9 = .ok (.aload_n 1, 1) := by decide +kernel
theorem dX1_prepare_10 : decode cX1_prepare 10 = .ok (.invokevirtual 22, 3) := by decide +kernel
theorem dX1_prepare_13 : decode cX1_prepare 13 = .ok (.return_, 1) := by decide +kernel
theorem dX1_keepPrepared_0 : decode cX1_keepPrepared 0 = .ok (.aload_n 0, 1) := by decide +kernel
theorem dX1_keepPrepared_1 : decode cX1_keepPrepared 1 = .ok (.aload_n 0, 1) := by decide +kernel
theorem dX1_keepPrepared_2 : decode cX1_keepPrepared 2 = .ok (.getfield 18, 3) := by decide +kernel
theorem dX1_keepPrepared_5 : decode cX1_keepPrepared 5 = .ok (.bipush 6, 2) := by decide +kernel
theorem dX1_keepPrepared_7 : decode cX1_keepPrepared 7 = .ok (.if_icmp .ge 12, 3) := by decide +kernel
theorem dX1_keepPrepared_10 : decode cX1_keepPrepared 10 = .ok (.aload_n 0, 1) := by decide +kernel
theorem dX1_keepPrepared_11 : decode cX1_keepPrepared 11 = .ok (.getfield 18, 3) := by decide +kernel
theorem dX1_keepPrepared_14 : decode cX1_keepPrepared 14 = .ok (.iconst 1, 1) := by decide +kernel
theorem dX1_keepPrepared_15 : decode cX1_keepPrepared 15 = .ok (.iadd, 1) := by decide +kernel
theorem dX1_keepPrepared_16 : decode cX1_keepPrepared 16 = .ok (.goto 4, 3) := by decide +kernel
theorem dX1_keepPrepared_19 : decode cX1_keepPrepared 19 = .ok (.iconst 0, 1) := by decide +kernel
theorem dX1_keepPrepared_20 : decode cX1_keepPrepared 20 = .ok (.putfield 18, 3) := by decide +kernel
theorem dX1_keepPrepared_23 : decode cX1_keepPrepared 23 = .ok (.aload_n 0, 1) := by decide +kernel
theorem dX1_keepPrepared_24 : decode cX1_keepPrepared 24 = .ok (.aload_n 0, 1) := by decide +kernel
theorem dX1_keepPrepared_25 : decode cX1_keepPrepared 25 = .ok (.getfield 26, 3) := by decide +kernel
theorem dX1_keepPrepared_28 : decode cX1_keepPrepared 28 = .ok (.iconst 1, 1) := by decide +kernel
theorem dX1_keepPrepared_29 : decode cX1_keepPrepared 29 = .ok (.iadd, 1) := by decide +kernel
theorem dX1_keepPrepared_30 : decode cX1_keepPrepared 30 = .ok (.bipush 6, 2) := by decide +kernel
theorem dX1_keepPrepared_32 : decode cX1_keepPrepared 32 = .ok (.invokestatic 29, 3) := by decide +kernel
theorem dX1_keepPrepared_35 : decode cX1_keepPrepared 35 = .ok (.putfield 26, 3) := by decide +kernel
theorem dX1_keepPrepared_38 : decode cX1_keepPrepared 38 = .ok (.return_, 1) := by decide +kernel
theorem dX1_bringBackLatest_0 : decode cX1_bringBackLatest 0 = .ok (.aload_n 0, 1) := by decide +kernel
theorem dX1_bringBackLatest_1 : decode cX1_bringBackLatest 1 = .ok (.getfield 26, 3) := by decide +kernel
theorem dX1_bringBackLatest_4 : decode cX1_bringBackLatest 4 = .ok (.ifCond .le 48, 3) := by decide +kernel
theorem dX1_bringBackLatest_7 : decode cX1_bringBackLatest 7 = .ok (.aload_n 0, 1) := by decide +kernel
theorem dX1_bringBackLatest_8 : decode cX1_bringBackLatest 8 = .ok (.aload_n 0, 1) := by decide +kernel
theorem dX1_bringBackLatest_9 : decode cX1_bringBackLatest 9 = .ok (.getfield 18, 3) := by decide +kernel
theorem dX1_bringBackLatest_12 : decode cX1_bringBackLatest 12 = .ok (.ifCond .le 12, 3) := by decide +kernel
theorem dX1_bringBackLatest_15 : decode cX1_bringBackLatest 15 = .ok (.aload_n 0, 1) := by decide +kernel
theorem dX1_bringBackLatest_16 : decode cX1_bringBackLatest 16 = .ok (.getfield 18, 3) := by decide +kernel
theorem dX1_bringBackLatest_19 : decode cX1_bringBackLatest 19 = .ok (.iconst 1, 1) := by decide +kernel
theorem dX1_bringBackLatest_20 : decode cX1_bringBackLatest 20 = .ok (.isub, 1) := by decide +kernel
theorem dX1_bringBackLatest_21 : decode cX1_bringBackLatest 21 = .ok (.goto 5, 3) := by decide +kernel
theorem dX1_bringBackLatest_24 : decode cX1_bringBackLatest 24 = .ok (.bipush 6, 2) := by decide +kernel
theorem dX1_bringBackLatest_26 : decode cX1_bringBackLatest 26 = .ok (.putfield 18, 3) := by decide +kernel
theorem dX1_bringBackLatest_29 : decode cX1_bringBackLatest 29 = .ok (.aload_n 0, 1) := by decide +kernel
theorem dX1_bringBackLatest_30 : decode cX1_bringBackLatest 30 = .ok (.dup, 1) := by decide +kernel
theorem dX1_bringBackLatest_31 : decode cX1_bringBackLatest 31 = .ok (.getfield 26, 3) := by decide +kernel
theorem dX1_bringBackLatest_34 : decode cX1_bringBackLatest 34 = .ok (.iconst 1, 1) := by decide +kernel
theorem dX1_bringBackLatest_35 : decode cX1_bringBackLatest 35 = .ok (.isub, 1) := by decide +kernel
theorem dX1_bringBackLatest_36 : decode cX1_bringBackLatest 36 = .ok (.putfield 26, 3) := by decide +kernel
theorem dX1_bringBackLatest_39 : decode cX1_bringBackLatest 39 = .ok (.aload_n 1, 1) := by decide +kernel
theorem dX1_bringBackLatest_40 : decode cX1_bringBackLatest 40 = .ok (.aload_n 0, 1) := by decide +kernel
theorem dX1_bringBackLatest_41 : decode cX1_bringBackLatest 41 = .ok (.getfield 11, 3) := by decide +kernel
theorem dX1_bringBackLatest_44 : decode cX1_bringBackLatest 44 = .ok (.aload_n 0, 1) := by decide +kernel
theorem dX1_bringBackLatest_45 : decode cX1_bringBackLatest 45 = .ok (.getfield 18, 3) := by decide +kernel
theorem dX1_bringBackLatest_48 : decode cX1_bringBackLatest 48 = .ok (.aaload, 1) := by decide +kernel
theorem dX1_bringBackLatest_49 : decode cX1_bringBackLatest 49 = .ok (.invokevirtual 22, 3) := by decide +kernel
theorem dX1_bringBackLatest_52 : decode cX1_bringBackLatest 52 = .ok (.return_, 1) := by decide +kernel
theorem dX2_init_0 : decode cX2_init 0 = .ok (.aload_n 0, 1) := by decide +kernel
theorem dX2_init_1 : decode cX2_init 1 = .ok (.invokespecial 3, 3) := by decide +kernel
theorem dX2_init_4 : decode cX2_init 4 = .ok (.aload_n 0, 1) := by decide +kernel
theorem dX2_init_5 : decode cX2_init 5 = .ok (.bipush 80, 2) := by decide +kernel
theorem dX2_init_7 : decode cX2_init 7 = .ok (.newarray .char, 2) := by decide +kernel
theorem dX2_init_9 : decode cX2_init 9 = .ok (.putfield 9, 3) := by decide +kernel
theorem dX2_init_12 : decode cX2_init 12 = .ok (.return_, 1) := by decide +kernel
theorem dX2_append_0 : decode cX2_append 0 = .ok (.iload_n 3, 1) := by decide +kernel
theorem dX2_append_1 : decode cX2_append 1 = .ok (.iconst 1, 1) := by decide +kernel
theorem dX2_append_2 : decode cX2_append 2 = .ok (.isub, 1) := by decide +kernel
theorem dX2_append_3 : decode cX2_append 3 = .ok (.istore 4, 2) := by decide +kernel
theorem dX2_append_5 : decode cX2_append 5 = .ok (.iload 4, 2) := by decide +kernel
theorem dX2_append_7 : decode cX2_append 7 = .ok (.ifCond .lt 50, 3) := by decide +kernel
theorem dX2_append_10 : decode cX2_append 10 = .ok (.aload_n 0, 1) := by decide +kernel
theorem dX2_append_11 : decode cX2_append 11 = .ok (.getfield 15, 3) := by decide +kernel
theorem dX2_append_14 : decode cX2_append 14 = .ok (.bipush 80, 2) := by decide +kernel
theorem dX2_append_16 : decode cX2_append 16 = .ok (.if_icmp .ge 41, 3) := by decide +kernel
theorem dX2_append_19 : decode cX2_append 19 = .ok (.aload_n 0, 1) := by decide +kernel
theorem dX2_append_20 : decode cX2_append 20 = .ok (.getfield 9, 3) := by decide +kernel
theorem dX2_append_23 : decode cX2_append 23 = .ok (.aload_n 0, 1) := by decide +kernel
theorem dX2_append_24 : decode cX2_append 24 = .ok (.getfield 15, 3) := by decide +kernel
theorem dX2_append_27 : decode cX2_append 27 = .ok (.lload_n 1, 1) := by decide +kernel
theorem dX2_append_28 : decode cX2_append 28 = .ok (.bipush 8, 2) := by decide +kernel
theorem dX2_append_30 : decode cX2_append 30 = .ok (.iload 4, 2) := by decide +kernel
theorem dX2_append_32 : decode cX2_append 32 = .ok (.imul, 1) := by decide +kernel
theorem dX2_append_33 : decode cX2_append 33 = .ok (.lushr, 1) := by decide +kernel
theorem dX2_append_34 : decode cX2_append 34 = .ok (.ldc2_w 19, 3) := by decide +kernel
theorem dX2_append_37 : decode cX2_append 37 = .ok (.land, 1) := by decide +kernel
theorem dX2_append_38 : decode cX2_append 38 = .ok (.l2i, 1) := by decide +kernel
theorem dX2_append_39 : decode cX2_append 39 = .ok (.i2c, 1) := by decide +kernel
theorem dX2_append_40 : decode cX2_append 40 = .ok (.castore, 1) := by decide +kernel
theorem dX2_append_41 : decode cX2_append 41 = .ok (.aload_n 0, 1) := by decide +kernel
theorem dX2_append_42 : decode cX2_append 42 = .ok (.dup, 1) := by decide +kernel
theorem dX2_append_43 : decode cX2_append 43 = .ok (.getfield 15, 3) := by decide +kernel
theorem dX2_append_46 : decode cX2_append 46 = .ok (.iconst 1, 1) := by decide +kernel
theorem dX2_append_47 : decode cX2_append 47 = .ok (.iadd, 1) := by decide +kernel
theorem dX2_append_48 : decode cX2_append 48 = .ok (.putfield 15, 3) := by decide +kernel
theorem dX2_append_51 : decode cX2_append 51 = .ok (.iinc 4 (-1), 3) := by decide +kernel
theorem dX2_append_54 : decode cX2_append 54 = .ok (.goto (-49), 3) := by decide +kernel
theorem dX2_append_57 : decode cX2_append 57 = .ok (.return_, 1) := by decide +kernel
theorem dX2_firstFault_0 : decode cX2_firstFault 0 = .ok (.aload_n 0, 1) := by decide +kernel
theorem dX2_firstFault_1 : decode cX2_firstFault 1 = .ok (.invokevirtual 21, 3) := by decide +kernel
theorem dX2_firstFault_4 : decode cX2_firstFault 4 = .ok (.iconst 0, 1) := by decide +kernel
theorem dX2_firstFault_5 : decode cX2_firstFault 5 = .ok (.istore_n 1, 1) := by decide +kernel
theorem dX2_firstFault_6 : decode cX2_firstFault 6 = .ok (.iload_n 1, 1) := by decide +kernel
theorem dX2_firstFault_7 : decode cX2_firstFault 7 = .ok (.bipush 80, 2) := by decide +kernel
theorem dX2_firstFault_9 : decode cX2_firstFault 9 = .ok (.if_icmp .ge 30, 3) := by decide +kernel
theorem dX2_firstFault_12 : decode cX2_firstFault 12 = .ok (.aload_n 0, 1) := by decide +kernel
theorem dX2_firstFault_13 : decode cX2_firstFault 13 = .ok (.invokevirtual 24, 3) := by decide +kernel
theorem dX2_firstFault_16 : decode cX2_firstFault 16 = .ok (.ifCond .eq 23, 3) := by decide +kernel
theorem dX2_firstFault_19 : decode cX2_firstFault 19 = .ok (.aload_n 0, 1) := by decide +kernel
theorem dX2_firstFault_20 : decode cX2_firstFault 20 = .ok (.getfield 28, 3) := by decide +kernel
theorem dX2_firstFault_23 : decode cX2_firstFault 23 = .ok (.aload_n 0, 1) := by decide +kernel
theorem dX2_firstFault_24 : decode cX2_firstFault 24 = .ok (.getfield 15, 3) := by decide +kernel
theorem dX2_firstFault_27 : decode cX2_firstFault 27 = .ok (.if_icmp .ne 6, 3) := by decide +kernel
theorem dX2_firstFault_30 : decode cX2_firstFault 30 = .ok (.bipush (-6), 2) := by decide +kernel
theorem dX2_firstFault_32 : decode cX2_firstFault 32 = .ok (.ireturn, 1) := by decide +kernel
theorem dX2_firstFault_33 : decode cX2_firstFault 33 = .ok (.iinc 1 1, 3) := by decide +kernel
theorem dX2_firstFault_36 : decode cX2_firstFault 36 = .ok (.goto (-30), 3) := by decide +kernel
theorem dX2_firstFault_39 : decode cX2_firstFault 39 = .ok (.aload_n 0, 1) := by decide +kernel
theorem dX2_firstFault_40 : decode cX2_firstFault 40 = .ok (.getfield 28, 3) := by decide +kernel
theorem dX2_firstFault_43 : decode cX2_firstFault 43 = .ok (.ireturn, 1) := by decide +kernel
theorem dX2_begin_0 : decode cX2_begin 0 = .ok (.aload_n 0, 1) := by decide +kernel
theorem dX2_begin_1 : decode cX2_begin 1 = .ok (.iconst 0, 1) := by decide +kernel
theorem dX2_begin_2 : decode cX2_begin 2 = .ok (.putfield 28, 3) := by decide +kernel
theorem dX2_begin_5 : decode cX2_begin 5 = .ok (.return_, 1) := by decide +kernel
theorem dX2_readNext_0 : decode cX2_readNext 0 = .ok (.aload_n 0, 1) := by decide +kernel
theorem dX2_readNext_1 : decode cX2_readNext 1 = .ok (.getfield 28, 3) := by decide +kernel
theorem dX2_readNext_4 : decode cX2_readNext 4 = .ok (.ifCond .eq 12, 3) := by decide +kernel
theorem dX2_readNext_7 : decode cX2_readNext 7 = .ok (.aload_n 0, 1) := by decide +kernel
theorem dX2_readNext_8 : decode cX2_readNext 8 = .ok (.bipush 59, 2) := by decide +kernel
theorem dX2_readNext_10 : decode cX2_readNext 10 = .ok (.invokevirtual 31, 3) := by decide +kernel
theorem dX2_readNext_13 : decode cX2_readNext 13 = .ok (.ifCond .eq 14, 3) := by decide +kernel
theorem dX2_readNext_16 : decode cX2_readNext 16 = .ok (.aload_n 0, 1) := by decide +kernel
theorem dX2_readNext_17 : decode cX2_readNext 17 = .ok (.invokevirtual 35, 3) := by decide +kernel
theorem dX2_readNext_20 : decode cX2_readNext 20 = .ok (.ifCond .eq 7, 3) := by decide +kernel
theorem dX2_readNext_23 : decode cX2_readNext 23 = .ok (.iconst 1, 1) := by decide +kernel
theorem dX2_readNext_24 : decode cX2_readNext 24 = .ok (.goto 4, 3) := by decide +kernel
theorem dX2_readNext_27 : decode cX2_readNext 27 = .ok (.iconst 0, 1) := by decide +kernel
theorem dX2_readNext_28 : decode cX2_readNext 28 = .ok (.ireturn, 1) := by decide +kernel
theorem dX2_readOrder_0 : decode cX2_readOrder 0 = .ok (.aload_n 0, 1) := by decide +kernel
theorem dX2_readOrder_1 : decode cX2_readOrder 1 = .ok (.aload_n 0, 1) := by decide +kernel
theorem dX2_readOrder_2 : decode cX2_readOrder 2 = .ok (.invokevirtual 38, 3) := by decide +kernel
theorem dX2_readOrder_5 : decode cX2_readOrder 5 = .ok (.putfield 42, 3) := by decide +kernel
theorem dX2_readOrder_8 : decode cX2_readOrder 8 = .ok (.aload_n 0, 1) := by decide +kernel
theorem dX2_readOrder_9 : decode cX2_readOrder 9 = .ok (.getfield 42, 3) := by decide +kernel
theorem dX2_readOrder_12 : decode cX2_readOrder 12 = .ok (.lookupswitch 177 #[(103, 52), (115, 52), (116, 155), (118, 110), (119, 81)], 52) := by decide +kernel
theorem dX2_readOrder_64 : decode cX2_readOrder 64 = .ok (.aload_n 0, 1) := by decide +kernel
theorem dX2_readOrder_65 : decode cX2_readOrder 65 = .ok (.invokevirtual 46, 3) := by decide +kernel
theorem dX2_readOrder_68 : decode cX2_readOrder 68 = .ok (.ifCond .eq 23, 3) := by decide +kernel
theorem dX2_readOrder_71 : decode cX2_readOrder 71 = .ok (.aload_n 0, 1) := by decide +kernel
theorem dX2_readOrder_72 : decode cX2_readOrder 72 = .ok (.bipush 64, 2) := by decide +kernel
theorem dX2_readOrder_74 : decode cX2_readOrder 74 = .ok (.invokevirtual 31, 3) := by decide +kernel
theorem dX2_readOrder_77 : decode cX2_readOrder 77 = .ok (.ifCond .eq 14, 3) := by decide +kernel
theorem dX2_readOrder_80 : decode cX2_readOrder 80 = .ok (.aload_n 0, 1) := by decide +kernel
theorem dX2_readOrder_81 : decode cX2_readOrder 81 = .ok (.invokevirtual 49, 3) := by decide +kernel
theorem dX2_readOrder_84 : decode cX2_readOrder 84 = .ok (.ifCond .eq 7, 3) := by decide +kernel
theorem dX2_readOrder_87 : decode cX2_readOrder 87 = .ok (.iconst 1, 1) := by decide +kernel
theorem dX2_readOrder_88 : decode cX2_readOrder 88 = .ok (.goto 4, 3) := by decide +kernel
theorem dX2_readOrder_91 : decode cX2_readOrder 91 = .ok (.iconst 0, 1) := by decide +kernel
theorem dX2_readOrder_92 : decode cX2_readOrder 92 = .ok (.ireturn, 1) := by decide +kernel
theorem dX2_readOrder_93 : decode cX2_readOrder 93 = .ok (.aload_n 0, 1) := by decide +kernel
theorem dX2_readOrder_94 : decode cX2_readOrder 94 = .ok (.invokevirtual 46, 3) := by decide +kernel
theorem dX2_readOrder_97 : decode cX2_readOrder 97 = .ok (.ifCond .eq 23, 3) := by decide +kernel
theorem dX2_readOrder_100 : decode cX2_readOrder 100 = .ok (.aload_n 0, 1) := by decide +kernel
theorem dX2_readOrder_101 : decode cX2_readOrder 101 = .ok (.bipush 42, 2) := by decide +kernel
theorem dX2_readOrder_103 : decode cX2_readOrder 103 = .ok (.invokevirtual 31, 3) := by decide +kernel
theorem dX2_readOrder_106 : decode cX2_readOrder 106 = .ok (.ifCond .eq 14, 3) := by decide +kernel
theorem dX2_readOrder_109 : decode cX2_readOrder 109 = .ok (.aload_n 0, 1) := by decide +kernel
theorem dX2_readOrder_110 : decode cX2_readOrder 110 = .ok (.invokevirtual 49, 3) := by decide +kernel
theorem dX2_readOrder_113 : decode cX2_readOrder 113 = .ok (.ifCond .eq 7, 3) := by decide +kernel
theorem dX2_readOrder_116 : decode cX2_readOrder 116 = .ok (.iconst 1, 1) := by decide +kernel
theorem dX2_readOrder_117 : decode cX2_readOrder 117 = .ok (.goto 4, 3) := by decide +kernel
theorem dX2_readOrder_120 : decode cX2_readOrder 120 = .ok (.iconst 0, 1) := by decide +kernel
theorem dX2_readOrder_121 : decode cX2_readOrder 121 = .ok (.ireturn, 1) := by decide +kernel
theorem dX2_readOrder_122 : decode cX2_readOrder 122 = .ok (.aload_n 0, 1) := by decide +kernel
theorem dX2_readOrder_123 : decode cX2_readOrder 123 = .ok (.invokevirtual 46, 3) := by decide +kernel
theorem dX2_readOrder_126 : decode cX2_readOrder 126 = .ok (.ifCond .eq 39, 3) := by decide +kernel
theorem dX2_readOrder_129 : decode cX2_readOrder 129 = .ok (.aload_n 0, 1) := by decide +kernel
theorem dX2_readOrder_130 : decode cX2_readOrder 130 = .ok (.bipush 47, 2) := by decide +kernel
theorem dX2_readOrder_132 : decode cX2_readOrder 132 = .ok (.invokevirtual 31, 3) := by decide +kernel
theorem dX2_readOrder_135 : decode cX2_readOrder 135 = .ok (.ifCond .eq 30, 3) := by decide +kernel
theorem dX2_readOrder_138 : decode cX2_readOrder 138 = .ok (.aload_n 0, 1) := by decide +kernel
theorem dX2_readOrder_139 : decode cX2_readOrder 139 = .ok (.invokevirtual 49, 3) := by decide +kernel
theorem dX2_readOrder_142 : decode cX2_readOrder 142 = .ok (.ifCond .eq 23, 3) := by decide +kernel
theorem dX2_readOrder_145 : decode cX2_readOrder 145 = .ok (.aload_n 0, 1) := by decide +kernel
theorem dX2_readOrder_146 : decode cX2_readOrder 146 = .ok (.bipush 42, 2) := by decide +kernel
theorem dX2_readOrder_148 : decode cX2_readOrder 148 = .ok (.invokevirtual 31, 3) := by decide +kernel
theorem dX2_readOrder_151 : decode cX2_readOrder 151 = .ok (.ifCond .eq 14, 3) := by decide +kernel
theorem dX2_readOrder_154 : decode cX2_readOrder 154 = .ok (.aload_n 0, 1) := by decide +kernel
theorem dX2_readOrder_155 : decode cX2_readOrder 155 = .ok (.invokevirtual 52, 3) := by decide +kernel
theorem dX2_readOrder_158 : decode cX2_readOrder 158 = .ok (.ifCond .eq 7, 3) := by decide +kernel
theorem dX2_readOrder_161 : decode cX2_readOrder 161 = .ok (.iconst 1, 1) := by decide +kernel
theorem dX2_readOrder_162 : decode cX2_readOrder 162 = .ok (.goto 4, 3) := by decide +kernel
theorem dX2_readOrder_165 : decode cX2_readOrder 165 = .ok (.iconst 0, 1) := by decide +kernel
theorem dX2_readOrder_166 : decode cX2_readOrder 166 = .ok (.ireturn, 1) := by decide +kernel
theorem dX2_readOrder_167 : decode cX2_readOrder 167 = .ok (.aload_n 0, 1) := by decide +kernel
theorem dX2_readOrder_168 : decode cX2_readOrder 168 = .ok (.bipush 116, 2) := by decide +kernel
theorem dX2_readOrder_170 : decode cX2_readOrder 170 = .ok (.invokevirtual 31, 3) := by decide +kernel
theorem dX2_readOrder_173 : decode cX2_readOrder 173 = .ok (.ifCond .eq 14, 3) := by decide +kernel
theorem dX2_readOrder_176 : decode cX2_readOrder 176 = .ok (.aload_n 0, 1) := by decide +kernel
theorem dX2_readOrder_177 : decode cX2_readOrder 177 = .ok (.invokevirtual 49, 3) := by decide +kernel
theorem dX2_readOrder_180 : decode cX2_readOrder 180 = .ok (.ifCond .eq 7, 3) := by decide +kernel
theorem dX2_readOrder_183 : decode cX2_readOrder 183 = .ok (.iconst 1, 1) := by decide +kernel
theorem dX2_readOrder_184 : decode cX2_readOrder 184 = .ok (.goto 4, 3) := by decide +kernel
theorem dX2_readOrder_187 : decode cX2_readOrder 187 = .ok (.iconst 0, 1) := by decide +kernel
theorem dX2_readOrder_188 : decode cX2_readOrder 188 = .ok (.ireturn, 1) := by decide +kernel
theorem dX2_readOrder_189 : decode cX2_readOrder 189 = .ok (.iconst 0, 1) := by decide +kernel
theorem dX2_readOrder_190 : decode cX2_readOrder 190 = .ok (.ireturn, 1) := by decide +kernel
theorem dX2_readKindAndDrive_0 : decode cX2_readKindAndDrive 0 = .ok (.aload_n 0, 1) := by decide +kernel
theorem dX2_readKindAndDrive_1 : decode cX2_readKindAndDrive 1 = .ok (.dup, 1) := by decide +kernel
theorem dX2_readKindAndDrive_2 : decode cX2_readKindAndDrive 2 = .ok (.getfield 28, 3) := by decide +kernel
theorem dX2_readKindAndDrive_5 : decode cX2_readKindAndDrive 5 = .ok (.iconst 1, 1) := by decide +kernel
theorem dX2_readKindAndDrive_6 : decode cX2_readKindAndDrive 6 = .ok (.iadd, 1) := by decide +kernel
theorem dX2_readKindAndDrive_7 : decode cX2_readKindAndDrive 7 = .ok (.putfield 28, 3) := by decide +kernel
theorem dX2_readKindAndDrive_10 : decode cX2_readKindAndDrive 10 = .ok (.aload_n 0, 1) := by decide +kernel
theorem dX2_readKindAndDrive_11 : decode cX2_readKindAndDrive 11 = .ok (.aload_n 0, 1) := by decide +kernel
theorem dX2_readKindAndDrive_12 : decode cX2_readKindAndDrive 12 = .ok (.invokevirtual 38, 3) := by decide +kernel
theorem dX2_readKindAndDrive_15 : decode cX2_readKindAndDrive 15 = .ok (.bipush 48, 2) := by decide +kernel
theorem dX2_readKindAndDrive_17 : decode cX2_readKindAndDrive 17 = .ok (.isub, 1) := by decide +kernel
theorem dX2_readKindAndDrive_18 : decode cX2_readKindAndDrive 18 = .ok (.putfield 55, 3) := by decide +kernel
theorem dX2_readKindAndDrive_21 : decode cX2_readKindAndDrive 21 = .ok (.aload_n 0, 1) := by decide +kernel
theorem dX2_readKindAndDrive_22 : decode cX2_readKindAndDrive 22 = .ok (.getfield 55, 3) := by decide +kernel
theorem dX2_readKindAndDrive_25 : decode cX2_readKindAndDrive 25 = .ok (.invokestatic 58, 3) := by decide +kernel
theorem dX2_readKindAndDrive_28 : decode cX2_readKindAndDrive 28 = .ok (.ifCond .ne 5, 3) := by decide +kernel
theorem dX2_readKindAndDrive_31 : decode cX2_readKindAndDrive 31 = .ok (.iconst 0, 1) := by decide +kernel
theorem dX2_readKindAndDrive_32 : decode cX2_readKindAndDrive 32 = .ok (.ireturn, 1) := by decide +kernel
theorem dX2_readKindAndDrive_33 : decode cX2_readKindAndDrive 33 = .ok (.aload_n 0, 1) := by decide +kernel
theorem dX2_readKindAndDrive_34 : decode cX2_readKindAndDrive 34 = .ok (.dup, 1) := by decide +kernel
theorem dX2_readKindAndDrive_35 : decode cX2_readKindAndDrive 35 = .ok (.getfield 28, 3) := by decide +kernel
theorem dX2_readKindAndDrive_38 : decode cX2_readKindAndDrive 38 = .ok (.iconst 1, 1) := by decide +kernel
theorem dX2_readKindAndDrive_39 : decode cX2_readKindAndDrive 39 = .ok (.iadd, 1) := by decide +kernel
theorem dX2_readKindAndDrive_40 : decode cX2_readKindAndDrive 40 = .ok (.putfield 28, 3) := by decide +kernel
theorem dX2_readKindAndDrive_43 : decode cX2_readKindAndDrive 43 = .ok (.iconst 1, 1) := by decide +kernel
theorem dX2_readKindAndDrive_44 : decode cX2_readKindAndDrive 44 = .ok (.ireturn, 1) := by decide +kernel
theorem dX2_readSign_0 : decode cX2_readSign 0 = .ok (.aload_n 0, 1) := by decide +kernel
theorem dX2_readSign_1 : decode cX2_readSign 1 = .ok (.invokevirtual 38, 3) := by decide +kernel
theorem dX2_readSign_4 : decode cX2_readSign 4 = .ok (.iload_n 1, 1) := by decide +kernel
theorem dX2_readSign_5 : decode cX2_readSign 5 = .ok (.if_icmp .eq 5, 3) := by decide +kernel
theorem dX2_readSign_8 : decode cX2_readSign 8 = .ok (.iconst 0, 1) := by decide +kernel
theorem dX2_readSign_9 : decode cX2_readSign 9 = .ok (.ireturn, 1) := by decide +kernel
theorem dX2_readSign_10 : decode cX2_readSign 10 = .ok (.aload_n 0, 1) := by decide +kernel
theorem dX2_readSign_11 : decode cX2_readSign 11 = .ok (.dup, 1) := by decide +kernel
theorem dX2_readSign_12 : decode cX2_readSign 12 = .ok (.getfield 28, 3) := by decide +kernel
theorem dX2_readSign_15 : decode cX2_readSign 15 = .ok (.iconst 1, 1) := by decide +kernel
theorem dX2_readSign_16 : decode cX2_readSign 16 = .ok (.iadd, 1) := by decide +kernel
theorem dX2_readSign_17 : decode cX2_readSign 17 = .ok (.putfield 28, 3) := by decide +kernel
theorem dX2_readSign_20 : decode cX2_readSign 20 = .ok (.iconst 1, 1) := by decide +kernel
theorem dX2_readSign_21 : decode cX2_readSign 21 = .ok (.ireturn, 1) := by decide +kernel
theorem dX2_readFirst_0 : decode cX2_readFirst 0 = .ok (.aload_n 0, 1) := by decide +kernel
theorem dX2_readFirst_1 : decode cX2_readFirst 1 = .ok (.aload_n 0, 1) := by decide +kernel
theorem dX2_readFirst_2 : decode cX2_readFirst 2 = .ok (.invokevirtual 62, 3) := by decide +kernel
theorem dX2_readFirst_5 : decode cX2_readFirst 5 = .ok (.putfield 66, 3) := by decide +kernel
theorem dX2_readFirst_8 : decode cX2_readFirst 8 = .ok (.aload_n 0, 1) := by decide +kernel
theorem dX2_readFirst_9 : decode cX2_readFirst 9 = .ok (.getfield 66, 3) := by decide +kernel
theorem dX2_readFirst_12 : decode cX2_readFirst 12 = .ok (.iconst (-1), 1) := by decide +kernel
theorem dX2_readFirst_13 : decode cX2_readFirst 13 = .ok (.if_icmp .eq 7, 3) := by decide +kernel
theorem dX2_readFirst_16 : decode cX2_readFirst 16 = .ok (.iconst 1, 1) := by decide +kernel
theorem dX2_readFirst_17 : decode cX2_readFirst 17 = .ok (.goto 4, 3) := by decide +kernel
theorem dX2_readFirst_20 : decode cX2_readFirst 20 = .ok (.iconst 0, 1) := by decide +kernel
theorem dX2_readFirst_21 : decode cX2_readFirst 21 = .ok (.ireturn, 1) := by decide +kernel
theorem dX2_readSecond_0 : decode cX2_readSecond 0 = .ok (.aload_n 0, 1) := by decide +kernel
theorem dX2_readSecond_1 : decode cX2_readSecond 1 = .ok (.aload_n 0, 1) := by decide +kernel
theorem dX2_readSecond_2 : decode cX2_readSecond 2 = .ok (.invokevirtual 62, 3) := by decide +kernel
theorem dX2_readSecond_5 : decode cX2_readSecond 5 = .ok (.putfield 69, 3) := by decide +kernel
theorem dX2_readSecond_8 : decode cX2_readSecond 8 = .ok (.aload_n 0, 1) := by decide +kernel
theorem dX2_readSecond_9 : decode cX2_readSecond 9 = .ok (.getfield 69, 3) := by decide +kernel
theorem dX2_readSecond_12 : decode cX2_readSecond 12 = .ok (.iconst (-1), 1) := by decide +kernel
theorem dX2_readSecond_13 : decode cX2_readSecond 13 = .ok (.if_icmp .eq 7, 3) := by decide +kernel
theorem dX2_readSecond_16 : decode cX2_readSecond 16 = .ok (.iconst 1, 1) := by decide +kernel
theorem dX2_readSecond_17 : decode cX2_readSecond 17 = .ok (.goto 4, 3) := by decide +kernel
theorem dX2_readSecond_20 : decode cX2_readSecond 20 = .ok (.iconst 0, 1) := by decide +kernel
theorem dX2_readSecond_21 : decode cX2_readSecond 21 = .ok (.ireturn, 1) := by decide +kernel
theorem dX2_readNumber_0 : decode cX2_readNumber 0 = .ok (.aload_n 0, 1) := by decide +kernel
theorem dX2_readNumber_1 : decode cX2_readNumber 1 = .ok (.invokevirtual 38, 3) := by decide +kernel
theorem dX2_readNumber_4 : decode cX2_readNumber 4 = .ok (.invokestatic 72, 3) := by decide +kernel
theorem dX2_readNumber_7 : decode cX2_readNumber 7 = .ok (.ifCond .ne 5, 3) := by decide +kernel
theorem dX2_readNumber_10 : decode cX2_readNumber 10 = .ok (.iconst (-1), 1) := by decide +kernel
theorem dX2_readNumber_11 : decode cX2_readNumber 11 = .ok (.ireturn, 1) := by decide +kernel
theorem dX2_readNumber_12 : decode cX2_readNumber 12 = .ok (.aload_n 0, 1) := by decide +kernel
theorem dX2_readNumber_13 : decode cX2_readNumber 13 = .ok (.invokevirtual 38, 3) := by decide +kernel
theorem dX2_readNumber_16 : decode cX2_readNumber 16 = .ok (.bipush 48, 2) := by decide +kernel
theorem dX2_readNumber_18 : decode cX2_readNumber 18 = .ok (.isub, 1) := by decide +kernel
theorem dX2_readNumber_19 : decode cX2_readNumber 19 = .ok (.istore_n 1, 1) := by decide +kernel
theorem dX2_readNumber_20 : decode cX2_readNumber 20 = .ok (.aload_n 0, 1) := by decide +kernel
theorem dX2_readNumber_21 : decode cX2_readNumber 21 = .ok (.dup, 1) := by decide +kernel
theorem dX2_readNumber_22 : decode cX2_readNumber 22 = .ok (.getfield 28, 3) := by decide +kernel
theorem dX2_readNumber_25 : decode cX2_readNumber 25 = .ok (.iconst 1, 1) := by decide +kernel
theorem dX2_readNumber_26 : decode cX2_readNumber 26 = .ok (.iadd, 1) := by decide +kernel
theorem dX2_readNumber_27 : decode cX2_readNumber 27 = .ok (.putfield 28, 3) := by decide +kernel
theorem dX2_readNumber_30 : decode cX2_readNumber 30 = .ok (.iload_n 1, 1) := by decide +kernel
theorem dX2_readNumber_31 : decode cX2_readNumber 31 = .ok (.ifCond .ne 7, 3) := by decide +kernel
theorem dX2_readNumber_34 : decode cX2_readNumber 34 = .ok (.iconst 0, 1) := by decide +kernel
theorem dX2_readNumber_35 : decode cX2_readNumber 35 = .ok (.goto 4, 3) := by decide +kernel
theorem dX2_readNumber_38 : decode cX2_readNumber 38 = .ok (.iconst 2, 1) := by decide +kernel
theorem dX2_readNumber_39 : decode cX2_readNumber 39 = .ok (.istore_n 2, 1) := by decide +kernel
theorem dX2_readNumber_40 : decode cX2_readNumber 40 = .ok (.iconst 0, 1) := by decide +kernel
theorem dX2_readNumber_41 : decode cX2_readNumber 41 = .ok (.istore_n 3, 1) := by decide +kernel
theorem dX2_readNumber_42 : decode cX2_readNumber 42 = .ok (.iload_n 3, 1) := by decide +kernel
theorem dX2_readNumber_43 : decode cX2_readNumber 43 = .ok (.iload_n 2, 1) := by decide +kernel
theorem dX2_readNumber_44 : decode cX2_readNumber 44 = .ok (.if_icmp .ge 42, 3) := by decide +kernel
theorem dX2_readNumber_47 : decode cX2_readNumber 47 = .ok (.aload_n 0, 1) := by decide +kernel
theorem dX2_readNumber_48 : decode cX2_readNumber 48 = .ok (.invokevirtual 38, 3) := by decide +kernel
theorem dX2_readNumber_51 : decode cX2_readNumber 51 = .ok (.invokestatic 72, 3) := by decide +kernel
theorem dX2_readNumber_54 : decode cX2_readNumber 54 = .ok (.ifCond .eq 32, 3) := by decide +kernel
theorem dX2_readNumber_57 : decode cX2_readNumber 57 = .ok (.iload_n 1, 1) := by decide +kernel
theorem dX2_readNumber_58 : decode cX2_readNumber 58 = .ok (.bipush 10, 2) := by decide +kernel
theorem dX2_readNumber_60 : decode cX2_readNumber 60 = .ok (.imul, 1) := by decide +kernel
theorem dX2_readNumber_61 : decode cX2_readNumber 61 = .ok (.aload_n 0, 1) := by decide +kernel
theorem dX2_readNumber_62 : decode cX2_readNumber 62 = .ok (.invokevirtual 38, 3) := by decide +kernel
theorem dX2_readNumber_65 : decode cX2_readNumber 65 = .ok (.bipush 48, 2) := by decide +kernel
theorem dX2_readNumber_67 : decode cX2_readNumber 67 = .ok (.isub, 1) := by decide +kernel
theorem dX2_readNumber_68 : decode cX2_readNumber 68 = .ok (.iadd, 1) := by decide +kernel
theorem dX2_readNumber_69 : decode cX2_readNumber 69 = .ok (.istore_n 1, 1) := by decide +kernel
theorem dX2_readNumber_70 : decode cX2_readNumber 70 = .ok (.aload_n 0, 1) := by decide +kernel
theorem dX2_readNumber_71 : decode cX2_readNumber 71 = .ok (.dup, 1) := by decide +kernel
theorem dX2_readNumber_72 : decode cX2_readNumber 72 = .ok (.getfield 28, 3) := by decide +kernel
theorem dX2_readNumber_75 : decode cX2_readNumber 75 = .ok (.iconst 1, 1) := by decide +kernel
theorem dX2_readNumber_76 : decode cX2_readNumber 76 = .ok (.iadd, 1) := by decide +kernel
theorem dX2_readNumber_77 : decode cX2_readNumber 77 = .ok (.putfield 28, 3) := by decide +kernel
theorem dX2_readNumber_80 : decode cX2_readNumber 80 = .ok (.iinc 3 1, 3) := by decide +kernel
theorem dX2_readNumber_83 : decode cX2_readNumber 83 = .ok (.goto (-41), 3) := by decide +kernel
theorem dX2_readNumber_86 : decode cX2_readNumber 86 = .ok (.iload_n 1, 1) := by decide +kernel
theorem dX2_readNumber_87 : decode cX2_readNumber 87 = .ok (.ireturn, 1) := by decide +kernel
theorem dX2_isDigit_0 : decode cX2_isDigit 0 = .ok (.iload_n 0, 1) := by decide +kernel
theorem dX2_isDigit_1 : decode cX2_isDigit 1 = .ok (.bipush 48, 2) := by decide +kernel
theorem dX2_isDigit_3 : decode cX2_isDigit 3 = .ok (.if_icmp .lt 13, 3) := by decide +kernel
theorem dX2_isDigit_6 : decode cX2_isDigit 6 = .ok (.iload_n 0, 1) := by decide +kernel
theorem dX2_isDigit_7 : decode cX2_isDigit 7 = .ok (.bipush 57, 2) := by decide +kernel
theorem dX2_isDigit_9 : decode cX2_isDigit 9 = .ok (.if_icmp .gt 7, 3) := by decide +kernel
theorem dX2_isDigit_12 : decode cX2_isDigit 12 = .ok (.iconst 1, 1) := by decide +kernel
theorem dX2_isDigit_13 : decode cX2_isDigit 13 = .ok (.goto 4, 3) := by decide +kernel
theorem dX2_isDigit_16 : decode cX2_isDigit 16 = .ok (.iconst 0, 1) := by decide +kernel
theorem dX2_isDigit_17 : decode cX2_isDigit 17 = .ok (.ireturn, 1) := by decide +kernel
theorem dX2_signHere_0 : decode cX2_signHere 0 = .ok (.aload_n 0, 1) := by decide +kernel
theorem dX2_signHere_1 : decode cX2_signHere 1 = .ok (.getfield 28, 3) := by decide +kernel
theorem dX2_signHere_4 : decode cX2_signHere 4 = .ok (.ifCond .lt 35, 3) := by decide +kernel
theorem dX2_signHere_7 : decode cX2_signHere 7 = .ok (.aload_n 0, 1) := by decide +kernel
theorem dX2_signHere_8 : decode cX2_signHere 8 = .ok (.getfield 28, 3) := by decide +kernel
theorem dX2_signHere_11 : decode cX2_signHere 11 = .ok (.aload_n 0, 1) := by decide +kernel
theorem dX2_signHere_12 : decode cX2_signHere 12 = .ok (.getfield 15, 3) := by decide +kernel
theorem dX2_signHere_15 : decode cX2_signHere 15 = .ok (.if_icmp .ge 24, 3) := by decide +kernel
theorem dX2_signHere_18 : decode cX2_signHere 18 = .ok (.aload_n 0, 1) := by decide +kernel
theorem dX2_signHere_19 : decode cX2_signHere 19 = .ok (.getfield 28, 3) := by decide +kernel
theorem dX2_signHere_22 : decode cX2_signHere 22 = .ok (.bipush 80, 2) := by decide +kernel
theorem dX2_signHere_24 : decode cX2_signHere 24 = .ok (.if_icmp .ge 15, 3) := by decide +kernel
theorem dX2_signHere_27 : decode cX2_signHere 27 = .ok (.aload_n 0, 1) := by decide +kernel
theorem dX2_signHere_28 : decode cX2_signHere 28 = .ok (.getfield 9, 3) := by decide +kernel
theorem dX2_signHere_31 : decode cX2_signHere 31 = .ok (.aload_n 0, 1) := by decide +kernel
theorem dX2_signHere_32 : decode cX2_signHere 32 = .ok (.getfield 28, 3) := by decide +kernel
theorem dX2_signHere_35 : decode cX2_signHere 35 = .ok (.caload, 1) := by decide +kernel
theorem dX2_signHere_36 : decode cX2_signHere 36 = .ok (.goto 4, 3) := by decide +kernel
theorem dX2_signHere_39 : decode cX2_signHere 39 = .ok (.iconst 0, 1) := by decide +kernel
theorem dX2_signHere_40 : decode cX2_signHere 40 = .ok (.ireturn, 1) := by decide +kernel
theorem dX3_init_0 : decode cX3_init 0 = .ok (.aload_n 0, 1) := by decide +kernel
theorem dX3_init_1 : decode cX3_init 1 = .ok (.invokespecial 3, 3) := by decide +kernel
theorem dX3_init_4 : decode cX3_init 4 = .ok (.aload_n 0, 1) := by decide +kernel
theorem dX3_init_5 : decode cX3_init 5 = .ok (.bipush 7, 2) := by decide +kernel
theorem dX3_init_7 : decode cX3_init 7 = .ok (.newarray .int, 2) := by decide +kernel
theorem dX3_init_9 : decode cX3_init 9 = .ok (.putfield 9, 3) := by decide +kernel
theorem dX3_init_12 : decode cX3_init 12 = .ok (.aload_n 0, 1) := by decide +kernel
theorem dX3_init_13 : decode cX3_init 13 = .ok (.iconst 4, 1) := by decide +kernel
theorem dX3_init_14 : decode cX3_init 14 = .ok (.anewarray 15, 3) := by decide +kernel
theorem dX3_init_17 : decode cX3_init 17 = .ok (.putfield 17, 3) := by decide +kernel
theorem dX3_init_20 : decode cX3_init 20 = .ok (.getstatic 21, 3) := by decide +kernel
theorem dX3_init_23 : decode cX3_init 23 = .ok (.iconst 0, 1) := by decide +kernel
theorem dX3_init_24 : decode cX3_init 24 = .ok (.aload_n 0, 1) := by decide +kernel
theorem dX3_init_25 : decode cX3_init 25 = .ok (.getfield 9, 3) := by decide +kernel
theorem dX3_init_28 : decode cX3_init 28 = .ok (.iconst 0, 1) := by decide +kernel
theorem dX3_init_29 : decode cX3_init 29 = .ok (.bipush 7, 2) := by decide +kernel
theorem dX3_init_31 : decode cX3_init 31 = .ok (.invokestatic 24, 3) := by decide +kernel
theorem dX3_init_34 : decode cX3_init 34 = .ok (.iconst 0, 1) := by decide +kernel
theorem dX3_init_35 : decode cX3_init 35 = .ok (.istore_n 1, 1) := by decide +kernel
theorem dX3_init_36 : decode cX3_init 36 = .ok (.iload_n 1, 1) := by decide +kernel
theorem dX3_init_37 : decode cX3_init 37 = .ok (.iconst 4, 1) := by decide +kernel
theorem dX3_init_38 : decode cX3_init 38 = .ok (.if_icmp .ge 22, 3) := by decide +kernel
theorem dX3_init_41 : decode cX3_init 41 = .ok (.aload_n 0, 1) := by decide +kernel
theorem dX3_init_42 : decode cX3_init 42 = .ok (.getfield 17, 3) := by decide +kernel
theorem dX3_init_45 : decode cX3_init 45 = .ok (.iload_n 1, 1) := by decide +kernel
theorem dX3_init_46 : decode cX3_init 46 = .ok (.new 15, 3) := by decide +kernel
theorem dX3_init_49 : decode cX3_init 49 = .ok (.dup, 1) := by decide +kernel
theorem dX3_init_50 : decode cX3_init 50 = .ok (.invokespecial 30, 3) := by decide +kernel
theorem dX3_init_53 : decode cX3_init 53 = .ok (.aastore, 1) := by decide +kernel
theorem dX3_init_54 : decode cX3_init 54 = .ok (.iinc 1 1, 3) := by decide +kernel
theorem dX3_init_57 : decode cX3_init 57 = .ok (.goto (-21), 3) := by decide +kernel
theorem dX3_init_60 : decode cX3_init 60 = .ok (.return_, 1) := by decide +kernel
theorem dX3_copyFrom_0 : decode cX3_copyFrom 0 = .ok (.aload_n 1, 1) := by decide +kernel
theorem dX3_copyFrom_1 : decode cX3_copyFrom 1 = .ok (.getfield 9, 3) := by decide +kernel
theorem dX3_copyFrom_4 : decode cX3_copyFrom 4 = .ok (.iconst 0, 1) := by decide +kernel
theorem dX3_copyFrom_5 : decode cX3_copyFrom 5 = .ok (.aload_n 0, 1) := by decide +kernel
theorem dX3_copyFrom_6 : decode cX3_copyFrom 6 = .ok (.getfield 9, 3) := by decide +kernel
theorem dX3_copyFrom_9 : decode cX3_copyFrom 9 = .ok (.iconst 0, 1) := by decide +kernel
theorem dX3_copyFrom_10 : decode cX3_copyFrom 10 = .ok (.bipush 7, 2) := by decide +kernel
theorem dX3_copyFrom_12 : decode cX3_copyFrom 12 = .ok (.invokestatic 24, 3) := by decide +kernel
theorem dX3_copyFrom_15 : decode cX3_copyFrom 15 = .ok (.iconst 0, 1) := by decide +kernel
theorem dX3_copyFrom_16 : decode cX3_copyFrom 16 = .ok (.istore_n 2, 1) := by decide +kernel
theorem dX3_copyFrom_17 : decode cX3_copyFrom 17 = .ok (.iload_n 2, 1) := by decide +kernel
theorem dX3_copyFrom_18 : decode cX3_copyFrom 18 = .ok (.iconst 4, 1) := by decide +kernel
theorem dX3_copyFrom_19 : decode cX3_copyFrom 19 = .ok (.if_icmp .ge 24, 3) := by decide +kernel
theorem dX3_copyFrom_22 : decode cX3_copyFrom 22 = .ok (.aload_n 0, 1) := by decide +kernel
theorem dX3_copyFrom_23 : decode cX3_copyFrom 23 = .ok (.getfield 17, 3) := by decide +kernel
theorem dX3_copyFrom_26 : decode cX3_copyFrom 26 = .ok (.iload_n 2, 1) := by decide +kernel
theorem dX3_copyFrom_27 : decode cX3_copyFrom 27 = .ok (.aaload, 1) := by decide +kernel
theorem dX3_copyFrom_28 : decode cX3_copyFrom 28 = .ok (.aload_n 1, 1) := by decide +kernel
theorem dX3_copyFrom_29 : decode cX3_copyFrom 29 = .ok (.getfield 17, 3) := by decide +kernel
theorem dX3_copyFrom_32 : decode cX3_copyFrom 32 = .ok (.iload_n 2, 1) := by decide +kernel
theorem dX3_copyFrom_33 : decode cX3_copyFrom 33 = .ok (.aaload, 1) := by decide +kernel
theorem dX3_copyFrom_34 : decode cX3_copyFrom 34 = .ok (.invokevirtual 31, 3) := by decide +kernel
theorem dX3_copyFrom_37 : decode cX3_copyFrom 37 = .ok (.iinc 2 1, 3) := by decide +kernel
theorem dX3_copyFrom_40 : decode cX3_copyFrom 40 = .ok (.goto (-23), 3) := by decide +kernel
theorem dX3_copyFrom_43 : decode cX3_copyFrom 43 = .ok (.aload_n 0, 1) := by decide +kernel
theorem dX3_copyFrom_44 : decode cX3_copyFrom 44 = .ok (.aload_n 1, 1) := by decide +kernel
theorem dX3_copyFrom_45 : decode cX3_copyFrom 45 = .ok (.getfield 35, 3) := by decide +kernel
theorem dX3_copyFrom_48 : decode cX3_copyFrom 48 = .ok (.putfield 35, 3) := by decide +kernel
theorem dX3_copyFrom_51 : decode cX3_copyFrom 51 = .ok (.aload_n 0, 1) := by decide +kernel
theorem dX3_copyFrom_52 : decode cX3_copyFrom 52 = .ok (.aload_n 1, 1) := by decide +kernel
theorem dX3_copyFrom_53 : decode cX3_copyFrom 53 = .ok (.getfield 39, 3) := by decide +kernel
theorem dX3_copyFrom_56 : decode cX3_copyFrom 56 = .ok (.putfield 39, 3) := by decide +kernel
end
section
theorem dX3_copyFrom_59 : decode cX3_copyFrom 59 = .ok (.aload_n 0, 1) := by decide +kernel
theorem dX3_copyFrom_60 : decode cX3_copyFrom 60 = .ok (.aload_n 1, 1) := by decide +kernel
theorem dX3_copyFrom_61 : decode cX3_copyFrom 61 = .ok (.getfield 42, 3) := by decide +kernel
theorem dX3_copyFrom_64 : decode cX3_copyFrom 64 = .ok (.putfield 42, 3) := by decide +kernel
theorem dX3_copyFrom_67 : decode cX3_copyFrom 67 = .ok (.aload_n 0, 1) := by decide +kernel
theorem dX3_copyFrom_68 : decode cX3_copyFrom 68 = .ok (.aload_n 1, 1) := by decide +kernel
theorem dX3_copyFrom_69 : decode cX3_copyFrom 69 = .ok (.getfield 45, 3) := by decide +kernel
theorem dX3_copyFrom_72 : decode cX3_copyFrom 72 = .ok (.putfield 45, 3) := by decide +kernel
theorem dX3_copyFrom_75 : decode cX3_copyFrom 75 = .ok (.aload_n 0, 1) := by decide +kernel
theorem dX3_copyFrom_76 : decode cX3_copyFrom 76 = .ok (.aload_n 1, 1) := by decide +kernel
theorem dX3_copyFrom_77 : decode cX3_copyFrom 77 = .ok (.getfield 48, 3) := by decide +kernel
theorem dX3_copyFrom_80 : decode cX3_copyFrom 80 = .ok (.putfield 48, 3) := by decide +kernel
theorem dX3_copyFrom_83 : decode cX3_copyFrom 83 = .ok (.return_, 1) := by decide +kernel
theorem dX3_hourOfNow_0 : decode cX3_hourOfNow 0 = .ok (.aload_n 0, 1) := by decide +kernel
theorem dX3_hourOfNow_1 : decode cX3_hourOfNow 1 = .ok (.getfield 35, 3) := by decide +kernel
theorem dX3_hourOfNow_4 : decode cX3_hourOfNow 4 = .ok (.bipush 60, 2) := by decide +kernel
theorem dX3_hourOfNow_6 : decode cX3_hourOfNow 6 = .ok (.idiv, 1) := by decide +kernel
theorem dX3_hourOfNow_7 : decode cX3_hourOfNow 7 = .ok (.ireturn, 1) := by decide +kernel
theorem dX3_changeSetting_0 : decode cX3_changeSetting 0 = .ok (.iload_n 1, 1) := by decide +kernel
theorem dX3_changeSetting_1 : decode cX3_changeSetting 1 = .ok (.ifCond .lt 9, 3) := by decide +kernel
theorem dX3_changeSetting_4 : decode cX3_changeSetting 4 = .ok (.iload_n 1, 1) := by decide +kernel
theorem dX3_changeSetting_5 : decode cX3_changeSetting 5 = .ok (.bipush 7, 2) := by decide +kernel
theorem dX3_changeSetting_7 : decode cX3_changeSetting 7 = .ok (.if_icmp .lt 6, 3) := by decide +kernel
theorem dX3_changeSetting_10 : decode cX3_changeSetting 10 = .ok (.bipush (-2), 2) := by decide +kernel
theorem dX3_changeSetting_12 : decode cX3_changeSetting 12 = .ok (.ireturn, 1) := by decide +kernel
theorem dX3_changeSetting_13 : decode cX3_changeSetting 13 = .ok (.iload_n 2, 1) := by decide +kernel
theorem dX3_changeSetting_14 : decode cX3_changeSetting 14 = .ok (.getstatic 51, 3) := by decide +kernel
theorem dX3_changeSetting_17 : decode cX3_changeSetting 17 = .ok (.iload_n 1, 1) := by decide +kernel
theorem dX3_changeSetting_18 : decode cX3_changeSetting 18 = .ok (.iaload, 1) := by decide +kernel
theorem dX3_changeSetting_19 : decode cX3_changeSetting 19 = .ok (.if_icmp .lt 12, 3) := by decide +kernel
theorem dX3_changeSetting_22 : decode cX3_changeSetting 22 = .ok (.iload_n 2, 1) := by decide +kernel
theorem dX3_changeSetting_23 : decode cX3_changeSetting 23 = .ok (.getstatic 54, 3) := by decide +kernel
theorem dX3_changeSetting_26 : decode cX3_changeSetting 26 = .ok (.iload_n 1, 1) := by decide +kernel
theorem dX3_changeSetting_27 : decode cX3_changeSetting 27 = .ok (.iaload, 1) := by decide +kernel
theorem dX3_changeSetting_28 : decode cX3_changeSetting 28 = .ok (.if_icmp .le 6, 3) := by decide +kernel
theorem dX3_changeSetting_31 : decode cX3_changeSetting 31 = .ok (.bipush (-2), 2) := by decide +kernel
theorem dX3_changeSetting_33 : decode cX3_changeSetting 33 = .ok (.ireturn, 1) := by decide +kernel
theorem dX3_changeSetting_34 : decode cX3_changeSetting 34 = .ok (.aload_n 0, 1) := by decide +kernel
theorem dX3_changeSetting_35 : decode cX3_changeSetting 35 = .ok (.getfield 9, 3) := by decide +kernel
theorem dX3_changeSetting_38 : decode cX3_changeSetting 38 = .ok (.iload_n 1, 1) := by decide +kernel
theorem dX3_changeSetting_39 : decode cX3_changeSetting 39 = .ok (.iaload, 1) := by decide +kernel
theorem dX3_changeSetting_40 : decode cX3_changeSetting 40 = .ok (.istore_n 3, 1) := by decide +kernel
theorem dX3_changeSetting_41 : decode cX3_changeSetting 41 = .ok (.aload_n 0, 1) := by decide +kernel
theorem dX3_changeSetting_42 : decode cX3_changeSetting 42 = .ok (.getfield 9, 3) := by decide +kernel
theorem dX3_changeSetting_45 : decode cX3_changeSetting 45 = .ok (.iload_n 1, 1) := by decide +kernel
theorem dX3_changeSetting_46 : decode cX3_changeSetting 46 = .ok (.iload_n 2, 1) := by decide +kernel
theorem dX3_changeSetting_47 : decode cX3_changeSetting 47 = .ok (.iastore, 1) := by decide +kernel
theorem dX3_changeSetting_48 : decode cX3_changeSetting 48 = .ok (.iload_n 3, 1) := by decide +kernel
theorem dX3_changeSetting_49 : decode cX3_changeSetting 49 = .ok (.ireturn, 1) := by decide +kernel
theorem dX3_changeStream_0 : decode cX3_changeStream 0 = .ok (.iload_n 1, 1) := by decide +kernel
theorem dX3_changeStream_1 : decode cX3_changeStream 1 = .ok (.invokestatic 57, 3) := by decide +kernel
theorem dX3_changeStream_4 : decode cX3_changeStream 4 = .ok (.ifCond .ne 5, 3) := by decide +kernel
theorem dX3_changeStream_7 : decode cX3_changeStream 7 = .ok (.iconst (-1), 1) := by decide +kernel
theorem dX3_changeStream_8 : decode cX3_changeStream 8 = .ok (.ireturn, 1) := by decide +kernel
theorem dX3_changeStream_9 : decode cX3_changeStream 9 = .ok (.iload_n 2, 1) := by decide +kernel
theorem dX3_changeStream_10 : decode cX3_changeStream 10 = .ok (.iconst 1, 1) := by decide +kernel
theorem dX3_changeStream_11 : decode cX3_changeStream 11 = .ok (.if_icmp .lt 19, 3) := by decide +kernel
theorem dX3_changeStream_14 : decode cX3_changeStream 14 = .ok (.iload_n 2, 1) := by decide +kernel
theorem dX3_changeStream_15 : decode cX3_changeStream 15 = .ok (.bipush 60, 2) := by decide +kernel
theorem dX3_changeStream_17 : decode cX3_changeStream 17 = .ok (.if_icmp .gt 13, 3) := by decide +kernel
theorem dX3_changeStream_20 : decode cX3_changeStream 20 = .ok (.iload_n 3, 1) := by decide +kernel
theorem dX3_changeStream_21 : decode cX3_changeStream 21 = .ok (.ifCond .lt 9, 3) := by decide +kernel
theorem dX3_changeStream_24 : decode cX3_changeStream 24 = .ok (.iload_n 3, 1) := by decide +kernel
theorem dX3_changeStream_25 : decode cX3_changeStream 25 = .ok (.bipush 20, 2) := by decide +kernel
theorem dX3_changeStream_27 : decode cX3_changeStream 27 = .ok (.if_icmp .le 6, 3) := by decide +kernel
theorem dX3_changeStream_30 : decode cX3_changeStream 30 = .ok (.bipush (-2), 2) := by decide +kernel
theorem dX3_changeStream_32 : decode cX3_changeStream 32 = .ok (.ireturn, 1) := by decide +kernel
theorem dX3_changeStream_33 : decode cX3_changeStream 33 = .ok (.aload_n 0, 1) := by decide +kernel
theorem dX3_changeStream_34 : decode cX3_changeStream 34 = .ok (.getfield 17, 3) := by decide +kernel
theorem dX3_changeStream_37 : decode cX3_changeStream 37 = .ok (.iload_n 1, 1) := by decide +kernel
theorem dX3_changeStream_38 : decode cX3_changeStream 38 = .ok (.aaload, 1) := by decide +kernel
theorem dX3_changeStream_39 : decode cX3_changeStream 39 = .ok (.getfield 61, 3) := by decide +kernel
theorem dX3_changeStream_42 : decode cX3_changeStream 42 = .ok (.istore 4, 2) := by decide +kernel
theorem dX3_changeStream_44 : decode cX3_changeStream 44 = .ok (.aload_n 0, 1) := by decide +kernel
theorem dX3_changeStream_45 : decode cX3_changeStream 45 = .ok (.getfield 17, 3) := by decide +kernel
theorem dX3_changeStream_48 : decode cX3_changeStream 48 = .ok (.iload_n 1, 1) := by decide +kernel
theorem dX3_changeStream_49 : decode cX3_changeStream 49 = .ok (.aaload, 1) := by decide +kernel
theorem dX3_changeStream_50 : decode cX3_changeStream 50 = .ok (.iload_n 2, 1) := by decide +kernel
theorem dX3_changeStream_51 : decode cX3_changeStream 51 = .ok (.putfield 64, 3) := by decide +kernel
theorem dX3_changeStream_54 : decode cX3_changeStream 54 = .ok (.aload_n 0, 1) := by decide +kernel
theorem dX3_changeStream_55 : decode cX3_changeStream 55 = .ok (.getfield 17, 3) := by decide +kernel
theorem dX3_changeStream_58 : decode cX3_changeStream 58 = .ok (.iload_n 1, 1) := by decide +kernel
theorem dX3_changeStream_59 : decode cX3_changeStream 59 = .ok (.aaload, 1) := by decide +kernel
theorem dX3_changeStream_60 : decode cX3_changeStream 60 = .ok (.iload_n 3, 1) := by decide +kernel
theorem dX3_changeStream_61 : decode cX3_changeStream 61 = .ok (.putfield 61, 3) := by decide +kernel
theorem dX3_changeStream_64 : decode cX3_changeStream 64 = .ok (.iload 4, 2) := by decide +kernel
theorem dX3_changeStream_66 : decode cX3_changeStream 66 = .ok (.ireturn, 1) := by decide +kernel
theorem dX3_bringUnits_0 : decode cX3_bringUnits 0 = .ok (.iload_n 1, 1) := by decide +kernel
theorem dX3_bringUnits_1 : decode cX3_bringUnits 1 = .ok (.invokestatic 57, 3) := by decide +kernel
theorem dX3_bringUnits_4 : decode cX3_bringUnits 4 = .ok (.ifCond .ne 5, 3) := by decide +kernel
theorem dX3_bringUnits_7 : decode cX3_bringUnits 7 = .ok (.iconst (-1), 1) := by decide +kernel
theorem dX3_bringUnits_8 : decode cX3_bringUnits 8 = .ok (.ireturn, 1) := by decide +kernel
theorem dX3_bringUnits_9 : decode cX3_bringUnits 9 = .ok (.iload_n 2, 1) := by decide +kernel
theorem dX3_bringUnits_10 : decode cX3_bringUnits 10 = .ok (.iconst 1, 1) := by decide +kernel
theorem dX3_bringUnits_11 : decode cX3_bringUnits 11 = .ok (.if_icmp .lt 10, 3) := by decide +kernel
theorem dX3_bringUnits_14 : decode cX3_bringUnits 14 = .ok (.iload_n 2, 1) := by decide +kernel
theorem dX3_bringUnits_15 : decode cX3_bringUnits 15 = .ok (.sipush 200, 3) := by decide +kernel
theorem dX3_bringUnits_18 : decode cX3_bringUnits 18 = .ok (.if_icmp .le 6, 3) := by decide +kernel
theorem dX3_bringUnits_21 : decode cX3_bringUnits 21 = .ok (.bipush (-2), 2) := by decide +kernel
theorem dX3_bringUnits_23 : decode cX3_bringUnits 23 = .ok (.ireturn, 1) := by decide +kernel
theorem dX3_bringUnits_24 : decode cX3_bringUnits 24 = .ok (.aload_n 0, 1) := by decide +kernel
theorem dX3_bringUnits_25 : decode cX3_bringUnits 25 = .ok (.getfield 17, 3) := by decide +kernel
theorem dX3_bringUnits_28 : decode cX3_bringUnits 28 = .ok (.iload_n 1, 1) := by decide +kernel
theorem dX3_bringUnits_29 : decode cX3_bringUnits 29 = .ok (.aaload, 1) := by decide +kernel
theorem dX3_bringUnits_30 : decode cX3_bringUnits 30 = .ok (.getfield 67, 3) := by decide +kernel
theorem dX3_bringUnits_33 : decode cX3_bringUnits 33 = .ok (.sipush 9999, 3) := by decide +kernel
theorem dX3_bringUnits_36 : decode cX3_bringUnits 36 = .ok (.iload_n 2, 1) := by decide +kernel
theorem dX3_bringUnits_37 : decode cX3_bringUnits 37 = .ok (.isub, 1) := by decide +kernel
theorem dX3_bringUnits_38 : decode cX3_bringUnits 38 = .ok (.if_icmp .le 6, 3) := by decide +kernel
theorem dX3_bringUnits_41 : decode cX3_bringUnits 41 = .ok (.bipush (-4), 2) := by decide +kernel
theorem dX3_bringUnits_43 : decode cX3_bringUnits 43 = .ok (.ireturn, 1) := by decide +kernel
theorem dX3_bringUnits_44 : decode cX3_bringUnits 44 = .ok (.aload_n 0, 1) := by decide +kernel
theorem dX3_bringUnits_45 : decode cX3_bringUnits 45 = .ok (.getfield 17, 3) := by decide +kernel
theorem dX3_bringUnits_48 : decode cX3_bringUnits 48 = .ok (.iload_n 1, 1) := by decide +kernel
theorem dX3_bringUnits_49 : decode cX3_bringUnits 49 = .ok (.aaload, 1) := by decide +kernel
theorem dX3_bringUnits_50 : decode cX3_bringUnits 50 = .ok (.dup, 1) := by decide +kernel
theorem dX3_bringUnits_51 : decode cX3_bringUnits 51 = .ok (.getfield 67, 3) := by decide +kernel
theorem dX3_bringUnits_54 : decode cX3_bringUnits 54 = .ok (.iload_n 2, 1) := by decide +kernel
theorem dX3_bringUnits_55 : decode cX3_bringUnits 55 = .ok (.iadd, 1) := by decide +kernel
theorem dX3_bringUnits_56 : decode cX3_bringUnits 56 = .ok (.putfield 67, 3) := by decide +kernel
theorem dX3_bringUnits_59 : decode cX3_bringUnits 59 = .ok (.aload_n 0, 1) := by decide +kernel
theorem dX3_bringUnits_60 : decode cX3_bringUnits 60 = .ok (.getfield 17, 3) := by decide +kernel
theorem dX3_bringUnits_63 : decode cX3_bringUnits 63 = .ok (.iload_n 1, 1) := by decide +kernel
theorem dX3_bringUnits_64 : decode cX3_bringUnits 64 = .ok (.aaload, 1) := by decide +kernel
theorem dX3_bringUnits_65 : decode cX3_bringUnits 65 = .ok (.getfield 67, 3) := by decide +kernel
theorem dX3_bringUnits_68 : decode cX3_bringUnits 68 = .ok (.ireturn, 1) := by decide +kernel
theorem dX3_sellHour_0 : decode cX3_sellHour 0 = .ok (.aload_n 0, 1) := by decide +kernel
theorem dX3_sellHour_1 : decode cX3_sellHour 1 = .ok (.iload_n 1, 1) := by decide +kernel
theorem dX3_sellHour_2 : decode cX3_sellHour 2 = .ok (.iload_n 2, 1) := by decide +kernel
theorem dX3_sellHour_3 : decode cX3_sellHour 3 = .ok (.iconst 0, 1) := by decide +kernel
theorem dX3_sellHour_4 : decode cX3_sellHour 4 = .ok (.iconst 1, 1) := by decide +kernel
theorem dX3_sellHour_5 : decode cX3_sellHour 5 = .ok (.invokevirtual 70, 3) := by decide +kernel
theorem dX3_sellHour_8 : decode cX3_sellHour 8 = .ok (.ireturn, 1) := by decide +kernel
theorem dX3_takeHourBack_0 : decode cX3_takeHourBack 0 = .ok (.aload_n 0, 1) := by decide +kernel
theorem dX3_takeHourBack_1 : decode cX3_takeHourBack 1 = .ok (.iload_n 1, 1) := by decide +kernel
theorem dX3_takeHourBack_2 : decode cX3_takeHourBack 2 = .ok (.iload_n 2, 1) := by decide +kernel
theorem dX3_takeHourBack_3 : decode cX3_takeHourBack 3 = .ok (.iconst 1, 1) := by decide +kernel
theorem dX3_takeHourBack_4 : decode cX3_takeHourBack 4 = .ok (.iconst 0, 1) := by decide +kernel
theorem dX3_takeHourBack_5 : decode cX3_takeHourBack 5 = .ok (.invokevirtual 70, 3) := by decide +kernel
theorem dX3_takeHourBack_8 : decode cX3_takeHourBack 8 = .ok (.ireturn, 1) := by decide +kernel
theorem dX3_changeHour_0 : decode cX3_changeHour 0 = .ok (.iload_n 1, 1) := by decide +kernel
theorem dX3_changeHour_1 : decode cX3_changeHour 1 = .ok (.invokestatic 57, 3) := by decide +kernel
theorem dX3_changeHour_4 : decode cX3_changeHour 4 = .ok (.ifCond .ne 5, 3) := by decide +kernel
theorem dX3_changeHour_7 : decode cX3_changeHour 7 = .ok (.iconst (-1), 1) := by decide +kernel
theorem dX3_changeHour_8 : decode cX3_changeHour 8 = .ok (.ireturn, 1) := by decide +kernel
theorem dX3_changeHour_9 : decode cX3_changeHour 9 = .ok (.iload_n 2, 1) := by decide +kernel
theorem dX3_changeHour_10 : decode cX3_changeHour 10 = .ok (.invokestatic 74, 3) := by decide +kernel
theorem dX3_changeHour_13 : decode cX3_changeHour 13 = .ok (.ifCond .ne 6, 3) := by decide +kernel
theorem dX3_changeHour_16 : decode cX3_changeHour 16 = .ok (.bipush (-2), 2) := by decide +kernel
theorem dX3_changeHour_18 : decode cX3_changeHour 18 = .ok (.ireturn, 1) := by decide +kernel
theorem dX3_changeHour_19 : decode cX3_changeHour 19 = .ok (.iload_n 2, 1) := by decide +kernel
theorem dX3_changeHour_20 : decode cX3_changeHour 20 = .ok (.aload_n 0, 1) := by decide +kernel
theorem dX3_changeHour_21 : decode cX3_changeHour 21 = .ok (.invokevirtual 77, 3) := by decide +kernel
theorem dX3_changeHour_24 : decode cX3_changeHour 24 = .ok (.if_icmp .le 17, 3) := by decide +kernel
theorem dX3_changeHour_27 : decode cX3_changeHour 27 = .ok (.aload_n 0, 1) := by decide +kernel
theorem dX3_changeHour_28 : decode cX3_changeHour 28 = .ok (.getfield 17, 3) := by decide +kernel
theorem dX3_changeHour_31 : decode cX3_changeHour 31 = .ok (.iload_n 1, 1) := by decide +kernel
theorem dX3_changeHour_32 : decode cX3_changeHour 32 = .ok (.aaload, 1) := by decide +kernel
theorem dX3_changeHour_33 : decode cX3_changeHour 33 = .ok (.iload_n 2, 1) := by decide +kernel
theorem dX3_changeHour_34 : decode cX3_changeHour 34 = .ok (.invokevirtual 81, 3) := by decide +kernel
theorem dX3_changeHour_37 : decode cX3_changeHour 37 = .ok (.iload_n 3, 1) := by decide +kernel
theorem dX3_changeHour_38 : decode cX3_changeHour 38 = .ok (.if_icmp .eq 6, 3) := by decide +kernel
theorem dX3_changeHour_41 : decode cX3_changeHour 41 = .ok (.bipush (-5), 2) := by decide +kernel
theorem dX3_changeHour_43 : decode cX3_changeHour 43 = .ok (.ireturn, 1) := by decide +kernel
theorem dX3_changeHour_44 : decode cX3_changeHour 44 = .ok (.aload_n 0, 1) := by decide +kernel
theorem dX3_changeHour_45 : decode cX3_changeHour 45 = .ok (.getfield 17, 3) := by decide +kernel
theorem dX3_changeHour_48 : decode cX3_changeHour 48 = .ok (.iload_n 1, 1) := by decide +kernel
theorem dX3_changeHour_49 : decode cX3_changeHour 49 = .ok (.aaload, 1) := by decide +kernel
theorem dX3_changeHour_50 : decode cX3_changeHour 50 = .ok (.iload_n 2, 1) := by decide +kernel
theorem dX3_changeHour_51 : decode cX3_changeHour 51 = .ok (.iload 4, 2) := by decide +kernel
theorem dX3_changeHour_53 : decode cX3_changeHour 53 = .ok (.invokevirtual 85, 3) := by decide +kernel
theorem dX3_changeHour_56 : decode cX3_changeHour 56 = .ok (.aload_n 0, 1) := by decide +kernel
theorem dX3_changeHour_57 : decode cX3_changeHour 57 = .ok (.getfield 17, 3) := by decide +kernel
theorem dX3_changeHour_60 : decode cX3_changeHour 60 = .ok (.iload_n 1, 1) := by decide +kernel
theorem dX3_changeHour_61 : decode cX3_changeHour 61 = .ok (.aaload, 1) := by decide +kernel
theorem dX3_changeHour_62 : decode cX3_changeHour 62 = .ok (.invokevirtual 89, 3) := by decide +kernel
theorem dX3_changeHour_65 : decode cX3_changeHour 65 = .ok (.ireturn, 1) := by decide +kernel
theorem dX3_passMinutes_0 : decode cX3_passMinutes 0 = .ok (.iload_n 1, 1) := by decide +kernel
theorem dX3_passMinutes_1 : decode cX3_passMinutes 1 = .ok (.invokestatic 92, 3) := by decide +kernel
theorem dX3_passMinutes_4 : decode cX3_passMinutes 4 = .ok (.ifCond .ne 6, 3) := by decide +kernel
theorem dX3_passMinutes_7 : decode cX3_passMinutes 7 = .ok (.bipush (-2), 2) := by decide +kernel
theorem dX3_passMinutes_9 : decode cX3_passMinutes 9 = .ok (.ireturn, 1) := by decide +kernel
theorem dX3_passMinutes_10 : decode cX3_passMinutes 10 = .ok (.iconst 0, 1) := by decide +kernel
theorem dX3_passMinutes_11 : decode cX3_passMinutes 11 = .ok (.istore_n 2, 1) := by decide +kernel
theorem dX3_passMinutes_12 : decode cX3_passMinutes 12 = .ok (.iload_n 2, 1) := by decide +kernel
theorem dX3_passMinutes_13 : decode cX3_passMinutes 13 = .ok (.iload_n 1, 1) := by decide +kernel
theorem dX3_passMinutes_14 : decode cX3_passMinutes 14 = .ok (.if_icmp .ge 14, 3) := by decide +kernel
theorem dX3_passMinutes_17 : decode cX3_passMinutes 17 = .ok (.aload_n 0, 1) := by decide +kernel
theorem dX3_passMinutes_18 : decode cX3_passMinutes 18 = .ok (.invokevirtual 95, 3) := by decide +kernel
theorem dX3_passMinutes_21 : decode cX3_passMinutes 21 = .ok (.pop, 1) := by decide +kernel
theorem dX3_passMinutes_22 : decode cX3_passMinutes 22 = .ok (.iinc 2 1, 3) := by decide +kernel
theorem dX3_passMinutes_25 : decode cX3_passMinutes 25 = .ok (.goto (-13), 3) := by decide +kernel
theorem dX3_passMinutes_28 : decode cX3_passMinutes 28 = .ok (.aload_n 0, 1) := by decide +kernel
theorem dX3_passMinutes_29 : decode cX3_passMinutes 29 = .ok (.getfield 35, 3) := by decide +kernel
theorem dX3_passMinutes_32 : decode cX3_passMinutes 32 = .ok (.ireturn, 1) := by decide +kernel
theorem dX3_passesWithoutOverrun_0 : decode cX3_passesWithoutOverrun 0 = .ok (.iconst 0, 1) := by decide +kernel
theorem dX3_passesWithoutOverrun_1 : decode cX3_passesWithoutOverrun 1 = .ok (.istore_n 2, 1) := by decide +kernel
theorem dX3_passesWithoutOverrun_2 : decode cX3_passesWithoutOverrun 2 = .ok (.iload_n 2, 1) := by decide +kernel
theorem dX3_passesWithoutOverrun_3 : decode cX3_passesWithoutOverrun 3 = .ok (.iload_n 1, 1) := by decide +kernel
theorem dX3_passesWithoutOverrun_4 : decode cX3_passesWithoutOverrun 4 = .ok (.if_icmp .ge 18, 3) := by decide +kernel
theorem dX3_passesWithoutOverrun_7 : decode cX3_passesWithoutOverrun 7 = .ok (.aload_n 0, 1) := by decide +kernel
theorem dX3_passesWithoutOverrun_8 : decode cX3_passesWithoutOverrun 8 = .ok (.invokevirtual 95, 3) := by decide +kernel
theorem dX3_passesWithoutOverrun_11 : decode cX3_passesWithoutOverrun 11 = .ok (.ifCond .eq 5, 3) := by decide +kernel
theorem dX3_passesWithoutOverrun_14 : decode cX3_passesWithoutOverrun 14 = .ok (.iconst 0, 1) := by decide +kernel
theorem dX3_passesWithoutOverrun_15 : decode cX3_passesWithoutOverrun 15 = .ok (.ireturn, 1) := by decide +kernel
theorem dX3_passesWithoutOverrun_16 : decode cX3_passesWithoutOverrun 16 = .ok (.iinc 2 1, 3) := by decide +kernel
theorem dX3_passesWithoutOverrun_19 : decode cX3_passesWithoutOverrun 19 = .ok (.goto (-17), 3) := by decide +kernel
theorem dX3_passesWithoutOverrun_22 : decode cX3_passesWithoutOverrun 22 = .ok (.iconst 1, 1) := by decide +kernel
theorem dX3_passesWithoutOverrun_23 : decode cX3_passesWithoutOverrun 23 = .ok (.ireturn, 1) := by decide +kernel
theorem dX3_passOneMinute_0 : decode cX3_passOneMinute 0 = .ok (.iconst 0, 1) := by decide +kernel
theorem dX3_passOneMinute_1 : decode cX3_passOneMinute 1 = .ok (.istore_n 1, 1) := by decide +kernel
theorem dX3_passOneMinute_2 : decode cX3_passOneMinute 2 = .ok (.iconst 0, 1) := by decide +kernel
theorem dX3_passOneMinute_3 : decode cX3_passOneMinute 3 = .ok (.istore_n 2, 1) := by decide +kernel
theorem dX3_passOneMinute_4 : decode cX3_passOneMinute 4 = .ok (.iload_n 2, 1) := by decide +kernel
theorem dX3_passOneMinute_5 : decode cX3_passOneMinute 5 = .ok (.iconst 4, 1) := by decide +kernel
theorem dX3_passOneMinute_6 : decode cX3_passOneMinute 6 = .ok (.if_icmp .ge 33, 3) := by decide +kernel
theorem dX3_passOneMinute_9 : decode cX3_passOneMinute 9 = .ok (.aload_n 0, 1) := by decide +kernel
theorem dX3_passOneMinute_10 : decode cX3_passOneMinute 10 = .ok (.aload_n 0, 1) := by decide +kernel
theorem dX3_passOneMinute_11 : decode cX3_passOneMinute 11 = .ok (.getfield 17, 3) := by decide +kernel
theorem dX3_passOneMinute_14 : decode cX3_passOneMinute 14 = .ok (.iload_n 2, 1) := by decide +kernel
theorem dX3_passOneMinute_15 : decode cX3_passOneMinute 15 = .ok (.aaload, 1) := by decide +kernel
theorem dX3_passOneMinute_16 : decode cX3_passOneMinute 16 = .ok (.aload_n 0, 1) := by decide +kernel
theorem dX3_passOneMinute_17 : decode cX3_passOneMinute 17 = .ok (.getfield 17, 3) := by decide +kernel
theorem dX3_passOneMinute_20 : decode cX3_passOneMinute 20 = .ok (.iload_n 2, 1) := by decide +kernel
theorem dX3_passOneMinute_21 : decode cX3_passOneMinute 21 = .ok (.invokestatic 99, 3) := by decide +kernel
theorem dX3_passOneMinute_24 : decode cX3_passOneMinute 24 = .ok (.aaload, 1) := by decide +kernel
theorem dX3_passOneMinute_25 : decode cX3_passOneMinute 25 = .ok (.invokevirtual 102, 3) := by decide +kernel
theorem dX3_passOneMinute_28 : decode cX3_passOneMinute 28 = .ok (.ifCond .eq 5, 3) := by decide +kernel
theorem dX3_passOneMinute_31 : decode cX3_passOneMinute 31 = .ok (.iconst 1, 1) := by decide +kernel
theorem dX3_passOneMinute_32 : decode cX3_passOneMinute 32 = .ok (.istore_n 1, 1) := by decide +kernel
theorem dX3_passOneMinute_33 : decode cX3_passOneMinute 33 = .ok (.iinc 2 1, 3) := by decide +kernel
theorem dX3_passOneMinute_36 : decode cX3_passOneMinute 36 = .ok (.goto (-32), 3) := by decide +kernel
theorem dX3_passOneMinute_39 : decode cX3_passOneMinute 39 = .ok (.aload_n 0, 1) := by decide +kernel
theorem dX3_passOneMinute_40 : decode cX3_passOneMinute 40 = .ok (.dup, 1) := by decide +kernel
theorem dX3_passOneMinute_41 : decode cX3_passOneMinute 41 = .ok (.getfield 35, 3) := by decide +kernel
theorem dX3_passOneMinute_44 : decode cX3_passOneMinute 44 = .ok (.iconst 1, 1) := by decide +kernel
theorem dX3_passOneMinute_45 : decode cX3_passOneMinute 45 = .ok (.iadd, 1) := by decide +kernel
theorem dX3_passOneMinute_46 : decode cX3_passOneMinute 46 = .ok (.putfield 35, 3) := by decide +kernel
theorem dX3_passOneMinute_49 : decode cX3_passOneMinute 49 = .ok (.iload_n 1, 1) := by decide +kernel
theorem dX3_passOneMinute_50 : decode cX3_passOneMinute 50 = .ok (.ireturn, 1) := by decide +kernel
theorem dX3_passMinuteOf_0 : decode cX3_passMinuteOf 0 = .ok (.aload_n 0, 1) := by decide +kernel
theorem dX3_passMinuteOf_1 : decode cX3_passMinuteOf 1 = .ok (.invokevirtual 77, 3) := by decide +kernel
theorem dX3_passMinuteOf_4 : decode cX3_passMinuteOf 4 = .ok (.istore_n 3, 1) := by decide +kernel
theorem dX3_passMinuteOf_5 : decode cX3_passMinuteOf 5 = .ok (.aload_n 1, 1) := by decide +kernel
theorem dX3_passMinuteOf_6 : decode cX3_passMinuteOf 6 = .ok (.iload_n 3, 1) := by decide +kernel
theorem dX3_passMinuteOf_7 : decode cX3_passMinuteOf 7 = .ok (.invokevirtual 106, 3) := by decide +kernel
theorem dX3_passMinuteOf_10 : decode cX3_passMinuteOf 10 = .ok (.istore 4, 2) := by decide +kernel
theorem dX3_passMinuteOf_12 : decode cX3_passMinuteOf 12 = .ok (.aload_n 0, 1) := by decide +kernel
theorem dX3_passMinuteOf_13 : decode cX3_passMinuteOf 13 = .ok (.getfield 35, 3) := by decide +kernel
theorem dX3_passMinuteOf_16 : decode cX3_passMinuteOf 16 = .ok (.bipush 60, 2) := by decide +kernel
theorem dX3_passMinuteOf_18 : decode cX3_passMinuteOf 18 = .ok (.irem, 1) := by decide +kernel
theorem dX3_passMinuteOf_19 : decode cX3_passMinuteOf 19 = .ok (.ifCond .ne 11, 3) := by decide +kernel
theorem dX3_passMinuteOf_22 : decode cX3_passMinuteOf 22 = .ok (.aload_n 0, 1) := by decide +kernel
theorem dX3_passMinuteOf_23 : decode cX3_passMinuteOf 23 = .ok (.aload_n 1, 1) := by decide +kernel
theorem dX3_passMinuteOf_24 : decode cX3_passMinuteOf 24 = .ok (.iload_n 3, 1) := by decide +kernel
theorem dX3_passMinuteOf_25 : decode cX3_passMinuteOf 25 = .ok (.iload 4, 2) := by decide +kernel
theorem dX3_passMinuteOf_27 : decode cX3_passMinuteOf 27 = .ok (.invokevirtual 109, 3) := by decide +kernel
theorem dX3_passMinuteOf_30 : decode cX3_passMinuteOf 30 = .ok (.aload_n 1, 1) := by decide +kernel
theorem dX3_passMinuteOf_31 : decode cX3_passMinuteOf 31 = .ok (.aload_n 0, 1) := by decide +kernel
theorem dX3_passMinuteOf_32 : decode cX3_passMinuteOf 32 = .ok (.getfield 35, 3) := by decide +kernel
theorem dX3_passMinuteOf_35 : decode cX3_passMinuteOf 35 = .ok (.invokevirtual 113, 3) := by decide +kernel
theorem dX3_passMinuteOf_38 : decode cX3_passMinuteOf 38 = .ok (.iload 4, 2) := by decide +kernel
theorem dX3_passMinuteOf_40 : decode cX3_passMinuteOf 40 = .ok (.ifCond .ne 8, 3) := by decide +kernel
theorem dX3_passMinuteOf_43 : decode cX3_passMinuteOf 43 = .ok (.aload_n 1, 1) := by decide +kernel
theorem dX3_passMinuteOf_44 : decode cX3_passMinuteOf 44 = .ok (.aload_n 2, 1) := by decide +kernel
theorem dX3_passMinuteOf_45 : decode cX3_passMinuteOf 45 = .ok (.invokevirtual 117, 3) := by decide +kernel
theorem dX3_passMinuteOf_48 : decode cX3_passMinuteOf 48 = .ok (.aload_n 1, 1) := by decide +kernel
theorem dX3_passMinuteOf_49 : decode cX3_passMinuteOf 49 = .ok (.invokevirtual 120, 3) := by decide +kernel
theorem dX3_passMinuteOf_52 : decode cX3_passMinuteOf 52 = .ok (.iload 4, 2) := by decide +kernel
theorem dX3_passMinuteOf_54 : decode cX3_passMinuteOf 54 = .ok (.ifCond .eq 23, 3) := by decide +kernel
theorem dX3_passMinuteOf_57 : decode cX3_passMinuteOf 57 = .ok (.aload_n 2, 1) := by decide +kernel
theorem dX3_passMinuteOf_58 : decode cX3_passMinuteOf 58 = .ok (.iload_n 3, 1) := by decide +kernel
theorem dX3_passMinuteOf_59 : decode cX3_passMinuteOf 59 = .ok (.invokevirtual 106, 3) := by decide +kernel
theorem dX3_passMinuteOf_62 : decode cX3_passMinuteOf 62 = .ok (.ifCond .ne 15, 3) := by decide +kernel
theorem dX3_passMinuteOf_65 : decode cX3_passMinuteOf 65 = .ok (.aload_n 1, 1) := by decide +kernel
theorem dX3_passMinuteOf_66 : decode cX3_passMinuteOf 66 = .ok (.aload_n 2, 1) := by decide +kernel
theorem dX3_passMinuteOf_67 : decode cX3_passMinuteOf 67 = .ok (.aload_n 0, 1) := by decide +kernel
theorem dX3_passMinuteOf_68 : decode cX3_passMinuteOf 68 = .ok (.getfield 9, 3) := by decide +kernel
theorem dX3_passMinuteOf_71 : decode cX3_passMinuteOf 71 = .ok (.bipush 6, 2) := by decide +kernel
theorem dX3_passMinuteOf_73 : decode cX3_passMinuteOf 73 = .ok (.iaload, 1) := by decide +kernel
theorem dX3_passMinuteOf_74 : decode cX3_passMinuteOf 74 = .ok (.invokevirtual 123, 3) := by decide +kernel
theorem dX3_passMinuteOf_77 : decode cX3_passMinuteOf 77 = .ok (.aload_n 0, 1) := by decide +kernel
theorem dX3_passMinuteOf_78 : decode cX3_passMinuteOf 78 = .ok (.aload_n 1, 1) := by decide +kernel
theorem dX3_passMinuteOf_79 : decode cX3_passMinuteOf 79 = .ok (.iload 4, 2) := by decide +kernel
theorem dX3_passMinuteOf_81 : decode cX3_passMinuteOf 81 = .ok (.invokevirtual 127, 3) := by decide +kernel
theorem dX3_passMinuteOf_84 : decode cX3_passMinuteOf 84 = .ok (.istore 5, 2) := by decide +kernel
theorem dX3_passMinuteOf_86 : decode cX3_passMinuteOf 86 = .ok (.iload 5, 2) := by decide +kernel
theorem dX3_passMinuteOf_88 : decode cX3_passMinuteOf 88 = .ok (.ifCond .eq 14, 3) := by decide +kernel
theorem dX3_passMinuteOf_91 : decode cX3_passMinuteOf 91 = .ok (.iload 4, 2) := by decide +kernel
theorem dX3_passMinuteOf_93 : decode cX3_passMinuteOf 93 = .ok (.ifCond .eq 9, 3) := by decide +kernel
theorem dX3_passMinuteOf_96 : decode cX3_passMinuteOf 96 = .ok (.aload_n 0, 1) := by decide +kernel
theorem dX3_passMinuteOf_97 : decode cX3_passMinuteOf 97 = .ok (.aload_n 1, 1) := by decide +kernel
theorem dX3_passMinuteOf_98 : decode cX3_passMinuteOf 98 = .ok (.iload_n 3, 1) := by decide +kernel
theorem dX3_passMinuteOf_99 : decode cX3_passMinuteOf 99 = .ok (.invokevirtual 131, 3) := by decide +kernel
theorem dX3_passMinuteOf_102 : decode cX3_passMinuteOf 102 = .ok (.aload_n 1, 1) := by decide +kernel
theorem dX3_passMinuteOf_103 : decode cX3_passMinuteOf 103 = .ok (.dup, 1) := by decide +kernel
theorem dX3_passMinuteOf_104 : decode cX3_passMinuteOf 104 = .ok (.getfield 134, 3) := by decide +kernel
theorem dX3_passMinuteOf_107 : decode cX3_passMinuteOf 107 = .ok (.aload_n 1, 1) := by decide +kernel
theorem dX3_passMinuteOf_108 : decode cX3_passMinuteOf 108 = .ok (.getfield 67, 3) := by decide +kernel
theorem dX3_passMinuteOf_111 : decode cX3_passMinuteOf 111 = .ok (.i2l, 1) := by decide +kernel
theorem dX3_passMinuteOf_112 : decode cX3_passMinuteOf 112 = .ok (.ladd, 1) := by decide +kernel
theorem dX3_passMinuteOf_113 : decode cX3_passMinuteOf 113 = .ok (.putfield 134, 3) := by decide +kernel
theorem dX3_passMinuteOf_116 : decode cX3_passMinuteOf 116 = .ok (.iload 5, 2) := by decide +kernel
theorem dX3_passMinuteOf_118 : decode cX3_passMinuteOf 118 = .ok (.ifCond .eq 12, 3) := by decide +kernel
theorem dX3_passMinuteOf_121 : decode cX3_passMinuteOf 121 = .ok (.iload 4, 2) := by decide +kernel
theorem dX3_passMinuteOf_123 : decode cX3_passMinuteOf 123 = .ok (.ifCond .eq 7, 3) := by decide +kernel
theorem dX3_passMinuteOf_126 : decode cX3_passMinuteOf 126 = .ok (.iconst 1, 1) := by decide +kernel
theorem dX3_passMinuteOf_127 : decode cX3_passMinuteOf 127 = .ok (.goto 4, 3) := by decide +kernel
theorem dX3_passMinuteOf_130 : decode cX3_passMinuteOf 130 = .ok (.iconst 0, 1) := by decide +kernel
theorem dX3_passMinuteOf_131 : decode cX3_passMinuteOf 131 = .ok (.ireturn, 1) := by decide +kernel
theorem dX3_settleHours_0 : decode cX3_settleHours 0 = .ok (.aload_n 1, 1) := by decide +kernel
theorem dX3_settleHours_1 : decode cX3_settleHours 1 = .ok (.iload_n 2, 1) := by decide +kernel
theorem dX3_settleHours_2 : decode cX3_settleHours 2 = .ok (.iconst 1, 1) := by decide +kernel
theorem dX3_settleHours_3 : decode cX3_settleHours 3 = .ok (.isub, 1) := by decide +kernel
theorem dX3_settleHours_4 : decode cX3_settleHours 4 = .ok (.invokevirtual 81, 3) := by decide +kernel
theorem dX3_settleHours_7 : decode cX3_settleHours 7 = .ok (.iconst 1, 1) := by decide +kernel
theorem dX3_settleHours_8 : decode cX3_settleHours 8 = .ok (.if_icmp .ne 26, 3) := by decide +kernel
theorem dX3_settleHours_11 : decode cX3_settleHours 11 = .ok (.aload_n 1, 1) := by decide +kernel
theorem dX3_settleHours_12 : decode cX3_settleHours 12 = .ok (.iload_n 2, 1) := by decide +kernel
theorem dX3_settleHours_13 : decode cX3_settleHours 13 = .ok (.iconst 1, 1) := by decide +kernel
theorem dX3_settleHours_14 : decode cX3_settleHours 14 = .ok (.isub, 1) := by decide +kernel
theorem dX3_settleHours_15 : decode cX3_settleHours 15 = .ok (.iconst 2, 1) := by decide +kernel
theorem dX3_settleHours_16 : decode cX3_settleHours 16 = .ok (.invokevirtual 85, 3) := by decide +kernel
theorem dX3_settleHours_19 : decode cX3_settleHours 19 = .ok (.aload_n 0, 1) := by decide +kernel
theorem dX3_settleHours_20 : decode cX3_settleHours 20 = .ok (.dup, 1) := by decide +kernel
theorem dX3_settleHours_21 : decode cX3_settleHours 21 = .ok (.getfield 45, 3) := by decide +kernel
theorem dX3_settleHours_24 : decode cX3_settleHours 24 = .ok (.aload_n 0, 1) := by decide +kernel
theorem dX3_settleHours_25 : decode cX3_settleHours 25 = .ok (.getfield 9, 3) := by decide +kernel
theorem dX3_settleHours_28 : decode cX3_settleHours 28 = .ok (.iconst 2, 1) := by decide +kernel
theorem dX3_settleHours_29 : decode cX3_settleHours 29 = .ok (.iaload, 1) := by decide +kernel
theorem dX3_settleHours_30 : decode cX3_settleHours 30 = .ok (.iadd, 1) := by decide +kernel
theorem dX3_settleHours_31 : decode cX3_settleHours 31 = .ok (.putfield 45, 3) := by decide +kernel
theorem dX3_settleHours_34 : decode cX3_settleHours 34 = .ok (.iload_n 3, 1) := by decide +kernel
theorem dX3_settleHours_35 : decode cX3_settleHours 35 = .ok (.ifCond .eq 18, 3) := by decide +kernel
theorem dX3_settleHours_38 : decode cX3_settleHours 38 = .ok (.aload_n 0, 1) := by decide +kernel
theorem dX3_settleHours_39 : decode cX3_settleHours 39 = .ok (.dup, 1) := by decide +kernel
theorem dX3_settleHours_40 : decode cX3_settleHours 40 = .ok (.getfield 39, 3) := by decide +kernel
theorem dX3_settleHours_43 : decode cX3_settleHours 43 = .ok (.aload_n 0, 1) := by decide +kernel
theorem dX3_settleHours_44 : decode cX3_settleHours 44 = .ok (.getfield 9, 3) := by decide +kernel
theorem dX3_settleHours_47 : decode cX3_settleHours 47 = .ok (.iconst 0, 1) := by decide +kernel
theorem dX3_settleHours_48 : decode cX3_settleHours 48 = .ok (.iaload, 1) := by decide +kernel
theorem dX3_settleHours_49 : decode cX3_settleHours 49 = .ok (.iadd, 1) := by decide +kernel
theorem dX3_settleHours_50 : decode cX3_settleHours 50 = .ok (.putfield 39, 3) := by decide +kernel
theorem dX3_settleHours_53 : decode cX3_settleHours 53 = .ok (.return_, 1) := by decide +kernel
theorem dX3_cleanUp_0 : decode cX3_cleanUp 0 = .ok (.iload_n 2, 1) := by decide +kernel
theorem dX3_cleanUp_1 : decode cX3_cleanUp 1 = .ok (.ifCond .eq 25, 3) := by decide +kernel
theorem dX3_cleanUp_4 : decode cX3_cleanUp 4 = .ok (.aload_n 1, 1) := by decide +kernel
theorem dX3_cleanUp_5 : decode cX3_cleanUp 5 = .ok (.getfield 67, 3) := by decide +kernel
theorem dX3_cleanUp_8 : decode cX3_cleanUp 8 = .ok (.aload_n 0, 1) := by decide +kernel
theorem dX3_cleanUp_9 : decode cX3_cleanUp 9 = .ok (.getfield 9, 3) := by decide +kernel
theorem dX3_cleanUp_12 : decode cX3_cleanUp 12 = .ok (.bipush 6, 2) := by decide +kernel
theorem dX3_cleanUp_14 : decode cX3_cleanUp 14 = .ok (.iaload, 1) := by decide +kernel
theorem dX3_cleanUp_15 : decode cX3_cleanUp 15 = .ok (.if_icmp .le 7, 3) := by decide +kernel
theorem dX3_cleanUp_18 : decode cX3_cleanUp 18 = .ok (.iconst 1, 1) := by decide +kernel
theorem dX3_cleanUp_19 : decode cX3_cleanUp 19 = .ok (.goto 32, 3) := by decide +kernel
theorem dX3_cleanUp_22 : decode cX3_cleanUp 22 = .ok (.iconst 0, 1) := by decide +kernel
theorem dX3_cleanUp_23 : decode cX3_cleanUp 23 = .ok (.goto 28, 3) := by decide +kernel
theorem dX3_cleanUp_26 : decode cX3_cleanUp 26 = .ok (.aload_n 1, 1) := by decide +kernel
theorem dX3_cleanUp_27 : decode cX3_cleanUp 27 = .ok (.getfield 138, 3) := by decide +kernel
theorem dX3_cleanUp_30 : decode cX3_cleanUp 30 = .ok (.ifCond .ne 16, 3) := by decide +kernel
theorem dX3_cleanUp_33 : decode cX3_cleanUp 33 = .ok (.aload_n 1, 1) := by decide +kernel
theorem dX3_cleanUp_34 : decode cX3_cleanUp 34 = .ok (.getfield 142, 3) := by decide +kernel
theorem dX3_cleanUp_37 : decode cX3_cleanUp 37 = .ok (.aload_n 0, 1) := by decide +kernel
theorem dX3_cleanUp_38 : decode cX3_cleanUp 38 = .ok (.getfield 9, 3) := by decide +kernel
theorem dX3_cleanUp_41 : decode cX3_cleanUp 41 = .ok (.iconst 3, 1) := by decide +kernel
theorem dX3_cleanUp_42 : decode cX3_cleanUp 42 = .ok (.iaload, 1) := by decide +kernel
theorem dX3_cleanUp_43 : decode cX3_cleanUp 43 = .ok (.if_icmp .ge 7, 3) := by decide +kernel
theorem dX3_cleanUp_46 : decode cX3_cleanUp 46 = .ok (.iconst 1, 1) := by decide +kernel
theorem dX3_cleanUp_47 : decode cX3_cleanUp 47 = .ok (.goto 4, 3) := by decide +kernel
theorem dX3_cleanUp_50 : decode cX3_cleanUp 50 = .ok (.iconst 0, 1) := by decide +kernel
theorem dX3_cleanUp_51 : decode cX3_cleanUp 51 = .ok (.istore_n 3, 1) := by decide +kernel
theorem dX3_cleanUp_52 : decode cX3_cleanUp 52 = .ok (.iload_n 3, 1) := by decide +kernel
theorem dX3_cleanUp_53 : decode cX3_cleanUp 53 = .ok (.ifCond .eq 14, 3) := by decide +kernel
theorem dX3_cleanUp_56 : decode cX3_cleanUp 56 = .ok (.aload_n 1, 1) := by decide +kernel
theorem dX3_cleanUp_57 : decode cX3_cleanUp 57 = .ok (.getfield 145, 3) := by decide +kernel
theorem dX3_cleanUp_60 : decode cX3_cleanUp 60 = .ok (.ifCond .le 7, 3) := by decide +kernel
theorem dX3_cleanUp_63 : decode cX3_cleanUp 63 = .ok (.iconst 1, 1) := by decide +kernel
theorem dX3_cleanUp_64 : decode cX3_cleanUp 64 = .ok (.goto 4, 3) := by decide +kernel
theorem dX3_cleanUp_67 : decode cX3_cleanUp 67 = .ok (.iconst 0, 1) := by decide +kernel
theorem dX3_cleanUp_68 : decode cX3_cleanUp 68 = .ok (.istore 4, 2) := by decide +kernel
theorem dX3_cleanUp_70 : decode cX3_cleanUp 70 = .ok (.iload 4, 2) := by decide +kernel
theorem dX3_cleanUp_72 : decode cX3_cleanUp 72 = .ok (.ifCond .eq 20, 3) := by decide +kernel
theorem dX3_cleanUp_75 : decode cX3_cleanUp 75 = .ok (.aload_n 1, 1) := by decide +kernel
theorem dX3_cleanUp_76 : decode cX3_cleanUp 76 = .ok (.aload_n 0, 1) := by decide +kernel
theorem dX3_cleanUp_77 : decode cX3_cleanUp 77 = .ok (.getfield 9, 3) := by decide +kernel
theorem dX3_cleanUp_80 : decode cX3_cleanUp 80 = .ok (.iconst 5, 1) := by decide +kernel
theorem dX3_cleanUp_81 : decode cX3_cleanUp 81 = .ok (.iaload, 1) := by decide +kernel
theorem dX3_cleanUp_82 : decode cX3_cleanUp 82 = .ok (.aload_n 1, 1) := by decide +kernel
theorem dX3_cleanUp_83 : decode cX3_cleanUp 83 = .ok (.getfield 145, 3) := by decide +kernel
theorem dX3_cleanUp_86 : decode cX3_cleanUp 86 = .ok (.invokestatic 148, 3) := by decide +kernel
theorem dX3_cleanUp_89 : decode cX3_cleanUp 89 = .ok (.invokevirtual 154, 3) := by decide +kernel
theorem dX3_cleanUp_92 : decode cX3_cleanUp 92 = .ok (.aload_n 1, 1) := by decide +kernel
theorem dX3_cleanUp_93 : decode cX3_cleanUp 93 = .ok (.iload 4, 2) := by decide +kernel
theorem dX3_cleanUp_95 : decode cX3_cleanUp 95 = .ok (.ifCond .eq 31, 3) := by decide +kernel
theorem dX3_cleanUp_98 : decode cX3_cleanUp 98 = .ok (.iload_n 2, 1) := by decide +kernel
theorem dX3_cleanUp_99 : decode cX3_cleanUp 99 = .ok (.ifCond .ne 27, 3) := by decide +kernel
theorem dX3_cleanUp_102 : decode cX3_cleanUp 102 = .ok (.aload_n 1, 1) := by decide +kernel
theorem dX3_cleanUp_103 : decode cX3_cleanUp 103 = .ok (.getfield 142, 3) := by decide +kernel
theorem dX3_cleanUp_106 : decode cX3_cleanUp 106 = .ok (.aload_n 0, 1) := by decide +kernel
theorem dX3_cleanUp_107 : decode cX3_cleanUp 107 = .ok (.getfield 9, 3) := by decide +kernel
theorem dX3_cleanUp_110 : decode cX3_cleanUp 110 = .ok (.iconst 4, 1) := by decide +kernel
theorem dX3_cleanUp_111 : decode cX3_cleanUp 111 = .ok (.iaload, 1) := by decide +kernel
theorem dX3_cleanUp_112 : decode cX3_cleanUp 112 = .ok (.if_icmp .ge 14, 3) := by decide +kernel
theorem dX3_cleanUp_115 : decode cX3_cleanUp 115 = .ok (.aload_n 1, 1) := by decide +kernel
theorem dX3_cleanUp_116 : decode cX3_cleanUp 116 = .ok (.getfield 145, 3) := by decide +kernel
theorem dX3_cleanUp_119 : decode cX3_cleanUp 119 = .ok (.ifCond .le 7, 3) := by decide +kernel
theorem dX3_cleanUp_122 : decode cX3_cleanUp 122 = .ok (.iconst 1, 1) := by decide +kernel
theorem dX3_cleanUp_123 : decode cX3_cleanUp 123 = .ok (.goto 4, 3) := by decide +kernel
theorem dX3_cleanUp_126 : decode cX3_cleanUp 126 = .ok (.iconst 0, 1) := by decide +kernel
theorem dX3_cleanUp_127 : decode cX3_cleanUp 127 = .ok (.putfield 138, 3) := by decide +kernel
theorem dX3_cleanUp_130 : decode cX3_cleanUp 130 = .ok (.iload 4, 2) := by decide +kernel
theorem dX3_cleanUp_132 : decode cX3_cleanUp 132 = .ok (.ireturn, 1) := by decide +kernel
theorem dX3_chargeOverrun_0 : decode cX3_chargeOverrun 0 = .ok (.aload_n 1, 1) := by decide +kernel
theorem dX3_chargeOverrun_1 : decode cX3_chargeOverrun 1 = .ok (.dup, 1) := by decide +kernel
theorem dX3_chargeOverrun_2 : decode cX3_chargeOverrun 2 = .ok (.getfield 157, 3) := by decide +kernel
theorem dX3_chargeOverrun_5 : decode cX3_chargeOverrun 5 = .ok (.iconst 1, 1) := by decide +kernel
theorem dX3_chargeOverrun_6 : decode cX3_chargeOverrun 6 = .ok (.iadd, 1) := by decide +kernel
theorem dX3_chargeOverrun_7 : decode cX3_chargeOverrun 7 = .ok (.putfield 157, 3) := by decide +kernel
theorem dX3_chargeOverrun_10 : decode cX3_chargeOverrun 10 = .ok (.aload_n 1, 1) := by decide +kernel
theorem dX3_chargeOverrun_11 : decode cX3_chargeOverrun 11 = .ok (.iload_n 2, 1) := by decide +kernel
theorem dX3_chargeOverrun_12 : decode cX3_chargeOverrun 12 = .ok (.iconst 3, 1) := by decide +kernel
theorem dX3_chargeOverrun_13 : decode cX3_chargeOverrun 13 = .ok (.invokevirtual 85, 3) := by decide +kernel
theorem dX3_chargeOverrun_16 : decode cX3_chargeOverrun 16 = .ok (.aload_n 0, 1) := by decide +kernel
theorem dX3_chargeOverrun_17 : decode cX3_chargeOverrun 17 = .ok (.getfield 45, 3) := by decide +kernel
theorem dX3_chargeOverrun_20 : decode cX3_chargeOverrun 20 = .ok (.ifCond .le 26, 3) := by decide +kernel
theorem dX3_chargeOverrun_23 : decode cX3_chargeOverrun 23 = .ok (.aload_n 0, 1) := by decide +kernel
theorem dX3_chargeOverrun_24 : decode cX3_chargeOverrun 24 = .ok (.dup, 1) := by decide +kernel
theorem dX3_chargeOverrun_25 : decode cX3_chargeOverrun 25 = .ok (.getfield 45, 3) := by decide +kernel
theorem dX3_chargeOverrun_28 : decode cX3_chargeOverrun 28 = .ok (.iconst 1, 1) := by decide +kernel
theorem dX3_chargeOverrun_29 : decode cX3_chargeOverrun 29 = .ok (.isub, 1) := by decide +kernel
theorem dX3_chargeOverrun_30 : decode cX3_chargeOverrun 30 = .ok (.putfield 45, 3) := by decide +kernel
theorem dX3_chargeOverrun_33 : decode cX3_chargeOverrun 33 = .ok (.aload_n 0, 1) := by decide +kernel
theorem dX3_chargeOverrun_34 : decode cX3_chargeOverrun 34 = .ok (.dup, 1) := by decide +kernel
theorem dX3_chargeOverrun_35 : decode cX3_chargeOverrun 35 = .ok (.getfield 48, 3) := by decide +kernel
theorem dX3_chargeOverrun_38 : decode cX3_chargeOverrun 38 = .ok (.iconst 1, 1) := by decide +kernel
theorem dX3_chargeOverrun_39 : decode cX3_chargeOverrun 39 = .ok (.iadd, 1) := by decide +kernel
theorem dX3_chargeOverrun_40 : decode cX3_chargeOverrun 40 = .ok (.putfield 48, 3) := by decide +kernel
theorem dX3_chargeOverrun_43 : decode cX3_chargeOverrun 43 = .ok (.goto 18, 3) := by decide +kernel
theorem dX3_chargeOverrun_46 : decode cX3_chargeOverrun 46 = .ok (.aload_n 0, 1) := by decide +kernel
theorem dX3_chargeOverrun_47 : decode cX3_chargeOverrun 47 = .ok (.dup, 1) := by decide +kernel
theorem dX3_chargeOverrun_48 : decode cX3_chargeOverrun 48 = .ok (.getfield 42, 3) := by decide +kernel
theorem dX3_chargeOverrun_51 : decode cX3_chargeOverrun 51 = .ok (.aload_n 0, 1) := by decide +kernel
theorem dX3_chargeOverrun_52 : decode cX3_chargeOverrun 52 = .ok (.getfield 9, 3) := by decide +kernel
theorem dX3_chargeOverrun_55 : decode cX3_chargeOverrun 55 = .ok (.iconst 1, 1) := by decide +kernel
theorem dX3_chargeOverrun_56 : decode cX3_chargeOverrun 56 = .ok (.iaload, 1) := by decide +kernel
theorem dX3_chargeOverrun_57 : decode cX3_chargeOverrun 57 = .ok (.iadd, 1) := by decide +kernel
theorem dX3_chargeOverrun_58 : decode cX3_chargeOverrun 58 = .ok (.putfield 42, 3) := by decide +kernel
theorem dX3_chargeOverrun_61 : decode cX3_chargeOverrun 61 = .ok (.return_, 1) := by decide +kernel
theorem dX4_init_0 : decode cX4_init 0 = .ok (.aload_n 0, 1) := by decide +kernel
theorem dX4_init_1 : decode cX4_init 1 = .ok (.invokespecial 1, 3) := by decide +kernel
theorem dX4_init_4 : decode cX4_init 4 = .ok (.aload_n 0, 1) := by decide +kernel
theorem dX4_init_5 : decode cX4_init 5 = .ok (.new 7, 3) := by decide +kernel
theorem dX4_init_8 : decode cX4_init 8 = .ok (.dup, 1) := by decide +kernel
theorem dX4_init_9 : decode cX4_init 9 = .ok (.invokespecial 9, 3) := by decide +kernel
theorem dX4_init_12 : decode cX4_init 12 = .ok (.putfield 10, 3) := by decide +kernel
theorem dX4_init_15 : decode cX4_init 15 = .ok (.aload_n 0, 1) := by decide +kernel
theorem dX4_init_16 : decode cX4_init 16 = .ok (.new 16, 3) := by decide +kernel
theorem dX4_init_19 : decode cX4_init 19 = .ok (.dup, 1) := by decide +kernel
theorem dX4_init_20 : decode cX4_init 20 = .ok (.invokespecial 18, 3) := by decide +kernel
theorem dX4_init_23 : decode cX4_init 23 = .ok (.putfield 19, 3) := by decide +kernel
theorem dX4_init_26 : decode cX4_init 26 = .ok (.aload_n 0, 1) := by decide +kernel
theorem dX4_init_27 : decode cX4_init 27 = .ok (.iconst 2, 1) := by decide +kernel
theorem dX4_init_28 : decode cX4_init 28 = .ok (.anewarray 7, 3) := by decide +kernel
theorem dX4_init_31 : decode cX4_init 31 = .ok (.putfield 23, 3) := by decide +kernel
theorem dX4_init_34 : decode cX4_init 34 = .ok (.aload_n 0, 1) := by decide +kernel
theorem dX4_init_35 : decode cX4_init 35 = .ok (.iconst 2, 1) := by decide +kernel
theorem dX4_init_36 : decode cX4_init 36 = .ok (.newarray .boolean, 2) := by decide +kernel
theorem dX4_init_38 : decode cX4_init 38 = .ok (.putfield 27, 3) := by decide +kernel
theorem dX4_init_41 : decode cX4_init 41 = .ok (.aload_n 0, 1) := by decide +kernel
theorem dX4_init_42 : decode cX4_init 42 = .ok (.new 31, 3) := by decide +kernel
theorem dX4_init_45 : decode cX4_init 45 = .ok (.dup, 1) := by decide +kernel
theorem dX4_init_46 : decode cX4_init 46 = .ok (.invokespecial 33, 3) := by decide +kernel
theorem dX4_init_49 : decode cX4_init 49 = .ok (.putfield 34, 3) := by decide +kernel
theorem dX4_init_52 : decode cX4_init 52 = .ok (.aload_n 0, 1) := by decide +kernel
theorem dX4_init_53 : decode cX4_init 53 = .ok (.new 7, 3) := by decide +kernel
theorem dX4_init_56 : decode cX4_init 56 = .ok (.dup, 1) := by decide +kernel
theorem dX4_init_57 : decode cX4_init 57 = .ok (.invokespecial 9, 3) := by decide +kernel
theorem dX4_init_60 : decode cX4_init 60 = .ok (.putfield 38, 3) := by decide +kernel
theorem dX4_init_63 : decode cX4_init 63 = .ok (.aload_n 0, 1) := by decide +kernel
theorem dX4_init_64 : decode cX4_init 64 = .ok (.new 7, 3) := by decide +kernel
theorem dX4_init_67 : decode cX4_init 67 = .ok (.dup, 1) := by decide +kernel
theorem dX4_init_68 : decode cX4_init 68 = .ok (.invokespecial 9, 3) := by decide +kernel
theorem dX4_init_71 : decode cX4_init 71 = .ok (.putfield 41, 3) := by decide +kernel
theorem dX4_init_74 : decode cX4_init 74 = .ok (.iconst 0, 1) := by decide +kernel
theorem dX4_init_75 : decode cX4_init 75 = .ok (.istore_n 1, 1) := by decide +kernel
theorem dX4_init_76 : decode cX4_init 76 = .ok (.iload_n 1, 1) := by decide +kernel
theorem dX4_init_77 : decode cX4_init 77 = .ok (.iconst 2, 1) := by decide +kernel
theorem dX4_init_78 : decode cX4_init 78 = .ok (.if_icmp .ge 22, 3) := by decide +kernel
theorem dX4_init_81 : decode cX4_init 81 = .ok (.aload_n 0, 1) := by decide +kernel
theorem dX4_init_82 : decode cX4_init 82 = .ok (.getfield 23, 3) := by decide +kernel
theorem dX4_init_85 : decode cX4_init 85 = .ok (.iload_n 1, 1) := by decide +kernel
theorem dX4_init_86 : decode cX4_init 86 = .ok (.new 7, 3) := by decide +kernel
theorem dX4_init_89 : decode cX4_init 89 = .ok (.dup, 1) := by decide +kernel
theorem dX4_init_90 : decode cX4_init 90 = .ok (.invokespecial 9, 3) := by decide +kernel
theorem dX4_init_93 : decode cX4_init 93 = .ok (.aastore, 1) := by decide +kernel
theorem dX4_init_94 : decode cX4_init 94 = .ok (.iinc 1 1, 3) := by decide +kernel
theorem dX4_init_97 : decode cX4_init 97 = .ok (.goto (-21), 3) := by decide +kernel
theorem dX4_init_100 : decode cX4_init 100 = .ok (.return_, 1) := by decide +kernel
theorem dX4_set_0 : decode cX4_set 0 = .ok (.aload_n 0, 1) := by decide +kernel
theorem dX4_set_1 : decode cX4_set 1 = .ok (.getfield 19, 3) := by decide +kernel
theorem dX4_set_4 : decode cX4_set 4 = .ok (.aload_n 0, 1) := by decide +kernel
theorem dX4_set_5 : decode cX4_set 5 = .ok (.getfield 10, 3) := by decide +kernel
theorem dX4_set_8 : decode cX4_set 8 = .ok (.invokevirtual 44, 3) := by decide +kernel
theorem dX4_set_11 : decode cX4_set 11 = .ok (.aload_n 0, 1) := by decide +kernel
theorem dX4_set_12 : decode cX4_set 12 = .ok (.aload_n 0, 1) := by decide +kernel
theorem dX4_set_13 : decode cX4_set 13 = .ok (.getfield 10, 3) := by decide +kernel
theorem dX4_set_16 : decode cX4_set 16 = .ok (.iload_n 1, 1) := by decide +kernel
theorem dX4_set_17 : decode cX4_set 17 = .ok (.iload_n 2, 1) := by decide +kernel
theorem dX4_set_18 : decode cX4_set 18 = .ok (.invokevirtual 48, 3) := by decide +kernel
theorem dX4_set_21 : decode cX4_set 21 = .ok (.invokevirtual 52, 3) := by decide +kernel
theorem dX4_set_24 : decode cX4_set 24 = .ok (.ireturn, 1) := by decide +kernel
theorem dX4_stream_0 : decode cX4_stream 0 = .ok (.aload_n 0, 1) := by decide +kernel
theorem dX4_stream_1 : decode cX4_stream 1 = .ok (.getfield 19, 3) := by decide +kernel
theorem dX4_stream_4 : decode cX4_stream 4 = .ok (.aload_n 0, 1) := by decide +kernel
theorem dX4_stream_5 : decode cX4_stream 5 = .ok (.getfield 10, 3) := by decide +kernel
theorem dX4_stream_8 : decode cX4_stream 8 = .ok (.invokevirtual 44, 3) := by decide +kernel
theorem dX4_stream_11 : decode cX4_stream 11 = .ok (.aload_n 0, 1) := by decide +kernel
theorem dX4_stream_12 : decode cX4_stream 12 = .ok (.aload_n 0, 1) := by decide +kernel
theorem dX4_stream_13 : decode cX4_stream 13 = .ok (.getfield 10, 3) := by decide +kernel
theorem dX4_stream_16 : decode cX4_stream 16 = .ok (.iload_n 1, 1) := by decide +kernel
theorem dX4_stream_17 : decode cX4_stream 17 = .ok (.iload_n 2, 1) := by decide +kernel
theorem dX4_stream_18 : decode cX4_stream 18 = .ok (.iload_n 3, 1) := by decide +kernel
theorem dX4_stream_19 : decode cX4_stream 19 = .ok (.invokevirtual 56, 3) := by decide +kernel
theorem dX4_stream_22 : decode cX4_stream 22 = .ok (.invokevirtual 52, 3) := by decide +kernel
theorem dX4_stream_25 : decode cX4_stream 25 = .ok (.ireturn, 1) := by decide +kernel
theorem dX4_write_0 : decode cX4_write 0 = .ok (.aload_n 0, 1) := by decide +kernel
theorem dX4_write_1 : decode cX4_write 1 = .ok (.getfield 19, 3) := by decide +kernel
theorem dX4_write_4 : decode cX4_write 4 = .ok (.aload_n 0, 1) := by decide +kernel
theorem dX4_write_5 : decode cX4_write 5 = .ok (.getfield 10, 3) := by decide +kernel
theorem dX4_write_8 : decode cX4_write 8 = .ok (.invokevirtual 44, 3) := by decide +kernel
theorem dX4_write_11 : decode cX4_write 11 = .ok (.aload_n 0, 1) := by decide +kernel
theorem dX4_write_12 : decode cX4_write 12 = .ok (.aload_n 0, 1) := by decide +kernel
theorem dX4_write_13 : decode cX4_write 13 = .ok (.getfield 10, 3) := by decide +kernel
theorem dX4_write_16 : decode cX4_write 16 = .ok (.iload_n 1, 1) := by decide +kernel
theorem dX4_write_17 : decode cX4_write 17 = .ok (.iload_n 2, 1) := by decide +kernel
theorem dX4_write_18 : decode cX4_write 18 = .ok (.invokevirtual 60, 3) := by decide +kernel
theorem dX4_write_21 : decode cX4_write 21 = .ok (.invokevirtual 52, 3) := by decide +kernel
theorem dX4_write_24 : decode cX4_write 24 = .ok (.ireturn, 1) := by decide +kernel
theorem dX4_sell_0 : decode cX4_sell 0 = .ok (.aload_n 0, 1) := by decide +kernel
theorem dX4_sell_1 : decode cX4_sell 1 = .ok (.getfield 19, 3) := by decide +kernel
theorem dX4_sell_4 : decode cX4_sell 4 = .ok (.aload_n 0, 1) := by decide +kernel
theorem dX4_sell_5 : decode cX4_sell 5 = .ok (.getfield 10, 3) := by decide +kernel
theorem dX4_sell_8 : decode cX4_sell 8 = .ok (.invokevirtual 44, 3) := by decide +kernel
theorem dX4_sell_11 : decode cX4_sell 11 = .ok (.aload_n 0, 1) := by decide +kernel
theorem dX4_sell_12 : decode cX4_sell 12 = .ok (.aload_n 0, 1) := by decide +kernel
theorem dX4_sell_13 : decode cX4_sell 13 = .ok (.getfield 10, 3) := by decide +kernel
theorem dX4_sell_16 : decode cX4_sell 16 = .ok (.iload_n 1, 1) := by decide +kernel
theorem dX4_sell_17 : decode cX4_sell 17 = .ok (.iload_n 2, 1) := by decide +kernel
theorem dX4_sell_18 : decode cX4_sell 18 = .ok (.invokevirtual 63, 3) := by decide +kernel
theorem dX4_sell_21 : decode cX4_sell 21 = .ok (.invokevirtual 52, 3) := by decide +kernel
theorem dX4_sell_24 : decode cX4_sell 24 = .ok (.ireturn, 1) := by decide +kernel
theorem dX4_giveBack_0 : decode cX4_giveBack 0 = .ok (.aload_n 0, 1) := by decide +kernel
theorem dX4_giveBack_1 : decode cX4_giveBack 1 = .ok (.getfield 19, 3) := by decide +kernel
theorem dX4_giveBack_4 : decode cX4_giveBack 4 = .ok (.aload_n 0, 1) := by decide +kernel
theorem dX4_giveBack_5 : decode cX4_giveBack 5 = .ok (.getfield 10, 3) := by decide +kernel
theorem dX4_giveBack_8 : decode cX4_giveBack 8 = .ok (.invokevirtual 44, 3) := by decide +kernel
theorem dX4_giveBack_11 : decode cX4_giveBack 11 = .ok (.aload_n 0, 1) := by decide +kernel
theorem dX4_giveBack_12 : decode cX4_giveBack 12 = .ok (.aload_n 0, 1) := by decide +kernel
theorem dX4_giveBack_13 : decode cX4_giveBack 13 = .ok (.getfield 10, 3) := by decide +kernel
theorem dX4_giveBack_16 : decode cX4_giveBack 16 = .ok (.iload_n 1, 1) := by decide +kernel
theorem dX4_giveBack_17 : decode cX4_giveBack 17 = .ok (.iload_n 2, 1) := by decide +kernel
theorem dX4_giveBack_18 : decode cX4_giveBack 18 = .ok (.invokevirtual 66, 3) := by decide +kernel
theorem dX4_giveBack_21 : decode cX4_giveBack 21 = .ok (.invokevirtual 52, 3) := by decide +kernel
theorem dX4_giveBack_24 : decode cX4_giveBack 24 = .ok (.ireturn, 1) := by decide +kernel
theorem dX4_pass_0 : decode cX4_pass 0 = .ok (.aload_n 0, 1) := by decide +kernel
theorem dX4_pass_1 : decode cX4_pass 1 = .ok (.getfield 19, 3) := by decide +kernel
theorem dX4_pass_4 : decode cX4_pass 4 = .ok (.aload_n 0, 1) := by decide +kernel
theorem dX4_pass_5 : decode cX4_pass 5 = .ok (.getfield 10, 3) := by decide +kernel
theorem dX4_pass_8 : decode cX4_pass 8 = .ok (.invokevirtual 44, 3) := by decide +kernel
theorem dX4_pass_11 : decode cX4_pass 11 = .ok (.aload_n 0, 1) := by decide +kernel
theorem dX4_pass_12 : decode cX4_pass 12 = .ok (.aload_n 0, 1) := by decide +kernel
theorem dX4_pass_13 : decode cX4_pass 13 = .ok (.getfield 10, 3) := by decide +kernel
theorem dX4_pass_16 : decode cX4_pass 16 = .ok (.iload_n 1, 1) := by decide +kernel
theorem dX4_pass_17 : decode cX4_pass 17 = .ok (.invokevirtual 69, 3) := by decide +kernel
theorem dX4_pass_20 : decode cX4_pass 20 = .ok (.invokevirtual 52, 3) := by decide +kernel
theorem dX4_pass_23 : decode cX4_pass 23 = .ok (.ireturn, 1) := by decide +kernel
theorem dX4_ofDrive_0 : decode cX4_ofDrive 0 = .ok (.iload_n 1, 1) := by decide +kernel
theorem dX4_ofDrive_1 : decode cX4_ofDrive 1 = .ok (.invokestatic 72, 3) := by decide +kernel
theorem dX4_ofDrive_4 : decode cX4_ofDrive 4 = .ok (.ifCond .ne 5, 3) := by decide +kernel
theorem dX4_ofDrive_7 : decode cX4_ofDrive 7 = .ok (.iconst (-1), 1) := by decide +kernel
theorem dX4_ofDrive_8 : decode cX4_ofDrive 8 = .ok (.ireturn, 1) := by decide +kernel
theorem dX4_ofDrive_9 : decode cX4_ofDrive 9 = .ok (.aload_n 0, 1) := by decide +kernel
theorem dX4_ofDrive_10 : decode cX4_ofDrive 10 = .ok (.getfield 10, 3) := by decide +kernel
theorem dX4_ofDrive_13 : decode cX4_ofDrive 13 = .ok (.getfield 76, 3) := by decide +kernel
theorem dX4_ofDrive_16 : decode cX4_ofDrive 16 = .ok (.iload_n 1, 1) := by decide +kernel
theorem dX4_ofDrive_17 : decode cX4_ofDrive 17 = .ok (.aaload, 1) := by decide +kernel
theorem dX4_ofDrive_18 : decode cX4_ofDrive 18 = .ok (.astore_n 3, 1) := by decide +kernel
theorem dX4_ofDrive_19 : decode cX4_ofDrive 19 = .ok (.iload_n 2, 1) := by decide +kernel
theorem dX4_ofDrive_20 : decode cX4_ofDrive 20 = .ok (.tableswitch 167 0 13 #[72, 77, 82, 87, 92, 112, 125, 130, 135, 140, 145, 151, 157, 162], 72) := by decide +kernel
theorem dX4_ofDrive_92 : decode cX4_ofDrive 92 = .ok (.aload_n 3, 1) := by decide +kernel
theorem dX4_ofDrive_93 : decode cX4_ofDrive 93 = .ok (.getfield 80, 3) := by decide +kernel
theorem dX4_ofDrive_96 : decode cX4_ofDrive 96 = .ok (.ireturn, 1) := by decide +kernel
theorem dX4_ofDrive_97 : decode cX4_ofDrive 97 = .ok (.aload_n 3, 1) := by decide +kernel
theorem dX4_ofDrive_98 : decode cX4_ofDrive 98 = .ok (.getfield 86, 3) := by decide +kernel
theorem dX4_ofDrive_101 : decode cX4_ofDrive 101 = .ok (.ireturn, 1) := by decide +kernel
theorem dX4_ofDrive_102 : decode cX4_ofDrive 102 = .ok (.aload_n 3, 1) := by decide +kernel
theorem dX4_ofDrive_103 : decode cX4_ofDrive 103 = .ok (.getfield 89, 3) := by decide +kernel
theorem dX4_ofDrive_106 : decode cX4_ofDrive 106 = .ok (.ireturn, 1) := by decide +kernel
theorem dX4_ofDrive_107 : decode cX4_ofDrive 107 = .ok (.aload_n 3, 1) := by decide +kernel
theorem dX4_ofDrive_108 : decode cX4_ofDrive 108 = .ok (.getfield 92, 3) := by decide +kernel
theorem dX4_ofDrive_111 : decode cX4_ofDrive 111 = .ok (.ireturn, 1) := by decide +kernel
theorem dX4_ofDrive_112 : decode cX4_ofDrive 112 = .ok (.aload_n 3, 1) := by decide +kernel
theorem dX4_ofDrive_113 : decode cX4_ofDrive 113 = .ok (.aload_n 0, 1) := by decide +kernel
theorem dX4_ofDrive_114 : decode cX4_ofDrive 114 = .ok (.getfield 10, 3) := by decide +kernel
theorem dX4_ofDrive_117 : decode cX4_ofDrive 117 = .ok (.invokevirtual 95, 3) := by decide +kernel
theorem dX4_ofDrive_120 : decode cX4_ofDrive 120 = .ok (.invokevirtual 99, 3) := by decide +kernel
theorem dX4_ofDrive_123 : decode cX4_ofDrive 123 = .ok (.ifCond .eq 7, 3) := by decide +kernel
theorem dX4_ofDrive_126 : decode cX4_ofDrive 126 = .ok (.iconst 1, 1) := by decide +kernel
theorem dX4_ofDrive_127 : decode cX4_ofDrive 127 = .ok (.goto 4, 3) := by decide +kernel
theorem dX4_ofDrive_130 : decode cX4_ofDrive 130 = .ok (.iconst 0, 1) := by decide +kernel
theorem dX4_ofDrive_131 : decode cX4_ofDrive 131 = .ok (.ireturn, 1) := by decide +kernel
theorem dX4_ofDrive_132 : decode cX4_ofDrive 132 = .ok (.aload_n 3, 1) := by decide +kernel
theorem dX4_ofDrive_133 : decode cX4_ofDrive 133 = .ok (.getfield 102, 3) := by decide +kernel
theorem dX4_ofDrive_136 : decode cX4_ofDrive 136 = .ok (.ifCond .eq 7, 3) := by decide +kernel
theorem dX4_ofDrive_139 : decode cX4_ofDrive 139 = .ok (.iconst 1, 1) := by decide +kernel
theorem dX4_ofDrive_140 : decode cX4_ofDrive 140 = .ok (.goto 4, 3) := by decide +kernel
theorem dX4_ofDrive_143 : decode cX4_ofDrive 143 = .ok (.iconst 0, 1) := by decide +kernel
theorem dX4_ofDrive_144 : decode cX4_ofDrive 144 = .ok (.ireturn, 1) := by decide +kernel
theorem dX4_ofDrive_145 : decode cX4_ofDrive 145 = .ok (.aload_n 3, 1) := by decide +kernel
theorem dX4_ofDrive_146 : decode cX4_ofDrive 146 = .ok (.getfield 106, 3) := by decide +kernel
theorem dX4_ofDrive_149 : decode cX4_ofDrive 149 = .ok (.ireturn, 1) := by decide +kernel
theorem dX4_ofDrive_150 : decode cX4_ofDrive 150 = .ok (.aload_n 3, 1) := by decide +kernel
theorem dX4_ofDrive_151 : decode cX4_ofDrive 151 = .ok (.getfield 109, 3) := by decide +kernel
theorem dX4_ofDrive_154 : decode cX4_ofDrive 154 = .ok (.ireturn, 1) := by decide +kernel
theorem dX4_ofDrive_155 : decode cX4_ofDrive 155 = .ok (.aload_n 3, 1) := by decide +kernel
theorem dX4_ofDrive_156 : decode cX4_ofDrive 156 = .ok (.getfield 112, 3) := by decide +kernel
theorem dX4_ofDrive_159 : decode cX4_ofDrive 159 = .ok (.ireturn, 1) := by decide +kernel
theorem dX4_ofDrive_160 : decode cX4_ofDrive 160 = .ok (.aload_n 3, 1) := by decide +kernel
theorem dX4_ofDrive_161 : decode cX4_ofDrive 161 = .ok (.invokevirtual 115, 3) := by decide +kernel
theorem dX4_ofDrive_164 : decode cX4_ofDrive 164 = .ok (.ireturn, 1) := by decide +kernel
theorem dX4_ofDrive_165 : decode cX4_ofDrive 165 = .ok (.aload_n 3, 1) := by decide +kernel
theorem dX4_ofDrive_166 : decode cX4_ofDrive 166 = .ok (.iconst 2, 1) := by decide +kernel
theorem dX4_ofDrive_167 : decode cX4_ofDrive 167 = .ok (.invokevirtual 118, 3) := by decide +kernel
theorem dX4_ofDrive_170 : decode cX4_ofDrive 170 = .ok (.ireturn, 1) := by decide +kernel
theorem dX4_ofDrive_171 : decode cX4_ofDrive 171 = .ok (.aload_n 3, 1) := by decide +kernel
theorem dX4_ofDrive_172 : decode cX4_ofDrive 172 = .ok (.iconst 3, 1) := by decide +kernel
theorem dX4_ofDrive_173 : decode cX4_ofDrive 173 = .ok (.invokevirtual 118, 3) := by decide +kernel
theorem dX4_ofDrive_176 : decode cX4_ofDrive 176 = .ok (.ireturn, 1) := by decide +kernel
theorem dX4_ofDrive_177 : decode cX4_ofDrive 177 = .ok (.aload_n 3, 1) := by decide +kernel
theorem dX4_ofDrive_178 : decode cX4_ofDrive 178 = .ok (.getfield 121, 3) := by decide +kernel
theorem dX4_ofDrive_181 : decode cX4_ofDrive 181 = .ok (.ireturn, 1) := by decide +kernel
theorem dX4_ofDrive_182 : decode cX4_ofDrive 182 = .ok (.aload_n 3, 1) := by decide +kernel
theorem dX4_ofDrive_183 : decode cX4_ofDrive 183 = .ok (.getfield 124, 3) := by decide +kernel
theorem dX4_ofDrive_186 : decode cX4_ofDrive 186 = .ok (.ireturn, 1) := by decide +kernel
theorem dX4_ofDrive_187 : decode cX4_ofDrive 187 = .ok (.bipush (-2), 2) := by decide +kernel
theorem dX4_ofDrive_189 : decode cX4_ofDrive 189 = .ok (.ireturn, 1) := by decide +kernel
theorem dX4_hour_0 : decode cX4_hour 0 = .ok (.iload_n 1, 1) := by decide +kernel
theorem dX4_hour_1 : decode cX4_hour 1 = .ok (.invokestatic 72, 3) := by decide +kernel
theorem dX4_hour_4 : decode cX4_hour 4 = .ok (.ifCond .ne 5, 3) := by decide +kernel
theorem dX4_hour_7 : decode cX4_hour 7 = .ok (.iconst (-1), 1) := by decide +kernel
theorem dX4_hour_8 : decode cX4_hour 8 = .ok (.ireturn, 1) := by decide +kernel
theorem dX4_hour_9 : decode cX4_hour 9 = .ok (.iload_n 2, 1) := by decide +kernel
theorem dX4_hour_10 : decode cX4_hour 10 = .ok (.invokestatic 127, 3) := by decide +kernel
theorem dX4_hour_13 : decode cX4_hour 13 = .ok (.ifCond .eq 19, 3) := by decide +kernel
theorem dX4_hour_16 : decode cX4_hour 16 = .ok (.aload_n 0, 1) := by decide +kernel
theorem dX4_hour_17 : decode cX4_hour 17 = .ok (.getfield 10, 3) := by decide +kernel
theorem dX4_hour_20 : decode cX4_hour 20 = .ok (.getfield 76, 3) := by decide +kernel
theorem dX4_hour_23 : decode cX4_hour 23 = .ok (.iload_n 1, 1) := by decide +kernel
theorem dX4_hour_24 : decode cX4_hour 24 = .ok (.aaload, 1) := by decide +kernel
theorem dX4_hour_25 : decode cX4_hour 25 = .ok (.iload_n 2, 1) := by decide +kernel
theorem dX4_hour_26 : decode cX4_hour 26 = .ok (.invokevirtual 130, 3) := by decide +kernel
theorem dX4_hour_29 : decode cX4_hour 29 = .ok (.goto 5, 3) := by decide +kernel
theorem dX4_hour_32 : decode cX4_hour 32 = .ok (.bipush (-2), 2) := by decide +kernel
theorem dX4_hour_34 : decode cX4_hour 34 = .ok (.ireturn, 1) := by decide +kernel
theorem dX4_streak_0 : decode cX4_streak 0 = .ok (.iload_n 1, 1) := by decide +kernel
theorem dX4_streak_1 : decode cX4_streak 1 = .ok (.invokestatic 72, 3) := by decide +kernel
theorem dX4_streak_4 : decode cX4_streak 4 = .ok (.ifCond .eq 18, 3) := by decide +kernel
theorem dX4_streak_7 : decode cX4_streak 7 = .ok (.aload_n 0, 1) := by decide +kernel
theorem dX4_streak_8 : decode cX4_streak 8 = .ok (.getfield 10, 3) := by decide +kernel
theorem dX4_streak_11 : decode cX4_streak 11 = .ok (.getfield 76, 3) := by decide +kernel
theorem dX4_streak_14 : decode cX4_streak 14 = .ok (.iload_n 1, 1) := by decide +kernel
theorem dX4_streak_15 : decode cX4_streak 15 = .ok (.aaload, 1) := by decide +kernel
theorem dX4_streak_16 : decode cX4_streak 16 = .ok (.invokevirtual 133, 3) := by decide +kernel
theorem dX4_streak_19 : decode cX4_streak 19 = .ok (.goto 4, 3) := by decide +kernel
theorem dX4_streak_22 : decode cX4_streak 22 = .ok (.iconst (-1), 1) := by decide +kernel
theorem dX4_streak_23 : decode cX4_streak 23 = .ok (.ireturn, 1) := by decide +kernel
theorem dX4_share_0 : decode cX4_share 0 = .ok (.iload_n 1, 1) := by decide +kernel
theorem dX4_share_1 : decode cX4_share 1 = .ok (.invokestatic 72, 3) := by decide +kernel
theorem dX4_share_4 : decode cX4_share 4 = .ok (.ifCond .ne 5, 3) := by decide +kernel
theorem dX4_share_7 : decode cX4_share 7 = .ok (.iconst (-1), 1) := by decide +kernel
theorem dX4_share_8 : decode cX4_share 8 = .ok (.ireturn, 1) := by decide +kernel
theorem dX4_share_9 : decode cX4_share 9 = .ok (.aload_n 0, 1) := by decide +kernel
theorem dX4_share_10 : decode cX4_share 10 = .ok (.getfield 10, 3) := by decide +kernel
theorem dX4_share_13 : decode cX4_share 13 = .ok (.getfield 76, 3) := by decide +kernel
theorem dX4_share_16 : decode cX4_share 16 = .ok (.iload_n 1, 1) := by decide +kernel
theorem dX4_share_17 : decode cX4_share 17 = .ok (.aaload, 1) := by decide +kernel
theorem dX4_share_18 : decode cX4_share 18 = .ok (.iconst 2, 1) := by decide +kernel
theorem dX4_share_19 : decode cX4_share 19 = .ok (.invokevirtual 118, 3) := by decide +kernel
theorem dX4_share_22 : decode cX4_share 22 = .ok (.istore_n 2, 1) := by decide +kernel
theorem dX4_share_23 : decode cX4_share 23 = .ok (.iload_n 2, 1) := by decide +kernel
theorem dX4_share_24 : decode cX4_share 24 = .ok (.aload_n 0, 1) := by decide +kernel
theorem dX4_share_25 : decode cX4_share 25 = .ok (.getfield 10, 3) := by decide +kernel
theorem dX4_share_28 : decode cX4_share 28 = .ok (.getfield 76, 3) := by decide +kernel
theorem dX4_share_31 : decode cX4_share 31 = .ok (.iload_n 1, 1) := by decide +kernel
theorem dX4_share_32 : decode cX4_share 32 = .ok (.aaload, 1) := by decide +kernel
theorem dX4_share_33 : decode cX4_share 33 = .ok (.iconst 3, 1) := by decide +kernel
theorem dX4_share_34 : decode cX4_share 34 = .ok (.invokevirtual 118, 3) := by decide +kernel
theorem dX4_share_37 : decode cX4_share 37 = .ok (.iadd, 1) := by decide +kernel
theorem dX4_share_38 : decode cX4_share 38 = .ok (.istore_n 3, 1) := by decide +kernel
theorem dX4_share_39 : decode cX4_share 39 = .ok (.iload_n 3, 1) := by decide +kernel
end
section
theorem dX4_share_40 : decode cX4_share 40 = .ok (.ifCond .le 15, 3) := by decide +kernel
theorem dX4_share_43 : decode cX4_share 43 = .ok (.iload_n 2, 1) := by decide +kernel
theorem dX4_share_44 : decode cX4_share 44 = .ok (.i2d, 1) := by decide +kernel
theorem dX4_share_45 : decode cX4_share 45 = .ok (.iload_n 3, 1) := by decide +kernel
theorem dX4_share_46 : decode cX4_share 46 = .ok (.i2d, 1) := by decide +kernel
theorem dX4_share_47 : decode cX4_share 47 = .ok (.ddiv, 1) := by decide +kernel
theorem dX4_share_48 : decode cX4_share 48 = .ok (.d2f, 1) := by decide +kernel
theorem dX4_share_49 : decode cX4_share 49 = .ok (.invokestatic 136, 3) := by decide +kernel
theorem dX4_share_52 : decode cX4_share 52 = .ok (.goto 5, 3) := by decide +kernel
theorem dX4_share_55 : decode cX4_share 55 = .ok (.bipush (-6), 2) := by decide +kernel
theorem dX4_share_57 : decode cX4_share 57 = .ok (.ireturn, 1) := by decide +kernel
theorem dX4_mean_0 : decode cX4_mean 0 = .ok (.iload_n 1, 1) := by decide +kernel
theorem dX4_mean_1 : decode cX4_mean 1 = .ok (.invokestatic 72, 3) := by decide +kernel
theorem dX4_mean_4 : decode cX4_mean 4 = .ok (.ifCond .ne 7, 3) := by decide +kernel
theorem dX4_mean_7 : decode cX4_mean 7 = .ok (.ldc2_w 140, 3) := by decide +kernel
theorem dX4_mean_10 : decode cX4_mean 10 = .ok (.lreturn, 1) := by decide +kernel
theorem dX4_mean_11 : decode cX4_mean 11 = .ok (.aload_n 0, 1) := by decide +kernel
theorem dX4_mean_12 : decode cX4_mean 12 = .ok (.getfield 10, 3) := by decide +kernel
theorem dX4_mean_15 : decode cX4_mean 15 = .ok (.getfield 142, 3) := by decide +kernel
theorem dX4_mean_18 : decode cX4_mean 18 = .ok (.istore_n 2, 1) := by decide +kernel
theorem dX4_mean_19 : decode cX4_mean 19 = .ok (.iload_n 2, 1) := by decide +kernel
theorem dX4_mean_20 : decode cX4_mean 20 = .ok (.ifCond .le 25, 3) := by decide +kernel
theorem dX4_mean_23 : decode cX4_mean 23 = .ok (.aload_n 0, 1) := by decide +kernel
theorem dX4_mean_24 : decode cX4_mean 24 = .ok (.getfield 10, 3) := by decide +kernel
theorem dX4_mean_27 : decode cX4_mean 27 = .ok (.getfield 76, 3) := by decide +kernel
theorem dX4_mean_30 : decode cX4_mean 30 = .ok (.iload_n 1, 1) := by decide +kernel
theorem dX4_mean_31 : decode cX4_mean 31 = .ok (.aaload, 1) := by decide +kernel
theorem dX4_mean_32 : decode cX4_mean 32 = .ok (.getfield 145, 3) := by decide +kernel
theorem dX4_mean_35 : decode cX4_mean 35 = .ok (.l2d, 1) := by decide +kernel
theorem dX4_mean_36 : decode cX4_mean 36 = .ok (.iload_n 2, 1) := by decide +kernel
theorem dX4_mean_37 : decode cX4_mean 37 = .ok (.i2d, 1) := by decide +kernel
theorem dX4_mean_38 : decode cX4_mean 38 = .ok (.ddiv, 1) := by decide +kernel
theorem dX4_mean_39 : decode cX4_mean 39 = .ok (.invokestatic 149, 3) := by decide +kernel
theorem dX4_mean_42 : decode cX4_mean 42 = .ok (.goto 4, 3) := by decide +kernel
theorem dX4_mean_45 : decode cX4_mean 45 = .ok (.lconst 0, 1) := by decide +kernel
theorem dX4_mean_46 : decode cX4_mean 46 = .ok (.lreturn, 1) := by decide +kernel
theorem dX4_count_0 : decode cX4_count 0 = .ok (.iload_n 1, 1) := by decide +kernel
theorem dX4_count_1 : decode cX4_count 1 = .ok (.bipush 6, 2) := by decide +kernel
theorem dX4_count_3 : decode cX4_count 3 = .ok (.if_icmp .lt 22, 3) := by decide +kernel
theorem dX4_count_6 : decode cX4_count 6 = .ok (.iload_n 1, 1) := by decide +kernel
theorem dX4_count_7 : decode cX4_count 7 = .ok (.bipush 13, 2) := by decide +kernel
theorem dX4_count_9 : decode cX4_count 9 = .ok (.if_icmp .ge 16, 3) := by decide +kernel
theorem dX4_count_12 : decode cX4_count 12 = .ok (.aload_n 0, 1) := by decide +kernel
theorem dX4_count_13 : decode cX4_count 13 = .ok (.getfield 10, 3) := by decide +kernel
theorem dX4_count_16 : decode cX4_count 16 = .ok (.getfield 153, 3) := by decide +kernel
theorem dX4_count_19 : decode cX4_count 19 = .ok (.iload_n 1, 1) := by decide +kernel
theorem dX4_count_20 : decode cX4_count 20 = .ok (.bipush 6, 2) := by decide +kernel
theorem dX4_count_22 : decode cX4_count 22 = .ok (.isub, 1) := by decide +kernel
theorem dX4_count_23 : decode cX4_count 23 = .ok (.iaload, 1) := by decide +kernel
theorem dX4_count_24 : decode cX4_count 24 = .ok (.ireturn, 1) := by decide +kernel
theorem dX4_count_25 : decode cX4_count 25 = .ok (.iload_n 1, 1) := by decide +kernel
theorem dX4_count_26 : decode cX4_count 26 = .ok (.tableswitch 138 0 14 #[74, 82, 90, 98, 106, 114, 138, 138, 138, 138, 138, 138, 138, 122, 130], 74) := by decide +kernel
theorem dX4_count_100 : decode cX4_count 100 = .ok (.aload_n 0, 1) := by decide +kernel
theorem dX4_count_101 : decode cX4_count 101 = .ok (.getfield 10, 3) := by decide +kernel
theorem dX4_count_104 : decode cX4_count 104 = .ok (.getfield 142, 3) := by decide +kernel
theorem dX4_count_107 : decode cX4_count 107 = .ok (.ireturn, 1) := by decide +kernel
theorem dX4_count_108 : decode cX4_count 108 = .ok (.aload_n 0, 1) := by decide +kernel
theorem dX4_count_109 : decode cX4_count 109 = .ok (.getfield 10, 3) := by decide +kernel
theorem dX4_count_112 : decode cX4_count 112 = .ok (.invokevirtual 95, 3) := by decide +kernel
theorem dX4_count_115 : decode cX4_count 115 = .ok (.ireturn, 1) := by decide +kernel
theorem dX4_count_116 : decode cX4_count 116 = .ok (.aload_n 0, 1) := by decide +kernel
theorem dX4_count_117 : decode cX4_count 117 = .ok (.getfield 10, 3) := by decide +kernel
theorem dX4_count_120 : decode cX4_count 120 = .ok (.getfield 157, 3) := by decide +kernel
theorem dX4_count_123 : decode cX4_count 123 = .ok (.ireturn, 1) := by decide +kernel
theorem dX4_count_124 : decode cX4_count 124 = .ok (.aload_n 0, 1) := by decide +kernel
theorem dX4_count_125 : decode cX4_count 125 = .ok (.getfield 10, 3) := by decide +kernel
theorem dX4_count_128 : decode cX4_count 128 = .ok (.getfield 160, 3) := by decide +kernel
theorem dX4_count_131 : decode cX4_count 131 = .ok (.ireturn, 1) := by decide +kernel
theorem dX4_count_132 : decode cX4_count 132 = .ok (.aload_n 0, 1) := by decide +kernel
theorem dX4_count_133 : decode cX4_count 133 = .ok (.getfield 10, 3) := by decide +kernel
theorem dX4_count_136 : decode cX4_count 136 = .ok (.getfield 163, 3) := by decide +kernel
theorem dX4_count_139 : decode cX4_count 139 = .ok (.ireturn, 1) := by decide +kernel
theorem dX4_count_140 : decode cX4_count 140 = .ok (.aload_n 0, 1) := by decide +kernel
theorem dX4_count_141 : decode cX4_count 141 = .ok (.getfield 10, 3) := by decide +kernel
theorem dX4_count_144 : decode cX4_count 144 = .ok (.getfield 166, 3) := by decide +kernel
theorem dX4_count_147 : decode cX4_count 147 = .ok (.ireturn, 1) := by decide +kernel
theorem dX4_count_148 : decode cX4_count 148 = .ok (.aload_n 0, 1) := by decide +kernel
theorem dX4_count_149 : decode cX4_count 149 = .ok (.getfield 34, 3) := by decide +kernel
theorem dX4_count_152 : decode cX4_count 152 = .ok (.getfield 169, 3) := by decide +kernel
theorem dX4_count_155 : decode cX4_count 155 = .ok (.ireturn, 1) := by decide +kernel
theorem dX4_count_156 : decode cX4_count 156 = .ok (.aload_n 0, 1) := by decide +kernel
theorem dX4_count_157 : decode cX4_count 157 = .ok (.getfield 19, 3) := by decide +kernel
theorem dX4_count_160 : decode cX4_count 160 = .ok (.getfield 172, 3) := by decide +kernel
theorem dX4_count_163 : decode cX4_count 163 = .ok (.ireturn, 1) := by decide +kernel
theorem dX4_count_164 : decode cX4_count 164 = .ok (.bipush (-2), 2) := by decide +kernel
theorem dX4_count_166 : decode cX4_count 166 = .ok (.ireturn, 1) := by decide +kernel
theorem dX4_loudIn_0 : decode cX4_loudIn 0 = .ok (.aload_n 0, 1) := by decide +kernel
theorem dX4_loudIn_1 : decode cX4_loudIn 1 = .ok (.iload_n 1, 1) := by decide +kernel
theorem dX4_loudIn_2 : decode cX4_loudIn 2 = .ok (.iload_n 2, 1) := by decide +kernel
theorem dX4_loudIn_3 : decode cX4_loudIn 3 = .ok (.invokevirtual 175, 3) := by decide +kernel
theorem dX4_loudIn_6 : decode cX4_loudIn 6 = .ok (.istore_n 3, 1) := by decide +kernel
theorem dX4_loudIn_7 : decode cX4_loudIn 7 = .ok (.iload_n 3, 1) := by decide +kernel
theorem dX4_loudIn_8 : decode cX4_loudIn 8 = .ok (.ifCond .eq 5, 3) := by decide +kernel
theorem dX4_loudIn_11 : decode cX4_loudIn 11 = .ok (.iload_n 3, 1) := by decide +kernel
theorem dX4_loudIn_12 : decode cX4_loudIn 12 = .ok (.ireturn, 1) := by decide +kernel
theorem dX4_loudIn_13 : decode cX4_loudIn 13 = .ok (.aload_n 0, 1) := by decide +kernel
theorem dX4_loudIn_14 : decode cX4_loudIn 14 = .ok (.iload_n 2, 1) := by decide +kernel
theorem dX4_loudIn_15 : decode cX4_loudIn 15 = .ok (.invokevirtual 178, 3) := by decide +kernel
theorem dX4_loudIn_18 : decode cX4_loudIn 18 = .ok (.aload_n 0, 1) := by decide +kernel
theorem dX4_loudIn_19 : decode cX4_loudIn 19 = .ok (.getfield 38, 3) := by decide +kernel
theorem dX4_loudIn_22 : decode cX4_loudIn 22 = .ok (.getfield 76, 3) := by decide +kernel
theorem dX4_loudIn_25 : decode cX4_loudIn 25 = .ok (.iload_n 1, 1) := by decide +kernel
theorem dX4_loudIn_26 : decode cX4_loudIn 26 = .ok (.aaload, 1) := by decide +kernel
theorem dX4_loudIn_27 : decode cX4_loudIn 27 = .ok (.getfield 112, 3) := by decide +kernel
theorem dX4_loudIn_30 : decode cX4_loudIn 30 = .ok (.aload_n 0, 1) := by decide +kernel
theorem dX4_loudIn_31 : decode cX4_loudIn 31 = .ok (.getfield 10, 3) := by decide +kernel
theorem dX4_loudIn_34 : decode cX4_loudIn 34 = .ok (.getfield 76, 3) := by decide +kernel
theorem dX4_loudIn_37 : decode cX4_loudIn 37 = .ok (.iload_n 1, 1) := by decide +kernel
theorem dX4_loudIn_38 : decode cX4_loudIn 38 = .ok (.aaload, 1) := by decide +kernel
theorem dX4_loudIn_39 : decode cX4_loudIn 39 = .ok (.getfield 112, 3) := by decide +kernel
theorem dX4_loudIn_42 : decode cX4_loudIn 42 = .ok (.isub, 1) := by decide +kernel
theorem dX4_loudIn_43 : decode cX4_loudIn 43 = .ok (.ireturn, 1) := by decide +kernel
theorem dX4_freeIn_0 : decode cX4_freeIn 0 = .ok (.aload_n 0, 1) := by decide +kernel
theorem dX4_freeIn_1 : decode cX4_freeIn 1 = .ok (.iload_n 1, 1) := by decide +kernel
theorem dX4_freeIn_2 : decode cX4_freeIn 2 = .ok (.iload_n 2, 1) := by decide +kernel
theorem dX4_freeIn_3 : decode cX4_freeIn 3 = .ok (.invokevirtual 175, 3) := by decide +kernel
theorem dX4_freeIn_6 : decode cX4_freeIn 6 = .ok (.istore_n 3, 1) := by decide +kernel
theorem dX4_freeIn_7 : decode cX4_freeIn 7 = .ok (.iload_n 3, 1) := by decide +kernel
theorem dX4_freeIn_8 : decode cX4_freeIn 8 = .ok (.ifCond .eq 5, 3) := by decide +kernel
theorem dX4_freeIn_11 : decode cX4_freeIn 11 = .ok (.iload_n 3, 1) := by decide +kernel
theorem dX4_freeIn_12 : decode cX4_freeIn 12 = .ok (.ireturn, 1) := by decide +kernel
theorem dX4_freeIn_13 : decode cX4_freeIn 13 = .ok (.aload_n 0, 1) := by decide +kernel
theorem dX4_freeIn_14 : decode cX4_freeIn 14 = .ok (.iload_n 2, 1) := by decide +kernel
theorem dX4_freeIn_15 : decode cX4_freeIn 15 = .ok (.invokevirtual 178, 3) := by decide +kernel
theorem dX4_freeIn_18 : decode cX4_freeIn 18 = .ok (.aload_n 0, 1) := by decide +kernel
theorem dX4_freeIn_19 : decode cX4_freeIn 19 = .ok (.getfield 38, 3) := by decide +kernel
theorem dX4_freeIn_22 : decode cX4_freeIn 22 = .ok (.getfield 76, 3) := by decide +kernel
theorem dX4_freeIn_25 : decode cX4_freeIn 25 = .ok (.iload_n 1, 1) := by decide +kernel
theorem dX4_freeIn_26 : decode cX4_freeIn 26 = .ok (.aaload, 1) := by decide +kernel
theorem dX4_freeIn_27 : decode cX4_freeIn 27 = .ok (.getfield 80, 3) := by decide +kernel
theorem dX4_freeIn_30 : decode cX4_freeIn 30 = .ok (.ireturn, 1) := by decide +kernel
theorem dX4_mostHeld_0 : decode cX4_mostHeld 0 = .ok (.aload_n 0, 1) := by decide +kernel
theorem dX4_mostHeld_1 : decode cX4_mostHeld 1 = .ok (.iload_n 1, 1) := by decide +kernel
theorem dX4_mostHeld_2 : decode cX4_mostHeld 2 = .ok (.iload_n 2, 1) := by decide +kernel
theorem dX4_mostHeld_3 : decode cX4_mostHeld 3 = .ok (.invokevirtual 175, 3) := by decide +kernel
theorem dX4_mostHeld_6 : decode cX4_mostHeld 6 = .ok (.istore_n 3, 1) := by decide +kernel
theorem dX4_mostHeld_7 : decode cX4_mostHeld 7 = .ok (.iload_n 3, 1) := by decide +kernel
theorem dX4_mostHeld_8 : decode cX4_mostHeld 8 = .ok (.ifCond .eq 5, 3) := by decide +kernel
theorem dX4_mostHeld_11 : decode cX4_mostHeld 11 = .ok (.iload_n 3, 1) := by decide +kernel
theorem dX4_mostHeld_12 : decode cX4_mostHeld 12 = .ok (.ireturn, 1) := by decide +kernel
theorem dX4_mostHeld_13 : decode cX4_mostHeld 13 = .ok (.aload_n 0, 1) := by decide +kernel
theorem dX4_mostHeld_14 : decode cX4_mostHeld 14 = .ok (.getfield 38, 3) := by decide +kernel
theorem dX4_mostHeld_17 : decode cX4_mostHeld 17 = .ok (.aload_n 0, 1) := by decide +kernel
theorem dX4_mostHeld_18 : decode cX4_mostHeld 18 = .ok (.getfield 10, 3) := by decide +kernel
theorem dX4_mostHeld_21 : decode cX4_mostHeld 21 = .ok (.invokevirtual 182, 3) := by decide +kernel
theorem dX4_mostHeld_24 : decode cX4_mostHeld 24 = .ok (.iconst 0, 1) := by decide +kernel
theorem dX4_mostHeld_25 : decode cX4_mostHeld 25 = .ok (.istore 4, 2) := by decide +kernel
theorem dX4_mostHeld_27 : decode cX4_mostHeld 27 = .ok (.iconst 0, 1) := by decide +kernel
theorem dX4_mostHeld_28 : decode cX4_mostHeld 28 = .ok (.istore 5, 2) := by decide +kernel
theorem dX4_mostHeld_30 : decode cX4_mostHeld 30 = .ok (.iload 5, 2) := by decide +kernel
theorem dX4_mostHeld_32 : decode cX4_mostHeld 32 = .ok (.iload_n 2, 1) := by decide +kernel
theorem dX4_mostHeld_33 : decode cX4_mostHeld 33 = .ok (.if_icmp .ge 36, 3) := by decide +kernel
theorem dX4_mostHeld_36 : decode cX4_mostHeld 36 = .ok (.aload_n 0, 1) := by decide +kernel
theorem dX4_mostHeld_37 : decode cX4_mostHeld 37 = .ok (.getfield 38, 3) := by decide +kernel
theorem dX4_mostHeld_40 : decode cX4_mostHeld 40 = .ok (.invokevirtual 185, 3) := by decide +kernel
theorem dX4_mostHeld_43 : decode cX4_mostHeld 43 = .ok (.pop, 1) := by decide +kernel
theorem dX4_mostHeld_44 : decode cX4_mostHeld 44 = .ok (.iload 4, 2) := by decide +kernel
theorem dX4_mostHeld_46 : decode cX4_mostHeld 46 = .ok (.aload_n 0, 1) := by decide +kernel
theorem dX4_mostHeld_47 : decode cX4_mostHeld 47 = .ok (.getfield 38, 3) := by decide +kernel
theorem dX4_mostHeld_50 : decode cX4_mostHeld 50 = .ok (.getfield 76, 3) := by decide +kernel
theorem dX4_mostHeld_53 : decode cX4_mostHeld 53 = .ok (.iload_n 1, 1) := by decide +kernel
theorem dX4_mostHeld_54 : decode cX4_mostHeld 54 = .ok (.aaload, 1) := by decide +kernel
theorem dX4_mostHeld_55 : decode cX4_mostHeld 55 = .ok (.getfield 92, 3) := by decide +kernel
theorem dX4_mostHeld_58 : decode cX4_mostHeld 58 = .ok (.invokestatic 189, 3) := by decide +kernel
theorem dX4_mostHeld_61 : decode cX4_mostHeld 61 = .ok (.istore 4, 2) := by decide +kernel
theorem dX4_mostHeld_63 : decode cX4_mostHeld 63 = .ok (.iinc 5 1, 3) := by decide +kernel
theorem dX4_mostHeld_66 : decode cX4_mostHeld 66 = .ok (.goto (-36), 3) := by decide +kernel
theorem dX4_mostHeld_69 : decode cX4_mostHeld 69 = .ok (.iload 4, 2) := by decide +kernel
theorem dX4_mostHeld_71 : decode cX4_mostHeld 71 = .ok (.ireturn, 1) := by decide +kernel
theorem dX4_firstSafe_0 : decode cX4_firstSafe 0 = .ok (.iload_n 1, 1) := by decide +kernel
theorem dX4_firstSafe_1 : decode cX4_firstSafe 1 = .ok (.invokestatic 72, 3) := by decide +kernel
theorem dX4_firstSafe_4 : decode cX4_firstSafe 4 = .ok (.ifCond .ne 5, 3) := by decide +kernel
theorem dX4_firstSafe_7 : decode cX4_firstSafe 7 = .ok (.iconst (-1), 1) := by decide +kernel
theorem dX4_firstSafe_8 : decode cX4_firstSafe 8 = .ok (.ireturn, 1) := by decide +kernel
theorem dX4_firstSafe_9 : decode cX4_firstSafe 9 = .ok (.aload_n 0, 1) := by decide +kernel
theorem dX4_firstSafe_10 : decode cX4_firstSafe 10 = .ok (.getfield 38, 3) := by decide +kernel
theorem dX4_firstSafe_13 : decode cX4_firstSafe 13 = .ok (.aload_n 0, 1) := by decide +kernel
theorem dX4_firstSafe_14 : decode cX4_firstSafe 14 = .ok (.getfield 10, 3) := by decide +kernel
theorem dX4_firstSafe_17 : decode cX4_firstSafe 17 = .ok (.invokevirtual 182, 3) := by decide +kernel
theorem dX4_firstSafe_20 : decode cX4_firstSafe 20 = .ok (.aload_n 0, 1) := by decide +kernel
theorem dX4_firstSafe_21 : decode cX4_firstSafe 21 = .ok (.getfield 10, 3) := by decide +kernel
theorem dX4_firstSafe_24 : decode cX4_firstSafe 24 = .ok (.invokevirtual 95, 3) := by decide +kernel
theorem dX4_firstSafe_27 : decode cX4_firstSafe 27 = .ok (.istore_n 2, 1) := by decide +kernel
theorem dX4_firstSafe_28 : decode cX4_firstSafe 28 = .ok (.iload_n 2, 1) := by decide +kernel
theorem dX4_firstSafe_29 : decode cX4_firstSafe 29 = .ok (.bipush 24, 2) := by decide +kernel
theorem dX4_firstSafe_31 : decode cX4_firstSafe 31 = .ok (.iadd, 1) := by decide +kernel
theorem dX4_firstSafe_32 : decode cX4_firstSafe 32 = .ok (.bipush 99, 2) := by decide +kernel
theorem dX4_firstSafe_34 : decode cX4_firstSafe 34 = .ok (.invokestatic 194, 3) := by decide +kernel
theorem dX4_firstSafe_37 : decode cX4_firstSafe 37 = .ok (.istore_n 3, 1) := by decide +kernel
theorem dX4_firstSafe_38 : decode cX4_firstSafe 38 = .ok (.iload_n 2, 1) := by decide +kernel
theorem dX4_firstSafe_39 : decode cX4_firstSafe 39 = .ok (.iconst 1, 1) := by decide +kernel
theorem dX4_firstSafe_40 : decode cX4_firstSafe 40 = .ok (.iadd, 1) := by decide +kernel
theorem dX4_firstSafe_41 : decode cX4_firstSafe 41 = .ok (.istore 4, 2) := by decide +kernel
theorem dX4_firstSafe_43 : decode cX4_firstSafe 43 = .ok (.iload 4, 2) := by decide +kernel
theorem dX4_firstSafe_45 : decode cX4_firstSafe 45 = .ok (.iload_n 3, 1) := by decide +kernel
theorem dX4_firstSafe_46 : decode cX4_firstSafe 46 = .ok (.if_icmp .gt 88, 3) := by decide +kernel
theorem dX4_firstSafe_49 : decode cX4_firstSafe 49 = .ok (.aload_n 0, 1) := by decide +kernel
theorem dX4_firstSafe_50 : decode cX4_firstSafe 50 = .ok (.getfield 38, 3) := by decide +kernel
theorem dX4_firstSafe_53 : decode cX4_firstSafe 53 = .ok (.iload 4, 2) := by decide +kernel
theorem dX4_firstSafe_55 : decode cX4_firstSafe 55 = .ok (.bipush 60, 2) := by decide +kernel
theorem dX4_firstSafe_57 : decode cX4_firstSafe 57 = .ok (.imul, 1) := by decide +kernel
theorem dX4_firstSafe_58 : decode cX4_firstSafe 58 = .ok (.aload_n 0, 1) := by decide +kernel
theorem dX4_firstSafe_59 : decode cX4_firstSafe 59 = .ok (.getfield 38, 3) := by decide +kernel
theorem dX4_firstSafe_62 : decode cX4_firstSafe 62 = .ok (.getfield 142, 3) := by decide +kernel
theorem dX4_firstSafe_65 : decode cX4_firstSafe 65 = .ok (.isub, 1) := by decide +kernel
theorem dX4_firstSafe_66 : decode cX4_firstSafe 66 = .ok (.invokevirtual 69, 3) := by decide +kernel
theorem dX4_firstSafe_69 : decode cX4_firstSafe 69 = .ok (.pop, 1) := by decide +kernel
theorem dX4_firstSafe_70 : decode cX4_firstSafe 70 = .ok (.aload_n 0, 1) := by decide +kernel
theorem dX4_firstSafe_71 : decode cX4_firstSafe 71 = .ok (.getfield 38, 3) := by decide +kernel
theorem dX4_firstSafe_74 : decode cX4_firstSafe 74 = .ok (.getfield 76, 3) := by decide +kernel
theorem dX4_firstSafe_77 : decode cX4_firstSafe 77 = .ok (.iload_n 1, 1) := by decide +kernel
theorem dX4_firstSafe_78 : decode cX4_firstSafe 78 = .ok (.aaload, 1) := by decide +kernel
theorem dX4_firstSafe_79 : decode cX4_firstSafe 79 = .ok (.iload 4, 2) := by decide +kernel
theorem dX4_firstSafe_81 : decode cX4_firstSafe 81 = .ok (.invokevirtual 130, 3) := by decide +kernel
theorem dX4_firstSafe_84 : decode cX4_firstSafe 84 = .ok (.ifCond .ne 44, 3) := by decide +kernel
theorem dX4_firstSafe_87 : decode cX4_firstSafe 87 = .ok (.aload_n 0, 1) := by decide +kernel
theorem dX4_firstSafe_88 : decode cX4_firstSafe 88 = .ok (.getfield 41, 3) := by decide +kernel
theorem dX4_firstSafe_91 : decode cX4_firstSafe 91 = .ok (.aload_n 0, 1) := by decide +kernel
theorem dX4_firstSafe_92 : decode cX4_firstSafe 92 = .ok (.getfield 38, 3) := by decide +kernel
theorem dX4_firstSafe_95 : decode cX4_firstSafe 95 = .ok (.invokevirtual 182, 3) := by decide +kernel
theorem dX4_firstSafe_98 : decode cX4_firstSafe 98 = .ok (.aload_n 0, 1) := by decide +kernel
theorem dX4_firstSafe_99 : decode cX4_firstSafe 99 = .ok (.getfield 41, 3) := by decide +kernel
theorem dX4_firstSafe_102 : decode cX4_firstSafe 102 = .ok (.getfield 76, 3) := by decide +kernel
theorem dX4_firstSafe_105 : decode cX4_firstSafe 105 = .ok (.iload_n 1, 1) := by decide +kernel
theorem dX4_firstSafe_106 : decode cX4_firstSafe 106 = .ok (.aaload, 1) := by decide +kernel
theorem dX4_firstSafe_107 : decode cX4_firstSafe 107 = .ok (.iload 4, 2) := by decide +kernel
theorem dX4_firstSafe_109 : decode cX4_firstSafe 109 = .ok (.iconst 1, 1) := by decide +kernel
theorem dX4_firstSafe_110 : decode cX4_firstSafe 110 = .ok (.invokevirtual 197, 3) := by decide +kernel
theorem dX4_firstSafe_113 : decode cX4_firstSafe 113 = .ok (.aload_n 0, 1) := by decide +kernel
theorem dX4_firstSafe_114 : decode cX4_firstSafe 114 = .ok (.getfield 41, 3) := by decide +kernel
theorem dX4_firstSafe_117 : decode cX4_firstSafe 117 = .ok (.bipush 60, 2) := by decide +kernel
theorem dX4_firstSafe_119 : decode cX4_firstSafe 119 = .ok (.invokevirtual 201, 3) := by decide +kernel
theorem dX4_firstSafe_122 : decode cX4_firstSafe 122 = .ok (.ifCond .eq 6, 3) := by decide +kernel
theorem dX4_firstSafe_125 : decode cX4_firstSafe 125 = .ok (.iload 4, 2) := by decide +kernel
theorem dX4_firstSafe_127 : decode cX4_firstSafe 127 = .ok (.ireturn, 1) := by decide +kernel
theorem dX4_firstSafe_128 : decode cX4_firstSafe 128 = .ok (.iinc 4 1, 3) := by decide +kernel
theorem dX4_firstSafe_131 : decode cX4_firstSafe 131 = .ok (.goto (-88), 3) := by decide +kernel
theorem dX4_firstSafe_134 : decode cX4_firstSafe 134 = .ok (.bipush (-6), 2) := by decide +kernel
theorem dX4_firstSafe_136 : decode cX4_firstSafe 136 = .ok (.ireturn, 1) := by decide +kernel
theorem dX4_leastRoom_0 : decode cX4_leastRoom 0 = .ok (.iload_n 1, 1) := by decide +kernel
theorem dX4_leastRoom_1 : decode cX4_leastRoom 1 = .ok (.iconst 1, 1) := by decide +kernel
theorem dX4_leastRoom_2 : decode cX4_leastRoom 2 = .ok (.if_icmp .lt 9, 3) := by decide +kernel
theorem dX4_leastRoom_5 : decode cX4_leastRoom 5 = .ok (.iload_n 1, 1) := by decide +kernel
theorem dX4_leastRoom_6 : decode cX4_leastRoom 6 = .ok (.bipush 10, 2) := by decide +kernel
theorem dX4_leastRoom_8 : decode cX4_leastRoom 8 = .ok (.if_icmp .le 6, 3) := by decide +kernel
theorem dX4_leastRoom_11 : decode cX4_leastRoom 11 = .ok (.bipush (-2), 2) := by decide +kernel
theorem dX4_leastRoom_13 : decode cX4_leastRoom 13 = .ok (.ireturn, 1) := by decide +kernel
theorem dX4_leastRoom_14 : decode cX4_leastRoom 14 = .ok (.getstatic 204, 3) := by decide +kernel
theorem dX4_leastRoom_17 : decode cX4_leastRoom 17 = .ok (.bipush 6, 2) := by decide +kernel
theorem dX4_leastRoom_19 : decode cX4_leastRoom 19 = .ok (.iaload, 1) := by decide +kernel
theorem dX4_leastRoom_20 : decode cX4_leastRoom 20 = .ok (.istore_n 2, 1) := by decide +kernel
theorem dX4_leastRoom_21 : decode cX4_leastRoom 21 = .ok (.iload_n 2, 1) := by decide +kernel
theorem dX4_leastRoom_22 : decode cX4_leastRoom 22 = .ok (.getstatic 207, 3) := by decide +kernel
theorem dX4_leastRoom_25 : decode cX4_leastRoom 25 = .ok (.bipush 6, 2) := by decide +kernel
theorem dX4_leastRoom_27 : decode cX4_leastRoom 27 = .ok (.iaload, 1) := by decide +kernel
theorem dX4_leastRoom_28 : decode cX4_leastRoom 28 = .ok (.if_icmp .gt 47, 3) := by decide +kernel
theorem dX4_leastRoom_31 : decode cX4_leastRoom 31 = .ok (.aload_n 0, 1) := by decide +kernel
theorem dX4_leastRoom_32 : decode cX4_leastRoom 32 = .ok (.getfield 38, 3) := by decide +kernel
theorem dX4_leastRoom_35 : decode cX4_leastRoom 35 = .ok (.aload_n 0, 1) := by decide +kernel
theorem dX4_leastRoom_36 : decode cX4_leastRoom 36 = .ok (.getfield 10, 3) := by decide +kernel
theorem dX4_leastRoom_39 : decode cX4_leastRoom 39 = .ok (.invokevirtual 182, 3) := by decide +kernel
theorem dX4_leastRoom_42 : decode cX4_leastRoom 42 = .ok (.aload_n 0, 1) := by decide +kernel
theorem dX4_leastRoom_43 : decode cX4_leastRoom 43 = .ok (.getfield 38, 3) := by decide +kernel
theorem dX4_leastRoom_46 : decode cX4_leastRoom 46 = .ok (.getfield 153, 3) := by decide +kernel
theorem dX4_leastRoom_49 : decode cX4_leastRoom 49 = .ok (.bipush 6, 2) := by decide +kernel
theorem dX4_leastRoom_51 : decode cX4_leastRoom 51 = .ok (.iload_n 2, 1) := by decide +kernel
theorem dX4_leastRoom_52 : decode cX4_leastRoom 52 = .ok (.iastore, 1) := by decide +kernel
theorem dX4_leastRoom_53 : decode cX4_leastRoom 53 = .ok (.aload_n 0, 1) := by decide +kernel
theorem dX4_leastRoom_54 : decode cX4_leastRoom 54 = .ok (.getfield 38, 3) := by decide +kernel
theorem dX4_leastRoom_57 : decode cX4_leastRoom 57 = .ok (.iload_n 1, 1) := by decide +kernel
theorem dX4_leastRoom_58 : decode cX4_leastRoom 58 = .ok (.bipush 60, 2) := by decide +kernel
theorem dX4_leastRoom_60 : decode cX4_leastRoom 60 = .ok (.imul, 1) := by decide +kernel
theorem dX4_leastRoom_61 : decode cX4_leastRoom 61 = .ok (.invokevirtual 201, 3) := by decide +kernel
theorem dX4_leastRoom_64 : decode cX4_leastRoom 64 = .ok (.ifCond .eq 5, 3) := by decide +kernel
theorem dX4_leastRoom_67 : decode cX4_leastRoom 67 = .ok (.iload_n 2, 1) := by decide +kernel
theorem dX4_leastRoom_68 : decode cX4_leastRoom 68 = .ok (.ireturn, 1) := by decide +kernel
theorem dX4_leastRoom_69 : decode cX4_leastRoom 69 = .ok (.iinc 2 1, 3) := by decide +kernel
theorem dX4_leastRoom_72 : decode cX4_leastRoom 72 = .ok (.goto (-51), 3) := by decide +kernel
theorem dX4_leastRoom_75 : decode cX4_leastRoom 75 = .ok (.bipush (-6), 2) := by decide +kernel
theorem dX4_leastRoom_77 : decode cX4_leastRoom 77 = .ok (.ireturn, 1) := by decide +kernel
theorem dX4_put_0 : decode cX4_put 0 = .ok (.lload_n 1, 1) := by decide +kernel
theorem dX4_put_1 : decode cX4_put 1 = .ok (.invokestatic 210, 3) := by decide +kernel
theorem dX4_put_4 : decode cX4_put 4 = .ok (.istore_n 3, 1) := by decide +kernel
theorem dX4_put_5 : decode cX4_put 5 = .ok (.iload_n 3, 1) := by decide +kernel
theorem dX4_put_6 : decode cX4_put 6 = .ok (.ifCond .ne 6, 3) := by decide +kernel
theorem dX4_put_9 : decode cX4_put 9 = .ok (.bipush (-2), 2) := by decide +kernel
theorem dX4_put_11 : decode cX4_put 11 = .ok (.ireturn, 1) := by decide +kernel
theorem dX4_put_12 : decode cX4_put 12 = .ok (.aload_n 0, 1) := by decide +kernel
theorem dX4_put_13 : decode cX4_put 13 = .ok (.getfield 34, 3) := by decide +kernel
theorem dX4_put_16 : decode cX4_put 16 = .ok (.getfield 169, 3) := by decide +kernel
theorem dX4_put_19 : decode cX4_put 19 = .ok (.iload_n 3, 1) := by decide +kernel
theorem dX4_put_20 : decode cX4_put 20 = .ok (.iadd, 1) := by decide +kernel
theorem dX4_put_21 : decode cX4_put 21 = .ok (.bipush 80, 2) := by decide +kernel
theorem dX4_put_23 : decode cX4_put 23 = .ok (.if_icmp .le 6, 3) := by decide +kernel
theorem dX4_put_26 : decode cX4_put 26 = .ok (.bipush (-4), 2) := by decide +kernel
theorem dX4_put_28 : decode cX4_put 28 = .ok (.ireturn, 1) := by decide +kernel
theorem dX4_put_29 : decode cX4_put 29 = .ok (.aload_n 0, 1) := by decide +kernel
theorem dX4_put_30 : decode cX4_put 30 = .ok (.getfield 34, 3) := by decide +kernel
theorem dX4_put_33 : decode cX4_put 33 = .ok (.lload_n 1, 1) := by decide +kernel
theorem dX4_put_34 : decode cX4_put 34 = .ok (.iload_n 3, 1) := by decide +kernel
theorem dX4_put_35 : decode cX4_put 35 = .ok (.invokevirtual 214, 3) := by decide +kernel
theorem dX4_put_38 : decode cX4_put 38 = .ok (.aload_n 0, 1) := by decide +kernel
theorem dX4_put_39 : decode cX4_put 39 = .ok (.getfield 34, 3) := by decide +kernel
theorem dX4_put_42 : decode cX4_put 42 = .ok (.getfield 169, 3) := by decide +kernel
theorem dX4_put_45 : decode cX4_put 45 = .ok (.ireturn, 1) := by decide +kernel
theorem dX4_wipe_0 : decode cX4_wipe 0 = .ok (.aload_n 0, 1) := by decide +kernel
theorem dX4_wipe_1 : decode cX4_wipe 1 = .ok (.getfield 34, 3) := by decide +kernel
theorem dX4_wipe_4 : decode cX4_wipe 4 = .ok (.getfield 169, 3) := by decide +kernel
theorem dX4_wipe_7 : decode cX4_wipe 7 = .ok (.istore_n 1, 1) := by decide +kernel
theorem dX4_wipe_8 : decode cX4_wipe 8 = .ok (.aload_n 0, 1) := by decide +kernel
theorem dX4_wipe_9 : decode cX4_wipe 9 = .ok (.getfield 34, 3) := by decide +kernel
theorem dX4_wipe_12 : decode cX4_wipe 12 = .ok (.iconst 0, 1) := by decide +kernel
theorem dX4_wipe_13 : decode cX4_wipe 13 = .ok (.putfield 169, 3) := by decide +kernel
theorem dX4_wipe_16 : decode cX4_wipe 16 = .ok (.iload_n 1, 1) := by decide +kernel
theorem dX4_wipe_17 : decode cX4_wipe 17 = .ok (.ireturn, 1) := by decide +kernel
theorem dX4_fault_0 : decode cX4_fault 0 = .ok (.aload_n 0, 1) := by decide +kernel
theorem dX4_fault_1 : decode cX4_fault 1 = .ok (.getfield 34, 3) := by decide +kernel
theorem dX4_fault_4 : decode cX4_fault 4 = .ok (.invokevirtual 218, 3) := by decide +kernel
theorem dX4_fault_7 : decode cX4_fault 7 = .ok (.ireturn, 1) := by decide +kernel
theorem dX4_carryOut_0 : decode cX4_carryOut 0 = .ok (.aload_n 0, 1) := by decide +kernel
theorem dX4_carryOut_1 : decode cX4_carryOut 1 = .ok (.getfield 34, 3) := by decide +kernel
theorem dX4_carryOut_4 : decode cX4_carryOut 4 = .ok (.invokevirtual 218, 3) := by decide +kernel
theorem dX4_carryOut_7 : decode cX4_carryOut 7 = .ok (.bipush (-6), 2) := by decide +kernel
theorem dX4_carryOut_9 : decode cX4_carryOut 9 = .ok (.if_icmp .eq 6, 3) := by decide +kernel
theorem dX4_carryOut_12 : decode cX4_carryOut 12 = .ok (.bipush (-3), 2) := by decide +kernel
theorem dX4_carryOut_14 : decode cX4_carryOut 14 = .ok (.ireturn, 1) := by decide +kernel
theorem dX4_carryOut_15 : decode cX4_carryOut 15 = .ok (.aload_n 0, 1) := by decide +kernel
theorem dX4_carryOut_16 : decode cX4_carryOut 16 = .ok (.getfield 19, 3) := by decide +kernel
theorem dX4_carryOut_19 : decode cX4_carryOut 19 = .ok (.aload_n 0, 1) := by decide +kernel
theorem dX4_carryOut_20 : decode cX4_carryOut 20 = .ok (.getfield 10, 3) := by decide +kernel
theorem dX4_carryOut_23 : decode cX4_carryOut 23 = .ok (.invokevirtual 44, 3) := by decide +kernel
theorem dX4_carryOut_26 : decode cX4_carryOut 26 = .ok (.aload_n 0, 1) := by decide +kernel
theorem dX4_carryOut_27 : decode cX4_carryOut 27 = .ok (.getfield 19, 3) := by decide +kernel
theorem dX4_carryOut_30 : decode cX4_carryOut 30 = .ok (.invokevirtual 221, 3) := by decide +kernel
theorem dX4_carryOut_33 : decode cX4_carryOut 33 = .ok (.aload_n 0, 1) := by decide +kernel
theorem dX4_carryOut_34 : decode cX4_carryOut 34 = .ok (.getfield 34, 3) := by decide +kernel
theorem dX4_carryOut_37 : decode cX4_carryOut 37 = .ok (.invokevirtual 224, 3) := by decide +kernel
theorem dX4_carryOut_40 : decode cX4_carryOut 40 = .ok (.iconst 0, 1) := by decide +kernel
theorem dX4_carryOut_41 : decode cX4_carryOut 41 = .ok (.istore_n 1, 1) := by decide +kernel
theorem dX4_carryOut_42 : decode cX4_carryOut 42 = .ok (.iload_n 1, 1) := by decide +kernel
theorem dX4_carryOut_43 : decode cX4_carryOut 43 = .ok (.bipush 80, 2) := by decide +kernel
theorem dX4_carryOut_45 : decode cX4_carryOut 45 = .ok (.if_icmp .ge 26, 3) := by decide +kernel
theorem dX4_carryOut_48 : decode cX4_carryOut 48 = .ok (.aload_n 0, 1) := by decide +kernel
theorem dX4_carryOut_49 : decode cX4_carryOut 49 = .ok (.getfield 34, 3) := by decide +kernel
theorem dX4_carryOut_52 : decode cX4_carryOut 52 = .ok (.invokevirtual 227, 3) := by decide +kernel
theorem dX4_carryOut_55 : decode cX4_carryOut 55 = .ok (.ifCond .eq 16, 3) := by decide +kernel
theorem dX4_carryOut_58 : decode cX4_carryOut 58 = .ok (.aload_n 0, 1) := by decide +kernel
theorem dX4_carryOut_59 : decode cX4_carryOut 59 = .ok (.invokevirtual 230, 3) := by decide +kernel
theorem dX4_carryOut_62 : decode cX4_carryOut 62 = .ok (.ifCond .lt 9, 3) := by decide +kernel
theorem dX4_carryOut_65 : decode cX4_carryOut 65 = .ok (.iinc 1 1, 3) := by decide +kernel
theorem dX4_carryOut_68 : decode cX4_carryOut 68 = .ok (.goto (-26), 3) := by decide +kernel
theorem dX4_carryOut_71 : decode cX4_carryOut 71 = .ok (.aload_n 0, 1) := by decide +kernel
theorem dX4_carryOut_72 : decode cX4_carryOut 72 = .ok (.getfield 34, 3) := by decide +kernel
theorem dX4_carryOut_75 : decode cX4_carryOut 75 = .ok (.iconst 0, 1) := by decide +kernel
theorem dX4_carryOut_76 : decode cX4_carryOut 76 = .ok (.putfield 169, 3) := by decide +kernel
theorem dX4_carryOut_79 : decode cX4_carryOut 79 = .ok (.iload_n 1, 1) := by decide +kernel
theorem dX4_carryOut_80 : decode cX4_carryOut 80 = .ok (.ireturn, 1) := by decide +kernel
theorem dX4_undo_0 : decode cX4_undo 0 = .ok (.aload_n 0, 1) := by decide +kernel
theorem dX4_undo_1 : decode cX4_undo 1 = .ok (.getfield 19, 3) := by decide +kernel
theorem dX4_undo_4 : decode cX4_undo 4 = .ok (.getfield 172, 3) := by decide +kernel
theorem dX4_undo_7 : decode cX4_undo 7 = .ok (.ifCond .ne 6, 3) := by decide +kernel
theorem dX4_undo_10 : decode cX4_undo 10 = .ok (.bipush (-5), 2) := by decide +kernel
theorem dX4_undo_12 : decode cX4_undo 12 = .ok (.ireturn, 1) := by decide +kernel
theorem dX4_undo_13 : decode cX4_undo 13 = .ok (.aload_n 0, 1) := by decide +kernel
theorem dX4_undo_14 : decode cX4_undo 14 = .ok (.getfield 19, 3) := by decide +kernel
theorem dX4_undo_17 : decode cX4_undo 17 = .ok (.aload_n 0, 1) := by decide +kernel
theorem dX4_undo_18 : decode cX4_undo 18 = .ok (.getfield 10, 3) := by decide +kernel
theorem dX4_undo_21 : decode cX4_undo 21 = .ok (.invokevirtual 233, 3) := by decide +kernel
theorem dX4_undo_24 : decode cX4_undo 24 = .ok (.aload_n 0, 1) := by decide +kernel
theorem dX4_undo_25 : decode cX4_undo 25 = .ok (.getfield 19, 3) := by decide +kernel
theorem dX4_undo_28 : decode cX4_undo 28 = .ok (.getfield 172, 3) := by decide +kernel
theorem dX4_undo_31 : decode cX4_undo 31 = .ok (.ireturn, 1) := by decide +kernel
theorem dX4_save_0 : decode cX4_save 0 = .ok (.iload_n 1, 1) := by decide +kernel
theorem dX4_save_1 : decode cX4_save 1 = .ok (.invokestatic 236, 3) := by decide +kernel
theorem dX4_save_4 : decode cX4_save 4 = .ok (.ifCond .ne 6, 3) := by decide +kernel
theorem dX4_save_7 : decode cX4_save 7 = .ok (.bipush (-2), 2) := by decide +kernel
theorem dX4_save_9 : decode cX4_save 9 = .ok (.ireturn, 1) := by decide +kernel
theorem dX4_save_10 : decode cX4_save 10 = .ok (.aload_n 0, 1) := by decide +kernel
theorem dX4_save_11 : decode cX4_save 11 = .ok (.getfield 23, 3) := by decide +kernel
theorem dX4_save_14 : decode cX4_save 14 = .ok (.iload_n 1, 1) := by decide +kernel
theorem dX4_save_15 : decode cX4_save 15 = .ok (.aaload, 1) := by decide +kernel
theorem dX4_save_16 : decode cX4_save 16 = .ok (.aload_n 0, 1) := by decide +kernel
theorem dX4_save_17 : decode cX4_save 17 = .ok (.getfield 10, 3) := by decide +kernel
theorem dX4_save_20 : decode cX4_save 20 = .ok (.invokevirtual 182, 3) := by decide +kernel
theorem dX4_save_23 : decode cX4_save 23 = .ok (.aload_n 0, 1) := by decide +kernel
theorem dX4_save_24 : decode cX4_save 24 = .ok (.getfield 27, 3) := by decide +kernel
theorem dX4_save_27 : decode cX4_save 27 = .ok (.iload_n 1, 1) := by decide +kernel
theorem dX4_save_28 : decode cX4_save 28 = .ok (.iconst 1, 1) := by decide +kernel
theorem dX4_save_29 : decode cX4_save 29 = .ok (.bastore, 1) := by decide +kernel
theorem dX4_save_30 : decode cX4_save 30 = .ok (.aload_n 0, 1) := by decide +kernel
theorem dX4_save_31 : decode cX4_save 31 = .ok (.getfield 10, 3) := by decide +kernel
theorem dX4_save_34 : decode cX4_save 34 = .ok (.getfield 142, 3) := by decide +kernel
theorem dX4_save_37 : decode cX4_save 37 = .ok (.ireturn, 1) := by decide +kernel
theorem dX4_restore_0 : decode cX4_restore 0 = .ok (.iload_n 1, 1) := by decide +kernel
theorem dX4_restore_1 : decode cX4_restore 1 = .ok (.invokestatic 236, 3) := by decide +kernel
theorem dX4_restore_4 : decode cX4_restore 4 = .ok (.ifCond .ne 6, 3) := by decide +kernel
theorem dX4_restore_7 : decode cX4_restore 7 = .ok (.bipush (-2), 2) := by decide +kernel
theorem dX4_restore_9 : decode cX4_restore 9 = .ok (.ireturn, 1) := by decide +kernel
theorem dX4_restore_10 : decode cX4_restore 10 = .ok (.aload_n 0, 1) := by decide +kernel
theorem dX4_restore_11 : decode cX4_restore 11 = .ok (.getfield 27, 3) := by decide +kernel
theorem dX4_restore_14 : decode cX4_restore 14 = .ok (.iload_n 1, 1) := by decide +kernel
theorem dX4_restore_15 : decode cX4_restore 15 = .ok (.baload, 1) := by decide +kernel
theorem dX4_restore_16 : decode cX4_restore 16 = .ok (.ifCond .ne 6, 3) := by decide +kernel
theorem dX4_restore_19 : decode cX4_restore 19 = .ok (.bipush (-5), 2) := by decide +kernel
theorem dX4_restore_21 : decode cX4_restore 21 = .ok (.ireturn, 1) := by decide +kernel
theorem dX4_restore_22 : decode cX4_restore 22 = .ok (.aload_n 0, 1) := by decide +kernel
theorem dX4_restore_23 : decode cX4_restore 23 = .ok (.getfield 19, 3) := by decide +kernel
theorem dX4_restore_26 : decode cX4_restore 26 = .ok (.aload_n 0, 1) := by decide +kernel
theorem dX4_restore_27 : decode cX4_restore 27 = .ok (.getfield 10, 3) := by decide +kernel
theorem dX4_restore_30 : decode cX4_restore 30 = .ok (.invokevirtual 44, 3) := by decide +kernel
theorem dX4_restore_33 : decode cX4_restore 33 = .ok (.aload_n 0, 1) := by decide +kernel
theorem dX4_restore_34 : decode cX4_restore 34 = .ok (.getfield 10, 3) := by decide +kernel
theorem dX4_restore_37 : decode cX4_restore 37 = .ok (.aload_n 0, 1) := by decide +kernel
theorem dX4_restore_38 : decode cX4_restore 38 = .ok (.getfield 23, 3) := by decide +kernel
theorem dX4_restore_41 : decode cX4_restore 41 = .ok (.iload_n 1, 1) := by decide +kernel
theorem dX4_restore_42 : decode cX4_restore 42 = .ok (.aaload, 1) := by decide +kernel
theorem dX4_restore_43 : decode cX4_restore 43 = .ok (.invokevirtual 182, 3) := by decide +kernel
theorem dX4_restore_46 : decode cX4_restore 46 = .ok (.aload_n 0, 1) := by decide +kernel
theorem dX4_restore_47 : decode cX4_restore 47 = .ok (.aload_n 0, 1) := by decide +kernel
theorem dX4_restore_48 : decode cX4_restore 48 = .ok (.getfield 10, 3) := by decide +kernel
theorem dX4_restore_51 : decode cX4_restore 51 = .ok (.getfield 142, 3) := by decide +kernel
theorem dX4_restore_54 : decode cX4_restore 54 = .ok (.invokevirtual 52, 3) := by decide +kernel
theorem dX4_restore_57 : decode cX4_restore 57 = .ok (.ireturn, 1) := by decide +kernel
theorem dX4_recorded_0 : decode cX4_recorded 0 = .ok (.iload_n 1, 1) := by decide +kernel
theorem dX4_recorded_1 : decode cX4_recorded 1 = .ok (.ifCond .lt 10, 3) := by decide +kernel
theorem dX4_recorded_4 : decode cX4_recorded 4 = .ok (.aload_n 0, 1) := by decide +kernel
theorem dX4_recorded_5 : decode cX4_recorded 5 = .ok (.getfield 19, 3) := by decide +kernel
theorem dX4_recorded_8 : decode cX4_recorded 8 = .ok (.invokevirtual 221, 3) := by decide +kernel
theorem dX4_recorded_11 : decode cX4_recorded 11 = .ok (.iload_n 1, 1) := by decide +kernel
theorem dX4_recorded_12 : decode cX4_recorded 12 = .ok (.ireturn, 1) := by decide +kernel
theorem dX4_carryOutOrder_0 : decode cX4_carryOutOrder 0 = .ok (.aload_n 0, 1) := by decide +kernel
theorem dX4_carryOutOrder_1 : decode cX4_carryOutOrder 1 = .ok (.getfield 34, 3) := by decide +kernel
theorem dX4_carryOutOrder_4 : decode cX4_carryOutOrder 4 = .ok (.getfield 239, 3) := by decide +kernel
theorem dX4_carryOutOrder_7 : decode cX4_carryOutOrder 7 = .ok (.lookupswitch 136 #[(103, 63), (115, 41), (118, 107), (119, 85)], 41) := by decide +kernel
theorem dX4_carryOutOrder_48 : decode cX4_carryOutOrder 48 = .ok (.aload_n 0, 1) := by decide +kernel
theorem dX4_carryOutOrder_49 : decode cX4_carryOutOrder 49 = .ok (.getfield 10, 3) := by decide +kernel
theorem dX4_carryOutOrder_52 : decode cX4_carryOutOrder 52 = .ok (.aload_n 0, 1) := by decide +kernel
theorem dX4_carryOutOrder_53 : decode cX4_carryOutOrder 53 = .ok (.getfield 34, 3) := by decide +kernel
theorem dX4_carryOutOrder_56 : decode cX4_carryOutOrder 56 = .ok (.getfield 243, 3) := by decide +kernel
theorem dX4_carryOutOrder_59 : decode cX4_carryOutOrder 59 = .ok (.aload_n 0, 1) := by decide +kernel
theorem dX4_carryOutOrder_60 : decode cX4_carryOutOrder 60 = .ok (.getfield 34, 3) := by decide +kernel
theorem dX4_carryOutOrder_63 : decode cX4_carryOutOrder 63 = .ok (.getfield 246, 3) := by decide +kernel
theorem dX4_carryOutOrder_66 : decode cX4_carryOutOrder 66 = .ok (.invokevirtual 63, 3) := by decide +kernel
theorem dX4_carryOutOrder_69 : decode cX4_carryOutOrder 69 = .ok (.ireturn, 1) := by decide +kernel
theorem dX4_carryOutOrder_70 : decode cX4_carryOutOrder 70 = .ok (.aload_n 0, 1) := by decide +kernel
theorem dX4_carryOutOrder_71 : decode cX4_carryOutOrder 71 = .ok (.getfield 10, 3) := by decide +kernel
theorem dX4_carryOutOrder_74 : decode cX4_carryOutOrder 74 = .ok (.aload_n 0, 1) := by decide +kernel
theorem dX4_carryOutOrder_75 : decode cX4_carryOutOrder 75 = .ok (.getfield 34, 3) := by decide +kernel
theorem dX4_carryOutOrder_78 : decode cX4_carryOutOrder 78 = .ok (.getfield 243, 3) := by decide +kernel
theorem dX4_carryOutOrder_81 : decode cX4_carryOutOrder 81 = .ok (.aload_n 0, 1) := by decide +kernel
theorem dX4_carryOutOrder_82 : decode cX4_carryOutOrder 82 = .ok (.getfield 34, 3) := by decide +kernel
theorem dX4_carryOutOrder_85 : decode cX4_carryOutOrder 85 = .ok (.getfield 246, 3) := by decide +kernel
theorem dX4_carryOutOrder_88 : decode cX4_carryOutOrder 88 = .ok (.invokevirtual 66, 3) := by decide +kernel
theorem dX4_carryOutOrder_91 : decode cX4_carryOutOrder 91 = .ok (.ireturn, 1) := by decide +kernel
theorem dX4_carryOutOrder_92 : decode cX4_carryOutOrder 92 = .ok (.aload_n 0, 1) := by decide +kernel
theorem dX4_carryOutOrder_93 : decode cX4_carryOutOrder 93 = .ok (.getfield 10, 3) := by decide +kernel
theorem dX4_carryOutOrder_96 : decode cX4_carryOutOrder 96 = .ok (.aload_n 0, 1) := by decide +kernel
theorem dX4_carryOutOrder_97 : decode cX4_carryOutOrder 97 = .ok (.getfield 34, 3) := by decide +kernel
theorem dX4_carryOutOrder_100 : decode cX4_carryOutOrder 100 = .ok (.getfield 243, 3) := by decide +kernel
theorem dX4_carryOutOrder_103 : decode cX4_carryOutOrder 103 = .ok (.aload_n 0, 1) := by decide +kernel
theorem dX4_carryOutOrder_104 : decode cX4_carryOutOrder 104 = .ok (.getfield 34, 3) := by decide +kernel
theorem dX4_carryOutOrder_107 : decode cX4_carryOutOrder 107 = .ok (.getfield 246, 3) := by decide +kernel
theorem dX4_carryOutOrder_110 : decode cX4_carryOutOrder 110 = .ok (.invokevirtual 60, 3) := by decide +kernel
theorem dX4_carryOutOrder_113 : decode cX4_carryOutOrder 113 = .ok (.ireturn, 1) := by decide +kernel
theorem dX4_carryOutOrder_114 : decode cX4_carryOutOrder 114 = .ok (.aload_n 0, 1) := by decide +kernel
theorem dX4_carryOutOrder_115 : decode cX4_carryOutOrder 115 = .ok (.getfield 10, 3) := by decide +kernel
theorem dX4_carryOutOrder_118 : decode cX4_carryOutOrder 118 = .ok (.aload_n 0, 1) := by decide +kernel
theorem dX4_carryOutOrder_119 : decode cX4_carryOutOrder 119 = .ok (.getfield 34, 3) := by decide +kernel
theorem dX4_carryOutOrder_122 : decode cX4_carryOutOrder 122 = .ok (.getfield 243, 3) := by decide +kernel
theorem dX4_carryOutOrder_125 : decode cX4_carryOutOrder 125 = .ok (.aload_n 0, 1) := by decide +kernel
theorem dX4_carryOutOrder_126 : decode cX4_carryOutOrder 126 = .ok (.getfield 34, 3) := by decide +kernel
theorem dX4_carryOutOrder_129 : decode cX4_carryOutOrder 129 = .ok (.getfield 246, 3) := by decide +kernel
theorem dX4_carryOutOrder_132 : decode cX4_carryOutOrder 132 = .ok (.aload_n 0, 1) := by decide +kernel
theorem dX4_carryOutOrder_133 : decode cX4_carryOutOrder 133 = .ok (.getfield 34, 3) := by decide +kernel
theorem dX4_carryOutOrder_136 : decode cX4_carryOutOrder 136 = .ok (.getfield 249, 3) := by decide +kernel
theorem dX4_carryOutOrder_139 : decode cX4_carryOutOrder 139 = .ok (.invokevirtual 56, 3) := by decide +kernel
theorem dX4_carryOutOrder_142 : decode cX4_carryOutOrder 142 = .ok (.ireturn, 1) := by decide +kernel
theorem dX4_carryOutOrder_143 : decode cX4_carryOutOrder 143 = .ok (.aload_n 0, 1) := by decide +kernel
theorem dX4_carryOutOrder_144 : decode cX4_carryOutOrder 144 = .ok (.getfield 10, 3) := by decide +kernel
theorem dX4_carryOutOrder_147 : decode cX4_carryOutOrder 147 = .ok (.aload_n 0, 1) := by decide +kernel
theorem dX4_carryOutOrder_148 : decode cX4_carryOutOrder 148 = .ok (.getfield 34, 3) := by decide +kernel
theorem dX4_carryOutOrder_151 : decode cX4_carryOutOrder 151 = .ok (.getfield 246, 3) := by decide +kernel
theorem dX4_carryOutOrder_154 : decode cX4_carryOutOrder 154 = .ok (.invokevirtual 69, 3) := by decide +kernel
theorem dX4_carryOutOrder_157 : decode cX4_carryOutOrder 157 = .ok (.ireturn, 1) := by decide +kernel
theorem dX4_errorOfQuestion_0 : decode cX4_errorOfQuestion 0 = .ok (.iload_n 1, 1) := by decide +kernel
theorem dX4_errorOfQuestion_1 : decode cX4_errorOfQuestion 1 = .ok (.invokestatic 72, 3) := by decide +kernel
theorem dX4_errorOfQuestion_4 : decode cX4_errorOfQuestion 4 = .ok (.ifCond .ne 5, 3) := by decide +kernel
theorem dX4_errorOfQuestion_7 : decode cX4_errorOfQuestion 7 = .ok (.iconst (-1), 1) := by decide +kernel
theorem dX4_errorOfQuestion_8 : decode cX4_errorOfQuestion 8 = .ok (.ireturn, 1) := by decide +kernel
theorem dX4_errorOfQuestion_9 : decode cX4_errorOfQuestion 9 = .ok (.iload_n 2, 1) := by decide +kernel
theorem dX4_errorOfQuestion_10 : decode cX4_errorOfQuestion 10 = .ok (.invokestatic 252, 3) := by decide +kernel
theorem dX4_errorOfQuestion_13 : decode cX4_errorOfQuestion 13 = .ok (.ifCond .eq 7, 3) := by decide +kernel
theorem dX4_errorOfQuestion_16 : decode cX4_errorOfQuestion 16 = .ok (.iconst 0, 1) := by decide +kernel
theorem dX4_errorOfQuestion_17 : decode cX4_errorOfQuestion 17 = .ok (.goto 5, 3) := by decide +kernel
theorem dX4_errorOfQuestion_20 : decode cX4_errorOfQuestion 20 = .ok (.bipush (-2), 2) := by decide +kernel
theorem dX4_errorOfQuestion_22 : decode cX4_errorOfQuestion 22 = .ok (.ireturn, 1) := by decide +kernel
theorem dX4_tryMinutes_0 : decode cX4_tryMinutes 0 = .ok (.aload_n 0, 1) := by decide +kernel
theorem dX4_tryMinutes_1 : decode cX4_tryMinutes 1 = .ok (.getfield 38, 3) := by decide +kernel
theorem dX4_tryMinutes_4 : decode cX4_tryMinutes 4 = .ok (.aload_n 0, 1) := by decide +kernel
theorem dX4_tryMinutes_5 : decode cX4_tryMinutes 5 = .ok (.getfield 10, 3) := by decide +kernel
theorem dX4_tryMinutes_8 : decode cX4_tryMinutes 8 = .ok (.invokevirtual 182, 3) := by decide +kernel
theorem dX4_tryMinutes_11 : decode cX4_tryMinutes 11 = .ok (.aload_n 0, 1) := by decide +kernel
theorem dX4_tryMinutes_12 : decode cX4_tryMinutes 12 = .ok (.getfield 38, 3) := by decide +kernel
theorem dX4_tryMinutes_15 : decode cX4_tryMinutes 15 = .ok (.iload_n 1, 1) := by decide +kernel
theorem dX4_tryMinutes_16 : decode cX4_tryMinutes 16 = .ok (.invokevirtual 69, 3) := by decide +kernel
theorem dX4_tryMinutes_19 : decode cX4_tryMinutes 19 = .ok (.pop, 1) := by decide +kernel
theorem dX4_tryMinutes_20 : decode cX4_tryMinutes 20 = .ok (.return_, 1) := by decide +kernel
theorem dX4_isDrive_0 : decode cX4_isDrive 0 = .ok (.iload_n 0, 1) := by decide +kernel
theorem dX4_isDrive_1 : decode cX4_isDrive 1 = .ok (.ifCond .lt 12, 3) := by decide +kernel
theorem dX4_isDrive_4 : decode cX4_isDrive 4 = .ok (.iload_n 0, 1) := by decide +kernel
theorem dX4_isDrive_5 : decode cX4_isDrive 5 = .ok (.iconst 4, 1) := by decide +kernel
theorem dX4_isDrive_6 : decode cX4_isDrive 6 = .ok (.if_icmp .ge 7, 3) := by decide +kernel
theorem dX4_isDrive_9 : decode cX4_isDrive 9 = .ok (.iconst 1, 1) := by decide +kernel
theorem dX4_isDrive_10 : decode cX4_isDrive 10 = .ok (.goto 4, 3) := by decide +kernel
theorem dX4_isDrive_13 : decode cX4_isDrive 13 = .ok (.iconst 0, 1) := by decide +kernel
theorem dX4_isDrive_14 : decode cX4_isDrive 14 = .ok (.ireturn, 1) := by decide +kernel
theorem dX4_twinOf_0 : decode cX4_twinOf 0 = .ok (.iload_n 0, 1) := by decide +kernel
theorem dX4_twinOf_1 : decode cX4_twinOf 1 = .ok (.iconst 2, 1) := by decide +kernel
theorem dX4_twinOf_2 : decode cX4_twinOf 2 = .ok (.irem, 1) := by decide +kernel
theorem dX4_twinOf_3 : decode cX4_twinOf 3 = .ok (.ifCond .ne 9, 3) := by decide +kernel
theorem dX4_twinOf_6 : decode cX4_twinOf 6 = .ok (.iload_n 0, 1) := by decide +kernel
theorem dX4_twinOf_7 : decode cX4_twinOf 7 = .ok (.iconst 1, 1) := by decide +kernel
theorem dX4_twinOf_8 : decode cX4_twinOf 8 = .ok (.iadd, 1) := by decide +kernel
theorem dX4_twinOf_9 : decode cX4_twinOf 9 = .ok (.goto 6, 3) := by decide +kernel
theorem dX4_twinOf_12 : decode cX4_twinOf 12 = .ok (.iload_n 0, 1) := by decide +kernel
theorem dX4_twinOf_13 : decode cX4_twinOf 13 = .ok (.iconst 1, 1) := by decide +kernel
theorem dX4_twinOf_14 : decode cX4_twinOf 14 = .ok (.isub, 1) := by decide +kernel
theorem dX4_twinOf_15 : decode cX4_twinOf 15 = .ok (.ireturn, 1) := by decide +kernel
theorem dX4_isHour_0 : decode cX4_isHour 0 = .ok (.iload_n 0, 1) := by decide +kernel
theorem dX4_isHour_1 : decode cX4_isHour 1 = .ok (.ifCond .lt 13, 3) := by decide +kernel
theorem dX4_isHour_4 : decode cX4_isHour 4 = .ok (.iload_n 0, 1) := by decide +kernel
theorem dX4_isHour_5 : decode cX4_isHour 5 = .ok (.bipush 100, 2) := by decide +kernel
theorem dX4_isHour_7 : decode cX4_isHour 7 = .ok (.if_icmp .ge 7, 3) := by decide +kernel
theorem dX4_isHour_10 : decode cX4_isHour 10 = .ok (.iconst 1, 1) := by decide +kernel
theorem dX4_isHour_11 : decode cX4_isHour 11 = .ok (.goto 4, 3) := by decide +kernel
theorem dX4_isHour_14 : decode cX4_isHour 14 = .ok (.iconst 0, 1) := by decide +kernel
theorem dX4_isHour_15 : decode cX4_isHour 15 = .ok (.ireturn, 1) := by decide +kernel
theorem dX4_isSlot_0 : decode cX4_isSlot 0 = .ok (.iload_n 0, 1) := by decide +kernel
theorem dX4_isSlot_1 : decode cX4_isSlot 1 = .ok (.ifCond .lt 12, 3) := by decide +kernel
theorem dX4_isSlot_4 : decode cX4_isSlot 4 = .ok (.iload_n 0, 1) := by decide +kernel
theorem dX4_isSlot_5 : decode cX4_isSlot 5 = .ok (.iconst 2, 1) := by decide +kernel
theorem dX4_isSlot_6 : decode cX4_isSlot 6 = .ok (.if_icmp .ge 7, 3) := by decide +kernel
theorem dX4_isSlot_9 : decode cX4_isSlot 9 = .ok (.iconst 1, 1) := by decide +kernel
theorem dX4_isSlot_10 : decode cX4_isSlot 10 = .ok (.goto 4, 3) := by decide +kernel
theorem dX4_isSlot_13 : decode cX4_isSlot 13 = .ok (.iconst 0, 1) := by decide +kernel
theorem dX4_isSlot_14 : decode cX4_isSlot 14 = .ok (.ireturn, 1) := by decide +kernel
theorem dX4_arePassable_0 : decode cX4_arePassable 0 = .ok (.iload_n 0, 1) := by decide +kernel
theorem dX4_arePassable_1 : decode cX4_arePassable 1 = .ok (.iconst 1, 1) := by decide +kernel
theorem dX4_arePassable_2 : decode cX4_arePassable 2 = .ok (.if_icmp .lt 14, 3) := by decide +kernel
theorem dX4_arePassable_5 : decode cX4_arePassable 5 = .ok (.iload_n 0, 1) := by decide +kernel
theorem dX4_arePassable_6 : decode cX4_arePassable 6 = .ok (.sipush 600, 3) := by decide +kernel
theorem dX4_arePassable_9 : decode cX4_arePassable 9 = .ok (.if_icmp .gt 7, 3) := by decide +kernel
theorem dX4_arePassable_12 : decode cX4_arePassable 12 = .ok (.iconst 1, 1) := by decide +kernel
theorem dX4_arePassable_13 : decode cX4_arePassable 13 = .ok (.goto 4, 3) := by decide +kernel
theorem dX4_arePassable_16 : decode cX4_arePassable 16 = .ok (.iconst 0, 1) := by decide +kernel
theorem dX4_arePassable_17 : decode cX4_arePassable 17 = .ok (.ireturn, 1) := by decide +kernel
theorem dX4_signsIn_0 : decode cX4_signsIn 0 = .ok (.lload_n 0, 1) := by decide +kernel
theorem dX4_signsIn_1 : decode cX4_signsIn 1 = .ok (.lstore_n 2, 1) := by decide +kernel
theorem dX4_signsIn_2 : decode cX4_signsIn 2 = .ok (.iconst 0, 1) := by decide +kernel
theorem dX4_signsIn_3 : decode cX4_signsIn 3 = .ok (.istore 4, 2) := by decide +kernel
theorem dX4_signsIn_5 : decode cX4_signsIn 5 = .ok (.lload_n 2, 1) := by decide +kernel
theorem dX4_signsIn_6 : decode cX4_signsIn 6 = .ok (.lconst 0, 1) := by decide +kernel
theorem dX4_signsIn_7 : decode cX4_signsIn 7 = .ok (.lcmp, 1) := by decide +kernel
theorem dX4_signsIn_8 : decode cX4_signsIn 8 = .ok (.ifCond .eq 48, 3) := by decide +kernel
theorem dX4_signsIn_11 : decode cX4_signsIn 11 = .ok (.iload 4, 2) := by decide +kernel
theorem dX4_signsIn_13 : decode cX4_signsIn 13 = .ok (.bipush 8, 2) := by decide +kernel
theorem dX4_signsIn_15 : decode cX4_signsIn 15 = .ok (.if_icmp .ge 41, 3) := by decide +kernel
theorem dX4_signsIn_18 : decode cX4_signsIn 18 = .ok (.lload_n 2, 1) := by decide +kernel
theorem dX4_signsIn_19 : decode cX4_signsIn 19 = .ok (.ldc2_w 255, 3) := by decide +kernel
theorem dX4_signsIn_22 : decode cX4_signsIn 22 = .ok (.land, 1) := by decide +kernel
theorem dX4_signsIn_23 : decode cX4_signsIn 23 = .ok (.lstore 5, 2) := by decide +kernel
theorem dX4_signsIn_25 : decode cX4_signsIn 25 = .ok (.lload 5, 2) := by decide +kernel
theorem dX4_signsIn_27 : decode cX4_signsIn 27 = .ok (.ldc2_w 257, 3) := by decide +kernel
theorem dX4_signsIn_30 : decode cX4_signsIn 30 = .ok (.lcmp, 1) := by decide +kernel
theorem dX4_signsIn_31 : decode cX4_signsIn 31 = .ok (.ifCond .lt 12, 3) := by decide +kernel
theorem dX4_signsIn_34 : decode cX4_signsIn 34 = .ok (.lload 5, 2) := by decide +kernel
theorem dX4_signsIn_36 : decode cX4_signsIn 36 = .ok (.ldc2_w 259, 3) := by decide +kernel
theorem dX4_signsIn_39 : decode cX4_signsIn 39 = .ok (.lcmp, 1) := by decide +kernel
theorem dX4_signsIn_40 : decode cX4_signsIn 40 = .ok (.ifCond .le 5, 3) := by decide +kernel
theorem dX4_signsIn_43 : decode cX4_signsIn 43 = .ok (.iconst 0, 1) := by decide +kernel
theorem dX4_signsIn_44 : decode cX4_signsIn 44 = .ok (.ireturn, 1) := by decide +kernel
theorem dX4_signsIn_45 : decode cX4_signsIn 45 = .ok (.lload_n 2, 1) := by decide +kernel
theorem dX4_signsIn_46 : decode cX4_signsIn 46 = .ok (.bipush 8, 2) := by decide +kernel
theorem dX4_signsIn_48 : decode cX4_signsIn 48 = .ok (.lushr, 1) := by decide +kernel
theorem dX4_signsIn_49 : decode cX4_signsIn 49 = .ok (.lstore_n 2, 1) := by decide +kernel
theorem dX4_signsIn_50 : decode cX4_signsIn 50 = .ok (.iinc 4 1, 3) := by decide +kernel
theorem dX4_signsIn_53 : decode cX4_signsIn 53 = .ok (.goto (-48), 3) := by decide +kernel
theorem dX4_signsIn_56 : decode cX4_signsIn 56 = .ok (.iload 4, 2) := by decide +kernel
theorem dX4_signsIn_58 : decode cX4_signsIn 58 = .ok (.ireturn, 1) := by decide +kernel
theorem dX4_doubleBits_0 : decode cX4_doubleBits 0 = .ok (.dload_n 0, 1) := by decide +kernel
theorem dX4_doubleBits_1 : decode cX4_doubleBits 1 = .ok (.dconst 0, 1) := by decide +kernel
theorem dX4_doubleBits_2 : decode cX4_doubleBits 2 = .ok (.dcmp .l, 1) := by decide +kernel
theorem dX4_doubleBits_3 : decode cX4_doubleBits 3 = .ok (.ifCond .gt 5, 3) := by decide +kernel
theorem dX4_doubleBits_6 : decode cX4_doubleBits 6 = .ok (.lconst 0, 1) := by decide +kernel
theorem dX4_doubleBits_7 : decode cX4_doubleBits 7 = .ok (.lreturn, 1) := by decide +kernel
theorem dX4_doubleBits_8 : decode cX4_doubleBits 8 = .ok (.dload_n 0, 1) := by decide +kernel
theorem dX4_doubleBits_9 : decode cX4_doubleBits 9 = .ok (.dstore_n 2, 1) := by decide +kernel
theorem dX4_doubleBits_10 : decode cX4_doubleBits 10 = .ok (.iconst 0, 1) := by decide +kernel
theorem dX4_doubleBits_11 : decode cX4_doubleBits 11 = .ok (.istore 4, 2) := by decide +kernel
theorem dX4_doubleBits_13 : decode cX4_doubleBits 13 = .ok (.dload_n 2, 1) := by decide +kernel
theorem dX4_doubleBits_14 : decode cX4_doubleBits 14 = .ok (.ldc2_w 261, 3) := by decide +kernel
theorem dX4_doubleBits_17 : decode cX4_doubleBits 17 = .ok (.dcmp .l, 1) := by decide +kernel
theorem dX4_doubleBits_18 : decode cX4_doubleBits 18 = .ok (.ifCond .lt 23, 3) := by decide +kernel
theorem dX4_doubleBits_21 : decode cX4_doubleBits 21 = .ok (.iload 4, 2) := by decide +kernel
theorem dX4_doubleBits_23 : decode cX4_doubleBits 23 = .ok (.sipush 1023, 3) := by decide +kernel
theorem dX4_doubleBits_26 : decode cX4_doubleBits 26 = .ok (.if_icmp .ge 15, 3) := by decide +kernel
theorem dX4_doubleBits_29 : decode cX4_doubleBits 29 = .ok (.dload_n 2, 1) := by decide +kernel
theorem dX4_doubleBits_30 : decode cX4_doubleBits 30 = .ok (.ldc2_w 261, 3) := by decide +kernel
theorem dX4_doubleBits_33 : decode cX4_doubleBits 33 = .ok (.ddiv, 1) := by decide +kernel
theorem dX4_doubleBits_34 : decode cX4_doubleBits 34 = .ok (.dstore_n 2, 1) := by decide +kernel
theorem dX4_doubleBits_35 : decode cX4_doubleBits 35 = .ok (.iinc 4 1, 3) := by decide +kernel
theorem dX4_doubleBits_38 : decode cX4_doubleBits 38 = .ok (.goto (-25), 3) := by decide +kernel
theorem dX4_doubleBits_41 : decode cX4_doubleBits 41 = .ok (.dload_n 2, 1) := by decide +kernel
theorem dX4_doubleBits_42 : decode cX4_doubleBits 42 = .ok (.dconst 1, 1) := by decide +kernel
theorem dX4_doubleBits_43 : decode cX4_doubleBits 43 = .ok (.dcmp .g, 1) := by decide +kernel
theorem dX4_doubleBits_44 : decode cX4_doubleBits 44 = .ok (.ifCond .ge 23, 3) := by decide +kernel
theorem dX4_doubleBits_47 : decode cX4_doubleBits 47 = .ok (.iload 4, 2) := by decide +kernel
theorem dX4_doubleBits_49 : decode cX4_doubleBits 49 = .ok (.sipush (-1022), 3) := by decide +kernel
theorem dX4_doubleBits_52 : decode cX4_doubleBits 52 = .ok (.if_icmp .le 15, 3) := by decide +kernel
theorem dX4_doubleBits_55 : decode cX4_doubleBits 55 = .ok (.dload_n 2, 1) := by decide +kernel
theorem dX4_doubleBits_56 : decode cX4_doubleBits 56 = .ok (.ldc2_w 261, 3) := by decide +kernel
theorem dX4_doubleBits_59 : decode cX4_doubleBits 59 = .ok (.dmul, 1) := by decide +kernel
theorem dX4_doubleBits_60 : decode cX4_doubleBits 60 = .ok (.dstore_n 2, 1) := by decide +kernel
theorem dX4_doubleBits_61 : decode cX4_doubleBits 61 = .ok (.iinc 4 (-1), 3) := by decide +kernel
theorem dX4_doubleBits_64 : decode cX4_doubleBits 64 = .ok (.goto (-23), 3) := by decide +kernel
theorem dX4_doubleBits_67 : decode cX4_doubleBits 67 = .ok (.dload_n 2, 1) := by decide +kernel
theorem dX4_doubleBits_68 : decode cX4_doubleBits 68 = .ok (.dconst 1, 1) := by decide +kernel
theorem dX4_doubleBits_69 : decode cX4_doubleBits 69 = .ok (.dsub, 1) := by decide +kernel
theorem dX4_doubleBits_70 : decode cX4_doubleBits 70 = .ok (.ldc2_w 263, 3) := by decide +kernel
theorem dX4_doubleBits_73 : decode cX4_doubleBits 73 = .ok (.dmul, 1) := by decide +kernel
theorem dX4_doubleBits_74 : decode cX4_doubleBits 74 = .ok (.d2l, 1) := by decide +kernel
theorem dX4_doubleBits_75 : decode cX4_doubleBits 75 = .ok (.lstore 5, 2) := by decide +kernel
theorem dX4_doubleBits_77 : decode cX4_doubleBits 77 = .ok (.iload 4, 2) := by decide +kernel
theorem dX4_doubleBits_79 : decode cX4_doubleBits 79 = .ok (.sipush 1023, 3) := by decide +kernel
theorem dX4_doubleBits_82 : decode cX4_doubleBits 82 = .ok (.iadd, 1) := by decide +kernel
theorem dX4_doubleBits_83 : decode cX4_doubleBits 83 = .ok (.i2l, 1) := by decide +kernel
theorem dX4_doubleBits_84 : decode cX4_doubleBits 84 = .ok (.bipush 52, 2) := by decide +kernel
theorem dX4_doubleBits_86 : decode cX4_doubleBits 86 = .ok (.lshl, 1) := by decide +kernel
theorem dX4_doubleBits_87 : decode cX4_doubleBits 87 = .ok (.lload 5, 2) := by decide +kernel
theorem dX4_doubleBits_89 : decode cX4_doubleBits 89 = .ok (.ladd, 1) := by decide +kernel
theorem dX4_doubleBits_90 : decode cX4_doubleBits 90 = .ok (.lreturn, 1) := by decide +kernel
theorem dX4_floatBits_0 : decode cX4_floatBits 0 = .ok (.fload_n 0, 1) := by decide +kernel
theorem dX4_floatBits_1 : decode cX4_floatBits 1 = .ok (.f2d, 1) := by decide +kernel
theorem dX4_floatBits_2 : decode cX4_floatBits 2 = .ok (.invokestatic 149, 3) := by decide +kernel
theorem dX4_floatBits_5 : decode cX4_floatBits 5 = .ok (.lstore_n 1, 1) := by decide +kernel
theorem dX4_floatBits_6 : decode cX4_floatBits 6 = .ok (.lload_n 1, 1) := by decide +kernel
theorem dX4_floatBits_7 : decode cX4_floatBits 7 = .ok (.lconst 0, 1) := by decide +kernel
theorem dX4_floatBits_8 : decode cX4_floatBits 8 = .ok (.lcmp, 1) := by decide +kernel
theorem dX4_floatBits_9 : decode cX4_floatBits 9 = .ok (.ifCond .ne 5, 3) := by decide +kernel
theorem dX4_floatBits_12 : decode cX4_floatBits 12 = .ok (.iconst 0, 1) := by decide +kernel
theorem dX4_floatBits_13 : decode cX4_floatBits 13 = .ok (.ireturn, 1) := by decide +kernel
theorem dX4_floatBits_14 : decode cX4_floatBits 14 = .ok (.lload_n 1, 1) := by decide +kernel
theorem dX4_floatBits_15 : decode cX4_floatBits 15 = .ok (.bipush 29, 2) := by decide +kernel
theorem dX4_floatBits_17 : decode cX4_floatBits 17 = .ok (.lushr, 1) := by decide +kernel
theorem dX4_floatBits_18 : decode cX4_floatBits 18 = .ok (.lstore_n 3, 1) := by decide +kernel
theorem dX4_floatBits_19 : decode cX4_floatBits 19 = .ok (.lload_n 3, 1) := by decide +kernel
theorem dX4_floatBits_20 : decode cX4_floatBits 20 = .ok (.ldc2_w 265, 3) := by decide +kernel
theorem dX4_floatBits_23 : decode cX4_floatBits 23 = .ok (.lsub, 1) := by decide +kernel
theorem dX4_floatBits_24 : decode cX4_floatBits 24 = .ok (.l2i, 1) := by decide +kernel
theorem dX4_floatBits_25 : decode cX4_floatBits 25 = .ok (.ireturn, 1) := by decide +kernel
theorem dX5_init_0 : decode cX5_init 0 = .ok (.aload_n 0, 1) := by decide +kernel
theorem dX5_init_1 : decode cX5_init 1 = .ok (.invokespecial 1, 3) := by decide +kernel
theorem dX5_init_4 : decode cX5_init 4 = .ok (.aload_n 0, 1) := by decide +kernel
theorem dX5_init_5 : decode cX5_init 5 = .ok (.sipush 456, 3) := by decide +kernel
theorem dX5_init_8 : decode cX5_init 8 = .ok (.newarray .long, 2) := by decide +kernel
theorem dX5_init_10 : decode cX5_init 10 = .ok (.putfield 7, 3) := by decide +kernel
theorem dX5_init_13 : decode cX5_init 13 = .ok (.aload_n 0, 1) := by decide +kernel
theorem dX5_init_14 : decode cX5_init 14 = .ok (.sipush 456, 3) := by decide +kernel
theorem dX5_init_17 : decode cX5_init 17 = .ok (.newarray .long, 2) := by decide +kernel
theorem dX5_init_19 : decode cX5_init 19 = .ok (.putfield 13, 3) := by decide +kernel
theorem dX5_init_22 : decode cX5_init 22 = .ok (.aload_n 0, 1) := by decide +kernel
theorem dX5_init_23 : decode cX5_init 23 = .ok (.sipush 2736, 3) := by decide +kernel
theorem dX5_init_26 : decode cX5_init 26 = .ok (.newarray .long, 2) := by decide +kernel
theorem dX5_init_28 : decode cX5_init 28 = .ok (.putfield 16, 3) := by decide +kernel
theorem dX5_init_31 : decode cX5_init 31 = .ok (.aload_n 0, 1) := by decide +kernel
theorem dX5_init_32 : decode cX5_init 32 = .ok (.sipush 912, 3) := by decide +kernel
theorem dX5_init_35 : decode cX5_init 35 = .ok (.newarray .long, 2) := by decide +kernel
theorem dX5_init_37 : decode cX5_init 37 = .ok (.putfield 19, 3) := by decide +kernel
theorem dX5_init_40 : decode cX5_init 40 = .ok (.aload_n 0, 1) := by decide +kernel
theorem dX5_init_41 : decode cX5_init 41 = .ok (.iconst 2, 1) := by decide +kernel
theorem dX5_init_42 : decode cX5_init 42 = .ok (.newarray .boolean, 2) := by decide +kernel
theorem dX5_init_44 : decode cX5_init 44 = .ok (.putfield 22, 3) := by decide +kernel
theorem dX5_init_47 : decode cX5_init 47 = .ok (.aload_n 0, 1) := by decide +kernel
theorem dX5_init_48 : decode cX5_init 48 = .ok (.bipush 80, 2) := by decide +kernel
theorem dX5_init_50 : decode cX5_init 50 = .ok (.newarray .int, 2) := by decide +kernel
theorem dX5_init_52 : decode cX5_init 52 = .ok (.putfield 26, 3) := by decide +kernel
theorem dX5_init_55 : decode cX5_init 55 = .ok (.aload_n 0, 1) := by decide +kernel
theorem dX5_init_56 : decode cX5_init 56 = .ok (.sipush 164, 3) := by decide +kernel
theorem dX5_init_59 : decode cX5_init 59 = .ok (.newarray .int, 2) := by decide +kernel
theorem dX5_init_61 : decode cX5_init 61 = .ok (.putfield 30, 3) := by decide +kernel
theorem dX5_init_64 : decode cX5_init 64 = .ok (.aload_n 0, 1) := by decide +kernel
theorem dX5_init_65 : decode cX5_init 65 = .ok (.getfield 7, 3) := by decide +kernel
theorem dX5_init_68 : decode cX5_init 68 = .ok (.iconst 5, 1) := by decide +kernel
theorem dX5_init_69 : decode cX5_init 69 = .ok (.ldc2_w 33, 3) := by decide +kernel
theorem dX5_init_72 : decode cX5_init 72 = .ok (.lastore, 1) := by decide +kernel
theorem dX5_init_73 : decode cX5_init 73 = .ok (.aload_n 0, 1) := by decide +kernel
theorem dX5_init_74 : decode cX5_init 74 = .ok (.getfield 7, 3) := by decide +kernel
theorem dX5_init_77 : decode cX5_init 77 = .ok (.bipush 6, 2) := by decide +kernel
theorem dX5_init_79 : decode cX5_init 79 = .ok (.ldc2_w 35, 3) := by decide +kernel
theorem dX5_init_82 : decode cX5_init 82 = .ok (.lastore, 1) := by decide +kernel
end
section
theorem dX5_init_83 : decode cX5_init 83 = .ok (.aload_n 0, 1) := by decide +kernel
theorem dX5_init_84 : decode cX5_init 84 = .ok (.getfield 7, 3) := by decide +kernel
theorem dX5_init_87 : decode cX5_init 87 = .ok (.bipush 7, 2) := by decide +kernel
theorem dX5_init_89 : decode cX5_init 89 = .ok (.ldc2_w 37, 3) := by decide +kernel
theorem dX5_init_92 : decode cX5_init 92 = .ok (.lastore, 1) := by decide +kernel
theorem dX5_init_93 : decode cX5_init 93 = .ok (.aload_n 0, 1) := by decide +kernel
theorem dX5_init_94 : decode cX5_init 94 = .ok (.getfield 7, 3) := by decide +kernel
theorem dX5_init_97 : decode cX5_init 97 = .ok (.bipush 8, 2) := by decide +kernel
theorem dX5_init_99 : decode cX5_init 99 = .ok (.ldc2_w 39, 3) := by decide +kernel
theorem dX5_init_102 : decode cX5_init 102 = .ok (.lastore, 1) := by decide +kernel
theorem dX5_init_103 : decode cX5_init 103 = .ok (.aload_n 0, 1) := by decide +kernel
theorem dX5_init_104 : decode cX5_init 104 = .ok (.getfield 7, 3) := by decide +kernel
theorem dX5_init_107 : decode cX5_init 107 = .ok (.bipush 9, 2) := by decide +kernel
theorem dX5_init_109 : decode cX5_init 109 = .ok (.ldc2_w 41, 3) := by decide +kernel
theorem dX5_init_112 : decode cX5_init 112 = .ok (.lastore, 1) := by decide +kernel
theorem dX5_init_113 : decode cX5_init 113 = .ok (.aload_n 0, 1) := by decide +kernel
theorem dX5_init_114 : decode cX5_init 114 = .ok (.getfield 7, 3) := by decide +kernel
theorem dX5_init_117 : decode cX5_init 117 = .ok (.bipush 10, 2) := by decide +kernel
theorem dX5_init_119 : decode cX5_init 119 = .ok (.ldc2_w 43, 3) := by decide +kernel
theorem dX5_init_122 : decode cX5_init 122 = .ok (.lastore, 1) := by decide +kernel
theorem dX5_init_123 : decode cX5_init 123 = .ok (.aload_n 0, 1) := by decide +kernel
theorem dX5_init_124 : decode cX5_init 124 = .ok (.getfield 7, 3) := by decide +kernel
theorem dX5_init_127 : decode cX5_init 127 = .ok (.bipush 11, 2) := by decide +kernel
theorem dX5_init_129 : decode cX5_init 129 = .ok (.ldc2_w 39, 3) := by decide +kernel
theorem dX5_init_132 : decode cX5_init 132 = .ok (.lastore, 1) := by decide +kernel
theorem dX5_init_133 : decode cX5_init 133 = .ok (.iconst 0, 1) := by decide +kernel
theorem dX5_init_134 : decode cX5_init 134 = .ok (.istore_n 1, 1) := by decide +kernel
theorem dX5_init_135 : decode cX5_init 135 = .ok (.iload_n 1, 1) := by decide +kernel
theorem dX5_init_136 : decode cX5_init 136 = .ok (.iconst 4, 1) := by decide +kernel
theorem dX5_init_137 : decode cX5_init 137 = .ok (.if_icmp .ge 36, 3) := by decide +kernel
theorem dX5_init_140 : decode cX5_init 140 = .ok (.aload_n 0, 1) := by decide +kernel
theorem dX5_init_141 : decode cX5_init 141 = .ok (.getfield 7, 3) := by decide +kernel
theorem dX5_init_144 : decode cX5_init 144 = .ok (.iload_n 1, 1) := by decide +kernel
theorem dX5_init_145 : decode cX5_init 145 = .ok (.invokestatic 45, 3) := by decide +kernel
theorem dX5_init_148 : decode cX5_init 148 = .ok (.iconst 0, 1) := by decide +kernel
theorem dX5_init_149 : decode cX5_init 149 = .ok (.iadd, 1) := by decide +kernel
theorem dX5_init_150 : decode cX5_init 150 = .ok (.ldc2_w 33, 3) := by decide +kernel
theorem dX5_init_153 : decode cX5_init 153 = .ok (.lastore, 1) := by decide +kernel
theorem dX5_init_154 : decode cX5_init 154 = .ok (.aload_n 0, 1) := by decide +kernel
theorem dX5_init_155 : decode cX5_init 155 = .ok (.getfield 7, 3) := by decide +kernel
theorem dX5_init_158 : decode cX5_init 158 = .ok (.iload_n 1, 1) := by decide +kernel
theorem dX5_init_159 : decode cX5_init 159 = .ok (.invokestatic 45, 3) := by decide +kernel
theorem dX5_init_162 : decode cX5_init 162 = .ok (.bipush 8, 2) := by decide +kernel
theorem dX5_init_164 : decode cX5_init 164 = .ok (.iadd, 1) := by decide +kernel
theorem dX5_init_165 : decode cX5_init 165 = .ok (.lconst 1, 1) := by decide +kernel
theorem dX5_init_166 : decode cX5_init 166 = .ok (.lastore, 1) := by decide +kernel
theorem dX5_init_167 : decode cX5_init 167 = .ok (.iinc 1 1, 3) := by decide +kernel
theorem dX5_init_170 : decode cX5_init 170 = .ok (.goto (-35), 3) := by decide +kernel
theorem dX5_init_173 : decode cX5_init 173 = .ok (.return_, 1) := by decide +kernel
theorem dX5_in_0 : decode cX5_in 0 = .ok (.lload_n 0, 1) := by decide +kernel
theorem dX5_in_1 : decode cX5_in 1 = .ok (.lload_n 2, 1) := by decide +kernel
theorem dX5_in_2 : decode cX5_in 2 = .ok (.lcmp, 1) := by decide +kernel
theorem dX5_in_3 : decode cX5_in 3 = .ok (.ifCond .lt 14, 3) := by decide +kernel
theorem dX5_in_6 : decode cX5_in 6 = .ok (.lload_n 0, 1) := by decide +kernel
theorem dX5_in_7 : decode cX5_in 7 = .ok (.lload 4, 2) := by decide +kernel
theorem dX5_in_9 : decode cX5_in 9 = .ok (.lcmp, 1) := by decide +kernel
theorem dX5_in_10 : decode cX5_in 10 = .ok (.ifCond .gt 7, 3) := by decide +kernel
theorem dX5_in_13 : decode cX5_in 13 = .ok (.iconst 1, 1) := by decide +kernel
theorem dX5_in_14 : decode cX5_in 14 = .ok (.goto 4, 3) := by decide +kernel
theorem dX5_in_17 : decode cX5_in 17 = .ok (.iconst 0, 1) := by decide +kernel
theorem dX5_in_18 : decode cX5_in 18 = .ok (.ireturn, 1) := by decide +kernel
theorem dX5_isDrive_0 : decode cX5_isDrive 0 = .ok (.iload_n 0, 1) := by decide +kernel
theorem dX5_isDrive_1 : decode cX5_isDrive 1 = .ok (.i2l, 1) := by decide +kernel
theorem dX5_isDrive_2 : decode cX5_isDrive 2 = .ok (.lconst 0, 1) := by decide +kernel
theorem dX5_isDrive_3 : decode cX5_isDrive 3 = .ok (.ldc2_w 49, 3) := by decide +kernel
theorem dX5_isDrive_6 : decode cX5_isDrive 6 = .ok (.invokestatic 51, 3) := by decide +kernel
theorem dX5_isDrive_9 : decode cX5_isDrive 9 = .ok (.ireturn, 1) := by decide +kernel
theorem dX5_isHour_0 : decode cX5_isHour 0 = .ok (.iload_n 0, 1) := by decide +kernel
theorem dX5_isHour_1 : decode cX5_isHour 1 = .ok (.i2l, 1) := by decide +kernel
theorem dX5_isHour_2 : decode cX5_isHour 2 = .ok (.lconst 0, 1) := by decide +kernel
theorem dX5_isHour_3 : decode cX5_isHour 3 = .ok (.ldc2_w 55, 3) := by decide +kernel
theorem dX5_isHour_6 : decode cX5_isHour 6 = .ok (.invokestatic 51, 3) := by decide +kernel
theorem dX5_isHour_9 : decode cX5_isHour 9 = .ok (.ireturn, 1) := by decide +kernel
theorem dX5_row_0 : decode cX5_row 0 = .ok (.bipush 12, 2) := by decide +kernel
theorem dX5_row_2 : decode cX5_row 2 = .ok (.bipush 11, 2) := by decide +kernel
theorem dX5_row_4 : decode cX5_row 4 = .ok (.iload_n 0, 1) := by decide +kernel
theorem dX5_row_5 : decode cX5_row 5 = .ok (.imul, 1) := by decide +kernel
theorem dX5_row_6 : decode cX5_row 6 = .ok (.iadd, 1) := by decide +kernel
theorem dX5_row_7 : decode cX5_row 7 = .ok (.ireturn, 1) := by decide +kernel
theorem dX5_lays_0 : decode cX5_lays 0 = .ok (.iconst 0, 1) := by decide +kernel
theorem dX5_lays_1 : decode cX5_lays 1 = .ok (.istore 4, 2) := by decide +kernel
theorem dX5_lays_3 : decode cX5_lays 3 = .ok (.iload 4, 2) := by decide +kernel
theorem dX5_lays_5 : decode cX5_lays 5 = .ok (.sipush 456, 3) := by decide +kernel
theorem dX5_lays_8 : decode cX5_lays 8 = .ok (.if_icmp .ge 21, 3) := by decide +kernel
theorem dX5_lays_11 : decode cX5_lays 11 = .ok (.aload_n 2, 1) := by decide +kernel
theorem dX5_lays_12 : decode cX5_lays 12 = .ok (.iload_n 3, 1) := by decide +kernel
theorem dX5_lays_13 : decode cX5_lays 13 = .ok (.iload 4, 2) := by decide +kernel
theorem dX5_lays_15 : decode cX5_lays 15 = .ok (.iadd, 1) := by decide +kernel
theorem dX5_lays_16 : decode cX5_lays 16 = .ok (.aload_n 0, 1) := by decide +kernel
theorem dX5_lays_17 : decode cX5_lays 17 = .ok (.iload_n 1, 1) := by decide +kernel
theorem dX5_lays_18 : decode cX5_lays 18 = .ok (.iload 4, 2) := by decide +kernel
theorem dX5_lays_20 : decode cX5_lays 20 = .ok (.iadd, 1) := by decide +kernel
theorem dX5_lays_21 : decode cX5_lays 21 = .ok (.laload, 1) := by decide +kernel
theorem dX5_lays_22 : decode cX5_lays 22 = .ok (.lastore, 1) := by decide +kernel
theorem dX5_lays_23 : decode cX5_lays 23 = .ok (.iinc 4 1, 3) := by decide +kernel
theorem dX5_lays_26 : decode cX5_lays 26 = .ok (.goto (-23), 3) := by decide +kernel
theorem dX5_lays_29 : decode cX5_lays 29 = .ok (.return_, 1) := by decide +kernel
theorem dX5_records_0 : decode cX5_records 0 = .ok (.aload_n 0, 1) := by decide +kernel
theorem dX5_records_1 : decode cX5_records 1 = .ok (.getfield 57, 3) := by decide +kernel
theorem dX5_records_4 : decode cX5_records 4 = .ok (.bipush 6, 2) := by decide +kernel
theorem dX5_records_6 : decode cX5_records 6 = .ok (.if_icmp .ne 44, 3) := by decide +kernel
theorem dX5_records_9 : decode cX5_records 9 = .ok (.iconst 0, 1) := by decide +kernel
theorem dX5_records_10 : decode cX5_records 10 = .ok (.istore_n 1, 1) := by decide +kernel
theorem dX5_records_11 : decode cX5_records 11 = .ok (.iload_n 1, 1) := by decide +kernel
theorem dX5_records_12 : decode cX5_records 12 = .ok (.sipush 2280, 3) := by decide +kernel
theorem dX5_records_15 : decode cX5_records 15 = .ok (.if_icmp .ge 25, 3) := by decide +kernel
theorem dX5_records_18 : decode cX5_records 18 = .ok (.aload_n 0, 1) := by decide +kernel
theorem dX5_records_19 : decode cX5_records 19 = .ok (.getfield 16, 3) := by decide +kernel
theorem dX5_records_22 : decode cX5_records 22 = .ok (.iload_n 1, 1) := by decide +kernel
theorem dX5_records_23 : decode cX5_records 23 = .ok (.aload_n 0, 1) := by decide +kernel
theorem dX5_records_24 : decode cX5_records 24 = .ok (.getfield 16, 3) := by decide +kernel
theorem dX5_records_27 : decode cX5_records 27 = .ok (.iload_n 1, 1) := by decide +kernel
theorem dX5_records_28 : decode cX5_records 28 = .ok (.sipush 456, 3) := by decide +kernel
theorem dX5_records_31 : decode cX5_records 31 = .ok (.iadd, 1) := by decide +kernel
theorem dX5_records_32 : decode cX5_records 32 = .ok (.laload, 1) := by decide +kernel
theorem dX5_records_33 : decode cX5_records 33 = .ok (.lastore, 1) := by decide +kernel
theorem dX5_records_34 : decode cX5_records 34 = .ok (.iinc 1 1, 3) := by decide +kernel
theorem dX5_records_37 : decode cX5_records 37 = .ok (.goto (-26), 3) := by decide +kernel
theorem dX5_records_40 : decode cX5_records 40 = .ok (.aload_n 0, 1) := by decide +kernel
theorem dX5_records_41 : decode cX5_records 41 = .ok (.dup, 1) := by decide +kernel
theorem dX5_records_42 : decode cX5_records 42 = .ok (.getfield 57, 3) := by decide +kernel
theorem dX5_records_45 : decode cX5_records 45 = .ok (.iconst 1, 1) := by decide +kernel
theorem dX5_records_46 : decode cX5_records 46 = .ok (.isub, 1) := by decide +kernel
theorem dX5_records_47 : decode cX5_records 47 = .ok (.putfield 57, 3) := by decide +kernel
theorem dX5_records_50 : decode cX5_records 50 = .ok (.aload_n 0, 1) := by decide +kernel
theorem dX5_records_51 : decode cX5_records 51 = .ok (.getfield 7, 3) := by decide +kernel
theorem dX5_records_54 : decode cX5_records 54 = .ok (.iconst 0, 1) := by decide +kernel
theorem dX5_records_55 : decode cX5_records 55 = .ok (.aload_n 0, 1) := by decide +kernel
theorem dX5_records_56 : decode cX5_records 56 = .ok (.getfield 16, 3) := by decide +kernel
theorem dX5_records_59 : decode cX5_records 59 = .ok (.sipush 456, 3) := by decide +kernel
theorem dX5_records_62 : decode cX5_records 62 = .ok (.aload_n 0, 1) := by decide +kernel
theorem dX5_records_63 : decode cX5_records 63 = .ok (.getfield 57, 3) := by decide +kernel
theorem dX5_records_66 : decode cX5_records 66 = .ok (.imul, 1) := by decide +kernel
theorem dX5_records_67 : decode cX5_records 67 = .ok (.invokestatic 61, 3) := by decide +kernel
theorem dX5_records_70 : decode cX5_records 70 = .ok (.aload_n 0, 1) := by decide +kernel
theorem dX5_records_71 : decode cX5_records 71 = .ok (.dup, 1) := by decide +kernel
theorem dX5_records_72 : decode cX5_records 72 = .ok (.getfield 57, 3) := by decide +kernel
theorem dX5_records_75 : decode cX5_records 75 = .ok (.iconst 1, 1) := by decide +kernel
theorem dX5_records_76 : decode cX5_records 76 = .ok (.iadd, 1) := by decide +kernel
theorem dX5_records_77 : decode cX5_records 77 = .ok (.putfield 57, 3) := by decide +kernel
theorem dX5_records_80 : decode cX5_records 80 = .ok (.return_, 1) := by decide +kernel
theorem dX5_undo_0 : decode cX5_undo 0 = .ok (.aload_n 0, 1) := by decide +kernel
theorem dX5_undo_1 : decode cX5_undo 1 = .ok (.getfield 57, 3) := by decide +kernel
theorem dX5_undo_4 : decode cX5_undo 4 = .ok (.ifCond .ne 6, 3) := by decide +kernel
theorem dX5_undo_7 : decode cX5_undo 7 = .ok (.bipush (-5), 2) := by decide +kernel
theorem dX5_undo_9 : decode cX5_undo 9 = .ok (.ireturn, 1) := by decide +kernel
theorem dX5_undo_10 : decode cX5_undo 10 = .ok (.aload_n 0, 1) := by decide +kernel
theorem dX5_undo_11 : decode cX5_undo 11 = .ok (.dup, 1) := by decide +kernel
theorem dX5_undo_12 : decode cX5_undo 12 = .ok (.getfield 57, 3) := by decide +kernel
theorem dX5_undo_15 : decode cX5_undo 15 = .ok (.iconst 1, 1) := by decide +kernel
theorem dX5_undo_16 : decode cX5_undo 16 = .ok (.isub, 1) := by decide +kernel
theorem dX5_undo_17 : decode cX5_undo 17 = .ok (.putfield 57, 3) := by decide +kernel
theorem dX5_undo_20 : decode cX5_undo 20 = .ok (.aload_n 0, 1) := by decide +kernel
theorem dX5_undo_21 : decode cX5_undo 21 = .ok (.getfield 16, 3) := by decide +kernel
theorem dX5_undo_24 : decode cX5_undo 24 = .ok (.sipush 456, 3) := by decide +kernel
theorem dX5_undo_27 : decode cX5_undo 27 = .ok (.aload_n 0, 1) := by decide +kernel
theorem dX5_undo_28 : decode cX5_undo 28 = .ok (.getfield 57, 3) := by decide +kernel
theorem dX5_undo_31 : decode cX5_undo 31 = .ok (.imul, 1) := by decide +kernel
theorem dX5_undo_32 : decode cX5_undo 32 = .ok (.aload_n 0, 1) := by decide +kernel
theorem dX5_undo_33 : decode cX5_undo 33 = .ok (.getfield 7, 3) := by decide +kernel
theorem dX5_undo_36 : decode cX5_undo 36 = .ok (.iconst 0, 1) := by decide +kernel
theorem dX5_undo_37 : decode cX5_undo 37 = .ok (.invokestatic 61, 3) := by decide +kernel
theorem dX5_undo_40 : decode cX5_undo 40 = .ok (.aload_n 0, 1) := by decide +kernel
theorem dX5_undo_41 : decode cX5_undo 41 = .ok (.getfield 57, 3) := by decide +kernel
theorem dX5_undo_44 : decode cX5_undo 44 = .ok (.ireturn, 1) := by decide +kernel
theorem dX5_save_0 : decode cX5_save 0 = .ok (.iload_n 1, 1) := by decide +kernel
theorem dX5_save_1 : decode cX5_save 1 = .ok (.i2l, 1) := by decide +kernel
theorem dX5_save_2 : decode cX5_save 2 = .ok (.lconst 0, 1) := by decide +kernel
theorem dX5_save_3 : decode cX5_save 3 = .ok (.lconst 1, 1) := by decide +kernel
theorem dX5_save_4 : decode cX5_save 4 = .ok (.invokestatic 51, 3) := by decide +kernel
theorem dX5_save_7 : decode cX5_save 7 = .ok (.ifCond .ne 6, 3) := by decide +kernel
theorem dX5_save_10 : decode cX5_save 10 = .ok (.bipush (-2), 2) := by decide +kernel
theorem dX5_save_12 : decode cX5_save 12 = .ok (.ireturn, 1) := by decide +kernel
theorem dX5_save_13 : decode cX5_save 13 = .ok (.aload_n 0, 1) := by decide +kernel
theorem dX5_save_14 : decode cX5_save 14 = .ok (.getfield 7, 3) := by decide +kernel
theorem dX5_save_17 : decode cX5_save 17 = .ok (.iconst 0, 1) := by decide +kernel
theorem dX5_save_18 : decode cX5_save 18 = .ok (.aload_n 0, 1) := by decide +kernel
theorem dX5_save_19 : decode cX5_save 19 = .ok (.getfield 19, 3) := by decide +kernel
theorem dX5_save_22 : decode cX5_save 22 = .ok (.sipush 456, 3) := by decide +kernel
theorem dX5_save_25 : decode cX5_save 25 = .ok (.iload_n 1, 1) := by decide +kernel
theorem dX5_save_26 : decode cX5_save 26 = .ok (.imul, 1) := by decide +kernel
theorem dX5_save_27 : decode cX5_save 27 = .ok (.invokestatic 61, 3) := by decide +kernel
theorem dX5_save_30 : decode cX5_save 30 = .ok (.aload_n 0, 1) := by decide +kernel
theorem dX5_save_31 : decode cX5_save 31 = .ok (.getfield 22, 3) := by decide +kernel
theorem dX5_save_34 : decode cX5_save 34 = .ok (.iload_n 1, 1) := by decide +kernel
theorem dX5_save_35 : decode cX5_save 35 = .ok (.iconst 1, 1) := by decide +kernel
theorem dX5_save_36 : decode cX5_save 36 = .ok (.bastore, 1) := by decide +kernel
theorem dX5_save_37 : decode cX5_save 37 = .ok (.aload_n 0, 1) := by decide +kernel
theorem dX5_save_38 : decode cX5_save 38 = .ok (.getfield 7, 3) := by decide +kernel
theorem dX5_save_41 : decode cX5_save 41 = .ok (.iconst 0, 1) := by decide +kernel
theorem dX5_save_42 : decode cX5_save 42 = .ok (.laload, 1) := by decide +kernel
theorem dX5_save_43 : decode cX5_save 43 = .ok (.l2i, 1) := by decide +kernel
theorem dX5_save_44 : decode cX5_save 44 = .ok (.ireturn, 1) := by decide +kernel
theorem dX5_restore_0 : decode cX5_restore 0 = .ok (.iload_n 1, 1) := by decide +kernel
theorem dX5_restore_1 : decode cX5_restore 1 = .ok (.i2l, 1) := by decide +kernel
theorem dX5_restore_2 : decode cX5_restore 2 = .ok (.lconst 0, 1) := by decide +kernel
theorem dX5_restore_3 : decode cX5_restore 3 = .ok (.lconst 1, 1) := by decide +kernel
theorem dX5_restore_4 : decode cX5_restore 4 = .ok (.invokestatic 51, 3) := by decide +kernel
theorem dX5_restore_7 : decode cX5_restore 7 = .ok (.ifCond .ne 6, 3) := by decide +kernel
theorem dX5_restore_10 : decode cX5_restore 10 = .ok (.bipush (-2), 2) := by decide +kernel
theorem dX5_restore_12 : decode cX5_restore 12 = .ok (.ireturn, 1) := by decide +kernel
theorem dX5_restore_13 : decode cX5_restore 13 = .ok (.aload_n 0, 1) := by decide +kernel
theorem dX5_restore_14 : decode cX5_restore 14 = .ok (.getfield 22, 3) := by decide +kernel
theorem dX5_restore_17 : decode cX5_restore 17 = .ok (.iload_n 1, 1) := by decide +kernel
theorem dX5_restore_18 : decode cX5_restore 18 = .ok (.baload, 1) := by decide +kernel
theorem dX5_restore_19 : decode cX5_restore 19 = .ok (.ifCond .ne 6, 3) := by decide +kernel
theorem dX5_restore_22 : decode cX5_restore 22 = .ok (.bipush (-5), 2) := by decide +kernel
theorem dX5_restore_24 : decode cX5_restore 24 = .ok (.ireturn, 1) := by decide +kernel
theorem dX5_restore_25 : decode cX5_restore 25 = .ok (.aload_n 0, 1) := by decide +kernel
theorem dX5_restore_26 : decode cX5_restore 26 = .ok (.invokevirtual 65, 3) := by decide +kernel
theorem dX5_restore_29 : decode cX5_restore 29 = .ok (.aload_n 0, 1) := by decide +kernel
theorem dX5_restore_30 : decode cX5_restore 30 = .ok (.getfield 19, 3) := by decide +kernel
theorem dX5_restore_33 : decode cX5_restore 33 = .ok (.sipush 456, 3) := by decide +kernel
theorem dX5_restore_36 : decode cX5_restore 36 = .ok (.iload_n 1, 1) := by decide +kernel
theorem dX5_restore_37 : decode cX5_restore 37 = .ok (.imul, 1) := by decide +kernel
theorem dX5_restore_38 : decode cX5_restore 38 = .ok (.aload_n 0, 1) := by decide +kernel
theorem dX5_restore_39 : decode cX5_restore 39 = .ok (.getfield 7, 3) := by decide +kernel
theorem dX5_restore_42 : decode cX5_restore 42 = .ok (.iconst 0, 1) := by decide +kernel
theorem dX5_restore_43 : decode cX5_restore 43 = .ok (.invokestatic 61, 3) := by decide +kernel
theorem dX5_restore_46 : decode cX5_restore 46 = .ok (.aload_n 0, 1) := by decide +kernel
theorem dX5_restore_47 : decode cX5_restore 47 = .ok (.getfield 7, 3) := by decide +kernel
theorem dX5_restore_50 : decode cX5_restore 50 = .ok (.iconst 0, 1) := by decide +kernel
theorem dX5_restore_51 : decode cX5_restore 51 = .ok (.laload, 1) := by decide +kernel
theorem dX5_restore_52 : decode cX5_restore 52 = .ok (.l2i, 1) := by decide +kernel
theorem dX5_restore_53 : decode cX5_restore 53 = .ok (.ireturn, 1) := by decide +kernel
theorem dX5_hourOf_0 : decode cX5_hourOf 0 = .ok (.lload_n 2, 1) := by decide +kernel
theorem dX5_hourOf_1 : decode cX5_hourOf 1 = .ok (.lconst 0, 1) := by decide +kernel
theorem dX5_hourOf_2 : decode cX5_hourOf 2 = .ok (.lcmp, 1) := by decide +kernel
theorem dX5_hourOf_3 : decode cX5_hourOf 3 = .ok (.ifCond .lt 11, 3) := by decide +kernel
theorem dX5_hourOf_6 : decode cX5_hourOf 6 = .ok (.lload_n 2, 1) := by decide +kernel
theorem dX5_hourOf_7 : decode cX5_hourOf 7 = .ok (.ldc2_w 68, 3) := by decide +kernel
theorem dX5_hourOf_10 : decode cX5_hourOf 10 = .ok (.lcmp, 1) := by decide +kernel
theorem dX5_hourOf_11 : decode cX5_hourOf 11 = .ok (.ifCond .lt 7, 3) := by decide +kernel
theorem dX5_hourOf_14 : decode cX5_hourOf 14 = .ok (.iconst 0, 1) := by decide +kernel
theorem dX5_hourOf_15 : decode cX5_hourOf 15 = .ok (.goto 16, 3) := by decide +kernel
theorem dX5_hourOf_18 : decode cX5_hourOf 18 = .ok (.aload_n 0, 1) := by decide +kernel
theorem dX5_hourOf_19 : decode cX5_hourOf 19 = .ok (.bipush 56, 2) := by decide +kernel
theorem dX5_hourOf_21 : decode cX5_hourOf 21 = .ok (.bipush 100, 2) := by decide +kernel
theorem dX5_hourOf_23 : decode cX5_hourOf 23 = .ok (.iload_n 1, 1) := by decide +kernel
theorem dX5_hourOf_24 : decode cX5_hourOf 24 = .ok (.imul, 1) := by decide +kernel
theorem dX5_hourOf_25 : decode cX5_hourOf 25 = .ok (.iadd, 1) := by decide +kernel
theorem dX5_hourOf_26 : decode cX5_hourOf 26 = .ok (.lload_n 2, 1) := by decide +kernel
theorem dX5_hourOf_27 : decode cX5_hourOf 27 = .ok (.l2i, 1) := by decide +kernel
theorem dX5_hourOf_28 : decode cX5_hourOf 28 = .ok (.iadd, 1) := by decide +kernel
theorem dX5_hourOf_29 : decode cX5_hourOf 29 = .ok (.laload, 1) := by decide +kernel
theorem dX5_hourOf_30 : decode cX5_hourOf 30 = .ok (.l2i, 1) := by decide +kernel
theorem dX5_hourOf_31 : decode cX5_hourOf 31 = .ok (.ireturn, 1) := by decide +kernel
theorem dX5_isQuiet_0 : decode cX5_isQuiet 0 = .ok (.aload_n 0, 1) := by decide +kernel
theorem dX5_isQuiet_1 : decode cX5_isQuiet 1 = .ok (.iload_n 1, 1) := by decide +kernel
theorem dX5_isQuiet_2 : decode cX5_isQuiet 2 = .ok (.aload_n 0, 1) := by decide +kernel
theorem dX5_isQuiet_3 : decode cX5_isQuiet 3 = .ok (.iconst 0, 1) := by decide +kernel
theorem dX5_isQuiet_4 : decode cX5_isQuiet 4 = .ok (.laload, 1) := by decide +kernel
theorem dX5_isQuiet_5 : decode cX5_isQuiet 5 = .ok (.ldc2_w 33, 3) := by decide +kernel
theorem dX5_isQuiet_8 : decode cX5_isQuiet 8 = .ok (.ldiv, 1) := by decide +kernel
theorem dX5_isQuiet_9 : decode cX5_isQuiet 9 = .ok (.invokestatic 70, 3) := by decide +kernel
theorem dX5_isQuiet_12 : decode cX5_isQuiet 12 = .ok (.ifCond .le 7, 3) := by decide +kernel
theorem dX5_isQuiet_15 : decode cX5_isQuiet 15 = .ok (.iconst 1, 1) := by decide +kernel
theorem dX5_isQuiet_16 : decode cX5_isQuiet 16 = .ok (.goto 4, 3) := by decide +kernel
theorem dX5_isQuiet_19 : decode cX5_isQuiet 19 = .ok (.iconst 0, 1) := by decide +kernel
theorem dX5_isQuiet_20 : decode cX5_isQuiet 20 = .ok (.ireturn, 1) := by decide +kernel
theorem dX5_moves_0 : decode cX5_moves 0 = .ok (.aload_n 0, 1) := by decide +kernel
theorem dX5_moves_1 : decode cX5_moves 1 = .ok (.iload_n 1, 1) := by decide +kernel
theorem dX5_moves_2 : decode cX5_moves 2 = .ok (.dup2, 1) := by decide +kernel
theorem dX5_moves_3 : decode cX5_moves 3 = .ok (.laload, 1) := by decide +kernel
theorem dX5_moves_4 : decode cX5_moves 4 = .ok (.lload_n 3, 1) := by decide +kernel
theorem dX5_moves_5 : decode cX5_moves 5 = .ok (.lsub, 1) := by decide +kernel
theorem dX5_moves_6 : decode cX5_moves 6 = .ok (.lastore, 1) := by decide +kernel
theorem dX5_moves_7 : decode cX5_moves 7 = .ok (.aload_n 0, 1) := by decide +kernel
theorem dX5_moves_8 : decode cX5_moves 8 = .ok (.iload_n 2, 1) := by decide +kernel
theorem dX5_moves_9 : decode cX5_moves 9 = .ok (.dup2, 1) := by decide +kernel
theorem dX5_moves_10 : decode cX5_moves 10 = .ok (.laload, 1) := by decide +kernel
theorem dX5_moves_11 : decode cX5_moves 11 = .ok (.lload_n 3, 1) := by decide +kernel
theorem dX5_moves_12 : decode cX5_moves 12 = .ok (.ladd, 1) := by decide +kernel
theorem dX5_moves_13 : decode cX5_moves 13 = .ok (.lastore, 1) := by decide +kernel
theorem dX5_moves_14 : decode cX5_moves 14 = .ok (.return_, 1) := by decide +kernel
theorem dX5_least_0 : decode cX5_least 0 = .ok (.lload_n 0, 1) := by decide +kernel
theorem dX5_least_1 : decode cX5_least 1 = .ok (.lload_n 2, 1) := by decide +kernel
theorem dX5_least_2 : decode cX5_least 2 = .ok (.lcmp, 1) := by decide +kernel
theorem dX5_least_3 : decode cX5_least 3 = .ok (.ifCond .ge 7, 3) := by decide +kernel
theorem dX5_least_6 : decode cX5_least 6 = .ok (.lload_n 0, 1) := by decide +kernel
theorem dX5_least_7 : decode cX5_least 7 = .ok (.goto 4, 3) := by decide +kernel
theorem dX5_least_10 : decode cX5_least 10 = .ok (.lload_n 2, 1) := by decide +kernel
theorem dX5_least_11 : decode cX5_least 11 = .ok (.lreturn, 1) := by decide +kernel
theorem dX5_turns_0 : decode cX5_turns 0 = .ok (.aload_n 0, 1) := by decide +kernel
theorem dX5_turns_1 : decode cX5_turns 1 = .ok (.iconst 0, 1) := by decide +kernel
theorem dX5_turns_2 : decode cX5_turns 2 = .ok (.laload, 1) := by decide +kernel
theorem dX5_turns_3 : decode cX5_turns 3 = .ok (.ldc2_w 33, 3) := by decide +kernel
theorem dX5_turns_6 : decode cX5_turns 6 = .ok (.ldiv, 1) := by decide +kernel
theorem dX5_turns_7 : decode cX5_turns 7 = .ok (.lstore_n 2, 1) := by decide +kernel
theorem dX5_turns_8 : decode cX5_turns 8 = .ok (.aload_n 0, 1) := by decide +kernel
theorem dX5_turns_9 : decode cX5_turns 9 = .ok (.iload_n 1, 1) := by decide +kernel
theorem dX5_turns_10 : decode cX5_turns 10 = .ok (.lload_n 2, 1) := by decide +kernel
theorem dX5_turns_11 : decode cX5_turns 11 = .ok (.lconst 1, 1) := by decide +kernel
theorem dX5_turns_12 : decode cX5_turns 12 = .ok (.lsub, 1) := by decide +kernel
theorem dX5_turns_13 : decode cX5_turns 13 = .ok (.invokestatic 70, 3) := by decide +kernel
theorem dX5_turns_16 : decode cX5_turns 16 = .ok (.iconst 1, 1) := by decide +kernel
theorem dX5_turns_17 : decode cX5_turns 17 = .ok (.if_icmp .ne 30, 3) := by decide +kernel
theorem dX5_turns_20 : decode cX5_turns 20 = .ok (.aload_n 0, 1) := by decide +kernel
theorem dX5_turns_21 : decode cX5_turns 21 = .ok (.bipush 56, 2) := by decide +kernel
theorem dX5_turns_23 : decode cX5_turns 23 = .ok (.bipush 100, 2) := by decide +kernel
theorem dX5_turns_25 : decode cX5_turns 25 = .ok (.iload_n 1, 1) := by decide +kernel
theorem dX5_turns_26 : decode cX5_turns 26 = .ok (.imul, 1) := by decide +kernel
theorem dX5_turns_27 : decode cX5_turns 27 = .ok (.iadd, 1) := by decide +kernel
theorem dX5_turns_28 : decode cX5_turns 28 = .ok (.lload_n 2, 1) := by decide +kernel
theorem dX5_turns_29 : decode cX5_turns 29 = .ok (.l2i, 1) := by decide +kernel
theorem dX5_turns_30 : decode cX5_turns 30 = .ok (.iadd, 1) := by decide +kernel
theorem dX5_turns_31 : decode cX5_turns 31 = .ok (.iconst 1, 1) := by decide +kernel
theorem dX5_turns_32 : decode cX5_turns 32 = .ok (.isub, 1) := by decide +kernel
theorem dX5_turns_33 : decode cX5_turns 33 = .ok (.ldc2_w 37, 3) := by decide +kernel
theorem dX5_turns_36 : decode cX5_turns 36 = .ok (.lastore, 1) := by decide +kernel
theorem dX5_turns_37 : decode cX5_turns 37 = .ok (.aload_n 0, 1) := by decide +kernel
theorem dX5_turns_38 : decode cX5_turns 38 = .ok (.iconst 3, 1) := by decide +kernel
theorem dX5_turns_39 : decode cX5_turns 39 = .ok (.dup2, 1) := by decide +kernel
theorem dX5_turns_40 : decode cX5_turns 40 = .ok (.laload, 1) := by decide +kernel
theorem dX5_turns_41 : decode cX5_turns 41 = .ok (.aload_n 0, 1) := by decide +kernel
theorem dX5_turns_42 : decode cX5_turns 42 = .ok (.bipush 7, 2) := by decide +kernel
theorem dX5_turns_44 : decode cX5_turns 44 = .ok (.laload, 1) := by decide +kernel
theorem dX5_turns_45 : decode cX5_turns 45 = .ok (.ladd, 1) := by decide +kernel
theorem dX5_turns_46 : decode cX5_turns 46 = .ok (.lastore, 1) := by decide +kernel
theorem dX5_turns_47 : decode cX5_turns 47 = .ok (.aload_n 0, 1) := by decide +kernel
theorem dX5_turns_48 : decode cX5_turns 48 = .ok (.iconst 1, 1) := by decide +kernel
theorem dX5_turns_49 : decode cX5_turns 49 = .ok (.dup2, 1) := by decide +kernel
theorem dX5_turns_50 : decode cX5_turns 50 = .ok (.laload, 1) := by decide +kernel
theorem dX5_turns_51 : decode cX5_turns 51 = .ok (.aload_n 0, 1) := by decide +kernel
theorem dX5_turns_52 : decode cX5_turns 52 = .ok (.iload_n 1, 1) := by decide +kernel
theorem dX5_turns_53 : decode cX5_turns 53 = .ok (.lload_n 2, 1) := by decide +kernel
theorem dX5_turns_54 : decode cX5_turns 54 = .ok (.invokestatic 70, 3) := by decide +kernel
theorem dX5_turns_57 : decode cX5_turns 57 = .ok (.iconst 1, 1) := by decide +kernel
theorem dX5_turns_58 : decode cX5_turns 58 = .ok (.if_icmp .ne 9, 3) := by decide +kernel
theorem dX5_turns_61 : decode cX5_turns 61 = .ok (.aload_n 0, 1) := by decide +kernel
theorem dX5_turns_62 : decode cX5_turns 62 = .ok (.iconst 5, 1) := by decide +kernel
theorem dX5_turns_63 : decode cX5_turns 63 = .ok (.laload, 1) := by decide +kernel
theorem dX5_turns_64 : decode cX5_turns 64 = .ok (.goto 4, 3) := by decide +kernel
theorem dX5_turns_67 : decode cX5_turns 67 = .ok (.lconst 0, 1) := by decide +kernel
theorem dX5_turns_68 : decode cX5_turns 68 = .ok (.ladd, 1) := by decide +kernel
theorem dX5_turns_69 : decode cX5_turns 69 = .ok (.lastore, 1) := by decide +kernel
theorem dX5_turns_70 : decode cX5_turns 70 = .ok (.return_, 1) := by decide +kernel
theorem dX5_writes_0 : decode cX5_writes 0 = .ok (.iload_n 1, 1) := by decide +kernel
theorem dX5_writes_1 : decode cX5_writes 1 = .ok (.invokestatic 45, 3) := by decide +kernel
theorem dX5_writes_4 : decode cX5_writes 4 = .ok (.istore_n 3, 1) := by decide +kernel
theorem dX5_writes_5 : decode cX5_writes 5 = .ok (.iload_n 1, 1) := by decide +kernel
theorem dX5_writes_6 : decode cX5_writes 6 = .ok (.iconst 1, 1) := by decide +kernel
theorem dX5_writes_7 : decode cX5_writes 7 = .ok (.ixor, 1) := by decide +kernel
theorem dX5_writes_8 : decode cX5_writes 8 = .ok (.invokestatic 45, 3) := by decide +kernel
theorem dX5_writes_11 : decode cX5_writes 11 = .ok (.istore 4, 2) := by decide +kernel
theorem dX5_writes_13 : decode cX5_writes 13 = .ok (.iload_n 2, 1) := by decide +kernel
theorem dX5_writes_14 : decode cX5_writes 14 = .ok (.ifCond .ne 55, 3) := by decide +kernel
theorem dX5_writes_17 : decode cX5_writes 17 = .ok (.aload_n 0, 1) := by decide +kernel
theorem dX5_writes_18 : decode cX5_writes 18 = .ok (.iload 4, 2) := by decide +kernel
theorem dX5_writes_20 : decode cX5_writes 20 = .ok (.iconst 2, 1) := by decide +kernel
theorem dX5_writes_21 : decode cX5_writes 21 = .ok (.iadd, 1) := by decide +kernel
theorem dX5_writes_22 : decode cX5_writes 22 = .ok (.laload, 1) := by decide +kernel
theorem dX5_writes_23 : decode cX5_writes 23 = .ok (.aload_n 0, 1) := by decide +kernel
theorem dX5_writes_24 : decode cX5_writes 24 = .ok (.iload_n 3, 1) := by decide +kernel
theorem dX5_writes_25 : decode cX5_writes 25 = .ok (.iconst 0, 1) := by decide +kernel
theorem dX5_writes_26 : decode cX5_writes 26 = .ok (.iadd, 1) := by decide +kernel
theorem dX5_writes_27 : decode cX5_writes 27 = .ok (.laload, 1) := by decide +kernel
theorem dX5_writes_28 : decode cX5_writes 28 = .ok (.invokestatic 74, 3) := by decide +kernel
theorem dX5_writes_31 : decode cX5_writes 31 = .ok (.lstore 5, 2) := by decide +kernel
theorem dX5_writes_33 : decode cX5_writes 33 = .ok (.aload_n 0, 1) := by decide +kernel
theorem dX5_writes_34 : decode cX5_writes 34 = .ok (.iload 4, 2) := by decide +kernel
theorem dX5_writes_36 : decode cX5_writes 36 = .ok (.iconst 2, 1) := by decide +kernel
theorem dX5_writes_37 : decode cX5_writes 37 = .ok (.iadd, 1) := by decide +kernel
theorem dX5_writes_38 : decode cX5_writes 38 = .ok (.iload 4, 2) := by decide +kernel
theorem dX5_writes_40 : decode cX5_writes 40 = .ok (.iconst 1, 1) := by decide +kernel
theorem dX5_writes_41 : decode cX5_writes 41 = .ok (.iadd, 1) := by decide +kernel
theorem dX5_writes_42 : decode cX5_writes 42 = .ok (.lload 5, 2) := by decide +kernel
theorem dX5_writes_44 : decode cX5_writes 44 = .ok (.invokestatic 78, 3) := by decide +kernel
theorem dX5_writes_47 : decode cX5_writes 47 = .ok (.aload_n 0, 1) := by decide +kernel
theorem dX5_writes_48 : decode cX5_writes 48 = .ok (.iload_n 3, 1) := by decide +kernel
theorem dX5_writes_49 : decode cX5_writes 49 = .ok (.iconst 0, 1) := by decide +kernel
theorem dX5_writes_50 : decode cX5_writes 50 = .ok (.iadd, 1) := by decide +kernel
theorem dX5_writes_51 : decode cX5_writes 51 = .ok (.iload_n 3, 1) := by decide +kernel
theorem dX5_writes_52 : decode cX5_writes 52 = .ok (.iconst 1, 1) := by decide +kernel
theorem dX5_writes_53 : decode cX5_writes 53 = .ok (.iadd, 1) := by decide +kernel
theorem dX5_writes_54 : decode cX5_writes 54 = .ok (.lload 5, 2) := by decide +kernel
theorem dX5_writes_56 : decode cX5_writes 56 = .ok (.invokestatic 78, 3) := by decide +kernel
theorem dX5_writes_59 : decode cX5_writes 59 = .ok (.aload_n 0, 1) := by decide +kernel
theorem dX5_writes_60 : decode cX5_writes 60 = .ok (.iload_n 3, 1) := by decide +kernel
theorem dX5_writes_61 : decode cX5_writes 61 = .ok (.iconst 5, 1) := by decide +kernel
theorem dX5_writes_62 : decode cX5_writes 62 = .ok (.iadd, 1) := by decide +kernel
theorem dX5_writes_63 : decode cX5_writes 63 = .ok (.dup2, 1) := by decide +kernel
theorem dX5_writes_64 : decode cX5_writes 64 = .ok (.laload, 1) := by decide +kernel
theorem dX5_writes_65 : decode cX5_writes 65 = .ok (.lload 5, 2) := by decide +kernel
theorem dX5_writes_67 : decode cX5_writes 67 = .ok (.ladd, 1) := by decide +kernel
theorem dX5_writes_68 : decode cX5_writes 68 = .ok (.lastore, 1) := by decide +kernel
theorem dX5_writes_69 : decode cX5_writes 69 = .ok (.aload_n 0, 1) := by decide +kernel
theorem dX5_writes_70 : decode cX5_writes 70 = .ok (.iload_n 3, 1) := by decide +kernel
theorem dX5_writes_71 : decode cX5_writes 71 = .ok (.iconst 3, 1) := by decide +kernel
theorem dX5_writes_72 : decode cX5_writes 72 = .ok (.iadd, 1) := by decide +kernel
theorem dX5_writes_73 : decode cX5_writes 73 = .ok (.laload, 1) := by decide +kernel
theorem dX5_writes_74 : decode cX5_writes 74 = .ok (.aload_n 0, 1) := by decide +kernel
theorem dX5_writes_75 : decode cX5_writes 75 = .ok (.iload_n 3, 1) := by decide +kernel
theorem dX5_writes_76 : decode cX5_writes 76 = .ok (.iconst 0, 1) := by decide +kernel
theorem dX5_writes_77 : decode cX5_writes 77 = .ok (.iadd, 1) := by decide +kernel
theorem dX5_writes_78 : decode cX5_writes 78 = .ok (.laload, 1) := by decide +kernel
theorem dX5_writes_79 : decode cX5_writes 79 = .ok (.invokestatic 74, 3) := by decide +kernel
theorem dX5_writes_82 : decode cX5_writes 82 = .ok (.lstore 5, 2) := by decide +kernel
theorem dX5_writes_84 : decode cX5_writes 84 = .ok (.aload_n 0, 1) := by decide +kernel
theorem dX5_writes_85 : decode cX5_writes 85 = .ok (.iload_n 3, 1) := by decide +kernel
theorem dX5_writes_86 : decode cX5_writes 86 = .ok (.iconst 0, 1) := by decide +kernel
theorem dX5_writes_87 : decode cX5_writes 87 = .ok (.iadd, 1) := by decide +kernel
theorem dX5_writes_88 : decode cX5_writes 88 = .ok (.iload_n 3, 1) := by decide +kernel
theorem dX5_writes_89 : decode cX5_writes 89 = .ok (.iconst 1, 1) := by decide +kernel
theorem dX5_writes_90 : decode cX5_writes 90 = .ok (.iadd, 1) := by decide +kernel
theorem dX5_writes_91 : decode cX5_writes 91 = .ok (.lload 5, 2) := by decide +kernel
theorem dX5_writes_93 : decode cX5_writes 93 = .ok (.invokestatic 78, 3) := by decide +kernel
theorem dX5_writes_96 : decode cX5_writes 96 = .ok (.aload_n 0, 1) := by decide +kernel
theorem dX5_writes_97 : decode cX5_writes 97 = .ok (.iload_n 3, 1) := by decide +kernel
theorem dX5_writes_98 : decode cX5_writes 98 = .ok (.iconst 3, 1) := by decide +kernel
theorem dX5_writes_99 : decode cX5_writes 99 = .ok (.iadd, 1) := by decide +kernel
theorem dX5_writes_100 : decode cX5_writes 100 = .ok (.iload_n 3, 1) := by decide +kernel
theorem dX5_writes_101 : decode cX5_writes 101 = .ok (.iconst 5, 1) := by decide +kernel
theorem dX5_writes_102 : decode cX5_writes 102 = .ok (.iadd, 1) := by decide +kernel
theorem dX5_writes_103 : decode cX5_writes 103 = .ok (.lload 5, 2) := by decide +kernel
theorem dX5_writes_105 : decode cX5_writes 105 = .ok (.invokestatic 78, 3) := by decide +kernel
theorem dX5_writes_108 : decode cX5_writes 108 = .ok (.aload_n 0, 1) := by decide +kernel
theorem dX5_writes_109 : decode cX5_writes 109 = .ok (.iload_n 3, 1) := by decide +kernel
theorem dX5_writes_110 : decode cX5_writes 110 = .ok (.iconst 3, 1) := by decide +kernel
theorem dX5_writes_111 : decode cX5_writes 111 = .ok (.iadd, 1) := by decide +kernel
theorem dX5_writes_112 : decode cX5_writes 112 = .ok (.laload, 1) := by decide +kernel
theorem dX5_writes_113 : decode cX5_writes 113 = .ok (.aload_n 0, 1) := by decide +kernel
theorem dX5_writes_114 : decode cX5_writes 114 = .ok (.bipush 11, 2) := by decide +kernel
theorem dX5_writes_116 : decode cX5_writes 116 = .ok (.laload, 1) := by decide +kernel
theorem dX5_writes_117 : decode cX5_writes 117 = .ok (.lsub, 1) := by decide +kernel
theorem dX5_writes_118 : decode cX5_writes 118 = .ok (.lstore 7, 2) := by decide +kernel
theorem dX5_writes_120 : decode cX5_writes 120 = .ok (.iload_n 2, 1) := by decide +kernel
theorem dX5_writes_121 : decode cX5_writes 121 = .ok (.ifCond .eq 57, 3) := by decide +kernel
theorem dX5_writes_124 : decode cX5_writes 124 = .ok (.lload 7, 2) := by decide +kernel
theorem dX5_writes_126 : decode cX5_writes 126 = .ok (.lconst 0, 1) := by decide +kernel
theorem dX5_writes_127 : decode cX5_writes 127 = .ok (.lcmp, 1) := by decide +kernel
theorem dX5_writes_128 : decode cX5_writes 128 = .ok (.ifCond .le 50, 3) := by decide +kernel
theorem dX5_writes_131 : decode cX5_writes 131 = .ok (.aload_n 0, 1) := by decide +kernel
theorem dX5_writes_132 : decode cX5_writes 132 = .ok (.iload_n 1, 1) := by decide +kernel
theorem dX5_writes_133 : decode cX5_writes 133 = .ok (.iconst 1, 1) := by decide +kernel
theorem dX5_writes_134 : decode cX5_writes 134 = .ok (.ixor, 1) := by decide +kernel
theorem dX5_writes_135 : decode cX5_writes 135 = .ok (.invokestatic 82, 3) := by decide +kernel
theorem dX5_writes_138 : decode cX5_writes 138 = .ok (.ifCond .ne 40, 3) := by decide +kernel
theorem dX5_writes_141 : decode cX5_writes 141 = .ok (.lload 7, 2) := by decide +kernel
theorem dX5_writes_143 : decode cX5_writes 143 = .ok (.aload_n 0, 1) := by decide +kernel
theorem dX5_writes_144 : decode cX5_writes 144 = .ok (.iload 4, 2) := by decide +kernel
theorem dX5_writes_146 : decode cX5_writes 146 = .ok (.iconst 0, 1) := by decide +kernel
theorem dX5_writes_147 : decode cX5_writes 147 = .ok (.iadd, 1) := by decide +kernel
theorem dX5_writes_148 : decode cX5_writes 148 = .ok (.laload, 1) := by decide +kernel
theorem dX5_writes_149 : decode cX5_writes 149 = .ok (.invokestatic 74, 3) := by decide +kernel
theorem dX5_writes_152 : decode cX5_writes 152 = .ok (.lstore 9, 2) := by decide +kernel
theorem dX5_writes_154 : decode cX5_writes 154 = .ok (.aload_n 0, 1) := by decide +kernel
theorem dX5_writes_155 : decode cX5_writes 155 = .ok (.iload 4, 2) := by decide +kernel
theorem dX5_writes_157 : decode cX5_writes 157 = .ok (.iconst 0, 1) := by decide +kernel
theorem dX5_writes_158 : decode cX5_writes 158 = .ok (.iadd, 1) := by decide +kernel
theorem dX5_writes_159 : decode cX5_writes 159 = .ok (.iload 4, 2) := by decide +kernel
theorem dX5_writes_161 : decode cX5_writes 161 = .ok (.iconst 2, 1) := by decide +kernel
theorem dX5_writes_162 : decode cX5_writes 162 = .ok (.iadd, 1) := by decide +kernel
theorem dX5_writes_163 : decode cX5_writes 163 = .ok (.lload 9, 2) := by decide +kernel
theorem dX5_writes_165 : decode cX5_writes 165 = .ok (.invokestatic 78, 3) := by decide +kernel
theorem dX5_writes_168 : decode cX5_writes 168 = .ok (.aload_n 0, 1) := by decide +kernel
theorem dX5_writes_169 : decode cX5_writes 169 = .ok (.iload_n 3, 1) := by decide +kernel
theorem dX5_writes_170 : decode cX5_writes 170 = .ok (.iconst 3, 1) := by decide +kernel
theorem dX5_writes_171 : decode cX5_writes 171 = .ok (.iadd, 1) := by decide +kernel
theorem dX5_writes_172 : decode cX5_writes 172 = .ok (.dup2, 1) := by decide +kernel
theorem dX5_writes_173 : decode cX5_writes 173 = .ok (.laload, 1) := by decide +kernel
theorem dX5_writes_174 : decode cX5_writes 174 = .ok (.lload 9, 2) := by decide +kernel
theorem dX5_writes_176 : decode cX5_writes 176 = .ok (.lsub, 1) := by decide +kernel
theorem dX5_writes_177 : decode cX5_writes 177 = .ok (.lastore, 1) := by decide +kernel
theorem dX5_writes_178 : decode cX5_writes 178 = .ok (.return_, 1) := by decide +kernel
theorem dX5_cleans_0 : decode cX5_cleans 0 = .ok (.iload_n 1, 1) := by decide +kernel
theorem dX5_cleans_1 : decode cX5_cleans 1 = .ok (.invokestatic 45, 3) := by decide +kernel
theorem dX5_cleans_4 : decode cX5_cleans 4 = .ok (.istore_n 3, 1) := by decide +kernel
theorem dX5_cleans_5 : decode cX5_cleans 5 = .ok (.iload_n 2, 1) := by decide +kernel
theorem dX5_cleans_6 : decode cX5_cleans 6 = .ok (.ifCond .eq 24, 3) := by decide +kernel
theorem dX5_cleans_9 : decode cX5_cleans 9 = .ok (.aload_n 0, 1) := by decide +kernel
theorem dX5_cleans_10 : decode cX5_cleans 10 = .ok (.iload_n 3, 1) := by decide +kernel
theorem dX5_cleans_11 : decode cX5_cleans 11 = .ok (.iconst 3, 1) := by decide +kernel
theorem dX5_cleans_12 : decode cX5_cleans 12 = .ok (.iadd, 1) := by decide +kernel
theorem dX5_cleans_13 : decode cX5_cleans 13 = .ok (.laload, 1) := by decide +kernel
theorem dX5_cleans_14 : decode cX5_cleans 14 = .ok (.aload_n 0, 1) := by decide +kernel
theorem dX5_cleans_15 : decode cX5_cleans 15 = .ok (.bipush 11, 2) := by decide +kernel
theorem dX5_cleans_17 : decode cX5_cleans 17 = .ok (.laload, 1) := by decide +kernel
theorem dX5_cleans_18 : decode cX5_cleans 18 = .ok (.lcmp, 1) := by decide +kernel
theorem dX5_cleans_19 : decode cX5_cleans 19 = .ok (.ifCond .le 7, 3) := by decide +kernel
theorem dX5_cleans_22 : decode cX5_cleans 22 = .ok (.iconst 1, 1) := by decide +kernel
theorem dX5_cleans_23 : decode cX5_cleans 23 = .ok (.goto 35, 3) := by decide +kernel
theorem dX5_cleans_26 : decode cX5_cleans 26 = .ok (.iconst 0, 1) := by decide +kernel
theorem dX5_cleans_27 : decode cX5_cleans 27 = .ok (.goto 31, 3) := by decide +kernel
theorem dX5_cleans_30 : decode cX5_cleans 30 = .ok (.aload_n 0, 1) := by decide +kernel
theorem dX5_cleans_31 : decode cX5_cleans 31 = .ok (.iload_n 3, 1) := by decide +kernel
theorem dX5_cleans_32 : decode cX5_cleans 32 = .ok (.iconst 4, 1) := by decide +kernel
theorem dX5_cleans_33 : decode cX5_cleans 33 = .ok (.iadd, 1) := by decide +kernel
theorem dX5_cleans_34 : decode cX5_cleans 34 = .ok (.laload, 1) := by decide +kernel
theorem dX5_cleans_35 : decode cX5_cleans 35 = .ok (.lconst 1, 1) := by decide +kernel
theorem dX5_cleans_36 : decode cX5_cleans 36 = .ok (.lcmp, 1) := by decide +kernel
theorem dX5_cleans_37 : decode cX5_cleans 37 = .ok (.ifCond .eq 16, 3) := by decide +kernel
theorem dX5_cleans_40 : decode cX5_cleans 40 = .ok (.aload_n 0, 1) := by decide +kernel
theorem dX5_cleans_41 : decode cX5_cleans 41 = .ok (.iload_n 3, 1) := by decide +kernel
theorem dX5_cleans_42 : decode cX5_cleans 42 = .ok (.iconst 0, 1) := by decide +kernel
theorem dX5_cleans_43 : decode cX5_cleans 43 = .ok (.iadd, 1) := by decide +kernel
theorem dX5_cleans_44 : decode cX5_cleans 44 = .ok (.laload, 1) := by decide +kernel
theorem dX5_cleans_45 : decode cX5_cleans 45 = .ok (.aload_n 0, 1) := by decide +kernel
theorem dX5_cleans_46 : decode cX5_cleans 46 = .ok (.bipush 8, 2) := by decide +kernel
theorem dX5_cleans_48 : decode cX5_cleans 48 = .ok (.laload, 1) := by decide +kernel
theorem dX5_cleans_49 : decode cX5_cleans 49 = .ok (.lcmp, 1) := by decide +kernel
theorem dX5_cleans_50 : decode cX5_cleans 50 = .ok (.ifCond .ge 7, 3) := by decide +kernel
theorem dX5_cleans_53 : decode cX5_cleans 53 = .ok (.iconst 1, 1) := by decide +kernel
theorem dX5_cleans_54 : decode cX5_cleans 54 = .ok (.goto 4, 3) := by decide +kernel
theorem dX5_cleans_57 : decode cX5_cleans 57 = .ok (.iconst 0, 1) := by decide +kernel
theorem dX5_cleans_58 : decode cX5_cleans 58 = .ok (.istore 4, 2) := by decide +kernel
theorem dX5_cleans_60 : decode cX5_cleans 60 = .ok (.iload 4, 2) := by decide +kernel
theorem dX5_cleans_62 : decode cX5_cleans 62 = .ok (.ifCond .eq 17, 3) := by decide +kernel
theorem dX5_cleans_65 : decode cX5_cleans 65 = .ok (.aload_n 0, 1) := by decide +kernel
theorem dX5_cleans_66 : decode cX5_cleans 66 = .ok (.iload_n 3, 1) := by decide +kernel
theorem dX5_cleans_67 : decode cX5_cleans 67 = .ok (.iconst 1, 1) := by decide +kernel
theorem dX5_cleans_68 : decode cX5_cleans 68 = .ok (.iadd, 1) := by decide +kernel
theorem dX5_cleans_69 : decode cX5_cleans 69 = .ok (.laload, 1) := by decide +kernel
theorem dX5_cleans_70 : decode cX5_cleans 70 = .ok (.lconst 0, 1) := by decide +kernel
theorem dX5_cleans_71 : decode cX5_cleans 71 = .ok (.lcmp, 1) := by decide +kernel
theorem dX5_cleans_72 : decode cX5_cleans 72 = .ok (.ifCond .le 7, 3) := by decide +kernel
theorem dX5_cleans_75 : decode cX5_cleans 75 = .ok (.iconst 1, 1) := by decide +kernel
theorem dX5_cleans_76 : decode cX5_cleans 76 = .ok (.goto 4, 3) := by decide +kernel
theorem dX5_cleans_79 : decode cX5_cleans 79 = .ok (.iconst 0, 1) := by decide +kernel
theorem dX5_cleans_80 : decode cX5_cleans 80 = .ok (.istore 5, 2) := by decide +kernel
theorem dX5_cleans_82 : decode cX5_cleans 82 = .ok (.iload 5, 2) := by decide +kernel
theorem dX5_cleans_84 : decode cX5_cleans 84 = .ok (.ifCond .eq 35, 3) := by decide +kernel
theorem dX5_cleans_87 : decode cX5_cleans 87 = .ok (.aload_n 0, 1) := by decide +kernel
theorem dX5_cleans_88 : decode cX5_cleans 88 = .ok (.iload_n 3, 1) := by decide +kernel
theorem dX5_cleans_89 : decode cX5_cleans 89 = .ok (.iconst 1, 1) := by decide +kernel
theorem dX5_cleans_90 : decode cX5_cleans 90 = .ok (.iadd, 1) := by decide +kernel
theorem dX5_cleans_91 : decode cX5_cleans 91 = .ok (.iload_n 3, 1) := by decide +kernel
theorem dX5_cleans_92 : decode cX5_cleans 92 = .ok (.iconst 0, 1) := by decide +kernel
theorem dX5_cleans_93 : decode cX5_cleans 93 = .ok (.iadd, 1) := by decide +kernel
theorem dX5_cleans_94 : decode cX5_cleans 94 = .ok (.aload_n 0, 1) := by decide +kernel
theorem dX5_cleans_95 : decode cX5_cleans 95 = .ok (.bipush 10, 2) := by decide +kernel
theorem dX5_cleans_97 : decode cX5_cleans 97 = .ok (.laload, 1) := by decide +kernel
theorem dX5_cleans_98 : decode cX5_cleans 98 = .ok (.aload_n 0, 1) := by decide +kernel
theorem dX5_cleans_99 : decode cX5_cleans 99 = .ok (.iload_n 3, 1) := by decide +kernel
theorem dX5_cleans_100 : decode cX5_cleans 100 = .ok (.iconst 1, 1) := by decide +kernel
theorem dX5_cleans_101 : decode cX5_cleans 101 = .ok (.iadd, 1) := by decide +kernel
theorem dX5_cleans_102 : decode cX5_cleans 102 = .ok (.laload, 1) := by decide +kernel
theorem dX5_cleans_103 : decode cX5_cleans 103 = .ok (.invokestatic 74, 3) := by decide +kernel
theorem dX5_cleans_106 : decode cX5_cleans 106 = .ok (.invokestatic 78, 3) := by decide +kernel
theorem dX5_cleans_109 : decode cX5_cleans 109 = .ok (.aload_n 0, 1) := by decide +kernel
theorem dX5_cleans_110 : decode cX5_cleans 110 = .ok (.iload_n 3, 1) := by decide +kernel
theorem dX5_cleans_111 : decode cX5_cleans 111 = .ok (.bipush 6, 2) := by decide +kernel
theorem dX5_cleans_113 : decode cX5_cleans 113 = .ok (.iadd, 1) := by decide +kernel
theorem dX5_cleans_114 : decode cX5_cleans 114 = .ok (.dup2, 1) := by decide +kernel
theorem dX5_cleans_115 : decode cX5_cleans 115 = .ok (.laload, 1) := by decide +kernel
theorem dX5_cleans_116 : decode cX5_cleans 116 = .ok (.lconst 1, 1) := by decide +kernel
theorem dX5_cleans_117 : decode cX5_cleans 117 = .ok (.ladd, 1) := by decide +kernel
theorem dX5_cleans_118 : decode cX5_cleans 118 = .ok (.lastore, 1) := by decide +kernel
theorem dX5_cleans_119 : decode cX5_cleans 119 = .ok (.iload 5, 2) := by decide +kernel
theorem dX5_cleans_121 : decode cX5_cleans 121 = .ok (.ifCond .eq 104, 3) := by decide +kernel
theorem dX5_cleans_124 : decode cX5_cleans 124 = .ok (.iload_n 2, 1) := by decide +kernel
theorem dX5_cleans_125 : decode cX5_cleans 125 = .ok (.ifCond .eq 100, 3) := by decide +kernel
theorem dX5_cleans_128 : decode cX5_cleans 128 = .ok (.aload_n 0, 1) := by decide +kernel
theorem dX5_cleans_129 : decode cX5_cleans 129 = .ok (.iload_n 3, 1) := by decide +kernel
theorem dX5_cleans_130 : decode cX5_cleans 130 = .ok (.bipush 7, 2) := by decide +kernel
theorem dX5_cleans_132 : decode cX5_cleans 132 = .ok (.iadd, 1) := by decide +kernel
theorem dX5_cleans_133 : decode cX5_cleans 133 = .ok (.dup2, 1) := by decide +kernel
theorem dX5_cleans_134 : decode cX5_cleans 134 = .ok (.laload, 1) := by decide +kernel
theorem dX5_cleans_135 : decode cX5_cleans 135 = .ok (.lconst 1, 1) := by decide +kernel
theorem dX5_cleans_136 : decode cX5_cleans 136 = .ok (.ladd, 1) := by decide +kernel
theorem dX5_cleans_137 : decode cX5_cleans 137 = .ok (.lastore, 1) := by decide +kernel
theorem dX5_cleans_138 : decode cX5_cleans 138 = .ok (.aload_n 0, 1) := by decide +kernel
theorem dX5_cleans_139 : decode cX5_cleans 139 = .ok (.bipush 56, 2) := by decide +kernel
theorem dX5_cleans_141 : decode cX5_cleans 141 = .ok (.bipush 100, 2) := by decide +kernel
theorem dX5_cleans_143 : decode cX5_cleans 143 = .ok (.iload_n 1, 1) := by decide +kernel
theorem dX5_cleans_144 : decode cX5_cleans 144 = .ok (.imul, 1) := by decide +kernel
theorem dX5_cleans_145 : decode cX5_cleans 145 = .ok (.iadd, 1) := by decide +kernel
theorem dX5_cleans_146 : decode cX5_cleans 146 = .ok (.aload_n 0, 1) := by decide +kernel
theorem dX5_cleans_147 : decode cX5_cleans 147 = .ok (.iconst 0, 1) := by decide +kernel
theorem dX5_cleans_148 : decode cX5_cleans 148 = .ok (.laload, 1) := by decide +kernel
theorem dX5_cleans_149 : decode cX5_cleans 149 = .ok (.ldc2_w 33, 3) := by decide +kernel
theorem dX5_cleans_152 : decode cX5_cleans 152 = .ok (.ldiv, 1) := by decide +kernel
theorem dX5_cleans_153 : decode cX5_cleans 153 = .ok (.l2i, 1) := by decide +kernel
theorem dX5_cleans_154 : decode cX5_cleans 154 = .ok (.iadd, 1) := by decide +kernel
theorem dX5_cleans_155 : decode cX5_cleans 155 = .ok (.ldc2_w 49, 3) := by decide +kernel
theorem dX5_cleans_158 : decode cX5_cleans 158 = .ok (.lastore, 1) := by decide +kernel
theorem dX5_cleans_159 : decode cX5_cleans 159 = .ok (.aload_n 0, 1) := by decide +kernel
theorem dX5_cleans_160 : decode cX5_cleans 160 = .ok (.iconst 3, 1) := by decide +kernel
theorem dX5_cleans_161 : decode cX5_cleans 161 = .ok (.laload, 1) := by decide +kernel
theorem dX5_cleans_162 : decode cX5_cleans 162 = .ok (.lconst 0, 1) := by decide +kernel
theorem dX5_cleans_163 : decode cX5_cleans 163 = .ok (.lcmp, 1) := by decide +kernel
theorem dX5_cleans_164 : decode cX5_cleans 164 = .ok (.ifCond .le 7, 3) := by decide +kernel
theorem dX5_cleans_167 : decode cX5_cleans 167 = .ok (.iconst 1, 1) := by decide +kernel
theorem dX5_cleans_168 : decode cX5_cleans 168 = .ok (.goto 4, 3) := by decide +kernel
theorem dX5_cleans_171 : decode cX5_cleans 171 = .ok (.iconst 0, 1) := by decide +kernel
theorem dX5_cleans_172 : decode cX5_cleans 172 = .ok (.istore 6, 2) := by decide +kernel
theorem dX5_cleans_174 : decode cX5_cleans 174 = .ok (.aload_n 0, 1) := by decide +kernel
theorem dX5_cleans_175 : decode cX5_cleans 175 = .ok (.iconst 3, 1) := by decide +kernel
theorem dX5_cleans_176 : decode cX5_cleans 176 = .ok (.dup2, 1) := by decide +kernel
theorem dX5_cleans_177 : decode cX5_cleans 177 = .ok (.laload, 1) := by decide +kernel
theorem dX5_cleans_178 : decode cX5_cleans 178 = .ok (.iload 6, 2) := by decide +kernel
theorem dX5_cleans_180 : decode cX5_cleans 180 = .ok (.ifCond .eq 7, 3) := by decide +kernel
theorem dX5_cleans_183 : decode cX5_cleans 183 = .ok (.lconst 1, 1) := by decide +kernel
theorem dX5_cleans_184 : decode cX5_cleans 184 = .ok (.goto 4, 3) := by decide +kernel
theorem dX5_cleans_187 : decode cX5_cleans 187 = .ok (.lconst 0, 1) := by decide +kernel
theorem dX5_cleans_188 : decode cX5_cleans 188 = .ok (.lsub, 1) := by decide +kernel
theorem dX5_cleans_189 : decode cX5_cleans 189 = .ok (.lastore, 1) := by decide +kernel
theorem dX5_cleans_190 : decode cX5_cleans 190 = .ok (.aload_n 0, 1) := by decide +kernel
theorem dX5_cleans_191 : decode cX5_cleans 191 = .ok (.iconst 4, 1) := by decide +kernel
theorem dX5_cleans_192 : decode cX5_cleans 192 = .ok (.dup2, 1) := by decide +kernel
theorem dX5_cleans_193 : decode cX5_cleans 193 = .ok (.laload, 1) := by decide +kernel
theorem dX5_cleans_194 : decode cX5_cleans 194 = .ok (.iload 6, 2) := by decide +kernel
theorem dX5_cleans_196 : decode cX5_cleans 196 = .ok (.ifCond .eq 7, 3) := by decide +kernel
theorem dX5_cleans_199 : decode cX5_cleans 199 = .ok (.lconst 1, 1) := by decide +kernel
theorem dX5_cleans_200 : decode cX5_cleans 200 = .ok (.goto 4, 3) := by decide +kernel
theorem dX5_cleans_203 : decode cX5_cleans 203 = .ok (.lconst 0, 1) := by decide +kernel
theorem dX5_cleans_204 : decode cX5_cleans 204 = .ok (.ladd, 1) := by decide +kernel
theorem dX5_cleans_205 : decode cX5_cleans 205 = .ok (.lastore, 1) := by decide +kernel
theorem dX5_cleans_206 : decode cX5_cleans 206 = .ok (.aload_n 0, 1) := by decide +kernel
theorem dX5_cleans_207 : decode cX5_cleans 207 = .ok (.iconst 2, 1) := by decide +kernel
theorem dX5_cleans_208 : decode cX5_cleans 208 = .ok (.dup2, 1) := by decide +kernel
theorem dX5_cleans_209 : decode cX5_cleans 209 = .ok (.laload, 1) := by decide +kernel
theorem dX5_cleans_210 : decode cX5_cleans 210 = .ok (.iload 6, 2) := by decide +kernel
theorem dX5_cleans_212 : decode cX5_cleans 212 = .ok (.ifCond .eq 7, 3) := by decide +kernel
theorem dX5_cleans_215 : decode cX5_cleans 215 = .ok (.lconst 0, 1) := by decide +kernel
theorem dX5_cleans_216 : decode cX5_cleans 216 = .ok (.goto 7, 3) := by decide +kernel
theorem dX5_cleans_219 : decode cX5_cleans 219 = .ok (.aload_n 0, 1) := by decide +kernel
theorem dX5_cleans_220 : decode cX5_cleans 220 = .ok (.bipush 6, 2) := by decide +kernel
theorem dX5_cleans_222 : decode cX5_cleans 222 = .ok (.laload, 1) := by decide +kernel
theorem dX5_cleans_223 : decode cX5_cleans 223 = .ok (.ladd, 1) := by decide +kernel
theorem dX5_cleans_224 : decode cX5_cleans 224 = .ok (.lastore, 1) := by decide +kernel
theorem dX5_cleans_225 : decode cX5_cleans 225 = .ok (.aload_n 0, 1) := by decide +kernel
theorem dX5_cleans_226 : decode cX5_cleans 226 = .ok (.iload_n 3, 1) := by decide +kernel
theorem dX5_cleans_227 : decode cX5_cleans 227 = .ok (.iconst 4, 1) := by decide +kernel
theorem dX5_cleans_228 : decode cX5_cleans 228 = .ok (.iadd, 1) := by decide +kernel
theorem dX5_cleans_229 : decode cX5_cleans 229 = .ok (.iload 5, 2) := by decide +kernel
theorem dX5_cleans_231 : decode cX5_cleans 231 = .ok (.ifCond .eq 34, 3) := by decide +kernel
theorem dX5_cleans_234 : decode cX5_cleans 234 = .ok (.iload_n 2, 1) := by decide +kernel
theorem dX5_cleans_235 : decode cX5_cleans 235 = .ok (.ifCond .ne 30, 3) := by decide +kernel
theorem dX5_cleans_238 : decode cX5_cleans 238 = .ok (.aload_n 0, 1) := by decide +kernel
theorem dX5_cleans_239 : decode cX5_cleans 239 = .ok (.iload_n 3, 1) := by decide +kernel
theorem dX5_cleans_240 : decode cX5_cleans 240 = .ok (.iconst 0, 1) := by decide +kernel
theorem dX5_cleans_241 : decode cX5_cleans 241 = .ok (.iadd, 1) := by decide +kernel
theorem dX5_cleans_242 : decode cX5_cleans 242 = .ok (.laload, 1) := by decide +kernel
theorem dX5_cleans_243 : decode cX5_cleans 243 = .ok (.aload_n 0, 1) := by decide +kernel
theorem dX5_cleans_244 : decode cX5_cleans 244 = .ok (.bipush 9, 2) := by decide +kernel
theorem dX5_cleans_246 : decode cX5_cleans 246 = .ok (.laload, 1) := by decide +kernel
theorem dX5_cleans_247 : decode cX5_cleans 247 = .ok (.lcmp, 1) := by decide +kernel
theorem dX5_cleans_248 : decode cX5_cleans 248 = .ok (.ifCond .ge 17, 3) := by decide +kernel
theorem dX5_cleans_251 : decode cX5_cleans 251 = .ok (.aload_n 0, 1) := by decide +kernel
theorem dX5_cleans_252 : decode cX5_cleans 252 = .ok (.iload_n 3, 1) := by decide +kernel
theorem dX5_cleans_253 : decode cX5_cleans 253 = .ok (.iconst 1, 1) := by decide +kernel
theorem dX5_cleans_254 : decode cX5_cleans 254 = .ok (.iadd, 1) := by decide +kernel
theorem dX5_cleans_255 : decode cX5_cleans 255 = .ok (.laload, 1) := by decide +kernel
theorem dX5_cleans_256 : decode cX5_cleans 256 = .ok (.lconst 0, 1) := by decide +kernel
theorem dX5_cleans_257 : decode cX5_cleans 257 = .ok (.lcmp, 1) := by decide +kernel
theorem dX5_cleans_258 : decode cX5_cleans 258 = .ok (.ifCond .le 7, 3) := by decide +kernel
theorem dX5_cleans_261 : decode cX5_cleans 261 = .ok (.lconst 1, 1) := by decide +kernel
theorem dX5_cleans_262 : decode cX5_cleans 262 = .ok (.goto 4, 3) := by decide +kernel
theorem dX5_cleans_265 : decode cX5_cleans 265 = .ok (.lconst 0, 1) := by decide +kernel
theorem dX5_cleans_266 : decode cX5_cleans 266 = .ok (.lastore, 1) := by decide +kernel
theorem dX5_cleans_267 : decode cX5_cleans 267 = .ok (.return_, 1) := by decide +kernel
theorem dX5_passesOne_0 : decode cX5_passesOne 0 = .ok (.iconst 0, 1) := by decide +kernel
theorem dX5_passesOne_1 : decode cX5_passesOne 1 = .ok (.istore_n 1, 1) := by decide +kernel
theorem dX5_passesOne_2 : decode cX5_passesOne 2 = .ok (.iload_n 1, 1) := by decide +kernel
theorem dX5_passesOne_3 : decode cX5_passesOne 3 = .ok (.iconst 4, 1) := by decide +kernel
theorem dX5_passesOne_4 : decode cX5_passesOne 4 = .ok (.if_icmp .ge 82, 3) := by decide +kernel
theorem dX5_passesOne_7 : decode cX5_passesOne 7 = .ok (.iload_n 1, 1) := by decide +kernel
theorem dX5_passesOne_8 : decode cX5_passesOne 8 = .ok (.invokestatic 45, 3) := by decide +kernel
theorem dX5_passesOne_11 : decode cX5_passesOne 11 = .ok (.istore_n 2, 1) := by decide +kernel
theorem dX5_passesOne_12 : decode cX5_passesOne 12 = .ok (.aload_n 0, 1) := by decide +kernel
theorem dX5_passesOne_13 : decode cX5_passesOne 13 = .ok (.iconst 0, 1) := by decide +kernel
theorem dX5_passesOne_14 : decode cX5_passesOne 14 = .ok (.laload, 1) := by decide +kernel
theorem dX5_passesOne_15 : decode cX5_passesOne 15 = .ok (.ldc2_w 33, 3) := by decide +kernel
theorem dX5_passesOne_18 : decode cX5_passesOne 18 = .ok (.lrem, 1) := by decide +kernel
theorem dX5_passesOne_19 : decode cX5_passesOne 19 = .ok (.lconst 0, 1) := by decide +kernel
theorem dX5_passesOne_20 : decode cX5_passesOne 20 = .ok (.lcmp, 1) := by decide +kernel
theorem dX5_passesOne_21 : decode cX5_passesOne 21 = .ok (.ifCond .ne 8, 3) := by decide +kernel
theorem dX5_passesOne_24 : decode cX5_passesOne 24 = .ok (.aload_n 0, 1) := by decide +kernel
theorem dX5_passesOne_25 : decode cX5_passesOne 25 = .ok (.iload_n 1, 1) := by decide +kernel
theorem dX5_passesOne_26 : decode cX5_passesOne 26 = .ok (.invokestatic 86, 3) := by decide +kernel
theorem dX5_passesOne_29 : decode cX5_passesOne 29 = .ok (.aload_n 0, 1) := by decide +kernel
theorem dX5_passesOne_30 : decode cX5_passesOne 30 = .ok (.iload_n 2, 1) := by decide +kernel
theorem dX5_passesOne_31 : decode cX5_passesOne 31 = .ok (.iconst 3, 1) := by decide +kernel
theorem dX5_passesOne_32 : decode cX5_passesOne 32 = .ok (.iadd, 1) := by decide +kernel
theorem dX5_passesOne_33 : decode cX5_passesOne 33 = .ok (.dup2, 1) := by decide +kernel
theorem dX5_passesOne_34 : decode cX5_passesOne 34 = .ok (.laload, 1) := by decide +kernel
theorem dX5_passesOne_35 : decode cX5_passesOne 35 = .ok (.aload_n 0, 1) := by decide +kernel
theorem dX5_passesOne_36 : decode cX5_passesOne 36 = .ok (.iconst 0, 1) := by decide +kernel
theorem dX5_passesOne_37 : decode cX5_passesOne 37 = .ok (.laload, 1) := by decide +kernel
theorem dX5_passesOne_38 : decode cX5_passesOne 38 = .ok (.aload_n 0, 1) := by decide +kernel
theorem dX5_passesOne_39 : decode cX5_passesOne 39 = .ok (.iload_n 2, 1) := by decide +kernel
theorem dX5_passesOne_40 : decode cX5_passesOne 40 = .ok (.bipush 8, 2) := by decide +kernel
theorem dX5_passesOne_42 : decode cX5_passesOne 42 = .ok (.iadd, 1) := by decide +kernel
theorem dX5_passesOne_43 : decode cX5_passesOne 43 = .ok (.laload, 1) := by decide +kernel
theorem dX5_passesOne_44 : decode cX5_passesOne 44 = .ok (.lrem, 1) := by decide +kernel
theorem dX5_passesOne_45 : decode cX5_passesOne 45 = .ok (.lconst 0, 1) := by decide +kernel
theorem dX5_passesOne_46 : decode cX5_passesOne 46 = .ok (.lcmp, 1) := by decide +kernel
theorem dX5_passesOne_47 : decode cX5_passesOne 47 = .ok (.ifCond .ne 12, 3) := by decide +kernel
theorem dX5_passesOne_50 : decode cX5_passesOne 50 = .ok (.aload_n 0, 1) := by decide +kernel
theorem dX5_passesOne_51 : decode cX5_passesOne 51 = .ok (.iload_n 2, 1) := by decide +kernel
theorem dX5_passesOne_52 : decode cX5_passesOne 52 = .ok (.bipush 9, 2) := by decide +kernel
theorem dX5_passesOne_54 : decode cX5_passesOne 54 = .ok (.iadd, 1) := by decide +kernel
theorem dX5_passesOne_55 : decode cX5_passesOne 55 = .ok (.laload, 1) := by decide +kernel
theorem dX5_passesOne_56 : decode cX5_passesOne 56 = .ok (.goto 4, 3) := by decide +kernel
theorem dX5_passesOne_59 : decode cX5_passesOne 59 = .ok (.lconst 0, 1) := by decide +kernel
theorem dX5_passesOne_60 : decode cX5_passesOne 60 = .ok (.ladd, 1) := by decide +kernel
theorem dX5_passesOne_61 : decode cX5_passesOne 61 = .ok (.lastore, 1) := by decide +kernel
theorem dX5_passesOne_62 : decode cX5_passesOne 62 = .ok (.aload_n 0, 1) := by decide +kernel
theorem dX5_passesOne_63 : decode cX5_passesOne 63 = .ok (.iload_n 1, 1) := by decide +kernel
end
section
theorem dX5_passesOne_64 : decode cX5_passesOne 64 = .ok (.invokestatic 82, 3) := by decide +kernel
theorem dX5_passesOne_67 : decode cX5_passesOne 67 = .ok (.istore_n 3, 1) := by decide +kernel
theorem dX5_passesOne_68 : decode cX5_passesOne 68 = .ok (.aload_n 0, 1) := by decide +kernel
theorem dX5_passesOne_69 : decode cX5_passesOne 69 = .ok (.iload_n 1, 1) := by decide +kernel
theorem dX5_passesOne_70 : decode cX5_passesOne 70 = .ok (.iload_n 3, 1) := by decide +kernel
theorem dX5_passesOne_71 : decode cX5_passesOne 71 = .ok (.invokestatic 90, 3) := by decide +kernel
theorem dX5_passesOne_74 : decode cX5_passesOne 74 = .ok (.aload_n 0, 1) := by decide +kernel
theorem dX5_passesOne_75 : decode cX5_passesOne 75 = .ok (.iload_n 1, 1) := by decide +kernel
theorem dX5_passesOne_76 : decode cX5_passesOne 76 = .ok (.iload_n 3, 1) := by decide +kernel
theorem dX5_passesOne_77 : decode cX5_passesOne 77 = .ok (.invokestatic 94, 3) := by decide +kernel
theorem dX5_passesOne_80 : decode cX5_passesOne 80 = .ok (.iinc 1 1, 3) := by decide +kernel
theorem dX5_passesOne_83 : decode cX5_passesOne 83 = .ok (.goto (-81), 3) := by decide +kernel
theorem dX5_passesOne_86 : decode cX5_passesOne 86 = .ok (.iconst 0, 1) := by decide +kernel
theorem dX5_passesOne_87 : decode cX5_passesOne 87 = .ok (.istore_n 1, 1) := by decide +kernel
theorem dX5_passesOne_88 : decode cX5_passesOne 88 = .ok (.iload_n 1, 1) := by decide +kernel
theorem dX5_passesOne_89 : decode cX5_passesOne 89 = .ok (.iconst 4, 1) := by decide +kernel
theorem dX5_passesOne_90 : decode cX5_passesOne 90 = .ok (.if_icmp .ge 29, 3) := by decide +kernel
theorem dX5_passesOne_93 : decode cX5_passesOne 93 = .ok (.aload_n 0, 1) := by decide +kernel
theorem dX5_passesOne_94 : decode cX5_passesOne 94 = .ok (.iload_n 1, 1) := by decide +kernel
theorem dX5_passesOne_95 : decode cX5_passesOne 95 = .ok (.invokestatic 45, 3) := by decide +kernel
theorem dX5_passesOne_98 : decode cX5_passesOne 98 = .ok (.bipush 10, 2) := by decide +kernel
theorem dX5_passesOne_100 : decode cX5_passesOne 100 = .ok (.iadd, 1) := by decide +kernel
theorem dX5_passesOne_101 : decode cX5_passesOne 101 = .ok (.dup2, 1) := by decide +kernel
theorem dX5_passesOne_102 : decode cX5_passesOne 102 = .ok (.laload, 1) := by decide +kernel
theorem dX5_passesOne_103 : decode cX5_passesOne 103 = .ok (.aload_n 0, 1) := by decide +kernel
theorem dX5_passesOne_104 : decode cX5_passesOne 104 = .ok (.iload_n 1, 1) := by decide +kernel
theorem dX5_passesOne_105 : decode cX5_passesOne 105 = .ok (.invokestatic 45, 3) := by decide +kernel
theorem dX5_passesOne_108 : decode cX5_passesOne 108 = .ok (.iconst 3, 1) := by decide +kernel
theorem dX5_passesOne_109 : decode cX5_passesOne 109 = .ok (.iadd, 1) := by decide +kernel
theorem dX5_passesOne_110 : decode cX5_passesOne 110 = .ok (.laload, 1) := by decide +kernel
theorem dX5_passesOne_111 : decode cX5_passesOne 111 = .ok (.ladd, 1) := by decide +kernel
theorem dX5_passesOne_112 : decode cX5_passesOne 112 = .ok (.lastore, 1) := by decide +kernel
theorem dX5_passesOne_113 : decode cX5_passesOne 113 = .ok (.iinc 1 1, 3) := by decide +kernel
theorem dX5_passesOne_116 : decode cX5_passesOne 116 = .ok (.goto (-28), 3) := by decide +kernel
theorem dX5_passesOne_119 : decode cX5_passesOne 119 = .ok (.aload_n 0, 1) := by decide +kernel
theorem dX5_passesOne_120 : decode cX5_passesOne 120 = .ok (.iconst 0, 1) := by decide +kernel
theorem dX5_passesOne_121 : decode cX5_passesOne 121 = .ok (.dup2, 1) := by decide +kernel
theorem dX5_passesOne_122 : decode cX5_passesOne 122 = .ok (.laload, 1) := by decide +kernel
theorem dX5_passesOne_123 : decode cX5_passesOne 123 = .ok (.lconst 1, 1) := by decide +kernel
theorem dX5_passesOne_124 : decode cX5_passesOne 124 = .ok (.ladd, 1) := by decide +kernel
theorem dX5_passesOne_125 : decode cX5_passesOne 125 = .ok (.lastore, 1) := by decide +kernel
theorem dX5_passesOne_126 : decode cX5_passesOne 126 = .ok (.return_, 1) := by decide +kernel
theorem dX5_overruns_0 : decode cX5_overruns 0 = .ok (.lconst 0, 1) := by decide +kernel
theorem dX5_overruns_1 : decode cX5_overruns 1 = .ok (.lstore_n 1, 1) := by decide +kernel
theorem dX5_overruns_2 : decode cX5_overruns 2 = .ok (.iconst 0, 1) := by decide +kernel
theorem dX5_overruns_3 : decode cX5_overruns 3 = .ok (.istore_n 3, 1) := by decide +kernel
theorem dX5_overruns_4 : decode cX5_overruns 4 = .ok (.iload_n 3, 1) := by decide +kernel
theorem dX5_overruns_5 : decode cX5_overruns 5 = .ok (.iconst 4, 1) := by decide +kernel
theorem dX5_overruns_6 : decode cX5_overruns 6 = .ok (.if_icmp .ge 21, 3) := by decide +kernel
theorem dX5_overruns_9 : decode cX5_overruns 9 = .ok (.lload_n 1, 1) := by decide +kernel
theorem dX5_overruns_10 : decode cX5_overruns 10 = .ok (.aload_n 0, 1) := by decide +kernel
theorem dX5_overruns_11 : decode cX5_overruns 11 = .ok (.iload_n 3, 1) := by decide +kernel
theorem dX5_overruns_12 : decode cX5_overruns 12 = .ok (.invokestatic 45, 3) := by decide +kernel
theorem dX5_overruns_15 : decode cX5_overruns 15 = .ok (.bipush 7, 2) := by decide +kernel
theorem dX5_overruns_17 : decode cX5_overruns 17 = .ok (.iadd, 1) := by decide +kernel
theorem dX5_overruns_18 : decode cX5_overruns 18 = .ok (.laload, 1) := by decide +kernel
theorem dX5_overruns_19 : decode cX5_overruns 19 = .ok (.ladd, 1) := by decide +kernel
theorem dX5_overruns_20 : decode cX5_overruns 20 = .ok (.lstore_n 1, 1) := by decide +kernel
theorem dX5_overruns_21 : decode cX5_overruns 21 = .ok (.iinc 3 1, 3) := by decide +kernel
theorem dX5_overruns_24 : decode cX5_overruns 24 = .ok (.goto (-20), 3) := by decide +kernel
theorem dX5_overruns_27 : decode cX5_overruns 27 = .ok (.lload_n 1, 1) := by decide +kernel
theorem dX5_overruns_28 : decode cX5_overruns 28 = .ok (.lreturn, 1) := by decide +kernel
theorem dX5_isFor_0 : decode cX5_isFor 0 = .ok (.iload_n 0, 1) := by decide +kernel
theorem dX5_isFor_1 : decode cX5_isFor 1 = .ok (.ifCond .ne 15, 3) := by decide +kernel
theorem dX5_isFor_4 : decode cX5_isFor 4 = .ok (.iload_n 1, 1) := by decide +kernel
theorem dX5_isFor_5 : decode cX5_isFor 5 = .ok (.i2l, 1) := by decide +kernel
theorem dX5_isFor_6 : decode cX5_isFor 6 = .ok (.lconst 0, 1) := by decide +kernel
theorem dX5_isFor_7 : decode cX5_isFor 7 = .ok (.ldc2_w 97, 3) := by decide +kernel
theorem dX5_isFor_10 : decode cX5_isFor 10 = .ok (.invokestatic 51, 3) := by decide +kernel
theorem dX5_isFor_13 : decode cX5_isFor 13 = .ok (.goto 63, 3) := by decide +kernel
theorem dX5_isFor_16 : decode cX5_isFor 16 = .ok (.iload_n 0, 1) := by decide +kernel
theorem dX5_isFor_17 : decode cX5_isFor 17 = .ok (.iconst 1, 1) := by decide +kernel
theorem dX5_isFor_18 : decode cX5_isFor 18 = .ok (.if_icmp .ne 15, 3) := by decide +kernel
theorem dX5_isFor_21 : decode cX5_isFor 21 = .ok (.iload_n 1, 1) := by decide +kernel
theorem dX5_isFor_22 : decode cX5_isFor 22 = .ok (.i2l, 1) := by decide +kernel
theorem dX5_isFor_23 : decode cX5_isFor 23 = .ok (.lconst 0, 1) := by decide +kernel
theorem dX5_isFor_24 : decode cX5_isFor 24 = .ok (.ldc2_w 55, 3) := by decide +kernel
theorem dX5_isFor_27 : decode cX5_isFor 27 = .ok (.invokestatic 51, 3) := by decide +kernel
theorem dX5_isFor_30 : decode cX5_isFor 30 = .ok (.goto 46, 3) := by decide +kernel
theorem dX5_isFor_33 : decode cX5_isFor 33 = .ok (.iload_n 0, 1) := by decide +kernel
theorem dX5_isFor_34 : decode cX5_isFor 34 = .ok (.iconst 2, 1) := by decide +kernel
theorem dX5_isFor_35 : decode cX5_isFor 35 = .ok (.if_icmp .ne 15, 3) := by decide +kernel
theorem dX5_isFor_38 : decode cX5_isFor 38 = .ok (.iload_n 1, 1) := by decide +kernel
theorem dX5_isFor_39 : decode cX5_isFor 39 = .ok (.i2l, 1) := by decide +kernel
theorem dX5_isFor_40 : decode cX5_isFor 40 = .ok (.lconst 0, 1) := by decide +kernel
theorem dX5_isFor_41 : decode cX5_isFor 41 = .ok (.ldc2_w 99, 3) := by decide +kernel
theorem dX5_isFor_44 : decode cX5_isFor 44 = .ok (.invokestatic 51, 3) := by decide +kernel
theorem dX5_isFor_47 : decode cX5_isFor 47 = .ok (.goto 29, 3) := by decide +kernel
theorem dX5_isFor_50 : decode cX5_isFor 50 = .ok (.iload_n 0, 1) := by decide +kernel
theorem dX5_isFor_51 : decode cX5_isFor 51 = .ok (.iconst 5, 1) := by decide +kernel
theorem dX5_isFor_52 : decode cX5_isFor 52 = .ok (.if_icmp .ne 15, 3) := by decide +kernel
theorem dX5_isFor_55 : decode cX5_isFor 55 = .ok (.iload_n 1, 1) := by decide +kernel
theorem dX5_isFor_56 : decode cX5_isFor 56 = .ok (.i2l, 1) := by decide +kernel
theorem dX5_isFor_57 : decode cX5_isFor 57 = .ok (.lconst 1, 1) := by decide +kernel
theorem dX5_isFor_58 : decode cX5_isFor 58 = .ok (.ldc2_w 39, 3) := by decide +kernel
theorem dX5_isFor_61 : decode cX5_isFor 61 = .ok (.invokestatic 51, 3) := by decide +kernel
theorem dX5_isFor_64 : decode cX5_isFor 64 = .ok (.goto 12, 3) := by decide +kernel
theorem dX5_isFor_67 : decode cX5_isFor 67 = .ok (.iload_n 1, 1) := by decide +kernel
theorem dX5_isFor_68 : decode cX5_isFor 68 = .ok (.i2l, 1) := by decide +kernel
theorem dX5_isFor_69 : decode cX5_isFor 69 = .ok (.lconst 0, 1) := by decide +kernel
theorem dX5_isFor_70 : decode cX5_isFor 70 = .ok (.ldc2_w 33, 3) := by decide +kernel
theorem dX5_isFor_73 : decode cX5_isFor 73 = .ok (.invokestatic 51, 3) := by decide +kernel
theorem dX5_isFor_76 : decode cX5_isFor 76 = .ok (.ireturn, 1) := by decide +kernel
theorem dX5_set_0 : decode cX5_set 0 = .ok (.iload_n 1, 1) := by decide +kernel
theorem dX5_set_1 : decode cX5_set 1 = .ok (.i2l, 1) := by decide +kernel
theorem dX5_set_2 : decode cX5_set 2 = .ok (.lconst 0, 1) := by decide +kernel
theorem dX5_set_3 : decode cX5_set 3 = .ok (.ldc2_w 101, 3) := by decide +kernel
theorem dX5_set_6 : decode cX5_set 6 = .ok (.invokestatic 51, 3) := by decide +kernel
theorem dX5_set_9 : decode cX5_set 9 = .ok (.ifCond .eq 11, 3) := by decide +kernel
theorem dX5_set_12 : decode cX5_set 12 = .ok (.iload_n 1, 1) := by decide +kernel
theorem dX5_set_13 : decode cX5_set 13 = .ok (.iload_n 2, 1) := by decide +kernel
theorem dX5_set_14 : decode cX5_set 14 = .ok (.invokestatic 103, 3) := by decide +kernel
theorem dX5_set_17 : decode cX5_set 17 = .ok (.ifCond .ne 6, 3) := by decide +kernel
theorem dX5_set_20 : decode cX5_set 20 = .ok (.bipush (-2), 2) := by decide +kernel
theorem dX5_set_22 : decode cX5_set 22 = .ok (.ireturn, 1) := by decide +kernel
theorem dX5_set_23 : decode cX5_set 23 = .ok (.aload_n 0, 1) := by decide +kernel
theorem dX5_set_24 : decode cX5_set 24 = .ok (.invokevirtual 65, 3) := by decide +kernel
theorem dX5_set_27 : decode cX5_set 27 = .ok (.aload_n 0, 1) := by decide +kernel
theorem dX5_set_28 : decode cX5_set 28 = .ok (.getfield 7, 3) := by decide +kernel
theorem dX5_set_31 : decode cX5_set 31 = .ok (.iconst 5, 1) := by decide +kernel
theorem dX5_set_32 : decode cX5_set 32 = .ok (.iload_n 1, 1) := by decide +kernel
theorem dX5_set_33 : decode cX5_set 33 = .ok (.iadd, 1) := by decide +kernel
theorem dX5_set_34 : decode cX5_set 34 = .ok (.laload, 1) := by decide +kernel
theorem dX5_set_35 : decode cX5_set 35 = .ok (.l2i, 1) := by decide +kernel
theorem dX5_set_36 : decode cX5_set 36 = .ok (.istore_n 3, 1) := by decide +kernel
theorem dX5_set_37 : decode cX5_set 37 = .ok (.aload_n 0, 1) := by decide +kernel
theorem dX5_set_38 : decode cX5_set 38 = .ok (.getfield 7, 3) := by decide +kernel
theorem dX5_set_41 : decode cX5_set 41 = .ok (.iconst 5, 1) := by decide +kernel
theorem dX5_set_42 : decode cX5_set 42 = .ok (.iload_n 1, 1) := by decide +kernel
theorem dX5_set_43 : decode cX5_set 43 = .ok (.iadd, 1) := by decide +kernel
theorem dX5_set_44 : decode cX5_set 44 = .ok (.iload_n 2, 1) := by decide +kernel
theorem dX5_set_45 : decode cX5_set 45 = .ok (.i2l, 1) := by decide +kernel
theorem dX5_set_46 : decode cX5_set 46 = .ok (.lastore, 1) := by decide +kernel
theorem dX5_set_47 : decode cX5_set 47 = .ok (.iload_n 3, 1) := by decide +kernel
theorem dX5_set_48 : decode cX5_set 48 = .ok (.ireturn, 1) := by decide +kernel
theorem dX5_mayStream_0 : decode cX5_mayStream 0 = .ok (.iload_n 1, 1) := by decide +kernel
theorem dX5_mayStream_1 : decode cX5_mayStream 1 = .ok (.invokestatic 107, 3) := by decide +kernel
theorem dX5_mayStream_4 : decode cX5_mayStream 4 = .ok (.ifCond .ne 5, 3) := by decide +kernel
theorem dX5_mayStream_7 : decode cX5_mayStream 7 = .ok (.iconst (-1), 1) := by decide +kernel
theorem dX5_mayStream_8 : decode cX5_mayStream 8 = .ok (.ireturn, 1) := by decide +kernel
theorem dX5_mayStream_9 : decode cX5_mayStream 9 = .ok (.iload_n 2, 1) := by decide +kernel
theorem dX5_mayStream_10 : decode cX5_mayStream 10 = .ok (.i2l, 1) := by decide +kernel
theorem dX5_mayStream_11 : decode cX5_mayStream 11 = .ok (.lconst 1, 1) := by decide +kernel
theorem dX5_mayStream_12 : decode cX5_mayStream 12 = .ok (.ldc2_w 33, 3) := by decide +kernel
theorem dX5_mayStream_15 : decode cX5_mayStream 15 = .ok (.invokestatic 51, 3) := by decide +kernel
theorem dX5_mayStream_18 : decode cX5_mayStream 18 = .ok (.ifCond .eq 19, 3) := by decide +kernel
theorem dX5_mayStream_21 : decode cX5_mayStream 21 = .ok (.iload_n 3, 1) := by decide +kernel
theorem dX5_mayStream_22 : decode cX5_mayStream 22 = .ok (.i2l, 1) := by decide +kernel
theorem dX5_mayStream_23 : decode cX5_mayStream 23 = .ok (.lconst 0, 1) := by decide +kernel
theorem dX5_mayStream_24 : decode cX5_mayStream 24 = .ok (.ldc2_w 39, 3) := by decide +kernel
theorem dX5_mayStream_27 : decode cX5_mayStream 27 = .ok (.invokestatic 51, 3) := by decide +kernel
theorem dX5_mayStream_30 : decode cX5_mayStream 30 = .ok (.ifCond .eq 7, 3) := by decide +kernel
theorem dX5_mayStream_33 : decode cX5_mayStream 33 = .ok (.iconst 0, 1) := by decide +kernel
theorem dX5_mayStream_34 : decode cX5_mayStream 34 = .ok (.goto 5, 3) := by decide +kernel
theorem dX5_mayStream_37 : decode cX5_mayStream 37 = .ok (.bipush (-2), 2) := by decide +kernel
theorem dX5_mayStream_39 : decode cX5_mayStream 39 = .ok (.ireturn, 1) := by decide +kernel
theorem dX5_streams_0 : decode cX5_streams 0 = .ok (.aload_n 0, 1) := by decide +kernel
theorem dX5_streams_1 : decode cX5_streams 1 = .ok (.getfield 7, 3) := by decide +kernel
theorem dX5_streams_4 : decode cX5_streams 4 = .ok (.iload_n 1, 1) := by decide +kernel
theorem dX5_streams_5 : decode cX5_streams 5 = .ok (.invokestatic 45, 3) := by decide +kernel
theorem dX5_streams_8 : decode cX5_streams 8 = .ok (.bipush 9, 2) := by decide +kernel
theorem dX5_streams_10 : decode cX5_streams 10 = .ok (.iadd, 1) := by decide +kernel
theorem dX5_streams_11 : decode cX5_streams 11 = .ok (.laload, 1) := by decide +kernel
theorem dX5_streams_12 : decode cX5_streams 12 = .ok (.l2i, 1) := by decide +kernel
theorem dX5_streams_13 : decode cX5_streams 13 = .ok (.istore 4, 2) := by decide +kernel
theorem dX5_streams_15 : decode cX5_streams 15 = .ok (.aload_n 0, 1) := by decide +kernel
theorem dX5_streams_16 : decode cX5_streams 16 = .ok (.getfield 7, 3) := by decide +kernel
theorem dX5_streams_19 : decode cX5_streams 19 = .ok (.iload_n 1, 1) := by decide +kernel
theorem dX5_streams_20 : decode cX5_streams 20 = .ok (.invokestatic 45, 3) := by decide +kernel
theorem dX5_streams_23 : decode cX5_streams 23 = .ok (.bipush 8, 2) := by decide +kernel
theorem dX5_streams_25 : decode cX5_streams 25 = .ok (.iadd, 1) := by decide +kernel
theorem dX5_streams_26 : decode cX5_streams 26 = .ok (.iload_n 2, 1) := by decide +kernel
theorem dX5_streams_27 : decode cX5_streams 27 = .ok (.i2l, 1) := by decide +kernel
theorem dX5_streams_28 : decode cX5_streams 28 = .ok (.lastore, 1) := by decide +kernel
theorem dX5_streams_29 : decode cX5_streams 29 = .ok (.aload_n 0, 1) := by decide +kernel
theorem dX5_streams_30 : decode cX5_streams 30 = .ok (.getfield 7, 3) := by decide +kernel
theorem dX5_streams_33 : decode cX5_streams 33 = .ok (.iload_n 1, 1) := by decide +kernel
theorem dX5_streams_34 : decode cX5_streams 34 = .ok (.invokestatic 45, 3) := by decide +kernel
theorem dX5_streams_37 : decode cX5_streams 37 = .ok (.bipush 9, 2) := by decide +kernel
theorem dX5_streams_39 : decode cX5_streams 39 = .ok (.iadd, 1) := by decide +kernel
theorem dX5_streams_40 : decode cX5_streams 40 = .ok (.iload_n 3, 1) := by decide +kernel
theorem dX5_streams_41 : decode cX5_streams 41 = .ok (.i2l, 1) := by decide +kernel
theorem dX5_streams_42 : decode cX5_streams 42 = .ok (.lastore, 1) := by decide +kernel
theorem dX5_streams_43 : decode cX5_streams 43 = .ok (.iload 4, 2) := by decide +kernel
theorem dX5_streams_45 : decode cX5_streams 45 = .ok (.ireturn, 1) := by decide +kernel
theorem dX5_stream_0 : decode cX5_stream 0 = .ok (.aload_n 0, 1) := by decide +kernel
theorem dX5_stream_1 : decode cX5_stream 1 = .ok (.iload_n 1, 1) := by decide +kernel
theorem dX5_stream_2 : decode cX5_stream 2 = .ok (.iload_n 2, 1) := by decide +kernel
theorem dX5_stream_3 : decode cX5_stream 3 = .ok (.iload_n 3, 1) := by decide +kernel
theorem dX5_stream_4 : decode cX5_stream 4 = .ok (.invokevirtual 111, 3) := by decide +kernel
theorem dX5_stream_7 : decode cX5_stream 7 = .ok (.istore 4, 2) := by decide +kernel
theorem dX5_stream_9 : decode cX5_stream 9 = .ok (.iload 4, 2) := by decide +kernel
theorem dX5_stream_11 : decode cX5_stream 11 = .ok (.ifCond .eq 6, 3) := by decide +kernel
theorem dX5_stream_14 : decode cX5_stream 14 = .ok (.iload 4, 2) := by decide +kernel
theorem dX5_stream_16 : decode cX5_stream 16 = .ok (.ireturn, 1) := by decide +kernel
theorem dX5_stream_17 : decode cX5_stream 17 = .ok (.aload_n 0, 1) := by decide +kernel
theorem dX5_stream_18 : decode cX5_stream 18 = .ok (.invokevirtual 65, 3) := by decide +kernel
theorem dX5_stream_21 : decode cX5_stream 21 = .ok (.aload_n 0, 1) := by decide +kernel
theorem dX5_stream_22 : decode cX5_stream 22 = .ok (.iload_n 1, 1) := by decide +kernel
theorem dX5_stream_23 : decode cX5_stream 23 = .ok (.iload_n 2, 1) := by decide +kernel
theorem dX5_stream_24 : decode cX5_stream 24 = .ok (.iload_n 3, 1) := by decide +kernel
theorem dX5_stream_25 : decode cX5_stream 25 = .ok (.invokevirtual 115, 3) := by decide +kernel
theorem dX5_stream_28 : decode cX5_stream 28 = .ok (.ireturn, 1) := by decide +kernel
theorem dX5_mayWrite_0 : decode cX5_mayWrite 0 = .ok (.iload_n 1, 1) := by decide +kernel
theorem dX5_mayWrite_1 : decode cX5_mayWrite 1 = .ok (.invokestatic 107, 3) := by decide +kernel
theorem dX5_mayWrite_4 : decode cX5_mayWrite 4 = .ok (.ifCond .ne 5, 3) := by decide +kernel
theorem dX5_mayWrite_7 : decode cX5_mayWrite 7 = .ok (.iconst (-1), 1) := by decide +kernel
theorem dX5_mayWrite_8 : decode cX5_mayWrite 8 = .ok (.ireturn, 1) := by decide +kernel
theorem dX5_mayWrite_9 : decode cX5_mayWrite 9 = .ok (.iload_n 2, 1) := by decide +kernel
theorem dX5_mayWrite_10 : decode cX5_mayWrite 10 = .ok (.i2l, 1) := by decide +kernel
theorem dX5_mayWrite_11 : decode cX5_mayWrite 11 = .ok (.lconst 1, 1) := by decide +kernel
theorem dX5_mayWrite_12 : decode cX5_mayWrite 12 = .ok (.ldc2_w 118, 3) := by decide +kernel
theorem dX5_mayWrite_15 : decode cX5_mayWrite 15 = .ok (.invokestatic 51, 3) := by decide +kernel
theorem dX5_mayWrite_18 : decode cX5_mayWrite 18 = .ok (.ifCond .ne 6, 3) := by decide +kernel
theorem dX5_mayWrite_21 : decode cX5_mayWrite 21 = .ok (.bipush (-2), 2) := by decide +kernel
theorem dX5_mayWrite_23 : decode cX5_mayWrite 23 = .ok (.ireturn, 1) := by decide +kernel
theorem dX5_mayWrite_24 : decode cX5_mayWrite 24 = .ok (.aload_n 0, 1) := by decide +kernel
theorem dX5_mayWrite_25 : decode cX5_mayWrite 25 = .ok (.getfield 7, 3) := by decide +kernel
theorem dX5_mayWrite_28 : decode cX5_mayWrite 28 = .ok (.iload_n 1, 1) := by decide +kernel
theorem dX5_mayWrite_29 : decode cX5_mayWrite 29 = .ok (.invokestatic 45, 3) := by decide +kernel
theorem dX5_mayWrite_32 : decode cX5_mayWrite 32 = .ok (.iconst 3, 1) := by decide +kernel
theorem dX5_mayWrite_33 : decode cX5_mayWrite 33 = .ok (.iadd, 1) := by decide +kernel
theorem dX5_mayWrite_34 : decode cX5_mayWrite 34 = .ok (.laload, 1) := by decide +kernel
theorem dX5_mayWrite_35 : decode cX5_mayWrite 35 = .ok (.iload_n 2, 1) := by decide +kernel
theorem dX5_mayWrite_36 : decode cX5_mayWrite 36 = .ok (.i2l, 1) := by decide +kernel
theorem dX5_mayWrite_37 : decode cX5_mayWrite 37 = .ok (.ladd, 1) := by decide +kernel
theorem dX5_mayWrite_38 : decode cX5_mayWrite 38 = .ok (.ldc2_w 120, 3) := by decide +kernel
theorem dX5_mayWrite_41 : decode cX5_mayWrite 41 = .ok (.lcmp, 1) := by decide +kernel
theorem dX5_mayWrite_42 : decode cX5_mayWrite 42 = .ok (.ifCond .le 8, 3) := by decide +kernel
theorem dX5_mayWrite_45 : decode cX5_mayWrite 45 = .ok (.bipush (-4), 2) := by decide +kernel
theorem dX5_mayWrite_47 : decode cX5_mayWrite 47 = .ok (.goto 4, 3) := by decide +kernel
theorem dX5_mayWrite_50 : decode cX5_mayWrite 50 = .ok (.iconst 0, 1) := by decide +kernel
theorem dX5_mayWrite_51 : decode cX5_mayWrite 51 = .ok (.ireturn, 1) := by decide +kernel
theorem dX5_comes_0 : decode cX5_comes 0 = .ok (.aload_n 0, 1) := by decide +kernel
theorem dX5_comes_1 : decode cX5_comes 1 = .ok (.getfield 7, 3) := by decide +kernel
theorem dX5_comes_4 : decode cX5_comes 4 = .ok (.iload_n 1, 1) := by decide +kernel
theorem dX5_comes_5 : decode cX5_comes 5 = .ok (.invokestatic 45, 3) := by decide +kernel
theorem dX5_comes_8 : decode cX5_comes 8 = .ok (.iconst 3, 1) := by decide +kernel
theorem dX5_comes_9 : decode cX5_comes 9 = .ok (.iadd, 1) := by decide +kernel
theorem dX5_comes_10 : decode cX5_comes 10 = .ok (.dup2, 1) := by decide +kernel
theorem dX5_comes_11 : decode cX5_comes 11 = .ok (.laload, 1) := by decide +kernel
theorem dX5_comes_12 : decode cX5_comes 12 = .ok (.iload_n 2, 1) := by decide +kernel
theorem dX5_comes_13 : decode cX5_comes 13 = .ok (.i2l, 1) := by decide +kernel
theorem dX5_comes_14 : decode cX5_comes 14 = .ok (.ladd, 1) := by decide +kernel
theorem dX5_comes_15 : decode cX5_comes 15 = .ok (.lastore, 1) := by decide +kernel
theorem dX5_comes_16 : decode cX5_comes 16 = .ok (.aload_n 0, 1) := by decide +kernel
theorem dX5_comes_17 : decode cX5_comes 17 = .ok (.getfield 7, 3) := by decide +kernel
theorem dX5_comes_20 : decode cX5_comes 20 = .ok (.iload_n 1, 1) := by decide +kernel
theorem dX5_comes_21 : decode cX5_comes 21 = .ok (.invokestatic 45, 3) := by decide +kernel
theorem dX5_comes_24 : decode cX5_comes 24 = .ok (.iconst 3, 1) := by decide +kernel
theorem dX5_comes_25 : decode cX5_comes 25 = .ok (.iadd, 1) := by decide +kernel
theorem dX5_comes_26 : decode cX5_comes 26 = .ok (.laload, 1) := by decide +kernel
theorem dX5_comes_27 : decode cX5_comes 27 = .ok (.l2i, 1) := by decide +kernel
theorem dX5_comes_28 : decode cX5_comes 28 = .ok (.ireturn, 1) := by decide +kernel
theorem dX5_write_0 : decode cX5_write 0 = .ok (.aload_n 0, 1) := by decide +kernel
theorem dX5_write_1 : decode cX5_write 1 = .ok (.iload_n 1, 1) := by decide +kernel
theorem dX5_write_2 : decode cX5_write 2 = .ok (.iload_n 2, 1) := by decide +kernel
theorem dX5_write_3 : decode cX5_write 3 = .ok (.invokevirtual 122, 3) := by decide +kernel
theorem dX5_write_6 : decode cX5_write 6 = .ok (.istore_n 3, 1) := by decide +kernel
theorem dX5_write_7 : decode cX5_write 7 = .ok (.iload_n 3, 1) := by decide +kernel
theorem dX5_write_8 : decode cX5_write 8 = .ok (.ifCond .eq 5, 3) := by decide +kernel
theorem dX5_write_11 : decode cX5_write 11 = .ok (.iload_n 3, 1) := by decide +kernel
theorem dX5_write_12 : decode cX5_write 12 = .ok (.ireturn, 1) := by decide +kernel
theorem dX5_write_13 : decode cX5_write 13 = .ok (.aload_n 0, 1) := by decide +kernel
theorem dX5_write_14 : decode cX5_write 14 = .ok (.invokevirtual 65, 3) := by decide +kernel
theorem dX5_write_17 : decode cX5_write 17 = .ok (.aload_n 0, 1) := by decide +kernel
theorem dX5_write_18 : decode cX5_write 18 = .ok (.iload_n 1, 1) := by decide +kernel
theorem dX5_write_19 : decode cX5_write 19 = .ok (.iload_n 2, 1) := by decide +kernel
theorem dX5_write_20 : decode cX5_write 20 = .ok (.invokevirtual 126, 3) := by decide +kernel
theorem dX5_write_23 : decode cX5_write 23 = .ok (.ireturn, 1) := by decide +kernel
theorem dX5_mayTrade_0 : decode cX5_mayTrade 0 = .ok (.iload_n 1, 1) := by decide +kernel
theorem dX5_mayTrade_1 : decode cX5_mayTrade 1 = .ok (.invokestatic 107, 3) := by decide +kernel
theorem dX5_mayTrade_4 : decode cX5_mayTrade 4 = .ok (.ifCond .ne 5, 3) := by decide +kernel
theorem dX5_mayTrade_7 : decode cX5_mayTrade 7 = .ok (.iconst (-1), 1) := by decide +kernel
theorem dX5_mayTrade_8 : decode cX5_mayTrade 8 = .ok (.ireturn, 1) := by decide +kernel
theorem dX5_mayTrade_9 : decode cX5_mayTrade 9 = .ok (.iload_n 2, 1) := by decide +kernel
theorem dX5_mayTrade_10 : decode cX5_mayTrade 10 = .ok (.invokestatic 129, 3) := by decide +kernel
theorem dX5_mayTrade_13 : decode cX5_mayTrade 13 = .ok (.ifCond .ne 6, 3) := by decide +kernel
theorem dX5_mayTrade_16 : decode cX5_mayTrade 16 = .ok (.bipush (-2), 2) := by decide +kernel
theorem dX5_mayTrade_18 : decode cX5_mayTrade 18 = .ok (.ireturn, 1) := by decide +kernel
theorem dX5_mayTrade_19 : decode cX5_mayTrade 19 = .ok (.iload_n 2, 1) := by decide +kernel
theorem dX5_mayTrade_20 : decode cX5_mayTrade 20 = .ok (.i2l, 1) := by decide +kernel
theorem dX5_mayTrade_21 : decode cX5_mayTrade 21 = .ok (.aload_n 0, 1) := by decide +kernel
theorem dX5_mayTrade_22 : decode cX5_mayTrade 22 = .ok (.getfield 7, 3) := by decide +kernel
theorem dX5_mayTrade_25 : decode cX5_mayTrade 25 = .ok (.iconst 0, 1) := by decide +kernel
theorem dX5_mayTrade_26 : decode cX5_mayTrade 26 = .ok (.laload, 1) := by decide +kernel
theorem dX5_mayTrade_27 : decode cX5_mayTrade 27 = .ok (.ldc2_w 33, 3) := by decide +kernel
theorem dX5_mayTrade_30 : decode cX5_mayTrade 30 = .ok (.ldiv, 1) := by decide +kernel
theorem dX5_mayTrade_31 : decode cX5_mayTrade 31 = .ok (.lcmp, 1) := by decide +kernel
theorem dX5_mayTrade_32 : decode cX5_mayTrade 32 = .ok (.ifCond .le 7, 3) := by decide +kernel
theorem dX5_mayTrade_35 : decode cX5_mayTrade 35 = .ok (.iconst 1, 1) := by decide +kernel
theorem dX5_mayTrade_36 : decode cX5_mayTrade 36 = .ok (.goto 4, 3) := by decide +kernel
theorem dX5_mayTrade_39 : decode cX5_mayTrade 39 = .ok (.iconst 0, 1) := by decide +kernel
theorem dX5_mayTrade_40 : decode cX5_mayTrade 40 = .ok (.istore 4, 2) := by decide +kernel
theorem dX5_mayTrade_42 : decode cX5_mayTrade 42 = .ok (.iload 4, 2) := by decide +kernel
theorem dX5_mayTrade_44 : decode cX5_mayTrade 44 = .ok (.ifCond .eq 29, 3) := by decide +kernel
theorem dX5_mayTrade_47 : decode cX5_mayTrade 47 = .ok (.aload_n 0, 1) := by decide +kernel
theorem dX5_mayTrade_48 : decode cX5_mayTrade 48 = .ok (.getfield 7, 3) := by decide +kernel
theorem dX5_mayTrade_51 : decode cX5_mayTrade 51 = .ok (.iload_n 1, 1) := by decide +kernel
theorem dX5_mayTrade_52 : decode cX5_mayTrade 52 = .ok (.iload_n 2, 1) := by decide +kernel
theorem dX5_mayTrade_53 : decode cX5_mayTrade 53 = .ok (.i2l, 1) := by decide +kernel
theorem dX5_mayTrade_54 : decode cX5_mayTrade 54 = .ok (.invokestatic 70, 3) := by decide +kernel
theorem dX5_mayTrade_57 : decode cX5_mayTrade 57 = .ok (.ifCond .ne 7, 3) := by decide +kernel
theorem dX5_mayTrade_60 : decode cX5_mayTrade 60 = .ok (.iconst 1, 1) := by decide +kernel
theorem dX5_mayTrade_61 : decode cX5_mayTrade 61 = .ok (.goto 4, 3) := by decide +kernel
theorem dX5_mayTrade_64 : decode cX5_mayTrade 64 = .ok (.iconst 0, 1) := by decide +kernel
theorem dX5_mayTrade_65 : decode cX5_mayTrade 65 = .ok (.iload_n 3, 1) := by decide +kernel
theorem dX5_mayTrade_66 : decode cX5_mayTrade 66 = .ok (.if_icmp .ne 7, 3) := by decide +kernel
theorem dX5_mayTrade_69 : decode cX5_mayTrade 69 = .ok (.iconst 0, 1) := by decide +kernel
theorem dX5_mayTrade_70 : decode cX5_mayTrade 70 = .ok (.goto 5, 3) := by decide +kernel
theorem dX5_mayTrade_73 : decode cX5_mayTrade 73 = .ok (.bipush (-5), 2) := by decide +kernel
theorem dX5_mayTrade_75 : decode cX5_mayTrade 75 = .ok (.ireturn, 1) := by decide +kernel
theorem dX5_hoursOf_0 : decode cX5_hoursOf 0 = .ok (.iconst 0, 1) := by decide +kernel
theorem dX5_hoursOf_1 : decode cX5_hoursOf 1 = .ok (.istore_n 3, 1) := by decide +kernel
theorem dX5_hoursOf_2 : decode cX5_hoursOf 2 = .ok (.iconst 0, 1) := by decide +kernel
theorem dX5_hoursOf_3 : decode cX5_hoursOf 3 = .ok (.istore 4, 2) := by decide +kernel
theorem dX5_hoursOf_5 : decode cX5_hoursOf 5 = .ok (.iload 4, 2) := by decide +kernel
theorem dX5_hoursOf_7 : decode cX5_hoursOf 7 = .ok (.bipush 100, 2) := by decide +kernel
theorem dX5_hoursOf_9 : decode cX5_hoursOf 9 = .ok (.if_icmp .ge 49, 3) := by decide +kernel
theorem dX5_hoursOf_12 : decode cX5_hoursOf 12 = .ok (.aload_n 0, 1) := by decide +kernel
theorem dX5_hoursOf_13 : decode cX5_hoursOf 13 = .ok (.getfield 7, 3) := by decide +kernel
theorem dX5_hoursOf_16 : decode cX5_hoursOf 16 = .ok (.iload_n 1, 1) := by decide +kernel
theorem dX5_hoursOf_17 : decode cX5_hoursOf 17 = .ok (.iload 4, 2) := by decide +kernel
theorem dX5_hoursOf_19 : decode cX5_hoursOf 19 = .ok (.i2l, 1) := by decide +kernel
theorem dX5_hoursOf_20 : decode cX5_hoursOf 20 = .ok (.invokestatic 70, 3) := by decide +kernel
theorem dX5_hoursOf_23 : decode cX5_hoursOf 23 = .ok (.istore 5, 2) := by decide +kernel
theorem dX5_hoursOf_25 : decode cX5_hoursOf 25 = .ok (.iload_n 3, 1) := by decide +kernel
theorem dX5_hoursOf_26 : decode cX5_hoursOf 26 = .ok (.iload_n 2, 1) := by decide +kernel
theorem dX5_hoursOf_27 : decode cX5_hoursOf 27 = .ok (.ifCond .ne 8, 3) := by decide +kernel
theorem dX5_hoursOf_30 : decode cX5_hoursOf 30 = .ok (.iload 5, 2) := by decide +kernel
theorem dX5_hoursOf_32 : decode cX5_hoursOf 32 = .ok (.ifCond .gt 13, 3) := by decide +kernel
theorem dX5_hoursOf_35 : decode cX5_hoursOf 35 = .ok (.iload_n 2, 1) := by decide +kernel
theorem dX5_hoursOf_36 : decode cX5_hoursOf 36 = .ok (.ifCond .le 13, 3) := by decide +kernel
theorem dX5_hoursOf_39 : decode cX5_hoursOf 39 = .ok (.iload 5, 2) := by decide +kernel
theorem dX5_hoursOf_41 : decode cX5_hoursOf 41 = .ok (.iload_n 2, 1) := by decide +kernel
theorem dX5_hoursOf_42 : decode cX5_hoursOf 42 = .ok (.if_icmp .ne 7, 3) := by decide +kernel
theorem dX5_hoursOf_45 : decode cX5_hoursOf 45 = .ok (.iconst 1, 1) := by decide +kernel
theorem dX5_hoursOf_46 : decode cX5_hoursOf 46 = .ok (.goto 4, 3) := by decide +kernel
theorem dX5_hoursOf_49 : decode cX5_hoursOf 49 = .ok (.iconst 0, 1) := by decide +kernel
theorem dX5_hoursOf_50 : decode cX5_hoursOf 50 = .ok (.iadd, 1) := by decide +kernel
theorem dX5_hoursOf_51 : decode cX5_hoursOf 51 = .ok (.istore_n 3, 1) := by decide +kernel
theorem dX5_hoursOf_52 : decode cX5_hoursOf 52 = .ok (.iinc 4 1, 3) := by decide +kernel
theorem dX5_hoursOf_55 : decode cX5_hoursOf 55 = .ok (.goto (-50), 3) := by decide +kernel
theorem dX5_hoursOf_58 : decode cX5_hoursOf 58 = .ok (.iload_n 3, 1) := by decide +kernel
theorem dX5_hoursOf_59 : decode cX5_hoursOf 59 = .ok (.ireturn, 1) := by decide +kernel
theorem dX5_trades_0 : decode cX5_trades 0 = .ok (.aload_n 0, 1) := by decide +kernel
theorem dX5_trades_1 : decode cX5_trades 1 = .ok (.getfield 7, 3) := by decide +kernel
theorem dX5_trades_4 : decode cX5_trades 4 = .ok (.bipush 56, 2) := by decide +kernel
theorem dX5_trades_6 : decode cX5_trades 6 = .ok (.bipush 100, 2) := by decide +kernel
theorem dX5_trades_8 : decode cX5_trades 8 = .ok (.iload_n 1, 1) := by decide +kernel
theorem dX5_trades_9 : decode cX5_trades 9 = .ok (.imul, 1) := by decide +kernel
theorem dX5_trades_10 : decode cX5_trades 10 = .ok (.iadd, 1) := by decide +kernel
theorem dX5_trades_11 : decode cX5_trades 11 = .ok (.iload_n 2, 1) := by decide +kernel
theorem dX5_trades_12 : decode cX5_trades 12 = .ok (.iadd, 1) := by decide +kernel
theorem dX5_trades_13 : decode cX5_trades 13 = .ok (.iload_n 3, 1) := by decide +kernel
theorem dX5_trades_14 : decode cX5_trades 14 = .ok (.ifCond .eq 7, 3) := by decide +kernel
theorem dX5_trades_17 : decode cX5_trades 17 = .ok (.lconst 1, 1) := by decide +kernel
theorem dX5_trades_18 : decode cX5_trades 18 = .ok (.goto 4, 3) := by decide +kernel
theorem dX5_trades_21 : decode cX5_trades 21 = .ok (.lconst 0, 1) := by decide +kernel
theorem dX5_trades_22 : decode cX5_trades 22 = .ok (.lastore, 1) := by decide +kernel
theorem dX5_trades_23 : decode cX5_trades 23 = .ok (.aload_n 0, 1) := by decide +kernel
theorem dX5_trades_24 : decode cX5_trades 24 = .ok (.iload_n 1, 1) := by decide +kernel
theorem dX5_trades_25 : decode cX5_trades 25 = .ok (.iconst 0, 1) := by decide +kernel
theorem dX5_trades_26 : decode cX5_trades 26 = .ok (.invokevirtual 132, 3) := by decide +kernel
theorem dX5_trades_29 : decode cX5_trades 29 = .ok (.ireturn, 1) := by decide +kernel
theorem dX5_sell_0 : decode cX5_sell 0 = .ok (.aload_n 0, 1) := by decide +kernel
theorem dX5_sell_1 : decode cX5_sell 1 = .ok (.iload_n 1, 1) := by decide +kernel
theorem dX5_sell_2 : decode cX5_sell 2 = .ok (.iload_n 2, 1) := by decide +kernel
theorem dX5_sell_3 : decode cX5_sell 3 = .ok (.iconst 1, 1) := by decide +kernel
theorem dX5_sell_4 : decode cX5_sell 4 = .ok (.invokevirtual 135, 3) := by decide +kernel
theorem dX5_sell_7 : decode cX5_sell 7 = .ok (.istore_n 3, 1) := by decide +kernel
theorem dX5_sell_8 : decode cX5_sell 8 = .ok (.iload_n 3, 1) := by decide +kernel
theorem dX5_sell_9 : decode cX5_sell 9 = .ok (.ifCond .eq 5, 3) := by decide +kernel
theorem dX5_sell_12 : decode cX5_sell 12 = .ok (.iload_n 3, 1) := by decide +kernel
theorem dX5_sell_13 : decode cX5_sell 13 = .ok (.ireturn, 1) := by decide +kernel
theorem dX5_sell_14 : decode cX5_sell 14 = .ok (.aload_n 0, 1) := by decide +kernel
theorem dX5_sell_15 : decode cX5_sell 15 = .ok (.invokevirtual 65, 3) := by decide +kernel
theorem dX5_sell_18 : decode cX5_sell 18 = .ok (.aload_n 0, 1) := by decide +kernel
theorem dX5_sell_19 : decode cX5_sell 19 = .ok (.iload_n 1, 1) := by decide +kernel
theorem dX5_sell_20 : decode cX5_sell 20 = .ok (.iload_n 2, 1) := by decide +kernel
theorem dX5_sell_21 : decode cX5_sell 21 = .ok (.iconst 1, 1) := by decide +kernel
theorem dX5_sell_22 : decode cX5_sell 22 = .ok (.invokevirtual 139, 3) := by decide +kernel
theorem dX5_sell_25 : decode cX5_sell 25 = .ok (.ireturn, 1) := by decide +kernel
theorem dX5_giveBack_0 : decode cX5_giveBack 0 = .ok (.aload_n 0, 1) := by decide +kernel
theorem dX5_giveBack_1 : decode cX5_giveBack 1 = .ok (.iload_n 1, 1) := by decide +kernel
theorem dX5_giveBack_2 : decode cX5_giveBack 2 = .ok (.iload_n 2, 1) := by decide +kernel
theorem dX5_giveBack_3 : decode cX5_giveBack 3 = .ok (.iconst 0, 1) := by decide +kernel
theorem dX5_giveBack_4 : decode cX5_giveBack 4 = .ok (.invokevirtual 135, 3) := by decide +kernel
theorem dX5_giveBack_7 : decode cX5_giveBack 7 = .ok (.istore_n 3, 1) := by decide +kernel
theorem dX5_giveBack_8 : decode cX5_giveBack 8 = .ok (.iload_n 3, 1) := by decide +kernel
theorem dX5_giveBack_9 : decode cX5_giveBack 9 = .ok (.ifCond .eq 5, 3) := by decide +kernel
theorem dX5_giveBack_12 : decode cX5_giveBack 12 = .ok (.iload_n 3, 1) := by decide +kernel
theorem dX5_giveBack_13 : decode cX5_giveBack 13 = .ok (.ireturn, 1) := by decide +kernel
theorem dX5_giveBack_14 : decode cX5_giveBack 14 = .ok (.aload_n 0, 1) := by decide +kernel
theorem dX5_giveBack_15 : decode cX5_giveBack 15 = .ok (.invokevirtual 65, 3) := by decide +kernel
theorem dX5_giveBack_18 : decode cX5_giveBack 18 = .ok (.aload_n 0, 1) := by decide +kernel
theorem dX5_giveBack_19 : decode cX5_giveBack 19 = .ok (.iload_n 1, 1) := by decide +kernel
theorem dX5_giveBack_20 : decode cX5_giveBack 20 = .ok (.iload_n 2, 1) := by decide +kernel
theorem dX5_giveBack_21 : decode cX5_giveBack 21 = .ok (.iconst 0, 1) := by decide +kernel
theorem dX5_giveBack_22 : decode cX5_giveBack 22 = .ok (.invokevirtual 139, 3) := by decide +kernel
theorem dX5_giveBack_25 : decode cX5_giveBack 25 = .ok (.ireturn, 1) := by decide +kernel
theorem dX5_areMinutes_0 : decode cX5_areMinutes 0 = .ok (.iload_n 0, 1) := by decide +kernel
theorem dX5_areMinutes_1 : decode cX5_areMinutes 1 = .ok (.i2l, 1) := by decide +kernel
theorem dX5_areMinutes_2 : decode cX5_areMinutes 2 = .ok (.lconst 1, 1) := by decide +kernel
theorem dX5_areMinutes_3 : decode cX5_areMinutes 3 = .ok (.ldc2_w 142, 3) := by decide +kernel
theorem dX5_areMinutes_6 : decode cX5_areMinutes 6 = .ok (.invokestatic 51, 3) := by decide +kernel
theorem dX5_areMinutes_9 : decode cX5_areMinutes 9 = .ok (.ireturn, 1) := by decide +kernel
theorem dX5_passes_0 : decode cX5_passes 0 = .ok (.iconst 0, 1) := by decide +kernel
theorem dX5_passes_1 : decode cX5_passes 1 = .ok (.istore_n 2, 1) := by decide +kernel
theorem dX5_passes_2 : decode cX5_passes 2 = .ok (.iload_n 2, 1) := by decide +kernel
theorem dX5_passes_3 : decode cX5_passes 3 = .ok (.iload_n 1, 1) := by decide +kernel
theorem dX5_passes_4 : decode cX5_passes 4 = .ok (.if_icmp .ge 16, 3) := by decide +kernel
theorem dX5_passes_7 : decode cX5_passes 7 = .ok (.aload_n 0, 1) := by decide +kernel
theorem dX5_passes_8 : decode cX5_passes 8 = .ok (.getfield 7, 3) := by decide +kernel
theorem dX5_passes_11 : decode cX5_passes 11 = .ok (.invokestatic 144, 3) := by decide +kernel
theorem dX5_passes_14 : decode cX5_passes 14 = .ok (.iinc 2 1, 3) := by decide +kernel
theorem dX5_passes_17 : decode cX5_passes 17 = .ok (.goto (-15), 3) := by decide +kernel
theorem dX5_passes_20 : decode cX5_passes 20 = .ok (.return_, 1) := by decide +kernel
theorem dX5_pass_0 : decode cX5_pass 0 = .ok (.iload_n 1, 1) := by decide +kernel
theorem dX5_pass_1 : decode cX5_pass 1 = .ok (.invokestatic 148, 3) := by decide +kernel
theorem dX5_pass_4 : decode cX5_pass 4 = .ok (.ifCond .ne 6, 3) := by decide +kernel
theorem dX5_pass_7 : decode cX5_pass 7 = .ok (.bipush (-2), 2) := by decide +kernel
theorem dX5_pass_9 : decode cX5_pass 9 = .ok (.ireturn, 1) := by decide +kernel
theorem dX5_pass_10 : decode cX5_pass 10 = .ok (.aload_n 0, 1) := by decide +kernel
theorem dX5_pass_11 : decode cX5_pass 11 = .ok (.invokevirtual 65, 3) := by decide +kernel
theorem dX5_pass_14 : decode cX5_pass 14 = .ok (.aload_n 0, 1) := by decide +kernel
theorem dX5_pass_15 : decode cX5_pass 15 = .ok (.iload_n 1, 1) := by decide +kernel
theorem dX5_pass_16 : decode cX5_pass 16 = .ok (.invokevirtual 151, 3) := by decide +kernel
theorem dX5_pass_19 : decode cX5_pass 19 = .ok (.aload_n 0, 1) := by decide +kernel
theorem dX5_pass_20 : decode cX5_pass 20 = .ok (.getfield 7, 3) := by decide +kernel
theorem dX5_pass_23 : decode cX5_pass 23 = .ok (.iconst 0, 1) := by decide +kernel
theorem dX5_pass_24 : decode cX5_pass 24 = .ok (.laload, 1) := by decide +kernel
theorem dX5_pass_25 : decode cX5_pass 25 = .ok (.l2i, 1) := by decide +kernel
theorem dX5_pass_26 : decode cX5_pass 26 = .ok (.ireturn, 1) := by decide +kernel
theorem dX5_ofDrive_0 : decode cX5_ofDrive 0 = .ok (.iload_n 1, 1) := by decide +kernel
theorem dX5_ofDrive_1 : decode cX5_ofDrive 1 = .ok (.invokestatic 107, 3) := by decide +kernel
theorem dX5_ofDrive_4 : decode cX5_ofDrive 4 = .ok (.ifCond .ne 5, 3) := by decide +kernel
theorem dX5_ofDrive_7 : decode cX5_ofDrive 7 = .ok (.iconst (-1), 1) := by decide +kernel
theorem dX5_ofDrive_8 : decode cX5_ofDrive 8 = .ok (.ireturn, 1) := by decide +kernel
theorem dX5_ofDrive_9 : decode cX5_ofDrive 9 = .ok (.iload_n 2, 1) := by decide +kernel
theorem dX5_ofDrive_10 : decode cX5_ofDrive 10 = .ok (.i2l, 1) := by decide +kernel
theorem dX5_ofDrive_11 : decode cX5_ofDrive 11 = .ok (.lconst 0, 1) := by decide +kernel
theorem dX5_ofDrive_12 : decode cX5_ofDrive 12 = .ok (.ldc2_w 155, 3) := by decide +kernel
theorem dX5_ofDrive_15 : decode cX5_ofDrive 15 = .ok (.invokestatic 51, 3) := by decide +kernel
theorem dX5_ofDrive_18 : decode cX5_ofDrive 18 = .ok (.ifCond .ne 6, 3) := by decide +kernel
theorem dX5_ofDrive_21 : decode cX5_ofDrive 21 = .ok (.bipush (-2), 2) := by decide +kernel
theorem dX5_ofDrive_23 : decode cX5_ofDrive 23 = .ok (.ireturn, 1) := by decide +kernel
theorem dX5_ofDrive_24 : decode cX5_ofDrive 24 = .ok (.iload_n 1, 1) := by decide +kernel
theorem dX5_ofDrive_25 : decode cX5_ofDrive 25 = .ok (.invokestatic 45, 3) := by decide +kernel
theorem dX5_ofDrive_28 : decode cX5_ofDrive 28 = .ok (.istore_n 3, 1) := by decide +kernel
theorem dX5_ofDrive_29 : decode cX5_ofDrive 29 = .ok (.iload_n 2, 1) := by decide +kernel
theorem dX5_ofDrive_30 : decode cX5_ofDrive 30 = .ok (.iconst 4, 1) := by decide +kernel
theorem dX5_ofDrive_31 : decode cX5_ofDrive 31 = .ok (.if_icmp .ge 13, 3) := by decide +kernel
theorem dX5_ofDrive_34 : decode cX5_ofDrive 34 = .ok (.aload_n 0, 1) := by decide +kernel
theorem dX5_ofDrive_35 : decode cX5_ofDrive 35 = .ok (.getfield 7, 3) := by decide +kernel
theorem dX5_ofDrive_38 : decode cX5_ofDrive 38 = .ok (.iload_n 3, 1) := by decide +kernel
theorem dX5_ofDrive_39 : decode cX5_ofDrive 39 = .ok (.iload_n 2, 1) := by decide +kernel
theorem dX5_ofDrive_40 : decode cX5_ofDrive 40 = .ok (.iadd, 1) := by decide +kernel
theorem dX5_ofDrive_41 : decode cX5_ofDrive 41 = .ok (.laload, 1) := by decide +kernel
theorem dX5_ofDrive_42 : decode cX5_ofDrive 42 = .ok (.l2i, 1) := by decide +kernel
theorem dX5_ofDrive_43 : decode cX5_ofDrive 43 = .ok (.ireturn, 1) := by decide +kernel
theorem dX5_ofDrive_44 : decode cX5_ofDrive 44 = .ok (.iload_n 2, 1) := by decide +kernel
theorem dX5_ofDrive_45 : decode cX5_ofDrive 45 = .ok (.bipush 9, 2) := by decide +kernel
theorem dX5_ofDrive_47 : decode cX5_ofDrive 47 = .ok (.if_icmp .ge 39, 3) := by decide +kernel
theorem dX5_ofDrive_50 : decode cX5_ofDrive 50 = .ok (.iload_n 2, 1) := by decide +kernel
theorem dX5_ofDrive_51 : decode cX5_ofDrive 51 = .ok (.iconst 4, 1) := by decide +kernel
theorem dX5_ofDrive_52 : decode cX5_ofDrive 52 = .ok (.if_icmp .ne 22, 3) := by decide +kernel
theorem dX5_ofDrive_55 : decode cX5_ofDrive 55 = .ok (.aload_n 0, 1) := by decide +kernel
theorem dX5_ofDrive_56 : decode cX5_ofDrive 56 = .ok (.getfield 7, 3) := by decide +kernel
theorem dX5_ofDrive_59 : decode cX5_ofDrive 59 = .ok (.iload_n 1, 1) := by decide +kernel
theorem dX5_ofDrive_60 : decode cX5_ofDrive 60 = .ok (.invokestatic 82, 3) := by decide +kernel
theorem dX5_ofDrive_63 : decode cX5_ofDrive 63 = .ok (.ifCond .eq 7, 3) := by decide +kernel
theorem dX5_ofDrive_66 : decode cX5_ofDrive 66 = .ok (.iconst 1, 1) := by decide +kernel
theorem dX5_ofDrive_67 : decode cX5_ofDrive 67 = .ok (.goto 18, 3) := by decide +kernel
theorem dX5_ofDrive_70 : decode cX5_ofDrive 70 = .ok (.iconst 0, 1) := by decide +kernel
theorem dX5_ofDrive_71 : decode cX5_ofDrive 71 = .ok (.goto 14, 3) := by decide +kernel
theorem dX5_ofDrive_74 : decode cX5_ofDrive 74 = .ok (.aload_n 0, 1) := by decide +kernel
theorem dX5_ofDrive_75 : decode cX5_ofDrive 75 = .ok (.getfield 7, 3) := by decide +kernel
theorem dX5_ofDrive_78 : decode cX5_ofDrive 78 = .ok (.iload_n 3, 1) := by decide +kernel
theorem dX5_ofDrive_79 : decode cX5_ofDrive 79 = .ok (.iload_n 2, 1) := by decide +kernel
theorem dX5_ofDrive_80 : decode cX5_ofDrive 80 = .ok (.iadd, 1) := by decide +kernel
theorem dX5_ofDrive_81 : decode cX5_ofDrive 81 = .ok (.iconst 1, 1) := by decide +kernel
theorem dX5_ofDrive_82 : decode cX5_ofDrive 82 = .ok (.isub, 1) := by decide +kernel
theorem dX5_ofDrive_83 : decode cX5_ofDrive 83 = .ok (.laload, 1) := by decide +kernel
theorem dX5_ofDrive_84 : decode cX5_ofDrive 84 = .ok (.l2i, 1) := by decide +kernel
theorem dX5_ofDrive_85 : decode cX5_ofDrive 85 = .ok (.ireturn, 1) := by decide +kernel
theorem dX5_ofDrive_86 : decode cX5_ofDrive 86 = .ok (.iload_n 2, 1) := by decide +kernel
theorem dX5_ofDrive_87 : decode cX5_ofDrive 87 = .ok (.bipush 12, 2) := by decide +kernel
theorem dX5_ofDrive_89 : decode cX5_ofDrive 89 = .ok (.if_icmp .ge 25, 3) := by decide +kernel
theorem dX5_ofDrive_92 : decode cX5_ofDrive 92 = .ok (.aload_n 0, 1) := by decide +kernel
theorem dX5_ofDrive_93 : decode cX5_ofDrive 93 = .ok (.iload_n 1, 1) := by decide +kernel
theorem dX5_ofDrive_94 : decode cX5_ofDrive 94 = .ok (.iload_n 2, 1) := by decide +kernel
theorem dX5_ofDrive_95 : decode cX5_ofDrive 95 = .ok (.bipush 9, 2) := by decide +kernel
theorem dX5_ofDrive_97 : decode cX5_ofDrive 97 = .ok (.if_icmp .ne 7, 3) := by decide +kernel
theorem dX5_ofDrive_100 : decode cX5_ofDrive 100 = .ok (.iconst 0, 1) := by decide +kernel
theorem dX5_ofDrive_101 : decode cX5_ofDrive 101 = .ok (.goto 7, 3) := by decide +kernel
theorem dX5_ofDrive_104 : decode cX5_ofDrive 104 = .ok (.iload_n 2, 1) := by decide +kernel
theorem dX5_ofDrive_105 : decode cX5_ofDrive 105 = .ok (.bipush 8, 2) := by decide +kernel
theorem dX5_ofDrive_107 : decode cX5_ofDrive 107 = .ok (.isub, 1) := by decide +kernel
theorem dX5_ofDrive_108 : decode cX5_ofDrive 108 = .ok (.invokevirtual 132, 3) := by decide +kernel
theorem dX5_ofDrive_111 : decode cX5_ofDrive 111 = .ok (.goto 18, 3) := by decide +kernel
theorem dX5_ofDrive_114 : decode cX5_ofDrive 114 = .ok (.aload_n 0, 1) := by decide +kernel
theorem dX5_ofDrive_115 : decode cX5_ofDrive 115 = .ok (.getfield 7, 3) := by decide +kernel
theorem dX5_ofDrive_118 : decode cX5_ofDrive 118 = .ok (.iload_n 3, 1) := by decide +kernel
theorem dX5_ofDrive_119 : decode cX5_ofDrive 119 = .ok (.bipush 8, 2) := by decide +kernel
theorem dX5_ofDrive_121 : decode cX5_ofDrive 121 = .ok (.iadd, 1) := by decide +kernel
theorem dX5_ofDrive_122 : decode cX5_ofDrive 122 = .ok (.iload_n 2, 1) := by decide +kernel
theorem dX5_ofDrive_123 : decode cX5_ofDrive 123 = .ok (.iadd, 1) := by decide +kernel
theorem dX5_ofDrive_124 : decode cX5_ofDrive 124 = .ok (.bipush 12, 2) := by decide +kernel
theorem dX5_ofDrive_126 : decode cX5_ofDrive 126 = .ok (.isub, 1) := by decide +kernel
theorem dX5_ofDrive_127 : decode cX5_ofDrive 127 = .ok (.laload, 1) := by decide +kernel
theorem dX5_ofDrive_128 : decode cX5_ofDrive 128 = .ok (.l2i, 1) := by decide +kernel
theorem dX5_ofDrive_129 : decode cX5_ofDrive 129 = .ok (.ireturn, 1) := by decide +kernel
theorem dX5_hour_0 : decode cX5_hour 0 = .ok (.iload_n 1, 1) := by decide +kernel
theorem dX5_hour_1 : decode cX5_hour 1 = .ok (.invokestatic 107, 3) := by decide +kernel
theorem dX5_hour_4 : decode cX5_hour 4 = .ok (.ifCond .ne 5, 3) := by decide +kernel
theorem dX5_hour_7 : decode cX5_hour 7 = .ok (.iconst (-1), 1) := by decide +kernel
theorem dX5_hour_8 : decode cX5_hour 8 = .ok (.ireturn, 1) := by decide +kernel
theorem dX5_hour_9 : decode cX5_hour 9 = .ok (.iload_n 2, 1) := by decide +kernel
theorem dX5_hour_10 : decode cX5_hour 10 = .ok (.invokestatic 129, 3) := by decide +kernel
theorem dX5_hour_13 : decode cX5_hour 13 = .ok (.ifCond .eq 16, 3) := by decide +kernel
theorem dX5_hour_16 : decode cX5_hour 16 = .ok (.aload_n 0, 1) := by decide +kernel
theorem dX5_hour_17 : decode cX5_hour 17 = .ok (.getfield 7, 3) := by decide +kernel
theorem dX5_hour_20 : decode cX5_hour 20 = .ok (.iload_n 1, 1) := by decide +kernel
theorem dX5_hour_21 : decode cX5_hour 21 = .ok (.iload_n 2, 1) := by decide +kernel
theorem dX5_hour_22 : decode cX5_hour 22 = .ok (.i2l, 1) := by decide +kernel
theorem dX5_hour_23 : decode cX5_hour 23 = .ok (.invokestatic 70, 3) := by decide +kernel
theorem dX5_hour_26 : decode cX5_hour 26 = .ok (.goto 5, 3) := by decide +kernel
theorem dX5_hour_29 : decode cX5_hour 29 = .ok (.bipush (-2), 2) := by decide +kernel
theorem dX5_hour_31 : decode cX5_hour 31 = .ok (.ireturn, 1) := by decide +kernel
theorem dX5_streak_0 : decode cX5_streak 0 = .ok (.iload_n 1, 1) := by decide +kernel
theorem dX5_streak_1 : decode cX5_streak 1 = .ok (.invokestatic 107, 3) := by decide +kernel
theorem dX5_streak_4 : decode cX5_streak 4 = .ok (.ifCond .ne 5, 3) := by decide +kernel
theorem dX5_streak_7 : decode cX5_streak 7 = .ok (.iconst (-1), 1) := by decide +kernel
theorem dX5_streak_8 : decode cX5_streak 8 = .ok (.ireturn, 1) := by decide +kernel
theorem dX5_streak_9 : decode cX5_streak 9 = .ok (.iconst 0, 1) := by decide +kernel
theorem dX5_streak_10 : decode cX5_streak 10 = .ok (.istore_n 2, 1) := by decide +kernel
theorem dX5_streak_11 : decode cX5_streak 11 = .ok (.iconst 0, 1) := by decide +kernel
theorem dX5_streak_12 : decode cX5_streak 12 = .ok (.istore_n 3, 1) := by decide +kernel
theorem dX5_streak_13 : decode cX5_streak 13 = .ok (.iload_n 3, 1) := by decide +kernel
theorem dX5_streak_14 : decode cX5_streak 14 = .ok (.bipush 100, 2) := by decide +kernel
theorem dX5_streak_16 : decode cX5_streak 16 = .ok (.if_icmp .ge 45, 3) := by decide +kernel
theorem dX5_streak_19 : decode cX5_streak 19 = .ok (.aload_n 0, 1) := by decide +kernel
theorem dX5_streak_20 : decode cX5_streak 20 = .ok (.getfield 7, 3) := by decide +kernel
theorem dX5_streak_23 : decode cX5_streak 23 = .ok (.iload_n 1, 1) := by decide +kernel
theorem dX5_streak_24 : decode cX5_streak 24 = .ok (.iload_n 3, 1) := by decide +kernel
theorem dX5_streak_25 : decode cX5_streak 25 = .ok (.i2l, 1) := by decide +kernel
theorem dX5_streak_26 : decode cX5_streak 26 = .ok (.invokestatic 70, 3) := by decide +kernel
theorem dX5_streak_29 : decode cX5_streak 29 = .ok (.istore 4, 2) := by decide +kernel
theorem dX5_streak_31 : decode cX5_streak 31 = .ok (.iload 4, 2) := by decide +kernel
theorem dX5_streak_33 : decode cX5_streak 33 = .ok (.iconst 3, 1) := by decide +kernel
theorem dX5_streak_34 : decode cX5_streak 34 = .ok (.if_icmp .ne 7, 3) := by decide +kernel
theorem dX5_streak_37 : decode cX5_streak 37 = .ok (.iconst 0, 1) := by decide +kernel
theorem dX5_streak_38 : decode cX5_streak 38 = .ok (.goto 16, 3) := by decide +kernel
theorem dX5_streak_41 : decode cX5_streak 41 = .ok (.iload 4, 2) := by decide +kernel
theorem dX5_streak_43 : decode cX5_streak 43 = .ok (.iconst 2, 1) := by decide +kernel
theorem dX5_streak_44 : decode cX5_streak 44 = .ok (.if_icmp .ne 9, 3) := by decide +kernel
theorem dX5_streak_47 : decode cX5_streak 47 = .ok (.iload_n 2, 1) := by decide +kernel
theorem dX5_streak_48 : decode cX5_streak 48 = .ok (.iconst 1, 1) := by decide +kernel
theorem dX5_streak_49 : decode cX5_streak 49 = .ok (.iadd, 1) := by decide +kernel
theorem dX5_streak_50 : decode cX5_streak 50 = .ok (.goto 4, 3) := by decide +kernel
theorem dX5_streak_53 : decode cX5_streak 53 = .ok (.iload_n 2, 1) := by decide +kernel
theorem dX5_streak_54 : decode cX5_streak 54 = .ok (.istore_n 2, 1) := by decide +kernel
theorem dX5_streak_55 : decode cX5_streak 55 = .ok (.iinc 3 1, 3) := by decide +kernel
theorem dX5_streak_58 : decode cX5_streak 58 = .ok (.goto (-45), 3) := by decide +kernel
theorem dX5_streak_61 : decode cX5_streak 61 = .ok (.iload_n 2, 1) := by decide +kernel
theorem dX5_streak_62 : decode cX5_streak 62 = .ok (.ireturn, 1) := by decide +kernel
theorem dX5_share_0 : decode cX5_share 0 = .ok (.iload_n 1, 1) := by decide +kernel
theorem dX5_share_1 : decode cX5_share 1 = .ok (.invokestatic 107, 3) := by decide +kernel
theorem dX5_share_4 : decode cX5_share 4 = .ok (.ifCond .ne 5, 3) := by decide +kernel
theorem dX5_share_7 : decode cX5_share 7 = .ok (.iconst (-1), 1) := by decide +kernel
theorem dX5_share_8 : decode cX5_share 8 = .ok (.ireturn, 1) := by decide +kernel
theorem dX5_share_9 : decode cX5_share 9 = .ok (.aload_n 0, 1) := by decide +kernel
theorem dX5_share_10 : decode cX5_share 10 = .ok (.iload_n 1, 1) := by decide +kernel
theorem dX5_share_11 : decode cX5_share 11 = .ok (.iconst 2, 1) := by decide +kernel
theorem dX5_share_12 : decode cX5_share 12 = .ok (.invokevirtual 132, 3) := by decide +kernel
theorem dX5_share_15 : decode cX5_share 15 = .ok (.istore_n 2, 1) := by decide +kernel
theorem dX5_share_16 : decode cX5_share 16 = .ok (.iload_n 2, 1) := by decide +kernel
theorem dX5_share_17 : decode cX5_share 17 = .ok (.aload_n 0, 1) := by decide +kernel
theorem dX5_share_18 : decode cX5_share 18 = .ok (.iload_n 1, 1) := by decide +kernel
theorem dX5_share_19 : decode cX5_share 19 = .ok (.iconst 3, 1) := by decide +kernel
theorem dX5_share_20 : decode cX5_share 20 = .ok (.invokevirtual 132, 3) := by decide +kernel
theorem dX5_share_23 : decode cX5_share 23 = .ok (.iadd, 1) := by decide +kernel
theorem dX5_share_24 : decode cX5_share 24 = .ok (.istore_n 3, 1) := by decide +kernel
theorem dX5_share_25 : decode cX5_share 25 = .ok (.iload_n 3, 1) := by decide +kernel
theorem dX5_share_26 : decode cX5_share 26 = .ok (.ifCond .ne 8, 3) := by decide +kernel
theorem dX5_share_29 : decode cX5_share 29 = .ok (.bipush (-6), 2) := by decide +kernel
theorem dX5_share_31 : decode cX5_share 31 = .ok (.goto 12, 3) := by decide +kernel
theorem dX5_share_34 : decode cX5_share 34 = .ok (.iload_n 2, 1) := by decide +kernel
theorem dX5_share_35 : decode cX5_share 35 = .ok (.i2d, 1) := by decide +kernel
theorem dX5_share_36 : decode cX5_share 36 = .ok (.iload_n 3, 1) := by decide +kernel
theorem dX5_share_37 : decode cX5_share 37 = .ok (.i2d, 1) := by decide +kernel
theorem dX5_share_38 : decode cX5_share 38 = .ok (.ddiv, 1) := by decide +kernel
theorem dX5_share_39 : decode cX5_share 39 = .ok (.d2f, 1) := by decide +kernel
theorem dX5_share_40 : decode cX5_share 40 = .ok (.invokestatic 157, 3) := by decide +kernel
theorem dX5_share_43 : decode cX5_share 43 = .ok (.ireturn, 1) := by decide +kernel
theorem dX5_mean_0 : decode cX5_mean 0 = .ok (.iload_n 1, 1) := by decide +kernel
theorem dX5_mean_1 : decode cX5_mean 1 = .ok (.invokestatic 107, 3) := by decide +kernel
theorem dX5_mean_4 : decode cX5_mean 4 = .ok (.ifCond .ne 7, 3) := by decide +kernel
theorem dX5_mean_7 : decode cX5_mean 7 = .ok (.ldc2_w 163, 3) := by decide +kernel
theorem dX5_mean_10 : decode cX5_mean 10 = .ok (.lreturn, 1) := by decide +kernel
theorem dX5_mean_11 : decode cX5_mean 11 = .ok (.aload_n 0, 1) := by decide +kernel
theorem dX5_mean_12 : decode cX5_mean 12 = .ok (.getfield 7, 3) := by decide +kernel
theorem dX5_mean_15 : decode cX5_mean 15 = .ok (.iconst 0, 1) := by decide +kernel
theorem dX5_mean_16 : decode cX5_mean 16 = .ok (.laload, 1) := by decide +kernel
theorem dX5_mean_17 : decode cX5_mean 17 = .ok (.lconst 0, 1) := by decide +kernel
theorem dX5_mean_18 : decode cX5_mean 18 = .ok (.lcmp, 1) := by decide +kernel
theorem dX5_mean_19 : decode cX5_mean 19 = .ok (.ifCond .ne 7, 3) := by decide +kernel
theorem dX5_mean_22 : decode cX5_mean 22 = .ok (.lconst 0, 1) := by decide +kernel
theorem dX5_mean_23 : decode cX5_mean 23 = .ok (.goto 27, 3) := by decide +kernel
theorem dX5_mean_26 : decode cX5_mean 26 = .ok (.aload_n 0, 1) := by decide +kernel
theorem dX5_mean_27 : decode cX5_mean 27 = .ok (.getfield 7, 3) := by decide +kernel
theorem dX5_mean_30 : decode cX5_mean 30 = .ok (.iload_n 1, 1) := by decide +kernel
theorem dX5_mean_31 : decode cX5_mean 31 = .ok (.invokestatic 45, 3) := by decide +kernel
theorem dX5_mean_34 : decode cX5_mean 34 = .ok (.bipush 10, 2) := by decide +kernel
theorem dX5_mean_36 : decode cX5_mean 36 = .ok (.iadd, 1) := by decide +kernel
theorem dX5_mean_37 : decode cX5_mean 37 = .ok (.laload, 1) := by decide +kernel
theorem dX5_mean_38 : decode cX5_mean 38 = .ok (.l2d, 1) := by decide +kernel
theorem dX5_mean_39 : decode cX5_mean 39 = .ok (.aload_n 0, 1) := by decide +kernel
theorem dX5_mean_40 : decode cX5_mean 40 = .ok (.getfield 7, 3) := by decide +kernel
theorem dX5_mean_43 : decode cX5_mean 43 = .ok (.iconst 0, 1) := by decide +kernel
theorem dX5_mean_44 : decode cX5_mean 44 = .ok (.laload, 1) := by decide +kernel
theorem dX5_mean_45 : decode cX5_mean 45 = .ok (.l2d, 1) := by decide +kernel
theorem dX5_mean_46 : decode cX5_mean 46 = .ok (.ddiv, 1) := by decide +kernel
theorem dX5_mean_47 : decode cX5_mean 47 = .ok (.invokestatic 165, 3) := by decide +kernel
theorem dX5_mean_50 : decode cX5_mean 50 = .ok (.lreturn, 1) := by decide +kernel
theorem dX5_count_0 : decode cX5_count 0 = .ok (.iload_n 1, 1) := by decide +kernel
theorem dX5_count_1 : decode cX5_count 1 = .ok (.i2l, 1) := by decide +kernel
theorem dX5_count_2 : decode cX5_count 2 = .ok (.lconst 0, 1) := by decide +kernel
theorem dX5_count_3 : decode cX5_count 3 = .ok (.ldc2_w 171, 3) := by decide +kernel
theorem dX5_count_6 : decode cX5_count 6 = .ok (.invokestatic 51, 3) := by decide +kernel
theorem dX5_count_9 : decode cX5_count 9 = .ok (.ifCond .ne 6, 3) := by decide +kernel
theorem dX5_count_12 : decode cX5_count 12 = .ok (.bipush (-2), 2) := by decide +kernel
theorem dX5_count_14 : decode cX5_count 14 = .ok (.ireturn, 1) := by decide +kernel
theorem dX5_count_15 : decode cX5_count 15 = .ok (.iload_n 1, 1) := by decide +kernel
theorem dX5_count_16 : decode cX5_count 16 = .ok (.iconst 2, 1) := by decide +kernel
theorem dX5_count_17 : decode cX5_count 17 = .ok (.if_icmp .ge 28, 3) := by decide +kernel
theorem dX5_count_20 : decode cX5_count 20 = .ok (.iload_n 1, 1) := by decide +kernel
theorem dX5_count_21 : decode cX5_count 21 = .ok (.ifCond .ne 12, 3) := by decide +kernel
theorem dX5_count_24 : decode cX5_count 24 = .ok (.aload_n 0, 1) := by decide +kernel
theorem dX5_count_25 : decode cX5_count 25 = .ok (.getfield 7, 3) := by decide +kernel
theorem dX5_count_28 : decode cX5_count 28 = .ok (.iconst 0, 1) := by decide +kernel
theorem dX5_count_29 : decode cX5_count 29 = .ok (.laload, 1) := by decide +kernel
theorem dX5_count_30 : decode cX5_count 30 = .ok (.goto 13, 3) := by decide +kernel
theorem dX5_count_33 : decode cX5_count 33 = .ok (.aload_n 0, 1) := by decide +kernel
theorem dX5_count_34 : decode cX5_count 34 = .ok (.getfield 7, 3) := by decide +kernel
theorem dX5_count_37 : decode cX5_count 37 = .ok (.iconst 0, 1) := by decide +kernel
theorem dX5_count_38 : decode cX5_count 38 = .ok (.laload, 1) := by decide +kernel
theorem dX5_count_39 : decode cX5_count 39 = .ok (.ldc2_w 33, 3) := by decide +kernel
theorem dX5_count_42 : decode cX5_count 42 = .ok (.ldiv, 1) := by decide +kernel
theorem dX5_count_43 : decode cX5_count 43 = .ok (.l2i, 1) := by decide +kernel
theorem dX5_count_44 : decode cX5_count 44 = .ok (.ireturn, 1) := by decide +kernel
theorem dX5_count_45 : decode cX5_count 45 = .ok (.iload_n 1, 1) := by decide +kernel
theorem dX5_count_46 : decode cX5_count 46 = .ok (.bipush 6, 2) := by decide +kernel
theorem dX5_count_48 : decode cX5_count 48 = .ok (.if_icmp .ge 17, 3) := by decide +kernel
theorem dX5_count_51 : decode cX5_count 51 = .ok (.aload_n 0, 1) := by decide +kernel
theorem dX5_count_52 : decode cX5_count 52 = .ok (.getfield 7, 3) := by decide +kernel
theorem dX5_count_55 : decode cX5_count 55 = .ok (.iconst 1, 1) := by decide +kernel
theorem dX5_count_56 : decode cX5_count 56 = .ok (.iload_n 1, 1) := by decide +kernel
theorem dX5_count_57 : decode cX5_count 57 = .ok (.iadd, 1) := by decide +kernel
theorem dX5_count_58 : decode cX5_count 58 = .ok (.iconst 2, 1) := by decide +kernel
theorem dX5_count_59 : decode cX5_count 59 = .ok (.isub, 1) := by decide +kernel
theorem dX5_count_60 : decode cX5_count 60 = .ok (.laload, 1) := by decide +kernel
theorem dX5_count_61 : decode cX5_count 61 = .ok (.l2i, 1) := by decide +kernel
theorem dX5_count_62 : decode cX5_count 62 = .ok (.goto 41, 3) := by decide +kernel
theorem dX5_count_65 : decode cX5_count 65 = .ok (.iload_n 1, 1) := by decide +kernel
theorem dX5_count_66 : decode cX5_count 66 = .ok (.bipush 13, 2) := by decide +kernel
theorem dX5_count_68 : decode cX5_count 68 = .ok (.if_icmp .ge 18, 3) := by decide +kernel
theorem dX5_count_71 : decode cX5_count 71 = .ok (.aload_n 0, 1) := by decide +kernel
theorem dX5_count_72 : decode cX5_count 72 = .ok (.getfield 7, 3) := by decide +kernel
theorem dX5_count_75 : decode cX5_count 75 = .ok (.iconst 5, 1) := by decide +kernel
theorem dX5_count_76 : decode cX5_count 76 = .ok (.iload_n 1, 1) := by decide +kernel
theorem dX5_count_77 : decode cX5_count 77 = .ok (.iadd, 1) := by decide +kernel
theorem dX5_count_78 : decode cX5_count 78 = .ok (.bipush 6, 2) := by decide +kernel
theorem dX5_count_80 : decode cX5_count 80 = .ok (.isub, 1) := by decide +kernel
theorem dX5_count_81 : decode cX5_count 81 = .ok (.laload, 1) := by decide +kernel
theorem dX5_count_82 : decode cX5_count 82 = .ok (.l2i, 1) := by decide +kernel
theorem dX5_count_83 : decode cX5_count 83 = .ok (.goto 20, 3) := by decide +kernel
theorem dX5_count_86 : decode cX5_count 86 = .ok (.iload_n 1, 1) := by decide +kernel
theorem dX5_count_87 : decode cX5_count 87 = .ok (.bipush 13, 2) := by decide +kernel
theorem dX5_count_89 : decode cX5_count 89 = .ok (.if_icmp .ne 10, 3) := by decide +kernel
theorem dX5_count_92 : decode cX5_count 92 = .ok (.aload_n 0, 1) := by decide +kernel
theorem dX5_count_93 : decode cX5_count 93 = .ok (.getfield 173, 3) := by decide +kernel
theorem dX5_count_96 : decode cX5_count 96 = .ok (.goto 7, 3) := by decide +kernel
theorem dX5_count_99 : decode cX5_count 99 = .ok (.aload_n 0, 1) := by decide +kernel
theorem dX5_count_100 : decode cX5_count 100 = .ok (.getfield 57, 3) := by decide +kernel
theorem dX5_count_103 : decode cX5_count 103 = .ok (.ireturn, 1) := by decide +kernel
theorem dX5_tries_0 : decode cX5_tries 0 = .ok (.aload_n 0, 1) := by decide +kernel
theorem dX5_tries_1 : decode cX5_tries 1 = .ok (.getfield 7, 3) := by decide +kernel
theorem dX5_tries_4 : decode cX5_tries 4 = .ok (.iconst 0, 1) := by decide +kernel
theorem dX5_tries_5 : decode cX5_tries 5 = .ok (.aload_n 0, 1) := by decide +kernel
theorem dX5_tries_6 : decode cX5_tries 6 = .ok (.getfield 13, 3) := by decide +kernel
theorem dX5_tries_9 : decode cX5_tries 9 = .ok (.iconst 0, 1) := by decide +kernel
theorem dX5_tries_10 : decode cX5_tries 10 = .ok (.invokestatic 61, 3) := by decide +kernel
theorem dX5_tries_13 : decode cX5_tries 13 = .ok (.return_, 1) := by decide +kernel
theorem dX5_mayAsk_0 : decode cX5_mayAsk 0 = .ok (.iload_n 0, 1) := by decide +kernel
theorem dX5_mayAsk_1 : decode cX5_mayAsk 1 = .ok (.invokestatic 107, 3) := by decide +kernel
theorem dX5_mayAsk_4 : decode cX5_mayAsk 4 = .ok (.ifCond .ne 7, 3) := by decide +kernel
theorem dX5_mayAsk_7 : decode cX5_mayAsk 7 = .ok (.iconst (-1), 1) := by decide +kernel
theorem dX5_mayAsk_8 : decode cX5_mayAsk 8 = .ok (.goto 16, 3) := by decide +kernel
end
section
theorem dX5_mayAsk_11 : decode cX5_mayAsk 11 = .ok (.iload_n 1, 1) := by decide +kernel
theorem dX5_mayAsk_12 : decode cX5_mayAsk 12 = .ok (.invokestatic 148, 3) := by decide +kernel
theorem dX5_mayAsk_15 : decode cX5_mayAsk 15 = .ok (.ifCond .eq 7, 3) := by decide +kernel
theorem dX5_mayAsk_18 : decode cX5_mayAsk 18 = .ok (.iconst 0, 1) := by decide +kernel
theorem dX5_mayAsk_19 : decode cX5_mayAsk 19 = .ok (.goto 5, 3) := by decide +kernel
theorem dX5_mayAsk_22 : decode cX5_mayAsk 22 = .ok (.bipush (-2), 2) := by decide +kernel
theorem dX5_mayAsk_24 : decode cX5_mayAsk 24 = .ok (.ireturn, 1) := by decide +kernel
theorem dX5_passesThen_0 : decode cX5_passesThen 0 = .ok (.lconst 0, 1) := by decide +kernel
theorem dX5_passesThen_1 : decode cX5_passesThen 1 = .ok (.lstore_n 3, 1) := by decide +kernel
theorem dX5_passesThen_2 : decode cX5_passesThen 2 = .ok (.iconst 0, 1) := by decide +kernel
theorem dX5_passesThen_3 : decode cX5_passesThen 3 = .ok (.istore 5, 2) := by decide +kernel
theorem dX5_passesThen_5 : decode cX5_passesThen 5 = .ok (.iload 5, 2) := by decide +kernel
theorem dX5_passesThen_7 : decode cX5_passesThen 7 = .ok (.iload_n 1, 1) := by decide +kernel
theorem dX5_passesThen_8 : decode cX5_passesThen 8 = .ok (.if_icmp .ge 48, 3) := by decide +kernel
theorem dX5_passesThen_11 : decode cX5_passesThen 11 = .ok (.aload_n 0, 1) := by decide +kernel
theorem dX5_passesThen_12 : decode cX5_passesThen 12 = .ok (.getfield 13, 3) := by decide +kernel
theorem dX5_passesThen_15 : decode cX5_passesThen 15 = .ok (.invokestatic 144, 3) := by decide +kernel
theorem dX5_passesThen_18 : decode cX5_passesThen 18 = .ok (.aload_n 0, 1) := by decide +kernel
theorem dX5_passesThen_19 : decode cX5_passesThen 19 = .ok (.getfield 13, 3) := by decide +kernel
theorem dX5_passesThen_22 : decode cX5_passesThen 22 = .ok (.iload_n 2, 1) := by decide +kernel
theorem dX5_passesThen_23 : decode cX5_passesThen 23 = .ok (.invokestatic 45, 3) := by decide +kernel
theorem dX5_passesThen_26 : decode cX5_passesThen 26 = .ok (.iconst 3, 1) := by decide +kernel
theorem dX5_passesThen_27 : decode cX5_passesThen 27 = .ok (.iadd, 1) := by decide +kernel
theorem dX5_passesThen_28 : decode cX5_passesThen 28 = .ok (.laload, 1) := by decide +kernel
theorem dX5_passesThen_29 : decode cX5_passesThen 29 = .ok (.lload_n 3, 1) := by decide +kernel
theorem dX5_passesThen_30 : decode cX5_passesThen 30 = .ok (.lcmp, 1) := by decide +kernel
theorem dX5_passesThen_31 : decode cX5_passesThen 31 = .ok (.ifCond .le 17, 3) := by decide +kernel
theorem dX5_passesThen_34 : decode cX5_passesThen 34 = .ok (.aload_n 0, 1) := by decide +kernel
theorem dX5_passesThen_35 : decode cX5_passesThen 35 = .ok (.getfield 13, 3) := by decide +kernel
theorem dX5_passesThen_38 : decode cX5_passesThen 38 = .ok (.iload_n 2, 1) := by decide +kernel
theorem dX5_passesThen_39 : decode cX5_passesThen 39 = .ok (.invokestatic 45, 3) := by decide +kernel
theorem dX5_passesThen_42 : decode cX5_passesThen 42 = .ok (.iconst 3, 1) := by decide +kernel
theorem dX5_passesThen_43 : decode cX5_passesThen 43 = .ok (.iadd, 1) := by decide +kernel
theorem dX5_passesThen_44 : decode cX5_passesThen 44 = .ok (.laload, 1) := by decide +kernel
theorem dX5_passesThen_45 : decode cX5_passesThen 45 = .ok (.goto 4, 3) := by decide +kernel
theorem dX5_passesThen_48 : decode cX5_passesThen 48 = .ok (.lload_n 3, 1) := by decide +kernel
theorem dX5_passesThen_49 : decode cX5_passesThen 49 = .ok (.lstore_n 3, 1) := by decide +kernel
theorem dX5_passesThen_50 : decode cX5_passesThen 50 = .ok (.iinc 5 1, 3) := by decide +kernel
theorem dX5_passesThen_53 : decode cX5_passesThen 53 = .ok (.goto (-48), 3) := by decide +kernel
theorem dX5_passesThen_56 : decode cX5_passesThen 56 = .ok (.lload_n 3, 1) := by decide +kernel
theorem dX5_passesThen_57 : decode cX5_passesThen 57 = .ok (.lreturn, 1) := by decide +kernel
theorem dX5_loudIn_0 : decode cX5_loudIn 0 = .ok (.iload_n 1, 1) := by decide +kernel
theorem dX5_loudIn_1 : decode cX5_loudIn 1 = .ok (.iload_n 2, 1) := by decide +kernel
theorem dX5_loudIn_2 : decode cX5_loudIn 2 = .ok (.invokestatic 176, 3) := by decide +kernel
theorem dX5_loudIn_5 : decode cX5_loudIn 5 = .ok (.istore_n 3, 1) := by decide +kernel
theorem dX5_loudIn_6 : decode cX5_loudIn 6 = .ok (.iload_n 3, 1) := by decide +kernel
theorem dX5_loudIn_7 : decode cX5_loudIn 7 = .ok (.ifCond .eq 5, 3) := by decide +kernel
theorem dX5_loudIn_10 : decode cX5_loudIn 10 = .ok (.iload_n 3, 1) := by decide +kernel
theorem dX5_loudIn_11 : decode cX5_loudIn 11 = .ok (.ireturn, 1) := by decide +kernel
theorem dX5_loudIn_12 : decode cX5_loudIn 12 = .ok (.aload_n 0, 1) := by decide +kernel
theorem dX5_loudIn_13 : decode cX5_loudIn 13 = .ok (.invokevirtual 179, 3) := by decide +kernel
theorem dX5_loudIn_16 : decode cX5_loudIn 16 = .ok (.aload_n 0, 1) := by decide +kernel
theorem dX5_loudIn_17 : decode cX5_loudIn 17 = .ok (.iload_n 2, 1) := by decide +kernel
theorem dX5_loudIn_18 : decode cX5_loudIn 18 = .ok (.iload_n 1, 1) := by decide +kernel
theorem dX5_loudIn_19 : decode cX5_loudIn 19 = .ok (.invokevirtual 182, 3) := by decide +kernel
theorem dX5_loudIn_22 : decode cX5_loudIn 22 = .ok (.pop2, 1) := by decide +kernel
theorem dX5_loudIn_23 : decode cX5_loudIn 23 = .ok (.aload_n 0, 1) := by decide +kernel
theorem dX5_loudIn_24 : decode cX5_loudIn 24 = .ok (.getfield 13, 3) := by decide +kernel
theorem dX5_loudIn_27 : decode cX5_loudIn 27 = .ok (.iload_n 1, 1) := by decide +kernel
theorem dX5_loudIn_28 : decode cX5_loudIn 28 = .ok (.invokestatic 45, 3) := by decide +kernel
theorem dX5_loudIn_31 : decode cX5_loudIn 31 = .ok (.bipush 7, 2) := by decide +kernel
theorem dX5_loudIn_33 : decode cX5_loudIn 33 = .ok (.iadd, 1) := by decide +kernel
theorem dX5_loudIn_34 : decode cX5_loudIn 34 = .ok (.laload, 1) := by decide +kernel
theorem dX5_loudIn_35 : decode cX5_loudIn 35 = .ok (.aload_n 0, 1) := by decide +kernel
theorem dX5_loudIn_36 : decode cX5_loudIn 36 = .ok (.getfield 7, 3) := by decide +kernel
theorem dX5_loudIn_39 : decode cX5_loudIn 39 = .ok (.iload_n 1, 1) := by decide +kernel
theorem dX5_loudIn_40 : decode cX5_loudIn 40 = .ok (.invokestatic 45, 3) := by decide +kernel
theorem dX5_loudIn_43 : decode cX5_loudIn 43 = .ok (.bipush 7, 2) := by decide +kernel
theorem dX5_loudIn_45 : decode cX5_loudIn 45 = .ok (.iadd, 1) := by decide +kernel
theorem dX5_loudIn_46 : decode cX5_loudIn 46 = .ok (.laload, 1) := by decide +kernel
theorem dX5_loudIn_47 : decode cX5_loudIn 47 = .ok (.lsub, 1) := by decide +kernel
theorem dX5_loudIn_48 : decode cX5_loudIn 48 = .ok (.l2i, 1) := by decide +kernel
theorem dX5_loudIn_49 : decode cX5_loudIn 49 = .ok (.ireturn, 1) := by decide +kernel
theorem dX5_freeIn_0 : decode cX5_freeIn 0 = .ok (.iload_n 1, 1) := by decide +kernel
theorem dX5_freeIn_1 : decode cX5_freeIn 1 = .ok (.iload_n 2, 1) := by decide +kernel
theorem dX5_freeIn_2 : decode cX5_freeIn 2 = .ok (.invokestatic 176, 3) := by decide +kernel
theorem dX5_freeIn_5 : decode cX5_freeIn 5 = .ok (.istore_n 3, 1) := by decide +kernel
theorem dX5_freeIn_6 : decode cX5_freeIn 6 = .ok (.iload_n 3, 1) := by decide +kernel
theorem dX5_freeIn_7 : decode cX5_freeIn 7 = .ok (.ifCond .eq 5, 3) := by decide +kernel
theorem dX5_freeIn_10 : decode cX5_freeIn 10 = .ok (.iload_n 3, 1) := by decide +kernel
theorem dX5_freeIn_11 : decode cX5_freeIn 11 = .ok (.ireturn, 1) := by decide +kernel
theorem dX5_freeIn_12 : decode cX5_freeIn 12 = .ok (.aload_n 0, 1) := by decide +kernel
theorem dX5_freeIn_13 : decode cX5_freeIn 13 = .ok (.invokevirtual 179, 3) := by decide +kernel
theorem dX5_freeIn_16 : decode cX5_freeIn 16 = .ok (.aload_n 0, 1) := by decide +kernel
theorem dX5_freeIn_17 : decode cX5_freeIn 17 = .ok (.iload_n 2, 1) := by decide +kernel
theorem dX5_freeIn_18 : decode cX5_freeIn 18 = .ok (.iload_n 1, 1) := by decide +kernel
theorem dX5_freeIn_19 : decode cX5_freeIn 19 = .ok (.invokevirtual 182, 3) := by decide +kernel
theorem dX5_freeIn_22 : decode cX5_freeIn 22 = .ok (.pop2, 1) := by decide +kernel
theorem dX5_freeIn_23 : decode cX5_freeIn 23 = .ok (.aload_n 0, 1) := by decide +kernel
theorem dX5_freeIn_24 : decode cX5_freeIn 24 = .ok (.getfield 13, 3) := by decide +kernel
theorem dX5_freeIn_27 : decode cX5_freeIn 27 = .ok (.iload_n 1, 1) := by decide +kernel
theorem dX5_freeIn_28 : decode cX5_freeIn 28 = .ok (.invokestatic 45, 3) := by decide +kernel
theorem dX5_freeIn_31 : decode cX5_freeIn 31 = .ok (.iconst 0, 1) := by decide +kernel
theorem dX5_freeIn_32 : decode cX5_freeIn 32 = .ok (.iadd, 1) := by decide +kernel
theorem dX5_freeIn_33 : decode cX5_freeIn 33 = .ok (.laload, 1) := by decide +kernel
theorem dX5_freeIn_34 : decode cX5_freeIn 34 = .ok (.l2i, 1) := by decide +kernel
theorem dX5_freeIn_35 : decode cX5_freeIn 35 = .ok (.ireturn, 1) := by decide +kernel
theorem dX5_mostHeld_0 : decode cX5_mostHeld 0 = .ok (.iload_n 1, 1) := by decide +kernel
theorem dX5_mostHeld_1 : decode cX5_mostHeld 1 = .ok (.iload_n 2, 1) := by decide +kernel
theorem dX5_mostHeld_2 : decode cX5_mostHeld 2 = .ok (.invokestatic 176, 3) := by decide +kernel
theorem dX5_mostHeld_5 : decode cX5_mostHeld 5 = .ok (.istore_n 3, 1) := by decide +kernel
theorem dX5_mostHeld_6 : decode cX5_mostHeld 6 = .ok (.iload_n 3, 1) := by decide +kernel
theorem dX5_mostHeld_7 : decode cX5_mostHeld 7 = .ok (.ifCond .eq 5, 3) := by decide +kernel
theorem dX5_mostHeld_10 : decode cX5_mostHeld 10 = .ok (.iload_n 3, 1) := by decide +kernel
theorem dX5_mostHeld_11 : decode cX5_mostHeld 11 = .ok (.ireturn, 1) := by decide +kernel
theorem dX5_mostHeld_12 : decode cX5_mostHeld 12 = .ok (.aload_n 0, 1) := by decide +kernel
theorem dX5_mostHeld_13 : decode cX5_mostHeld 13 = .ok (.invokevirtual 179, 3) := by decide +kernel
theorem dX5_mostHeld_16 : decode cX5_mostHeld 16 = .ok (.aload_n 0, 1) := by decide +kernel
theorem dX5_mostHeld_17 : decode cX5_mostHeld 17 = .ok (.iload_n 2, 1) := by decide +kernel
theorem dX5_mostHeld_18 : decode cX5_mostHeld 18 = .ok (.iload_n 1, 1) := by decide +kernel
theorem dX5_mostHeld_19 : decode cX5_mostHeld 19 = .ok (.invokevirtual 182, 3) := by decide +kernel
theorem dX5_mostHeld_22 : decode cX5_mostHeld 22 = .ok (.l2i, 1) := by decide +kernel
theorem dX5_mostHeld_23 : decode cX5_mostHeld 23 = .ok (.ireturn, 1) := by decide +kernel
theorem dX5_isSafe_0 : decode cX5_isSafe 0 = .ok (.aload_n 0, 1) := by decide +kernel
theorem dX5_isSafe_1 : decode cX5_isSafe 1 = .ok (.invokevirtual 179, 3) := by decide +kernel
theorem dX5_isSafe_4 : decode cX5_isSafe 4 = .ok (.aload_n 0, 1) := by decide +kernel
theorem dX5_isSafe_5 : decode cX5_isSafe 5 = .ok (.getfield 13, 3) := by decide +kernel
theorem dX5_isSafe_8 : decode cX5_isSafe 8 = .ok (.bipush 56, 2) := by decide +kernel
theorem dX5_isSafe_10 : decode cX5_isSafe 10 = .ok (.bipush 100, 2) := by decide +kernel
theorem dX5_isSafe_12 : decode cX5_isSafe 12 = .ok (.iload_n 1, 1) := by decide +kernel
theorem dX5_isSafe_13 : decode cX5_isSafe 13 = .ok (.imul, 1) := by decide +kernel
theorem dX5_isSafe_14 : decode cX5_isSafe 14 = .ok (.iadd, 1) := by decide +kernel
theorem dX5_isSafe_15 : decode cX5_isSafe 15 = .ok (.iload_n 2, 1) := by decide +kernel
theorem dX5_isSafe_16 : decode cX5_isSafe 16 = .ok (.iadd, 1) := by decide +kernel
theorem dX5_isSafe_17 : decode cX5_isSafe 17 = .ok (.lconst 1, 1) := by decide +kernel
theorem dX5_isSafe_18 : decode cX5_isSafe 18 = .ok (.lastore, 1) := by decide +kernel
theorem dX5_isSafe_19 : decode cX5_isSafe 19 = .ok (.aload_n 0, 1) := by decide +kernel
theorem dX5_isSafe_20 : decode cX5_isSafe 20 = .ok (.ldc2_w 33, 3) := by decide +kernel
theorem dX5_isSafe_23 : decode cX5_isSafe 23 = .ok (.iload_n 2, 1) := by decide +kernel
theorem dX5_isSafe_24 : decode cX5_isSafe 24 = .ok (.i2l, 1) := by decide +kernel
theorem dX5_isSafe_25 : decode cX5_isSafe 25 = .ok (.lmul, 1) := by decide +kernel
theorem dX5_isSafe_26 : decode cX5_isSafe 26 = .ok (.aload_n 0, 1) := by decide +kernel
theorem dX5_isSafe_27 : decode cX5_isSafe 27 = .ok (.getfield 7, 3) := by decide +kernel
theorem dX5_isSafe_30 : decode cX5_isSafe 30 = .ok (.iconst 0, 1) := by decide +kernel
theorem dX5_isSafe_31 : decode cX5_isSafe 31 = .ok (.laload, 1) := by decide +kernel
theorem dX5_isSafe_32 : decode cX5_isSafe 32 = .ok (.lsub, 1) := by decide +kernel
theorem dX5_isSafe_33 : decode cX5_isSafe 33 = .ok (.l2i, 1) := by decide +kernel
theorem dX5_isSafe_34 : decode cX5_isSafe 34 = .ok (.iload_n 1, 1) := by decide +kernel
theorem dX5_isSafe_35 : decode cX5_isSafe 35 = .ok (.invokevirtual 182, 3) := by decide +kernel
theorem dX5_isSafe_38 : decode cX5_isSafe 38 = .ok (.pop2, 1) := by decide +kernel
theorem dX5_isSafe_39 : decode cX5_isSafe 39 = .ok (.aload_n 0, 1) := by decide +kernel
theorem dX5_isSafe_40 : decode cX5_isSafe 40 = .ok (.getfield 13, 3) := by decide +kernel
theorem dX5_isSafe_43 : decode cX5_isSafe 43 = .ok (.invokestatic 186, 3) := by decide +kernel
theorem dX5_isSafe_46 : decode cX5_isSafe 46 = .ok (.lstore_n 3, 1) := by decide +kernel
theorem dX5_isSafe_47 : decode cX5_isSafe 47 = .ok (.aload_n 0, 1) := by decide +kernel
theorem dX5_isSafe_48 : decode cX5_isSafe 48 = .ok (.bipush 60, 2) := by decide +kernel
theorem dX5_isSafe_50 : decode cX5_isSafe 50 = .ok (.iload_n 1, 1) := by decide +kernel
theorem dX5_isSafe_51 : decode cX5_isSafe 51 = .ok (.invokevirtual 182, 3) := by decide +kernel
theorem dX5_isSafe_54 : decode cX5_isSafe 54 = .ok (.pop2, 1) := by decide +kernel
theorem dX5_isSafe_55 : decode cX5_isSafe 55 = .ok (.aload_n 0, 1) := by decide +kernel
theorem dX5_isSafe_56 : decode cX5_isSafe 56 = .ok (.getfield 13, 3) := by decide +kernel
theorem dX5_isSafe_59 : decode cX5_isSafe 59 = .ok (.invokestatic 186, 3) := by decide +kernel
theorem dX5_isSafe_62 : decode cX5_isSafe 62 = .ok (.lload_n 3, 1) := by decide +kernel
theorem dX5_isSafe_63 : decode cX5_isSafe 63 = .ok (.lcmp, 1) := by decide +kernel
theorem dX5_isSafe_64 : decode cX5_isSafe 64 = .ok (.ifCond .ne 7, 3) := by decide +kernel
theorem dX5_isSafe_67 : decode cX5_isSafe 67 = .ok (.iconst 1, 1) := by decide +kernel
theorem dX5_isSafe_68 : decode cX5_isSafe 68 = .ok (.goto 4, 3) := by decide +kernel
theorem dX5_isSafe_71 : decode cX5_isSafe 71 = .ok (.iconst 0, 1) := by decide +kernel
theorem dX5_isSafe_72 : decode cX5_isSafe 72 = .ok (.ireturn, 1) := by decide +kernel
theorem dX5_firstSafe_0 : decode cX5_firstSafe 0 = .ok (.iload_n 1, 1) := by decide +kernel
theorem dX5_firstSafe_1 : decode cX5_firstSafe 1 = .ok (.invokestatic 107, 3) := by decide +kernel
theorem dX5_firstSafe_4 : decode cX5_firstSafe 4 = .ok (.ifCond .ne 5, 3) := by decide +kernel
theorem dX5_firstSafe_7 : decode cX5_firstSafe 7 = .ok (.iconst (-1), 1) := by decide +kernel
theorem dX5_firstSafe_8 : decode cX5_firstSafe 8 = .ok (.ireturn, 1) := by decide +kernel
theorem dX5_firstSafe_9 : decode cX5_firstSafe 9 = .ok (.aload_n 0, 1) := by decide +kernel
theorem dX5_firstSafe_10 : decode cX5_firstSafe 10 = .ok (.getfield 7, 3) := by decide +kernel
theorem dX5_firstSafe_13 : decode cX5_firstSafe 13 = .ok (.iconst 0, 1) := by decide +kernel
theorem dX5_firstSafe_14 : decode cX5_firstSafe 14 = .ok (.laload, 1) := by decide +kernel
theorem dX5_firstSafe_15 : decode cX5_firstSafe 15 = .ok (.ldc2_w 33, 3) := by decide +kernel
theorem dX5_firstSafe_18 : decode cX5_firstSafe 18 = .ok (.ldiv, 1) := by decide +kernel
theorem dX5_firstSafe_19 : decode cX5_firstSafe 19 = .ok (.lconst 1, 1) := by decide +kernel
theorem dX5_firstSafe_20 : decode cX5_firstSafe 20 = .ok (.ladd, 1) := by decide +kernel
theorem dX5_firstSafe_21 : decode cX5_firstSafe 21 = .ok (.lstore_n 2, 1) := by decide +kernel
theorem dX5_firstSafe_22 : decode cX5_firstSafe 22 = .ok (.lload_n 2, 1) := by decide +kernel
theorem dX5_firstSafe_23 : decode cX5_firstSafe 23 = .ok (.lstore 4, 2) := by decide +kernel
theorem dX5_firstSafe_25 : decode cX5_firstSafe 25 = .ok (.lload 4, 2) := by decide +kernel
theorem dX5_firstSafe_27 : decode cX5_firstSafe 27 = .ok (.lload_n 2, 1) := by decide +kernel
theorem dX5_firstSafe_28 : decode cX5_firstSafe 28 = .ok (.ldc2_w 190, 3) := by decide +kernel
theorem dX5_firstSafe_31 : decode cX5_firstSafe 31 = .ok (.ladd, 1) := by decide +kernel
theorem dX5_firstSafe_32 : decode cX5_firstSafe 32 = .ok (.lcmp, 1) := by decide +kernel
theorem dX5_firstSafe_33 : decode cX5_firstSafe 33 = .ok (.ifCond .ge 49, 3) := by decide +kernel
theorem dX5_firstSafe_36 : decode cX5_firstSafe 36 = .ok (.lload 4, 2) := by decide +kernel
theorem dX5_firstSafe_38 : decode cX5_firstSafe 38 = .ok (.ldc2_w 68, 3) := by decide +kernel
theorem dX5_firstSafe_41 : decode cX5_firstSafe 41 = .ok (.lcmp, 1) := by decide +kernel
theorem dX5_firstSafe_42 : decode cX5_firstSafe 42 = .ok (.ifCond .ge 40, 3) := by decide +kernel
theorem dX5_firstSafe_45 : decode cX5_firstSafe 45 = .ok (.aload_n 0, 1) := by decide +kernel
theorem dX5_firstSafe_46 : decode cX5_firstSafe 46 = .ok (.getfield 7, 3) := by decide +kernel
theorem dX5_firstSafe_49 : decode cX5_firstSafe 49 = .ok (.iload_n 1, 1) := by decide +kernel
theorem dX5_firstSafe_50 : decode cX5_firstSafe 50 = .ok (.lload 4, 2) := by decide +kernel
theorem dX5_firstSafe_52 : decode cX5_firstSafe 52 = .ok (.invokestatic 70, 3) := by decide +kernel
theorem dX5_firstSafe_55 : decode cX5_firstSafe 55 = .ok (.ifCond .ne 18, 3) := by decide +kernel
theorem dX5_firstSafe_58 : decode cX5_firstSafe 58 = .ok (.aload_n 0, 1) := by decide +kernel
theorem dX5_firstSafe_59 : decode cX5_firstSafe 59 = .ok (.iload_n 1, 1) := by decide +kernel
theorem dX5_firstSafe_60 : decode cX5_firstSafe 60 = .ok (.lload 4, 2) := by decide +kernel
theorem dX5_firstSafe_62 : decode cX5_firstSafe 62 = .ok (.l2i, 1) := by decide +kernel
theorem dX5_firstSafe_63 : decode cX5_firstSafe 63 = .ok (.invokevirtual 192, 3) := by decide +kernel
theorem dX5_firstSafe_66 : decode cX5_firstSafe 66 = .ok (.ifCond .eq 7, 3) := by decide +kernel
theorem dX5_firstSafe_69 : decode cX5_firstSafe 69 = .ok (.lload 4, 2) := by decide +kernel
theorem dX5_firstSafe_71 : decode cX5_firstSafe 71 = .ok (.l2i, 1) := by decide +kernel
theorem dX5_firstSafe_72 : decode cX5_firstSafe 72 = .ok (.ireturn, 1) := by decide +kernel
theorem dX5_firstSafe_73 : decode cX5_firstSafe 73 = .ok (.lload 4, 2) := by decide +kernel
theorem dX5_firstSafe_75 : decode cX5_firstSafe 75 = .ok (.lconst 1, 1) := by decide +kernel
theorem dX5_firstSafe_76 : decode cX5_firstSafe 76 = .ok (.ladd, 1) := by decide +kernel
theorem dX5_firstSafe_77 : decode cX5_firstSafe 77 = .ok (.lstore 4, 2) := by decide +kernel
theorem dX5_firstSafe_79 : decode cX5_firstSafe 79 = .ok (.goto (-54), 3) := by decide +kernel
theorem dX5_firstSafe_82 : decode cX5_firstSafe 82 = .ok (.bipush (-6), 2) := by decide +kernel
theorem dX5_firstSafe_84 : decode cX5_firstSafe 84 = .ok (.ireturn, 1) := by decide +kernel
theorem dX5_leastRoom_0 : decode cX5_leastRoom 0 = .ok (.iload_n 1, 1) := by decide +kernel
theorem dX5_leastRoom_1 : decode cX5_leastRoom 1 = .ok (.i2l, 1) := by decide +kernel
theorem dX5_leastRoom_2 : decode cX5_leastRoom 2 = .ok (.lconst 1, 1) := by decide +kernel
theorem dX5_leastRoom_3 : decode cX5_leastRoom 3 = .ok (.ldc2_w 195, 3) := by decide +kernel
theorem dX5_leastRoom_6 : decode cX5_leastRoom 6 = .ok (.invokestatic 51, 3) := by decide +kernel
theorem dX5_leastRoom_9 : decode cX5_leastRoom 9 = .ok (.ifCond .ne 6, 3) := by decide +kernel
theorem dX5_leastRoom_12 : decode cX5_leastRoom 12 = .ok (.bipush (-2), 2) := by decide +kernel
theorem dX5_leastRoom_14 : decode cX5_leastRoom 14 = .ok (.ireturn, 1) := by decide +kernel
theorem dX5_leastRoom_15 : decode cX5_leastRoom 15 = .ok (.iconst 0, 1) := by decide +kernel
theorem dX5_leastRoom_16 : decode cX5_leastRoom 16 = .ok (.istore_n 2, 1) := by decide +kernel
theorem dX5_leastRoom_17 : decode cX5_leastRoom 17 = .ok (.iload_n 2, 1) := by decide +kernel
theorem dX5_leastRoom_18 : decode cX5_leastRoom 18 = .ok (.bipush 60, 2) := by decide +kernel
theorem dX5_leastRoom_20 : decode cX5_leastRoom 20 = .ok (.if_icmp .gt 52, 3) := by decide +kernel
theorem dX5_leastRoom_23 : decode cX5_leastRoom 23 = .ok (.aload_n 0, 1) := by decide +kernel
theorem dX5_leastRoom_24 : decode cX5_leastRoom 24 = .ok (.invokevirtual 179, 3) := by decide +kernel
theorem dX5_leastRoom_27 : decode cX5_leastRoom 27 = .ok (.aload_n 0, 1) := by decide +kernel
theorem dX5_leastRoom_28 : decode cX5_leastRoom 28 = .ok (.getfield 13, 3) := by decide +kernel
theorem dX5_leastRoom_31 : decode cX5_leastRoom 31 = .ok (.bipush 11, 2) := by decide +kernel
theorem dX5_leastRoom_33 : decode cX5_leastRoom 33 = .ok (.iload_n 2, 1) := by decide +kernel
theorem dX5_leastRoom_34 : decode cX5_leastRoom 34 = .ok (.i2l, 1) := by decide +kernel
theorem dX5_leastRoom_35 : decode cX5_leastRoom 35 = .ok (.lastore, 1) := by decide +kernel
theorem dX5_leastRoom_36 : decode cX5_leastRoom 36 = .ok (.aload_n 0, 1) := by decide +kernel
theorem dX5_leastRoom_37 : decode cX5_leastRoom 37 = .ok (.bipush 60, 2) := by decide +kernel
theorem dX5_leastRoom_39 : decode cX5_leastRoom 39 = .ok (.iload_n 1, 1) := by decide +kernel
theorem dX5_leastRoom_40 : decode cX5_leastRoom 40 = .ok (.imul, 1) := by decide +kernel
theorem dX5_leastRoom_41 : decode cX5_leastRoom 41 = .ok (.iconst 0, 1) := by decide +kernel
theorem dX5_leastRoom_42 : decode cX5_leastRoom 42 = .ok (.invokevirtual 182, 3) := by decide +kernel
theorem dX5_leastRoom_45 : decode cX5_leastRoom 45 = .ok (.pop2, 1) := by decide +kernel
theorem dX5_leastRoom_46 : decode cX5_leastRoom 46 = .ok (.aload_n 0, 1) := by decide +kernel
theorem dX5_leastRoom_47 : decode cX5_leastRoom 47 = .ok (.getfield 13, 3) := by decide +kernel
theorem dX5_leastRoom_50 : decode cX5_leastRoom 50 = .ok (.invokestatic 186, 3) := by decide +kernel
theorem dX5_leastRoom_53 : decode cX5_leastRoom 53 = .ok (.aload_n 0, 1) := by decide +kernel
theorem dX5_leastRoom_54 : decode cX5_leastRoom 54 = .ok (.getfield 7, 3) := by decide +kernel
theorem dX5_leastRoom_57 : decode cX5_leastRoom 57 = .ok (.invokestatic 186, 3) := by decide +kernel
theorem dX5_leastRoom_60 : decode cX5_leastRoom 60 = .ok (.lcmp, 1) := by decide +kernel
theorem dX5_leastRoom_61 : decode cX5_leastRoom 61 = .ok (.ifCond .ne 5, 3) := by decide +kernel
theorem dX5_leastRoom_64 : decode cX5_leastRoom 64 = .ok (.iload_n 2, 1) := by decide +kernel
theorem dX5_leastRoom_65 : decode cX5_leastRoom 65 = .ok (.ireturn, 1) := by decide +kernel
theorem dX5_leastRoom_66 : decode cX5_leastRoom 66 = .ok (.iinc 2 1, 3) := by decide +kernel
theorem dX5_leastRoom_69 : decode cX5_leastRoom 69 = .ok (.goto (-52), 3) := by decide +kernel
theorem dX5_leastRoom_72 : decode cX5_leastRoom 72 = .ok (.bipush (-6), 2) := by decide +kernel
theorem dX5_leastRoom_74 : decode cX5_leastRoom 74 = .ok (.ireturn, 1) := by decide +kernel
theorem dX5_byteOf_0 : decode cX5_byteOf 0 = .ok (.lload_n 0, 1) := by decide +kernel
theorem dX5_byteOf_1 : decode cX5_byteOf 1 = .ok (.bipush 8, 2) := by decide +kernel
theorem dX5_byteOf_3 : decode cX5_byteOf 3 = .ok (.iload_n 2, 1) := by decide +kernel
theorem dX5_byteOf_4 : decode cX5_byteOf 4 = .ok (.imul, 1) := by decide +kernel
theorem dX5_byteOf_5 : decode cX5_byteOf 5 = .ok (.lshr, 1) := by decide +kernel
theorem dX5_byteOf_6 : decode cX5_byteOf 6 = .ok (.ldc2_w 197, 3) := by decide +kernel
theorem dX5_byteOf_9 : decode cX5_byteOf 9 = .ok (.land, 1) := by decide +kernel
theorem dX5_byteOf_10 : decode cX5_byteOf 10 = .ok (.l2i, 1) := by decide +kernel
theorem dX5_byteOf_11 : decode cX5_byteOf 11 = .ok (.ireturn, 1) := by decide +kernel
theorem dX5_toldBy_0 : decode cX5_toldBy 0 = .ok (.iconst 0, 1) := by decide +kernel
theorem dX5_toldBy_1 : decode cX5_toldBy 1 = .ok (.istore_n 2, 1) := by decide +kernel
theorem dX5_toldBy_2 : decode cX5_toldBy 2 = .ok (.iload_n 2, 1) := by decide +kernel
theorem dX5_toldBy_3 : decode cX5_toldBy 3 = .ok (.bipush 8, 2) := by decide +kernel
theorem dX5_toldBy_5 : decode cX5_toldBy 5 = .ok (.if_icmp .ge 38, 3) := by decide +kernel
theorem dX5_toldBy_8 : decode cX5_toldBy 8 = .ok (.lload_n 0, 1) := by decide +kernel
theorem dX5_toldBy_9 : decode cX5_toldBy 9 = .ok (.iload_n 2, 1) := by decide +kernel
theorem dX5_toldBy_10 : decode cX5_toldBy 10 = .ok (.invokestatic 199, 3) := by decide +kernel
theorem dX5_toldBy_13 : decode cX5_toldBy 13 = .ok (.ifCond .eq 30, 3) := by decide +kernel
theorem dX5_toldBy_16 : decode cX5_toldBy 16 = .ok (.lload_n 0, 1) := by decide +kernel
theorem dX5_toldBy_17 : decode cX5_toldBy 17 = .ok (.iload_n 2, 1) := by decide +kernel
theorem dX5_toldBy_18 : decode cX5_toldBy 18 = .ok (.invokestatic 199, 3) := by decide +kernel
theorem dX5_toldBy_21 : decode cX5_toldBy 21 = .ok (.i2l, 1) := by decide +kernel
theorem dX5_toldBy_22 : decode cX5_toldBy 22 = .ok (.ldc2_w 203, 3) := by decide +kernel
theorem dX5_toldBy_25 : decode cX5_toldBy 25 = .ok (.ldc2_w 205, 3) := by decide +kernel
theorem dX5_toldBy_28 : decode cX5_toldBy 28 = .ok (.invokestatic 51, 3) := by decide +kernel
theorem dX5_toldBy_31 : decode cX5_toldBy 31 = .ok (.ifCond .ne 6, 3) := by decide +kernel
theorem dX5_toldBy_34 : decode cX5_toldBy 34 = .ok (.bipush (-2), 2) := by decide +kernel
theorem dX5_toldBy_36 : decode cX5_toldBy 36 = .ok (.ireturn, 1) := by decide +kernel
theorem dX5_toldBy_37 : decode cX5_toldBy 37 = .ok (.iinc 2 1, 3) := by decide +kernel
theorem dX5_toldBy_40 : decode cX5_toldBy 40 = .ok (.goto (-38), 3) := by decide +kernel
theorem dX5_toldBy_43 : decode cX5_toldBy 43 = .ok (.iload_n 2, 1) := by decide +kernel
theorem dX5_toldBy_44 : decode cX5_toldBy 44 = .ok (.istore_n 3, 1) := by decide +kernel
theorem dX5_toldBy_45 : decode cX5_toldBy 45 = .ok (.iload_n 3, 1) := by decide +kernel
theorem dX5_toldBy_46 : decode cX5_toldBy 46 = .ok (.bipush 8, 2) := by decide +kernel
theorem dX5_toldBy_48 : decode cX5_toldBy 48 = .ok (.if_icmp .ge 20, 3) := by decide +kernel
theorem dX5_toldBy_51 : decode cX5_toldBy 51 = .ok (.lload_n 0, 1) := by decide +kernel
theorem dX5_toldBy_52 : decode cX5_toldBy 52 = .ok (.iload_n 3, 1) := by decide +kernel
theorem dX5_toldBy_53 : decode cX5_toldBy 53 = .ok (.invokestatic 199, 3) := by decide +kernel
theorem dX5_toldBy_56 : decode cX5_toldBy 56 = .ok (.ifCond .eq 6, 3) := by decide +kernel
theorem dX5_toldBy_59 : decode cX5_toldBy 59 = .ok (.bipush (-2), 2) := by decide +kernel
theorem dX5_toldBy_61 : decode cX5_toldBy 61 = .ok (.ireturn, 1) := by decide +kernel
theorem dX5_toldBy_62 : decode cX5_toldBy 62 = .ok (.iinc 3 1, 3) := by decide +kernel
theorem dX5_toldBy_65 : decode cX5_toldBy 65 = .ok (.goto (-20), 3) := by decide +kernel
theorem dX5_toldBy_68 : decode cX5_toldBy 68 = .ok (.iload_n 2, 1) := by decide +kernel
theorem dX5_toldBy_69 : decode cX5_toldBy 69 = .ok (.ifCond .ne 8, 3) := by decide +kernel
theorem dX5_toldBy_72 : decode cX5_toldBy 72 = .ok (.bipush (-2), 2) := by decide +kernel
theorem dX5_toldBy_74 : decode cX5_toldBy 74 = .ok (.goto 4, 3) := by decide +kernel
theorem dX5_toldBy_77 : decode cX5_toldBy 77 = .ok (.iload_n 2, 1) := by decide +kernel
theorem dX5_toldBy_78 : decode cX5_toldBy 78 = .ok (.ireturn, 1) := by decide +kernel
theorem dX5_put_0 : decode cX5_put 0 = .ok (.lload_n 1, 1) := by decide +kernel
theorem dX5_put_1 : decode cX5_put 1 = .ok (.invokestatic 207, 3) := by decide +kernel
theorem dX5_put_4 : decode cX5_put 4 = .ok (.istore_n 3, 1) := by decide +kernel
theorem dX5_put_5 : decode cX5_put 5 = .ok (.iload_n 3, 1) := by decide +kernel
theorem dX5_put_6 : decode cX5_put 6 = .ok (.ifCond .ge 5, 3) := by decide +kernel
theorem dX5_put_9 : decode cX5_put 9 = .ok (.iload_n 3, 1) := by decide +kernel
theorem dX5_put_10 : decode cX5_put 10 = .ok (.ireturn, 1) := by decide +kernel
theorem dX5_put_11 : decode cX5_put 11 = .ok (.aload_n 0, 1) := by decide +kernel
theorem dX5_put_12 : decode cX5_put 12 = .ok (.getfield 173, 3) := by decide +kernel
theorem dX5_put_15 : decode cX5_put 15 = .ok (.iload_n 3, 1) := by decide +kernel
theorem dX5_put_16 : decode cX5_put 16 = .ok (.iadd, 1) := by decide +kernel
theorem dX5_put_17 : decode cX5_put 17 = .ok (.bipush 80, 2) := by decide +kernel
theorem dX5_put_19 : decode cX5_put 19 = .ok (.if_icmp .le 6, 3) := by decide +kernel
theorem dX5_put_22 : decode cX5_put 22 = .ok (.bipush (-4), 2) := by decide +kernel
theorem dX5_put_24 : decode cX5_put 24 = .ok (.ireturn, 1) := by decide +kernel
theorem dX5_put_25 : decode cX5_put 25 = .ok (.iload_n 3, 1) := by decide +kernel
theorem dX5_put_26 : decode cX5_put 26 = .ok (.iconst 1, 1) := by decide +kernel
theorem dX5_put_27 : decode cX5_put 27 = .ok (.isub, 1) := by decide +kernel
theorem dX5_put_28 : decode cX5_put 28 = .ok (.istore 4, 2) := by decide +kernel
theorem dX5_put_30 : decode cX5_put 30 = .ok (.iload 4, 2) := by decide +kernel
theorem dX5_put_32 : decode cX5_put 32 = .ok (.ifCond .lt 34, 3) := by decide +kernel
theorem dX5_put_35 : decode cX5_put 35 = .ok (.aload_n 0, 1) := by decide +kernel
theorem dX5_put_36 : decode cX5_put 36 = .ok (.getfield 26, 3) := by decide +kernel
theorem dX5_put_39 : decode cX5_put 39 = .ok (.aload_n 0, 1) := by decide +kernel
theorem dX5_put_40 : decode cX5_put 40 = .ok (.getfield 173, 3) := by decide +kernel
theorem dX5_put_43 : decode cX5_put 43 = .ok (.lload_n 1, 1) := by decide +kernel
theorem dX5_put_44 : decode cX5_put 44 = .ok (.iload 4, 2) := by decide +kernel
theorem dX5_put_46 : decode cX5_put 46 = .ok (.invokestatic 199, 3) := by decide +kernel
theorem dX5_put_49 : decode cX5_put 49 = .ok (.iastore, 1) := by decide +kernel
theorem dX5_put_50 : decode cX5_put 50 = .ok (.aload_n 0, 1) := by decide +kernel
theorem dX5_put_51 : decode cX5_put 51 = .ok (.dup, 1) := by decide +kernel
theorem dX5_put_52 : decode cX5_put 52 = .ok (.getfield 173, 3) := by decide +kernel
theorem dX5_put_55 : decode cX5_put 55 = .ok (.iconst 1, 1) := by decide +kernel
theorem dX5_put_56 : decode cX5_put 56 = .ok (.iadd, 1) := by decide +kernel
theorem dX5_put_57 : decode cX5_put 57 = .ok (.putfield 173, 3) := by decide +kernel
theorem dX5_put_60 : decode cX5_put 60 = .ok (.iinc 4 (-1), 3) := by decide +kernel
theorem dX5_put_63 : decode cX5_put 63 = .ok (.goto (-33), 3) := by decide +kernel
theorem dX5_put_66 : decode cX5_put 66 = .ok (.aload_n 0, 1) := by decide +kernel
theorem dX5_put_67 : decode cX5_put 67 = .ok (.getfield 173, 3) := by decide +kernel
theorem dX5_put_70 : decode cX5_put 70 = .ok (.ireturn, 1) := by decide +kernel
theorem dX5_wipe_0 : decode cX5_wipe 0 = .ok (.aload_n 0, 1) := by decide +kernel
theorem dX5_wipe_1 : decode cX5_wipe 1 = .ok (.getfield 173, 3) := by decide +kernel
theorem dX5_wipe_4 : decode cX5_wipe 4 = .ok (.istore_n 1, 1) := by decide +kernel
theorem dX5_wipe_5 : decode cX5_wipe 5 = .ok (.aload_n 0, 1) := by decide +kernel
theorem dX5_wipe_6 : decode cX5_wipe 6 = .ok (.iconst 0, 1) := by decide +kernel
theorem dX5_wipe_7 : decode cX5_wipe 7 = .ok (.putfield 173, 3) := by decide +kernel
theorem dX5_wipe_10 : decode cX5_wipe 10 = .ok (.iload_n 1, 1) := by decide +kernel
theorem dX5_wipe_11 : decode cX5_wipe 11 = .ok (.ireturn, 1) := by decide +kernel
theorem dX5_isAt_0 : decode cX5_isAt 0 = .ok (.aload_n 0, 1) := by decide +kernel
theorem dX5_isAt_1 : decode cX5_isAt 1 = .ok (.getfield 211, 3) := by decide +kernel
theorem dX5_isAt_4 : decode cX5_isAt 4 = .ok (.aload_n 0, 1) := by decide +kernel
theorem dX5_isAt_5 : decode cX5_isAt 5 = .ok (.getfield 173, 3) := by decide +kernel
theorem dX5_isAt_8 : decode cX5_isAt 8 = .ok (.if_icmp .ge 27, 3) := by decide +kernel
theorem dX5_isAt_11 : decode cX5_isAt 11 = .ok (.aload_n 0, 1) := by decide +kernel
theorem dX5_isAt_12 : decode cX5_isAt 12 = .ok (.getfield 26, 3) := by decide +kernel
theorem dX5_isAt_15 : decode cX5_isAt 15 = .ok (.aload_n 0, 1) := by decide +kernel
theorem dX5_isAt_16 : decode cX5_isAt 16 = .ok (.getfield 211, 3) := by decide +kernel
theorem dX5_isAt_19 : decode cX5_isAt 19 = .ok (.iaload, 1) := by decide +kernel
theorem dX5_isAt_20 : decode cX5_isAt 20 = .ok (.i2l, 1) := by decide +kernel
theorem dX5_isAt_21 : decode cX5_isAt 21 = .ok (.iload_n 1, 1) := by decide +kernel
theorem dX5_isAt_22 : decode cX5_isAt 22 = .ok (.i2l, 1) := by decide +kernel
theorem dX5_isAt_23 : decode cX5_isAt 23 = .ok (.iload_n 2, 1) := by decide +kernel
theorem dX5_isAt_24 : decode cX5_isAt 24 = .ok (.i2l, 1) := by decide +kernel
theorem dX5_isAt_25 : decode cX5_isAt 25 = .ok (.invokestatic 51, 3) := by decide +kernel
theorem dX5_isAt_28 : decode cX5_isAt 28 = .ok (.ifCond .eq 7, 3) := by decide +kernel
theorem dX5_isAt_31 : decode cX5_isAt 31 = .ok (.iconst 1, 1) := by decide +kernel
theorem dX5_isAt_32 : decode cX5_isAt 32 = .ok (.goto 4, 3) := by decide +kernel
theorem dX5_isAt_35 : decode cX5_isAt 35 = .ok (.iconst 0, 1) := by decide +kernel
theorem dX5_isAt_36 : decode cX5_isAt 36 = .ok (.ireturn, 1) := by decide +kernel
theorem dX5_isSign_0 : decode cX5_isSign 0 = .ok (.aload_n 0, 1) := by decide +kernel
theorem dX5_isSign_1 : decode cX5_isSign 1 = .ok (.iload_n 1, 1) := by decide +kernel
theorem dX5_isSign_2 : decode cX5_isSign 2 = .ok (.iload_n 1, 1) := by decide +kernel
theorem dX5_isSign_3 : decode cX5_isSign 3 = .ok (.invokevirtual 214, 3) := by decide +kernel
theorem dX5_isSign_6 : decode cX5_isSign 6 = .ok (.istore_n 2, 1) := by decide +kernel
theorem dX5_isSign_7 : decode cX5_isSign 7 = .ok (.aload_n 0, 1) := by decide +kernel
theorem dX5_isSign_8 : decode cX5_isSign 8 = .ok (.dup, 1) := by decide +kernel
theorem dX5_isSign_9 : decode cX5_isSign 9 = .ok (.getfield 211, 3) := by decide +kernel
theorem dX5_isSign_12 : decode cX5_isSign 12 = .ok (.iload_n 2, 1) := by decide +kernel
theorem dX5_isSign_13 : decode cX5_isSign 13 = .ok (.ifCond .eq 7, 3) := by decide +kernel
theorem dX5_isSign_16 : decode cX5_isSign 16 = .ok (.iconst 1, 1) := by decide +kernel
theorem dX5_isSign_17 : decode cX5_isSign 17 = .ok (.goto 4, 3) := by decide +kernel
theorem dX5_isSign_20 : decode cX5_isSign 20 = .ok (.iconst 0, 1) := by decide +kernel
theorem dX5_isSign_21 : decode cX5_isSign 21 = .ok (.iadd, 1) := by decide +kernel
theorem dX5_isSign_22 : decode cX5_isSign 22 = .ok (.putfield 211, 3) := by decide +kernel
theorem dX5_isSign_25 : decode cX5_isSign 25 = .ok (.iload_n 2, 1) := by decide +kernel
theorem dX5_isSign_26 : decode cX5_isSign 26 = .ok (.ireturn, 1) := by decide +kernel
theorem dX5_isNumber_0 : decode cX5_isNumber 0 = .ok (.aload_n 0, 1) := by decide +kernel
theorem dX5_isNumber_1 : decode cX5_isNumber 1 = .ok (.bipush 48, 2) := by decide +kernel
theorem dX5_isNumber_3 : decode cX5_isNumber 3 = .ok (.bipush 57, 2) := by decide +kernel
theorem dX5_isNumber_5 : decode cX5_isNumber 5 = .ok (.invokevirtual 214, 3) := by decide +kernel
theorem dX5_isNumber_8 : decode cX5_isNumber 8 = .ok (.ifCond .ne 5, 3) := by decide +kernel
theorem dX5_isNumber_11 : decode cX5_isNumber 11 = .ok (.iconst 0, 1) := by decide +kernel
theorem dX5_isNumber_12 : decode cX5_isNumber 12 = .ok (.ireturn, 1) := by decide +kernel
theorem dX5_isNumber_13 : decode cX5_isNumber 13 = .ok (.aload_n 0, 1) := by decide +kernel
theorem dX5_isNumber_14 : decode cX5_isNumber 14 = .ok (.getfield 26, 3) := by decide +kernel
theorem dX5_isNumber_17 : decode cX5_isNumber 17 = .ok (.aload_n 0, 1) := by decide +kernel
theorem dX5_isNumber_18 : decode cX5_isNumber 18 = .ok (.getfield 211, 3) := by decide +kernel
theorem dX5_isNumber_21 : decode cX5_isNumber 21 = .ok (.iaload, 1) := by decide +kernel
theorem dX5_isNumber_22 : decode cX5_isNumber 22 = .ok (.bipush 48, 2) := by decide +kernel
theorem dX5_isNumber_24 : decode cX5_isNumber 24 = .ok (.isub, 1) := by decide +kernel
theorem dX5_isNumber_25 : decode cX5_isNumber 25 = .ok (.istore_n 2, 1) := by decide +kernel
theorem dX5_isNumber_26 : decode cX5_isNumber 26 = .ok (.aload_n 0, 1) := by decide +kernel
theorem dX5_isNumber_27 : decode cX5_isNumber 27 = .ok (.dup, 1) := by decide +kernel
theorem dX5_isNumber_28 : decode cX5_isNumber 28 = .ok (.getfield 211, 3) := by decide +kernel
theorem dX5_isNumber_31 : decode cX5_isNumber 31 = .ok (.iconst 1, 1) := by decide +kernel
theorem dX5_isNumber_32 : decode cX5_isNumber 32 = .ok (.iadd, 1) := by decide +kernel
theorem dX5_isNumber_33 : decode cX5_isNumber 33 = .ok (.putfield 211, 3) := by decide +kernel
theorem dX5_isNumber_36 : decode cX5_isNumber 36 = .ok (.iload_n 2, 1) := by decide +kernel
theorem dX5_isNumber_37 : decode cX5_isNumber 37 = .ok (.ifCond .le 51, 3) := by decide +kernel
theorem dX5_isNumber_40 : decode cX5_isNumber 40 = .ok (.iload_n 2, 1) := by decide +kernel
theorem dX5_isNumber_41 : decode cX5_isNumber 41 = .ok (.bipush 100, 2) := by decide +kernel
theorem dX5_isNumber_43 : decode cX5_isNumber 43 = .ok (.if_icmp .ge 45, 3) := by decide +kernel
theorem dX5_isNumber_46 : decode cX5_isNumber 46 = .ok (.aload_n 0, 1) := by decide +kernel
theorem dX5_isNumber_47 : decode cX5_isNumber 47 = .ok (.bipush 48, 2) := by decide +kernel
theorem dX5_isNumber_49 : decode cX5_isNumber 49 = .ok (.bipush 57, 2) := by decide +kernel
theorem dX5_isNumber_51 : decode cX5_isNumber 51 = .ok (.invokevirtual 214, 3) := by decide +kernel
theorem dX5_isNumber_54 : decode cX5_isNumber 54 = .ok (.ifCond .eq 34, 3) := by decide +kernel
theorem dX5_isNumber_57 : decode cX5_isNumber 57 = .ok (.bipush 10, 2) := by decide +kernel
theorem dX5_isNumber_59 : decode cX5_isNumber 59 = .ok (.iload_n 2, 1) := by decide +kernel
theorem dX5_isNumber_60 : decode cX5_isNumber 60 = .ok (.imul, 1) := by decide +kernel
theorem dX5_isNumber_61 : decode cX5_isNumber 61 = .ok (.aload_n 0, 1) := by decide +kernel
theorem dX5_isNumber_62 : decode cX5_isNumber 62 = .ok (.getfield 26, 3) := by decide +kernel
theorem dX5_isNumber_65 : decode cX5_isNumber 65 = .ok (.aload_n 0, 1) := by decide +kernel
theorem dX5_isNumber_66 : decode cX5_isNumber 66 = .ok (.getfield 211, 3) := by decide +kernel
theorem dX5_isNumber_69 : decode cX5_isNumber 69 = .ok (.iaload, 1) := by decide +kernel
theorem dX5_isNumber_70 : decode cX5_isNumber 70 = .ok (.iadd, 1) := by decide +kernel
theorem dX5_isNumber_71 : decode cX5_isNumber 71 = .ok (.bipush 48, 2) := by decide +kernel
theorem dX5_isNumber_73 : decode cX5_isNumber 73 = .ok (.isub, 1) := by decide +kernel
theorem dX5_isNumber_74 : decode cX5_isNumber 74 = .ok (.istore_n 2, 1) := by decide +kernel
theorem dX5_isNumber_75 : decode cX5_isNumber 75 = .ok (.aload_n 0, 1) := by decide +kernel
theorem dX5_isNumber_76 : decode cX5_isNumber 76 = .ok (.dup, 1) := by decide +kernel
theorem dX5_isNumber_77 : decode cX5_isNumber 77 = .ok (.getfield 211, 3) := by decide +kernel
theorem dX5_isNumber_80 : decode cX5_isNumber 80 = .ok (.iconst 1, 1) := by decide +kernel
theorem dX5_isNumber_81 : decode cX5_isNumber 81 = .ok (.iadd, 1) := by decide +kernel
theorem dX5_isNumber_82 : decode cX5_isNumber 82 = .ok (.putfield 211, 3) := by decide +kernel
theorem dX5_isNumber_85 : decode cX5_isNumber 85 = .ok (.goto (-49), 3) := by decide +kernel
theorem dX5_isNumber_88 : decode cX5_isNumber 88 = .ok (.aload_n 0, 1) := by decide +kernel
theorem dX5_isNumber_89 : decode cX5_isNumber 89 = .ok (.getfield 30, 3) := by decide +kernel
theorem dX5_isNumber_92 : decode cX5_isNumber 92 = .ok (.iconst 4, 1) := by decide +kernel
theorem dX5_isNumber_93 : decode cX5_isNumber 93 = .ok (.aload_n 0, 1) := by decide +kernel
theorem dX5_isNumber_94 : decode cX5_isNumber 94 = .ok (.getfield 217, 3) := by decide +kernel
theorem dX5_isNumber_97 : decode cX5_isNumber 97 = .ok (.imul, 1) := by decide +kernel
theorem dX5_isNumber_98 : decode cX5_isNumber 98 = .ok (.iload_n 1, 1) := by decide +kernel
theorem dX5_isNumber_99 : decode cX5_isNumber 99 = .ok (.iadd, 1) := by decide +kernel
theorem dX5_isNumber_100 : decode cX5_isNumber 100 = .ok (.iload_n 2, 1) := by decide +kernel
theorem dX5_isNumber_101 : decode cX5_isNumber 101 = .ok (.iastore, 1) := by decide +kernel
theorem dX5_isNumber_102 : decode cX5_isNumber 102 = .ok (.iconst 1, 1) := by decide +kernel
theorem dX5_isNumber_103 : decode cX5_isNumber 103 = .ok (.ireturn, 1) := by decide +kernel
theorem dX5_isOrder_0 : decode cX5_isOrder 0 = .ok (.aload_n 0, 1) := by decide +kernel
theorem dX5_isOrder_1 : decode cX5_isOrder 1 = .ok (.bipush 115, 2) := by decide +kernel
theorem dX5_isOrder_3 : decode cX5_isOrder 3 = .ok (.bipush 115, 2) := by decide +kernel
theorem dX5_isOrder_5 : decode cX5_isOrder 5 = .ok (.invokevirtual 214, 3) := by decide +kernel
theorem dX5_isOrder_8 : decode cX5_isOrder 8 = .ok (.ifCond .ne 49, 3) := by decide +kernel
theorem dX5_isOrder_11 : decode cX5_isOrder 11 = .ok (.aload_n 0, 1) := by decide +kernel
theorem dX5_isOrder_12 : decode cX5_isOrder 12 = .ok (.bipush 103, 2) := by decide +kernel
theorem dX5_isOrder_14 : decode cX5_isOrder 14 = .ok (.bipush 103, 2) := by decide +kernel
theorem dX5_isOrder_16 : decode cX5_isOrder 16 = .ok (.invokevirtual 214, 3) := by decide +kernel
theorem dX5_isOrder_19 : decode cX5_isOrder 19 = .ok (.ifCond .ne 38, 3) := by decide +kernel
theorem dX5_isOrder_22 : decode cX5_isOrder 22 = .ok (.aload_n 0, 1) := by decide +kernel
theorem dX5_isOrder_23 : decode cX5_isOrder 23 = .ok (.bipush 119, 2) := by decide +kernel
theorem dX5_isOrder_25 : decode cX5_isOrder 25 = .ok (.bipush 119, 2) := by decide +kernel
theorem dX5_isOrder_27 : decode cX5_isOrder 27 = .ok (.invokevirtual 214, 3) := by decide +kernel
theorem dX5_isOrder_30 : decode cX5_isOrder 30 = .ok (.ifCond .ne 27, 3) := by decide +kernel
theorem dX5_isOrder_33 : decode cX5_isOrder 33 = .ok (.aload_n 0, 1) := by decide +kernel
theorem dX5_isOrder_34 : decode cX5_isOrder 34 = .ok (.bipush 118, 2) := by decide +kernel
theorem dX5_isOrder_36 : decode cX5_isOrder 36 = .ok (.bipush 118, 2) := by decide +kernel
theorem dX5_isOrder_38 : decode cX5_isOrder 38 = .ok (.invokevirtual 214, 3) := by decide +kernel
theorem dX5_isOrder_41 : decode cX5_isOrder 41 = .ok (.ifCond .ne 16, 3) := by decide +kernel
theorem dX5_isOrder_44 : decode cX5_isOrder 44 = .ok (.aload_n 0, 1) := by decide +kernel
theorem dX5_isOrder_45 : decode cX5_isOrder 45 = .ok (.bipush 116, 2) := by decide +kernel
theorem dX5_isOrder_47 : decode cX5_isOrder 47 = .ok (.bipush 116, 2) := by decide +kernel
theorem dX5_isOrder_49 : decode cX5_isOrder 49 = .ok (.invokevirtual 214, 3) := by decide +kernel
theorem dX5_isOrder_52 : decode cX5_isOrder 52 = .ok (.ifCond .ne 5, 3) := by decide +kernel
theorem dX5_isOrder_55 : decode cX5_isOrder 55 = .ok (.iconst 0, 1) := by decide +kernel
theorem dX5_isOrder_56 : decode cX5_isOrder 56 = .ok (.ireturn, 1) := by decide +kernel
theorem dX5_isOrder_57 : decode cX5_isOrder 57 = .ok (.aload_n 0, 1) := by decide +kernel
theorem dX5_isOrder_58 : decode cX5_isOrder 58 = .ok (.getfield 26, 3) := by decide +kernel
theorem dX5_isOrder_61 : decode cX5_isOrder 61 = .ok (.aload_n 0, 1) := by decide +kernel
theorem dX5_isOrder_62 : decode cX5_isOrder 62 = .ok (.getfield 211, 3) := by decide +kernel
theorem dX5_isOrder_65 : decode cX5_isOrder 65 = .ok (.iaload, 1) := by decide +kernel
theorem dX5_isOrder_66 : decode cX5_isOrder 66 = .ok (.istore_n 1, 1) := by decide +kernel
theorem dX5_isOrder_67 : decode cX5_isOrder 67 = .ok (.aload_n 0, 1) := by decide +kernel
theorem dX5_isOrder_68 : decode cX5_isOrder 68 = .ok (.getfield 30, 3) := by decide +kernel
theorem dX5_isOrder_71 : decode cX5_isOrder 71 = .ok (.iconst 4, 1) := by decide +kernel
theorem dX5_isOrder_72 : decode cX5_isOrder 72 = .ok (.aload_n 0, 1) := by decide +kernel
theorem dX5_isOrder_73 : decode cX5_isOrder 73 = .ok (.getfield 217, 3) := by decide +kernel
theorem dX5_isOrder_76 : decode cX5_isOrder 76 = .ok (.imul, 1) := by decide +kernel
theorem dX5_isOrder_77 : decode cX5_isOrder 77 = .ok (.iload_n 1, 1) := by decide +kernel
theorem dX5_isOrder_78 : decode cX5_isOrder 78 = .ok (.iastore, 1) := by decide +kernel
theorem dX5_isOrder_79 : decode cX5_isOrder 79 = .ok (.aload_n 0, 1) := by decide +kernel
theorem dX5_isOrder_80 : decode cX5_isOrder 80 = .ok (.dup, 1) := by decide +kernel
theorem dX5_isOrder_81 : decode cX5_isOrder 81 = .ok (.getfield 211, 3) := by decide +kernel
theorem dX5_isOrder_84 : decode cX5_isOrder 84 = .ok (.iconst 1, 1) := by decide +kernel
theorem dX5_isOrder_85 : decode cX5_isOrder 85 = .ok (.iadd, 1) := by decide +kernel
theorem dX5_isOrder_86 : decode cX5_isOrder 86 = .ok (.putfield 211, 3) := by decide +kernel
theorem dX5_isOrder_89 : decode cX5_isOrder 89 = .ok (.iload_n 1, 1) := by decide +kernel
theorem dX5_isOrder_90 : decode cX5_isOrder 90 = .ok (.bipush 116, 2) := by decide +kernel
theorem dX5_isOrder_92 : decode cX5_isOrder 92 = .ok (.if_icmp .ne 9, 3) := by decide +kernel
theorem dX5_isOrder_95 : decode cX5_isOrder 95 = .ok (.aload_n 0, 1) := by decide +kernel
theorem dX5_isOrder_96 : decode cX5_isOrder 96 = .ok (.iconst 1, 1) := by decide +kernel
theorem dX5_isOrder_97 : decode cX5_isOrder 97 = .ok (.invokevirtual 220, 3) := by decide +kernel
theorem dX5_isOrder_100 : decode cX5_isOrder 100 = .ok (.ireturn, 1) := by decide +kernel
theorem dX5_isOrder_101 : decode cX5_isOrder 101 = .ok (.aload_n 0, 1) := by decide +kernel
theorem dX5_isOrder_102 : decode cX5_isOrder 102 = .ok (.bipush 48, 2) := by decide +kernel
theorem dX5_isOrder_104 : decode cX5_isOrder 104 = .ok (.bipush 51, 2) := by decide +kernel
theorem dX5_isOrder_106 : decode cX5_isOrder 106 = .ok (.invokevirtual 214, 3) := by decide +kernel
theorem dX5_isOrder_109 : decode cX5_isOrder 109 = .ok (.ifCond .ne 5, 3) := by decide +kernel
theorem dX5_isOrder_112 : decode cX5_isOrder 112 = .ok (.iconst 0, 1) := by decide +kernel
theorem dX5_isOrder_113 : decode cX5_isOrder 113 = .ok (.ireturn, 1) := by decide +kernel
theorem dX5_isOrder_114 : decode cX5_isOrder 114 = .ok (.aload_n 0, 1) := by decide +kernel
theorem dX5_isOrder_115 : decode cX5_isOrder 115 = .ok (.getfield 30, 3) := by decide +kernel
theorem dX5_isOrder_118 : decode cX5_isOrder 118 = .ok (.iconst 4, 1) := by decide +kernel
theorem dX5_isOrder_119 : decode cX5_isOrder 119 = .ok (.aload_n 0, 1) := by decide +kernel
theorem dX5_isOrder_120 : decode cX5_isOrder 120 = .ok (.getfield 217, 3) := by decide +kernel
theorem dX5_isOrder_123 : decode cX5_isOrder 123 = .ok (.imul, 1) := by decide +kernel
theorem dX5_isOrder_124 : decode cX5_isOrder 124 = .ok (.iconst 1, 1) := by decide +kernel
theorem dX5_isOrder_125 : decode cX5_isOrder 125 = .ok (.iadd, 1) := by decide +kernel
theorem dX5_isOrder_126 : decode cX5_isOrder 126 = .ok (.aload_n 0, 1) := by decide +kernel
theorem dX5_isOrder_127 : decode cX5_isOrder 127 = .ok (.getfield 26, 3) := by decide +kernel
theorem dX5_isOrder_130 : decode cX5_isOrder 130 = .ok (.aload_n 0, 1) := by decide +kernel
theorem dX5_isOrder_131 : decode cX5_isOrder 131 = .ok (.getfield 211, 3) := by decide +kernel
theorem dX5_isOrder_134 : decode cX5_isOrder 134 = .ok (.iaload, 1) := by decide +kernel
theorem dX5_isOrder_135 : decode cX5_isOrder 135 = .ok (.bipush 48, 2) := by decide +kernel
theorem dX5_isOrder_137 : decode cX5_isOrder 137 = .ok (.isub, 1) := by decide +kernel
theorem dX5_isOrder_138 : decode cX5_isOrder 138 = .ok (.iastore, 1) := by decide +kernel
theorem dX5_isOrder_139 : decode cX5_isOrder 139 = .ok (.aload_n 0, 1) := by decide +kernel
theorem dX5_isOrder_140 : decode cX5_isOrder 140 = .ok (.dup, 1) := by decide +kernel
theorem dX5_isOrder_141 : decode cX5_isOrder 141 = .ok (.getfield 211, 3) := by decide +kernel
theorem dX5_isOrder_144 : decode cX5_isOrder 144 = .ok (.iconst 1, 1) := by decide +kernel
theorem dX5_isOrder_145 : decode cX5_isOrder 145 = .ok (.iadd, 1) := by decide +kernel
theorem dX5_isOrder_146 : decode cX5_isOrder 146 = .ok (.putfield 211, 3) := by decide +kernel
theorem dX5_isOrder_149 : decode cX5_isOrder 149 = .ok (.iload_n 1, 1) := by decide +kernel
theorem dX5_isOrder_150 : decode cX5_isOrder 150 = .ok (.bipush 118, 2) := by decide +kernel
theorem dX5_isOrder_152 : decode cX5_isOrder 152 = .ok (.if_icmp .ne 43, 3) := by decide +kernel
theorem dX5_isOrder_155 : decode cX5_isOrder 155 = .ok (.aload_n 0, 1) := by decide +kernel
theorem dX5_isOrder_156 : decode cX5_isOrder 156 = .ok (.bipush 47, 2) := by decide +kernel
theorem dX5_isOrder_158 : decode cX5_isOrder 158 = .ok (.invokevirtual 223, 3) := by decide +kernel
theorem dX5_isOrder_161 : decode cX5_isOrder 161 = .ok (.ifCond .eq 32, 3) := by decide +kernel
theorem dX5_isOrder_164 : decode cX5_isOrder 164 = .ok (.aload_n 0, 1) := by decide +kernel
theorem dX5_isOrder_165 : decode cX5_isOrder 165 = .ok (.iconst 2, 1) := by decide +kernel
theorem dX5_isOrder_166 : decode cX5_isOrder 166 = .ok (.invokevirtual 220, 3) := by decide +kernel
theorem dX5_isOrder_169 : decode cX5_isOrder 169 = .ok (.ifCond .eq 24, 3) := by decide +kernel
theorem dX5_isOrder_172 : decode cX5_isOrder 172 = .ok (.aload_n 0, 1) := by decide +kernel
theorem dX5_isOrder_173 : decode cX5_isOrder 173 = .ok (.bipush 42, 2) := by decide +kernel
theorem dX5_isOrder_175 : decode cX5_isOrder 175 = .ok (.invokevirtual 223, 3) := by decide +kernel
theorem dX5_isOrder_178 : decode cX5_isOrder 178 = .ok (.ifCond .eq 15, 3) := by decide +kernel
theorem dX5_isOrder_181 : decode cX5_isOrder 181 = .ok (.aload_n 0, 1) := by decide +kernel
theorem dX5_isOrder_182 : decode cX5_isOrder 182 = .ok (.iconst 3, 1) := by decide +kernel
theorem dX5_isOrder_183 : decode cX5_isOrder 183 = .ok (.invokevirtual 220, 3) := by decide +kernel
theorem dX5_isOrder_186 : decode cX5_isOrder 186 = .ok (.ifCond .eq 7, 3) := by decide +kernel
theorem dX5_isOrder_189 : decode cX5_isOrder 189 = .ok (.iconst 1, 1) := by decide +kernel
theorem dX5_isOrder_190 : decode cX5_isOrder 190 = .ok (.goto 4, 3) := by decide +kernel
theorem dX5_isOrder_193 : decode cX5_isOrder 193 = .ok (.iconst 0, 1) := by decide +kernel
theorem dX5_isOrder_194 : decode cX5_isOrder 194 = .ok (.ireturn, 1) := by decide +kernel
theorem dX5_isOrder_195 : decode cX5_isOrder 195 = .ok (.aload_n 0, 1) := by decide +kernel
theorem dX5_isOrder_196 : decode cX5_isOrder 196 = .ok (.iload_n 1, 1) := by decide +kernel
theorem dX5_isOrder_197 : decode cX5_isOrder 197 = .ok (.bipush 119, 2) := by decide +kernel
theorem dX5_isOrder_199 : decode cX5_isOrder 199 = .ok (.if_icmp .ne 8, 3) := by decide +kernel
theorem dX5_isOrder_202 : decode cX5_isOrder 202 = .ok (.bipush 42, 2) := by decide +kernel
theorem dX5_isOrder_204 : decode cX5_isOrder 204 = .ok (.goto 5, 3) := by decide +kernel
theorem dX5_isOrder_207 : decode cX5_isOrder 207 = .ok (.bipush 64, 2) := by decide +kernel
theorem dX5_isOrder_209 : decode cX5_isOrder 209 = .ok (.invokevirtual 223, 3) := by decide +kernel
theorem dX5_isOrder_212 : decode cX5_isOrder 212 = .ok (.ifCond .eq 15, 3) := by decide +kernel
theorem dX5_isOrder_215 : decode cX5_isOrder 215 = .ok (.aload_n 0, 1) := by decide +kernel
theorem dX5_isOrder_216 : decode cX5_isOrder 216 = .ok (.iconst 2, 1) := by decide +kernel
theorem dX5_isOrder_217 : decode cX5_isOrder 217 = .ok (.invokevirtual 220, 3) := by decide +kernel
theorem dX5_isOrder_220 : decode cX5_isOrder 220 = .ok (.ifCond .eq 7, 3) := by decide +kernel
theorem dX5_isOrder_223 : decode cX5_isOrder 223 = .ok (.iconst 1, 1) := by decide +kernel
theorem dX5_isOrder_224 : decode cX5_isOrder 224 = .ok (.goto 4, 3) := by decide +kernel
theorem dX5_isOrder_227 : decode cX5_isOrder 227 = .ok (.iconst 0, 1) := by decide +kernel
theorem dX5_isOrder_228 : decode cX5_isOrder 228 = .ok (.ireturn, 1) := by decide +kernel
theorem dX5_isText_0 : decode cX5_isText 0 = .ok (.aload_n 0, 1) := by decide +kernel
theorem dX5_isText_1 : decode cX5_isText 1 = .ok (.iconst 0, 1) := by decide +kernel
theorem dX5_isText_2 : decode cX5_isText 2 = .ok (.putfield 211, 3) := by decide +kernel
theorem dX5_isText_5 : decode cX5_isText 5 = .ok (.aload_n 0, 1) := by decide +kernel
theorem dX5_isText_6 : decode cX5_isText 6 = .ok (.iconst 0, 1) := by decide +kernel
theorem dX5_isText_7 : decode cX5_isText 7 = .ok (.putfield 217, 3) := by decide +kernel
theorem dX5_isText_10 : decode cX5_isText 10 = .ok (.iconst 1, 1) := by decide +kernel
theorem dX5_isText_11 : decode cX5_isText 11 = .ok (.istore_n 1, 1) := by decide +kernel
theorem dX5_isText_12 : decode cX5_isText 12 = .ok (.iload_n 1, 1) := by decide +kernel
theorem dX5_isText_13 : decode cX5_isText 13 = .ok (.ifCond .eq 32, 3) := by decide +kernel
theorem dX5_isText_16 : decode cX5_isText 16 = .ok (.aload_n 0, 1) := by decide +kernel
theorem dX5_isText_17 : decode cX5_isText 17 = .ok (.invokevirtual 226, 3) := by decide +kernel
theorem dX5_isText_20 : decode cX5_isText 20 = .ok (.ifCond .ne 5, 3) := by decide +kernel
theorem dX5_isText_23 : decode cX5_isText 23 = .ok (.iconst 0, 1) := by decide +kernel
theorem dX5_isText_24 : decode cX5_isText 24 = .ok (.ireturn, 1) := by decide +kernel
theorem dX5_isText_25 : decode cX5_isText 25 = .ok (.aload_n 0, 1) := by decide +kernel
theorem dX5_isText_26 : decode cX5_isText 26 = .ok (.dup, 1) := by decide +kernel
theorem dX5_isText_27 : decode cX5_isText 27 = .ok (.getfield 217, 3) := by decide +kernel
theorem dX5_isText_30 : decode cX5_isText 30 = .ok (.iconst 1, 1) := by decide +kernel
theorem dX5_isText_31 : decode cX5_isText 31 = .ok (.iadd, 1) := by decide +kernel
theorem dX5_isText_32 : decode cX5_isText 32 = .ok (.putfield 217, 3) := by decide +kernel
theorem dX5_isText_35 : decode cX5_isText 35 = .ok (.aload_n 0, 1) := by decide +kernel
theorem dX5_isText_36 : decode cX5_isText 36 = .ok (.bipush 59, 2) := by decide +kernel
theorem dX5_isText_38 : decode cX5_isText 38 = .ok (.invokevirtual 223, 3) := by decide +kernel
theorem dX5_isText_41 : decode cX5_isText 41 = .ok (.istore_n 1, 1) := by decide +kernel
theorem dX5_isText_42 : decode cX5_isText 42 = .ok (.goto (-30), 3) := by decide +kernel
theorem dX5_isText_45 : decode cX5_isText 45 = .ok (.aload_n 0, 1) := by decide +kernel
theorem dX5_isText_46 : decode cX5_isText 46 = .ok (.getfield 211, 3) := by decide +kernel
theorem dX5_isText_49 : decode cX5_isText 49 = .ok (.aload_n 0, 1) := by decide +kernel
theorem dX5_isText_50 : decode cX5_isText 50 = .ok (.getfield 173, 3) := by decide +kernel
theorem dX5_isText_53 : decode cX5_isText 53 = .ok (.if_icmp .ne 7, 3) := by decide +kernel
theorem dX5_isText_56 : decode cX5_isText 56 = .ok (.iconst 1, 1) := by decide +kernel
theorem dX5_isText_57 : decode cX5_isText 57 = .ok (.goto 4, 3) := by decide +kernel
theorem dX5_isText_60 : decode cX5_isText 60 = .ok (.iconst 0, 1) := by decide +kernel
theorem dX5_isText_61 : decode cX5_isText 61 = .ok (.ireturn, 1) := by decide +kernel
theorem dX5_fault_0 : decode cX5_fault 0 = .ok (.aload_n 0, 1) := by decide +kernel
theorem dX5_fault_1 : decode cX5_fault 1 = .ok (.invokevirtual 230, 3) := by decide +kernel
theorem dX5_fault_4 : decode cX5_fault 4 = .ok (.ifCond .eq 8, 3) := by decide +kernel
theorem dX5_fault_7 : decode cX5_fault 7 = .ok (.bipush (-6), 2) := by decide +kernel
theorem dX5_fault_9 : decode cX5_fault 9 = .ok (.goto 7, 3) := by decide +kernel
theorem dX5_fault_12 : decode cX5_fault 12 = .ok (.aload_n 0, 1) := by decide +kernel
theorem dX5_fault_13 : decode cX5_fault 13 = .ok (.getfield 211, 3) := by decide +kernel
theorem dX5_fault_16 : decode cX5_fault 16 = .ok (.ireturn, 1) := by decide +kernel
theorem dX5_does_0 : decode cX5_does 0 = .ok (.aload_n 0, 1) := by decide +kernel
theorem dX5_does_1 : decode cX5_does 1 = .ok (.getfield 30, 3) := by decide +kernel
theorem dX5_does_4 : decode cX5_does 4 = .ok (.iconst 4, 1) := by decide +kernel
theorem dX5_does_5 : decode cX5_does 5 = .ok (.iload_n 1, 1) := by decide +kernel
theorem dX5_does_6 : decode cX5_does 6 = .ok (.imul, 1) := by decide +kernel
theorem dX5_does_7 : decode cX5_does 7 = .ok (.iaload, 1) := by decide +kernel
theorem dX5_does_8 : decode cX5_does 8 = .ok (.istore_n 2, 1) := by decide +kernel
theorem dX5_does_9 : decode cX5_does 9 = .ok (.aload_n 0, 1) := by decide +kernel
theorem dX5_does_10 : decode cX5_does 10 = .ok (.getfield 30, 3) := by decide +kernel
theorem dX5_does_13 : decode cX5_does 13 = .ok (.iconst 4, 1) := by decide +kernel
theorem dX5_does_14 : decode cX5_does 14 = .ok (.iload_n 1, 1) := by decide +kernel
theorem dX5_does_15 : decode cX5_does 15 = .ok (.imul, 1) := by decide +kernel
theorem dX5_does_16 : decode cX5_does 16 = .ok (.iconst 1, 1) := by decide +kernel
theorem dX5_does_17 : decode cX5_does 17 = .ok (.iadd, 1) := by decide +kernel
theorem dX5_does_18 : decode cX5_does 18 = .ok (.iaload, 1) := by decide +kernel
theorem dX5_does_19 : decode cX5_does 19 = .ok (.istore_n 3, 1) := by decide +kernel
theorem dX5_does_20 : decode cX5_does 20 = .ok (.aload_n 0, 1) := by decide +kernel
theorem dX5_does_21 : decode cX5_does 21 = .ok (.getfield 30, 3) := by decide +kernel
theorem dX5_does_24 : decode cX5_does 24 = .ok (.iconst 4, 1) := by decide +kernel
theorem dX5_does_25 : decode cX5_does 25 = .ok (.iload_n 1, 1) := by decide +kernel
theorem dX5_does_26 : decode cX5_does 26 = .ok (.imul, 1) := by decide +kernel
theorem dX5_does_27 : decode cX5_does 27 = .ok (.iconst 2, 1) := by decide +kernel
theorem dX5_does_28 : decode cX5_does 28 = .ok (.iadd, 1) := by decide +kernel
theorem dX5_does_29 : decode cX5_does 29 = .ok (.iaload, 1) := by decide +kernel
theorem dX5_does_30 : decode cX5_does 30 = .ok (.istore 4, 2) := by decide +kernel
theorem dX5_does_32 : decode cX5_does 32 = .ok (.aload_n 0, 1) := by decide +kernel
theorem dX5_does_33 : decode cX5_does 33 = .ok (.getfield 30, 3) := by decide +kernel
theorem dX5_does_36 : decode cX5_does 36 = .ok (.iconst 4, 1) := by decide +kernel
theorem dX5_does_37 : decode cX5_does 37 = .ok (.iload_n 1, 1) := by decide +kernel
theorem dX5_does_38 : decode cX5_does 38 = .ok (.imul, 1) := by decide +kernel
theorem dX5_does_39 : decode cX5_does 39 = .ok (.iconst 3, 1) := by decide +kernel
theorem dX5_does_40 : decode cX5_does 40 = .ok (.iadd, 1) := by decide +kernel
theorem dX5_does_41 : decode cX5_does 41 = .ok (.iaload, 1) := by decide +kernel
theorem dX5_does_42 : decode cX5_does 42 = .ok (.istore 5, 2) := by decide +kernel
theorem dX5_does_44 : decode cX5_does 44 = .ok (.iload_n 2, 1) := by decide +kernel
theorem dX5_does_45 : decode cX5_does 45 = .ok (.bipush 116, 2) := by decide +kernel
theorem dX5_does_47 : decode cX5_does 47 = .ok (.if_icmp .ne 19, 3) := by decide +kernel
theorem dX5_does_50 : decode cX5_does 50 = .ok (.iload_n 3, 1) := by decide +kernel
theorem dX5_does_51 : decode cX5_does 51 = .ok (.invokestatic 148, 3) := by decide +kernel
theorem dX5_does_54 : decode cX5_does 54 = .ok (.ifCond .eq 7, 3) := by decide +kernel
theorem dX5_does_57 : decode cX5_does 57 = .ok (.iconst 0, 1) := by decide +kernel
theorem dX5_does_58 : decode cX5_does 58 = .ok (.goto 60, 3) := by decide +kernel
theorem dX5_does_61 : decode cX5_does 61 = .ok (.bipush (-2), 2) := by decide +kernel
theorem dX5_does_63 : decode cX5_does 63 = .ok (.goto 55, 3) := by decide +kernel
theorem dX5_does_66 : decode cX5_does 66 = .ok (.iload_n 2, 1) := by decide +kernel
theorem dX5_does_67 : decode cX5_does 67 = .ok (.bipush 118, 2) := by decide +kernel
theorem dX5_does_69 : decode cX5_does 69 = .ok (.if_icmp .ne 15, 3) := by decide +kernel
theorem dX5_does_72 : decode cX5_does 72 = .ok (.aload_n 0, 1) := by decide +kernel
theorem dX5_does_73 : decode cX5_does 73 = .ok (.iload_n 3, 1) := by decide +kernel
theorem dX5_does_74 : decode cX5_does 74 = .ok (.iload 4, 2) := by decide +kernel
theorem dX5_does_76 : decode cX5_does 76 = .ok (.iload 5, 2) := by decide +kernel
theorem dX5_does_78 : decode cX5_does 78 = .ok (.invokevirtual 111, 3) := by decide +kernel
theorem dX5_does_81 : decode cX5_does 81 = .ok (.goto 37, 3) := by decide +kernel
theorem dX5_does_84 : decode cX5_does 84 = .ok (.iload_n 2, 1) := by decide +kernel
theorem dX5_does_85 : decode cX5_does 85 = .ok (.bipush 119, 2) := by decide +kernel
theorem dX5_does_87 : decode cX5_does 87 = .ok (.if_icmp .ne 13, 3) := by decide +kernel
theorem dX5_does_90 : decode cX5_does 90 = .ok (.aload_n 0, 1) := by decide +kernel
theorem dX5_does_91 : decode cX5_does 91 = .ok (.iload_n 3, 1) := by decide +kernel
theorem dX5_does_92 : decode cX5_does 92 = .ok (.iload 4, 2) := by decide +kernel
theorem dX5_does_94 : decode cX5_does 94 = .ok (.invokevirtual 122, 3) := by decide +kernel
theorem dX5_does_97 : decode cX5_does 97 = .ok (.goto 21, 3) := by decide +kernel
theorem dX5_does_100 : decode cX5_does 100 = .ok (.aload_n 0, 1) := by decide +kernel
theorem dX5_does_101 : decode cX5_does 101 = .ok (.iload_n 3, 1) := by decide +kernel
theorem dX5_does_102 : decode cX5_does 102 = .ok (.iload 4, 2) := by decide +kernel
theorem dX5_does_104 : decode cX5_does 104 = .ok (.iload_n 2, 1) := by decide +kernel
theorem dX5_does_105 : decode cX5_does 105 = .ok (.bipush 115, 2) := by decide +kernel
theorem dX5_does_107 : decode cX5_does 107 = .ok (.if_icmp .ne 7, 3) := by decide +kernel
theorem dX5_does_110 : decode cX5_does 110 = .ok (.iconst 1, 1) := by decide +kernel
theorem dX5_does_111 : decode cX5_does 111 = .ok (.goto 4, 3) := by decide +kernel
theorem dX5_does_114 : decode cX5_does 114 = .ok (.iconst 0, 1) := by decide +kernel
theorem dX5_does_115 : decode cX5_does 115 = .ok (.invokevirtual 135, 3) := by decide +kernel
theorem dX5_does_118 : decode cX5_does 118 = .ok (.istore 6, 2) := by decide +kernel
theorem dX5_does_120 : decode cX5_does 120 = .ok (.iload 6, 2) := by decide +kernel
theorem dX5_does_122 : decode cX5_does 122 = .ok (.ifCond .eq 5, 3) := by decide +kernel
theorem dX5_does_125 : decode cX5_does 125 = .ok (.iconst 0, 1) := by decide +kernel
theorem dX5_does_126 : decode cX5_does 126 = .ok (.ireturn, 1) := by decide +kernel
theorem dX5_does_127 : decode cX5_does 127 = .ok (.iload_n 2, 1) := by decide +kernel
theorem dX5_does_128 : decode cX5_does 128 = .ok (.bipush 116, 2) := by decide +kernel
theorem dX5_does_130 : decode cX5_does 130 = .ok (.if_icmp .ne 11, 3) := by decide +kernel
theorem dX5_does_133 : decode cX5_does 133 = .ok (.aload_n 0, 1) := by decide +kernel
theorem dX5_does_134 : decode cX5_does 134 = .ok (.iload_n 3, 1) := by decide +kernel
theorem dX5_does_135 : decode cX5_does 135 = .ok (.invokevirtual 151, 3) := by decide +kernel
theorem dX5_does_138 : decode cX5_does 138 = .ok (.goto 58, 3) := by decide +kernel
theorem dX5_does_141 : decode cX5_does 141 = .ok (.iload_n 2, 1) := by decide +kernel
theorem dX5_does_142 : decode cX5_does 142 = .ok (.bipush 118, 2) := by decide +kernel
theorem dX5_does_144 : decode cX5_does 144 = .ok (.if_icmp .ne 16, 3) := by decide +kernel
theorem dX5_does_147 : decode cX5_does 147 = .ok (.aload_n 0, 1) := by decide +kernel
theorem dX5_does_148 : decode cX5_does 148 = .ok (.iload_n 3, 1) := by decide +kernel
end
section
theorem dX5_does_149 : decode cX5_does 149 = .ok (.iload 4, 2) := by decide +kernel
theorem dX5_does_151 : decode cX5_does 151 = .ok (.iload 5, 2) := by decide +kernel
theorem dX5_does_153 : decode cX5_does 153 = .ok (.invokevirtual 115, 3) := by decide +kernel
theorem dX5_does_156 : decode cX5_does 156 = .ok (.pop, 1) := by decide +kernel
theorem dX5_does_157 : decode cX5_does 157 = .ok (.goto 39, 3) := by decide +kernel
theorem dX5_does_160 : decode cX5_does 160 = .ok (.iload_n 2, 1) := by decide +kernel
theorem dX5_does_161 : decode cX5_does 161 = .ok (.bipush 119, 2) := by decide +kernel
theorem dX5_does_163 : decode cX5_does 163 = .ok (.if_icmp .ne 14, 3) := by decide +kernel
theorem dX5_does_166 : decode cX5_does 166 = .ok (.aload_n 0, 1) := by decide +kernel
theorem dX5_does_167 : decode cX5_does 167 = .ok (.iload_n 3, 1) := by decide +kernel
theorem dX5_does_168 : decode cX5_does 168 = .ok (.iload 4, 2) := by decide +kernel
theorem dX5_does_170 : decode cX5_does 170 = .ok (.invokevirtual 126, 3) := by decide +kernel
theorem dX5_does_173 : decode cX5_does 173 = .ok (.pop, 1) := by decide +kernel
theorem dX5_does_174 : decode cX5_does 174 = .ok (.goto 22, 3) := by decide +kernel
theorem dX5_does_177 : decode cX5_does 177 = .ok (.aload_n 0, 1) := by decide +kernel
theorem dX5_does_178 : decode cX5_does 178 = .ok (.iload_n 3, 1) := by decide +kernel
theorem dX5_does_179 : decode cX5_does 179 = .ok (.iload 4, 2) := by decide +kernel
theorem dX5_does_181 : decode cX5_does 181 = .ok (.iload_n 2, 1) := by decide +kernel
theorem dX5_does_182 : decode cX5_does 182 = .ok (.bipush 115, 2) := by decide +kernel
theorem dX5_does_184 : decode cX5_does 184 = .ok (.if_icmp .ne 7, 3) := by decide +kernel
theorem dX5_does_187 : decode cX5_does 187 = .ok (.iconst 1, 1) := by decide +kernel
theorem dX5_does_188 : decode cX5_does 188 = .ok (.goto 4, 3) := by decide +kernel
theorem dX5_does_191 : decode cX5_does 191 = .ok (.iconst 0, 1) := by decide +kernel
theorem dX5_does_192 : decode cX5_does 192 = .ok (.invokevirtual 139, 3) := by decide +kernel
theorem dX5_does_195 : decode cX5_does 195 = .ok (.pop, 1) := by decide +kernel
theorem dX5_does_196 : decode cX5_does 196 = .ok (.iconst 1, 1) := by decide +kernel
theorem dX5_does_197 : decode cX5_does 197 = .ok (.ireturn, 1) := by decide +kernel
theorem dX5_carryOut_0 : decode cX5_carryOut 0 = .ok (.aload_n 0, 1) := by decide +kernel
theorem dX5_carryOut_1 : decode cX5_carryOut 1 = .ok (.invokevirtual 230, 3) := by decide +kernel
theorem dX5_carryOut_4 : decode cX5_carryOut 4 = .ok (.ifCond .ne 6, 3) := by decide +kernel
theorem dX5_carryOut_7 : decode cX5_carryOut 7 = .ok (.bipush (-3), 2) := by decide +kernel
theorem dX5_carryOut_9 : decode cX5_carryOut 9 = .ok (.ireturn, 1) := by decide +kernel
theorem dX5_carryOut_10 : decode cX5_carryOut 10 = .ok (.aload_n 0, 1) := by decide +kernel
theorem dX5_carryOut_11 : decode cX5_carryOut 11 = .ok (.invokevirtual 65, 3) := by decide +kernel
theorem dX5_carryOut_14 : decode cX5_carryOut 14 = .ok (.aload_n 0, 1) := by decide +kernel
theorem dX5_carryOut_15 : decode cX5_carryOut 15 = .ok (.iconst 0, 1) := by decide +kernel
theorem dX5_carryOut_16 : decode cX5_carryOut 16 = .ok (.putfield 173, 3) := by decide +kernel
theorem dX5_carryOut_19 : decode cX5_carryOut 19 = .ok (.iconst 0, 1) := by decide +kernel
theorem dX5_carryOut_20 : decode cX5_carryOut 20 = .ok (.istore_n 1, 1) := by decide +kernel
theorem dX5_carryOut_21 : decode cX5_carryOut 21 = .ok (.iload_n 1, 1) := by decide +kernel
theorem dX5_carryOut_22 : decode cX5_carryOut 22 = .ok (.aload_n 0, 1) := by decide +kernel
theorem dX5_carryOut_23 : decode cX5_carryOut 23 = .ok (.getfield 217, 3) := by decide +kernel
theorem dX5_carryOut_26 : decode cX5_carryOut 26 = .ok (.if_icmp .ge 17, 3) := by decide +kernel
theorem dX5_carryOut_29 : decode cX5_carryOut 29 = .ok (.aload_n 0, 1) := by decide +kernel
theorem dX5_carryOut_30 : decode cX5_carryOut 30 = .ok (.iload_n 1, 1) := by decide +kernel
theorem dX5_carryOut_31 : decode cX5_carryOut 31 = .ok (.invokevirtual 233, 3) := by decide +kernel
theorem dX5_carryOut_34 : decode cX5_carryOut 34 = .ok (.ifCond .eq 9, 3) := by decide +kernel
theorem dX5_carryOut_37 : decode cX5_carryOut 37 = .ok (.iinc 1 1, 3) := by decide +kernel
theorem dX5_carryOut_40 : decode cX5_carryOut 40 = .ok (.goto (-19), 3) := by decide +kernel
theorem dX5_carryOut_43 : decode cX5_carryOut 43 = .ok (.iload_n 1, 1) := by decide +kernel
theorem dX5_carryOut_44 : decode cX5_carryOut 44 = .ok (.ireturn, 1) := by decide +kernel
theorem dJxe99ae_isNaN_b9ae7_0 : decode cJxe99ae_isNaN_b9ae7 0 = .ok (.dload_n 0, 1) := by decide +kernel
theorem dJxe99ae_isNaN_b9ae7_1 : decode cJxe99ae_isNaN_b9ae7 1 = .ok (.dload_n 0, 1) := by decide +kernel
theorem dJxe99ae_isNaN_b9ae7_2 : decode cJxe99ae_isNaN_b9ae7 2 = .ok (.dcmp .l, 1) := by decide +kernel
theorem dJxe99ae_isNaN_b9ae7_3 : decode cJxe99ae_isNaN_b9ae7 3 = .ok (.ifCond .eq 7, 3) := by decide +kernel
theorem dJxe99ae_isNaN_b9ae7_6 : decode cJxe99ae_isNaN_b9ae7 6 = .ok (.iconst 1, 1) := by decide +kernel
theorem dJxe99ae_isNaN_b9ae7_7 : decode cJxe99ae_isNaN_b9ae7 7 = .ok (.goto 4, 3) := by decide +kernel
theorem dJxe99ae_isNaN_b9ae7_10 : decode cJxe99ae_isNaN_b9ae7 10 = .ok (.iconst 0, 1) := by decide +kernel
theorem dJxe99ae_isNaN_b9ae7_11 : decode cJxe99ae_isNaN_b9ae7 11 = .ok (.ireturn, 1) := by decide +kernel
theorem dJxe99ae_doubleToLongBits_ccdee_0 : decode cJxe99ae_doubleToLongBits_ccdee 0 = .ok (.dload_n 0, 1) := by decide +kernel
theorem dJxe99ae_doubleToLongBits_ccdee_1 : decode cJxe99ae_doubleToLongBits_ccdee 1 = .ok (.invokestatic 122, 3) := by decide +kernel
theorem dJxe99ae_doubleToLongBits_ccdee_4 : decode cJxe99ae_doubleToLongBits_ccdee 4 = .ok (.ifCond .ne 8, 3) := by decide +kernel
theorem dJxe99ae_doubleToLongBits_ccdee_7 : decode cJxe99ae_doubleToLongBits_ccdee 7 = .ok (.dload_n 0, 1) := by decide +kernel
theorem dJxe99ae_doubleToLongBits_ccdee_8 : decode cJxe99ae_doubleToLongBits_ccdee 8 = .ok (.invokestatic 134, 3) := by decide +kernel
theorem dJxe99ae_doubleToLongBits_ccdee_11 : decode cJxe99ae_doubleToLongBits_ccdee 11 = .ok (.lreturn, 1) := by decide +kernel
theorem dJxe99ae_doubleToLongBits_ccdee_12 : decode cJxe99ae_doubleToLongBits_ccdee 12 = .ok (.ldc2_w 137, 3) := by decide +kernel
theorem dJxe99ae_doubleToLongBits_ccdee_15 : decode cJxe99ae_doubleToLongBits_ccdee 15 = .ok (.lreturn, 1) := by decide +kernel
theorem dJxf58ca_isNaN_12338_0 : decode cJxf58ca_isNaN_12338 0 = .ok (.fload_n 0, 1) := by decide +kernel
theorem dJxf58ca_isNaN_12338_1 : decode cJxf58ca_isNaN_12338 1 = .ok (.fload_n 0, 1) := by decide +kernel
theorem dJxf58ca_isNaN_12338_2 : decode cJxf58ca_isNaN_12338 2 = .ok (.fcmp .l, 1) := by decide +kernel
theorem dJxf58ca_isNaN_12338_3 : decode cJxf58ca_isNaN_12338 3 = .ok (.ifCond .eq 7, 3) := by decide +kernel
theorem dJxf58ca_isNaN_12338_6 : decode cJxf58ca_isNaN_12338 6 = .ok (.iconst 1, 1) := by decide +kernel
theorem dJxf58ca_isNaN_12338_7 : decode cJxf58ca_isNaN_12338 7 = .ok (.goto 4, 3) := by decide +kernel
theorem dJxf58ca_isNaN_12338_10 : decode cJxf58ca_isNaN_12338 10 = .ok (.iconst 0, 1) := by decide +kernel
theorem dJxf58ca_isNaN_12338_11 : decode cJxf58ca_isNaN_12338 11 = .ok (.ireturn, 1) := by decide +kernel
theorem dJxf58ca_floatToIntBits_5c35a_0 : decode cJxf58ca_floatToIntBits_5c35a 0 = .ok (.fload_n 0, 1) := by decide +kernel
theorem dJxf58ca_floatToIntBits_5c35a_1 : decode cJxf58ca_floatToIntBits_5c35a 1 = .ok (.invokestatic 59, 3) := by decide +kernel
theorem dJxf58ca_floatToIntBits_5c35a_4 : decode cJxf58ca_floatToIntBits_5c35a 4 = .ok (.ifCond .ne 8, 3) := by decide +kernel
theorem dJxf58ca_floatToIntBits_5c35a_7 : decode cJxf58ca_floatToIntBits_5c35a 7 = .ok (.fload_n 0, 1) := by decide +kernel
theorem dJxf58ca_floatToIntBits_5c35a_8 : decode cJxf58ca_floatToIntBits_5c35a 8 = .ok (.invokestatic 74, 3) := by decide +kernel
theorem dJxf58ca_floatToIntBits_5c35a_11 : decode cJxf58ca_floatToIntBits_5c35a 11 = .ok (.ireturn, 1) := by decide +kernel
theorem dJxf58ca_floatToIntBits_5c35a_12 : decode cJxf58ca_floatToIntBits_5c35a 12 = .ok (.ldc 77, 2) := by decide +kernel
theorem dJxf58ca_floatToIntBits_5c35a_14 : decode cJxf58ca_floatToIntBits_5c35a 14 = .ok (.ireturn, 1) := by decide +kernel
theorem dJ9_max_7cf53_0 : decode cJ9_max_7cf53 0 = .ok (.iload_n 0, 1) := by decide +kernel
theorem dJ9_max_7cf53_1 : decode cJ9_max_7cf53 1 = .ok (.iload_n 1, 1) := by decide +kernel
theorem dJ9_max_7cf53_2 : decode cJ9_max_7cf53 2 = .ok (.if_icmp .lt 7, 3) := by decide +kernel
theorem dJ9_max_7cf53_5 : decode cJ9_max_7cf53 5 = .ok (.iload_n 0, 1) := by decide +kernel
theorem dJ9_max_7cf53_6 : decode cJ9_max_7cf53 6 = .ok (.goto 4, 3) := by decide +kernel
theorem dJ9_max_7cf53_9 : decode cJ9_max_7cf53 9 = .ok (.iload_n 1, 1) := by decide +kernel
theorem dJ9_max_7cf53_10 : decode cJ9_max_7cf53 10 = .ok (.ireturn, 1) := by decide +kernel
theorem dJ9_min_7cf53_0 : decode cJ9_min_7cf53 0 = .ok (.iload_n 0, 1) := by decide +kernel
theorem dJ9_min_7cf53_1 : decode cJ9_min_7cf53 1 = .ok (.iload_n 1, 1) := by decide +kernel
theorem dJ9_min_7cf53_2 : decode cJ9_min_7cf53 2 = .ok (.if_icmp .gt 7, 3) := by decide +kernel
theorem dJ9_min_7cf53_5 : decode cJ9_min_7cf53 5 = .ok (.iload_n 0, 1) := by decide +kernel
theorem dJ9_min_7cf53_6 : decode cJ9_min_7cf53 6 = .ok (.goto 4, 3) := by decide +kernel
theorem dJ9_min_7cf53_9 : decode cJ9_min_7cf53 9 = .ok (.iload_n 1, 1) := by decide +kernel
theorem dJ9_min_7cf53_10 : decode cJ9_min_7cf53 10 = .ok (.ireturn, 1) := by decide +kernel
theorem dL_law_0 : decode cL_law 0 = .ok (.new 7, 3) := by decide +kernel
theorem dL_law_3 : decode cL_law 3 = .ok (.dup, 1) := by decide +kernel
theorem dL_law_4 : decode cL_law 4 = .ok (.invokespecial 9, 3) := by decide +kernel
theorem dL_law_7 : decode cL_law 7 = .ok (.astore_n 1, 1) := by decide +kernel
theorem dL_law_8 : decode cL_law 8 = .ok (.new 10, 3) := by decide +kernel
theorem dL_law_11 : decode cL_law 11 = .ok (.dup, 1) := by decide +kernel
theorem dL_law_12 : decode cL_law 12 = .ok (.invokespecial 12, 3) := by decide +kernel
theorem dL_law_15 : decode cL_law 15 = .ok (.astore_n 2, 1) := by decide +kernel
theorem dL_law_16 : decode cL_law 16 = .ok (.iconst 0, 1) := by decide +kernel
theorem dL_law_17 : decode cL_law 17 = .ok (.istore_n 3, 1) := by decide +kernel
theorem dL_law_18 : decode cL_law 18 = .ok (.iload_n 3, 1) := by decide +kernel
theorem dL_law_19 : decode cL_law 19 = .ok (.aload_n 0, 1) := by decide +kernel
theorem dL_law_20 : decode cL_law 20 = .ok (.arraylength, 1) := by decide +kernel
theorem dL_law_21 : decode cL_law 21 = .ok (.iconst 4, 1) := by decide +kernel
theorem dL_law_22 : decode cL_law 22 = .ok (.isub, 1) := by decide +kernel
theorem dL_law_23 : decode cL_law 23 = .ok (.if_icmp .gt 780, 3) := by decide +kernel
theorem dL_law_26 : decode cL_law 26 = .ok (.aload_n 0, 1) := by decide +kernel
theorem dL_law_27 : decode cL_law 27 = .ok (.iload_n 3, 1) := by decide +kernel
theorem dL_law_28 : decode cL_law 28 = .ok (.iaload, 1) := by decide +kernel
theorem dL_law_29 : decode cL_law 29 = .ok (.bipush 31, 2) := by decide +kernel
theorem dL_law_31 : decode cL_law 31 = .ok (.iand, 1) := by decide +kernel
theorem dL_law_32 : decode cL_law 32 = .ok (.tableswitch 765 0 23 #[112, 145, 188, 221, 254, 287, 310, 343, 376, 399, 422, 446, 469, 502, 535, 568, 591, 614, 667, 680, 693, 706, 719, 742], 112) := by decide +kernel
theorem dL_law_144 : decode cL_law 144 = .ok (.aload_n 1, 1) := by decide +kernel
theorem dL_law_145 : decode cL_law 145 = .ok (.aload_n 0, 1) := by decide +kernel
theorem dL_law_146 : decode cL_law 146 = .ok (.iload_n 3, 1) := by decide +kernel
theorem dL_law_147 : decode cL_law 147 = .ok (.iconst 1, 1) := by decide +kernel
theorem dL_law_148 : decode cL_law 148 = .ok (.iadd, 1) := by decide +kernel
theorem dL_law_149 : decode cL_law 149 = .ok (.iaload, 1) := by decide +kernel
theorem dL_law_150 : decode cL_law 150 = .ok (.aload_n 0, 1) := by decide +kernel
theorem dL_law_151 : decode cL_law 151 = .ok (.iload_n 3, 1) := by decide +kernel
theorem dL_law_152 : decode cL_law 152 = .ok (.iconst 2, 1) := by decide +kernel
theorem dL_law_153 : decode cL_law 153 = .ok (.iadd, 1) := by decide +kernel
theorem dL_law_154 : decode cL_law 154 = .ok (.iaload, 1) := by decide +kernel
theorem dL_law_155 : decode cL_law 155 = .ok (.invokevirtual 13, 3) := by decide +kernel
theorem dL_law_158 : decode cL_law 158 = .ok (.aload_n 2, 1) := by decide +kernel
theorem dL_law_159 : decode cL_law 159 = .ok (.aload_n 0, 1) := by decide +kernel
theorem dL_law_160 : decode cL_law 160 = .ok (.iload_n 3, 1) := by decide +kernel
theorem dL_law_161 : decode cL_law 161 = .ok (.iconst 1, 1) := by decide +kernel
theorem dL_law_162 : decode cL_law 162 = .ok (.iadd, 1) := by decide +kernel
theorem dL_law_163 : decode cL_law 163 = .ok (.iaload, 1) := by decide +kernel
theorem dL_law_164 : decode cL_law 164 = .ok (.aload_n 0, 1) := by decide +kernel
theorem dL_law_165 : decode cL_law 165 = .ok (.iload_n 3, 1) := by decide +kernel
theorem dL_law_166 : decode cL_law 166 = .ok (.iconst 2, 1) := by decide +kernel
theorem dL_law_167 : decode cL_law 167 = .ok (.iadd, 1) := by decide +kernel
theorem dL_law_168 : decode cL_law 168 = .ok (.iaload, 1) := by decide +kernel
theorem dL_law_169 : decode cL_law 169 = .ok (.invokevirtual 17, 3) := by decide +kernel
theorem dL_law_172 : decode cL_law 172 = .ok (.if_icmp .eq 625, 3) := by decide +kernel
theorem dL_law_175 : decode cL_law 175 = .ok (.iconst 0, 1) := by decide +kernel
theorem dL_law_176 : decode cL_law 176 = .ok (.ireturn, 1) := by decide +kernel
theorem dL_law_177 : decode cL_law 177 = .ok (.aload_n 1, 1) := by decide +kernel
theorem dL_law_178 : decode cL_law 178 = .ok (.aload_n 0, 1) := by decide +kernel
theorem dL_law_179 : decode cL_law 179 = .ok (.iload_n 3, 1) := by decide +kernel
theorem dL_law_180 : decode cL_law 180 = .ok (.iconst 1, 1) := by decide +kernel
theorem dL_law_181 : decode cL_law 181 = .ok (.iadd, 1) := by decide +kernel
theorem dL_law_182 : decode cL_law 182 = .ok (.iaload, 1) := by decide +kernel
theorem dL_law_183 : decode cL_law 183 = .ok (.aload_n 0, 1) := by decide +kernel
theorem dL_law_184 : decode cL_law 184 = .ok (.iload_n 3, 1) := by decide +kernel
theorem dL_law_185 : decode cL_law 185 = .ok (.iconst 2, 1) := by decide +kernel
theorem dL_law_186 : decode cL_law 186 = .ok (.iadd, 1) := by decide +kernel
theorem dL_law_187 : decode cL_law 187 = .ok (.iaload, 1) := by decide +kernel
theorem dL_law_188 : decode cL_law 188 = .ok (.aload_n 0, 1) := by decide +kernel
theorem dL_law_189 : decode cL_law 189 = .ok (.iload_n 3, 1) := by decide +kernel
theorem dL_law_190 : decode cL_law 190 = .ok (.iconst 3, 1) := by decide +kernel
theorem dL_law_191 : decode cL_law 191 = .ok (.iadd, 1) := by decide +kernel
theorem dL_law_192 : decode cL_law 192 = .ok (.iaload, 1) := by decide +kernel
theorem dL_law_193 : decode cL_law 193 = .ok (.invokevirtual 18, 3) := by decide +kernel
theorem dL_law_196 : decode cL_law 196 = .ok (.aload_n 2, 1) := by decide +kernel
theorem dL_law_197 : decode cL_law 197 = .ok (.aload_n 0, 1) := by decide +kernel
theorem dL_law_198 : decode cL_law 198 = .ok (.iload_n 3, 1) := by decide +kernel
theorem dL_law_199 : decode cL_law 199 = .ok (.iconst 1, 1) := by decide +kernel
theorem dL_law_200 : decode cL_law 200 = .ok (.iadd, 1) := by decide +kernel
theorem dL_law_201 : decode cL_law 201 = .ok (.iaload, 1) := by decide +kernel
theorem dL_law_202 : decode cL_law 202 = .ok (.aload_n 0, 1) := by decide +kernel
theorem dL_law_203 : decode cL_law 203 = .ok (.iload_n 3, 1) := by decide +kernel
theorem dL_law_204 : decode cL_law 204 = .ok (.iconst 2, 1) := by decide +kernel
theorem dL_law_205 : decode cL_law 205 = .ok (.iadd, 1) := by decide +kernel
theorem dL_law_206 : decode cL_law 206 = .ok (.iaload, 1) := by decide +kernel
theorem dL_law_207 : decode cL_law 207 = .ok (.aload_n 0, 1) := by decide +kernel
theorem dL_law_208 : decode cL_law 208 = .ok (.iload_n 3, 1) := by decide +kernel
theorem dL_law_209 : decode cL_law 209 = .ok (.iconst 3, 1) := by decide +kernel
theorem dL_law_210 : decode cL_law 210 = .ok (.iadd, 1) := by decide +kernel
theorem dL_law_211 : decode cL_law 211 = .ok (.iaload, 1) := by decide +kernel
theorem dL_law_212 : decode cL_law 212 = .ok (.invokevirtual 22, 3) := by decide +kernel
theorem dL_law_215 : decode cL_law 215 = .ok (.if_icmp .eq 582, 3) := by decide +kernel
theorem dL_law_218 : decode cL_law 218 = .ok (.iconst 0, 1) := by decide +kernel
theorem dL_law_219 : decode cL_law 219 = .ok (.ireturn, 1) := by decide +kernel
theorem dL_law_220 : decode cL_law 220 = .ok (.aload_n 1, 1) := by decide +kernel
theorem dL_law_221 : decode cL_law 221 = .ok (.aload_n 0, 1) := by decide +kernel
theorem dL_law_222 : decode cL_law 222 = .ok (.iload_n 3, 1) := by decide +kernel
theorem dL_law_223 : decode cL_law 223 = .ok (.iconst 1, 1) := by decide +kernel
theorem dL_law_224 : decode cL_law 224 = .ok (.iadd, 1) := by decide +kernel
theorem dL_law_225 : decode cL_law 225 = .ok (.iaload, 1) := by decide +kernel
theorem dL_law_226 : decode cL_law 226 = .ok (.aload_n 0, 1) := by decide +kernel
theorem dL_law_227 : decode cL_law 227 = .ok (.iload_n 3, 1) := by decide +kernel
theorem dL_law_228 : decode cL_law 228 = .ok (.iconst 2, 1) := by decide +kernel
theorem dL_law_229 : decode cL_law 229 = .ok (.iadd, 1) := by decide +kernel
theorem dL_law_230 : decode cL_law 230 = .ok (.iaload, 1) := by decide +kernel
theorem dL_law_231 : decode cL_law 231 = .ok (.invokevirtual 23, 3) := by decide +kernel
theorem dL_law_234 : decode cL_law 234 = .ok (.aload_n 2, 1) := by decide +kernel
theorem dL_law_235 : decode cL_law 235 = .ok (.aload_n 0, 1) := by decide +kernel
theorem dL_law_236 : decode cL_law 236 = .ok (.iload_n 3, 1) := by decide +kernel
theorem dL_law_237 : decode cL_law 237 = .ok (.iconst 1, 1) := by decide +kernel
theorem dL_law_238 : decode cL_law 238 = .ok (.iadd, 1) := by decide +kernel
theorem dL_law_239 : decode cL_law 239 = .ok (.iaload, 1) := by decide +kernel
theorem dL_law_240 : decode cL_law 240 = .ok (.aload_n 0, 1) := by decide +kernel
theorem dL_law_241 : decode cL_law 241 = .ok (.iload_n 3, 1) := by decide +kernel
theorem dL_law_242 : decode cL_law 242 = .ok (.iconst 2, 1) := by decide +kernel
theorem dL_law_243 : decode cL_law 243 = .ok (.iadd, 1) := by decide +kernel
theorem dL_law_244 : decode cL_law 244 = .ok (.iaload, 1) := by decide +kernel
theorem dL_law_245 : decode cL_law 245 = .ok (.invokevirtual 26, 3) := by decide +kernel
theorem dL_law_248 : decode cL_law 248 = .ok (.if_icmp .eq 549, 3) := by decide +kernel
theorem dL_law_251 : decode cL_law 251 = .ok (.iconst 0, 1) := by decide +kernel
theorem dL_law_252 : decode cL_law 252 = .ok (.ireturn, 1) := by decide +kernel
theorem dL_law_253 : decode cL_law 253 = .ok (.aload_n 1, 1) := by decide +kernel
theorem dL_law_254 : decode cL_law 254 = .ok (.aload_n 0, 1) := by decide +kernel
theorem dL_law_255 : decode cL_law 255 = .ok (.iload_n 3, 1) := by decide +kernel
theorem dL_law_256 : decode cL_law 256 = .ok (.iconst 1, 1) := by decide +kernel
theorem dL_law_257 : decode cL_law 257 = .ok (.iadd, 1) := by decide +kernel
theorem dL_law_258 : decode cL_law 258 = .ok (.iaload, 1) := by decide +kernel
theorem dL_law_259 : decode cL_law 259 = .ok (.aload_n 0, 1) := by decide +kernel
theorem dL_law_260 : decode cL_law 260 = .ok (.iload_n 3, 1) := by decide +kernel
theorem dL_law_261 : decode cL_law 261 = .ok (.iconst 2, 1) := by decide +kernel
theorem dL_law_262 : decode cL_law 262 = .ok (.iadd, 1) := by decide +kernel
theorem dL_law_263 : decode cL_law 263 = .ok (.iaload, 1) := by decide +kernel
theorem dL_law_264 : decode cL_law 264 = .ok (.invokevirtual 27, 3) := by decide +kernel
theorem dL_law_267 : decode cL_law 267 = .ok (.aload_n 2, 1) := by decide +kernel
theorem dL_law_268 : decode cL_law 268 = .ok (.aload_n 0, 1) := by decide +kernel
theorem dL_law_269 : decode cL_law 269 = .ok (.iload_n 3, 1) := by decide +kernel
theorem dL_law_270 : decode cL_law 270 = .ok (.iconst 1, 1) := by decide +kernel
theorem dL_law_271 : decode cL_law 271 = .ok (.iadd, 1) := by decide +kernel
theorem dL_law_272 : decode cL_law 272 = .ok (.iaload, 1) := by decide +kernel
theorem dL_law_273 : decode cL_law 273 = .ok (.aload_n 0, 1) := by decide +kernel
theorem dL_law_274 : decode cL_law 274 = .ok (.iload_n 3, 1) := by decide +kernel
theorem dL_law_275 : decode cL_law 275 = .ok (.iconst 2, 1) := by decide +kernel
theorem dL_law_276 : decode cL_law 276 = .ok (.iadd, 1) := by decide +kernel
theorem dL_law_277 : decode cL_law 277 = .ok (.iaload, 1) := by decide +kernel
theorem dL_law_278 : decode cL_law 278 = .ok (.invokevirtual 30, 3) := by decide +kernel
theorem dL_law_281 : decode cL_law 281 = .ok (.if_icmp .eq 516, 3) := by decide +kernel
theorem dL_law_284 : decode cL_law 284 = .ok (.iconst 0, 1) := by decide +kernel
theorem dL_law_285 : decode cL_law 285 = .ok (.ireturn, 1) := by decide +kernel
theorem dL_law_286 : decode cL_law 286 = .ok (.aload_n 1, 1) := by decide +kernel
theorem dL_law_287 : decode cL_law 287 = .ok (.aload_n 0, 1) := by decide +kernel
theorem dL_law_288 : decode cL_law 288 = .ok (.iload_n 3, 1) := by decide +kernel
theorem dL_law_289 : decode cL_law 289 = .ok (.iconst 1, 1) := by decide +kernel
theorem dL_law_290 : decode cL_law 290 = .ok (.iadd, 1) := by decide +kernel
theorem dL_law_291 : decode cL_law 291 = .ok (.iaload, 1) := by decide +kernel
theorem dL_law_292 : decode cL_law 292 = .ok (.aload_n 0, 1) := by decide +kernel
theorem dL_law_293 : decode cL_law 293 = .ok (.iload_n 3, 1) := by decide +kernel
theorem dL_law_294 : decode cL_law 294 = .ok (.iconst 2, 1) := by decide +kernel
theorem dL_law_295 : decode cL_law 295 = .ok (.iadd, 1) := by decide +kernel
theorem dL_law_296 : decode cL_law 296 = .ok (.iaload, 1) := by decide +kernel
theorem dL_law_297 : decode cL_law 297 = .ok (.invokevirtual 31, 3) := by decide +kernel
theorem dL_law_300 : decode cL_law 300 = .ok (.aload_n 2, 1) := by decide +kernel
theorem dL_law_301 : decode cL_law 301 = .ok (.aload_n 0, 1) := by decide +kernel
theorem dL_law_302 : decode cL_law 302 = .ok (.iload_n 3, 1) := by decide +kernel
theorem dL_law_303 : decode cL_law 303 = .ok (.iconst 1, 1) := by decide +kernel
theorem dL_law_304 : decode cL_law 304 = .ok (.iadd, 1) := by decide +kernel
theorem dL_law_305 : decode cL_law 305 = .ok (.iaload, 1) := by decide +kernel
theorem dL_law_306 : decode cL_law 306 = .ok (.aload_n 0, 1) := by decide +kernel
theorem dL_law_307 : decode cL_law 307 = .ok (.iload_n 3, 1) := by decide +kernel
theorem dL_law_308 : decode cL_law 308 = .ok (.iconst 2, 1) := by decide +kernel
theorem dL_law_309 : decode cL_law 309 = .ok (.iadd, 1) := by decide +kernel
theorem dL_law_310 : decode cL_law 310 = .ok (.iaload, 1) := by decide +kernel
theorem dL_law_311 : decode cL_law 311 = .ok (.invokevirtual 34, 3) := by decide +kernel
theorem dL_law_314 : decode cL_law 314 = .ok (.if_icmp .eq 483, 3) := by decide +kernel
theorem dL_law_317 : decode cL_law 317 = .ok (.iconst 0, 1) := by decide +kernel
theorem dL_law_318 : decode cL_law 318 = .ok (.ireturn, 1) := by decide +kernel
theorem dL_law_319 : decode cL_law 319 = .ok (.aload_n 1, 1) := by decide +kernel
theorem dL_law_320 : decode cL_law 320 = .ok (.aload_n 0, 1) := by decide +kernel
theorem dL_law_321 : decode cL_law 321 = .ok (.iload_n 3, 1) := by decide +kernel
theorem dL_law_322 : decode cL_law 322 = .ok (.iconst 1, 1) := by decide +kernel
theorem dL_law_323 : decode cL_law 323 = .ok (.iadd, 1) := by decide +kernel
theorem dL_law_324 : decode cL_law 324 = .ok (.iaload, 1) := by decide +kernel
theorem dL_law_325 : decode cL_law 325 = .ok (.invokevirtual 35, 3) := by decide +kernel
theorem dL_law_328 : decode cL_law 328 = .ok (.aload_n 2, 1) := by decide +kernel
theorem dL_law_329 : decode cL_law 329 = .ok (.aload_n 0, 1) := by decide +kernel
theorem dL_law_330 : decode cL_law 330 = .ok (.iload_n 3, 1) := by decide +kernel
theorem dL_law_331 : decode cL_law 331 = .ok (.iconst 1, 1) := by decide +kernel
theorem dL_law_332 : decode cL_law 332 = .ok (.iadd, 1) := by decide +kernel
theorem dL_law_333 : decode cL_law 333 = .ok (.iaload, 1) := by decide +kernel
theorem dL_law_334 : decode cL_law 334 = .ok (.invokevirtual 39, 3) := by decide +kernel
theorem dL_law_337 : decode cL_law 337 = .ok (.if_icmp .eq 460, 3) := by decide +kernel
theorem dL_law_340 : decode cL_law 340 = .ok (.iconst 0, 1) := by decide +kernel
theorem dL_law_341 : decode cL_law 341 = .ok (.ireturn, 1) := by decide +kernel
theorem dL_law_342 : decode cL_law 342 = .ok (.aload_n 1, 1) := by decide +kernel
theorem dL_law_343 : decode cL_law 343 = .ok (.aload_n 0, 1) := by decide +kernel
theorem dL_law_344 : decode cL_law 344 = .ok (.iload_n 3, 1) := by decide +kernel
theorem dL_law_345 : decode cL_law 345 = .ok (.iconst 1, 1) := by decide +kernel
theorem dL_law_346 : decode cL_law 346 = .ok (.iadd, 1) := by decide +kernel
theorem dL_law_347 : decode cL_law 347 = .ok (.iaload, 1) := by decide +kernel
theorem dL_law_348 : decode cL_law 348 = .ok (.aload_n 0, 1) := by decide +kernel
theorem dL_law_349 : decode cL_law 349 = .ok (.iload_n 3, 1) := by decide +kernel
theorem dL_law_350 : decode cL_law 350 = .ok (.iconst 2, 1) := by decide +kernel
theorem dL_law_351 : decode cL_law 351 = .ok (.iadd, 1) := by decide +kernel
theorem dL_law_352 : decode cL_law 352 = .ok (.iaload, 1) := by decide +kernel
theorem dL_law_353 : decode cL_law 353 = .ok (.invokevirtual 40, 3) := by decide +kernel
theorem dL_law_356 : decode cL_law 356 = .ok (.aload_n 2, 1) := by decide +kernel
theorem dL_law_357 : decode cL_law 357 = .ok (.aload_n 0, 1) := by decide +kernel
theorem dL_law_358 : decode cL_law 358 = .ok (.iload_n 3, 1) := by decide +kernel
theorem dL_law_359 : decode cL_law 359 = .ok (.iconst 1, 1) := by decide +kernel
theorem dL_law_360 : decode cL_law 360 = .ok (.iadd, 1) := by decide +kernel
theorem dL_law_361 : decode cL_law 361 = .ok (.iaload, 1) := by decide +kernel
theorem dL_law_362 : decode cL_law 362 = .ok (.aload_n 0, 1) := by decide +kernel
theorem dL_law_363 : decode cL_law 363 = .ok (.iload_n 3, 1) := by decide +kernel
theorem dL_law_364 : decode cL_law 364 = .ok (.iconst 2, 1) := by decide +kernel
theorem dL_law_365 : decode cL_law 365 = .ok (.iadd, 1) := by decide +kernel
theorem dL_law_366 : decode cL_law 366 = .ok (.iaload, 1) := by decide +kernel
theorem dL_law_367 : decode cL_law 367 = .ok (.invokevirtual 43, 3) := by decide +kernel
theorem dL_law_370 : decode cL_law 370 = .ok (.if_icmp .eq 427, 3) := by decide +kernel
theorem dL_law_373 : decode cL_law 373 = .ok (.iconst 0, 1) := by decide +kernel
theorem dL_law_374 : decode cL_law 374 = .ok (.ireturn, 1) := by decide +kernel
theorem dL_law_375 : decode cL_law 375 = .ok (.aload_n 1, 1) := by decide +kernel
theorem dL_law_376 : decode cL_law 376 = .ok (.aload_n 0, 1) := by decide +kernel
theorem dL_law_377 : decode cL_law 377 = .ok (.iload_n 3, 1) := by decide +kernel
theorem dL_law_378 : decode cL_law 378 = .ok (.iconst 1, 1) := by decide +kernel
theorem dL_law_379 : decode cL_law 379 = .ok (.iadd, 1) := by decide +kernel
theorem dL_law_380 : decode cL_law 380 = .ok (.iaload, 1) := by decide +kernel
theorem dL_law_381 : decode cL_law 381 = .ok (.aload_n 0, 1) := by decide +kernel
theorem dL_law_382 : decode cL_law 382 = .ok (.iload_n 3, 1) := by decide +kernel
theorem dL_law_383 : decode cL_law 383 = .ok (.iconst 2, 1) := by decide +kernel
theorem dL_law_384 : decode cL_law 384 = .ok (.iadd, 1) := by decide +kernel
theorem dL_law_385 : decode cL_law 385 = .ok (.iaload, 1) := by decide +kernel
theorem dL_law_386 : decode cL_law 386 = .ok (.invokevirtual 44, 3) := by decide +kernel
theorem dL_law_389 : decode cL_law 389 = .ok (.aload_n 2, 1) := by decide +kernel
theorem dL_law_390 : decode cL_law 390 = .ok (.aload_n 0, 1) := by decide +kernel
theorem dL_law_391 : decode cL_law 391 = .ok (.iload_n 3, 1) := by decide +kernel
theorem dL_law_392 : decode cL_law 392 = .ok (.iconst 1, 1) := by decide +kernel
theorem dL_law_393 : decode cL_law 393 = .ok (.iadd, 1) := by decide +kernel
theorem dL_law_394 : decode cL_law 394 = .ok (.iaload, 1) := by decide +kernel
theorem dL_law_395 : decode cL_law 395 = .ok (.aload_n 0, 1) := by decide +kernel
theorem dL_law_396 : decode cL_law 396 = .ok (.iload_n 3, 1) := by decide +kernel
theorem dL_law_397 : decode cL_law 397 = .ok (.iconst 2, 1) := by decide +kernel
theorem dL_law_398 : decode cL_law 398 = .ok (.iadd, 1) := by decide +kernel
theorem dL_law_399 : decode cL_law 399 = .ok (.iaload, 1) := by decide +kernel
theorem dL_law_400 : decode cL_law 400 = .ok (.invokevirtual 47, 3) := by decide +kernel
theorem dL_law_403 : decode cL_law 403 = .ok (.if_icmp .eq 394, 3) := by decide +kernel
theorem dL_law_406 : decode cL_law 406 = .ok (.iconst 0, 1) := by decide +kernel
theorem dL_law_407 : decode cL_law 407 = .ok (.ireturn, 1) := by decide +kernel
theorem dL_law_408 : decode cL_law 408 = .ok (.aload_n 1, 1) := by decide +kernel
theorem dL_law_409 : decode cL_law 409 = .ok (.aload_n 0, 1) := by decide +kernel
theorem dL_law_410 : decode cL_law 410 = .ok (.iload_n 3, 1) := by decide +kernel
theorem dL_law_411 : decode cL_law 411 = .ok (.iconst 1, 1) := by decide +kernel
theorem dL_law_412 : decode cL_law 412 = .ok (.iadd, 1) := by decide +kernel
theorem dL_law_413 : decode cL_law 413 = .ok (.iaload, 1) := by decide +kernel
theorem dL_law_414 : decode cL_law 414 = .ok (.invokevirtual 48, 3) := by decide +kernel
theorem dL_law_417 : decode cL_law 417 = .ok (.aload_n 2, 1) := by decide +kernel
theorem dL_law_418 : decode cL_law 418 = .ok (.aload_n 0, 1) := by decide +kernel
theorem dL_law_419 : decode cL_law 419 = .ok (.iload_n 3, 1) := by decide +kernel
theorem dL_law_420 : decode cL_law 420 = .ok (.iconst 1, 1) := by decide +kernel
theorem dL_law_421 : decode cL_law 421 = .ok (.iadd, 1) := by decide +kernel
theorem dL_law_422 : decode cL_law 422 = .ok (.iaload, 1) := by decide +kernel
theorem dL_law_423 : decode cL_law 423 = .ok (.invokevirtual 51, 3) := by decide +kernel
theorem dL_law_426 : decode cL_law 426 = .ok (.if_icmp .eq 371, 3) := by decide +kernel
theorem dL_law_429 : decode cL_law 429 = .ok (.iconst 0, 1) := by decide +kernel
theorem dL_law_430 : decode cL_law 430 = .ok (.ireturn, 1) := by decide +kernel
theorem dL_law_431 : decode cL_law 431 = .ok (.aload_n 1, 1) := by decide +kernel
theorem dL_law_432 : decode cL_law 432 = .ok (.aload_n 0, 1) := by decide +kernel
theorem dL_law_433 : decode cL_law 433 = .ok (.iload_n 3, 1) := by decide +kernel
theorem dL_law_434 : decode cL_law 434 = .ok (.iconst 1, 1) := by decide +kernel
theorem dL_law_435 : decode cL_law 435 = .ok (.iadd, 1) := by decide +kernel
theorem dL_law_436 : decode cL_law 436 = .ok (.iaload, 1) := by decide +kernel
theorem dL_law_437 : decode cL_law 437 = .ok (.invokevirtual 52, 3) := by decide +kernel
theorem dL_law_440 : decode cL_law 440 = .ok (.aload_n 2, 1) := by decide +kernel
theorem dL_law_441 : decode cL_law 441 = .ok (.aload_n 0, 1) := by decide +kernel
theorem dL_law_442 : decode cL_law 442 = .ok (.iload_n 3, 1) := by decide +kernel
theorem dL_law_443 : decode cL_law 443 = .ok (.iconst 1, 1) := by decide +kernel
theorem dL_law_444 : decode cL_law 444 = .ok (.iadd, 1) := by decide +kernel
theorem dL_law_445 : decode cL_law 445 = .ok (.iaload, 1) := by decide +kernel
theorem dL_law_446 : decode cL_law 446 = .ok (.invokevirtual 55, 3) := by decide +kernel
theorem dL_law_449 : decode cL_law 449 = .ok (.if_icmp .eq 348, 3) := by decide +kernel
theorem dL_law_452 : decode cL_law 452 = .ok (.iconst 0, 1) := by decide +kernel
theorem dL_law_453 : decode cL_law 453 = .ok (.ireturn, 1) := by decide +kernel
theorem dL_law_454 : decode cL_law 454 = .ok (.aload_n 1, 1) := by decide +kernel
theorem dL_law_455 : decode cL_law 455 = .ok (.aload_n 0, 1) := by decide +kernel
theorem dL_law_456 : decode cL_law 456 = .ok (.iload_n 3, 1) := by decide +kernel
theorem dL_law_457 : decode cL_law 457 = .ok (.iconst 1, 1) := by decide +kernel
theorem dL_law_458 : decode cL_law 458 = .ok (.iadd, 1) := by decide +kernel
theorem dL_law_459 : decode cL_law 459 = .ok (.iaload, 1) := by decide +kernel
theorem dL_law_460 : decode cL_law 460 = .ok (.invokevirtual 56, 3) := by decide +kernel
theorem dL_law_463 : decode cL_law 463 = .ok (.aload_n 2, 1) := by decide +kernel
theorem dL_law_464 : decode cL_law 464 = .ok (.aload_n 0, 1) := by decide +kernel
theorem dL_law_465 : decode cL_law 465 = .ok (.iload_n 3, 1) := by decide +kernel
theorem dL_law_466 : decode cL_law 466 = .ok (.iconst 1, 1) := by decide +kernel
theorem dL_law_467 : decode cL_law 467 = .ok (.iadd, 1) := by decide +kernel
theorem dL_law_468 : decode cL_law 468 = .ok (.iaload, 1) := by decide +kernel
theorem dL_law_469 : decode cL_law 469 = .ok (.invokevirtual 60, 3) := by decide +kernel
theorem dL_law_472 : decode cL_law 472 = .ok (.lcmp, 1) := by decide +kernel
theorem dL_law_473 : decode cL_law 473 = .ok (.ifCond .eq 324, 3) := by decide +kernel
theorem dL_law_476 : decode cL_law 476 = .ok (.iconst 0, 1) := by decide +kernel
theorem dL_law_477 : decode cL_law 477 = .ok (.ireturn, 1) := by decide +kernel
theorem dL_law_478 : decode cL_law 478 = .ok (.aload_n 1, 1) := by decide +kernel
theorem dL_law_479 : decode cL_law 479 = .ok (.aload_n 0, 1) := by decide +kernel
theorem dL_law_480 : decode cL_law 480 = .ok (.iload_n 3, 1) := by decide +kernel
theorem dL_law_481 : decode cL_law 481 = .ok (.iconst 1, 1) := by decide +kernel
theorem dL_law_482 : decode cL_law 482 = .ok (.iadd, 1) := by decide +kernel
theorem dL_law_483 : decode cL_law 483 = .ok (.iaload, 1) := by decide +kernel
theorem dL_law_484 : decode cL_law 484 = .ok (.invokevirtual 61, 3) := by decide +kernel
theorem dL_law_487 : decode cL_law 487 = .ok (.aload_n 2, 1) := by decide +kernel
theorem dL_law_488 : decode cL_law 488 = .ok (.aload_n 0, 1) := by decide +kernel
theorem dL_law_489 : decode cL_law 489 = .ok (.iload_n 3, 1) := by decide +kernel
theorem dL_law_490 : decode cL_law 490 = .ok (.iconst 1, 1) := by decide +kernel
theorem dL_law_491 : decode cL_law 491 = .ok (.iadd, 1) := by decide +kernel
theorem dL_law_492 : decode cL_law 492 = .ok (.iaload, 1) := by decide +kernel
theorem dL_law_493 : decode cL_law 493 = .ok (.invokevirtual 64, 3) := by decide +kernel
theorem dL_law_496 : decode cL_law 496 = .ok (.if_icmp .eq 301, 3) := by decide +kernel
theorem dL_law_499 : decode cL_law 499 = .ok (.iconst 0, 1) := by decide +kernel
theorem dL_law_500 : decode cL_law 500 = .ok (.ireturn, 1) := by decide +kernel
theorem dL_law_501 : decode cL_law 501 = .ok (.aload_n 1, 1) := by decide +kernel
theorem dL_law_502 : decode cL_law 502 = .ok (.aload_n 0, 1) := by decide +kernel
theorem dL_law_503 : decode cL_law 503 = .ok (.iload_n 3, 1) := by decide +kernel
theorem dL_law_504 : decode cL_law 504 = .ok (.iconst 1, 1) := by decide +kernel
theorem dL_law_505 : decode cL_law 505 = .ok (.iadd, 1) := by decide +kernel
theorem dL_law_506 : decode cL_law 506 = .ok (.iaload, 1) := by decide +kernel
theorem dL_law_507 : decode cL_law 507 = .ok (.aload_n 0, 1) := by decide +kernel
theorem dL_law_508 : decode cL_law 508 = .ok (.iload_n 3, 1) := by decide +kernel
theorem dL_law_509 : decode cL_law 509 = .ok (.iconst 2, 1) := by decide +kernel
theorem dL_law_510 : decode cL_law 510 = .ok (.iadd, 1) := by decide +kernel
theorem dL_law_511 : decode cL_law 511 = .ok (.iaload, 1) := by decide +kernel
theorem dL_law_512 : decode cL_law 512 = .ok (.invokevirtual 65, 3) := by decide +kernel
theorem dL_law_515 : decode cL_law 515 = .ok (.aload_n 2, 1) := by decide +kernel
theorem dL_law_516 : decode cL_law 516 = .ok (.aload_n 0, 1) := by decide +kernel
theorem dL_law_517 : decode cL_law 517 = .ok (.iload_n 3, 1) := by decide +kernel
theorem dL_law_518 : decode cL_law 518 = .ok (.iconst 1, 1) := by decide +kernel
theorem dL_law_519 : decode cL_law 519 = .ok (.iadd, 1) := by decide +kernel
theorem dL_law_520 : decode cL_law 520 = .ok (.iaload, 1) := by decide +kernel
theorem dL_law_521 : decode cL_law 521 = .ok (.aload_n 0, 1) := by decide +kernel
theorem dL_law_522 : decode cL_law 522 = .ok (.iload_n 3, 1) := by decide +kernel
theorem dL_law_523 : decode cL_law 523 = .ok (.iconst 2, 1) := by decide +kernel
theorem dL_law_524 : decode cL_law 524 = .ok (.iadd, 1) := by decide +kernel
theorem dL_law_525 : decode cL_law 525 = .ok (.iaload, 1) := by decide +kernel
theorem dL_law_526 : decode cL_law 526 = .ok (.invokevirtual 68, 3) := by decide +kernel
theorem dL_law_529 : decode cL_law 529 = .ok (.if_icmp .eq 268, 3) := by decide +kernel
theorem dL_law_532 : decode cL_law 532 = .ok (.iconst 0, 1) := by decide +kernel
theorem dL_law_533 : decode cL_law 533 = .ok (.ireturn, 1) := by decide +kernel
theorem dL_law_534 : decode cL_law 534 = .ok (.aload_n 1, 1) := by decide +kernel
theorem dL_law_535 : decode cL_law 535 = .ok (.aload_n 0, 1) := by decide +kernel
theorem dL_law_536 : decode cL_law 536 = .ok (.iload_n 3, 1) := by decide +kernel
theorem dL_law_537 : decode cL_law 537 = .ok (.iconst 1, 1) := by decide +kernel
theorem dL_law_538 : decode cL_law 538 = .ok (.iadd, 1) := by decide +kernel
theorem dL_law_539 : decode cL_law 539 = .ok (.iaload, 1) := by decide +kernel
theorem dL_law_540 : decode cL_law 540 = .ok (.aload_n 0, 1) := by decide +kernel
theorem dL_law_541 : decode cL_law 541 = .ok (.iload_n 3, 1) := by decide +kernel
theorem dL_law_542 : decode cL_law 542 = .ok (.iconst 2, 1) := by decide +kernel
theorem dL_law_543 : decode cL_law 543 = .ok (.iadd, 1) := by decide +kernel
theorem dL_law_544 : decode cL_law 544 = .ok (.iaload, 1) := by decide +kernel
theorem dL_law_545 : decode cL_law 545 = .ok (.invokevirtual 69, 3) := by decide +kernel
theorem dL_law_548 : decode cL_law 548 = .ok (.aload_n 2, 1) := by decide +kernel
theorem dL_law_549 : decode cL_law 549 = .ok (.aload_n 0, 1) := by decide +kernel
theorem dL_law_550 : decode cL_law 550 = .ok (.iload_n 3, 1) := by decide +kernel
theorem dL_law_551 : decode cL_law 551 = .ok (.iconst 1, 1) := by decide +kernel
theorem dL_law_552 : decode cL_law 552 = .ok (.iadd, 1) := by decide +kernel
theorem dL_law_553 : decode cL_law 553 = .ok (.iaload, 1) := by decide +kernel
theorem dL_law_554 : decode cL_law 554 = .ok (.aload_n 0, 1) := by decide +kernel
theorem dL_law_555 : decode cL_law 555 = .ok (.iload_n 3, 1) := by decide +kernel
theorem dL_law_556 : decode cL_law 556 = .ok (.iconst 2, 1) := by decide +kernel
theorem dL_law_557 : decode cL_law 557 = .ok (.iadd, 1) := by decide +kernel
theorem dL_law_558 : decode cL_law 558 = .ok (.iaload, 1) := by decide +kernel
theorem dL_law_559 : decode cL_law 559 = .ok (.invokevirtual 72, 3) := by decide +kernel
theorem dL_law_562 : decode cL_law 562 = .ok (.if_icmp .eq 235, 3) := by decide +kernel
theorem dL_law_565 : decode cL_law 565 = .ok (.iconst 0, 1) := by decide +kernel
theorem dL_law_566 : decode cL_law 566 = .ok (.ireturn, 1) := by decide +kernel
theorem dL_law_567 : decode cL_law 567 = .ok (.aload_n 1, 1) := by decide +kernel
theorem dL_law_568 : decode cL_law 568 = .ok (.aload_n 0, 1) := by decide +kernel
theorem dL_law_569 : decode cL_law 569 = .ok (.iload_n 3, 1) := by decide +kernel
theorem dL_law_570 : decode cL_law 570 = .ok (.iconst 1, 1) := by decide +kernel
theorem dL_law_571 : decode cL_law 571 = .ok (.iadd, 1) := by decide +kernel
theorem dL_law_572 : decode cL_law 572 = .ok (.iaload, 1) := by decide +kernel
theorem dL_law_573 : decode cL_law 573 = .ok (.aload_n 0, 1) := by decide +kernel
theorem dL_law_574 : decode cL_law 574 = .ok (.iload_n 3, 1) := by decide +kernel
theorem dL_law_575 : decode cL_law 575 = .ok (.iconst 2, 1) := by decide +kernel
theorem dL_law_576 : decode cL_law 576 = .ok (.iadd, 1) := by decide +kernel
theorem dL_law_577 : decode cL_law 577 = .ok (.iaload, 1) := by decide +kernel
theorem dL_law_578 : decode cL_law 578 = .ok (.invokevirtual 73, 3) := by decide +kernel
theorem dL_law_581 : decode cL_law 581 = .ok (.aload_n 2, 1) := by decide +kernel
theorem dL_law_582 : decode cL_law 582 = .ok (.aload_n 0, 1) := by decide +kernel
theorem dL_law_583 : decode cL_law 583 = .ok (.iload_n 3, 1) := by decide +kernel
theorem dL_law_584 : decode cL_law 584 = .ok (.iconst 1, 1) := by decide +kernel
theorem dL_law_585 : decode cL_law 585 = .ok (.iadd, 1) := by decide +kernel
theorem dL_law_586 : decode cL_law 586 = .ok (.iaload, 1) := by decide +kernel
theorem dL_law_587 : decode cL_law 587 = .ok (.aload_n 0, 1) := by decide +kernel
theorem dL_law_588 : decode cL_law 588 = .ok (.iload_n 3, 1) := by decide +kernel
theorem dL_law_589 : decode cL_law 589 = .ok (.iconst 2, 1) := by decide +kernel
theorem dL_law_590 : decode cL_law 590 = .ok (.iadd, 1) := by decide +kernel
theorem dL_law_591 : decode cL_law 591 = .ok (.iaload, 1) := by decide +kernel
theorem dL_law_592 : decode cL_law 592 = .ok (.invokevirtual 76, 3) := by decide +kernel
theorem dL_law_595 : decode cL_law 595 = .ok (.if_icmp .eq 202, 3) := by decide +kernel
theorem dL_law_598 : decode cL_law 598 = .ok (.iconst 0, 1) := by decide +kernel
theorem dL_law_599 : decode cL_law 599 = .ok (.ireturn, 1) := by decide +kernel
theorem dL_law_600 : decode cL_law 600 = .ok (.aload_n 1, 1) := by decide +kernel
theorem dL_law_601 : decode cL_law 601 = .ok (.aload_n 0, 1) := by decide +kernel
theorem dL_law_602 : decode cL_law 602 = .ok (.iload_n 3, 1) := by decide +kernel
theorem dL_law_603 : decode cL_law 603 = .ok (.iconst 1, 1) := by decide +kernel
theorem dL_law_604 : decode cL_law 604 = .ok (.iadd, 1) := by decide +kernel
theorem dL_law_605 : decode cL_law 605 = .ok (.iaload, 1) := by decide +kernel
theorem dL_law_606 : decode cL_law 606 = .ok (.invokevirtual 77, 3) := by decide +kernel
theorem dL_law_609 : decode cL_law 609 = .ok (.aload_n 2, 1) := by decide +kernel
theorem dL_law_610 : decode cL_law 610 = .ok (.aload_n 0, 1) := by decide +kernel
theorem dL_law_611 : decode cL_law 611 = .ok (.iload_n 3, 1) := by decide +kernel
theorem dL_law_612 : decode cL_law 612 = .ok (.iconst 1, 1) := by decide +kernel
theorem dL_law_613 : decode cL_law 613 = .ok (.iadd, 1) := by decide +kernel
theorem dL_law_614 : decode cL_law 614 = .ok (.iaload, 1) := by decide +kernel
theorem dL_law_615 : decode cL_law 615 = .ok (.invokevirtual 80, 3) := by decide +kernel
theorem dL_law_618 : decode cL_law 618 = .ok (.if_icmp .eq 179, 3) := by decide +kernel
theorem dL_law_621 : decode cL_law 621 = .ok (.iconst 0, 1) := by decide +kernel
theorem dL_law_622 : decode cL_law 622 = .ok (.ireturn, 1) := by decide +kernel
theorem dL_law_623 : decode cL_law 623 = .ok (.aload_n 1, 1) := by decide +kernel
theorem dL_law_624 : decode cL_law 624 = .ok (.aload_n 0, 1) := by decide +kernel
theorem dL_law_625 : decode cL_law 625 = .ok (.iload_n 3, 1) := by decide +kernel
theorem dL_law_626 : decode cL_law 626 = .ok (.iconst 1, 1) := by decide +kernel
theorem dL_law_627 : decode cL_law 627 = .ok (.iadd, 1) := by decide +kernel
theorem dL_law_628 : decode cL_law 628 = .ok (.iaload, 1) := by decide +kernel
theorem dL_law_629 : decode cL_law 629 = .ok (.invokevirtual 81, 3) := by decide +kernel
theorem dL_law_632 : decode cL_law 632 = .ok (.aload_n 2, 1) := by decide +kernel
theorem dL_law_633 : decode cL_law 633 = .ok (.aload_n 0, 1) := by decide +kernel
theorem dL_law_634 : decode cL_law 634 = .ok (.iload_n 3, 1) := by decide +kernel
theorem dL_law_635 : decode cL_law 635 = .ok (.iconst 1, 1) := by decide +kernel
theorem dL_law_636 : decode cL_law 636 = .ok (.iadd, 1) := by decide +kernel
theorem dL_law_637 : decode cL_law 637 = .ok (.iaload, 1) := by decide +kernel
theorem dL_law_638 : decode cL_law 638 = .ok (.invokevirtual 84, 3) := by decide +kernel
theorem dL_law_641 : decode cL_law 641 = .ok (.if_icmp .eq 156, 3) := by decide +kernel
theorem dL_law_644 : decode cL_law 644 = .ok (.iconst 0, 1) := by decide +kernel
theorem dL_law_645 : decode cL_law 645 = .ok (.ireturn, 1) := by decide +kernel
theorem dL_law_646 : decode cL_law 646 = .ok (.aload_n 1, 1) := by decide +kernel
theorem dL_law_647 : decode cL_law 647 = .ok (.aload_n 0, 1) := by decide +kernel
theorem dL_law_648 : decode cL_law 648 = .ok (.iload_n 3, 1) := by decide +kernel
theorem dL_law_649 : decode cL_law 649 = .ok (.iconst 1, 1) := by decide +kernel
theorem dL_law_650 : decode cL_law 650 = .ok (.iadd, 1) := by decide +kernel
theorem dL_law_651 : decode cL_law 651 = .ok (.iaload, 1) := by decide +kernel
theorem dL_law_652 : decode cL_law 652 = .ok (.i2l, 1) := by decide +kernel
theorem dL_law_653 : decode cL_law 653 = .ok (.bipush 32, 2) := by decide +kernel
theorem dL_law_655 : decode cL_law 655 = .ok (.lshl, 1) := by decide +kernel
theorem dL_law_656 : decode cL_law 656 = .ok (.aload_n 0, 1) := by decide +kernel
theorem dL_law_657 : decode cL_law 657 = .ok (.iload_n 3, 1) := by decide +kernel
theorem dL_law_658 : decode cL_law 658 = .ok (.iconst 2, 1) := by decide +kernel
theorem dL_law_659 : decode cL_law 659 = .ok (.iadd, 1) := by decide +kernel
theorem dL_law_660 : decode cL_law 660 = .ok (.iaload, 1) := by decide +kernel
theorem dL_law_661 : decode cL_law 661 = .ok (.i2l, 1) := by decide +kernel
theorem dL_law_662 : decode cL_law 662 = .ok (.ldc2_w 85, 3) := by decide +kernel
theorem dL_law_665 : decode cL_law 665 = .ok (.land, 1) := by decide +kernel
theorem dL_law_666 : decode cL_law 666 = .ok (.lor, 1) := by decide +kernel
theorem dL_law_667 : decode cL_law 667 = .ok (.invokevirtual 87, 3) := by decide +kernel
theorem dL_law_670 : decode cL_law 670 = .ok (.aload_n 2, 1) := by decide +kernel
theorem dL_law_671 : decode cL_law 671 = .ok (.aload_n 0, 1) := by decide +kernel
theorem dL_law_672 : decode cL_law 672 = .ok (.iload_n 3, 1) := by decide +kernel
theorem dL_law_673 : decode cL_law 673 = .ok (.iconst 1, 1) := by decide +kernel
theorem dL_law_674 : decode cL_law 674 = .ok (.iadd, 1) := by decide +kernel
theorem dL_law_675 : decode cL_law 675 = .ok (.iaload, 1) := by decide +kernel
theorem dL_law_676 : decode cL_law 676 = .ok (.i2l, 1) := by decide +kernel
theorem dL_law_677 : decode cL_law 677 = .ok (.bipush 32, 2) := by decide +kernel
theorem dL_law_679 : decode cL_law 679 = .ok (.lshl, 1) := by decide +kernel
theorem dL_law_680 : decode cL_law 680 = .ok (.aload_n 0, 1) := by decide +kernel
theorem dL_law_681 : decode cL_law 681 = .ok (.iload_n 3, 1) := by decide +kernel
theorem dL_law_682 : decode cL_law 682 = .ok (.iconst 2, 1) := by decide +kernel
theorem dL_law_683 : decode cL_law 683 = .ok (.iadd, 1) := by decide +kernel
theorem dL_law_684 : decode cL_law 684 = .ok (.iaload, 1) := by decide +kernel
theorem dL_law_685 : decode cL_law 685 = .ok (.i2l, 1) := by decide +kernel
theorem dL_law_686 : decode cL_law 686 = .ok (.ldc2_w 85, 3) := by decide +kernel
theorem dL_law_689 : decode cL_law 689 = .ok (.land, 1) := by decide +kernel
theorem dL_law_690 : decode cL_law 690 = .ok (.lor, 1) := by decide +kernel
theorem dL_law_691 : decode cL_law 691 = .ok (.invokevirtual 91, 3) := by decide +kernel
theorem dL_law_694 : decode cL_law 694 = .ok (.if_icmp .eq 103, 3) := by decide +kernel
theorem dL_law_697 : decode cL_law 697 = .ok (.iconst 0, 1) := by decide +kernel
theorem dL_law_698 : decode cL_law 698 = .ok (.ireturn, 1) := by decide +kernel
theorem dL_law_699 : decode cL_law 699 = .ok (.aload_n 1, 1) := by decide +kernel
theorem dL_law_700 : decode cL_law 700 = .ok (.invokevirtual 92, 3) := by decide +kernel
theorem dL_law_703 : decode cL_law 703 = .ok (.aload_n 2, 1) := by decide +kernel
theorem dL_law_704 : decode cL_law 704 = .ok (.invokevirtual 96, 3) := by decide +kernel
theorem dL_law_707 : decode cL_law 707 = .ok (.if_icmp .eq 90, 3) := by decide +kernel
theorem dL_law_710 : decode cL_law 710 = .ok (.iconst 0, 1) := by decide +kernel
theorem dL_law_711 : decode cL_law 711 = .ok (.ireturn, 1) := by decide +kernel
theorem dL_law_712 : decode cL_law 712 = .ok (.aload_n 1, 1) := by decide +kernel
theorem dL_law_713 : decode cL_law 713 = .ok (.invokevirtual 97, 3) := by decide +kernel
theorem dL_law_716 : decode cL_law 716 = .ok (.aload_n 2, 1) := by decide +kernel
theorem dL_law_717 : decode cL_law 717 = .ok (.invokevirtual 100, 3) := by decide +kernel
theorem dL_law_720 : decode cL_law 720 = .ok (.if_icmp .eq 77, 3) := by decide +kernel
theorem dL_law_723 : decode cL_law 723 = .ok (.iconst 0, 1) := by decide +kernel
theorem dL_law_724 : decode cL_law 724 = .ok (.ireturn, 1) := by decide +kernel
theorem dL_law_725 : decode cL_law 725 = .ok (.aload_n 1, 1) := by decide +kernel
theorem dL_law_726 : decode cL_law 726 = .ok (.invokevirtual 101, 3) := by decide +kernel
theorem dL_law_729 : decode cL_law 729 = .ok (.aload_n 2, 1) := by decide +kernel
theorem dL_law_730 : decode cL_law 730 = .ok (.invokevirtual 104, 3) := by decide +kernel
theorem dL_law_733 : decode cL_law 733 = .ok (.if_icmp .eq 64, 3) := by decide +kernel
theorem dL_law_736 : decode cL_law 736 = .ok (.iconst 0, 1) := by decide +kernel
theorem dL_law_737 : decode cL_law 737 = .ok (.ireturn, 1) := by decide +kernel
theorem dL_law_738 : decode cL_law 738 = .ok (.aload_n 1, 1) := by decide +kernel
theorem dL_law_739 : decode cL_law 739 = .ok (.invokevirtual 105, 3) := by decide +kernel
theorem dL_law_742 : decode cL_law 742 = .ok (.aload_n 2, 1) := by decide +kernel
theorem dL_law_743 : decode cL_law 743 = .ok (.invokevirtual 108, 3) := by decide +kernel
theorem dL_law_746 : decode cL_law 746 = .ok (.if_icmp .eq 51, 3) := by decide +kernel
theorem dL_law_749 : decode cL_law 749 = .ok (.iconst 0, 1) := by decide +kernel
theorem dL_law_750 : decode cL_law 750 = .ok (.ireturn, 1) := by decide +kernel
theorem dL_law_751 : decode cL_law 751 = .ok (.aload_n 1, 1) := by decide +kernel
theorem dL_law_752 : decode cL_law 752 = .ok (.aload_n 0, 1) := by decide +kernel
theorem dL_law_753 : decode cL_law 753 = .ok (.iload_n 3, 1) := by decide +kernel
theorem dL_law_754 : decode cL_law 754 = .ok (.iconst 1, 1) := by decide +kernel
theorem dL_law_755 : decode cL_law 755 = .ok (.iadd, 1) := by decide +kernel
theorem dL_law_756 : decode cL_law 756 = .ok (.iaload, 1) := by decide +kernel
theorem dL_law_757 : decode cL_law 757 = .ok (.invokevirtual 109, 3) := by decide +kernel
theorem dL_law_760 : decode cL_law 760 = .ok (.aload_n 2, 1) := by decide +kernel
theorem dL_law_761 : decode cL_law 761 = .ok (.aload_n 0, 1) := by decide +kernel
theorem dL_law_762 : decode cL_law 762 = .ok (.iload_n 3, 1) := by decide +kernel
theorem dL_law_763 : decode cL_law 763 = .ok (.iconst 1, 1) := by decide +kernel
theorem dL_law_764 : decode cL_law 764 = .ok (.iadd, 1) := by decide +kernel
theorem dL_law_765 : decode cL_law 765 = .ok (.iaload, 1) := by decide +kernel
theorem dL_law_766 : decode cL_law 766 = .ok (.invokevirtual 112, 3) := by decide +kernel
theorem dL_law_769 : decode cL_law 769 = .ok (.if_icmp .eq 28, 3) := by decide +kernel
theorem dL_law_772 : decode cL_law 772 = .ok (.iconst 0, 1) := by decide +kernel
theorem dL_law_773 : decode cL_law 773 = .ok (.ireturn, 1) := by decide +kernel
theorem dL_law_774 : decode cL_law 774 = .ok (.aload_n 1, 1) := by decide +kernel
theorem dL_law_775 : decode cL_law 775 = .ok (.aload_n 0, 1) := by decide +kernel
theorem dL_law_776 : decode cL_law 776 = .ok (.iload_n 3, 1) := by decide +kernel
theorem dL_law_777 : decode cL_law 777 = .ok (.iconst 1, 1) := by decide +kernel
theorem dL_law_778 : decode cL_law 778 = .ok (.iadd, 1) := by decide +kernel
theorem dL_law_779 : decode cL_law 779 = .ok (.iaload, 1) := by decide +kernel
theorem dL_law_780 : decode cL_law 780 = .ok (.invokevirtual 113, 3) := by decide +kernel
theorem dL_law_783 : decode cL_law 783 = .ok (.aload_n 2, 1) := by decide +kernel
theorem dL_law_784 : decode cL_law 784 = .ok (.aload_n 0, 1) := by decide +kernel
theorem dL_law_785 : decode cL_law 785 = .ok (.iload_n 3, 1) := by decide +kernel
theorem dL_law_786 : decode cL_law 786 = .ok (.iconst 1, 1) := by decide +kernel
theorem dL_law_787 : decode cL_law 787 = .ok (.iadd, 1) := by decide +kernel
theorem dL_law_788 : decode cL_law 788 = .ok (.iaload, 1) := by decide +kernel
theorem dL_law_789 : decode cL_law 789 = .ok (.invokevirtual 116, 3) := by decide +kernel
theorem dL_law_792 : decode cL_law 792 = .ok (.if_icmp .eq 5, 3) := by decide +kernel
theorem dL_law_795 : decode cL_law 795 = .ok (.iconst 0, 1) := by decide +kernel
theorem dL_law_796 : decode cL_law 796 = .ok (.ireturn, 1) := by decide +kernel
theorem dL_law_797 : decode cL_law 797 = .ok (.iinc 3 4, 3) := by decide +kernel
theorem dL_law_800 : decode cL_law 800 = .ok (.goto (-782), 3) := by decide +kernel
theorem dL_law_803 : decode cL_law 803 = .ok (.iconst 1, 1) := by decide +kernel
theorem dL_law_804 : decode cL_law 804 = .ok (.ireturn, 1) := by decide +kernel
end
section
/-! THE LAYER: WJ says of a frame with its world (cells, locals by place, stack) what W says for every heap that holds it; a row an instruction, a row a call -/
abbrev GG : Type := va_G × (Nat → ClassId) × (Nat → Nat)
abbrev TY (G : GG) : List (ClassId × FieldType) := [(G.2.1 0, .byte), (G.2.1 1, .char), (G.2.1 2, .int), (G.2.1 3, .long), (G.2.1 4, .boolean), (G.2.1 5, .object "SilentDrives$Drive"), (G.2.1 6, .object "SilentDrives$Station")]
/-- the links between nest mates, which are no words of a list -/
def nestL : List Cond := [.methodLinkNest "SilentDrives$Station" 30 ⟨"SilentDrives$Drive", "<init>", "()V"⟩ "SilentDrives", .methodLinkNest "SilentDrives" 33 ⟨"SilentDrives$Pad", "<init>", "()V"⟩ "SilentDrives", .methodLinkNest "SilentDrives$Station" 57 ⟨"SilentDrives", "isDrive", "(I)Z"⟩ "SilentDrives", .methodLinkNest "SilentDrives$Station" 74 ⟨"SilentDrives", "isHour", "(I)Z"⟩ "SilentDrives", .methodLinkNest "SilentDrives$Drive" 57 ⟨"SilentDrives", "isHour", "(I)Z"⟩ "SilentDrives", .methodLinkNest "SilentDrives$Station" 92 ⟨"SilentDrives", "arePassable", "(I)Z"⟩ "SilentDrives", .methodLinkNest "SilentDrives$Station" 99 ⟨"SilentDrives", "twinOf", "(I)I"⟩ "SilentDrives", .methodLinkNest "SilentDrives$Pad" 58 ⟨"SilentDrives", "isDrive", "(I)Z"⟩ "SilentDrives", .fieldLinkNest "SilentDrives$Station" 21 "SilentDrives" "FIRST_VALUES" "[I" "SilentDrives", .fieldLinkNest "SilentDrives$Station" 51 "SilentDrives" "LEAST_VALUES" "[I" "SilentDrives", .fieldLinkNest "SilentDrives$Station" 54 "SilentDrives" "MOST_VALUES" "[I" "SilentDrives"]
def NW (U : State) : Prop := (∀ w ∈ nestL, va_Nw w U) ∧ va_AO "SilentDrives$Drive" U ∧ va_AO "SilentDrives$Station" U
theorem NW.warm {s U : State} (hW : s.WarmedH U.vm) (h : NW s) : NW U := by
  refine ⟨?_, va_AO.moved hW.alike h.2.1, va_AO.moved hW.alike h.2.2⟩
  intro w hw
  have h1 := h.1 w hw
  simp only [nestL, List.mem_cons, List.not_mem_nil, or_false] at hw
  rcases hw with rfl | rfl | rfl | rfl | rfl | rfl | rfl | rfl | rfl | rfl | rfl
  · exact va_Nw.warmM hW h1
  · exact va_Nw.warmM hW h1
  · exact va_Nw.warmM hW h1
  · exact va_Nw.warmM hW h1
  · exact va_Nw.warmM hW h1
  · exact va_Nw.warmM hW h1
  · exact va_Nw.warmM hW h1
  · exact va_Nw.warmM hW h1
  · exact va_Nw.warmF hW h1
  · exact va_Nw.warmF hW h1
  · exact va_Nw.warmF hW h1
theorem NW.same {u U : State} (h : u.vm = U.vm) (hN : NW u) : NW U := by
  refine ⟨?_, va_AO.moved (by rw [h]; exact Vm.Alike.refl _) hN.2.1, va_AO.moved (by rw [h]; exact Vm.Alike.refl _) hN.2.2⟩
  intro w hw
  have h1 := hN.1 w hw
  simp only [nestL, List.mem_cons, List.not_mem_nil, or_false] at hw
  rcases hw with rfl | rfl | rfl | rfl | rfl | rfl | rfl | rfl | rfl | rfl | rfl <;> exact va_Nw.same rfl h h1
/-- the three static arrays -/
def vFirst : Nat → Int32 := fun k => ([60, 5, 2, 20, 50, 4, 20] : List Int32).getD k 0
def vLeast : Nat → Int32 := fun k => ([0, 0, 0, 0, 0, 1, 0] : List Int32).getD k 0
def vMost : Nat → Int32 := fun k => ([999, 99, 9, 60, 60, 20, 60] : List Int32).getD k 0
def GS1 (n : String) (t : Nat) (f : Nat → Int32) (A : Nat → Prop) (U : State) (H : Heap) : Prop := va_Z "SilentDrives" n "[I" (.ref t) A U H ∧ va_T .int t 7 (fun k => .int (f k)) A U H
def GS (G : GG) (A : Nat → Prop) (U : State) (H : Heap) : Prop := GS1 "FIRST_VALUES" (G.2.2 0) vFirst A U H ∧ GS1 "LEAST_VALUES" (G.2.2 1) vLeast A U H ∧ GS1 "MOST_VALUES" (G.2.2 2) vMost A U H
theorem GS1.moved {n : String} {t : Nat} {f : Nat → Int32} {A : Nat → Prop} {u U : State} {H : Heap} (hvm : u.vm.Alike U.vm) (h : GS1 n t f A u H) : GS1 n t f A U H := ⟨va_Z.moved hvm h.1, va_T.moved hvm h.2⟩
theorem GS1.kept {n : String} {t : Nat} {f : Nat → Int32} {A : Nat → Prop} {U : State} {H H1 : Heap} (h : GS1 n t f A U H) (hq : ∀ a : Nat, a < H.size → ¬ A a → H1[a]? = H[a]?) : GS1 n t f A U H1 := ⟨va_Z.kept h.1 hq, va_T.kept h.2 hq⟩
theorem GS1.narrow {n : String} {t : Nat} {f : Nat → Int32} {A B : Nat → Prop} {U : State} {H : Heap} (h : GS1 n t f A U H) (hAB : ∀ q, B q → A q) : GS1 n t f B U H := ⟨va_Z.narrow h.1 hAB, va_T.narrow h.2 hAB⟩
theorem GS.moved {G : GG} {A : Nat → Prop} {u U : State} {H : Heap} (hvm : u.vm.Alike U.vm) (h : GS G A u H) : GS G A U H := ⟨h.1.moved hvm, h.2.1.moved hvm, h.2.2.moved hvm⟩
theorem GS.kept {G : GG} {A : Nat → Prop} {U : State} {H H1 : Heap} (h : GS G A U H) (hq : ∀ a : Nat, a < H.size → ¬ A a → H1[a]? = H[a]?) : GS G A U H1 := ⟨h.1.kept hq, h.2.1.kept hq, h.2.2.kept hq⟩
theorem GS.narrow {G : GG} {A B : Nat → Prop} {U : State} {H : Heap} (h : GS G A U H) (hAB : ∀ q, B q → A q) : GS G B U H := ⟨h.1.narrow hAB, h.2.1.narrow hAB, h.2.2.narrow hAB⟩

/-- what a method's body knows all along -/
def Cx (p : Program) (s : State) (m : MethodId) (args : Array Value) (c : Code) (cc : ByteArray) (nL : Nat) (own : String) (G : GG) (A : Nat → Prop) : Prop :=
  p.tables.exec = Jvm.exec ∧ c.code = cc ∧ c.maxLocals = nL ∧ s.vm.findClass own = some m.cls ∧ (∀ w ∈ AW, w.before args s = true) ∧ va_K G.1 vwCl (TY G) s ∧ (∀ q, s.heap.size ≤ q → A q) ∧ NW s ∧ GS G A s s.heap
def WJ (p : Program) (l : Launch) (e : Env) (R : Room) (s : State) (m : MethodId) (args : Array Value) (below : List Frame) (meth : Method) (c : Code) (G : GG) (A : Nat → Prop) (nL cells slots : Nat) (Q : State → Prop) (w : va_W) (lv : List (Nat × Value)) (pc : Nat) (st : List Value) : Prop :=
  ∀ (H : Heap) (locs : List Loc) (ls : Array Slot), va_P G.1 vwCl w H → va_D A w → va_S A s.heap H locs → lv_has ls nL lv → W p l e R s m args below meth c H locs cells slots Q (F0 m pc ls st)
section LAYER
variable {p : Program} {l : Launch} {e : Env} {R : Room} {s : State} {m : MethodId} {args : Array Value} {below : List Frame} {meth : Method} {c : Code} {cc : ByteArray} {own : String} {G : GG} {A : Nat → Prop} {nL cells slots : Nat} {Q : State → Prop} {w : va_W} {lv : List (Nat × Value)} {pc : Nat} {st : List Value}
theorem j_iconst (C : Cx p s m args c cc nL own G A) {n : Int} {v : Int32} (d : decode cc pc = .ok (.iconst n, 1)) (hv : Int32.ofInt n = v) (K : WJ p l e R s m args below meth c G A nL cells slots Q w lv (pc + 1) (.int v :: st)) : WJ p l e R s m args below meth c G A nL cells slots Q w lv pc st := fun H locs ls hP hD hS hl => lv_iconst C.1 C.2.1 d hv (K H locs ls hP hD hS hl)
theorem j_bipush (C : Cx p s m args c cc nL own G A) {n : Int} {v : Int32} (d : decode cc pc = .ok (.bipush n, 2)) (hv : (Int8.ofInt n).toInt32 = v) (K : WJ p l e R s m args below meth c G A nL cells slots Q w lv (pc + 2) (.int v :: st)) : WJ p l e R s m args below meth c G A nL cells slots Q w lv pc st := fun H locs ls hP hD hS hl => lv_bipush C.1 C.2.1 d hv (K H locs ls hP hD hS hl)
theorem j_sipush (C : Cx p s m args c cc nL own G A) {n : Int} {v : Int32} (d : decode cc pc = .ok (.sipush n, 3)) (hv : (Int16.ofInt n).toInt32 = v) (K : WJ p l e R s m args below meth c G A nL cells slots Q w lv (pc + 3) (.int v :: st)) : WJ p l e R s m args below meth c G A nL cells slots Q w lv pc st := fun H locs ls hP hD hS hl => lv_sipush C.1 C.2.1 d hv (K H locs ls hP hD hS hl)
theorem j_lconst (C : Cx p s m args c cc nL own G A) {n : Fin 2} {v : Int64} (d : decode cc pc = .ok (.lconst n, 1)) (hv : Int64.ofNat (n : Nat) = v) (K : WJ p l e R s m args below meth c G A nL cells slots Q w lv (pc + 1) (.long v :: st)) : WJ p l e R s m args below meth c G A nL cells slots Q w lv pc st := fun H locs ls hP hD hS hl => lv_lconst C.1 C.2.1 d hv (K H locs ls hP hD hS hl)
theorem j_iadd (C : Cx p s m args c cc nL own G A) {x y : Int32} {v : Int32} (d : decode cc pc = .ok (.iadd, 1))  (hv : x + y = v) (K : WJ p l e R s m args below meth c G A nL cells slots Q w lv (pc + 1) (.int v :: st)) : WJ p l e R s m args below meth c G A nL cells slots Q w lv pc (.int y :: .int x :: st) := by
  subst hv
  exact fun H locs ls hP hD hS hl => lv_iadd C.1 C.2.1 d  (K H locs ls hP hD hS hl)
theorem j_isub (C : Cx p s m args c cc nL own G A) {x y : Int32} {v : Int32} (d : decode cc pc = .ok (.isub, 1))  (hv : x - y = v) (K : WJ p l e R s m args below meth c G A nL cells slots Q w lv (pc + 1) (.int v :: st)) : WJ p l e R s m args below meth c G A nL cells slots Q w lv pc (.int y :: .int x :: st) := by
  subst hv
  exact fun H locs ls hP hD hS hl => lv_isub C.1 C.2.1 d  (K H locs ls hP hD hS hl)
theorem j_imul (C : Cx p s m args c cc nL own G A) {x y : Int32} {v : Int32} (d : decode cc pc = .ok (.imul, 1))  (hv : x * y = v) (K : WJ p l e R s m args below meth c G A nL cells slots Q w lv (pc + 1) (.int v :: st)) : WJ p l e R s m args below meth c G A nL cells slots Q w lv pc (.int y :: .int x :: st) := by
  subst hv
  exact fun H locs ls hP hD hS hl => lv_imul C.1 C.2.1 d  (K H locs ls hP hD hS hl)
theorem j_iand (C : Cx p s m args c cc nL own G A) {x y : Int32} {v : Int32} (d : decode cc pc = .ok (.iand, 1))  (hv : x &&& y = v) (K : WJ p l e R s m args below meth c G A nL cells slots Q w lv (pc + 1) (.int v :: st)) : WJ p l e R s m args below meth c G A nL cells slots Q w lv pc (.int y :: .int x :: st) := by
  subst hv
  exact fun H locs ls hP hD hS hl => lv_iand C.1 C.2.1 d  (K H locs ls hP hD hS hl)
theorem j_ixor (C : Cx p s m args c cc nL own G A) {x y : Int32} {v : Int32} (d : decode cc pc = .ok (.ixor, 1))  (hv : x ^^^ y = v) (K : WJ p l e R s m args below meth c G A nL cells slots Q w lv (pc + 1) (.int v :: st)) : WJ p l e R s m args below meth c G A nL cells slots Q w lv pc (.int y :: .int x :: st) := by
  subst hv
  exact fun H locs ls hP hD hS hl => lv_ixor C.1 C.2.1 d  (K H locs ls hP hD hS hl)
theorem j_ladd (C : Cx p s m args c cc nL own G A) {x y : Int64} {v : Int64} (d : decode cc pc = .ok (.ladd, 1))  (hv : x + y = v) (K : WJ p l e R s m args below meth c G A nL cells slots Q w lv (pc + 1) (.long v :: st)) : WJ p l e R s m args below meth c G A nL cells slots Q w lv pc (.long y :: .long x :: st) := by
  subst hv
  exact fun H locs ls hP hD hS hl => lv_ladd C.1 C.2.1 d  (K H locs ls hP hD hS hl)
theorem j_lsub (C : Cx p s m args c cc nL own G A) {x y : Int64} {v : Int64} (d : decode cc pc = .ok (.lsub, 1))  (hv : x - y = v) (K : WJ p l e R s m args below meth c G A nL cells slots Q w lv (pc + 1) (.long v :: st)) : WJ p l e R s m args below meth c G A nL cells slots Q w lv pc (.long y :: .long x :: st) := by
  subst hv
  exact fun H locs ls hP hD hS hl => lv_lsub C.1 C.2.1 d  (K H locs ls hP hD hS hl)
theorem j_lmul (C : Cx p s m args c cc nL own G A) {x y : Int64} {v : Int64} (d : decode cc pc = .ok (.lmul, 1))  (hv : x * y = v) (K : WJ p l e R s m args below meth c G A nL cells slots Q w lv (pc + 1) (.long v :: st)) : WJ p l e R s m args below meth c G A nL cells slots Q w lv pc (.long y :: .long x :: st) := by
  subst hv
  exact fun H locs ls hP hD hS hl => lv_lmul C.1 C.2.1 d  (K H locs ls hP hD hS hl)
theorem j_land (C : Cx p s m args c cc nL own G A) {x y : Int64} {v : Int64} (d : decode cc pc = .ok (.land, 1))  (hv : x &&& y = v) (K : WJ p l e R s m args below meth c G A nL cells slots Q w lv (pc + 1) (.long v :: st)) : WJ p l e R s m args below meth c G A nL cells slots Q w lv pc (.long y :: .long x :: st) := by
  subst hv
  exact fun H locs ls hP hD hS hl => lv_land C.1 C.2.1 d  (K H locs ls hP hD hS hl)
theorem j_lor (C : Cx p s m args c cc nL own G A) {x y : Int64} {v : Int64} (d : decode cc pc = .ok (.lor, 1))  (hv : x ||| y = v) (K : WJ p l e R s m args below meth c G A nL cells slots Q w lv (pc + 1) (.long v :: st)) : WJ p l e R s m args below meth c G A nL cells slots Q w lv pc (.long y :: .long x :: st) := by
  subst hv
  exact fun H locs ls hP hD hS hl => lv_lor C.1 C.2.1 d  (K H locs ls hP hD hS hl)
theorem j_idiv (C : Cx p s m args c cc nL own G A) {x y : Int32} {v : Int32} (d : decode cc pc = .ok (.idiv, 1)) (hne : ¬ y = 0) (hv : x / y = v) (K : WJ p l e R s m args below meth c G A nL cells slots Q w lv (pc + 1) (.int v :: st)) : WJ p l e R s m args below meth c G A nL cells slots Q w lv pc (.int y :: .int x :: st) := by
  subst hv
  exact fun H locs ls hP hD hS hl => lv_idiv C.1 C.2.1 d hne (K H locs ls hP hD hS hl)
theorem j_irem (C : Cx p s m args c cc nL own G A) {x y : Int32} {v : Int32} (d : decode cc pc = .ok (.irem, 1)) (hne : ¬ y = 0) (hv : x - x / y * y = v) (K : WJ p l e R s m args below meth c G A nL cells slots Q w lv (pc + 1) (.int v :: st)) : WJ p l e R s m args below meth c G A nL cells slots Q w lv pc (.int y :: .int x :: st) := by
  subst hv
  exact fun H locs ls hP hD hS hl => lv_irem C.1 C.2.1 d hne (K H locs ls hP hD hS hl)
theorem j_ldiv (C : Cx p s m args c cc nL own G A) {x y : Int64} {v : Int64} (d : decode cc pc = .ok (.ldiv, 1)) (hne : ¬ y = 0) (hv : x / y = v) (K : WJ p l e R s m args below meth c G A nL cells slots Q w lv (pc + 1) (.long v :: st)) : WJ p l e R s m args below meth c G A nL cells slots Q w lv pc (.long y :: .long x :: st) := by
  subst hv
  exact fun H locs ls hP hD hS hl => lv_ldiv C.1 C.2.1 d hne (K H locs ls hP hD hS hl)
theorem j_lrem (C : Cx p s m args c cc nL own G A) {x y : Int64} {v : Int64} (d : decode cc pc = .ok (.lrem, 1)) (hne : ¬ y = 0) (hv : x - x / y * y = v) (K : WJ p l e R s m args below meth c G A nL cells slots Q w lv (pc + 1) (.long v :: st)) : WJ p l e R s m args below meth c G A nL cells slots Q w lv pc (.long y :: .long x :: st) := by
  subst hv
  exact fun H locs ls hP hD hS hl => lv_lrem C.1 C.2.1 d hne (K H locs ls hP hD hS hl)
theorem j_i2l (C : Cx p s m args c cc nL own G A) {x : Int32} {v : Int64} (d : decode cc pc = .ok (.i2l, 1))  (hv : x.toInt64 = v) (K : WJ p l e R s m args below meth c G A nL cells slots Q w lv (pc + 1) (.long v :: st)) : WJ p l e R s m args below meth c G A nL cells slots Q w lv pc (.int x :: st) := by
  subst hv
  exact fun H locs ls hP hD hS hl => lv_i2l C.1 C.2.1 d rfl (K H locs ls hP hD hS hl)
theorem j_l2i (C : Cx p s m args c cc nL own G A) {x : Int64} {v : Int32} (d : decode cc pc = .ok (.l2i, 1))  (hv : x.toInt32 = v) (K : WJ p l e R s m args below meth c G A nL cells slots Q w lv (pc + 1) (.int v :: st)) : WJ p l e R s m args below meth c G A nL cells slots Q w lv pc (.long x :: st) := by
  subst hv
  exact fun H locs ls hP hD hS hl => lv_l2i C.1 C.2.1 d rfl (K H locs ls hP hD hS hl)
theorem j_i2b (C : Cx p s m args c cc nL own G A) {x : Int32} {v : Int32} (d : decode cc pc = .ok (.i2b, 1))  (hv : x.toInt8.toInt32 = v) (K : WJ p l e R s m args below meth c G A nL cells slots Q w lv (pc + 1) (.int v :: st)) : WJ p l e R s m args below meth c G A nL cells slots Q w lv pc (.int x :: st) := by
  subst hv
  exact fun H locs ls hP hD hS hl => lv_i2b C.1 C.2.1 d rfl (K H locs ls hP hD hS hl)
theorem j_i2c (C : Cx p s m args c cc nL own G A) {x : Int32} {v : Int32} (d : decode cc pc = .ok (.i2c, 1))  (hv : (x.toUInt32 % 65536).toInt32 = v) (K : WJ p l e R s m args below meth c G A nL cells slots Q w lv (pc + 1) (.int v :: st)) : WJ p l e R s m args below meth c G A nL cells slots Q w lv pc (.int x :: st) := by
  subst hv
  exact fun H locs ls hP hD hS hl => lv_i2c C.1 C.2.1 d rfl (K H locs ls hP hD hS hl)
theorem j_lshl (C : Cx p s m args c cc nL own G A) {x : Int64} {y : Int32} (d : decode cc pc = .ok (.lshl, 1))  (K : WJ p l e R s m args below meth c G A nL cells slots Q w lv (pc + 1) (.long (x <<< (y.toInt64 &&& 63)) :: st)) : WJ p l e R s m args below meth c G A nL cells slots Q w lv pc (.int y :: .long x :: st) := fun H locs ls hP hD hS hl => lv_lshl C.1 C.2.1 d rfl (K H locs ls hP hD hS hl)
theorem j_lshr (C : Cx p s m args c cc nL own G A) {x : Int64} {y : Int32} (d : decode cc pc = .ok (.lshr, 1))  (K : WJ p l e R s m args below meth c G A nL cells slots Q w lv (pc + 1) (.long (x >>> (y.toInt64 &&& 63)) :: st)) : WJ p l e R s m args below meth c G A nL cells slots Q w lv pc (.int y :: .long x :: st) := fun H locs ls hP hD hS hl => lv_lshr C.1 C.2.1 d rfl (K H locs ls hP hD hS hl)
theorem j_lushr (C : Cx p s m args c cc nL own G A) {x : Int64} {y : Int32} (d : decode cc pc = .ok (.lushr, 1))  (K : WJ p l e R s m args below meth c G A nL cells slots Q w lv (pc + 1) (.long (x.toUInt64 >>> (y.toInt64.toUInt64 &&& Int64.toUInt64 63)).toInt64 :: st)) : WJ p l e R s m args below meth c G A nL cells slots Q w lv pc (.int y :: .long x :: st) := fun H locs ls hP hD hS hl => lv_lushr C.1 C.2.1 d rfl (K H locs ls hP hD hS hl)
theorem j_lcmp (C : Cx p s m args c cc nL own G A) {x y : Int64} (d : decode cc pc = .ok (.lcmp, 1))  (K : WJ p l e R s m args below meth c G A nL cells slots Q w lv (pc + 1) (.int (lg_cmp x y) :: st)) : WJ p l e R s m args below meth c G A nL cells slots Q w lv pc (.long y :: .long x :: st) := fun H locs ls hP hD hS hl => W.lcmp C.1 C.2.1 d  (K H locs ls hP hD hS hl)
theorem j_dup (C : Cx p s m args c cc nL own G A) {va : Value} (d : decode cc pc = .ok (.dup, 1)) (h1 : va.category = 1) (K : WJ p l e R s m args below meth c G A nL cells slots Q w lv (pc + 1) (va :: va :: st)) : WJ p l e R s m args below meth c G A nL cells slots Q w lv pc (va :: st) := fun H locs ls hP hD hS hl => lv_dup C.1 C.2.1 d h1 (K H locs ls hP hD hS hl)
theorem j_dup2_11 (C : Cx p s m args c cc nL own G A) {va vb : Value} (d : decode cc pc = .ok (.dup2, 1)) (h1 : va.category = 1) (h2 : vb.category = 1) (K : WJ p l e R s m args below meth c G A nL cells slots Q w lv (pc + 1) (va :: vb :: va :: vb :: st)) : WJ p l e R s m args below meth c G A nL cells slots Q w lv pc (va :: vb :: st) := fun H locs ls hP hD hS hl => lv_dup2_11 C.1 C.2.1 d h1 h2 (K H locs ls hP hD hS hl)
theorem j_dup2_2 (C : Cx p s m args c cc nL own G A) {va : Value} (d : decode cc pc = .ok (.dup2, 1)) (h1 : va.category = 2) (K : WJ p l e R s m args below meth c G A nL cells slots Q w lv (pc + 1) (va :: va :: st)) : WJ p l e R s m args below meth c G A nL cells slots Q w lv pc (va :: st) := fun H locs ls hP hD hS hl => lv_dup2_2 C.1 C.2.1 d h1 (K H locs ls hP hD hS hl)
theorem j_pop (C : Cx p s m args c cc nL own G A) {va : Value} (d : decode cc pc = .ok (.pop, 1)) (h1 : va.category = 1) (K : WJ p l e R s m args below meth c G A nL cells slots Q w lv (pc + 1) st) : WJ p l e R s m args below meth c G A nL cells slots Q w lv pc (va :: st) := fun H locs ls hP hD hS hl => lv_pop C.1 C.2.1 d h1 (K H locs ls hP hD hS hl)
theorem j_pop2_2 (C : Cx p s m args c cc nL own G A) {va : Value} (d : decode cc pc = .ok (.pop2, 1)) (h1 : va.category = 2) (K : WJ p l e R s m args below meth c G A nL cells slots Q w lv (pc + 1) st) : WJ p l e R s m args below meth c G A nL cells slots Q w lv pc (va :: st) := fun H locs ls hP hD hS hl => lv_pop2_2 C.1 C.2.1 d h1 (K H locs ls hP hD hS hl)
theorem j_dconst0 (C : Cx p s m args c cc nL own G A)  (d : decode cc pc = .ok (.dconst 0, 1))  (K : WJ p l e R s m args below meth c G A nL cells slots Q w lv (pc + 1) (.double FP.dconst0 :: st)) : WJ p l e R s m args below meth c G A nL cells slots Q w lv pc st := fun H locs ls hP hD hS hl => lv_dconst0 C.1 C.2.1 d  (K H locs ls hP hD hS hl)
theorem j_dconst1 (C : Cx p s m args c cc nL own G A)  (d : decode cc pc = .ok (.dconst 1, 1))  (K : WJ p l e R s m args below meth c G A nL cells slots Q w lv (pc + 1) (.double FP.dconst1 :: st)) : WJ p l e R s m args below meth c G A nL cells slots Q w lv pc st := fun H locs ls hP hD hS hl => lv_dconst1 C.1 C.2.1 d  (K H locs ls hP hD hS hl)
theorem j_i2d (C : Cx p s m args c cc nL own G A) {x : Int32} (d : decode cc pc = .ok (.i2d, 1))  (K : WJ p l e R s m args below meth c G A nL cells slots Q w lv (pc + 1) (.double (FP.i2d x) :: st)) : WJ p l e R s m args below meth c G A nL cells slots Q w lv pc (.int x :: st) := fun H locs ls hP hD hS hl => lv_i2d C.1 C.2.1 d  (K H locs ls hP hD hS hl)
theorem j_l2d (C : Cx p s m args c cc nL own G A) {x : Int64} (d : decode cc pc = .ok (.l2d, 1))  (K : WJ p l e R s m args below meth c G A nL cells slots Q w lv (pc + 1) (.double (FP.l2d x) :: st)) : WJ p l e R s m args below meth c G A nL cells slots Q w lv pc (.long x :: st) := fun H locs ls hP hD hS hl => lv_l2d C.1 C.2.1 d  (K H locs ls hP hD hS hl)
theorem j_d2l (C : Cx p s m args c cc nL own G A) {x : UInt64} (d : decode cc pc = .ok (.d2l, 1))  (K : WJ p l e R s m args below meth c G A nL cells slots Q w lv (pc + 1) (.long (FP.d2l x) :: st)) : WJ p l e R s m args below meth c G A nL cells slots Q w lv pc (.double x :: st) := fun H locs ls hP hD hS hl => lv_d2l C.1 C.2.1 d  (K H locs ls hP hD hS hl)
theorem j_ddiv (C : Cx p s m args c cc nL own G A) {x y : UInt64} (d : decode cc pc = .ok (.ddiv, 1)) (hn : vf_n64 (FP.ddiv x y)) (K : WJ p l e R s m args below meth c G A nL cells slots Q w lv (pc + 1) (.double (FP.ddiv x y) :: st)) : WJ p l e R s m args below meth c G A nL cells slots Q w lv pc (.double y :: .double x :: st) := fun H locs ls hP hD hS hl => lv_ddiv C.1 C.2.1 d hn (K H locs ls hP hD hS hl)
theorem j_dmul (C : Cx p s m args c cc nL own G A) {x y : UInt64} (d : decode cc pc = .ok (.dmul, 1)) (hn : vf_n64 (FP.dmul x y)) (K : WJ p l e R s m args below meth c G A nL cells slots Q w lv (pc + 1) (.double (FP.dmul x y) :: st)) : WJ p l e R s m args below meth c G A nL cells slots Q w lv pc (.double y :: .double x :: st) := fun H locs ls hP hD hS hl => lv_dmul C.1 C.2.1 d hn (K H locs ls hP hD hS hl)
theorem j_dsub (C : Cx p s m args c cc nL own G A) {x y : UInt64} (d : decode cc pc = .ok (.dsub, 1)) (hn : vf_n64 (FP.dsub x y)) (K : WJ p l e R s m args below meth c G A nL cells slots Q w lv (pc + 1) (.double (FP.dsub x y) :: st)) : WJ p l e R s m args below meth c G A nL cells slots Q w lv pc (.double y :: .double x :: st) := fun H locs ls hP hD hS hl => lv_dsub C.1 C.2.1 d hn (K H locs ls hP hD hS hl)
theorem j_d2f (C : Cx p s m args c cc nL own G A) {x : UInt64} (d : decode cc pc = .ok (.d2f, 1)) (hn : vf_n32 (FP.d2f x)) (K : WJ p l e R s m args below meth c G A nL cells slots Q w lv (pc + 1) (.float (FP.d2f x) :: st)) : WJ p l e R s m args below meth c G A nL cells slots Q w lv pc (.double x :: st) := fun H locs ls hP hD hS hl => lv_d2f C.1 C.2.1 d hn (K H locs ls hP hD hS hl)
theorem j_f2d (C : Cx p s m args c cc nL own G A) {x : UInt32} (d : decode cc pc = .ok (.f2d, 1)) (hn : vf_n64 (FP.f2d x)) (K : WJ p l e R s m args below meth c G A nL cells slots Q w lv (pc + 1) (.double (FP.f2d x) :: st)) : WJ p l e R s m args below meth c G A nL cells slots Q w lv pc (.float x :: st) := fun H locs ls hP hD hS hl => lv_f2d C.1 C.2.1 d hn (K H locs ls hP hD hS hl)
theorem j_dcmp (C : Cx p s m args c cc nL own G A) {x y : UInt64} {op : CmpOp} (d : decode cc pc = .ok (.dcmp op, 1))  (K : WJ p l e R s m args below meth c G A nL cells slots Q w lv (pc + 1) (.int (Op.cmpValue (FP.dcmp x y) op) :: st)) : WJ p l e R s m args below meth c G A nL cells slots Q w lv pc (.double y :: .double x :: st) := fun H locs ls hP hD hS hl => lv_dcmp C.1 C.2.1 d  (K H locs ls hP hD hS hl)
theorem j_fcmp (C : Cx p s m args c cc nL own G A) {x y : UInt32} {op : CmpOp} (d : decode cc pc = .ok (.fcmp op, 1))  (K : WJ p l e R s m args below meth c G A nL cells slots Q w lv (pc + 1) (.int (Op.cmpValue (FP.fcmp x y) op) :: st)) : WJ p l e R s m args below meth c G A nL cells slots Q w lv pc (.float y :: .float x :: st) := fun H locs ls hP hD hS hl => lv_fcmp C.1 C.2.1 d  (K H locs ls hP hD hS hl)
theorem j_iload_n (C : Cx p s m args c cc nL own G A) {k : Fin 4} {x : Int32} (d : decode cc pc = .ok (.iload_n k, 1)) (q : Nat) (hq : lv[q]? = some ((k : Nat), .int x)) (K : WJ p l e R s m args below meth c G A nL cells slots Q w lv (pc + 1) (.int x :: st)) : WJ p l e R s m args below meth c G A nL cells slots Q w lv pc st := fun H locs ls hP hD hS hl => lv_iload_n C.1 C.2.1 d rfl (lv_at hl q hq) (K H locs ls hP hD hS hl)
theorem j_iload (C : Cx p s m args c cc nL own G A) {k : Nat} {x : Int32} (d : decode cc pc = .ok (.iload k, 2)) (q : Nat) (hq : lv[q]? = some (k, .int x)) (K : WJ p l e R s m args below meth c G A nL cells slots Q w lv (pc + 2) (.int x :: st)) : WJ p l e R s m args below meth c G A nL cells slots Q w lv pc st := fun H locs ls hP hD hS hl => lv_iload C.1 C.2.1 d (lv_at hl q hq) (K H locs ls hP hD hS hl)
theorem j_aload_n (C : Cx p s m args c cc nL own G A) {k : Fin 4} {x : Nat} (d : decode cc pc = .ok (.aload_n k, 1)) (q : Nat) (hq : lv[q]? = some ((k : Nat), .ref x)) (K : WJ p l e R s m args below meth c G A nL cells slots Q w lv (pc + 1) (.ref x :: st)) : WJ p l e R s m args below meth c G A nL cells slots Q w lv pc st := fun H locs ls hP hD hS hl => lv_aload_n C.1 C.2.1 d rfl (lv_at hl q hq) (K H locs ls hP hD hS hl)
theorem j_aload (C : Cx p s m args c cc nL own G A) {k : Nat} {x : Nat} (d : decode cc pc = .ok (.aload k, 2)) (q : Nat) (hq : lv[q]? = some (k, .ref x)) (K : WJ p l e R s m args below meth c G A nL cells slots Q w lv (pc + 2) (.ref x :: st)) : WJ p l e R s m args below meth c G A nL cells slots Q w lv pc st := fun H locs ls hP hD hS hl => lv_aload C.1 C.2.1 d (lv_at hl q hq) (K H locs ls hP hD hS hl)
theorem j_lload_n (C : Cx p s m args c cc nL own G A) {k : Fin 4} {x : Int64} (d : decode cc pc = .ok (.lload_n k, 1)) (q : Nat) (hq : lv[q]? = some ((k : Nat), .long x)) (K : WJ p l e R s m args below meth c G A nL cells slots Q w lv (pc + 1) (.long x :: st)) : WJ p l e R s m args below meth c G A nL cells slots Q w lv pc st := fun H locs ls hP hD hS hl => lv_lload_n C.1 C.2.1 d rfl (lv_at hl q hq) (K H locs ls hP hD hS hl)
theorem j_lload (C : Cx p s m args c cc nL own G A) {k : Nat} {x : Int64} (d : decode cc pc = .ok (.lload k, 2)) (q : Nat) (hq : lv[q]? = some (k, .long x)) (K : WJ p l e R s m args below meth c G A nL cells slots Q w lv (pc + 2) (.long x :: st)) : WJ p l e R s m args below meth c G A nL cells slots Q w lv pc st := fun H locs ls hP hD hS hl => lv_lload C.1 C.2.1 d (lv_at hl q hq) (K H locs ls hP hD hS hl)
theorem j_dload_n (C : Cx p s m args c cc nL own G A) {k : Fin 4} {x : UInt64} (d : decode cc pc = .ok (.dload_n k, 1)) (q : Nat) (hq : lv[q]? = some ((k : Nat), .double x)) (K : WJ p l e R s m args below meth c G A nL cells slots Q w lv (pc + 1) (.double x :: st)) : WJ p l e R s m args below meth c G A nL cells slots Q w lv pc st := fun H locs ls hP hD hS hl => lv_dload_n C.1 C.2.1 d rfl (lv_at hl q hq) (K H locs ls hP hD hS hl)
theorem j_fload_n (C : Cx p s m args c cc nL own G A) {k : Fin 4} {x : UInt32} (d : decode cc pc = .ok (.fload_n k, 1)) (q : Nat) (hq : lv[q]? = some ((k : Nat), .float x)) (K : WJ p l e R s m args below meth c G A nL cells slots Q w lv (pc + 1) (.float x :: st)) : WJ p l e R s m args below meth c G A nL cells slots Q w lv pc st := fun H locs ls hP hD hS hl => lv_fload_n C.1 C.2.1 d rfl (lv_at hl q hq) (K H locs ls hP hD hS hl)
theorem j_istore_n (C : Cx p s m args c cc nL own G A) {k : Fin 4} {x : Int32} (lv' : List (Nat × Value)) (d : decode cc pc = .ok (.istore_n k, 1)) (hn : (k : Nat) < nL) (hl' : ((k : Nat), Value.int x) :: lv.filter (fun q => !(q.1 == (k : Nat)) && !(q.1 + 1 == (k : Nat) && q.2.category == 2)) = lv') (K : WJ p l e R s m args below meth c G A nL cells slots Q w lv' (pc + 1) st) : WJ p l e R s m args below meth c G A nL cells slots Q w lv pc (.int x :: st) := fun H locs ls hP hD hS hl => lv_istore_n C.1 C.2.1 d rfl hl hn hl' (fun ls' h2 => K H locs ls' hP hD hS h2)
theorem j_istore (C : Cx p s m args c cc nL own G A) {k : Nat} {x : Int32} (lv' : List (Nat × Value)) (d : decode cc pc = .ok (.istore k, 2)) (hn : k < nL) (hl' : (k, Value.int x) :: lv.filter (fun q => !(q.1 == k) && !(q.1 + 1 == k && q.2.category == 2)) = lv') (K : WJ p l e R s m args below meth c G A nL cells slots Q w lv' (pc + 2) st) : WJ p l e R s m args below meth c G A nL cells slots Q w lv pc (.int x :: st) := fun H locs ls hP hD hS hl => lv_istore C.1 C.2.1 d hl hn hl' (fun ls' h2 => K H locs ls' hP hD hS h2)
theorem j_astore_n (C : Cx p s m args c cc nL own G A) {k : Fin 4} {x : Nat} (lv' : List (Nat × Value)) (d : decode cc pc = .ok (.astore_n k, 1)) (hn : (k : Nat) < nL) (hl' : ((k : Nat), Value.ref x) :: lv.filter (fun q => !(q.1 == (k : Nat)) && !(q.1 + 1 == (k : Nat) && q.2.category == 2)) = lv') (K : WJ p l e R s m args below meth c G A nL cells slots Q w lv' (pc + 1) st) : WJ p l e R s m args below meth c G A nL cells slots Q w lv pc (.ref x :: st) := fun H locs ls hP hD hS hl => lv_astore_n C.1 C.2.1 d rfl hl hn hl' (fun ls' h2 => K H locs ls' hP hD hS h2)
theorem j_astore (C : Cx p s m args c cc nL own G A) {k : Nat} {x : Nat} (lv' : List (Nat × Value)) (d : decode cc pc = .ok (.astore k, 2)) (hn : k < nL) (hl' : (k, Value.ref x) :: lv.filter (fun q => !(q.1 == k) && !(q.1 + 1 == k && q.2.category == 2)) = lv') (K : WJ p l e R s m args below meth c G A nL cells slots Q w lv' (pc + 2) st) : WJ p l e R s m args below meth c G A nL cells slots Q w lv pc (.ref x :: st) := fun H locs ls hP hD hS hl => lv_astore C.1 C.2.1 d hl hn hl' (fun ls' h2 => K H locs ls' hP hD hS h2)
theorem j_lstore_n (C : Cx p s m args c cc nL own G A) {k : Fin 4} {x : Int64} (lv' : List (Nat × Value)) (d : decode cc pc = .ok (.lstore_n k, 1)) (hn : (k : Nat) + 1 < nL) (hl' : ((k : Nat), Value.long x) :: lv.filter (fun q => !(q.1 == (k : Nat)) && (!(q.1 == (k : Nat) + 1) && !(q.1 + 1 == (k : Nat) && q.2.category == 2))) = lv') (K : WJ p l e R s m args below meth c G A nL cells slots Q w lv' (pc + 1) st) : WJ p l e R s m args below meth c G A nL cells slots Q w lv pc (.long x :: st) := fun H locs ls hP hD hS hl => lv_lstore_n C.1 C.2.1 d rfl hl hn hl' (fun ls' h2 => K H locs ls' hP hD hS h2)
theorem j_lstore (C : Cx p s m args c cc nL own G A) {k : Nat} {x : Int64} (lv' : List (Nat × Value)) (d : decode cc pc = .ok (.lstore k, 2)) (hn : k + 1 < nL) (hl' : (k, Value.long x) :: lv.filter (fun q => !(q.1 == k) && (!(q.1 == k + 1) && !(q.1 + 1 == k && q.2.category == 2))) = lv') (K : WJ p l e R s m args below meth c G A nL cells slots Q w lv' (pc + 2) st) : WJ p l e R s m args below meth c G A nL cells slots Q w lv pc (.long x :: st) := fun H locs ls hP hD hS hl => lv_lstore C.1 C.2.1 d hl hn hl' (fun ls' h2 => K H locs ls' hP hD hS h2)
theorem j_dstore_n (C : Cx p s m args c cc nL own G A) {k : Fin 4} {x : UInt64} (lv' : List (Nat × Value)) (d : decode cc pc = .ok (.dstore_n k, 1)) (hn : (k : Nat) + 1 < nL) (hl' : ((k : Nat), Value.double x) :: lv.filter (fun q => !(q.1 == (k : Nat)) && (!(q.1 == (k : Nat) + 1) && !(q.1 + 1 == (k : Nat) && q.2.category == 2))) = lv') (K : WJ p l e R s m args below meth c G A nL cells slots Q w lv' (pc + 1) st) : WJ p l e R s m args below meth c G A nL cells slots Q w lv pc (.double x :: st) := fun H locs ls hP hD hS hl => lv_dstore_n C.1 C.2.1 d rfl hl hn hl' (fun ls' h2 => K H locs ls' hP hD hS h2)
theorem j_dstore (C : Cx p s m args c cc nL own G A) {k : Nat} {x : UInt64} (lv' : List (Nat × Value)) (d : decode cc pc = .ok (.dstore k, 2)) (hn : k + 1 < nL) (hl' : (k, Value.double x) :: lv.filter (fun q => !(q.1 == k) && (!(q.1 == k + 1) && !(q.1 + 1 == k && q.2.category == 2))) = lv') (K : WJ p l e R s m args below meth c G A nL cells slots Q w lv' (pc + 2) st) : WJ p l e R s m args below meth c G A nL cells slots Q w lv pc (.double x :: st) := fun H locs ls hP hD hS hl => lv_dstore C.1 C.2.1 d hl hn hl' (fun ls' h2 => K H locs ls' hP hD hS h2)
theorem j_iinc (C : Cx p s m args c cc nL own G A) {i k : Nat} {n : Int} {x v : Int32} (lv' : List (Nat × Value)) (d : decode cc pc = .ok (.iinc i n, 3)) (hk : lv[k]? = some (i, .int x)) (hv : x + Int32.ofInt n = v) (hn : i < nL) (hl' : (i, Value.int v) :: lv.filter (fun q => !(q.1 == i) && !(q.1 + 1 == i && q.2.category == 2)) = lv') (K : WJ p l e R s m args below meth c G A nL cells slots Q w lv' (pc + 3) st) : WJ p l e R s m args below meth c G A nL cells slots Q w lv pc st := fun H locs ls hP hD hS hl => lv_iinc C.1 C.2.1 d hl hk hv hn hl' (fun ls' h2 => K H locs ls' hP hD hS h2)
theorem j_if_eq (C : Cx p s m args c cc nL own G A) {x : Int32} {off : Int} {tgt : Nat} (d : decode cc pc = .ok (.ifCond .eq off, 3)) (ht : (pc : Int) + off = (tgt : Int)) (kt : x = 0 → WJ p l e R s m args below meth c G A nL cells slots Q w lv tgt st) (kf : ¬ x = 0 → WJ p l e R s m args below meth c G A nL cells slots Q w lv (pc + 3) st) : WJ p l e R s m args below meth c G A nL cells slots Q w lv pc (.int x :: st) := fun H locs ls hP hD hS hl => lv_if_eq C.1 C.2.1 d ht (fun h => kt h H locs ls hP hD hS hl) (fun h => kf h H locs ls hP hD hS hl)
theorem j_if_ne (C : Cx p s m args c cc nL own G A) {x : Int32} {off : Int} {tgt : Nat} (d : decode cc pc = .ok (.ifCond .ne off, 3)) (ht : (pc : Int) + off = (tgt : Int)) (kt : ¬ x = 0 → WJ p l e R s m args below meth c G A nL cells slots Q w lv tgt st) (kf : x = 0 → WJ p l e R s m args below meth c G A nL cells slots Q w lv (pc + 3) st) : WJ p l e R s m args below meth c G A nL cells slots Q w lv pc (.int x :: st) := fun H locs ls hP hD hS hl => lv_if_ne C.1 C.2.1 d ht (fun h => kt h H locs ls hP hD hS hl) (fun h => kf h H locs ls hP hD hS hl)
theorem j_if_lt (C : Cx p s m args c cc nL own G A) {x : Int32} {off : Int} {tgt : Nat} (d : decode cc pc = .ok (.ifCond .lt off, 3)) (ht : (pc : Int) + off = (tgt : Int)) (kt : x < 0 → WJ p l e R s m args below meth c G A nL cells slots Q w lv tgt st) (kf : ¬ x < 0 → WJ p l e R s m args below meth c G A nL cells slots Q w lv (pc + 3) st) : WJ p l e R s m args below meth c G A nL cells slots Q w lv pc (.int x :: st) := fun H locs ls hP hD hS hl => lv_if_lt C.1 C.2.1 d ht (fun h => kt h H locs ls hP hD hS hl) (fun h => kf h H locs ls hP hD hS hl)
theorem j_if_ge (C : Cx p s m args c cc nL own G A) {x : Int32} {off : Int} {tgt : Nat} (d : decode cc pc = .ok (.ifCond .ge off, 3)) (ht : (pc : Int) + off = (tgt : Int)) (kt : 0 ≤ x → WJ p l e R s m args below meth c G A nL cells slots Q w lv tgt st) (kf : ¬ 0 ≤ x → WJ p l e R s m args below meth c G A nL cells slots Q w lv (pc + 3) st) : WJ p l e R s m args below meth c G A nL cells slots Q w lv pc (.int x :: st) := fun H locs ls hP hD hS hl => lv_if_ge C.1 C.2.1 d ht (fun h => kt h H locs ls hP hD hS hl) (fun h => kf h H locs ls hP hD hS hl)
theorem j_if_gt (C : Cx p s m args c cc nL own G A) {x : Int32} {off : Int} {tgt : Nat} (d : decode cc pc = .ok (.ifCond .gt off, 3)) (ht : (pc : Int) + off = (tgt : Int)) (kt : 0 < x → WJ p l e R s m args below meth c G A nL cells slots Q w lv tgt st) (kf : ¬ 0 < x → WJ p l e R s m args below meth c G A nL cells slots Q w lv (pc + 3) st) : WJ p l e R s m args below meth c G A nL cells slots Q w lv pc (.int x :: st) := fun H locs ls hP hD hS hl => lv_if_gt C.1 C.2.1 d ht (fun h => kt h H locs ls hP hD hS hl) (fun h => kf h H locs ls hP hD hS hl)
theorem j_if_le (C : Cx p s m args c cc nL own G A) {x : Int32} {off : Int} {tgt : Nat} (d : decode cc pc = .ok (.ifCond .le off, 3)) (ht : (pc : Int) + off = (tgt : Int)) (kt : x ≤ 0 → WJ p l e R s m args below meth c G A nL cells slots Q w lv tgt st) (kf : ¬ x ≤ 0 → WJ p l e R s m args below meth c G A nL cells slots Q w lv (pc + 3) st) : WJ p l e R s m args below meth c G A nL cells slots Q w lv pc (.int x :: st) := fun H locs ls hP hD hS hl => lv_if_le C.1 C.2.1 d ht (fun h => kt h H locs ls hP hD hS hl) (fun h => kf h H locs ls hP hD hS hl)
theorem j_icmp_eq (C : Cx p s m args c cc nL own G A) {x y : Int32} {off : Int} {tgt : Nat} (d : decode cc pc = .ok (.if_icmp .eq off, 3)) (ht : (pc : Int) + off = (tgt : Int)) (kt : x = y → WJ p l e R s m args below meth c G A nL cells slots Q w lv tgt st) (kf : ¬ x = y → WJ p l e R s m args below meth c G A nL cells slots Q w lv (pc + 3) st) : WJ p l e R s m args below meth c G A nL cells slots Q w lv pc (.int y :: .int x :: st) := fun H locs ls hP hD hS hl => lv_icmp_eq C.1 C.2.1 d ht (fun h => kt h H locs ls hP hD hS hl) (fun h => kf h H locs ls hP hD hS hl)
theorem j_icmp_ne (C : Cx p s m args c cc nL own G A) {x y : Int32} {off : Int} {tgt : Nat} (d : decode cc pc = .ok (.if_icmp .ne off, 3)) (ht : (pc : Int) + off = (tgt : Int)) (kt : ¬ x = y → WJ p l e R s m args below meth c G A nL cells slots Q w lv tgt st) (kf : x = y → WJ p l e R s m args below meth c G A nL cells slots Q w lv (pc + 3) st) : WJ p l e R s m args below meth c G A nL cells slots Q w lv pc (.int y :: .int x :: st) := fun H locs ls hP hD hS hl => lv_icmp_ne C.1 C.2.1 d ht (fun h => kt h H locs ls hP hD hS hl) (fun h => kf h H locs ls hP hD hS hl)
theorem j_icmp_lt (C : Cx p s m args c cc nL own G A) {x y : Int32} {off : Int} {tgt : Nat} (d : decode cc pc = .ok (.if_icmp .lt off, 3)) (ht : (pc : Int) + off = (tgt : Int)) (kt : x < y → WJ p l e R s m args below meth c G A nL cells slots Q w lv tgt st) (kf : ¬ x < y → WJ p l e R s m args below meth c G A nL cells slots Q w lv (pc + 3) st) : WJ p l e R s m args below meth c G A nL cells slots Q w lv pc (.int y :: .int x :: st) := fun H locs ls hP hD hS hl => lv_icmp_lt C.1 C.2.1 d ht (fun h => kt h H locs ls hP hD hS hl) (fun h => kf h H locs ls hP hD hS hl)
theorem j_icmp_ge (C : Cx p s m args c cc nL own G A) {x y : Int32} {off : Int} {tgt : Nat} (d : decode cc pc = .ok (.if_icmp .ge off, 3)) (ht : (pc : Int) + off = (tgt : Int)) (kt : y ≤ x → WJ p l e R s m args below meth c G A nL cells slots Q w lv tgt st) (kf : ¬ y ≤ x → WJ p l e R s m args below meth c G A nL cells slots Q w lv (pc + 3) st) : WJ p l e R s m args below meth c G A nL cells slots Q w lv pc (.int y :: .int x :: st) := fun H locs ls hP hD hS hl => lv_icmp_ge C.1 C.2.1 d ht (fun h => kt h H locs ls hP hD hS hl) (fun h => kf h H locs ls hP hD hS hl)
theorem j_icmp_gt (C : Cx p s m args c cc nL own G A) {x y : Int32} {off : Int} {tgt : Nat} (d : decode cc pc = .ok (.if_icmp .gt off, 3)) (ht : (pc : Int) + off = (tgt : Int)) (kt : y < x → WJ p l e R s m args below meth c G A nL cells slots Q w lv tgt st) (kf : ¬ y < x → WJ p l e R s m args below meth c G A nL cells slots Q w lv (pc + 3) st) : WJ p l e R s m args below meth c G A nL cells slots Q w lv pc (.int y :: .int x :: st) := fun H locs ls hP hD hS hl => lv_icmp_gt C.1 C.2.1 d ht (fun h => kt h H locs ls hP hD hS hl) (fun h => kf h H locs ls hP hD hS hl)
theorem j_icmp_le (C : Cx p s m args c cc nL own G A) {x y : Int32} {off : Int} {tgt : Nat} (d : decode cc pc = .ok (.if_icmp .le off, 3)) (ht : (pc : Int) + off = (tgt : Int)) (kt : x ≤ y → WJ p l e R s m args below meth c G A nL cells slots Q w lv tgt st) (kf : ¬ x ≤ y → WJ p l e R s m args below meth c G A nL cells slots Q w lv (pc + 3) st) : WJ p l e R s m args below meth c G A nL cells slots Q w lv pc (.int y :: .int x :: st) := fun H locs ls hP hD hS hl => lv_icmp_le C.1 C.2.1 d ht (fun h => kt h H locs ls hP hD hS hl) (fun h => kf h H locs ls hP hD hS hl)
theorem j_goto (C : Cx p s m args c cc nL own G A) {off : Int} {tgt : Nat} (d : decode cc pc = .ok (.goto off, 3)) (ht : (pc : Int) + off = (tgt : Int)) (K : WJ p l e R s m args below meth c G A nL cells slots Q w lv tgt st) : WJ p l e R s m args below meth c G A nL cells slots Q w lv pc st := fun H locs ls hP hD hS hl => lv_goto C.1 C.2.1 d ht (K H locs ls hP hD hS hl)
theorem j_lookup (C : Cx p s m args c cc nL own G A) {dflt : Int} {ps : Array (Int × Int)} {len : Nat} {x : Int32} {off : Int} {tgt : Nat} (d : decode cc pc = .ok (.lookupswitch dflt ps, len)) (hp : (ps.toList.zip (ps.toList.drop 1)).all (fun (a, next) => a.1 < next.1) = true) (ho : Op.lookupswitch.offset ps.toList dflt x.toInt = off) (ht : (pc : Int) + off = (tgt : Int)) (K : WJ p l e R s m args below meth c G A nL cells slots Q w lv tgt st) : WJ p l e R s m args below meth c G A nL cells slots Q w lv pc (.int x :: st) := fun H locs ls hP hD hS hl => lv_lookup C.1 C.2.1 d hp ho ht (K H locs ls hP hD hS hl)
theorem j_tableIn (C : Cx p s m args c cc nL own G A) {dflt lo hi : Int} {offs : Array Int} {len : Nat} {x : Int32} {off : Int} {tgt : Nat} (d : decode cc pc = .ok (.tableswitch dflt lo hi offs, len)) (h1 : ¬ x.toInt < lo) (h2 : ¬ hi < x.toInt) (ho : offs[(x.toInt - lo).toNat]? = some off) (ht : (pc : Int) + off = (tgt : Int)) (K : WJ p l e R s m args below meth c G A nL cells slots Q w lv tgt st) : WJ p l e R s m args below meth c G A nL cells slots Q w lv pc (.int x :: st) := fun H locs ls hP hD hS hl => lv_tableIn C.1 C.2.1 d h1 h2 ho ht (K H locs ls hP hD hS hl)
theorem j_tableOut (C : Cx p s m args c cc nL own G A) {dflt lo hi : Int} {offs : Array Int} {len : Nat} {x : Int32} {tgt : Nat} (d : decode cc pc = .ok (.tableswitch dflt lo hi offs, len)) (h : x.toInt < lo ∨ hi < x.toInt) (ht : (pc : Int) + dflt = (tgt : Int)) (K : WJ p l e R s m args below meth c G A nL cells slots Q w lv tgt st) : WJ p l e R s m args below meth c G A nL cells slots Q w lv pc (.int x :: st) := fun H locs ls hP hD hS hl => lv_tableOut C.1 C.2.1 d h ht (K H locs ls hP hD hS hl)
theorem j_ldc (C : Cx p s m args c cc nL own G A) {index : Nat} {v : Int32} (hc : Jvm.Cond.constant own index v ∈ AW) (d : decode cc pc = .ok (.ldc index, 2)) (K : WJ p l e R s m args below meth c G A nL cells slots Q w lv (pc + 2) (.int v :: st)) : WJ p l e R s m args below meth c G A nL cells slots Q w lv pc st := fun H locs ls hP hD hS hl => lv_ldc C.1 C.2.1 C.2.2.2.1 (C.2.2.2.2.1 _ hc) d (K H locs ls hP hD hS hl)
theorem j_ldc2 (C : Cx p s m args c cc nL own G A) {index : Nat} {v : Int64} (hc : Jvm.Cond.constantLong own index v ∈ AW) (d : decode cc pc = .ok (.ldc2_w index, 3)) (K : WJ p l e R s m args below meth c G A nL cells slots Q w lv (pc + 3) (.long v :: st)) : WJ p l e R s m args below meth c G A nL cells slots Q w lv pc st := fun H locs ls hP hD hS hl => lv_ldc2 C.1 C.2.1 C.2.2.2.1 (C.2.2.2.2.1 _ hc) d (K H locs ls hP hD hS hl)
theorem j_ldc2d (C : Cx p s m args c cc nL own G A) {index : Nat} {v : UInt64} (hc : Jvm.Cond.constantDouble own index v ∈ AW) (d : decode cc pc = .ok (.ldc2_w index, 3)) (K : WJ p l e R s m args below meth c G A nL cells slots Q w lv (pc + 3) (.double v :: st)) : WJ p l e R s m args below meth c G A nL cells slots Q w lv pc st := fun H locs ls hP hD hS hl => lv_ldc2d C.1 C.2.1 C.2.2.2.1 (C.2.2.2.2.1 _ hc) d (K H locs ls hP hD hS hl)
theorem j_get (C : Cx p s m args c cc nL own G A) {ref Cn : String} {T : u_T} {N ci index a : Nat} {fs : List Value} (hin : ∀ w' ∈ u_ws Cn T N, w' ∈ AW) (hc : vwCl[ci]? = some (Cn, T, N)) (q0 : Nat) (he : w[q0]? = some (a, .inr (ci, fs))) (k : Nat) (hk : k < N) (hlink : Cond.fieldLink own index ref (T k).2.1 (T k).2.2.1 ∈ AW) (hsame : (T k).1 = ref) {v : Value} (hv : fs[k]? = some v) (d : decode cc pc = .ok (.getfield index, 3)) (K : WJ p l e R s m args below meth c G A nL cells slots Q w lv (pc + 3) (v :: st)) : WJ p l e R s m args below meth c G A nL cells slots Q w lv pc (.ref a :: st) := fun H locs ls hP hD hS hl => va_get C.1 C.2.1 C.2.2.2.2.1 hin C.2.2.2.1 C.2.2.2.2.2.1 hP q0 he hc k hk (C.2.2.2.2.1 _ hlink) (fun x h9 => by rw [hsame] at h9; exact h9) hv d (K H locs ls hP hD hS hl)
theorem j_put (C : Cx p s m args c cc nL own G A) {ref Cn : String} {T : u_T} {N ci index a : Nat} {fs : List Value} (hin : ∀ w' ∈ u_ws Cn T N, w' ∈ AW) (hc : vwCl[ci]? = some (Cn, T, N)) (q0 : Nat) (he : w[q0]? = some (a, .inr (ci, fs))) (k : Nat) (hk : k < N) (hlink : Cond.fieldLink own index ref (T k).2.1 (T k).2.2.1 ∈ AW) (hsame : (T k).1 = ref) (ty0 : Nat → FieldType) (hty : ∀ k, k < N → parseFieldDescriptor (T k).2.2.1 = some (ty0 k)) (hnm : ∀ a, a < N → ∀ b, b < N → a ≠ b → (T a).2.1 ≠ (T b).2.1) (hfin : (T k).2.2.2 = false) {v : Value} (hn : narrow (ty0 k) v = v) (hfit : Jvm.fits (ty0 k) v = true) (hlen : k < fs.length) (w2 : va_W) (hw : w.set q0 (a, .inr (ci, fs.set k v)) = w2) (d : decode cc pc = .ok (.putfield index, 3)) (K : WJ p l e R s m args below meth c G A nL cells slots Q w2 lv (pc + 3) st) : WJ p l e R s m args below meth c G A nL cells slots Q w lv pc (v :: .ref a :: st) := fun H locs ls hP hD hS hl => va_put C.1 C.2.1 C.2.2.2.2.1 hin ty0 hty hnm C.2.2.2.1 C.2.2.2.2.2.1 hP hD hS q0 he hc k hk (C.2.2.2.2.1 _ hlink) (fun x h9 => by rw [hsame] at h9; exact h9) hfin (hty k hk) hn hfit hlen d (fun H1 locs1 h1 h2 h3 => K H1 locs1 ls (hw ▸ h1) (hw ▸ h2) h3 hl)
theorem j_putF (C : Cx p s m args c cc nL own G A) {ref Cn : String} {T : u_T} {N ci index a : Nat} {fs : List Value} (hin : ∀ w' ∈ u_ws Cn T N, w' ∈ AW) (hc : vwCl[ci]? = some (Cn, T, N)) (q0 : Nat) (he : w[q0]? = some (a, .inr (ci, fs))) (k : Nat) (hk : k < N) (hlink : Cond.fieldLink own index ref (T k).2.1 (T k).2.2.1 ∈ AW) (hsame : (T k).1 = ref) (hinit : meth.name = "<init>") (hdecl : (T k).1 = own) (ty0 : Nat → FieldType) (hty : ∀ k, k < N → parseFieldDescriptor (T k).2.2.1 = some (ty0 k)) (hnm : ∀ a, a < N → ∀ b, b < N → a ≠ b → (T a).2.1 ≠ (T b).2.1) (hfin : (T k).2.2.2 = true) {v : Value} (hn : narrow (ty0 k) v = v) (hfit : Jvm.fits (ty0 k) v = true) (hlen : k < fs.length) (w2 : va_W) (hw : w.set q0 (a, .inr (ci, fs.set k v)) = w2) (d : decode cc pc = .ok (.putfield index, 3)) (K : WJ p l e R s m args below meth c G A nL cells slots Q w2 lv (pc + 3) st) : WJ p l e R s m args below meth c G A nL cells slots Q w lv pc (v :: .ref a :: st) := fun H locs ls hP hD hS hl => va_putF C.1 C.2.1 C.2.2.2.2.1 hin ty0 hty hnm C.2.2.2.1 C.2.2.2.2.2.1 hP hD hS q0 he hc k hk (C.2.2.2.2.1 _ hlink) (fun x h9 => by rw [hsame] at h9; exact h9) hfin hinit hdecl (hty k hk) hn hfit hlen d (fun H1 locs1 h1 h2 h3 => K H1 locs1 ls (hw ▸ h1) (hw ▸ h2) h3 hl)
theorem j_iald (C : Cx p s m args c cc nL own G A) {n a : Nat} {f : Nat → Int32} {i : Int32} (q0 : Nat) (he : w[q0]? = some (a, .inl (G.2.1 2, n, .inl f))) (hin : vp_in i n) {v : Int32} (hv : f i.toNatClampNeg = v) (d : decode cc pc = .ok (.iaload, 1)) (K : WJ p l e R s m args below meth c G A nL cells slots Q w lv (pc + 1) (.int v :: st)) : WJ p l e R s m args below meth c G A nL cells slots Q w lv pc (.int i :: .ref a :: st) := fun H locs ls hP hD hS hl => va_iald C.1 C.2.1 C.2.2.2.2.2.1 hP q0 2 he rfl hin d (by rw [hv]; exact K H locs ls hP hD hS hl)
theorem j_iast (C : Cx p s m args c cc nL own G A) {n a : Nat} {f : Nat → Int32} {i : Int32} {x : Int32} (q0 : Nat) (he : w[q0]? = some (a, .inl (G.2.1 2, n, .inl f))) (hin : vp_in i n) (w2 : va_W) (hw : w.set q0 (a, .inl (G.2.1 2, n, .inl (upd f i.toNatClampNeg x))) = w2) (d : decode cc pc = .ok (.iastore, 1)) (K : WJ p l e R s m args below meth c G A nL cells slots Q w2 lv (pc + 1) st) : WJ p l e R s m args below meth c G A nL cells slots Q w lv pc (.int x :: .int i :: .ref a :: st) := fun H locs ls hP hD hS hl => va_iast C.1 C.2.1 C.2.2.2.2.2.1 hP hD hS q0 2 he rfl hin d (fun H1 locs1 h1 h2 h3 => K H1 locs1 ls (hw ▸ h1) (hw ▸ h2) h3 hl)
theorem j_bald (C : Cx p s m args c cc nL own G A) {n a : Nat} {f : Nat → Int32} {i : Int32} (q0 : Nat) (he : w[q0]? = some (a, .inl (G.2.1 0, n, .inl f))) (hin : vp_in i n) {v : Int32} (hv : f i.toNatClampNeg = v) (d : decode cc pc = .ok (.baload, 1)) (K : WJ p l e R s m args below meth c G A nL cells slots Q w lv (pc + 1) (.int v :: st)) : WJ p l e R s m args below meth c G A nL cells slots Q w lv pc (.int i :: .ref a :: st) := fun H locs ls hP hD hS hl => va_bald C.1 C.2.1 C.2.2.2.2.2.1 hP q0 0 he rfl hin d (by rw [hv]; exact K H locs ls hP hD hS hl)
theorem j_bast (C : Cx p s m args c cc nL own G A) {n a : Nat} {f : Nat → Int32} {i : Int32} {x : Int32} (q0 : Nat) (he : w[q0]? = some (a, .inl (G.2.1 0, n, .inl f))) (hin : vp_in i n) (w2 : va_W) (hw : w.set q0 (a, .inl (G.2.1 0, n, .inl (upd f i.toNatClampNeg (vp_nar .byte x)))) = w2) (d : decode cc pc = .ok (.bastore, 1)) (K : WJ p l e R s m args below meth c G A nL cells slots Q w2 lv (pc + 1) st) : WJ p l e R s m args below meth c G A nL cells slots Q w lv pc (.int x :: .int i :: .ref a :: st) := fun H locs ls hP hD hS hl => va_bast C.1 C.2.1 C.2.2.2.2.2.1 hP hD hS q0 0 he rfl hin d (fun H1 locs1 h1 h2 h3 => K H1 locs1 ls (hw ▸ h1) (hw ▸ h2) h3 hl)
theorem j_zald (C : Cx p s m args c cc nL own G A) {n a : Nat} {f : Nat → Int32} {i : Int32} (q0 : Nat) (he : w[q0]? = some (a, .inl (G.2.1 4, n, .inl f))) (hin : vp_in i n) {v : Int32} (hv : f i.toNatClampNeg = v) (d : decode cc pc = .ok (.baload, 1)) (K : WJ p l e R s m args below meth c G A nL cells slots Q w lv (pc + 1) (.int v :: st)) : WJ p l e R s m args below meth c G A nL cells slots Q w lv pc (.int i :: .ref a :: st) := fun H locs ls hP hD hS hl => va_zald C.1 C.2.1 C.2.2.2.2.2.1 hP q0 4 he rfl hin d (by rw [hv]; exact K H locs ls hP hD hS hl)
theorem j_zast (C : Cx p s m args c cc nL own G A) {n a : Nat} {f : Nat → Int32} {i : Int32} {x : Int32} (q0 : Nat) (he : w[q0]? = some (a, .inl (G.2.1 4, n, .inl f))) (hin : vp_in i n) (w2 : va_W) (hw : w.set q0 (a, .inl (G.2.1 4, n, .inl (upd f i.toNatClampNeg (vp_nar .boolean x)))) = w2) (d : decode cc pc = .ok (.bastore, 1)) (K : WJ p l e R s m args below meth c G A nL cells slots Q w2 lv (pc + 1) st) : WJ p l e R s m args below meth c G A nL cells slots Q w lv pc (.int x :: .int i :: .ref a :: st) := fun H locs ls hP hD hS hl => va_zast C.1 C.2.1 C.2.2.2.2.2.1 hP hD hS q0 4 he rfl hin d (fun H1 locs1 h1 h2 h3 => K H1 locs1 ls (hw ▸ h1) (hw ▸ h2) h3 hl)
theorem j_cald (C : Cx p s m args c cc nL own G A) {n a : Nat} {f : Nat → Int32} {i : Int32} (q0 : Nat) (he : w[q0]? = some (a, .inl (G.2.1 1, n, .inl f))) (hin : vp_in i n) {v : Int32} (hv : f i.toNatClampNeg = v) (d : decode cc pc = .ok (.caload, 1)) (K : WJ p l e R s m args below meth c G A nL cells slots Q w lv (pc + 1) (.int v :: st)) : WJ p l e R s m args below meth c G A nL cells slots Q w lv pc (.int i :: .ref a :: st) := fun H locs ls hP hD hS hl => va_cald C.1 C.2.1 C.2.2.2.2.2.1 hP q0 1 he rfl hin d (by rw [hv]; exact K H locs ls hP hD hS hl)
theorem j_cast (C : Cx p s m args c cc nL own G A) {n a : Nat} {f : Nat → Int32} {i : Int32} {x : Int32} (q0 : Nat) (he : w[q0]? = some (a, .inl (G.2.1 1, n, .inl f))) (hin : vp_in i n) (w2 : va_W) (hw : w.set q0 (a, .inl (G.2.1 1, n, .inl (upd f i.toNatClampNeg (vp_nar .char x)))) = w2) (d : decode cc pc = .ok (.castore, 1)) (K : WJ p l e R s m args below meth c G A nL cells slots Q w2 lv (pc + 1) st) : WJ p l e R s m args below meth c G A nL cells slots Q w lv pc (.int x :: .int i :: .ref a :: st) := fun H locs ls hP hD hS hl => va_cast C.1 C.2.1 C.2.2.2.2.2.1 hP hD hS q0 1 he rfl hin d (fun H1 locs1 h1 h2 h3 => K H1 locs1 ls (hw ▸ h1) (hw ▸ h2) h3 hl)
theorem j_lald (C : Cx p s m args c cc nL own G A) {n a : Nat} {f : Nat → Int64} {i : Int32} (q0 : Nat) (he : w[q0]? = some (a, .inl (G.2.1 3, n, .inr (.inl f)))) (hin : vp_in i n) {v : Int64} (hv : f i.toNatClampNeg = v) (d : decode cc pc = .ok (.laload, 1)) (K : WJ p l e R s m args below meth c G A nL cells slots Q w lv (pc + 1) (.long v :: st)) : WJ p l e R s m args below meth c G A nL cells slots Q w lv pc (.int i :: .ref a :: st) := fun H locs ls hP hD hS hl => va_lald C.1 C.2.1 C.2.2.2.2.2.1 hP q0 3 he rfl hin d (by rw [hv]; exact K H locs ls hP hD hS hl)
theorem j_last (C : Cx p s m args c cc nL own G A) {n a : Nat} {f : Nat → Int64} {i : Int32} {x : Int64} (q0 : Nat) (he : w[q0]? = some (a, .inl (G.2.1 3, n, .inr (.inl f)))) (hin : vp_in i n) (w2 : va_W) (hw : w.set q0 (a, .inl (G.2.1 3, n, .inr (.inl (vp_updL f i.toNatClampNeg x)))) = w2) (d : decode cc pc = .ok (.lastore, 1)) (K : WJ p l e R s m args below meth c G A nL cells slots Q w2 lv (pc + 1) st) : WJ p l e R s m args below meth c G A nL cells slots Q w lv pc (.long x :: .int i :: .ref a :: st) := fun H locs ls hP hD hS hl => va_last C.1 C.2.1 C.2.2.2.2.2.1 hP hD hS q0 3 he rfl hin d (fun H1 locs1 h1 h2 h3 => K H1 locs1 ls (hw ▸ h1) (hw ▸ h2) h3 hl)
theorem j_aaldD (C : Cx p s m args c cc nL own G A) {n a y : Nat} {f : Nat → Option Nat} {i : Int32} (q0 : Nat) (he : w[q0]? = some (a, .inl (G.2.1 5, n, .inr (.inr (.inr (.inr f)))))) (hin : vp_in i n) (hv : f i.toNatClampNeg = some y) (d : decode cc pc = .ok (.aaload, 1)) (K : WJ p l e R s m args below meth c G A nL cells slots Q w lv (pc + 1) (.ref y :: st)) : WJ p l e R s m args below meth c G A nL cells slots Q w lv pc (.int i :: .ref a :: st) := fun H locs ls hP hD hS hl => va_aldq C.1 C.2.1 C.2.2.2.2.2.1 hP q0 5 he rfl hin d (by rw [hv]; exact K H locs ls hP hD hS hl)
theorem j_aastD (C : Cx p s m args c cc nL own G A) {n a y ci N : Nat} {T : u_T} {vs : List Value} {f : Nat → Option Nat} {i : Int32} (q0 qk : Nat) (he : w[q0]? = some (a, .inl (G.2.1 5, n, .inr (.inr (.inr (.inr f)))))) (hv : w[qk]? = some (y, .inr (ci, vs))) (hc : vwCl[ci]? = some ("SilentDrives$Drive", T, N)) (hin : vp_in i n) (w2 : va_W) (hw : w.set q0 (a, .inl (G.2.1 5, n, .inr (.inr (.inr (.inr (va_up f i.toNatClampNeg (some y))))))) = w2) (d : decode cc pc = .ok (.aastore, 1)) (K : WJ p l e R s m args below meth c G A nL cells slots Q w2 lv (pc + 1) st) : WJ p l e R s m args below meth c G A nL cells slots Q w lv pc (.ref y :: .int i :: .ref a :: st) := fun H locs ls hP hD hS hl => va_astq C.1 C.2.1 C.2.2.2.2.2.1 hP hD hS q0 5 qk ci he rfl hv hc hin d (fun H1 locs1 h1 h2 h3 => K H1 locs1 ls (hw ▸ h1) (hw ▸ h2) h3 hl)
theorem j_aaldS (C : Cx p s m args c cc nL own G A) {n a y : Nat} {f : Nat → Option Nat} {i : Int32} (q0 : Nat) (he : w[q0]? = some (a, .inl (G.2.1 6, n, .inr (.inr (.inr (.inr f)))))) (hin : vp_in i n) (hv : f i.toNatClampNeg = some y) (d : decode cc pc = .ok (.aaload, 1)) (K : WJ p l e R s m args below meth c G A nL cells slots Q w lv (pc + 1) (.ref y :: st)) : WJ p l e R s m args below meth c G A nL cells slots Q w lv pc (.int i :: .ref a :: st) := fun H locs ls hP hD hS hl => va_aldq C.1 C.2.1 C.2.2.2.2.2.1 hP q0 6 he rfl hin d (by rw [hv]; exact K H locs ls hP hD hS hl)
theorem j_aastS (C : Cx p s m args c cc nL own G A) {n a y ci N : Nat} {T : u_T} {vs : List Value} {f : Nat → Option Nat} {i : Int32} (q0 qk : Nat) (he : w[q0]? = some (a, .inl (G.2.1 6, n, .inr (.inr (.inr (.inr f)))))) (hv : w[qk]? = some (y, .inr (ci, vs))) (hc : vwCl[ci]? = some ("SilentDrives$Station", T, N)) (hin : vp_in i n) (w2 : va_W) (hw : w.set q0 (a, .inl (G.2.1 6, n, .inr (.inr (.inr (.inr (va_up f i.toNatClampNeg (some y))))))) = w2) (d : decode cc pc = .ok (.aastore, 1)) (K : WJ p l e R s m args below meth c G A nL cells slots Q w2 lv (pc + 1) st) : WJ p l e R s m args below meth c G A nL cells slots Q w lv pc (.ref y :: .int i :: .ref a :: st) := fun H locs ls hP hD hS hl => va_astq C.1 C.2.1 C.2.2.2.2.2.1 hP hD hS q0 6 qk ci he rfl hv hc hin d (fun H1 locs1 h1 h2 h3 => K H1 locs1 ls (hw ▸ h1) (hw ▸ h2) h3 hl)
end LAYER
end
section
theorem aw_mmin_static : Cond.static Lib.Math.min.name ∈ AW := by decide +kernel
theorem aw_mmax_static : Cond.static Lib.Math.max.name ∈ AW := by decide +kernel
theorem aw_math_ini : Cond.initialized "java/lang/Math" ∈ AW := by decide +kernel
theorem aw_mmin_code : Cond.code Lib.Math.min.name Lib.Math.min.code 2 (some .int) ∈ AW := by decide +kernel
theorem aw_mmax_code : Cond.code Lib.Math.max.name Lib.Math.max.code 2 (some .int) ∈ AW := by decide +kernel
/-! CONTRACTS over the layer: CtI, CtL, CtV, CtF (answers an int, a long, nothing): from the cells w to the cells w', the answer is r -/
def PreG (G : GG) (av : List Value) (w : va_W) (sz : Nat) : Array Value → State → Prop := va_Pc av (fun U => U.heap.size = sz ∧ va_P G.1 vwCl w U.heap ∧ va_K G.1 vwCl (TY G) U ∧ va_D (fun _ => True) w ∧ NW U ∧ GS G (va_A w sz) U U.heap)
theorem PreG.blind {G : GG} {av : List Value} {w : va_W} {sz : Nat} : FrameBlind (PreG G av w sz) := fun a U g mk q => by
  obtain ⟨h0, h1, h2, h3, h4, h5, h6⟩ := q
  exact ⟨h0, h1, h2, va_K.moved (u := U) (U := U.calling g mk a) (Vm.Alike.refl U.vm) h3, h4, NW.same (u := U) rfl h5, GS.moved (u := U) (Vm.Alike.refl U.vm) h6⟩
abbrev EndQ (G : GG) (A : Nat → Prop) (w' : va_W) : Unit → State → Prop := fun _ t => va_P G.1 vwCl w' t.heap ∧ va_D A w'
abbrev PostI (G : GG) (A : Nat → Prop) (r : Int32) (w' : va_W) : Array Value → State → Outcome → State → Prop := va_Qi (fun (x : Int32) (_ : Unit) => x = r) (EndQ G A w') A
abbrev PostL (G : GG) (A : Nat → Prop) (r : Int64) (w' : va_W) : Array Value → State → Outcome → State → Prop := va_Ql (fun (x : Int64) (_ : Unit) => x = r) (EndQ G A w') A
abbrev PostV (G : GG) (A : Nat → Prop) (w' : va_W) : Array Value → State → Outcome → State → Prop := va_Qv (fun (_ : Unit) => True) (EndQ G A w') A
def CtI (l : Launch) (y : MethodName) (b : ByteArray) (n : Nat) (ret : Option FieldType) (rm : Room) (G : GG) (av : List Value) (w : va_W) (r : Int32) (w' : va_W) : Prop := ∀ sz : Nat, Met l y (.code y b n ret :: AW) rm (PreG G av w sz) (PostI G (va_A w sz) r w') rm.cells rm.slots (va_A w sz)
def CtL (l : Launch) (y : MethodName) (b : ByteArray) (n : Nat) (ret : Option FieldType) (rm : Room) (G : GG) (av : List Value) (w : va_W) (r : Int64) (w' : va_W) : Prop := ∀ sz : Nat, Met l y (.code y b n ret :: AW) rm (PreG G av w sz) (PostL G (va_A w sz) r w') rm.cells rm.slots (va_A w sz)
def CtV (l : Launch) (y : MethodName) (b : ByteArray) (n : Nat) (ret : Option FieldType) (rm : Room) (G : GG) (av : List Value) (w : va_W) (w' : va_W) : Prop := ∀ sz : Nat, Met l y (.code y b n ret :: AW) rm (PreG G av w sz) (PostV G (va_A w sz) w') rm.cells rm.slots (va_A w sz)
/-- the room of a method that makes nothing, at depth d -/
abbrev RM (d : Nat) : Room := { frames := d, cells := 0, slots := 0, locals := 40 * d }
abbrev RC (d k n : Nat) : Room := { frames := d, cells := k, slots := n, locals := 40 * d }
theorem fm_of_map {α β : Type} {f : α → Option β} : ∀ {is : List α} {w : List β}, is.map f = w.map some → is.filterMap f = w
  | [], [], _ => rfl
  | [], _ :: _, h => by simp at h
  | _ :: _, [], h => by simp at h
  | i :: is, x :: w, h => by
    simp only [List.map_cons, List.cons.injEq] at h
    rw [List.filterMap_cons, h.1]
    exact congrArg (x :: ·) (fm_of_map h.2)

theorem range_map {α : Type} (w : List α) : (List.range w.length).map (fun i => w[i]?) = w.map some := by
  apply List.ext_getElem?
  intro k
  rw [List.getElem?_map, List.getElem?_map]
  by_cases h : k < w.length
  · rw [List.getElem?_range h, List.getElem?_eq_getElem h]
    simp [List.getElem?_eq_getElem h]
  · rw [List.getElem?_eq_none (by simpa using h), List.getElem?_eq_none (by simpa using h)]
    rfl
def pchk (is : List Nat) (n : Nat) : Bool := va_nd is && is.all (fun i => decide (i < n)) && (List.range n).all (fun i => is.contains i)
theorem va_nd_nodup : ∀ {l : List Nat}, va_nd l = true → l.Nodup
  | [], _ => List.nodup_nil
  | a :: l, h => by
    simp only [va_nd, Bool.and_eq_true, decide_eq_true_eq] at h
    exact List.nodup_cons.mpr ⟨h.1, va_nd_nodup h.2⟩
theorem perm_idx {α : Type} {w w' : List α} (is : List Nat) (n : Nat) (hn : w.length = n) (his : pchk is n = true) (h : is.map (fun i => w[i]?) = w'.map some) : w.Perm w' := by
  simp only [pchk, Bool.and_eq_true, List.all_eq_true, decide_eq_true_eq, List.contains_iff_mem] at his
  have hp : is.Perm (List.range n) := (List.perm_ext_iff_of_nodup (va_nd_nodup his.1.1) List.nodup_range).mpr fun a => ⟨fun ha => List.mem_range.mpr (his.1.2 a ha), fun ha => his.2 a ha⟩
  have h2 := hp.filterMap (fun i => w[i]?)
  rw [fm_of_map h, ← hn, fm_of_map (range_map w)] at h2
  exact h2.symm
abbrev fl (bs : List va_W) : va_W := bs.flatten
theorem bperm {bs bs' : List va_W} (is : List Nat) (n : Nat) (hn : bs.length = n) (his : pchk is n = true) (h : is.map (fun i => bs[i]?) = bs'.map some) : (fl bs).Perm (fl bs') := (perm_idx is n hn his h).flatten
theorem fl_one (B : va_W) : fl [B] = B := List.append_nil B
theorem fl_app (a b : List va_W) : fl a ++ fl b = fl (a ++ b) := (List.flatten_append).symm
theorem bperm2 {bs bC bR : List va_W} (is : List Nat) (n : Nat) (hn : bs.length = n) (his : pchk is n = true) (h : is.map (fun i => bs[i]?) = (bC ++ bR).map some) : (fl bs).Perm (fl bC ++ fl bR) := by
  rw [fl_app]
  exact bperm is n hn his h
theorem va_P_iff {D : va_G} {cl : List vw_C} {ws : va_W} {H : Heap} : va_P D cl ws H ↔ ∀ q ∈ ws, va_at D cl q H :=
  ⟨fun h q hq => by
    obtain ⟨k, hk⟩ := List.getElem?_of_mem hq
    exact h k q hk, fun h k q hk => h q (List.mem_of_getElem? hk)⟩
theorem va_D_iff {A : Nat → Prop} {ws : va_W} : va_D A ws ↔ (ws.map Prod.fst).Nodup ∧ ∀ q ∈ ws, A q.1 := by
  constructor
  · intro h
    refine ⟨List.pairwise_iff_getElem.mpr ?_, fun q hq => ?_⟩
    · intro i j hi hj hij e
      rw [List.length_map] at hi hj
      rw [List.getElem_map, List.getElem_map] at e
      have := h.1 i j ws[i] ws[j] (List.getElem?_eq_getElem hi) (List.getElem?_eq_getElem hj) e
      omega
    · obtain ⟨k, hk⟩ := List.getElem?_of_mem hq
      exact h.2 k q hk
  · intro h
    have h1 := List.pairwise_iff_getElem.mp h.1
    refine ⟨fun i j p q hi hj e => ?_, fun k q hk => h.2 q (List.mem_of_getElem? hk)⟩
    obtain ⟨hi1, hi2⟩ := List.getElem?_eq_some_iff.mp hi
    obtain ⟨hj1, hj2⟩ := List.getElem?_eq_some_iff.mp hj
    rcases Nat.lt_trichotomy i j with g | g | g
    · exact absurd (by rw [List.getElem_map, List.getElem_map, hi2, hj2]; exact e) (h1 i j (by rw [List.length_map]; exact hi1) (by rw [List.length_map]; exact hj1) g)
    · exact g
    · exact absurd (by rw [List.getElem_map, List.getElem_map, hi2, hj2]; exact e.symm) (h1 j i (by rw [List.length_map]; exact hj1) (by rw [List.length_map]; exact hi1) g)
theorem va_P.perm {D : va_G} {cl : List vw_C} {w w' : va_W} {H : Heap} (h : va_P D cl w H) (p : w.Perm w') : va_P D cl w' H := va_P_iff.mpr fun q hq => va_P_iff.mp h q (p.mem_iff.mpr hq)
theorem va_D.perm {A : Nat → Prop} {w w' : va_W} (h : va_D A w) (p : w.Perm w') : va_D A w' := by
  obtain ⟨h1, h2⟩ := va_D_iff.mp h
  exact va_D_iff.mpr ⟨(p.map Prod.fst).nodup_iff.mp h1, fun q hq => h2 q (p.mem_iff.mpr hq)⟩
theorem va_P.left {D : va_G} {cl : List vw_C} {a b : va_W} {H : Heap} (h : va_P D cl (a ++ b) H) : va_P D cl a H := va_P_iff.mpr fun q hq => va_P_iff.mp h q (List.mem_append_left _ hq)
theorem va_D.left {A : Nat → Prop} {a b : va_W} (h : va_D A (a ++ b)) : va_D A a := by
  obtain ⟨h1, h2⟩ := va_D_iff.mp h
  rw [List.map_append] at h1
  exact va_D_iff.mpr ⟨(List.nodup_append.mp h1).1, fun q hq => h2 q (List.mem_append_left _ hq)⟩
theorem free_left {A0 : Nat → Prop} {wc wr : va_W} {H0 H : Heap} {locs : List Loc} (hD : va_D A0 (wc ++ wr)) (hS : va_S A0 H0 H locs) (hA : ∀ q, H0.size ≤ q → A0 q) : ∀ q, va_A wc H.size q → A0 q := by
  intro q h
  rcases h with ⟨k, e, h⟩ | h
  · exact (va_D_iff.mp hD).2 (q, e) (List.mem_append_left _ (List.mem_of_getElem? h))
  · exact hA q (Nat.le_trans hS.1 h)
theorem join_left {A0 : Nat → Prop} {D : va_G} {cl : List vw_C} {wc wr w1 : va_W} {H H1 : Heap} (hP : va_P D cl (wc ++ wr) H) (hD : va_D A0 (wc ++ wr)) (hk : ∀ q : Nat, q < H.size → ¬ va_A wc H.size q → H1[q]? = H[q]?) (hF : ∀ q, va_A wc H.size q → A0 q) (hP1 : va_P D cl w1 H1) (hD1 : va_D (va_A wc H.size) w1) : va_P D cl (w1 ++ wr) H1 ∧ va_D A0 (w1 ++ wr) := by
  have hp := va_P_iff.mp hP
  obtain ⟨d1, d2⟩ := va_D_iff.mp hD
  obtain ⟨e1, e2⟩ := va_D_iff.mp hD1
  rw [List.map_append] at d1
  have apart : ∀ q ∈ wr, q.1 < H.size ∧ ¬ va_A wc H.size q.1 := by
    intro q hq
    have hl := (hp q (List.mem_append_right _ hq)).lt
    refine ⟨hl, fun h => ?_⟩
    rcases h with ⟨k, e, h⟩ | h
    · exact (List.nodup_append.mp d1).2.2 q.1 (List.mem_map.mpr ⟨(q.1, e), List.mem_of_getElem? h, rfl⟩) q.1 (List.mem_map.mpr ⟨q, hq, rfl⟩) rfl
    · exact Nat.lt_irrefl _ (Nat.lt_of_lt_of_le hl h)
  refine ⟨va_P_iff.mpr fun q hq => ?_, va_D_iff.mpr ⟨?_, fun q hq => ?_⟩⟩
  · rcases List.mem_append.mp hq with h | h
    · exact va_P_iff.mp hP1 q h
    · exact (hp q (List.mem_append_right _ h)).kept (hk q.1 (apart q h).1 (apart q h).2)
  · rw [List.map_append]
    refine List.nodup_append.mpr ⟨e1, (List.nodup_append.mp d1).2.1, fun a ha b hb e => ?_⟩
    obtain ⟨p, hp1, hp2⟩ := List.mem_map.mp ha
    obtain ⟨q, hq1, hq2⟩ := List.mem_map.mp hb
    exact (apart q hq1).2 (by rw [hq2, ← e, ← hp2]; exact e2 p hp1)
  · rcases List.mem_append.mp hq with h | h
    · exact hF q.1 (e2 q h)
    · exact d2 q (List.mem_append_right _ h)
theorem aw_g {ws : List Cond} (h : ∀ w ∈ ws, w ∈ AW) : GoodIn AW ws := fun w hw => ⟨h w hw, good_of_word (List.all_eq_true.mp AW_good w (h w hw))⟩
theorem aw_1 {y : MethodName} {b : ByteArray} {n : Nat} {ret : Option FieldType} (h : Cond.code y b n ret ∈ AW) : ∀ w ∈ (.code y b n ret :: AW), w ∈ AW := fun w hw => (List.mem_cons.mp hw).elim (fun e => e ▸ h) id
theorem gV {own Cn : String} {idx : Nat} {y : MethodName} {b : ByteArray} {n : Nat} {ret : Option FieldType} (h1 : Cond.methodLink own idx y ∈ AW) (h2 : Cond.instanceMethod y ∈ AW) (h3 : Cond.selects Cn y y ∈ AW) (h4 : Cond.initialized Cn ∈ AW) (h5 : Cond.code y b n ret ∈ AW) : GoodIn AW (wsV own idx Cn y (.code y b n ret :: AW)) := aw_g fun w hw => by
  simp only [wsV, List.cons_append, List.nil_append] at hw
  rcases List.mem_cons.mp hw with rfl | hw
  · exact h1
  rcases List.mem_cons.mp hw with rfl | hw
  · exact h2
  rcases List.mem_cons.mp hw with rfl | hw
  · exact h3
  rcases List.mem_cons.mp hw with rfl | hw
  · exact h4
  exact aw_1 h5 w hw
theorem gS {own : String} {idx : Nat} {y : MethodName} {b : ByteArray} {n : Nat} {ret : Option FieldType} (h1 : Cond.methodLink own idx y ∈ AW) (h2 : Cond.static y ∈ AW) (h4 : Cond.initialized y.cls ∈ AW) (h5 : Cond.code y b n ret ∈ AW) : GoodIn AW (va_wsS own idx y (.code y b n ret :: AW)) := aw_g fun w hw => by
  simp only [va_wsS, List.cons_append, List.nil_append] at hw
  rcases List.mem_cons.mp hw with rfl | hw
  · exact h1
  rcases List.mem_cons.mp hw with rfl | hw
  · exact h2
  rcases List.mem_cons.mp hw with rfl | hw
  · exact h4
  exact aw_1 h5 w hw
theorem ct_I {l : Launch} {y : MethodName} {b : ByteArray} {n : Nat} {ret : Option FieldType} {rm : Room} {G : GG} {av : List Value} {w : va_W} {r : Int32} {w' : va_W} (own : String) (lv0 : List (Nat × Value)) (hcls : y.cls = own) (hpl : plainName y.cls = true) (hn : (lg_sl av).length ≤ n) (hlv : lv_args 0 av = lv0)
    (K : ∀ (p : Program) (e : Env) (s : State) (m : MethodId) (args : Array Value) (below : List Frame) (meth : Method) (c : Code) (A : Nat → Prop), Cx p s m args c b n own G A → meth.sig.returnType = ret → meth.locks = false → meth.name = y.name → WJ p l e rm s m args below meth c G A n 0 0 (MQ below (PostI G A r w') args s rm.cells rm.slots A) w lv0 0 []) : CtI l y b n ret rm G av w r w' := by
  intro sz
  refine Met.ofW (cc := b) (maxL := n) (ret := ret) hpl rfl ?_
  intro p e s m args below meth c s₁ B hml hv
  obtain ⟨rfl, hsz, hP, hK, hD0, hN, hG⟩ := hv
  have hts := atoms_spec (ws := .code y b n ret :: AW) B.pre
  have hown : s.vm.findClass own = some m.cls := by rw [← hcls]; exact findClass_of_methodNamed B.named
  subst hsz
  have hD := hD0.self (sz := s.heap.size)
  have hl := lv_entry av (n := n) hn
  rw [lg_entry_eq]
  exact K p e s m _ below meth c (va_A w s.heap.size) ⟨B.exec, B.bytes, hml, hown, fun w h => hts w (List.mem_cons_of_mem _ h), hK, fun q h => Or.inr h, hN, hG⟩ B.returns B.notSynchronized (name_of_methodNamed B.named B.method).1 s.heap [] _ hP hD va_S.rf (hlv ▸ hl)
theorem ct_L {l : Launch} {y : MethodName} {b : ByteArray} {n : Nat} {ret : Option FieldType} {rm : Room} {G : GG} {av : List Value} {w : va_W} {r : Int64} {w' : va_W} (own : String) (lv0 : List (Nat × Value)) (hcls : y.cls = own) (hpl : plainName y.cls = true) (hn : (lg_sl av).length ≤ n) (hlv : lv_args 0 av = lv0)
    (K : ∀ (p : Program) (e : Env) (s : State) (m : MethodId) (args : Array Value) (below : List Frame) (meth : Method) (c : Code) (A : Nat → Prop), Cx p s m args c b n own G A → meth.sig.returnType = ret → meth.locks = false → meth.name = y.name → WJ p l e rm s m args below meth c G A n 0 0 (MQ below (PostL G A r w') args s rm.cells rm.slots A) w lv0 0 []) : CtL l y b n ret rm G av w r w' := by
  intro sz
  refine Met.ofW (cc := b) (maxL := n) (ret := ret) hpl rfl ?_
  intro p e s m args below meth c s₁ B hml hv
  obtain ⟨rfl, hsz, hP, hK, hD0, hN, hG⟩ := hv
  have hts := atoms_spec (ws := .code y b n ret :: AW) B.pre
  have hown : s.vm.findClass own = some m.cls := by rw [← hcls]; exact findClass_of_methodNamed B.named
  subst hsz
  have hD := hD0.self (sz := s.heap.size)
  have hl := lv_entry av (n := n) hn
  rw [lg_entry_eq]
  exact K p e s m _ below meth c (va_A w s.heap.size) ⟨B.exec, B.bytes, hml, hown, fun w h => hts w (List.mem_cons_of_mem _ h), hK, fun q h => Or.inr h, hN, hG⟩ B.returns B.notSynchronized (name_of_methodNamed B.named B.method).1 s.heap [] _ hP hD va_S.rf (hlv ▸ hl)
theorem ct_V {l : Launch} {y : MethodName} {b : ByteArray} {n : Nat} {ret : Option FieldType} {rm : Room} {G : GG} {av : List Value} {w : va_W}  {w' : va_W} (own : String) (lv0 : List (Nat × Value)) (hcls : y.cls = own) (hpl : plainName y.cls = true) (hn : (lg_sl av).length ≤ n) (hlv : lv_args 0 av = lv0)
    (K : ∀ (p : Program) (e : Env) (s : State) (m : MethodId) (args : Array Value) (below : List Frame) (meth : Method) (c : Code) (A : Nat → Prop), Cx p s m args c b n own G A → meth.sig.returnType = ret → meth.locks = false → meth.name = y.name → WJ p l e rm s m args below meth c G A n 0 0 (MQ below (PostV G A w') args s rm.cells rm.slots A) w lv0 0 []) : CtV l y b n ret rm G av w w' := by
  intro sz
  refine Met.ofW (cc := b) (maxL := n) (ret := ret) hpl rfl ?_
  intro p e s m args below meth c s₁ B hml hv
  obtain ⟨rfl, hsz, hP, hK, hD0, hN, hG⟩ := hv
  have hts := atoms_spec (ws := .code y b n ret :: AW) B.pre
  have hown : s.vm.findClass own = some m.cls := by rw [← hcls]; exact findClass_of_methodNamed B.named
  subst hsz
  have hD := hD0.self (sz := s.heap.size)
  have hl := lv_entry av (n := n) hn
  rw [lg_entry_eq]
  exact K p e s m _ below meth c (va_A w s.heap.size) ⟨B.exec, B.bytes, hml, hown, fun w h => hts w (List.mem_cons_of_mem _ h), hK, fun q h => Or.inr h, hN, hG⟩ B.returns B.notSynchronized (name_of_methodNamed B.named B.method).1 s.heap [] _ hP hD va_S.rf (hlv ▸ hl)
section LAYC
variable {p : Program} {l : Launch} {e : Env} {R : Room} {s : State} {m : MethodId} {args : Array Value} {below : List Frame} {meth : Method} {c : Code} {cc : ByteArray} {own : String} {G : GG} {A : Nat → Prop} {nL cells slots : Nat} {Q : State → Prop} {w : va_W} {lv : List (Nat × Value)} {pc : Nat} {st : List Value}
theorem j_iret (C : Cx p s m args c cc nL own G A) (hr : meth.sig.returnType = some .int) (hk : meth.locks = false) {v r : Int32} {w' : va_W} (hv : v = r) (hw : w = w') (d : decode cc pc = .ok (.ireturn, 1)) : WJ p l e R s m args below meth c G A nL cells slots (MQ below (PostI G A r w') args s cells slots A) w lv pc [.int v] := by
  subst hv hw
  intro H locs ls hP hD hS hl
  exact W.iret C.1 C.2.1 hr (fun t ht hW => ⟨⟨v, (), rfl, rfl, by rw [ht]; exact hP, hD⟩, hS.F ht⟩) hS.2.2 d hk
theorem j_zret (C : Cx p s m args c cc nL own G A) {ty : FieldType} (hr : meth.sig.returnType = some ty) (hk : meth.locks = false) {v r : Int32} {w' : va_W} (hn : narrow ty (.int v) = .int v) (hv : v = r) (hw : w = w') (d : decode cc pc = .ok (.ireturn, 1)) : WJ p l e R s m args below meth c G A nL cells slots (MQ below (PostI G A r w') args s cells slots A) w lv pc [.int v] := by
  subst hv hw
  intro H locs ls hP hD hS hl
  exact W.zret C.1 C.2.1 hr hn (fun t ht hW => ⟨⟨v, (), rfl, rfl, by rw [ht]; exact hP, hD⟩, hS.F ht⟩) hS.2.2 d hk
theorem j_lret (C : Cx p s m args c cc nL own G A) (hr : meth.sig.returnType = some .long) (hk : meth.locks = false) {v r : Int64} {w' : va_W} (hv : v = r) (hw : w = w') (d : decode cc pc = .ok (.lreturn, 1)) : WJ p l e R s m args below meth c G A nL cells slots (MQ below (PostL G A r w') args s cells slots A) w lv pc [.long v] := by
  subst hv hw
  intro H locs ls hP hD hS hl
  exact W.lret C.1 C.2.1 hr (fun t ht hW => ⟨⟨v, (), rfl, rfl, by rw [ht]; exact hP, hD⟩, hS.F ht⟩) hS.2.2 d hk
theorem j_vret (C : Cx p s m args c cc nL own G A) (hr : meth.sig.returnType = none) (hk : meth.locks = false) {w' : va_W} (hw : w = w') (d : decode cc pc = .ok (.return_, 1)) : WJ p l e R s m args below meth c G A nL cells slots (MQ below (PostV G A w') args s cells slots A) w lv pc [] := by
  subst hw
  intro H locs ls hP hD hS hl
  exact W.vret C.1 C.2.1 hr (fun t ht hW => ⟨⟨(), rfl, trivial, by rw [ht]; exact hP, hD⟩, hS.F ht⟩) hS.2.2 d hk
theorem j_perm (w2 : va_W) (hp : w.Perm w2) (K : WJ p l e R s m args below meth c G A nL cells slots Q w2 lv pc st) : WJ p l e R s m args below meth c G A nL cells slots Q w lv pc st := fun H locs ls hP hD hS hl => K H locs ls (hP.perm hp) (hD.perm hp) hS hl
theorem j_lv (ks : List Nat) (lv' : List (Nat × Value)) (h : lv_pick lv ks = lv') (K : WJ p l e R s m args below meth c G A nL cells slots Q w lv' pc st) : WJ p l e R s m args below meth c G A nL cells slots Q w lv pc st := fun H locs ls hP hD hS hl => K H locs ls hP hD hS (lv_sub hl ks h)
theorem j_w (w2 : va_W) (h : w = w2) (K : WJ p l e R s m args below meth c G A nL cells slots Q w2 lv pc st) : WJ p l e R s m args below meth c G A nL cells slots Q w lv pc st := h ▸ K
theorem j_widen {k n : Nat} (h1 : cells ≤ k) (h2 : slots ≤ n) (K : WJ p l e R s m args below meth c G A nL k n Q w lv pc st) : WJ p l e R s m args below meth c G A nL cells slots Q w lv pc st := fun H locs ls hP hD hS hl => W.widen h1 h2 (K H locs ls hP hD hS hl)
theorem j_callV_i (C : Cx p s m args c cc nL own G A) {y : MethodName} {idx n' : Nat} {b : ByteArray} {ret : Option FieldType} {rm : Room} {a : Nat} {As st0 : List Value} {wc wc' : va_W} {r : Int32} (M : CtI l y b n' ret rm G (.ref a :: As) wc r wc') {Cn : String} {T : u_T} {N ci : Nat} {fs : List Value} (hc : vwCl[ci]? = some (Cn, T, N)) (q0 : Nat) (he : wc[q0]? = some (a, .inr (ci, fs))) (nA : Nat) (g : GoodIn AW (wsV own idx Cn y (.code y b n' ret :: AW))) (hd : y.cls = Cn ∧ y.cls ≠ "java/lang/invoke/MethodHandle" ∧ y.cls ≠ "java/lang/invoke/VarHandle" ∧ (parseMethodDescriptor y.desc).map (fun d => d.parameters.length) = some nA) (hR : rm.frames + 1 ≤ R.frames ∧ 8 + (n' + 11) + rm.locals ≤ R.locals) (hA' : As.length = nA) (hst : st0 = As.reverse ++ .ref a :: st) (hW : (st.map fun v => v.category).sum ≤ 8) (d : decode cc pc = .ok (.invokevirtual idx, 3)) (hf : cells + rm.cells ≤ R.cells ∧ slots + rm.slots ≤ R.slots) (wr w2 : va_W) (hp : w.Perm (wc ++ wr)) (hw2 : wc' ++ wr = w2) (K : WJ p l e R s m args below meth c G A nL (cells + rm.cells) (slots + rm.slots) Q w2 lv (pc + 3) (.int r :: st)) : WJ p l e R s m args below meth c G A nL cells slots Q w lv pc st0 := by
  subst hst
  intro H locs ls hP hD hS hl
  have hP := hP.perm hp
  have hD := hD.perm hp
  have hPc := hP.left
  have hDc := hD.left
  have hFc := free_left hD hS C.2.2.2.2.2.2.1
  refine va_calli (va_runV (As := As) (rest := st) ⟨C.1, C.2.1, C.2.2.1, C.2.2.2.1, C.2.2.2.2.1⟩ (M H.size) (cwV nA C.2.2.2.2.1 g rfl rfl rfl hd hR) ⟨PreG.blind, va_recv C.2.2.2.2.2.1 hPc hc he, fun U hU hW' => ⟨rfl, by rw [hU], by rw [hU]; exact hPc, va_K.moved hW'.alike C.2.2.2.2.2.1, hDc.weaken (fun _ _ _ _ => trivial), NW.warm hW' C.2.2.2.2.2.2.2.1, by rw [hU]; exact ((GS.kept C.2.2.2.2.2.2.2.2 (fun a h1 h2 => hS.2.1 a h1 h2)).narrow hFc).moved hW'.alike⟩⟩ rfl hA' hl.1 rfl (lv_room hW) d hf) hS (fun q _ h => hFc q h) hFc (fun r' u t H1 locs1 ht hvm hw hB hz1 hk1 hS1 => ?_)
  subst hw
  obtain ⟨hP1, hD1⟩ := hB
  rw [ht] at hP1
  obtain ⟨hP2, hD2⟩ := join_left hP hD hk1 hFc hP1 hD1
  exact K H1 locs1 ls (hw2 ▸ hP2) (hw2 ▸ hD2) hS1 hl
theorem j_callV_l (C : Cx p s m args c cc nL own G A) {y : MethodName} {idx n' : Nat} {b : ByteArray} {ret : Option FieldType} {rm : Room} {a : Nat} {As st0 : List Value} {wc wc' : va_W} {r : Int64} (M : CtL l y b n' ret rm G (.ref a :: As) wc r wc') {Cn : String} {T : u_T} {N ci : Nat} {fs : List Value} (hc : vwCl[ci]? = some (Cn, T, N)) (q0 : Nat) (he : wc[q0]? = some (a, .inr (ci, fs))) (nA : Nat) (g : GoodIn AW (wsV own idx Cn y (.code y b n' ret :: AW))) (hd : y.cls = Cn ∧ y.cls ≠ "java/lang/invoke/MethodHandle" ∧ y.cls ≠ "java/lang/invoke/VarHandle" ∧ (parseMethodDescriptor y.desc).map (fun d => d.parameters.length) = some nA) (hR : rm.frames + 1 ≤ R.frames ∧ 8 + (n' + 11) + rm.locals ≤ R.locals) (hA' : As.length = nA) (hst : st0 = As.reverse ++ .ref a :: st) (hW : (st.map fun v => v.category).sum ≤ 8) (d : decode cc pc = .ok (.invokevirtual idx, 3)) (hf : cells + rm.cells ≤ R.cells ∧ slots + rm.slots ≤ R.slots) (wr w2 : va_W) (hp : w.Perm (wc ++ wr)) (hw2 : wc' ++ wr = w2) (K : WJ p l e R s m args below meth c G A nL (cells + rm.cells) (slots + rm.slots) Q w2 lv (pc + 3) (.long r :: st)) : WJ p l e R s m args below meth c G A nL cells slots Q w lv pc st0 := by
  subst hst
  intro H locs ls hP hD hS hl
  have hP := hP.perm hp
  have hD := hD.perm hp
  have hPc := hP.left
  have hDc := hD.left
  have hFc := free_left hD hS C.2.2.2.2.2.2.1
  refine va_calll (va_runV (As := As) (rest := st) ⟨C.1, C.2.1, C.2.2.1, C.2.2.2.1, C.2.2.2.2.1⟩ (M H.size) (cwV nA C.2.2.2.2.1 g rfl rfl rfl hd hR) ⟨PreG.blind, va_recv C.2.2.2.2.2.1 hPc hc he, fun U hU hW' => ⟨rfl, by rw [hU], by rw [hU]; exact hPc, va_K.moved hW'.alike C.2.2.2.2.2.1, hDc.weaken (fun _ _ _ _ => trivial), NW.warm hW' C.2.2.2.2.2.2.2.1, by rw [hU]; exact ((GS.kept C.2.2.2.2.2.2.2.2 (fun a h1 h2 => hS.2.1 a h1 h2)).narrow hFc).moved hW'.alike⟩⟩ rfl hA' hl.1 rfl (lv_room hW) d hf) hS (fun q _ h => hFc q h) hFc (fun r' u t H1 locs1 ht hvm hw hB hz1 hk1 hS1 => ?_)
  subst hw
  obtain ⟨hP1, hD1⟩ := hB
  rw [ht] at hP1
  obtain ⟨hP2, hD2⟩ := join_left hP hD hk1 hFc hP1 hD1
  exact K H1 locs1 ls (hw2 ▸ hP2) (hw2 ▸ hD2) hS1 hl
theorem j_callV_v (C : Cx p s m args c cc nL own G A) {y : MethodName} {idx n' : Nat} {b : ByteArray} {ret : Option FieldType} {rm : Room} {a : Nat} {As st0 : List Value} {wc wc' : va_W} (M : CtV l y b n' ret rm G (.ref a :: As) wc wc') {Cn : String} {T : u_T} {N ci : Nat} {fs : List Value} (hc : vwCl[ci]? = some (Cn, T, N)) (q0 : Nat) (he : wc[q0]? = some (a, .inr (ci, fs))) (nA : Nat) (g : GoodIn AW (wsV own idx Cn y (.code y b n' ret :: AW))) (hd : y.cls = Cn ∧ y.cls ≠ "java/lang/invoke/MethodHandle" ∧ y.cls ≠ "java/lang/invoke/VarHandle" ∧ (parseMethodDescriptor y.desc).map (fun d => d.parameters.length) = some nA) (hR : rm.frames + 1 ≤ R.frames ∧ 8 + (n' + 11) + rm.locals ≤ R.locals) (hA' : As.length = nA) (hst : st0 = As.reverse ++ .ref a :: st) (hW : (st.map fun v => v.category).sum ≤ 8) (d : decode cc pc = .ok (.invokevirtual idx, 3)) (hf : cells + rm.cells ≤ R.cells ∧ slots + rm.slots ≤ R.slots) (wr w2 : va_W) (hp : w.Perm (wc ++ wr)) (hw2 : wc' ++ wr = w2) (K : WJ p l e R s m args below meth c G A nL (cells + rm.cells) (slots + rm.slots) Q w2 lv (pc + 3) st) : WJ p l e R s m args below meth c G A nL cells slots Q w lv pc st0 := by
  subst hst
  intro H locs ls hP hD hS hl
  have hP := hP.perm hp
  have hD := hD.perm hp
  have hPc := hP.left
  have hDc := hD.left
  have hFc := free_left hD hS C.2.2.2.2.2.2.1
  refine va_callv (va_runV (As := As) (rest := st) ⟨C.1, C.2.1, C.2.2.1, C.2.2.2.1, C.2.2.2.2.1⟩ (M H.size) (cwV nA C.2.2.2.2.1 g rfl rfl rfl hd hR) ⟨PreG.blind, va_recv C.2.2.2.2.2.1 hPc hc he, fun U hU hW' => ⟨rfl, by rw [hU], by rw [hU]; exact hPc, va_K.moved hW'.alike C.2.2.2.2.2.1, hDc.weaken (fun _ _ _ _ => trivial), NW.warm hW' C.2.2.2.2.2.2.2.1, by rw [hU]; exact ((GS.kept C.2.2.2.2.2.2.2.2 (fun a h1 h2 => hS.2.1 a h1 h2)).narrow hFc).moved hW'.alike⟩⟩ rfl hA' hl.1 rfl (lv_room hW) d hf) hS (fun q _ h => hFc q h) hFc (fun u t H1 locs1 ht hvm hw hB hz1 hk1 hS1 => ?_)
  obtain ⟨hP1, hD1⟩ := hB
  rw [ht] at hP1
  obtain ⟨hP2, hD2⟩ := join_left hP hD hk1 hFc hP1 hD1
  exact K H1 locs1 ls (hw2 ▸ hP2) (hw2 ▸ hD2) hS1 hl
theorem j_callS_i (C : Cx p s m args c cc nL own G A) {y : MethodName} {idx n' : Nat} {b : ByteArray} {ret : Option FieldType} {rm : Room} {As st0 : List Value} {wc wc' : va_W} {r : Int32} (M : CtI l y b n' ret rm G As wc r wc') (nA : Nat) (g : GoodIn AW (va_wsS own idx y (.code y b n' ret :: AW))) (hd : y.cls ≠ "java/lang/invoke/MethodHandle" ∧ y.cls ≠ "java/lang/invoke/VarHandle" ∧ (parseMethodDescriptor y.desc).map (fun d => d.parameters.length) = some nA) (hR : rm.frames + 1 ≤ R.frames ∧ 8 + (n' + 11) + rm.locals ≤ R.locals) (hA' : As.length = nA) (hst : st0 = As.reverse ++ st) (hW : (st.map fun v => v.category).sum ≤ 8) (d : decode cc pc = .ok (.invokestatic idx, 3)) (hf : cells + rm.cells ≤ R.cells ∧ slots + rm.slots ≤ R.slots) (wr w2 : va_W) (hp : w.Perm (wc ++ wr)) (hw2 : wc' ++ wr = w2) (K : WJ p l e R s m args below meth c G A nL (cells + rm.cells) (slots + rm.slots) Q w2 lv (pc + 3) (.int r :: st)) : WJ p l e R s m args below meth c G A nL cells slots Q w lv pc st0 := by
  subst hst
  intro H locs ls hP hD hS hl
  have hP := hP.perm hp
  have hD := hD.perm hp
  have hPc := hP.left
  have hDc := hD.left
  have hFc := free_left hD hS C.2.2.2.2.2.2.1
  refine va_calli (va_runS (As := As) (rest := st) ⟨C.1, C.2.1, C.2.2.1, C.2.2.2.1, C.2.2.2.2.1⟩ (M H.size) (va_cwS nA C.2.2.2.2.1 g rfl rfl rfl hd hR) ⟨PreG.blind, fun U hU hW' => ⟨rfl, by rw [hU], by rw [hU]; exact hPc, va_K.moved hW'.alike C.2.2.2.2.2.1, hDc.weaken (fun _ _ _ _ => trivial), NW.warm hW' C.2.2.2.2.2.2.2.1, by rw [hU]; exact ((GS.kept C.2.2.2.2.2.2.2.2 (fun a h1 h2 => hS.2.1 a h1 h2)).narrow hFc).moved hW'.alike⟩⟩ rfl hA' hl.1 rfl (lv_room hW) d hf) hS (fun q _ h => hFc q h) hFc (fun r' u t H1 locs1 ht hvm hw hB hz1 hk1 hS1 => ?_)
  subst hw
  obtain ⟨hP1, hD1⟩ := hB
  rw [ht] at hP1
  obtain ⟨hP2, hD2⟩ := join_left hP hD hk1 hFc hP1 hD1
  exact K H1 locs1 ls (hw2 ▸ hP2) (hw2 ▸ hD2) hS1 hl
theorem j_pureS_i (C : Cx p s m args c cc nL own G A) {y : MethodName} {idx n' : Nat} {b : ByteArray} {ret : Option FieldType} {rm : Room} {As st0 : List Value} {r : Int32} (M : CtI l y b n' ret rm G As [] r []) (nA : Nat) (g : GoodIn AW (va_wsS own idx y (.code y b n' ret :: AW))) (hd : y.cls ≠ "java/lang/invoke/MethodHandle" ∧ y.cls ≠ "java/lang/invoke/VarHandle" ∧ (parseMethodDescriptor y.desc).map (fun d => d.parameters.length) = some nA) (hR : rm.frames + 1 ≤ R.frames ∧ 8 + (n' + 11) + rm.locals ≤ R.locals) (hA' : As.length = nA) (hst : st0 = As.reverse ++ st) (hW : (st.map fun v => v.category).sum ≤ 8) (d : decode cc pc = .ok (.invokestatic idx, 3)) (hf : cells + rm.cells ≤ R.cells ∧ slots + rm.slots ≤ R.slots) (K : WJ p l e R s m args below meth c G A nL (cells + rm.cells) (slots + rm.slots) Q w lv (pc + 3) (.int r :: st)) : WJ p l e R s m args below meth c G A nL cells slots Q w lv pc st0 := by
  subst hst
  intro H locs ls hP hD hS hl
  have hPc := hP.sub (ws' := []) [] rfl
  have hDc := hD.sub (ws' := []) [] rfl rfl
  have hFc := va_free (wc := []) hD hS C.2.2.2.2.2.2.1 [] rfl
  refine va_calli (va_runS (As := As) (rest := st) ⟨C.1, C.2.1, C.2.2.1, C.2.2.2.1, C.2.2.2.2.1⟩ (M H.size) (va_cwS nA C.2.2.2.2.1 g rfl rfl rfl hd hR) ⟨PreG.blind, fun U hU hW' => ⟨rfl, by rw [hU], by rw [hU]; exact hPc, va_K.moved hW'.alike C.2.2.2.2.2.1, hDc.weaken (fun _ _ _ _ => trivial), NW.warm hW' C.2.2.2.2.2.2.2.1, by rw [hU]; exact ((GS.kept C.2.2.2.2.2.2.2.2 (fun a h1 h2 => hS.2.1 a h1 h2)).narrow hFc).moved hW'.alike⟩⟩ rfl hA' hl.1 rfl (lv_room hW) d hf) hS (fun q _ h => hFc q h) hFc (fun r' u t H1 locs1 ht hvm hw hB hz1 hk1 hS1 => ?_)
  subst hw
  exact K H1 locs1 ls (hP.kept (fun k q hk => hk1 q.1 (hP k q hk).lt (fun h => h.elim (fun ⟨_, _, h2⟩ => by simp at h2) (fun h2 => Nat.lt_irrefl _ (Nat.lt_of_lt_of_le (hP k q hk).lt h2))))) hD hS1 hl
theorem j_callS_l (C : Cx p s m args c cc nL own G A) {y : MethodName} {idx n' : Nat} {b : ByteArray} {ret : Option FieldType} {rm : Room} {As st0 : List Value} {wc wc' : va_W} {r : Int64} (M : CtL l y b n' ret rm G As wc r wc') (nA : Nat) (g : GoodIn AW (va_wsS own idx y (.code y b n' ret :: AW))) (hd : y.cls ≠ "java/lang/invoke/MethodHandle" ∧ y.cls ≠ "java/lang/invoke/VarHandle" ∧ (parseMethodDescriptor y.desc).map (fun d => d.parameters.length) = some nA) (hR : rm.frames + 1 ≤ R.frames ∧ 8 + (n' + 11) + rm.locals ≤ R.locals) (hA' : As.length = nA) (hst : st0 = As.reverse ++ st) (hW : (st.map fun v => v.category).sum ≤ 8) (d : decode cc pc = .ok (.invokestatic idx, 3)) (hf : cells + rm.cells ≤ R.cells ∧ slots + rm.slots ≤ R.slots) (wr w2 : va_W) (hp : w.Perm (wc ++ wr)) (hw2 : wc' ++ wr = w2) (K : WJ p l e R s m args below meth c G A nL (cells + rm.cells) (slots + rm.slots) Q w2 lv (pc + 3) (.long r :: st)) : WJ p l e R s m args below meth c G A nL cells slots Q w lv pc st0 := by
  subst hst
  intro H locs ls hP hD hS hl
  have hP := hP.perm hp
  have hD := hD.perm hp
  have hPc := hP.left
  have hDc := hD.left
  have hFc := free_left hD hS C.2.2.2.2.2.2.1
  refine va_calll (va_runS (As := As) (rest := st) ⟨C.1, C.2.1, C.2.2.1, C.2.2.2.1, C.2.2.2.2.1⟩ (M H.size) (va_cwS nA C.2.2.2.2.1 g rfl rfl rfl hd hR) ⟨PreG.blind, fun U hU hW' => ⟨rfl, by rw [hU], by rw [hU]; exact hPc, va_K.moved hW'.alike C.2.2.2.2.2.1, hDc.weaken (fun _ _ _ _ => trivial), NW.warm hW' C.2.2.2.2.2.2.2.1, by rw [hU]; exact ((GS.kept C.2.2.2.2.2.2.2.2 (fun a h1 h2 => hS.2.1 a h1 h2)).narrow hFc).moved hW'.alike⟩⟩ rfl hA' hl.1 rfl (lv_room hW) d hf) hS (fun q _ h => hFc q h) hFc (fun r' u t H1 locs1 ht hvm hw hB hz1 hk1 hS1 => ?_)
  subst hw
  obtain ⟨hP1, hD1⟩ := hB
  rw [ht] at hP1
  obtain ⟨hP2, hD2⟩ := join_left hP hD hk1 hFc hP1 hD1
  exact K H1 locs1 ls (hw2 ▸ hP2) (hw2 ▸ hD2) hS1 hl
theorem j_pureS_l (C : Cx p s m args c cc nL own G A) {y : MethodName} {idx n' : Nat} {b : ByteArray} {ret : Option FieldType} {rm : Room} {As st0 : List Value} {r : Int64} (M : CtL l y b n' ret rm G As [] r []) (nA : Nat) (g : GoodIn AW (va_wsS own idx y (.code y b n' ret :: AW))) (hd : y.cls ≠ "java/lang/invoke/MethodHandle" ∧ y.cls ≠ "java/lang/invoke/VarHandle" ∧ (parseMethodDescriptor y.desc).map (fun d => d.parameters.length) = some nA) (hR : rm.frames + 1 ≤ R.frames ∧ 8 + (n' + 11) + rm.locals ≤ R.locals) (hA' : As.length = nA) (hst : st0 = As.reverse ++ st) (hW : (st.map fun v => v.category).sum ≤ 8) (d : decode cc pc = .ok (.invokestatic idx, 3)) (hf : cells + rm.cells ≤ R.cells ∧ slots + rm.slots ≤ R.slots) (K : WJ p l e R s m args below meth c G A nL (cells + rm.cells) (slots + rm.slots) Q w lv (pc + 3) (.long r :: st)) : WJ p l e R s m args below meth c G A nL cells slots Q w lv pc st0 := by
  subst hst
  intro H locs ls hP hD hS hl
  have hPc := hP.sub (ws' := []) [] rfl
  have hDc := hD.sub (ws' := []) [] rfl rfl
  have hFc := va_free (wc := []) hD hS C.2.2.2.2.2.2.1 [] rfl
  refine va_calll (va_runS (As := As) (rest := st) ⟨C.1, C.2.1, C.2.2.1, C.2.2.2.1, C.2.2.2.2.1⟩ (M H.size) (va_cwS nA C.2.2.2.2.1 g rfl rfl rfl hd hR) ⟨PreG.blind, fun U hU hW' => ⟨rfl, by rw [hU], by rw [hU]; exact hPc, va_K.moved hW'.alike C.2.2.2.2.2.1, hDc.weaken (fun _ _ _ _ => trivial), NW.warm hW' C.2.2.2.2.2.2.2.1, by rw [hU]; exact ((GS.kept C.2.2.2.2.2.2.2.2 (fun a h1 h2 => hS.2.1 a h1 h2)).narrow hFc).moved hW'.alike⟩⟩ rfl hA' hl.1 rfl (lv_room hW) d hf) hS (fun q _ h => hFc q h) hFc (fun r' u t H1 locs1 ht hvm hw hB hz1 hk1 hS1 => ?_)
  subst hw
  exact K H1 locs1 ls (hP.kept (fun k q hk => hk1 q.1 (hP k q hk).lt (fun h => h.elim (fun ⟨_, _, h2⟩ => by simp at h2) (fun h2 => Nat.lt_irrefl _ (Nat.lt_of_lt_of_le (hP k q hk).lt h2))))) hD hS1 hl
theorem j_callS_v (C : Cx p s m args c cc nL own G A) {y : MethodName} {idx n' : Nat} {b : ByteArray} {ret : Option FieldType} {rm : Room} {As st0 : List Value} {wc wc' : va_W} (M : CtV l y b n' ret rm G As wc wc') (nA : Nat) (g : GoodIn AW (va_wsS own idx y (.code y b n' ret :: AW))) (hd : y.cls ≠ "java/lang/invoke/MethodHandle" ∧ y.cls ≠ "java/lang/invoke/VarHandle" ∧ (parseMethodDescriptor y.desc).map (fun d => d.parameters.length) = some nA) (hR : rm.frames + 1 ≤ R.frames ∧ 8 + (n' + 11) + rm.locals ≤ R.locals) (hA' : As.length = nA) (hst : st0 = As.reverse ++ st) (hW : (st.map fun v => v.category).sum ≤ 8) (d : decode cc pc = .ok (.invokestatic idx, 3)) (hf : cells + rm.cells ≤ R.cells ∧ slots + rm.slots ≤ R.slots) (wr w2 : va_W) (hp : w.Perm (wc ++ wr)) (hw2 : wc' ++ wr = w2) (K : WJ p l e R s m args below meth c G A nL (cells + rm.cells) (slots + rm.slots) Q w2 lv (pc + 3) st) : WJ p l e R s m args below meth c G A nL cells slots Q w lv pc st0 := by
  subst hst
  intro H locs ls hP hD hS hl
  have hP := hP.perm hp
  have hD := hD.perm hp
  have hPc := hP.left
  have hDc := hD.left
  have hFc := free_left hD hS C.2.2.2.2.2.2.1
  refine va_callv (va_runS (As := As) (rest := st) ⟨C.1, C.2.1, C.2.2.1, C.2.2.2.1, C.2.2.2.2.1⟩ (M H.size) (va_cwS nA C.2.2.2.2.1 g rfl rfl rfl hd hR) ⟨PreG.blind, fun U hU hW' => ⟨rfl, by rw [hU], by rw [hU]; exact hPc, va_K.moved hW'.alike C.2.2.2.2.2.1, hDc.weaken (fun _ _ _ _ => trivial), NW.warm hW' C.2.2.2.2.2.2.2.1, by rw [hU]; exact ((GS.kept C.2.2.2.2.2.2.2.2 (fun a h1 h2 => hS.2.1 a h1 h2)).narrow hFc).moved hW'.alike⟩⟩ rfl hA' hl.1 rfl (lv_room hW) d hf) hS (fun q _ h => hFc q h) hFc (fun u t H1 locs1 ht hvm hw hB hz1 hk1 hS1 => ?_)
  obtain ⟨hP1, hD1⟩ := hB
  rw [ht] at hP1
  obtain ⟨hP2, hD2⟩ := join_left hP hD hk1 hFc hP1 hD1
  exact K H1 locs1 ls (hw2 ▸ hP2) (hw2 ▸ hD2) hS1 hl
theorem j_pureS_v (C : Cx p s m args c cc nL own G A) {y : MethodName} {idx n' : Nat} {b : ByteArray} {ret : Option FieldType} {rm : Room} {As st0 : List Value} (M : CtV l y b n' ret rm G As [] []) (nA : Nat) (g : GoodIn AW (va_wsS own idx y (.code y b n' ret :: AW))) (hd : y.cls ≠ "java/lang/invoke/MethodHandle" ∧ y.cls ≠ "java/lang/invoke/VarHandle" ∧ (parseMethodDescriptor y.desc).map (fun d => d.parameters.length) = some nA) (hR : rm.frames + 1 ≤ R.frames ∧ 8 + (n' + 11) + rm.locals ≤ R.locals) (hA' : As.length = nA) (hst : st0 = As.reverse ++ st) (hW : (st.map fun v => v.category).sum ≤ 8) (d : decode cc pc = .ok (.invokestatic idx, 3)) (hf : cells + rm.cells ≤ R.cells ∧ slots + rm.slots ≤ R.slots) (K : WJ p l e R s m args below meth c G A nL (cells + rm.cells) (slots + rm.slots) Q w lv (pc + 3) st) : WJ p l e R s m args below meth c G A nL cells slots Q w lv pc st0 := by
  subst hst
  intro H locs ls hP hD hS hl
  have hPc := hP.sub (ws' := []) [] rfl
  have hDc := hD.sub (ws' := []) [] rfl rfl
  have hFc := va_free (wc := []) hD hS C.2.2.2.2.2.2.1 [] rfl
  refine va_callv (va_runS (As := As) (rest := st) ⟨C.1, C.2.1, C.2.2.1, C.2.2.2.1, C.2.2.2.2.1⟩ (M H.size) (va_cwS nA C.2.2.2.2.1 g rfl rfl rfl hd hR) ⟨PreG.blind, fun U hU hW' => ⟨rfl, by rw [hU], by rw [hU]; exact hPc, va_K.moved hW'.alike C.2.2.2.2.2.1, hDc.weaken (fun _ _ _ _ => trivial), NW.warm hW' C.2.2.2.2.2.2.2.1, by rw [hU]; exact ((GS.kept C.2.2.2.2.2.2.2.2 (fun a h1 h2 => hS.2.1 a h1 h2)).narrow hFc).moved hW'.alike⟩⟩ rfl hA' hl.1 rfl (lv_room hW) d hf) hS (fun q _ h => hFc q h) hFc (fun u t H1 locs1 ht hvm hw hB hz1 hk1 hS1 => ?_)
  exact K H1 locs1 ls (hP.kept (fun k q hk => hk1 q.1 (hP k q hk).lt (fun h => h.elim (fun ⟨_, _, h2⟩ => by simp at h2) (fun h2 => Nat.lt_irrefl _ (Nat.lt_of_lt_of_le (hP k q hk).lt h2))))) hD hS1 hl
theorem j_callI_v (C : Cx p s m args c cc nL own G A) {y : MethodName} {idx n' : Nat} {b : ByteArray} {ret : Option FieldType} {rm : Room} {a : Nat} {As st0 : List Value} {wc wc' : va_W} (M : CtV l y b n' ret rm G (.ref a :: As) wc wc') (nA : Nat) (g : Cond.code y b n' ret ∈ AW) (hret : ret = none) (hini : Cond.initialized y.cls ∈ AW) (hlk : Cond.methodLink own idx y ∈ AW) (hinm : Cond.instanceMethod y ∈ AW) (hy1 : y.name = "<init>") (hd : y.cls ≠ "java/lang/invoke/MethodHandle" ∧ y.cls ≠ "java/lang/invoke/VarHandle" ∧ (parseMethodDescriptor y.desc).map (fun d => d.parameters.length) = some nA) (hR : rm.frames + 1 ≤ R.frames ∧ 8 + (n' + 11) + rm.locals ≤ R.locals) (hA' : As.length = nA) (hst : st0 = As.reverse ++ .ref a :: st) (hW : (st.map fun v => v.category).sum ≤ 8) (d : decode cc pc = .ok (.invokespecial idx, 3)) (hf : cells + rm.cells ≤ R.cells ∧ slots + rm.slots ≤ R.slots) (wr w2 : va_W) (hp : w.Perm (wc ++ wr)) (hw2 : wc' ++ wr = w2) (K : WJ p l e R s m args below meth c G A nL (cells + rm.cells) (slots + rm.slots) Q w2 lv (pc + 3) st) : WJ p l e R s m args below meth c G A nL cells slots Q w lv pc st0 := by
  subst hst
  subst hret
  intro H locs ls hP hD hS hl
  have hP := hP.perm hp
  have hD := hD.perm hp
  have hPc := hP.left
  have hDc := hD.left
  have hFc := free_left hD hS C.2.2.2.2.2.2.1
  refine va_callv (va_runI (As := As) (rest := st) ⟨C.1, C.2.1, C.2.2.1, C.2.2.2.1, C.2.2.2.2.1⟩ (M H.size) (cwI nA C.2.2.2.2.1 (aw_g (aw_1 g)) rfl rfl rfl (C.2.2.2.2.1 _ hini) (C.2.2.2.2.1 _ hlk) (C.2.2.2.2.1 _ hinm) hy1 hd hR) ⟨PreG.blind, fun U hU hW' => ⟨rfl, by rw [hU], by rw [hU]; exact hPc, va_K.moved hW'.alike C.2.2.2.2.2.1, hDc.weaken (fun _ _ _ _ => trivial), NW.warm hW' C.2.2.2.2.2.2.2.1, by rw [hU]; exact ((GS.kept C.2.2.2.2.2.2.2.2 (fun a h1 h2 => hS.2.1 a h1 h2)).narrow hFc).moved hW'.alike⟩⟩ rfl hA' hl.1 rfl (lv_room hW) d hf) hS (fun q _ h => hFc q h) hFc (fun u t H1 locs1 ht hvm hw hB hz1 hk1 hS1 => ?_)
  obtain ⟨hP1, hD1⟩ := hB
  rw [ht] at hP1
  obtain ⟨hP2, hD2⟩ := join_left hP hD hk1 hFc hP1 hD1
  exact K H1 locs1 ls (hw2 ▸ hP2) (hw2 ▸ hD2) hS1 hl
theorem j_callSN_i (C : Cx p s m args c cc nL own G A) {y : MethodName} {idx n' : Nat} {b : ByteArray} {ret : Option FieldType} {rm : Room} {As st0 : List Value} {wc wc' : va_W} {r : Int32} (M : CtI l y b n' ret rm G As wc r wc') (nA : Nat) {host : String} (g : Cond.code y b n' ret ∈ AW) (hnest : Cond.methodLinkNest own idx y host ∈ nestL) (hini : Cond.initialized y.cls ∈ AW) (hstt : Cond.static y ∈ AW) (hd : y.cls ≠ "java/lang/invoke/MethodHandle" ∧ y.cls ≠ "java/lang/invoke/VarHandle" ∧ (parseMethodDescriptor y.desc).map (fun d => d.parameters.length) = some nA) (hR : rm.frames + 1 ≤ R.frames ∧ 8 + (n' + 11) + rm.locals ≤ R.locals) (hA' : As.length = nA) (hst : st0 = As.reverse ++ st) (hW : (st.map fun v => v.category).sum ≤ 8) (d : decode cc pc = .ok (.invokestatic idx, 3)) (hf : cells + rm.cells ≤ R.cells ∧ slots + rm.slots ≤ R.slots) (wr w2 : va_W) (hp : w.Perm (wc ++ wr)) (hw2 : wc' ++ wr = w2) (K : WJ p l e R s m args below meth c G A nL (cells + rm.cells) (slots + rm.slots) Q w2 lv (pc + 3) (.int r :: st)) : WJ p l e R s m args below meth c G A nL cells slots Q w lv pc st0 := by
  subst hst
  intro H locs ls hP hD hS hl
  have hP := hP.perm hp
  have hD := hD.perm hp
  have hPc := hP.left
  have hDc := hD.left
  have hFc := free_left hD hS C.2.2.2.2.2.2.1
  refine va_calli (va_runSN (As := As) (rest := st) ⟨C.1, C.2.1, C.2.2.1, C.2.2.2.1, C.2.2.2.2.1⟩ (M H.size) ⟨va_cnB nA C.2.2.2.2.1 (aw_g (aw_1 g)) rfl rfl rfl (C.2.2.2.2.2.2.2.1.1 _ hnest) (C.2.2.2.2.1 _ hini) hd hR, C.2.2.2.2.1 _ hstt, trivial⟩ ⟨PreG.blind, fun U hU hW' => ⟨rfl, by rw [hU], by rw [hU]; exact hPc, va_K.moved hW'.alike C.2.2.2.2.2.1, hDc.weaken (fun _ _ _ _ => trivial), NW.warm hW' C.2.2.2.2.2.2.2.1, by rw [hU]; exact ((GS.kept C.2.2.2.2.2.2.2.2 (fun a h1 h2 => hS.2.1 a h1 h2)).narrow hFc).moved hW'.alike⟩⟩ rfl hA' hl.1 rfl (lv_room hW) d hf) hS (fun q _ h => hFc q h) hFc (fun r' u t H1 locs1 ht hvm hw hB hz1 hk1 hS1 => ?_)
  subst hw
  obtain ⟨hP1, hD1⟩ := hB
  rw [ht] at hP1
  obtain ⟨hP2, hD2⟩ := join_left hP hD hk1 hFc hP1 hD1
  exact K H1 locs1 ls (hw2 ▸ hP2) (hw2 ▸ hD2) hS1 hl
theorem j_pureSN_i (C : Cx p s m args c cc nL own G A) {y : MethodName} {idx n' : Nat} {b : ByteArray} {ret : Option FieldType} {rm : Room} {As st0 : List Value} {r : Int32} (M : CtI l y b n' ret rm G As [] r []) (nA : Nat) {host : String} (g : Cond.code y b n' ret ∈ AW) (hnest : Cond.methodLinkNest own idx y host ∈ nestL) (hini : Cond.initialized y.cls ∈ AW) (hstt : Cond.static y ∈ AW) (hd : y.cls ≠ "java/lang/invoke/MethodHandle" ∧ y.cls ≠ "java/lang/invoke/VarHandle" ∧ (parseMethodDescriptor y.desc).map (fun d => d.parameters.length) = some nA) (hR : rm.frames + 1 ≤ R.frames ∧ 8 + (n' + 11) + rm.locals ≤ R.locals) (hA' : As.length = nA) (hst : st0 = As.reverse ++ st) (hW : (st.map fun v => v.category).sum ≤ 8) (d : decode cc pc = .ok (.invokestatic idx, 3)) (hf : cells + rm.cells ≤ R.cells ∧ slots + rm.slots ≤ R.slots) (K : WJ p l e R s m args below meth c G A nL (cells + rm.cells) (slots + rm.slots) Q w lv (pc + 3) (.int r :: st)) : WJ p l e R s m args below meth c G A nL cells slots Q w lv pc st0 := by
  subst hst
  intro H locs ls hP hD hS hl
  have hPc := hP.sub (ws' := []) [] rfl
  have hDc := hD.sub (ws' := []) [] rfl rfl
  have hFc := va_free (wc := []) hD hS C.2.2.2.2.2.2.1 [] rfl
  refine va_calli (va_runSN (As := As) (rest := st) ⟨C.1, C.2.1, C.2.2.1, C.2.2.2.1, C.2.2.2.2.1⟩ (M H.size) ⟨va_cnB nA C.2.2.2.2.1 (aw_g (aw_1 g)) rfl rfl rfl (C.2.2.2.2.2.2.2.1.1 _ hnest) (C.2.2.2.2.1 _ hini) hd hR, C.2.2.2.2.1 _ hstt, trivial⟩ ⟨PreG.blind, fun U hU hW' => ⟨rfl, by rw [hU], by rw [hU]; exact hPc, va_K.moved hW'.alike C.2.2.2.2.2.1, hDc.weaken (fun _ _ _ _ => trivial), NW.warm hW' C.2.2.2.2.2.2.2.1, by rw [hU]; exact ((GS.kept C.2.2.2.2.2.2.2.2 (fun a h1 h2 => hS.2.1 a h1 h2)).narrow hFc).moved hW'.alike⟩⟩ rfl hA' hl.1 rfl (lv_room hW) d hf) hS (fun q _ h => hFc q h) hFc (fun r' u t H1 locs1 ht hvm hw hB hz1 hk1 hS1 => ?_)
  subst hw
  exact K H1 locs1 ls (hP.kept (fun k q hk => hk1 q.1 (hP k q hk).lt (fun h => h.elim (fun ⟨_, _, h2⟩ => by simp at h2) (fun h2 => Nat.lt_irrefl _ (Nat.lt_of_lt_of_le (hP k q hk).lt h2))))) hD hS1 hl
theorem j_callIN_v (C : Cx p s m args c cc nL own G A) {y : MethodName} {idx n' : Nat} {b : ByteArray} {ret : Option FieldType} {rm : Room} {a : Nat} {As st0 : List Value} {wc wc' : va_W} (M : CtV l y b n' ret rm G (.ref a :: As) wc wc') (nA : Nat) {host : String} (g : Cond.code y b n' ret ∈ AW) (hret : ret = none) (hnest : Cond.methodLinkNest own idx y host ∈ nestL) (hini : Cond.initialized y.cls ∈ AW) (hinm : Cond.instanceMethod y ∈ AW) (hy1 : y.name = "<init>") (hd : y.cls ≠ "java/lang/invoke/MethodHandle" ∧ y.cls ≠ "java/lang/invoke/VarHandle" ∧ (parseMethodDescriptor y.desc).map (fun d => d.parameters.length) = some nA) (hR : rm.frames + 1 ≤ R.frames ∧ 8 + (n' + 11) + rm.locals ≤ R.locals) (hA' : As.length = nA) (hst : st0 = As.reverse ++ .ref a :: st) (hW : (st.map fun v => v.category).sum ≤ 8) (d : decode cc pc = .ok (.invokespecial idx, 3)) (hf : cells + rm.cells ≤ R.cells ∧ slots + rm.slots ≤ R.slots) (wr w2 : va_W) (hp : w.Perm (wc ++ wr)) (hw2 : wc' ++ wr = w2) (K : WJ p l e R s m args below meth c G A nL (cells + rm.cells) (slots + rm.slots) Q w2 lv (pc + 3) st) : WJ p l e R s m args below meth c G A nL cells slots Q w lv pc st0 := by
  subst hst
  subst hret
  intro H locs ls hP hD hS hl
  have hP := hP.perm hp
  have hD := hD.perm hp
  have hPc := hP.left
  have hDc := hD.left
  have hFc := free_left hD hS C.2.2.2.2.2.2.1
  refine va_callv (va_runIN (As := As) (rest := st) ⟨C.1, C.2.1, C.2.2.1, C.2.2.2.1, C.2.2.2.2.1⟩ (M H.size) ⟨va_cnB nA C.2.2.2.2.1 (aw_g (aw_1 g)) rfl rfl rfl (C.2.2.2.2.2.2.2.1.1 _ hnest) (C.2.2.2.2.1 _ hini) hd hR, hy1, C.2.2.2.2.1 _ hinm⟩ ⟨PreG.blind, fun U hU hW' => ⟨rfl, by rw [hU], by rw [hU]; exact hPc, va_K.moved hW'.alike C.2.2.2.2.2.1, hDc.weaken (fun _ _ _ _ => trivial), NW.warm hW' C.2.2.2.2.2.2.2.1, by rw [hU]; exact ((GS.kept C.2.2.2.2.2.2.2.2 (fun a h1 h2 => hS.2.1 a h1 h2)).narrow hFc).moved hW'.alike⟩⟩ rfl hA' hl.1 rfl (lv_room hW) d hf) hS (fun q _ h => hFc q h) hFc (fun u t H1 locs1 ht hvm hw hB hz1 hk1 hS1 => ?_)
  obtain ⟨hP1, hD1⟩ := hB
  rw [ht] at hP1
  obtain ⟨hP2, hD2⟩ := join_left hP hD hk1 hFc hP1 hD1
  exact K H1 locs1 ls (hw2 ▸ hP2) (hw2 ▸ hD2) hS1 hl
theorem j_mmin (C : Cx p s m args c cc nL own G A) {idx : Nat} {x y : Int32} (hlink : Cond.methodLink own idx Lib.Math.min.name ∈ AW) (hf : 1 ≤ R.frames) (hlo : (st.map fun v => v.category).sum + 13 ≤ R.locals) (hcs : cells ≤ R.cells ∧ slots ≤ R.slots) (d : decode cc pc = .ok (.invokestatic idx, 3)) {v : Int32} (hv : (if y < x then y else x) = v) (K : WJ p l e R s m args below meth c G A nL cells slots Q w lv (pc + 3) (.int v :: st)) : WJ p l e R s m args below meth c G A nL cells slots Q w lv pc (.int y :: .int x :: st) := by
  subst hv
  exact fun H locs ls hP hD hS hl => va_mmin C.1 C.2.1 (C.2.2.1.trans hl.1.symm) C.2.2.2.1 (C.2.2.2.2.1 _ hlink) (C.2.2.2.2.1 _ aw_mmin_static) (C.2.2.2.2.1 _ aw_math_ini) (C.2.2.2.2.1 _ aw_mmin_code) hf hlo hcs.1 hcs.2 d (K H locs ls hP hD hS hl)
theorem j_mmax (C : Cx p s m args c cc nL own G A) {idx : Nat} {x y : Int32} (hlink : Cond.methodLink own idx Lib.Math.max.name ∈ AW) (hf : 1 ≤ R.frames) (hlo : (st.map fun v => v.category).sum + 13 ≤ R.locals) (hcs : cells ≤ R.cells ∧ slots ≤ R.slots) (d : decode cc pc = .ok (.invokestatic idx, 3)) {v : Int32} (hv : (if x < y then y else x) = v) (K : WJ p l e R s m args below meth c G A nL cells slots Q w lv (pc + 3) (.int v :: st)) : WJ p l e R s m args below meth c G A nL cells slots Q w lv pc (.int y :: .int x :: st) := by
  subst hv
  exact fun H locs ls hP hD hS hl => va_mmax C.1 C.2.1 (C.2.2.1.trans hl.1.symm) C.2.2.2.1 (C.2.2.2.2.1 _ hlink) (C.2.2.2.2.1 _ aw_mmax_static) (C.2.2.2.2.1 _ aw_math_ini) (C.2.2.2.2.1 _ aw_mmax_code) hf hlo hcs.1 hcs.2 d (K H locs ls hP hD hS hl)
theorem j_eq {w2 : va_W} {lv2 : List (Nat × Value)} {st2 : List Value} (hw : w = w2) (hl : lv = lv2) (hs : st = st2) (K : WJ p l e R s m args below meth c G A nL cells slots Q w2 lv2 pc st2) : WJ p l e R s m args below meth c G A nL cells slots Q w lv pc st := by
  subst hw hl hs
  exact K
end LAYC
end
section
/-! THE CELLS: what a cell of each class holds, read off a record; the rows that speak of these cells -/
abbrev DO : Type := (Nat → Int32) × Int64
def b01 (x : Int32) : Int32 := if x = 0 then 0 else 1
def upd8 (f : Nat → Int8) (k : Nat) (x : Int32) : Nat → Int8 := fun j => if j = k then x.toInt8 else f j
def updC (f : Nat → UInt16) (k : Nat) (x : Int32) : Nat → UInt16 := fun j => if j = k then x.toUInt32.toUInt16 else f j
theorem imin_ex : ∃ F : Int32 → Int32 → Int32, ∀ x y, F x y = if y < x then y else x := ⟨fun x y => if y < x then y else x, fun _ _ => rfl⟩
noncomputable def imin : Int32 → Int32 → Int32 := Classical.choose imin_ex
theorem imin_eq (x y : Int32) : imin x y = if y < x then y else x := Classical.choose_spec imin_ex x y
theorem imax_ex : ∃ F : Int32 → Int32 → Int32, ∀ x y, F x y = if x < y then y else x := ⟨fun x y => if x < y then y else x, fun _ _ => rfl⟩
noncomputable def imax : Int32 → Int32 → Int32 := Classical.choose imax_ex
theorem imax_eq (x y : Int32) : imax x y = if x < y then y else x := Classical.choose_spec imax_ex x y
abbrev oD (a h : Nat) (v : DO) : Nat × va_E := (a, .inr (0, [.int (v.1 0), .int (v.1 1), .int (v.1 2), .int (v.1 3), .int (b01 (v.1 4)), .int (v.1 5), .int (v.1 6), .int (v.1 7), .int (v.1 8), .int (v.1 9), .long v.2, .ref h]))
abbrev oH (a sa : Nat) (v : Nat → Int32) : Nat × va_E := (a, .inr (1, [.ref sa, .int (v 1), .int (v 2)]))
abbrev oP (a ga : Nat) (v : Nat → Int32) : Nat × va_E := (a, .inr (2, [.ref ga, .int (v 1), .int (v 2), .int (v 3), .int (v 4), .int (v 5), .int (v 6)]))
abbrev oS (a sa da : Nat) (v : Nat → Int32) : Nat × va_E := (a, .inr (3, [.ref sa, .ref da, .int (v 2), .int (v 3), .int (v 4), .int (v 5), .int (v 6)]))
abbrev oX (a p h s u g t o : Nat) : Nat × va_E := (a, .inr (4, [.ref p, .ref h, .ref s, .ref u, .ref g, .ref t, .ref o]))
abbrev oM (a n t p s h g o : Nat) (v : Nat → Int32) : Nat × va_E := (a, .inr (5, [.ref n, .ref t, .ref p, .int (v 3), .ref s, .ref h, .ref g, .int (v 7), .int (v 8), .ref o, .int (v 10)]))
abbrev aB (G : GG) (a : Nat) (f : Nat → Int8) : Nat × va_E := (a, .inl (G.2.1 0, 100, .inl (fun j => (f j).toInt32)))
abbrev aC (G : GG) (a : Nat) (f : Nat → UInt16) : Nat × va_E := (a, .inl (G.2.1 1, 80, .inl (fun j => (f j).toUInt32.toInt32)))
abbrev aI (G : GG) (a n : Nat) (f : Nat → Int32) : Nat × va_E := (a, .inl (G.2.1 2, n, .inl f))
abbrev aJ (G : GG) (a n : Nat) (f : Nat → Int64) : Nat × va_E := (a, .inl (G.2.1 3, n, .inr (.inl f)))
abbrev aZ (G : GG) (a n : Nat) (f : Nat → Int32) : Nat × va_E := (a, .inl (G.2.1 4, n, .inl f))
abbrev aD (G : GG) (a n : Nat) (f : Nat → Option Nat) : Nat × va_E := (a, .inl (G.2.1 5, n, .inr (.inr (.inr (.inr f)))))
abbrev aS (G : GG) (a n : Nat) (f : Nat → Option Nat) : Nat × va_E := (a, .inl (G.2.1 6, n, .inr (.inr (.inr (.inr f)))))
/-- a station's value: its numbers by slot, its settings, its drives, their hours -/
abbrev StV : Type := (Nat → Int32) × (Nat → Int32) × (Nat → DO) × (Nat → Nat → Int8)
def pick4 {α : Type} (a b c d : α) : Nat → α := fun k => match k with
  | 0 => a
  | 1 => b
  | 2 => c
  | _ => d
def updF {α : Type} (f : Nat → α) (k : Nat) (x : α) : Nat → α := fun j => if j = k then x else f j
/-- four drives with their hours: A (3 + 2 * d) a drive, A (4 + 2 * d) its hours -/
def cDrs (G : GG) (A : Nat → Nat) (dv : Nat → DO) (hv : Nat → Nat → Int8) : va_W := [oD (A 3) (A 4) (dv 0), aB G (A 4) (hv 0), oD (A 5) (A 6) (dv 1), aB G (A 6) (hv 1), oD (A 7) (A 8) (dv 2), aB G (A 8) (hv 2), oD (A 9) (A 10) (dv 3), aB G (A 10) (hv 3)]
/-- a station's cells: A 0 itself, A 1 its settings, A 2 its row of drives -/
def cSt (G : GG) (A : Nat → Nat) (x : StV) : va_W := oS (A 0) (A 1) (A 2) x.1 :: aI G (A 1) 7 x.2.1 :: aD G (A 2) 4 (fun k => some (A (3 + 2 * k))) :: cDrs G A x.2.2.1 x.2.2.2
/-- the drives but the drive n -/
def cRs (G : GG) (A : Nat → Nat) (dv : Nat → DO) (hv : Nat → Nat → Int8) (n : Nat) : va_W := match n with
  | 0 => [oD (A 5) (A 6) (dv 1), aB G (A 6) (hv 1), oD (A 7) (A 8) (dv 2), aB G (A 8) (hv 2), oD (A 9) (A 10) (dv 3), aB G (A 10) (hv 3)]
  | 1 => [oD (A 3) (A 4) (dv 0), aB G (A 4) (hv 0), oD (A 7) (A 8) (dv 2), aB G (A 8) (hv 2), oD (A 9) (A 10) (dv 3), aB G (A 10) (hv 3)]
  | 2 => [oD (A 3) (A 4) (dv 0), aB G (A 4) (hv 0), oD (A 5) (A 6) (dv 1), aB G (A 6) (hv 1), oD (A 9) (A 10) (dv 3), aB G (A 10) (hv 3)]
  | _ => [oD (A 3) (A 4) (dv 0), aB G (A 4) (hv 0), oD (A 5) (A 6) (dv 1), aB G (A 6) (hv 1), oD (A 7) (A 8) (dv 2), aB G (A 8) (hv 2)]
theorem closeDrs (G : GG) (A : Nat → Nat) (dv : Nat → DO) (hv : Nat → Nat → Int8) (n : Nat) (hn : n < 4) (v : DO) (f : Nat → Int8) : (fl [[oD (A (3 + 2 * n)) (A (4 + 2 * n)) v], [aB G (A (4 + 2 * n)) f], cRs G A dv hv n]).Perm (cDrs G A (updF dv n v) (updF hv n f)) := by
  rcases (show n = 0 ∨ n = 1 ∨ n = 2 ∨ n = 3 by omega) with rfl | rfl | rfl | rfl
  · exact perm_idx [0, 1, 2, 3, 4, 5, 6, 7] 8 rfl (by decide +kernel) rfl
  · exact perm_idx [2, 3, 0, 1, 4, 5, 6, 7] 8 rfl (by decide +kernel) rfl
  · exact perm_idx [2, 3, 4, 5, 0, 1, 6, 7] 8 rfl (by decide +kernel) rfl
  · exact perm_idx [2, 3, 4, 5, 6, 7, 0, 1] 8 rfl (by decide +kernel) rfl
theorem openDrs (G : GG) (A : Nat → Nat) (dv : Nat → DO) (hv : Nat → Nat → Int8) (n : Nat) (hn : n < 4) : (cDrs G A dv hv).Perm (fl [[oD (A (3 + 2 * n)) (A (4 + 2 * n)) (dv n)], [aB G (A (4 + 2 * n)) (hv n)], cRs G A dv hv n]) := by
  rcases (show n = 0 ∨ n = 1 ∨ n = 2 ∨ n = 3 by omega) with rfl | rfl | rfl | rfl
  · exact perm_idx [0, 1, 2, 3, 4, 5, 6, 7] 8 rfl (by decide +kernel) rfl
  · exact perm_idx [2, 3, 0, 1, 4, 5, 6, 7] 8 rfl (by decide +kernel) rfl
  · exact perm_idx [4, 5, 0, 1, 2, 3, 6, 7] 8 rfl (by decide +kernel) rfl
  · exact perm_idx [6, 7, 0, 1, 2, 3, 4, 5] 8 rfl (by decide +kernel) rfl
theorem open_at {B : va_W} {bs R : List va_W} (h : B.Perm (fl bs)) : (fl (B :: R)).Perm (fl (bs ++ R)) := by
  rw [← fl_app]
  exact h.append_right _
theorem shut_at {B : va_W} {bs R : List va_W} (h : (fl bs).Perm B) : (fl (bs ++ R)).Perm (fl (B :: R)) := by
  rw [← fl_app]
  exact h.append_right _
/-- N stations in a row: the station k at the addresses AH k -/
def cMany (G : GG) (AH : Nat → Nat → Nat) (sv : Nat → StV) (N : Nat) : va_W := fl ((List.range N).map fun k => cSt G (AH k) (sv k))
def cManyR (G : GG) (AH : Nat → Nat → Nat) (sv : Nat → StV) (N n : Nat) : va_W := fl (((List.range N).erase n).map fun k => cSt G (AH k) (sv k))
theorem openMany (G : GG) (AH : Nat → Nat → Nat) (sv : Nat → StV) (N n : Nat) (hn : n < N) : (cMany G AH sv N).Perm (fl [cSt G (AH n) (sv n), cManyR G AH sv N n]) := by
  have h : (List.range N).Perm (n :: (List.range N).erase n) := List.perm_cons_erase (List.mem_range.mpr hn)
  have h2 := (h.map (fun k => cSt G (AH k) (sv k))).flatten
  have e : fl [cSt G (AH n) (sv n), cManyR G AH sv N n] = cSt G (AH n) (sv n) ++ cManyR G AH sv N n := by
    show cSt G (AH n) (sv n) ++ (cManyR G AH sv N n ++ []) = _
    rw [List.append_nil]
  rw [e]
  exact h2
theorem closeMany (G : GG) (AH : Nat → Nat → Nat) (sv : Nat → StV) (N n : Nat) (hn : n < N) (x : StV) : (fl [cSt G (AH n) x, cManyR G AH sv N n]).Perm (cMany G AH (updF sv n x) N) := by
  have h := (openMany G AH (updF sv n x) N n hn).symm
  have e1 : updF sv n x n = x := if_pos rfl
  have e2 : cManyR G AH (updF sv n x) N n = cManyR G AH sv N n := by
    unfold cManyR
    congr 1
    apply List.map_congr_left
    intro k hk
    have hne : k ≠ n := ((List.nodup_range.mem_erase_iff).mp hk).1
    rw [show updF sv n x k = sv k from if_neg hne]
  rw [e1, e2] at h
  exact h
theorem b01_0 : b01 0 = 0 := rfl
theorem b01_1 : b01 1 = 1 := rfl
theorem b01_of {x : Int32} (h : x = 0 ∨ x = 1) : b01 x = x := by rcases h with rfl | rfl <;> rfl
theorem b01_or (x : Int32) : b01 x = 0 ∨ b01 x = 1 := by unfold b01; split <;> simp
theorem nar_01 {x : Int32} (h : x = 0 ∨ x = 1) : narrow .boolean (.int x) = .int x := by rcases h with rfl | rfl <;> rfl
theorem fit_01 {x : Int32} (h : x = 0 ∨ x = 1) : Jvm.fits .boolean (.int x) = true := by rcases h with rfl | rfl <;> rfl
theorem nar_b01 (x : Int32) : narrow .boolean (.int (b01 x)) = .int (b01 x) := nar_01 (b01_or x)
theorem fit_b01 (x : Int32) : Jvm.fits .boolean (.int (b01 x)) = true := fit_01 (b01_or x)
theorem vin_lit {i : Int32} {n : Nat} (h : decide (¬ (i < 0 ∨ n ≤ i.toNatClampNeg)) = true) : vp_in i n := (of_decide_eq_true h : ¬ (i < 0 ∨ n ≤ i.toNatClampNeg))
theorem upd8_eq (f : Nat → Int8) (k : Nat) (x : Int32) : upd (fun j => (f j).toInt32) k (vp_nar .byte x) = fun j => (upd8 f k x j).toInt32 := by
  funext j
  simp only [upd, upd8, vp_nar_byte]
  split <;> rfl
theorem updC_eq (f : Nat → UInt16) (k : Nat) (x : Int32) : upd (fun j => (f j).toUInt32.toInt32) k (vp_nar .char x) = fun j => (updC f k x j).toUInt32.toInt32 := by
  funext j
  simp only [upd, updC, vp_nar_char]
  split <;> rfl
theorem nar_c (u : UInt16) : narrow .char (.int u.toUInt32.toInt32) = .int u.toUInt32.toInt32 := by
  have h := (pk_charN (q := u.toNat) u.toNat_lt).1
  have e : nI u.toNat = u.toUInt32.toInt32 := by
    apply Int32.toInt_inj.mp
    have : u.toNat < 65536 := u.toNat_lt
    rw [nI_toInt (by omega)]
    show _ = (u.toUInt32.toBitVec).toInt
    rw [BitVec.toInt_eq_toNat_of_lt (by show 2 * u.toNat < 2 ^ 32; omega)]
    rfl
  rw [← e]; exact h
theorem fit_c (u : UInt16) : Jvm.fits .char (.int u.toUInt32.toInt32) = true := by
  have h := (pk_charN (q := u.toNat) u.toNat_lt).2
  have e : nI u.toNat = u.toUInt32.toInt32 := by
    apply Int32.toInt_inj.mp
    have : u.toNat < 65536 := u.toNat_lt
    rw [nI_toInt (by omega)]
    show _ = (u.toUInt32.toBitVec).toInt
    rw [BitVec.toInt_eq_toNat_of_lt (by show 2 * u.toNat < 2 ^ 32; omega)]
    rfl
  rw [← e]; exact h
theorem fit_b8 (x : Int8) : Jvm.fits .byte (.int x.toInt32) = true := by
  have h := pk_fb x.toInt32
  rw [Int8.toInt8_toInt32] at h
  exact h
theorem arrV_congr {c : ClassId} {N : Nat} {f g : Nat → Value} (h : ∀ j, j < N → f j = g j) : arrV c N f = arrV c N g := by
  unfold arrV
  have e : (fun j : Fin N => f j.val) = fun j : Fin N => g j.val := funext fun j => h j.val j.isLt
  rw [e]
theorem va_at_i {D : va_G} {cl : List vw_C} {a n : Nat} {cA : ClassId} {f g : Nat → Int32} {H : Heap} (hfg : ∀ j, j < n → f j = g j) (h : va_at D cl (a, .inl (cA, n, .inl f)) H) : va_at D cl (a, .inl (cA, n, .inl g)) H := by
  have e : vp_cell cA (n, .inl f) = vp_cell cA (n, .inl g) := arrV_congr (f := fun j => .int (f j)) (g := fun j => .int (g j)) (fun j hj => congrArg Value.int (hfg j hj))
  show H[a]? = some (vp_cell cA (n, .inl g))
  rw [← e]
  exact h
theorem va_P_at {D : va_G} {cl : List vw_C} {ws : va_W} {H : Heap} {q0 a : Nat} {e e' : va_E} (h : va_P D cl (ws.set q0 (a, e)) H) (he : va_at D cl (a, e) H → va_at D cl (a, e') H) : va_P D cl (ws.set q0 (a, e')) H := by
  intro k q hk
  by_cases hkq : q0 = k
  · subst hkq
    by_cases hl : q0 < ws.length
    · rw [List.getElem?_set_self hl] at hk
      cases hk
      exact he (h q0 _ (List.getElem?_set_self hl))
    · rw [List.getElem?_eq_none (by rw [List.length_set]; omega)] at hk
      cases hk
  · rw [List.getElem?_set_ne hkq] at hk
    exact h k q (by rw [List.getElem?_set_ne hkq]; exact hk)
theorem aw_oi_inst : Cond.instanceMethod Lib.objectInit ∈ AW := kw_17
theorem aw_oi_code : Cond.code Lib.objectInit ⟨#[0xb1]⟩ 1 none ∈ AW := kw_18
theorem aw_ac_native : Cond.native arraycopyName ∈ AW := kw_28
theorem aw_ac_static : Cond.static arraycopyName ∈ AW := kw_27
theorem aw_ac_ini : Cond.initialized "java/lang/System" ∈ AW := kw_3
section OBJ
variable {p : Program} {l : Launch} {e : Env} {R : Room} {s : State} {m : MethodId} {args : Array Value} {below : List Frame} {meth : Method} {c : Code} {cc : ByteArray} {own : String} {G : GG} {A : Nat → Prop} {nL cells slots : Nat} {Q : State → Prop} {w : va_W} {lv : List (Nat × Value)} {pc : Nat} {st : List Value}
theorem j_top01 {x : Int32} (hx : b01 x = x) (K : WJ p l e R s m args below meth c G A nL cells slots Q w lv pc (.int (b01 x) :: st)) : WJ p l e R s m args below meth c G A nL cells slots Q w lv pc (.int x :: st) := by
  rw [hx] at K
  exact K
theorem j_bast8 (C : Cx p s m args c cc nL own G A) {a : Nat} {f : Nat → Int8} {i x : Int32} (q0 : Nat) (he : w[q0]? = some (aB G a f)) (hin : vp_in i 100) (w2 : va_W) (hw : w.set q0 (aB G a (upd8 f i.toNatClampNeg x)) = w2) (d : decode cc pc = .ok (.bastore, 1)) (K : WJ p l e R s m args below meth c G A nL cells slots Q w2 lv (pc + 1) st) : WJ p l e R s m args below meth c G A nL cells slots Q w lv pc (.int x :: .int i :: .ref a :: st) := j_bast C q0 he hin w2 (by rw [upd8_eq]; exact hw) d K
theorem j_castC (C : Cx p s m args c cc nL own G A) {a : Nat} {f : Nat → UInt16} {i x : Int32} (q0 : Nat) (he : w[q0]? = some (aC G a f)) (hin : vp_in i 80) (w2 : va_W) (hw : w.set q0 (aC G a (updC f i.toNatClampNeg x)) = w2) (d : decode cc pc = .ok (.castore, 1)) (K : WJ p l e R s m args below meth c G A nL cells slots Q w2 lv (pc + 1) st) : WJ p l e R s m args below meth c G A nL cells slots Q w lv pc (.int x :: .int i :: .ref a :: st) := j_cast C q0 he hin w2 (by rw [updC_eq]; exact hw) d K
theorem j_objinit (C : Cx p s m args c cc nL own G A) {a idx : Nat} (hl : Cond.methodLink own idx Lib.objectInit ∈ AW) (hnm2 : True = True) (hf : 1 ≤ R.frames) (hlo : 12 + 8 ≤ R.locals) (hst : (st.map fun v => v.category).sum ≤ 8) (d : decode cc pc = .ok (.invokespecial idx, 3)) (K : WJ p l e R s m args below meth c G A nL cells slots Q w lv (pc + 3) st) : WJ p l e R s m args below meth c G A nL cells slots Q w lv pc (.ref a :: st) := fun H locs ls hP hD hS hl9 => W.objInit C.1 C.2.1 C.2.2.2.1 (C.2.2.2.2.1 _ hl) (C.2.2.2.2.1 _ aw_oi_inst) (C.2.2.2.2.1 _ aw_oi_code) rfl (hl9.1.trans C.2.2.1.symm) rfl d hf (by show 2 * 0 + _ + 12 ≤ _; omega) (K H locs ls hP hD hS hl9)
theorem j_gstF (C : Cx p s m args c cc nL own G A) {index : Nat} (hl : Cond.fieldLink own index "SilentDrives" "FIRST_VALUES" "[I" ∈ AW) (d : decode cc pc = .ok (.getstatic index, 3)) (K : WJ p l e R s m args below meth c G A nL cells slots Q w lv (pc + 3) (.ref (G.2.2 0) :: st)) : WJ p l e R s m args below meth c G A nL cells slots Q w lv pc st := fun H locs ls hP hD hS hl9 => va_gets C.1 C.2.1 C.2.2.2.2.2.2.2.2.1.1 hS C.2.2.2.1 (C.2.2.2.2.1 _ hl) (fun _ h => h) d (K H locs ls hP hD hS hl9)
theorem j_gstFN (C : Cx p s m args c cc nL own G A) {index : Nat} {host : String} (hl : Cond.fieldLinkNest own index "SilentDrives" "FIRST_VALUES" "[I" host ∈ nestL) (d : decode cc pc = .ok (.getstatic index, 3)) (K : WJ p l e R s m args below meth c G A nL cells slots Q w lv (pc + 3) (.ref (G.2.2 0) :: st)) : WJ p l e R s m args below meth c G A nL cells slots Q w lv pc st := fun H locs ls hP hD hS hl9 => va_getsN C.1 C.2.1 C.2.2.2.2.2.2.2.2.1.1 hS C.2.2.2.1 (va_Nw.use rfl (C.2.2.2.2.2.2.2.1.1 _ hl)) (fun _ h => h) d (K H locs ls hP hD hS hl9)
theorem j_stiF (C : Cx p s m args c cc nL own G A) {i : Int32} (hin : vp_in i 7) {v : Int32} (hv : vFirst i.toNatClampNeg = v) (d : decode cc pc = .ok (.iaload, 1)) (K : WJ p l e R s m args below meth c G A nL cells slots Q w lv (pc + 1) (.int v :: st)) : WJ p l e R s m args below meth c G A nL cells slots Q w lv pc (.int i :: .ref (G.2.2 0) :: st) := fun H locs ls hP hD hS hl9 => va_ti C.1 C.2.1 C.2.2.2.2.2.2.2.2.1.2 hS hin (by rw [hv]) d (K H locs ls hP hD hS hl9)
theorem j_gstL (C : Cx p s m args c cc nL own G A) {index : Nat} (hl : Cond.fieldLink own index "SilentDrives" "LEAST_VALUES" "[I" ∈ AW) (d : decode cc pc = .ok (.getstatic index, 3)) (K : WJ p l e R s m args below meth c G A nL cells slots Q w lv (pc + 3) (.ref (G.2.2 1) :: st)) : WJ p l e R s m args below meth c G A nL cells slots Q w lv pc st := fun H locs ls hP hD hS hl9 => va_gets C.1 C.2.1 C.2.2.2.2.2.2.2.2.2.1.1 hS C.2.2.2.1 (C.2.2.2.2.1 _ hl) (fun _ h => h) d (K H locs ls hP hD hS hl9)
theorem j_gstLN (C : Cx p s m args c cc nL own G A) {index : Nat} {host : String} (hl : Cond.fieldLinkNest own index "SilentDrives" "LEAST_VALUES" "[I" host ∈ nestL) (d : decode cc pc = .ok (.getstatic index, 3)) (K : WJ p l e R s m args below meth c G A nL cells slots Q w lv (pc + 3) (.ref (G.2.2 1) :: st)) : WJ p l e R s m args below meth c G A nL cells slots Q w lv pc st := fun H locs ls hP hD hS hl9 => va_getsN C.1 C.2.1 C.2.2.2.2.2.2.2.2.2.1.1 hS C.2.2.2.1 (va_Nw.use rfl (C.2.2.2.2.2.2.2.1.1 _ hl)) (fun _ h => h) d (K H locs ls hP hD hS hl9)
theorem j_stiL (C : Cx p s m args c cc nL own G A) {i : Int32} (hin : vp_in i 7) {v : Int32} (hv : vLeast i.toNatClampNeg = v) (d : decode cc pc = .ok (.iaload, 1)) (K : WJ p l e R s m args below meth c G A nL cells slots Q w lv (pc + 1) (.int v :: st)) : WJ p l e R s m args below meth c G A nL cells slots Q w lv pc (.int i :: .ref (G.2.2 1) :: st) := fun H locs ls hP hD hS hl9 => va_ti C.1 C.2.1 C.2.2.2.2.2.2.2.2.2.1.2 hS hin (by rw [hv]) d (K H locs ls hP hD hS hl9)
theorem j_gstM (C : Cx p s m args c cc nL own G A) {index : Nat} (hl : Cond.fieldLink own index "SilentDrives" "MOST_VALUES" "[I" ∈ AW) (d : decode cc pc = .ok (.getstatic index, 3)) (K : WJ p l e R s m args below meth c G A nL cells slots Q w lv (pc + 3) (.ref (G.2.2 2) :: st)) : WJ p l e R s m args below meth c G A nL cells slots Q w lv pc st := fun H locs ls hP hD hS hl9 => va_gets C.1 C.2.1 C.2.2.2.2.2.2.2.2.2.2.1 hS C.2.2.2.1 (C.2.2.2.2.1 _ hl) (fun _ h => h) d (K H locs ls hP hD hS hl9)
theorem j_gstMN (C : Cx p s m args c cc nL own G A) {index : Nat} {host : String} (hl : Cond.fieldLinkNest own index "SilentDrives" "MOST_VALUES" "[I" host ∈ nestL) (d : decode cc pc = .ok (.getstatic index, 3)) (K : WJ p l e R s m args below meth c G A nL cells slots Q w lv (pc + 3) (.ref (G.2.2 2) :: st)) : WJ p l e R s m args below meth c G A nL cells slots Q w lv pc st := fun H locs ls hP hD hS hl9 => va_getsN C.1 C.2.1 C.2.2.2.2.2.2.2.2.2.2.1 hS C.2.2.2.1 (va_Nw.use rfl (C.2.2.2.2.2.2.2.1.1 _ hl)) (fun _ h => h) d (K H locs ls hP hD hS hl9)
theorem j_stiM (C : Cx p s m args c cc nL own G A) {i : Int32} (hin : vp_in i 7) {v : Int32} (hv : vMost i.toNatClampNeg = v) (d : decode cc pc = .ok (.iaload, 1)) (K : WJ p l e R s m args below meth c G A nL cells slots Q w lv (pc + 1) (.int v :: st)) : WJ p l e R s m args below meth c G A nL cells slots Q w lv pc (.int i :: .ref (G.2.2 2) :: st) := fun H locs ls hP hD hS hl9 => va_ti C.1 C.2.1 C.2.2.2.2.2.2.2.2.2.2.2 hS hin (by rw [hv]) d (K H locs ls hP hD hS hl9)
theorem j_copyb (C : Cx p s m args c cc nL own G A) {idx a b : Nat} {f g : Nat → Int8} (hl : Cond.methodLink own idx arraycopyName ∈ AW) (q0 q1 : Nat) (he0 : w[q0]? = some (aB G b f)) (he1 : w[q1]? = some (aB G a g)) (hR : 1 ≤ R.frames) (hlo : 8 + (nativeFrameWords "java/lang/System" "arraycopy" 5 + 11) ≤ R.locals) (hst : (st.map fun v => v.category).sum ≤ 8) (w2 : va_W) (hw : w.set q1 (aB G a f) = w2) (d : decode cc pc = .ok (.invokestatic idx, 3)) (K : WJ p l e R s m args below meth c G A nL cells slots Q w2 lv (pc + 3) st) : WJ p l e R s m args below meth c G A nL cells slots Q w lv pc (.int 100 :: .int 0 :: .ref a :: .int 0 :: .ref b :: st) := by
  subst hw
  intro H locs ls hP hD hS hl9
  refine va_copyi C.1 C.2.1 (C.2.2.1.trans hl9.1.symm) C.2.2.2.1 (C.2.2.2.2.1 _ hl) (C.2.2.2.2.1 _ aw_ac_native) (C.2.2.2.2.1 _ aw_ac_static) (C.2.2.2.2.1 _ aw_ac_ini) C.2.2.2.2.2.1 hP hD hS q0 q1 0 0 he0 he1 rfl rfl rfl (by decide) (by decide) (by decide) (by decide) (by decide) (fun i _ => fit_b8 _) hR (by omega) d (fun H1 locs1 h1 h2 h3 => K H1 locs1 ls (va_P_at h1 (fun h => va_at_i (fun j hj => (pk_cpy_in (show 0 ≤ j from Nat.zero_le _) (show j < 0 + 100 by omega)).trans (congrArg (fun j => (f j).toInt32) (show 0 + (j - 0) = j by omega))) h)) (hD.set he1) h3 hl9)
theorem j_copyI (C : Cx p s m args c cc nL own G A) {idx a b : Nat} {f g : Nat → Int32} (hl : Cond.methodLink own idx arraycopyName ∈ AW) (q0 q1 : Nat) (he0 : w[q0]? = some (aI G b 7 f)) (he1 : w[q1]? = some (aI G a 7 g)) (hR : 1 ≤ R.frames) (hlo : 8 + (nativeFrameWords "java/lang/System" "arraycopy" 5 + 11) ≤ R.locals) (hst : (st.map fun v => v.category).sum ≤ 8) (w2 : va_W) (hw : w.set q1 (aI G a 7 f) = w2) (d : decode cc pc = .ok (.invokestatic idx, 3)) (K : WJ p l e R s m args below meth c G A nL cells slots Q w2 lv (pc + 3) st) : WJ p l e R s m args below meth c G A nL cells slots Q w lv pc (.int 7 :: .int 0 :: .ref a :: .int 0 :: .ref b :: st) := by
  subst hw
  intro H locs ls hP hD hS hl9
  refine va_copyi C.1 C.2.1 (C.2.2.1.trans hl9.1.symm) C.2.2.2.1 (C.2.2.2.2.1 _ hl) (C.2.2.2.2.1 _ aw_ac_native) (C.2.2.2.2.1 _ aw_ac_static) (C.2.2.2.2.1 _ aw_ac_ini) C.2.2.2.2.2.1 hP hD hS q0 q1 2 2 he0 he1 rfl rfl rfl (by decide) (by decide) (by decide) (by decide) (by decide) (fun i _ => rfl) hR (by omega) d (fun H1 locs1 h1 h2 h3 => K H1 locs1 ls (va_P_at h1 (fun h => va_at_i (fun j hj => (pk_cpy_in (show 0 ≤ j from Nat.zero_le _) (show j < 0 + 7 by omega)).trans (congrArg f (show 0 + (j - 0) = j by omega))) h)) (hD.set he1) h3 hl9)
end OBJ
end
section
/-! THE LEAVES: static tests; a drive and its hours -/
noncomputable def f_X4_isDrive_x1 (k : Int32) : Int32 := (if k < 0 then 0 else (if 4 ≤ k then 0 else 1))
noncomputable def f_X4_isDrive_r (k : Int32) : Int32 := (f_X4_isDrive_x1 k)
set_option maxRecDepth 100000 in
set_option maxHeartbeats 4000000 in
theorem m_X4_isDrive (l : Launch) (G : GG) (k : Int32)  : CtI l yX4_isDrive cX4_isDrive 1 (some .boolean) (RM 0) G [.int k] ([]) (f_X4_isDrive_r k) ([]) := by
  refine ct_I RX4 [(0, .int k)] rfl (by decide +kernel) (Nat.le_of_ble_eq_true rfl) rfl ?_
  intro p e s m args below meth c A C hr hk hnm
  generalize hQ : (MQ below (PostI G A (f_X4_isDrive_r k) ([])) args s (RM 0).cells (RM 0).slots A) = Q
  refine j_iload_n C dX4_isDrive_0 0 rfl ?_
  have K14 : WJ p l e (RM 0) s m args below meth c G A 1 0 0 Q ([]) [(0, .int k)] 14 [.int (f_X4_isDrive_x1 k)] := by
    generalize hw0 : f_X4_isDrive_x1 k = w0
    subst hQ; subst hw0; exact j_zret C hr hk (by unfold f_X4_isDrive_x1; (repeat' split) <;> rfl) ((show f_X4_isDrive_r k = (f_X4_isDrive_x1 k) from rfl).symm) rfl dX4_isDrive_14
  refine j_if_lt (tgt := 13) C dX4_isDrive_1 (by decide) (fun c1 => ?_) (fun c1 => ?_)
  · refine j_iconst (v := 0) C dX4_isDrive_13 (by decide) ?_
    exact j_eq rfl rfl (by rw [show f_X4_isDrive_x1 k = 0 from (if_pos c1)]) K14
  · refine j_iload_n C dX4_isDrive_4 0 rfl ?_
    refine j_iconst (v := 4) C dX4_isDrive_5 (by decide) ?_
    refine j_icmp_ge (tgt := 13) C dX4_isDrive_6 (by decide) (fun c6 => ?_) (fun c6 => ?_)
    · refine j_iconst (v := 0) C dX4_isDrive_13 (by decide) ?_
      exact j_eq rfl rfl (by rw [show f_X4_isDrive_x1 k = 0 from ((if_neg c1).trans (if_pos c6))]) K14
    · refine j_iconst (v := 1) C dX4_isDrive_9 (by decide) ?_
      refine j_goto (tgt := 14) C dX4_isDrive_10 (by decide) ?_
      exact j_eq rfl rfl (by rw [show f_X4_isDrive_x1 k = 1 from ((if_neg c1).trans (if_neg c6))]) K14
noncomputable def f_X4_isHour_x1 (k : Int32) : Int32 := (if k < 0 then 0 else (if 100 ≤ k then 0 else 1))
noncomputable def f_X4_isHour_r (k : Int32) : Int32 := (f_X4_isHour_x1 k)
set_option maxRecDepth 100000 in
set_option maxHeartbeats 4000000 in
theorem m_X4_isHour (l : Launch) (G : GG) (k : Int32)  : CtI l yX4_isHour cX4_isHour 1 (some .boolean) (RM 0) G [.int k] ([]) (f_X4_isHour_r k) ([]) := by
  refine ct_I RX4 [(0, .int k)] rfl (by decide +kernel) (Nat.le_of_ble_eq_true rfl) rfl ?_
  intro p e s m args below meth c A C hr hk hnm
  generalize hQ : (MQ below (PostI G A (f_X4_isHour_r k) ([])) args s (RM 0).cells (RM 0).slots A) = Q
  refine j_iload_n C dX4_isHour_0 0 rfl ?_
  have K15 : WJ p l e (RM 0) s m args below meth c G A 1 0 0 Q ([]) [(0, .int k)] 15 [.int (f_X4_isHour_x1 k)] := by
    generalize hw0 : f_X4_isHour_x1 k = w0
    subst hQ; subst hw0; exact j_zret C hr hk (by unfold f_X4_isHour_x1; (repeat' split) <;> rfl) ((show f_X4_isHour_r k = (f_X4_isHour_x1 k) from rfl).symm) rfl dX4_isHour_15
  refine j_if_lt (tgt := 14) C dX4_isHour_1 (by decide) (fun c1 => ?_) (fun c1 => ?_)
  · refine j_iconst (v := 0) C dX4_isHour_14 (by decide) ?_
    exact j_eq rfl rfl (by rw [show f_X4_isHour_x1 k = 0 from (if_pos c1)]) K15
  · refine j_iload_n C dX4_isHour_4 0 rfl ?_
    refine j_bipush (v := 100) C dX4_isHour_5 (by decide) ?_
    refine j_icmp_ge (tgt := 14) C dX4_isHour_7 (by decide) (fun c7 => ?_) (fun c7 => ?_)
    · refine j_iconst (v := 0) C dX4_isHour_14 (by decide) ?_
      exact j_eq rfl rfl (by rw [show f_X4_isHour_x1 k = 0 from ((if_neg c1).trans (if_pos c7))]) K15
    · refine j_iconst (v := 1) C dX4_isHour_10 (by decide) ?_
      refine j_goto (tgt := 15) C dX4_isHour_11 (by decide) ?_
      exact j_eq rfl rfl (by rw [show f_X4_isHour_x1 k = 1 from ((if_neg c1).trans (if_neg c7))]) K15
noncomputable def f_X4_isSlot_x1 (k : Int32) : Int32 := (if k < 0 then 0 else (if 2 ≤ k then 0 else 1))
noncomputable def f_X4_isSlot_r (k : Int32) : Int32 := (f_X4_isSlot_x1 k)
set_option maxRecDepth 100000 in
set_option maxHeartbeats 4000000 in
theorem m_X4_isSlot (l : Launch) (G : GG) (k : Int32)  : CtI l yX4_isSlot cX4_isSlot 1 (some .boolean) (RM 0) G [.int k] ([]) (f_X4_isSlot_r k) ([]) := by
  refine ct_I RX4 [(0, .int k)] rfl (by decide +kernel) (Nat.le_of_ble_eq_true rfl) rfl ?_
  intro p e s m args below meth c A C hr hk hnm
  generalize hQ : (MQ below (PostI G A (f_X4_isSlot_r k) ([])) args s (RM 0).cells (RM 0).slots A) = Q
  refine j_iload_n C dX4_isSlot_0 0 rfl ?_
  have K14 : WJ p l e (RM 0) s m args below meth c G A 1 0 0 Q ([]) [(0, .int k)] 14 [.int (f_X4_isSlot_x1 k)] := by
    generalize hw0 : f_X4_isSlot_x1 k = w0
    subst hQ; subst hw0; exact j_zret C hr hk (by unfold f_X4_isSlot_x1; (repeat' split) <;> rfl) ((show f_X4_isSlot_r k = (f_X4_isSlot_x1 k) from rfl).symm) rfl dX4_isSlot_14
  refine j_if_lt (tgt := 13) C dX4_isSlot_1 (by decide) (fun c1 => ?_) (fun c1 => ?_)
  · refine j_iconst (v := 0) C dX4_isSlot_13 (by decide) ?_
    exact j_eq rfl rfl (by rw [show f_X4_isSlot_x1 k = 0 from (if_pos c1)]) K14
  · refine j_iload_n C dX4_isSlot_4 0 rfl ?_
    refine j_iconst (v := 2) C dX4_isSlot_5 (by decide) ?_
    refine j_icmp_ge (tgt := 13) C dX4_isSlot_6 (by decide) (fun c6 => ?_) (fun c6 => ?_)
    · refine j_iconst (v := 0) C dX4_isSlot_13 (by decide) ?_
      exact j_eq rfl rfl (by rw [show f_X4_isSlot_x1 k = 0 from ((if_neg c1).trans (if_pos c6))]) K14
    · refine j_iconst (v := 1) C dX4_isSlot_9 (by decide) ?_
      refine j_goto (tgt := 14) C dX4_isSlot_10 (by decide) ?_
      exact j_eq rfl rfl (by rw [show f_X4_isSlot_x1 k = 1 from ((if_neg c1).trans (if_neg c6))]) K14
noncomputable def f_X4_arePassable_x1 (k : Int32) : Int32 := (if k < 1 then 0 else (if 600 < k then 0 else 1))
noncomputable def f_X4_arePassable_r (k : Int32) : Int32 := (f_X4_arePassable_x1 k)
set_option maxRecDepth 100000 in
set_option maxHeartbeats 4000000 in
theorem m_X4_arePassable (l : Launch) (G : GG) (k : Int32)  : CtI l yX4_arePassable cX4_arePassable 1 (some .boolean) (RM 0) G [.int k] ([]) (f_X4_arePassable_r k) ([]) := by
  refine ct_I RX4 [(0, .int k)] rfl (by decide +kernel) (Nat.le_of_ble_eq_true rfl) rfl ?_
  intro p e s m args below meth c A C hr hk hnm
  generalize hQ : (MQ below (PostI G A (f_X4_arePassable_r k) ([])) args s (RM 0).cells (RM 0).slots A) = Q
  refine j_iload_n C dX4_arePassable_0 0 rfl ?_
  refine j_iconst (v := 1) C dX4_arePassable_1 (by decide) ?_
  have K17 : WJ p l e (RM 0) s m args below meth c G A 1 0 0 Q ([]) [(0, .int k)] 17 [.int (f_X4_arePassable_x1 k)] := by
    generalize hw0 : f_X4_arePassable_x1 k = w0
    subst hQ; subst hw0; exact j_zret C hr hk (by unfold f_X4_arePassable_x1; (repeat' split) <;> rfl) ((show f_X4_arePassable_r k = (f_X4_arePassable_x1 k) from rfl).symm) rfl dX4_arePassable_17
  refine j_icmp_lt (tgt := 16) C dX4_arePassable_2 (by decide) (fun c2 => ?_) (fun c2 => ?_)
  · refine j_iconst (v := 0) C dX4_arePassable_16 (by decide) ?_
    exact j_eq rfl rfl (by rw [show f_X4_arePassable_x1 k = 0 from (if_pos c2)]) K17
  · refine j_iload_n C dX4_arePassable_5 0 rfl ?_
    refine j_sipush (v := 600) C dX4_arePassable_6 (by decide) ?_
    refine j_icmp_gt (tgt := 16) C dX4_arePassable_9 (by decide) (fun c9 => ?_) (fun c9 => ?_)
    · refine j_iconst (v := 0) C dX4_arePassable_16 (by decide) ?_
      exact j_eq rfl rfl (by rw [show f_X4_arePassable_x1 k = 0 from ((if_neg c2).trans (if_pos c9))]) K17
    · refine j_iconst (v := 1) C dX4_arePassable_12 (by decide) ?_
      refine j_goto (tgt := 17) C dX4_arePassable_13 (by decide) ?_
      exact j_eq rfl rfl (by rw [show f_X4_arePassable_x1 k = 1 from ((if_neg c2).trans (if_neg c9))]) K17
noncomputable def f_X4_twinOf_x1 (k : Int32) : Int32 := (if k - k / 2 * 2 = 0 then k + 1 else k - 1)
noncomputable def f_X4_twinOf_r (k : Int32) : Int32 := (f_X4_twinOf_x1 k)
set_option maxRecDepth 100000 in
set_option maxHeartbeats 4000000 in
theorem m_X4_twinOf (l : Launch) (G : GG) (k : Int32)  : CtI l yX4_twinOf cX4_twinOf 1 (some .int) (RM 0) G [.int k] ([]) (f_X4_twinOf_r k) ([]) := by
  refine ct_I RX4 [(0, .int k)] rfl (by decide +kernel) (Nat.le_of_ble_eq_true rfl) rfl ?_
  intro p e s m args below meth c A C hr hk hnm
  generalize hQ : (MQ below (PostI G A (f_X4_twinOf_r k) ([])) args s (RM 0).cells (RM 0).slots A) = Q
  refine j_iload_n C dX4_twinOf_0 0 rfl ?_
  refine j_iconst (v := 2) C dX4_twinOf_1 (by decide) ?_
  refine j_irem C dX4_twinOf_2 (by decide) rfl ?_
  have K15 : WJ p l e (RM 0) s m args below meth c G A 1 0 0 Q ([]) [(0, .int k)] 15 [.int (f_X4_twinOf_x1 k)] := by
    generalize hw0 : f_X4_twinOf_x1 k = w0
    subst hQ; subst hw0; exact j_iret C hr hk ((show f_X4_twinOf_r k = (f_X4_twinOf_x1 k) from rfl).symm) rfl dX4_twinOf_15
  refine j_if_ne (tgt := 12) C dX4_twinOf_3 (by decide) (fun c3 => ?_) (fun c3 => ?_)
  · refine j_iload_n C dX4_twinOf_12 0 rfl ?_
    refine j_iconst (v := 1) C dX4_twinOf_13 (by decide) ?_
    refine j_isub C dX4_twinOf_14 rfl ?_
    exact j_eq rfl rfl (by rw [show f_X4_twinOf_x1 k = k - 1 from (if_neg c3)]) K15
  · refine j_iload_n C dX4_twinOf_6 0 rfl ?_
    refine j_iconst (v := 1) C dX4_twinOf_7 (by decide) ?_
    refine j_iadd C dX4_twinOf_8 rfl ?_
    refine j_goto (tgt := 15) C dX4_twinOf_9 (by decide) ?_
    exact j_eq rfl rfl (by rw [show f_X4_twinOf_x1 k = k + 1 from (if_pos c3)]) K15
theorem vin_of {k : Int32} {n : Nat} {N : Int32} (hN : N.toInt = n) (h0 : ¬ k < 0) (h1 : ¬ N ≤ k) : vp_in k n := vp_in_iff.mpr ⟨by have := Int32.not_lt.mp h0; simpa using Int32.le_iff_toInt_le.mp this, by have := Int32.not_le.mp h1; rw [Int32.lt_iff_toInt_lt, hN] at this; exact this⟩
theorem vin_hour {k : Int32} (h : ¬ f_X4_isHour_r k = 0) : vp_in k 100 := by
  unfold f_X4_isHour_r f_X4_isHour_x1 at h
  split at h
  · exact absurd rfl h
  · rename_i h0
    split at h
    · exact absurd rfl h
    · rename_i h1
      exact vin_of (N := 100) rfl h0 h1
/-- how many of the first n hours are of a kind -/
def cntH (f : Nat → Int8) (k : Int32) : Nat → Int32
  | 0 => 0
  | n + 1 => if (f n).toInt32 = k then cntH f k n + 1 else cntH f k n

noncomputable def f_X0_hourState_x2 (v : DO) (f : Nat → Int8) (k : Int32) : Int32 := (if f_X4_isHour_r k = 0 then 0 else (f k.toNatClampNeg).toInt32)
noncomputable def f_X0_hourState_r (v : DO) (f : Nat → Int8) (k : Int32) : Int32 := (f_X0_hourState_x2 v f k)
set_option maxRecDepth 100000 in
set_option maxHeartbeats 4000000 in
theorem m_X0_hourState (l : Launch) (G : GG) (a h : Nat) (v : DO) (f : Nat → Int8) (k : Int32)  : CtI l yX0_hourState cX0_hourState 2 (some .int) (RM 1) G [.ref a, .int k] ([oD a h v, aB G h f]) (f_X0_hourState_r v f k) ([oD a h v, aB G h f]) := by
  refine ct_I RX0 [(0, .ref a), (1, .int k)] rfl (by decide +kernel) (Nat.le_of_ble_eq_true rfl) rfl ?_
  intro p e s m args below meth c A C hr hk hnm
  generalize hQ : (MQ below (PostI G A (f_X0_hourState_r v f k) ([oD a h v, aB G h f])) args s (RM 1).cells (RM 1).slots A) = Q
  refine j_iload_n C dX0_hourState_0 1 rfl ?_
  refine j_pureSN_i (r := f_X4_isHour_r k) C (m_X4_isHour l G k) 1 kw_215 (List.mem_of_getElem? (i := 4) rfl) kw_1 kw_214 (by decide +kernel) ⟨(Nat.le_of_ble_eq_true rfl), (Nat.le_of_ble_eq_true rfl)⟩ rfl rfl (Nat.le_of_ble_eq_true rfl) dX0_hourState_1 ⟨(Nat.le_of_ble_eq_true rfl), (Nat.le_of_ble_eq_true rfl)⟩ ?_
  have K17 : WJ p l e (RM 1) s m args below meth c G A 2 0 0 Q ([oD a h v, aB G h f]) [(0, .ref a), (1, .int k)] 17 [.int (f_X0_hourState_x2 v f k)] := by
    generalize hw0 : f_X0_hourState_x2 v f k = w0
    subst hQ; subst hw0; exact j_iret C hr hk ((show f_X0_hourState_r v f k = (f_X0_hourState_x2 v f k) from rfl).symm) rfl dX0_hourState_17
  refine j_if_eq (tgt := 16) C dX0_hourState_4 (by decide) (fun c4 => ?_) (fun c4 => ?_)
  · refine j_iconst (v := 0) C dX0_hourState_16 (by decide) ?_
    exact j_eq rfl rfl (by rw [show f_X0_hourState_x2 v f k = 0 from (if_pos c4)]) K17
  · refine j_aload_n C dX0_hourState_7 0 rfl ?_
    refine j_get C kin0 rfl 0 rfl 11 (by decide) kw_63 rfl (v := .ref h) rfl dX0_hourState_8 ?_
    refine j_iload_n C dX0_hourState_11 1 rfl ?_
    refine j_bald C 1 rfl (vin_hour c4) (v := (f k.toNatClampNeg).toInt32) rfl dX0_hourState_12 ?_
    refine j_goto (tgt := 17) C dX0_hourState_13 (by decide) ?_
    exact j_eq rfl rfl (by rw [show f_X0_hourState_x2 v f k = (f k.toNatClampNeg).toInt32 from (if_neg c4)]) K17
noncomputable def f_X0_markHour_v2 (v : DO) (f : Nat → Int8) (k : Int32) (x : Int32) : (Nat → Int8) := (if f_X4_isHour_r k = 0 then f else upd8 f k.toNatClampNeg x.toInt8.toInt32)
noncomputable def f_X0_markHour_f (v : DO) (f : Nat → Int8) (k : Int32) (x : Int32) : (Nat → Int8) := (f_X0_markHour_v2 v f k x)
set_option maxRecDepth 100000 in
set_option maxHeartbeats 4000000 in
theorem m_X0_markHour (l : Launch) (G : GG) (a h : Nat) (v : DO) (f : Nat → Int8) (k : Int32) (x : Int32)  : CtV l yX0_markHour cX0_markHour 3 (none : Option Jvm.ClassFile.FieldType) (RM 1) G [.ref a, .int k, .int x] ([oD a h v, aB G h f]) ([oD a h v, aB G h (f_X0_markHour_f v f k x)]) := by
  refine ct_V RX0 [(0, .ref a), (1, .int k), (2, .int x)] rfl (by decide +kernel) (Nat.le_of_ble_eq_true rfl) rfl ?_
  intro p e s m args below meth c A C hr hk hnm
  generalize hQ : (MQ below (PostV G A ([oD a h v, aB G h (f_X0_markHour_f v f k x)])) args s (RM 1).cells (RM 1).slots A) = Q
  refine j_iload_n C dX0_markHour_0 1 rfl ?_
  refine j_pureSN_i (r := f_X4_isHour_r k) C (m_X4_isHour l G k) 1 kw_215 (List.mem_of_getElem? (i := 4) rfl) kw_1 kw_214 (by decide +kernel) ⟨(Nat.le_of_ble_eq_true rfl), (Nat.le_of_ble_eq_true rfl)⟩ rfl rfl (Nat.le_of_ble_eq_true rfl) dX0_markHour_1 ⟨(Nat.le_of_ble_eq_true rfl), (Nat.le_of_ble_eq_true rfl)⟩ ?_
  have K15 : WJ p l e (RM 1) s m args below meth c G A 3 0 0 Q ([oD a h v, aB G h (f_X0_markHour_v2 v f k x)]) [(0, .ref a), (1, .int k), (2, .int x)] 15 [] := by
    generalize hw0 : f_X0_markHour_v2 v f k x = w0
    subst hQ; subst hw0; exact j_vret C hr hk (by rw [show f_X0_markHour_f v f k x = (f_X0_markHour_v2 v f k x) from rfl]) dX0_markHour_15
  refine j_if_eq (tgt := 15) C dX0_markHour_4 (by decide) (fun c4 => ?_) (fun c4 => ?_)
  · exact j_eq (by rw [show f_X0_markHour_v2 v f k x = f from (if_pos c4)]) rfl rfl K15
  · refine j_aload_n C dX0_markHour_7 0 rfl ?_
    refine j_get C kin0 rfl 0 rfl 11 (by decide) kw_63 rfl (v := .ref h) rfl dX0_markHour_8 ?_
    refine j_iload_n C dX0_markHour_11 1 rfl ?_
    refine j_iload_n C dX0_markHour_12 2 rfl ?_
    refine j_i2b C dX0_markHour_13 rfl ?_
    refine j_bast8 C 1 rfl (vin_hour c4) ([oD a h v, aB G h (upd8 f k.toNatClampNeg x.toInt8.toInt32)]) rfl dX0_markHour_14 ?_
    exact j_eq (by rw [show f_X0_markHour_v2 v f k x = upd8 f k.toNatClampNeg x.toInt8.toInt32 from (if_neg c4)]) rfl rfl K15
noncomputable def f_X0_isQuietIn_x2 (v : DO) (f : Nat → Int8) (k : Int32) : Int32 := (if f_X0_hourState_r v f k = 0 then 0 else 1)
noncomputable def f_X0_isQuietIn_r (v : DO) (f : Nat → Int8) (k : Int32) : Int32 := (f_X0_isQuietIn_x2 v f k)
set_option maxRecDepth 100000 in
set_option maxHeartbeats 4000000 in
theorem m_X0_isQuietIn (l : Launch) (G : GG) (a h : Nat) (v : DO) (f : Nat → Int8) (k : Int32)  : CtI l yX0_isQuietIn cX0_isQuietIn 2 (some .boolean) (RM 2) G [.ref a, .int k] ([oD a h v, aB G h f]) (f_X0_isQuietIn_r v f k) ([oD a h v, aB G h f]) := by
  refine ct_I RX0 [(0, .ref a), (1, .int k)] rfl (by decide +kernel) (Nat.le_of_ble_eq_true rfl) rfl ?_
  intro p e s m args below meth c A C hr hk hnm
  generalize hQ : (MQ below (PostI G A (f_X0_isQuietIn_r v f k) ([oD a h v, aB G h f])) args s (RM 2).cells (RM 2).slots A) = Q
  refine j_aload_n C dX0_isQuietIn_0 0 rfl ?_
  refine j_iload_n C dX0_isQuietIn_1 1 rfl ?_
  refine j_callV_i (r := f_X0_hourState_r v f k) (wc' := [oD a h v, aB G h f]) C (m_X0_hourState l G a h v f k) rfl 0 rfl 1 (gV kw_267 kw_221 kw_222 kw_4 kw_223) (by decide +kernel) ⟨(Nat.le_of_ble_eq_true rfl), (Nat.le_of_ble_eq_true rfl)⟩ rfl rfl (Nat.le_of_ble_eq_true rfl) dX0_isQuietIn_2 ⟨(Nat.le_of_ble_eq_true rfl), (Nat.le_of_ble_eq_true rfl)⟩ [] [oD a h v, aB G h f] (perm_idx [0, 1] 2 rfl (by decide +kernel) rfl) rfl ?_
  have K13 : WJ p l e (RM 2) s m args below meth c G A 2 0 0 Q ([oD a h v, aB G h f]) [(0, .ref a), (1, .int k)] 13 [.int (f_X0_isQuietIn_x2 v f k)] := by
    generalize hw0 : f_X0_isQuietIn_x2 v f k = w0
    subst hQ; subst hw0; exact j_zret C hr hk (by unfold f_X0_isQuietIn_x2; (repeat' split) <;> rfl) ((show f_X0_isQuietIn_r v f k = (f_X0_isQuietIn_x2 v f k) from rfl).symm) rfl dX0_isQuietIn_13
  refine j_if_eq (tgt := 12) C dX0_isQuietIn_5 (by decide) (fun c5 => ?_) (fun c5 => ?_)
  · refine j_iconst (v := 0) C dX0_isQuietIn_12 (by decide) ?_
    exact j_eq rfl rfl (by rw [show f_X0_isQuietIn_x2 v f k = 0 from (if_pos c5)]) K13
  · refine j_iconst (v := 1) C dX0_isQuietIn_8 (by decide) ?_
    refine j_goto (tgt := 13) C dX0_isQuietIn_9 (by decide) ?_
    exact j_eq rfl rfl (by rw [show f_X0_isQuietIn_x2 v f k = 1 from (if_neg c5)]) K13
noncomputable def f_X0_takeStream_v1 (v : DO) (k : Int32) : DO := (if v.1 8 ≤ 0 then v else (if k - k / (v.1 8) * (v.1 8) = 0 then (upd v.1 3 ((v.1 3) + (v.1 9)), v.2) else v))
noncomputable def f_X0_takeStream_v (v : DO) (k : Int32) : DO := (f_X0_takeStream_v1 v k)
set_option maxRecDepth 100000 in
set_option maxHeartbeats 4000000 in
theorem m_X0_takeStream (l : Launch) (G : GG) (a h : Nat) (v : DO) (k : Int32)  : CtV l yX0_takeStream cX0_takeStream 2 (none : Option Jvm.ClassFile.FieldType) (RM 0) G [.ref a, .int k] ([oD a h v]) ([oD a h (f_X0_takeStream_v v k)]) := by
  refine ct_V RX0 [(0, .ref a), (1, .int k)] rfl (by decide +kernel) (Nat.le_of_ble_eq_true rfl) rfl ?_
  intro p e s m args below meth c A C hr hk hnm
  generalize hQ : (MQ below (PostV G A ([oD a h (f_X0_takeStream_v v k)])) args s (RM 0).cells (RM 0).slots A) = Q
  refine j_aload_n C dX0_takeStream_0 0 rfl ?_
  refine j_get C kin0 rfl 0 rfl 8 (by decide) kw_54 rfl (v := .int (v.1 8)) rfl dX0_takeStream_1 ?_
  have K29 : WJ p l e (RM 0) s m args below meth c G A 2 0 0 Q ([oD a h (f_X0_takeStream_v1 v k)]) [(0, .ref a), (1, .int k)] 29 [] := by
    generalize hw0 : f_X0_takeStream_v1 v k = w0
    subst hQ; subst hw0; exact j_vret C hr hk (by rw [show f_X0_takeStream_v v k = (f_X0_takeStream_v1 v k) from rfl]) dX0_takeStream_29
  refine j_if_le (tgt := 29) C dX0_takeStream_4 (by decide) (fun c4 => ?_) (fun c4 => ?_)
  · exact j_eq (by rw [show f_X0_takeStream_v1 v k = v from (if_pos c4)]) rfl rfl K29
  · refine j_iload_n C dX0_takeStream_7 1 rfl ?_
    refine j_aload_n C dX0_takeStream_8 0 rfl ?_
    refine j_get C kin0 rfl 0 rfl 8 (by decide) kw_54 rfl (v := .int (v.1 8)) rfl dX0_takeStream_9 ?_
    refine j_irem C dX0_takeStream_12 (by intro h; rw [h] at c4; exact absurd c4 (by decide)) rfl ?_
    refine j_if_ne (tgt := 29) C dX0_takeStream_13 (by decide) (fun c13 => ?_) (fun c13 => ?_)
    · exact j_eq (by rw [show f_X0_takeStream_v1 v k = v from ((if_neg c4).trans (if_neg c13))]) rfl rfl K29
    · refine j_aload_n C dX0_takeStream_16 0 rfl ?_
      refine j_dup C dX0_takeStream_17 rfl ?_
      refine j_get C kin0 rfl 0 rfl 3 (by decide) kw_41 rfl (v := .int (v.1 3)) rfl dX0_takeStream_18 ?_
      refine j_aload_n C dX0_takeStream_21 0 rfl ?_
      refine j_get C kin0 rfl 0 rfl 9 (by decide) kw_57 rfl (v := .int (v.1 9)) rfl dX0_takeStream_22 ?_
      refine j_iadd C dX0_takeStream_25 rfl ?_
      refine j_put C kin0 rfl 0 rfl 3 (by decide) kw_41 rfl tyX0 tyX0_ok nmX0 rfl rfl rfl (Nat.le_of_ble_eq_true rfl) ([oD a h (upd v.1 3 ((v.1 3) + (v.1 9)), v.2)]) rfl dX0_takeStream_26 ?_
      exact j_eq (by rw [show f_X0_takeStream_v1 v k = (upd v.1 3 ((v.1 3) + (v.1 9)), v.2) from ((if_neg c4).trans (if_pos c13))]) rfl rfl K29
noncomputable def f_X0_fillCells_v (v : DO) (k : Int32) : DO := (upd (upd (upd v.1 0 ((v.1 0) - k)) 1 ((v.1 1) + k)) 5 ((v.1 5) + k), v.2)
set_option maxRecDepth 100000 in
set_option maxHeartbeats 4000000 in
theorem m_X0_fillCells (l : Launch) (G : GG) (a h : Nat) (v : DO) (k : Int32)  : CtV l yX0_fillCells cX0_fillCells 2 (none : Option Jvm.ClassFile.FieldType) (RM 0) G [.ref a, .int k] ([oD a h v]) ([oD a h (f_X0_fillCells_v v k)]) := by
  refine ct_V RX0 [(0, .ref a), (1, .int k)] rfl (by decide +kernel) (Nat.le_of_ble_eq_true rfl) rfl ?_
  intro p e s m args below meth c A C hr hk hnm
  generalize hQ : (MQ below (PostV G A ([oD a h (f_X0_fillCells_v v k)])) args s (RM 0).cells (RM 0).slots A) = Q
  refine j_aload_n C dX0_fillCells_0 0 rfl ?_
  refine j_dup C dX0_fillCells_1 rfl ?_
  refine j_get C kin0 rfl 0 rfl 0 (by decide) kw_33 rfl (v := .int (v.1 0)) rfl dX0_fillCells_2 ?_
  refine j_iload_n C dX0_fillCells_5 1 rfl ?_
  refine j_isub C dX0_fillCells_6 rfl ?_
  refine j_put C kin0 rfl 0 rfl 0 (by decide) kw_33 rfl tyX0 tyX0_ok nmX0 rfl rfl rfl (Nat.le_of_ble_eq_true rfl) ([oD a h (upd v.1 0 ((v.1 0) - k), v.2)]) rfl dX0_fillCells_7 ?_
  refine j_aload_n C dX0_fillCells_10 0 rfl ?_
  refine j_dup C dX0_fillCells_11 rfl ?_
  refine j_get C kin0 rfl 0 rfl 1 (by decide) kw_36 rfl (v := .int (v.1 1)) rfl dX0_fillCells_12 ?_
  refine j_iload_n C dX0_fillCells_15 1 rfl ?_
  refine j_iadd C dX0_fillCells_16 rfl ?_
  refine j_put C kin0 rfl 0 rfl 1 (by decide) kw_36 rfl tyX0 tyX0_ok nmX0 rfl rfl rfl (Nat.le_of_ble_eq_true rfl) ([oD a h (upd (upd v.1 0 ((v.1 0) - k)) 1 ((v.1 1) + k), v.2)]) rfl dX0_fillCells_17 ?_
  refine j_aload_n C dX0_fillCells_20 0 rfl ?_
  refine j_dup C dX0_fillCells_21 rfl ?_
  refine j_get C kin0 rfl 0 rfl 5 (by decide) kw_47 rfl (v := .int (v.1 5)) rfl dX0_fillCells_22 ?_
  refine j_iload_n C dX0_fillCells_25 1 rfl ?_
  refine j_iadd C dX0_fillCells_26 rfl ?_
  refine j_put C kin0 rfl 0 rfl 5 (by decide) kw_47 rfl tyX0 tyX0_ok nmX0 rfl rfl rfl (Nat.le_of_ble_eq_true rfl) ([oD a h (upd (upd (upd v.1 0 ((v.1 0) - k)) 1 ((v.1 1) + k)) 5 ((v.1 5) + k), v.2)]) rfl dX0_fillCells_27 ?_
  subst hQ; exact j_vret C hr hk (by rw [show f_X0_fillCells_v v k = (upd (upd (upd v.1 0 ((v.1 0) - k)) 1 ((v.1 1) + k)) 5 ((v.1 5) + k), v.2) from rfl]) dX0_fillCells_30
noncomputable def f_X0_takeBackFrom_v (v : DO) (t : DO) : DO := f_X0_fillCells_v v (imin (t.1 2) (v.1 0))
noncomputable def f_X0_takeBackFrom_t (v : DO) (t : DO) : DO := (upd (upd t.1 2 ((t.1 2) - (imin (t.1 2) (v.1 0)))) 1 ((t.1 1) + (imin (t.1 2) (v.1 0))), t.2)
set_option maxRecDepth 100000 in
set_option maxHeartbeats 4000000 in
theorem m_X0_takeBackFrom (l : Launch) (G : GG) (a b h g : Nat) (v : DO) (t : DO)  : CtV l yX0_takeBackFrom cX0_takeBackFrom 3 (none : Option Jvm.ClassFile.FieldType) (RM 1) G [.ref a, .ref b] ([oD a h v, oD b g t]) ([oD a h (f_X0_takeBackFrom_v v t), oD b g (f_X0_takeBackFrom_t v t)]) := by
  refine ct_V RX0 [(0, .ref a), (1, .ref b)] rfl (by decide +kernel) (Nat.le_of_ble_eq_true rfl) rfl ?_
  intro p e s m args below meth c A C hr hk hnm
  generalize hQ : (MQ below (PostV G A ([oD a h (f_X0_takeBackFrom_v v t), oD b g (f_X0_takeBackFrom_t v t)])) args s (RM 1).cells (RM 1).slots A) = Q
  refine j_aload_n C dX0_takeBackFrom_0 1 rfl ?_
  refine j_get C kin0 rfl 1 rfl 2 (by decide) kw_39 rfl (v := .int (t.1 2)) rfl dX0_takeBackFrom_1 ?_
  refine j_aload_n C dX0_takeBackFrom_4 0 rfl ?_
  refine j_get C kin0 rfl 0 rfl 0 (by decide) kw_33 rfl (v := .int (v.1 0)) rfl dX0_takeBackFrom_5 ?_
  refine j_mmin C kw_279 (Nat.le_of_ble_eq_true rfl) (Nat.le_of_ble_eq_true rfl) ⟨(Nat.le_of_ble_eq_true rfl), (Nat.le_of_ble_eq_true rfl)⟩ dX0_takeBackFrom_8 (v := imin (t.1 2) (v.1 0)) (imin_eq _ _).symm ?_
  refine j_istore_n C [(2, .int (imin (t.1 2) (v.1 0))), (0, .ref a), (1, .ref b)] dX0_takeBackFrom_11 (by decide) rfl ?_
  refine j_aload_n C dX0_takeBackFrom_12 2 rfl ?_
  refine j_dup C dX0_takeBackFrom_13 rfl ?_
  refine j_get C kin0 rfl 1 rfl 2 (by decide) kw_39 rfl (v := .int (t.1 2)) rfl dX0_takeBackFrom_14 ?_
  refine j_iload_n C dX0_takeBackFrom_17 0 rfl ?_
  refine j_isub C dX0_takeBackFrom_18 rfl ?_
  refine j_put C kin0 rfl 1 rfl 2 (by decide) kw_39 rfl tyX0 tyX0_ok nmX0 rfl rfl rfl (Nat.le_of_ble_eq_true rfl) ([oD a h v, oD b g (upd t.1 2 ((t.1 2) - (imin (t.1 2) (v.1 0))), t.2)]) rfl dX0_takeBackFrom_19 ?_
  refine j_aload_n C dX0_takeBackFrom_22 2 rfl ?_
  refine j_dup C dX0_takeBackFrom_23 rfl ?_
  refine j_get C kin0 rfl 1 rfl 1 (by decide) kw_36 rfl (v := .int (t.1 1)) rfl dX0_takeBackFrom_24 ?_
  refine j_iload_n C dX0_takeBackFrom_27 0 rfl ?_
  refine j_iadd C dX0_takeBackFrom_28 rfl ?_
  refine j_put C kin0 rfl 1 rfl 1 (by decide) kw_36 rfl tyX0 tyX0_ok nmX0 rfl rfl rfl (Nat.le_of_ble_eq_true rfl) ([oD a h v, oD b g (upd (upd t.1 2 ((t.1 2) - (imin (t.1 2) (v.1 0)))) 1 ((t.1 1) + (imin (t.1 2) (v.1 0))), t.2)]) rfl dX0_takeBackFrom_29 ?_
  refine j_aload_n C dX0_takeBackFrom_32 1 rfl ?_
  refine j_iload_n C dX0_takeBackFrom_33 0 rfl ?_
  refine j_callV_v (wc' := [oD a h (f_X0_fillCells_v v (imin (t.1 2) (v.1 0)))]) C (m_X0_fillCells l G a h v (imin (t.1 2) (v.1 0))) rfl 0 rfl 1 (gV kw_280 kw_281 kw_758 kw_4 kw_282) (by decide +kernel) ⟨(Nat.le_of_ble_eq_true rfl), (Nat.le_of_ble_eq_true rfl)⟩ rfl rfl (Nat.le_of_ble_eq_true rfl) dX0_takeBackFrom_34 ⟨(Nat.le_of_ble_eq_true rfl), (Nat.le_of_ble_eq_true rfl)⟩ [oD b g (upd (upd t.1 2 ((t.1 2) - (imin (t.1 2) (v.1 0)))) 1 ((t.1 1) + (imin (t.1 2) (v.1 0))), t.2)] [oD a h (f_X0_fillCells_v v (imin (t.1 2) (v.1 0))), oD b g (upd (upd t.1 2 ((t.1 2) - (imin (t.1 2) (v.1 0)))) 1 ((t.1 1) + (imin (t.1 2) (v.1 0))), t.2)] (perm_idx [0, 1] 2 rfl (by decide +kernel) rfl) rfl ?_
  subst hQ; exact j_vret C hr hk (by rw [show f_X0_takeBackFrom_v v t = f_X0_fillCells_v v (imin (t.1 2) (v.1 0)) from rfl, show f_X0_takeBackFrom_t v t = (upd (upd t.1 2 ((t.1 2) - (imin (t.1 2) (v.1 0)))) 1 ((t.1 1) + (imin (t.1 2) (v.1 0))), t.2) from rfl]) dX0_takeBackFrom_37
noncomputable def f_X0_writeHeld_vq1 (v : DO) : DO := f_X0_fillCells_v (upd v.1 3 ((v.1 3) - (imin (v.1 3) (v.1 0))), v.2) (imin (v.1 3) (v.1 0))
noncomputable def f_X0_writeHeld_v (v : DO) : DO := (f_X0_writeHeld_vq1 v)
set_option maxRecDepth 100000 in
set_option maxHeartbeats 4000000 in
theorem m_X0_writeHeld (l : Launch) (G : GG) (a h : Nat) (v : DO)  : CtV l yX0_writeHeld cX0_writeHeld 2 (none : Option Jvm.ClassFile.FieldType) (RM 1) G [.ref a] ([oD a h v]) ([oD a h (f_X0_writeHeld_v v)]) := by
  refine ct_V RX0 [(0, .ref a)] rfl (by decide +kernel) (Nat.le_of_ble_eq_true rfl) rfl ?_
  intro p e s m args below meth c A C hr hk hnm
  generalize hQ : (MQ below (PostV G A ([oD a h (f_X0_writeHeld_v v)])) args s (RM 1).cells (RM 1).slots A) = Q
  refine j_aload_n C dX0_writeHeld_0 0 rfl ?_
  refine j_get C kin0 rfl 0 rfl 3 (by decide) kw_41 rfl (v := .int (v.1 3)) rfl dX0_writeHeld_1 ?_
  refine j_aload_n C dX0_writeHeld_4 0 rfl ?_
  refine j_get C kin0 rfl 0 rfl 0 (by decide) kw_33 rfl (v := .int (v.1 0)) rfl dX0_writeHeld_5 ?_
  refine j_mmin C kw_279 (Nat.le_of_ble_eq_true rfl) (Nat.le_of_ble_eq_true rfl) ⟨(Nat.le_of_ble_eq_true rfl), (Nat.le_of_ble_eq_true rfl)⟩ dX0_writeHeld_8 (v := imin (v.1 3) (v.1 0)) (imin_eq _ _).symm ?_
  refine j_istore_n C [(1, .int (imin (v.1 3) (v.1 0))), (0, .ref a)] dX0_writeHeld_11 (by decide) rfl ?_
  refine j_aload_n C dX0_writeHeld_12 1 rfl ?_
  refine j_dup C dX0_writeHeld_13 rfl ?_
  refine j_get C kin0 rfl 0 rfl 3 (by decide) kw_41 rfl (v := .int (v.1 3)) rfl dX0_writeHeld_14 ?_
  refine j_iload_n C dX0_writeHeld_17 0 rfl ?_
  refine j_isub C dX0_writeHeld_18 rfl ?_
  refine j_put C kin0 rfl 0 rfl 3 (by decide) kw_41 rfl tyX0 tyX0_ok nmX0 rfl rfl rfl (Nat.le_of_ble_eq_true rfl) ([oD a h (upd v.1 3 ((v.1 3) - (imin (v.1 3) (v.1 0))), v.2)]) rfl dX0_writeHeld_19 ?_
  refine j_aload_n C dX0_writeHeld_22 1 rfl ?_
  refine j_iload_n C dX0_writeHeld_23 0 rfl ?_
  refine j_callV_v (wc' := [oD a h (f_X0_fillCells_v (upd v.1 3 ((v.1 3) - (imin (v.1 3) (v.1 0))), v.2) (imin (v.1 3) (v.1 0)))]) C (m_X0_fillCells l G a h (upd v.1 3 ((v.1 3) - (imin (v.1 3) (v.1 0))), v.2) (imin (v.1 3) (v.1 0))) rfl 0 rfl 1 (gV kw_280 kw_281 kw_758 kw_4 kw_282) (by decide +kernel) ⟨(Nat.le_of_ble_eq_true rfl), (Nat.le_of_ble_eq_true rfl)⟩ rfl rfl (Nat.le_of_ble_eq_true rfl) dX0_writeHeld_24 ⟨(Nat.le_of_ble_eq_true rfl), (Nat.le_of_ble_eq_true rfl)⟩ [] [oD a h (f_X0_fillCells_v (upd v.1 3 ((v.1 3) - (imin (v.1 3) (v.1 0))), v.2) (imin (v.1 3) (v.1 0)))] (perm_idx [0] 1 rfl (by decide +kernel) rfl) rfl ?_
  generalize hzw0 : f_X0_fillCells_v (upd v.1 3 ((v.1 3) - (imin (v.1 3) (v.1 0))), v.2) (imin (v.1 3) (v.1 0)) = w0
  have hw0 : f_X0_writeHeld_vq1 v = w0 := by subst hzw0; rfl
  subst hQ; subst hw0; exact j_vret C hr hk (by rw [show f_X0_writeHeld_v v = (f_X0_writeHeld_vq1 v) from rfl]) dX0_writeHeld_27
noncomputable def f_X0_lendTo_v1 (v : DO) (t : DO) (k : Int32) : DO := (if v.1 3 ≤ k then v else (upd v.1 3 ((v.1 3) - (imin ((v.1 3) - k) (t.1 0))), v.2))
noncomputable def f_X0_lendTo_v2 (v : DO) (t : DO) (k : Int32) : DO := (if v.1 3 ≤ k then t else (upd (upd t.1 0 ((t.1 0) - (imin ((v.1 3) - k) (t.1 0)))) 2 ((t.1 2) + (imin ((v.1 3) - k) (t.1 0))), t.2))
noncomputable def f_X0_lendTo_v (v : DO) (t : DO) (k : Int32) : DO := (f_X0_lendTo_v1 v t k)
noncomputable def f_X0_lendTo_t (v : DO) (t : DO) (k : Int32) : DO := (f_X0_lendTo_v2 v t k)
set_option maxRecDepth 100000 in
set_option maxHeartbeats 4000000 in
theorem m_X0_lendTo (l : Launch) (G : GG) (a b h g : Nat) (v : DO) (t : DO) (k : Int32)  : CtV l yX0_lendTo cX0_lendTo 4 (none : Option Jvm.ClassFile.FieldType) (RM 1) G [.ref a, .ref b, .int k] ([oD a h v, oD b g t]) ([oD a h (f_X0_lendTo_v v t k), oD b g (f_X0_lendTo_t v t k)]) := by
  refine ct_V RX0 [(0, .ref a), (1, .ref b), (2, .int k)] rfl (by decide +kernel) (Nat.le_of_ble_eq_true rfl) rfl ?_
  intro p e s m args below meth c A C hr hk hnm
  generalize hQ : (MQ below (PostV G A ([oD a h (f_X0_lendTo_v v t k), oD b g (f_X0_lendTo_t v t k)])) args s (RM 1).cells (RM 1).slots A) = Q
  refine j_aload_n C dX0_lendTo_0 0 rfl ?_
  refine j_get C kin0 rfl 0 rfl 3 (by decide) kw_41 rfl (v := .int (v.1 3)) rfl dX0_lendTo_1 ?_
  refine j_iload_n C dX0_lendTo_4 2 rfl ?_
  have K52 : WJ p l e (RM 1) s m args below meth c G A 4 0 0 Q ([oD a h (f_X0_lendTo_v1 v t k), oD b g (f_X0_lendTo_v2 v t k)]) [(0, .ref a), (1, .ref b), (2, .int k)] 52 [] := by
    generalize hw0 : f_X0_lendTo_v1 v t k = w0
    generalize hw1 : f_X0_lendTo_v2 v t k = w1
    subst hQ; subst hw0 hw1; exact j_vret C hr hk (by rw [show f_X0_lendTo_v v t k = (f_X0_lendTo_v1 v t k) from rfl, show f_X0_lendTo_t v t k = (f_X0_lendTo_v2 v t k) from rfl]) dX0_lendTo_52
  refine j_icmp_le (tgt := 52) C dX0_lendTo_5 (by decide) (fun c5 => ?_) (fun c5 => ?_)
  · exact j_eq (by rw [show f_X0_lendTo_v1 v t k = v from (if_pos c5), show f_X0_lendTo_v2 v t k = t from (if_pos c5)]) rfl rfl K52
  · refine j_aload_n C dX0_lendTo_8 0 rfl ?_
    refine j_get C kin0 rfl 0 rfl 3 (by decide) kw_41 rfl (v := .int (v.1 3)) rfl dX0_lendTo_9 ?_
    refine j_iload_n C dX0_lendTo_12 2 rfl ?_
    refine j_isub C dX0_lendTo_13 rfl ?_
    refine j_aload_n C dX0_lendTo_14 1 rfl ?_
    refine j_get C kin0 rfl 1 rfl 0 (by decide) kw_33 rfl (v := .int (t.1 0)) rfl dX0_lendTo_15 ?_
    refine j_mmin C kw_279 (Nat.le_of_ble_eq_true rfl) (Nat.le_of_ble_eq_true rfl) ⟨(Nat.le_of_ble_eq_true rfl), (Nat.le_of_ble_eq_true rfl)⟩ dX0_lendTo_18 (v := imin ((v.1 3) - k) (t.1 0)) (imin_eq _ _).symm ?_
    refine j_istore_n C [(3, .int (imin ((v.1 3) - k) (t.1 0))), (0, .ref a), (1, .ref b), (2, .int k)] dX0_lendTo_21 (by decide) rfl ?_
    refine j_aload_n C dX0_lendTo_22 2 rfl ?_
    refine j_dup C dX0_lendTo_23 rfl ?_
    refine j_get C kin0 rfl 1 rfl 0 (by decide) kw_33 rfl (v := .int (t.1 0)) rfl dX0_lendTo_24 ?_
    refine j_iload_n C dX0_lendTo_27 0 rfl ?_
    refine j_isub C dX0_lendTo_28 rfl ?_
    refine j_put C kin0 rfl 1 rfl 0 (by decide) kw_33 rfl tyX0 tyX0_ok nmX0 rfl rfl rfl (Nat.le_of_ble_eq_true rfl) ([oD a h v, oD b g (upd t.1 0 ((t.1 0) - (imin ((v.1 3) - k) (t.1 0))), t.2)]) rfl dX0_lendTo_29 ?_
    refine j_aload_n C dX0_lendTo_32 2 rfl ?_
    refine j_dup C dX0_lendTo_33 rfl ?_
    refine j_get C kin0 rfl 1 rfl 2 (by decide) kw_39 rfl (v := .int (t.1 2)) rfl dX0_lendTo_34 ?_
    refine j_iload_n C dX0_lendTo_37 0 rfl ?_
    refine j_iadd C dX0_lendTo_38 rfl ?_
    refine j_put C kin0 rfl 1 rfl 2 (by decide) kw_39 rfl tyX0 tyX0_ok nmX0 rfl rfl rfl (Nat.le_of_ble_eq_true rfl) ([oD a h v, oD b g (upd (upd t.1 0 ((t.1 0) - (imin ((v.1 3) - k) (t.1 0)))) 2 ((t.1 2) + (imin ((v.1 3) - k) (t.1 0))), t.2)]) rfl dX0_lendTo_39 ?_
    refine j_aload_n C dX0_lendTo_42 1 rfl ?_
    refine j_dup C dX0_lendTo_43 rfl ?_
    refine j_get C kin0 rfl 0 rfl 3 (by decide) kw_41 rfl (v := .int (v.1 3)) rfl dX0_lendTo_44 ?_
    refine j_iload_n C dX0_lendTo_47 0 rfl ?_
    refine j_isub C dX0_lendTo_48 rfl ?_
    refine j_put C kin0 rfl 0 rfl 3 (by decide) kw_41 rfl tyX0 tyX0_ok nmX0 rfl rfl rfl (Nat.le_of_ble_eq_true rfl) ([oD a h (upd v.1 3 ((v.1 3) - (imin ((v.1 3) - k) (t.1 0))), v.2), oD b g (upd (upd t.1 0 ((t.1 0) - (imin ((v.1 3) - k) (t.1 0)))) 2 ((t.1 2) + (imin ((v.1 3) - k) (t.1 0))), t.2)]) rfl dX0_lendTo_49 ?_
    refine j_lv [1, 2, 3] [(0, .ref a), (1, .ref b), (2, .int k)] rfl ?_
    exact j_eq (by rw [show f_X0_lendTo_v1 v t k = (upd v.1 3 ((v.1 3) - (imin ((v.1 3) - k) (t.1 0))), v.2) from (if_neg c5), show f_X0_lendTo_v2 v t k = (upd (upd t.1 0 ((t.1 0) - (imin ((v.1 3) - k) (t.1 0)))) 2 ((t.1 2) + (imin ((v.1 3) - k) (t.1 0))), t.2) from (if_neg c5)]) rfl rfl K52
noncomputable def f_X0_cleanCells_v (v : DO) (k : Int32) : DO := (upd (upd (upd v.1 1 ((v.1 1) - k)) 0 ((v.1 0) + k)) 6 ((v.1 6) + 1), v.2)
set_option maxRecDepth 100000 in
set_option maxHeartbeats 4000000 in
theorem m_X0_cleanCells (l : Launch) (G : GG) (a h : Nat) (v : DO) (k : Int32)  : CtV l yX0_cleanCells cX0_cleanCells 2 (none : Option Jvm.ClassFile.FieldType) (RM 0) G [.ref a, .int k] ([oD a h v]) ([oD a h (f_X0_cleanCells_v v k)]) := by
  refine ct_V RX0 [(0, .ref a), (1, .int k)] rfl (by decide +kernel) (Nat.le_of_ble_eq_true rfl) rfl ?_
  intro p e s m args below meth c A C hr hk hnm
  generalize hQ : (MQ below (PostV G A ([oD a h (f_X0_cleanCells_v v k)])) args s (RM 0).cells (RM 0).slots A) = Q
  refine j_aload_n C dX0_cleanCells_0 0 rfl ?_
  refine j_dup C dX0_cleanCells_1 rfl ?_
  refine j_get C kin0 rfl 0 rfl 1 (by decide) kw_36 rfl (v := .int (v.1 1)) rfl dX0_cleanCells_2 ?_
  refine j_iload_n C dX0_cleanCells_5 1 rfl ?_
  refine j_isub C dX0_cleanCells_6 rfl ?_
  refine j_put C kin0 rfl 0 rfl 1 (by decide) kw_36 rfl tyX0 tyX0_ok nmX0 rfl rfl rfl (Nat.le_of_ble_eq_true rfl) ([oD a h (upd v.1 1 ((v.1 1) - k), v.2)]) rfl dX0_cleanCells_7 ?_
  refine j_aload_n C dX0_cleanCells_10 0 rfl ?_
  refine j_dup C dX0_cleanCells_11 rfl ?_
  refine j_get C kin0 rfl 0 rfl 0 (by decide) kw_33 rfl (v := .int (v.1 0)) rfl dX0_cleanCells_12 ?_
  refine j_iload_n C dX0_cleanCells_15 1 rfl ?_
  refine j_iadd C dX0_cleanCells_16 rfl ?_
  refine j_put C kin0 rfl 0 rfl 0 (by decide) kw_33 rfl tyX0 tyX0_ok nmX0 rfl rfl rfl (Nat.le_of_ble_eq_true rfl) ([oD a h (upd (upd v.1 1 ((v.1 1) - k)) 0 ((v.1 0) + k), v.2)]) rfl dX0_cleanCells_17 ?_
  refine j_aload_n C dX0_cleanCells_20 0 rfl ?_
  refine j_dup C dX0_cleanCells_21 rfl ?_
  refine j_get C kin0 rfl 0 rfl 6 (by decide) kw_49 rfl (v := .int (v.1 6)) rfl dX0_cleanCells_22 ?_
  refine j_iconst (v := 1) C dX0_cleanCells_25 (by decide) ?_
  refine j_iadd C dX0_cleanCells_26 rfl ?_
  refine j_put C kin0 rfl 0 rfl 6 (by decide) kw_49 rfl tyX0 tyX0_ok nmX0 rfl rfl rfl (Nat.le_of_ble_eq_true rfl) ([oD a h (upd (upd (upd v.1 1 ((v.1 1) - k)) 0 ((v.1 0) + k)) 6 ((v.1 6) + 1), v.2)]) rfl dX0_cleanCells_27 ?_
  subst hQ; exact j_vret C hr hk (by rw [show f_X0_cleanCells_v v k = (upd (upd (upd v.1 1 ((v.1 1) - k)) 0 ((v.1 0) + k)) 6 ((v.1 6) + 1), v.2) from rfl]) dX0_cleanCells_30
noncomputable def f_X0_hoursThatAre_x2 (v : DO) (f : Nat → Int8) (k : Int32) (i : Nat) : Int32 := (if (f i).toInt32 = k then (cntH f k i) + 1 else cntH f k i)
noncomputable def f_X0_hoursThatAre_r (v : DO) (f : Nat → Int8) (k : Int32) : Int32 := cntH f k 100
set_option maxRecDepth 100000 in
set_option maxHeartbeats 4000000 in
theorem m_X0_hoursThatAre (l : Launch) (G : GG) (a h : Nat) (v : DO) (f : Nat → Int8) (k : Int32)  : CtI l yX0_hoursThatAre cX0_hoursThatAre 4 (some .int) (RM 0) G [.ref a, .int k] ([oD a h v, aB G h f]) (f_X0_hoursThatAre_r v f k) ([oD a h v, aB G h f]) := by
  refine ct_I RX0 [(0, .ref a), (1, .int k)] rfl (by decide +kernel) (Nat.le_of_ble_eq_true rfl) rfl ?_
  intro p e s m args below meth c A C hr hk hnm
  generalize hQ : (MQ below (PostI G A (f_X0_hoursThatAre_r v f k) ([oD a h v, aB G h f])) args s (RM 0).cells (RM 0).slots A) = Q
  refine j_iconst (v := 0) C dX0_hoursThatAre_0 (by decide) ?_
  refine j_istore_n C [(2, .int 0), (0, .ref a), (1, .int k)] dX0_hoursThatAre_1 (by decide) rfl ?_
  refine j_iconst (v := 0) C dX0_hoursThatAre_2 (by decide) ?_
  refine j_istore_n C [(3, .int 0), (2, .int 0), (0, .ref a), (1, .int k)] dX0_hoursThatAre_3 (by decide) rfl ?_
  have L1 : ∀ (n i : Nat), i + n = 100 → WJ p l e (RM 0) s m args below meth c G A 4 0 0 Q ([oD a h v, aB G h f]) [(3, .int (nI i)), (2, .int (cntH f k i)), (0, .ref a), (1, .int k)] 4 [] := by
    intro n
    induction n with
    | zero =>
      intro i hi
      have hN : i = 100 := by omega
      subst hN
      refine j_iload_n C dX0_hoursThatAre_4 0 rfl ?_
      refine j_bipush (v := 100) C dX0_hoursThatAre_5 (by decide) ?_
      refine j_icmp_ge (tgt := 29) C dX0_hoursThatAre_7 (by decide) (fun c7 => ?_) (fun h => absurd (by decide) h)
      refine j_iload_n C dX0_hoursThatAre_29 1 rfl ?_
      subst hQ; exact j_iret C hr hk ((show f_X0_hoursThatAre_r v f k = cntH f k 100 from rfl).symm) rfl dX0_hoursThatAre_30
    | succ n ih =>
      intro i hi
      have hlt : i < 100 := by omega
      refine j_iload_n C dX0_hoursThatAre_4 0 rfl ?_
      refine j_bipush (v := 100) C dX0_hoursThatAre_5 (by decide) ?_
      refine j_icmp_ge (tgt := 29) C dX0_hoursThatAre_7 (by decide) (fun h => absurd h (nI_ge (b := 100) hlt (by decide))) (fun c7 => ?_)
      refine j_aload_n C dX0_hoursThatAre_10 2 rfl ?_
      refine j_get C kin0 rfl 0 rfl 11 (by decide) kw_63 rfl (v := .ref h) rfl dX0_hoursThatAre_11 ?_
      refine j_iload_n C dX0_hoursThatAre_14 0 rfl ?_
      refine j_bald C 1 rfl (vp_in_nI (by omega) (by omega)) (v := (f i).toInt32) (by rw [nI_clamp (by omega)]) dX0_hoursThatAre_15 ?_
      refine j_iload_n C dX0_hoursThatAre_16 3 rfl ?_
      have K23 : WJ p l e (RM 0) s m args below meth c G A 4 0 0 Q ([oD a h v, aB G h f]) [(2, .int (f_X0_hoursThatAre_x2 v f k i)), (3, .int (nI i)), (0, .ref a), (1, .int k)] 23 [] := by
        generalize hw0 : f_X0_hoursThatAre_x2 v f k i = w0
        refine j_iinc (v := nI (i + 1)) C [(3, .int (nI (i + 1))), (2, .int w0), (0, .ref a), (1, .int k)] dX0_hoursThatAre_23 (k := 1) rfl (nI_1 i) (by decide) rfl ?_
        refine j_goto (tgt := 4) C dX0_hoursThatAre_26 (by decide) ?_
        subst hw0; exact j_eq rfl (by rw [show cntH f k (i + 1) = (f_X0_hoursThatAre_x2 v f k i) from rfl]) rfl (ih (i + 1) (by omega))
      refine j_icmp_ne (tgt := 23) C dX0_hoursThatAre_17 (by decide) (fun c17 => ?_) (fun c17 => ?_)
      · refine j_lv [1, 0, 2, 3] [(2, .int (cntH f k i)), (3, .int (nI i)), (0, .ref a), (1, .int k)] rfl ?_
        exact j_eq rfl (by rw [show f_X0_hoursThatAre_x2 v f k i = cntH f k i from (if_neg c17)]) rfl K23
      · refine j_iinc (v := (cntH f k i) + 1) C [(2, .int ((cntH f k i) + 1)), (3, .int (nI i)), (0, .ref a), (1, .int k)] dX0_hoursThatAre_20 (k := 1) rfl rfl (by decide) rfl ?_
        exact j_eq rfl (by rw [show f_X0_hoursThatAre_x2 v f k i = (cntH f k i) + 1 from (if_pos c17)]) rfl K23
  exact j_eq rfl (by rw [show nI 0 = 0 from rfl, show cntH f k 0 = 0 from rfl]) rfl (L1 100 0 (by omega))
noncomputable def f_X0_soldHours_r (v : DO) (f : Nat → Int8) : Int32 := 100 - (f_X0_hoursThatAre_r v f 0)
set_option maxRecDepth 100000 in
set_option maxHeartbeats 4000000 in
theorem m_X0_soldHours (l : Launch) (G : GG) (a h : Nat) (v : DO) (f : Nat → Int8)  : CtI l yX0_soldHours cX0_soldHours 1 (some .int) (RM 1) G [.ref a] ([oD a h v, aB G h f]) (f_X0_soldHours_r v f) ([oD a h v, aB G h f]) := by
  refine ct_I RX0 [(0, .ref a)] rfl (by decide +kernel) (Nat.le_of_ble_eq_true rfl) rfl ?_
  intro p e s m args below meth c A C hr hk hnm
  generalize hQ : (MQ below (PostI G A (f_X0_soldHours_r v f) ([oD a h v, aB G h f])) args s (RM 1).cells (RM 1).slots A) = Q
  refine j_bipush (v := 100) C dX0_soldHours_0 (by decide) ?_
  refine j_aload_n C dX0_soldHours_2 0 rfl ?_
  refine j_iconst (v := 0) C dX0_soldHours_3 (by decide) ?_
  refine j_callV_i (r := f_X0_hoursThatAre_r v f 0) (wc' := [oD a h v, aB G h f]) C (m_X0_hoursThatAre l G a h v f 0) rfl 0 rfl 1 (gV kw_232 kw_233 kw_234 kw_4 kw_235) (by decide +kernel) ⟨(Nat.le_of_ble_eq_true rfl), (Nat.le_of_ble_eq_true rfl)⟩ rfl rfl (Nat.le_of_ble_eq_true rfl) dX0_soldHours_4 ⟨(Nat.le_of_ble_eq_true rfl), (Nat.le_of_ble_eq_true rfl)⟩ [] [oD a h v, aB G h f] (perm_idx [0, 1] 2 rfl (by decide +kernel) rfl) rfl ?_
  refine j_isub C dX0_soldHours_7 rfl ?_
  subst hQ; exact j_iret C hr hk ((show f_X0_soldHours_r v f = 100 - (f_X0_hoursThatAre_r v f 0) from rfl).symm) rfl dX0_soldHours_8
def rowA (f : Nat → Int8) : Nat → Int32
  | 0 => 0
  | i + 1 => if (f (99 - i)).toInt32 = 2 then rowA f i + 1 else rowA f i
/-- the kept hours from the latest one back up to the first one that is spoiled -/
def rowX (f : Nat → Int8) : Nat → Nat → Int32
  | 0, i => rowA f i
  | n + 1, i => if (f (99 - i)).toInt32 = 3 then rowA f i else rowX f n (i + 1)
noncomputable def f_X0_keptInARow_x2 (v : DO) (f : Nat → Int8) (i : Nat) : Int32 := (if (f (99 - i)).toInt32 = 2 then (rowA f i) + 1 else rowA f i)
set_option maxRecDepth 100000 in
set_option maxHeartbeats 4000000 in
theorem m_X0_keptInARow (l : Launch) (G : GG) (a h : Nat) (v : DO) (f : Nat → Int8)  : CtI l yX0_keptInARow cX0_keptInARow 3 (some .int) (RM 0) G [.ref a] ([oD a h v, aB G h f]) (rowX f 100 0) ([oD a h v, aB G h f]) := by
  refine ct_I RX0 [(0, .ref a)] rfl (by decide +kernel) (Nat.le_of_ble_eq_true rfl) rfl ?_
  intro p e s m args below meth c A C hr hk hnm
  generalize hQ : (MQ below (PostI G A (rowX f 100 0) ([oD a h v, aB G h f])) args s (RM 0).cells (RM 0).slots A) = Q
  refine j_iconst (v := 0) C dX0_keptInARow_0 (by decide) ?_
  refine j_istore_n C [(1, .int 0), (0, .ref a)] dX0_keptInARow_1 (by decide) rfl ?_
  refine j_bipush (v := 99) C dX0_keptInARow_2 (by decide) ?_
  refine j_istore_n C [(2, .int 99), (1, .int 0), (0, .ref a)] dX0_keptInARow_4 (by decide) rfl ?_
  have L1 : ∀ (n i : Nat), i + n = 100 → rowX f n i = rowX f 100 0 → WJ p l e (RM 0) s m args below meth c G A 3 0 0 Q ([oD a h v, aB G h f]) [(2, .int (nI (100 - i) + (-1))), (1, .int (rowA f i)), (0, .ref a)] 5 [] := by
    intro n
    induction n with
    | zero =>
      intro i hi hx
      have hN : i = 100 := by omega
      subst hN
      refine j_eq rfl (by rw [show nI (100 - 100) + (-1) = (-1) from (by decide)]) rfl ?_
      refine j_iload_n C dX0_keptInARow_5 0 rfl ?_
      refine j_if_lt (tgt := 38) C dX0_keptInARow_6 (by decide) (fun _ => ?_) (fun h => absurd h (by decide))
      refine j_iload_n C dX0_keptInARow_38 1 rfl ?_
      subst hQ; exact j_iret C hr hk (show rowA f 100 = (rowX f 100 0) from hx) rfl dX0_keptInARow_39
    | succ n ih =>
      intro i hi hx
      have hlt : i < 100 := by omega
      refine j_eq rfl (by rw [show nI (100 - i) + (-1) = nI (99 - i) from (by rw [show 100 - i = (99 - i) + 1 by omega, pk_m1])]) rfl ?_
      refine j_iload_n C dX0_keptInARow_5 0 rfl ?_
      refine j_if_lt (tgt := 38) C dX0_keptInARow_6 (by decide) (fun h => absurd h (nI_pos (by omega))) (fun c6 => ?_)
      refine j_aload_n C dX0_keptInARow_9 2 rfl ?_
      refine j_get C kin0 rfl 0 rfl 11 (by decide) kw_63 rfl (v := .ref h) rfl dX0_keptInARow_10 ?_
      refine j_iload_n C dX0_keptInARow_13 0 rfl ?_
      refine j_bald C 1 rfl (vp_in_nI (by omega) (by omega)) (v := (f (99 - i)).toInt32) (by rw [nI_clamp (by omega)]) dX0_keptInARow_14 ?_
      refine j_iconst (v := 3) C dX0_keptInARow_15 (by decide) ?_
      refine j_icmp_eq (tgt := 38) C dX0_keptInARow_16 (by decide) (fun c16 => ?_) (fun c16 => ?_)
      · refine j_iload_n C dX0_keptInARow_38 1 rfl ?_
        subst hQ; exact j_iret C hr hk (show rowA f i = (rowX f 100 0) from (by rw [rowX, if_pos c16] at hx; exact hx)) rfl dX0_keptInARow_39
      · refine j_aload_n C dX0_keptInARow_19 2 rfl ?_
        refine j_get C kin0 rfl 0 rfl 11 (by decide) kw_63 rfl (v := .ref h) rfl dX0_keptInARow_20 ?_
        refine j_iload_n C dX0_keptInARow_23 0 rfl ?_
        refine j_bald C 1 rfl (vp_in_nI (by omega) (by omega)) (v := (f (99 - i)).toInt32) (by rw [nI_clamp (by omega)]) dX0_keptInARow_24 ?_
        refine j_iconst (v := 2) C dX0_keptInARow_25 (by decide) ?_
        have K32 : WJ p l e (RM 0) s m args below meth c G A 3 0 0 Q ([oD a h v, aB G h f]) [(1, .int (f_X0_keptInARow_x2 v f i)), (2, .int (nI (99 - i))), (0, .ref a)] 32 [] := by
          generalize hw0 : f_X0_keptInARow_x2 v f i = w0
          refine j_iinc (v := (nI (99 - i)) + (-1)) C [(2, .int ((nI (99 - i)) + (-1))), (1, .int w0), (0, .ref a)] dX0_keptInARow_32 (k := 1) rfl rfl (by decide) rfl ?_
          refine j_goto (tgt := 5) C dX0_keptInARow_35 (by decide) ?_
          subst hw0; exact j_eq rfl (by rw [show nI (100 - (i + 1)) + (-1) = (nI (99 - i)) + (-1) from (by rw [show 100 - (i + 1) = 99 - i by omega]), show rowA f (i + 1) = (f_X0_keptInARow_x2 v f i) from rfl]) rfl (ih (i + 1) (by omega) (by rw [rowX, if_neg c16] at hx; exact hx))
        refine j_icmp_ne (tgt := 32) C dX0_keptInARow_26 (by decide) (fun c26 => ?_) (fun c26 => ?_)
        · refine j_lv [1, 0, 2] [(1, .int (rowA f i)), (2, .int (nI (99 - i))), (0, .ref a)] rfl ?_
          exact j_eq rfl (by rw [show f_X0_keptInARow_x2 v f i = rowA f i from (if_neg c26)]) rfl K32
        · refine j_iinc (v := (rowA f i) + 1) C [(1, .int ((rowA f i) + 1)), (2, .int (nI (99 - i))), (0, .ref a)] dX0_keptInARow_29 (k := 1) rfl rfl (by decide) rfl ?_
          exact j_eq rfl (by rw [show f_X0_keptInARow_x2 v f i = (rowA f i) + 1 from (if_pos c26)]) rfl K32
  exact j_eq rfl (by rw [show nI (100 - 0) + (-1) = 99 from (by decide), show rowA f 0 = 0 from rfl]) rfl (L1 100 0 (by omega) rfl)
end
section
/-! A STATION -/
theorem lt_drive {k : Int32} (h : ¬ f_X4_isDrive_r k = 0) : vp_in k 4 := by
  unfold f_X4_isDrive_r f_X4_isDrive_x1 at h
  split at h
  · exact absurd rfl h
  · rename_i h0
    split at h
    · exact absurd rfl h
    · rename_i h1
      exact vin_of (N := 4) rfl h0 h1
theorem vin_nat {k : Int32} {n : Nat} (h : vp_in k n) : k.toNatClampNeg < n := Nat.lt_of_not_le fun g => h (Or.inr g)
noncomputable def f_X3_hourOfNow_r (g : Nat → Int32) : Int32 := (g 2) / 60
set_option maxRecDepth 100000 in
set_option maxHeartbeats 4000000 in
theorem m_X3_hourOfNow (l : Launch) (G : GG) (a sa da : Nat) (g : Nat → Int32)  : CtI l yX3_hourOfNow cX3_hourOfNow 1 (some .int) (RM 0) G [.ref a] ([oS a sa da g]) (f_X3_hourOfNow_r g) ([oS a sa da g]) := by
  refine ct_I RX3 [(0, .ref a)] rfl (by decide +kernel) (Nat.le_of_ble_eq_true rfl) rfl ?_
  intro p e s m args below meth c A C hr hk hnm
  generalize hQ : (MQ below (PostI G A (f_X3_hourOfNow_r g) ([oS a sa da g])) args s (RM 0).cells (RM 0).slots A) = Q
  refine j_aload_n C dX3_hourOfNow_0 0 rfl ?_
  refine j_get C kin3 rfl 0 rfl 2 (by decide) kw_82 rfl (v := .int (g 2)) rfl dX3_hourOfNow_1 ?_
  refine j_bipush (v := 60) C dX3_hourOfNow_4 (by decide) ?_
  refine j_idiv C dX3_hourOfNow_6 (by decide) rfl ?_
  subst hQ; exact j_iret C hr hk ((show f_X3_hourOfNow_r g = (g 2) / 60 from rfl).symm) rfl dX3_hourOfNow_7
noncomputable def f_X3_settleHours_v3 (g : Nat → Int32) (s0 : Nat → Int32) (v : DO) (f : Nat → Int8) (k : Int32) (q : Int32) : (Nat → Int8) := (if f_X0_hourState_r v f (k - 1) = 1 then f_X0_markHour_f v f (k - 1) 2 else f)
noncomputable def f_X3_settleHours_v4 (g : Nat → Int32) (s0 : Nat → Int32) (v : DO) (f : Nat → Int8) (k : Int32) (q : Int32) : (Nat → Int32) := (if f_X0_hourState_r v f (k - 1) = 1 then upd g 5 ((g 5) + (s0 2)) else g)
noncomputable def f_X3_settleHours_v5 (g : Nat → Int32) (s0 : Nat → Int32) (v : DO) (f : Nat → Int8) (k : Int32) (q : Int32) : (Nat → Int32) := (if q = 0 then (f_X3_settleHours_v4 g s0 v f k q) else upd (f_X3_settleHours_v4 g s0 v f k q) 3 (((f_X3_settleHours_v4 g s0 v f k q) 3) + (s0 0)))
noncomputable def f_X3_settleHours_g (g : Nat → Int32) (s0 : Nat → Int32) (v : DO) (f : Nat → Int8) (k : Int32) (q : Int32) : (Nat → Int32) := (f_X3_settleHours_v5 g s0 v f k q)
noncomputable def f_X3_settleHours_f (g : Nat → Int32) (s0 : Nat → Int32) (v : DO) (f : Nat → Int8) (k : Int32) (q : Int32) : (Nat → Int8) := (f_X3_settleHours_v3 g s0 v f k q)
set_option maxRecDepth 100000 in
set_option maxHeartbeats 4000000 in
theorem m_X3_settleHours (l : Launch) (G : GG) (a b sa da h : Nat) (g : Nat → Int32) (s0 : Nat → Int32) (v : DO) (f : Nat → Int8) (k : Int32) (q : Int32)  : CtV l yX3_settleHours cX3_settleHours 4 (none : Option Jvm.ClassFile.FieldType) (RM 2) G [.ref a, .ref b, .int k, .int q] ([oS a sa da g, aI G sa 7 s0, oD b h v, aB G h f]) ([oS a sa da (f_X3_settleHours_g g s0 v f k q), aI G sa 7 s0, oD b h v, aB G h (f_X3_settleHours_f g s0 v f k q)]) := by
  refine ct_V RX3 [(0, .ref a), (1, .ref b), (2, .int k), (3, .int q)] rfl (by decide +kernel) (Nat.le_of_ble_eq_true rfl) rfl ?_
  intro p e s m args below meth c A C hr hk hnm
  generalize hQ : (MQ below (PostV G A ([oS a sa da (f_X3_settleHours_g g s0 v f k q), aI G sa 7 s0, oD b h v, aB G h (f_X3_settleHours_f g s0 v f k q)])) args s (RM 2).cells (RM 2).slots A) = Q
  refine j_aload_n C dX3_settleHours_0 1 rfl ?_
  refine j_iload_n C dX3_settleHours_1 2 rfl ?_
  refine j_iconst (v := 1) C dX3_settleHours_2 (by decide) ?_
  refine j_isub C dX3_settleHours_3 rfl ?_
  refine j_callV_i (r := f_X0_hourState_r v f (k - 1)) (wc' := [oD b h v, aB G h f]) C (m_X0_hourState l G b h v f (k - 1)) rfl 0 rfl 1 (gV kw_220 kw_221 kw_222 kw_4 kw_223) (by decide +kernel) ⟨(Nat.le_of_ble_eq_true rfl), (Nat.le_of_ble_eq_true rfl)⟩ rfl rfl (Nat.le_of_ble_eq_true rfl) dX3_settleHours_4 ⟨(Nat.le_of_ble_eq_true rfl), (Nat.le_of_ble_eq_true rfl)⟩ [oS a sa da g, aI G sa 7 s0] [oD b h v, aB G h f, oS a sa da g, aI G sa 7 s0] (perm_idx [2, 3, 0, 1] 4 rfl (by decide +kernel) rfl) rfl ?_
  refine j_iconst (v := 1) C dX3_settleHours_7 (by decide) ?_
  have K34 : WJ p l e (RM 2) s m args below meth c G A 4 0 0 Q ([oD b h v, aB G h (f_X3_settleHours_v3 g s0 v f k q), oS a sa da (f_X3_settleHours_v4 g s0 v f k q), aI G sa 7 s0]) [(0, .ref a), (1, .ref b), (2, .int k), (3, .int q)] 34 [] := by
    generalize hw0 : f_X3_settleHours_v3 g s0 v f k q = w0
    generalize hw1 : f_X3_settleHours_v4 g s0 v f k q = w1
    refine j_iload_n C dX3_settleHours_34 3 rfl ?_
    have K53 : WJ p l e (RM 2) s m args below meth c G A 4 0 0 Q ([oD b h v, aB G h w0, oS a sa da (f_X3_settleHours_v5 g s0 v f k q), aI G sa 7 s0]) [(0, .ref a), (1, .ref b), (2, .int k), (3, .int q)] 53 [] := by
      generalize hw2 : f_X3_settleHours_v5 g s0 v f k q = w2
      refine j_perm ([oS a sa da w2, aI G sa 7 s0, oD b h v, aB G h w0]) (perm_idx [2, 3, 0, 1] 4 rfl (by decide +kernel) rfl) ?_
      subst hQ; subst hw0 hw1 hw2; exact j_vret C hr hk (by rw [show f_X3_settleHours_g g s0 v f k q = (f_X3_settleHours_v5 g s0 v f k q) from rfl, show f_X3_settleHours_f g s0 v f k q = (f_X3_settleHours_v3 g s0 v f k q) from rfl]) dX3_settleHours_53
    refine j_if_eq (tgt := 53) C dX3_settleHours_35 (by decide) (fun c35 => ?_) (fun c35 => ?_)
    · subst hw0 hw1; exact j_eq (by rw [show f_X3_settleHours_v5 g s0 v f k q = (f_X3_settleHours_v4 g s0 v f k q) from (if_pos c35)]) rfl rfl K53
    · refine j_aload_n C dX3_settleHours_38 0 rfl ?_
      refine j_dup C dX3_settleHours_39 rfl ?_
      refine j_get C kin3 rfl 2 rfl 3 (by decide) kw_84 rfl (v := .int (w1 3)) rfl dX3_settleHours_40 ?_
      refine j_aload_n C dX3_settleHours_43 0 rfl ?_
      refine j_get C kin3 rfl 2 rfl 0 (by decide) kw_78 rfl (v := .ref sa) rfl dX3_settleHours_44 ?_
      refine j_iconst (v := 0) C dX3_settleHours_47 (by decide) ?_
      refine j_iald C 3 rfl (vin_lit rfl) (v := s0 0) rfl dX3_settleHours_48 ?_
      refine j_iadd C dX3_settleHours_49 rfl ?_
      refine j_put C kin3 rfl 2 rfl 3 (by decide) kw_84 rfl tyX3 tyX3_ok nmX3 rfl rfl rfl (Nat.le_of_ble_eq_true rfl) ([oD b h v, aB G h w0, oS a sa da (upd w1 3 ((w1 3) + (s0 0))), aI G sa 7 s0]) rfl dX3_settleHours_50 ?_
      subst hw0 hw1; exact j_eq (by rw [show f_X3_settleHours_v5 g s0 v f k q = upd (f_X3_settleHours_v4 g s0 v f k q) 3 (((f_X3_settleHours_v4 g s0 v f k q) 3) + (s0 0)) from (if_neg c35)]) rfl rfl K53
  refine j_icmp_ne (tgt := 34) C dX3_settleHours_8 (by decide) (fun c8 => ?_) (fun c8 => ?_)
  · exact j_eq (by rw [show f_X3_settleHours_v3 g s0 v f k q = f from (if_neg c8), show f_X3_settleHours_v4 g s0 v f k q = g from (if_neg c8)]) rfl rfl K34
  · refine j_aload_n C dX3_settleHours_11 1 rfl ?_
    refine j_iload_n C dX3_settleHours_12 2 rfl ?_
    refine j_iconst (v := 1) C dX3_settleHours_13 (by decide) ?_
    refine j_isub C dX3_settleHours_14 rfl ?_
    refine j_iconst (v := 2) C dX3_settleHours_15 (by decide) ?_
    refine j_callV_v (wc' := [oD b h v, aB G h (f_X0_markHour_f v f (k - 1) 2)]) C (m_X0_markHour l G b h v f (k - 1) 2) rfl 0 rfl 2 (gV kw_224 kw_225 kw_226 kw_4 kw_227) (by decide +kernel) ⟨(Nat.le_of_ble_eq_true rfl), (Nat.le_of_ble_eq_true rfl)⟩ rfl rfl (Nat.le_of_ble_eq_true rfl) dX3_settleHours_16 ⟨(Nat.le_of_ble_eq_true rfl), (Nat.le_of_ble_eq_true rfl)⟩ [oS a sa da g, aI G sa 7 s0] [oD b h v, aB G h (f_X0_markHour_f v f (k - 1) 2), oS a sa da g, aI G sa 7 s0] (perm_idx [0, 1, 2, 3] 4 rfl (by decide +kernel) rfl) rfl ?_
    refine j_aload_n C dX3_settleHours_19 0 rfl ?_
    refine j_dup C dX3_settleHours_20 rfl ?_
    refine j_get C kin3 rfl 2 rfl 5 (by decide) kw_88 rfl (v := .int (g 5)) rfl dX3_settleHours_21 ?_
    refine j_aload_n C dX3_settleHours_24 0 rfl ?_
    refine j_get C kin3 rfl 2 rfl 0 (by decide) kw_78 rfl (v := .ref sa) rfl dX3_settleHours_25 ?_
    refine j_iconst (v := 2) C dX3_settleHours_28 (by decide) ?_
    refine j_iald C 3 rfl (vin_lit rfl) (v := s0 2) rfl dX3_settleHours_29 ?_
    refine j_iadd C dX3_settleHours_30 rfl ?_
    refine j_put C kin3 rfl 2 rfl 5 (by decide) kw_88 rfl tyX3 tyX3_ok nmX3 rfl rfl rfl (Nat.le_of_ble_eq_true rfl) ([oD b h v, aB G h (f_X0_markHour_f v f (k - 1) 2), oS a sa da (upd g 5 ((g 5) + (s0 2))), aI G sa 7 s0]) rfl dX3_settleHours_31 ?_
    exact j_eq (by rw [show f_X3_settleHours_v3 g s0 v f k q = f_X0_markHour_f v f (k - 1) 2 from (if_pos c8), show f_X3_settleHours_v4 g s0 v f k q = upd g 5 ((g 5) + (s0 2)) from (if_pos c8)]) rfl rfl K34
noncomputable def f_X3_chargeOverrun_v2 (g : Nat → Int32) (s0 : Nat → Int32) (v : DO) (f : Nat → Int8) (k : Int32) : (Nat → Int32) := (if g 5 ≤ 0 then upd g 4 ((g 4) + (s0 1)) else upd (upd g 5 ((g 5) - 1)) 6 ((g 6) + 1))
noncomputable def f_X3_chargeOverrun_g (g : Nat → Int32) (s0 : Nat → Int32) (v : DO) (f : Nat → Int8) (k : Int32) : (Nat → Int32) := (f_X3_chargeOverrun_v2 g s0 v f k)
noncomputable def f_X3_chargeOverrun_v (g : Nat → Int32) (s0 : Nat → Int32) (v : DO) (f : Nat → Int8) (k : Int32) : DO := (upd v.1 7 ((v.1 7) + 1), v.2)
noncomputable def f_X3_chargeOverrun_f (g : Nat → Int32) (s0 : Nat → Int32) (v : DO) (f : Nat → Int8) (k : Int32) : (Nat → Int8) := f_X0_markHour_f (upd v.1 7 ((v.1 7) + 1), v.2) f k 3
set_option maxRecDepth 100000 in
set_option maxHeartbeats 4000000 in
theorem m_X3_chargeOverrun (l : Launch) (G : GG) (a b sa da h : Nat) (g : Nat → Int32) (s0 : Nat → Int32) (v : DO) (f : Nat → Int8) (k : Int32)  : CtV l yX3_chargeOverrun cX3_chargeOverrun 3 (none : Option Jvm.ClassFile.FieldType) (RM 2) G [.ref a, .ref b, .int k] ([oS a sa da g, aI G sa 7 s0, oD b h v, aB G h f]) ([oS a sa da (f_X3_chargeOverrun_g g s0 v f k), aI G sa 7 s0, oD b h (f_X3_chargeOverrun_v g s0 v f k), aB G h (f_X3_chargeOverrun_f g s0 v f k)]) := by
  refine ct_V RX3 [(0, .ref a), (1, .ref b), (2, .int k)] rfl (by decide +kernel) (Nat.le_of_ble_eq_true rfl) rfl ?_
  intro p e s m args below meth c A C hr hk hnm
  generalize hQ : (MQ below (PostV G A ([oS a sa da (f_X3_chargeOverrun_g g s0 v f k), aI G sa 7 s0, oD b h (f_X3_chargeOverrun_v g s0 v f k), aB G h (f_X3_chargeOverrun_f g s0 v f k)])) args s (RM 2).cells (RM 2).slots A) = Q
  refine j_aload_n C dX3_chargeOverrun_0 1 rfl ?_
  refine j_dup C dX3_chargeOverrun_1 rfl ?_
  refine j_get C kin0 rfl 2 rfl 7 (by decide) kw_53 rfl (v := .int (v.1 7)) rfl dX3_chargeOverrun_2 ?_
  refine j_iconst (v := 1) C dX3_chargeOverrun_5 (by decide) ?_
  refine j_iadd C dX3_chargeOverrun_6 rfl ?_
  refine j_put C kin0 rfl 2 rfl 7 (by decide) kw_53 rfl tyX0 tyX0_ok nmX0 rfl rfl rfl (Nat.le_of_ble_eq_true rfl) ([oS a sa da g, aI G sa 7 s0, oD b h (upd v.1 7 ((v.1 7) + 1), v.2), aB G h f]) rfl dX3_chargeOverrun_7 ?_
  refine j_aload_n C dX3_chargeOverrun_10 1 rfl ?_
  refine j_iload_n C dX3_chargeOverrun_11 2 rfl ?_
  refine j_iconst (v := 3) C dX3_chargeOverrun_12 (by decide) ?_
  refine j_callV_v (wc' := [oD b h (upd v.1 7 ((v.1 7) + 1), v.2), aB G h (f_X0_markHour_f (upd v.1 7 ((v.1 7) + 1), v.2) f k 3)]) C (m_X0_markHour l G b h (upd v.1 7 ((v.1 7) + 1), v.2) f k 3) rfl 0 rfl 2 (gV kw_224 kw_225 kw_226 kw_4 kw_227) (by decide +kernel) ⟨(Nat.le_of_ble_eq_true rfl), (Nat.le_of_ble_eq_true rfl)⟩ rfl rfl (Nat.le_of_ble_eq_true rfl) dX3_chargeOverrun_13 ⟨(Nat.le_of_ble_eq_true rfl), (Nat.le_of_ble_eq_true rfl)⟩ [oS a sa da g, aI G sa 7 s0] [oD b h (upd v.1 7 ((v.1 7) + 1), v.2), aB G h (f_X0_markHour_f (upd v.1 7 ((v.1 7) + 1), v.2) f k 3), oS a sa da g, aI G sa 7 s0] (perm_idx [2, 3, 0, 1] 4 rfl (by decide +kernel) rfl) rfl ?_
  refine j_aload_n C dX3_chargeOverrun_16 0 rfl ?_
  refine j_get C kin3 rfl 2 rfl 5 (by decide) kw_88 rfl (v := .int (g 5)) rfl dX3_chargeOverrun_17 ?_
  have K61 : WJ p l e (RM 2) s m args below meth c G A 3 0 0 Q ([oD b h (upd v.1 7 ((v.1 7) + 1), v.2), aB G h (f_X0_markHour_f (upd v.1 7 ((v.1 7) + 1), v.2) f k 3), oS a sa da (f_X3_chargeOverrun_v2 g s0 v f k), aI G sa 7 s0]) [(0, .ref a), (1, .ref b), (2, .int k)] 61 [] := by
    generalize hw0 : f_X3_chargeOverrun_v2 g s0 v f k = w0
    refine j_perm ([oS a sa da w0, aI G sa 7 s0, oD b h (upd v.1 7 ((v.1 7) + 1), v.2), aB G h (f_X0_markHour_f (upd v.1 7 ((v.1 7) + 1), v.2) f k 3)]) (perm_idx [2, 3, 0, 1] 4 rfl (by decide +kernel) rfl) ?_
    subst hQ; subst hw0; exact j_vret C hr hk (by rw [show f_X3_chargeOverrun_g g s0 v f k = (f_X3_chargeOverrun_v2 g s0 v f k) from rfl, show f_X3_chargeOverrun_v g s0 v f k = (upd v.1 7 ((v.1 7) + 1), v.2) from rfl, show f_X3_chargeOverrun_f g s0 v f k = f_X0_markHour_f (upd v.1 7 ((v.1 7) + 1), v.2) f k 3 from rfl]) dX3_chargeOverrun_61
  refine j_if_le (tgt := 46) C dX3_chargeOverrun_20 (by decide) (fun c20 => ?_) (fun c20 => ?_)
  · refine j_aload_n C dX3_chargeOverrun_46 0 rfl ?_
    refine j_dup C dX3_chargeOverrun_47 rfl ?_
    refine j_get C kin3 rfl 2 rfl 4 (by decide) kw_86 rfl (v := .int (g 4)) rfl dX3_chargeOverrun_48 ?_
    refine j_aload_n C dX3_chargeOverrun_51 0 rfl ?_
    refine j_get C kin3 rfl 2 rfl 0 (by decide) kw_78 rfl (v := .ref sa) rfl dX3_chargeOverrun_52 ?_
    refine j_iconst (v := 1) C dX3_chargeOverrun_55 (by decide) ?_
    refine j_iald C 3 rfl (vin_lit rfl) (v := s0 1) rfl dX3_chargeOverrun_56 ?_
    refine j_iadd C dX3_chargeOverrun_57 rfl ?_
    refine j_put C kin3 rfl 2 rfl 4 (by decide) kw_86 rfl tyX3 tyX3_ok nmX3 rfl rfl rfl (Nat.le_of_ble_eq_true rfl) ([oD b h (upd v.1 7 ((v.1 7) + 1), v.2), aB G h (f_X0_markHour_f (upd v.1 7 ((v.1 7) + 1), v.2) f k 3), oS a sa da (upd g 4 ((g 4) + (s0 1))), aI G sa 7 s0]) rfl dX3_chargeOverrun_58 ?_
    exact j_eq (by rw [show f_X3_chargeOverrun_v2 g s0 v f k = upd g 4 ((g 4) + (s0 1)) from (if_pos c20)]) rfl rfl K61
  · refine j_aload_n C dX3_chargeOverrun_23 0 rfl ?_
    refine j_dup C dX3_chargeOverrun_24 rfl ?_
    refine j_get C kin3 rfl 2 rfl 5 (by decide) kw_88 rfl (v := .int (g 5)) rfl dX3_chargeOverrun_25 ?_
    refine j_iconst (v := 1) C dX3_chargeOverrun_28 (by decide) ?_
    refine j_isub C dX3_chargeOverrun_29 rfl ?_
    refine j_put C kin3 rfl 2 rfl 5 (by decide) kw_88 rfl tyX3 tyX3_ok nmX3 rfl rfl rfl (Nat.le_of_ble_eq_true rfl) ([oD b h (upd v.1 7 ((v.1 7) + 1), v.2), aB G h (f_X0_markHour_f (upd v.1 7 ((v.1 7) + 1), v.2) f k 3), oS a sa da (upd g 5 ((g 5) - 1)), aI G sa 7 s0]) rfl dX3_chargeOverrun_30 ?_
    refine j_aload_n C dX3_chargeOverrun_33 0 rfl ?_
    refine j_dup C dX3_chargeOverrun_34 rfl ?_
    refine j_get C kin3 rfl 2 rfl 6 (by decide) kw_90 rfl (v := .int (g 6)) rfl dX3_chargeOverrun_35 ?_
    refine j_iconst (v := 1) C dX3_chargeOverrun_38 (by decide) ?_
    refine j_iadd C dX3_chargeOverrun_39 rfl ?_
    refine j_put C kin3 rfl 2 rfl 6 (by decide) kw_90 rfl tyX3 tyX3_ok nmX3 rfl rfl rfl (Nat.le_of_ble_eq_true rfl) ([oD b h (upd v.1 7 ((v.1 7) + 1), v.2), aB G h (f_X0_markHour_f (upd v.1 7 ((v.1 7) + 1), v.2) f k 3), oS a sa da (upd (upd g 5 ((g 5) - 1)) 6 ((g 6) + 1)), aI G sa 7 s0]) rfl dX3_chargeOverrun_40 ?_
    refine j_goto (tgt := 61) C dX3_chargeOverrun_43 (by decide) ?_
    exact j_eq (by rw [show f_X3_chargeOverrun_v2 g s0 v f k = upd (upd g 5 ((g 5) - 1)) 6 ((g 6) + 1) from (if_neg c20)]) rfl rfl K61
noncomputable def f_X3_cleanUp_x1 (g : Nat → Int32) (s0 : Nat → Int32) (v : DO) (q : Int32) : Int32 := (if q = 0 then (if b01 (v.1 4) = 0 then (if s0 3 ≤ v.1 0 then 0 else 1) else 1) else (if v.1 3 ≤ s0 6 then 0 else 1))
noncomputable def f_X3_cleanUp_x2 (g : Nat → Int32) (s0 : Nat → Int32) (v : DO) (q : Int32) : Int32 := (if (f_X3_cleanUp_x1 g s0 v q) = 0 then 0 else (if v.1 1 ≤ 0 then 0 else 1))
noncomputable def f_X3_cleanUp_v4 (g : Nat → Int32) (s0 : Nat → Int32) (v : DO) (q : Int32) : DO := (if (f_X3_cleanUp_x2 g s0 v q) = 0 then v else f_X0_cleanCells_v v (imin (s0 5) (v.1 1)))
noncomputable def f_X3_cleanUp_x5 (g : Nat → Int32) (s0 : Nat → Int32) (v : DO) (q : Int32) : Int32 := (if (f_X3_cleanUp_x2 g s0 v q) = 0 then 0 else (if q = 0 then (if s0 4 ≤ (f_X3_cleanUp_v4 g s0 v q).1 0 then 0 else (if (f_X3_cleanUp_v4 g s0 v q).1 1 ≤ 0 then 0 else 1)) else 0))
noncomputable def f_X3_cleanUp_v (g : Nat → Int32) (s0 : Nat → Int32) (v : DO) (q : Int32) : DO := (upd (f_X3_cleanUp_v4 g s0 v q).1 4 (f_X3_cleanUp_x5 g s0 v q), (f_X3_cleanUp_v4 g s0 v q).2)
noncomputable def f_X3_cleanUp_r (g : Nat → Int32) (s0 : Nat → Int32) (v : DO) (q : Int32) : Int32 := (f_X3_cleanUp_x2 g s0 v q)
set_option maxRecDepth 100000 in
set_option maxHeartbeats 4000000 in
theorem m_X3_cleanUp (l : Launch) (G : GG) (a b sa da h : Nat) (g : Nat → Int32) (s0 : Nat → Int32) (v : DO) (q : Int32)  : CtI l yX3_cleanUp cX3_cleanUp 5 (some .boolean) (RM 1) G [.ref a, .ref b, .int q] ([oS a sa da g, aI G sa 7 s0, oD b h v]) (f_X3_cleanUp_r g s0 v q) ([oS a sa da g, aI G sa 7 s0, oD b h (f_X3_cleanUp_v g s0 v q)]) := by
  refine ct_I RX3 [(0, .ref a), (1, .ref b), (2, .int q)] rfl (by decide +kernel) (Nat.le_of_ble_eq_true rfl) rfl ?_
  intro p e s m args below meth c A C hr hk hnm
  generalize hQ : (MQ below (PostI G A (f_X3_cleanUp_r g s0 v q) ([oS a sa da g, aI G sa 7 s0, oD b h (f_X3_cleanUp_v g s0 v q)])) args s (RM 1).cells (RM 1).slots A) = Q
  refine j_iload_n C dX3_cleanUp_0 2 rfl ?_
  have K51 : WJ p l e (RM 1) s m args below meth c G A 5 0 0 Q ([oS a sa da g, aI G sa 7 s0, oD b h v]) [(0, .ref a), (1, .ref b), (2, .int q)] 51 [.int (f_X3_cleanUp_x1 g s0 v q)] := by
    generalize hw0 : f_X3_cleanUp_x1 g s0 v q = w0
    refine j_istore_n C [(3, .int w0), (0, .ref a), (1, .ref b), (2, .int q)] dX3_cleanUp_51 (by decide) rfl ?_
    refine j_iload_n C dX3_cleanUp_52 0 rfl ?_
    have K68 : WJ p l e (RM 1) s m args below meth c G A 5 0 0 Q ([oS a sa da g, aI G sa 7 s0, oD b h v]) [(3, .int w0), (0, .ref a), (1, .ref b), (2, .int q)] 68 [.int (f_X3_cleanUp_x2 g s0 v q)] := by
      generalize hw1 : f_X3_cleanUp_x2 g s0 v q = w1
      refine j_istore C [(4, .int w1), (3, .int w0), (0, .ref a), (1, .ref b), (2, .int q)] dX3_cleanUp_68 (by decide) rfl ?_
      refine j_iload C dX3_cleanUp_70 0 rfl ?_
      have K92 : WJ p l e (RM 1) s m args below meth c G A 5 0 0 Q ([oS a sa da g, aI G sa 7 s0, oD b h (f_X3_cleanUp_v4 g s0 v q)]) [(4, .int w1), (3, .int w0), (0, .ref a), (1, .ref b), (2, .int q)] 92 [] := by
        generalize hw2 : f_X3_cleanUp_v4 g s0 v q = w2
        refine j_aload_n C dX3_cleanUp_92 3 rfl ?_
        refine j_iload C dX3_cleanUp_93 0 rfl ?_
        have K127 : WJ p l e (RM 1) s m args below meth c G A 5 0 0 Q ([oS a sa da g, aI G sa 7 s0, oD b h w2]) [(4, .int w1), (3, .int w0), (0, .ref a), (1, .ref b), (2, .int q)] 127 [.int (f_X3_cleanUp_x5 g s0 v q), .ref b] := by
          generalize hw3 : f_X3_cleanUp_x5 g s0 v q = w3
          refine j_top01 (by subst hw0 hw1 hw2 hw3; exact b01_of (by unfold f_X3_cleanUp_x5; (repeat' split) <;> decide)) ?_
          refine j_put C kin0 rfl 2 rfl 4 (by decide) kw_46 rfl tyX0 tyX0_ok nmX0 rfl (nar_b01 _) (fit_b01 _) (Nat.le_of_ble_eq_true rfl) ([oS a sa da g, aI G sa 7 s0, oD b h (upd w2.1 4 w3, w2.2)]) rfl dX3_cleanUp_127 ?_
          refine j_iload C dX3_cleanUp_130 0 rfl ?_
          subst hQ; subst hw0 hw1 hw2 hw3; exact j_zret C hr hk (by unfold f_X3_cleanUp_x2; (repeat' split) <;> rfl) ((show f_X3_cleanUp_r g s0 v q = (f_X3_cleanUp_x2 g s0 v q) from rfl).symm) (by rw [show f_X3_cleanUp_v g s0 v q = (upd (f_X3_cleanUp_v4 g s0 v q).1 4 (f_X3_cleanUp_x5 g s0 v q), (f_X3_cleanUp_v4 g s0 v q).2) from rfl]) dX3_cleanUp_132
        refine j_if_eq (tgt := 126) C dX3_cleanUp_95 (by decide) (fun c95 => ?_) (fun c95 => ?_)
        · refine j_iconst (v := 0) C dX3_cleanUp_126 (by decide) ?_
          subst hw0 hw1 hw2; exact j_eq rfl rfl (by rw [show f_X3_cleanUp_x5 g s0 v q = 0 from (if_pos c95)]) K127
        · refine j_iload_n C dX3_cleanUp_98 4 rfl ?_
          refine j_if_ne (tgt := 126) C dX3_cleanUp_99 (by decide) (fun c99 => ?_) (fun c99 => ?_)
          · refine j_iconst (v := 0) C dX3_cleanUp_126 (by decide) ?_
            subst hw0 hw1 hw2; exact j_eq rfl rfl (by rw [show f_X3_cleanUp_x5 g s0 v q = 0 from ((if_neg c95).trans (if_neg c99))]) K127
          · refine j_aload_n C dX3_cleanUp_102 3 rfl ?_
            refine j_get C kin0 rfl 2 rfl 0 (by decide) kw_35 rfl (v := .int (w2.1 0)) rfl dX3_cleanUp_103 ?_
            refine j_aload_n C dX3_cleanUp_106 2 rfl ?_
            refine j_get C kin3 rfl 0 rfl 0 (by decide) kw_78 rfl (v := .ref sa) rfl dX3_cleanUp_107 ?_
            refine j_iconst (v := 4) C dX3_cleanUp_110 (by decide) ?_
            refine j_iald C 1 rfl (vin_lit rfl) (v := s0 4) rfl dX3_cleanUp_111 ?_
            refine j_icmp_ge (tgt := 126) C dX3_cleanUp_112 (by decide) (fun c112 => ?_) (fun c112 => ?_)
            · refine j_iconst (v := 0) C dX3_cleanUp_126 (by decide) ?_
              subst hw0 hw1 hw2; exact j_eq rfl rfl (by rw [show f_X3_cleanUp_x5 g s0 v q = 0 from ((if_neg c95).trans ((if_pos c99).trans (if_pos c112)))]) K127
            · refine j_aload_n C dX3_cleanUp_115 3 rfl ?_
              refine j_get C kin0 rfl 2 rfl 1 (by decide) kw_38 rfl (v := .int (w2.1 1)) rfl dX3_cleanUp_116 ?_
              refine j_if_le (tgt := 126) C dX3_cleanUp_119 (by decide) (fun c119 => ?_) (fun c119 => ?_)
              · refine j_iconst (v := 0) C dX3_cleanUp_126 (by decide) ?_
                subst hw0 hw1 hw2; exact j_eq rfl rfl (by rw [show f_X3_cleanUp_x5 g s0 v q = 0 from ((if_neg c95).trans ((if_pos c99).trans ((if_neg c112).trans (if_pos c119))))]) K127
              · refine j_iconst (v := 1) C dX3_cleanUp_122 (by decide) ?_
                refine j_goto (tgt := 127) C dX3_cleanUp_123 (by decide) ?_
                subst hw0 hw1 hw2; exact j_eq rfl rfl (by rw [show f_X3_cleanUp_x5 g s0 v q = 1 from ((if_neg c95).trans ((if_pos c99).trans ((if_neg c112).trans (if_neg c119))))]) K127
      refine j_if_eq (tgt := 92) C dX3_cleanUp_72 (by decide) (fun c72 => ?_) (fun c72 => ?_)
      · subst hw0 hw1; exact j_eq (by rw [show f_X3_cleanUp_v4 g s0 v q = v from (if_pos c72)]) rfl rfl K92
      · refine j_aload_n C dX3_cleanUp_75 3 rfl ?_
        refine j_aload_n C dX3_cleanUp_76 2 rfl ?_
        refine j_get C kin3 rfl 0 rfl 0 (by decide) kw_78 rfl (v := .ref sa) rfl dX3_cleanUp_77 ?_
        refine j_iconst (v := 5) C dX3_cleanUp_80 (by decide) ?_
        refine j_iald C 1 rfl (vin_lit rfl) (v := s0 5) rfl dX3_cleanUp_81 ?_
        refine j_aload_n C dX3_cleanUp_82 3 rfl ?_
        refine j_get C kin0 rfl 2 rfl 1 (by decide) kw_38 rfl (v := .int (v.1 1)) rfl dX3_cleanUp_83 ?_
        refine j_mmin C kw_294 (Nat.le_of_ble_eq_true rfl) (Nat.le_of_ble_eq_true rfl) ⟨(Nat.le_of_ble_eq_true rfl), (Nat.le_of_ble_eq_true rfl)⟩ dX3_cleanUp_86 (v := imin (s0 5) (v.1 1)) (imin_eq _ _).symm ?_
        refine j_callV_v (wc' := [oD b h (f_X0_cleanCells_v v (imin (s0 5) (v.1 1)))]) C (m_X0_cleanCells l G b h v (imin (s0 5) (v.1 1))) rfl 0 rfl 1 (gV kw_295 kw_296 kw_297 kw_4 kw_298) (by decide +kernel) ⟨(Nat.le_of_ble_eq_true rfl), (Nat.le_of_ble_eq_true rfl)⟩ rfl rfl (Nat.le_of_ble_eq_true rfl) dX3_cleanUp_89 ⟨(Nat.le_of_ble_eq_true rfl), (Nat.le_of_ble_eq_true rfl)⟩ [oS a sa da g, aI G sa 7 s0] [oD b h (f_X0_cleanCells_v v (imin (s0 5) (v.1 1))), oS a sa da g, aI G sa 7 s0] (perm_idx [2, 0, 1] 3 rfl (by decide +kernel) rfl) rfl ?_
        refine j_perm ([oS a sa da g, aI G sa 7 s0, oD b h (f_X0_cleanCells_v v (imin (s0 5) (v.1 1)))]) (perm_idx [1, 2, 0] 3 rfl (by decide +kernel) rfl) ?_
        subst hw0 hw1; exact j_eq (by rw [show f_X3_cleanUp_v4 g s0 v q = f_X0_cleanCells_v v (imin (s0 5) (v.1 1)) from (if_neg c72)]) rfl rfl K92
    refine j_if_eq (tgt := 67) C dX3_cleanUp_53 (by decide) (fun c53 => ?_) (fun c53 => ?_)
    · refine j_iconst (v := 0) C dX3_cleanUp_67 (by decide) ?_
      subst hw0; exact j_eq rfl rfl (by rw [show f_X3_cleanUp_x2 g s0 v q = 0 from (if_pos c53)]) K68
    · refine j_aload_n C dX3_cleanUp_56 2 rfl ?_
      refine j_get C kin0 rfl 2 rfl 1 (by decide) kw_38 rfl (v := .int (v.1 1)) rfl dX3_cleanUp_57 ?_
      refine j_if_le (tgt := 67) C dX3_cleanUp_60 (by decide) (fun c60 => ?_) (fun c60 => ?_)
      · refine j_iconst (v := 0) C dX3_cleanUp_67 (by decide) ?_
        subst hw0; exact j_eq rfl rfl (by rw [show f_X3_cleanUp_x2 g s0 v q = 0 from ((if_neg c53).trans (if_pos c60))]) K68
      · refine j_iconst (v := 1) C dX3_cleanUp_63 (by decide) ?_
        refine j_goto (tgt := 68) C dX3_cleanUp_64 (by decide) ?_
        subst hw0; exact j_eq rfl rfl (by rw [show f_X3_cleanUp_x2 g s0 v q = 1 from ((if_neg c53).trans (if_neg c60))]) K68
  refine j_if_eq (tgt := 26) C dX3_cleanUp_1 (by decide) (fun c1 => ?_) (fun c1 => ?_)
  · refine j_aload_n C dX3_cleanUp_26 1 rfl ?_
    refine j_get C kin0 rfl 2 rfl 4 (by decide) kw_46 rfl (v := .int (b01 (v.1 4))) rfl dX3_cleanUp_27 ?_
    refine j_if_ne (tgt := 46) C dX3_cleanUp_30 (by decide) (fun c30 => ?_) (fun c30 => ?_)
    · refine j_iconst (v := 1) C dX3_cleanUp_46 (by decide) ?_
      refine j_goto (tgt := 51) C dX3_cleanUp_47 (by decide) ?_
      exact j_eq rfl rfl (by rw [show f_X3_cleanUp_x1 g s0 v q = 1 from ((if_pos c1).trans (if_neg c30))]) K51
    · refine j_aload_n C dX3_cleanUp_33 1 rfl ?_
      refine j_get C kin0 rfl 2 rfl 0 (by decide) kw_35 rfl (v := .int (v.1 0)) rfl dX3_cleanUp_34 ?_
      refine j_aload_n C dX3_cleanUp_37 0 rfl ?_
      refine j_get C kin3 rfl 0 rfl 0 (by decide) kw_78 rfl (v := .ref sa) rfl dX3_cleanUp_38 ?_
      refine j_iconst (v := 3) C dX3_cleanUp_41 (by decide) ?_
      refine j_iald C 1 rfl (vin_lit rfl) (v := s0 3) rfl dX3_cleanUp_42 ?_
      refine j_icmp_ge (tgt := 50) C dX3_cleanUp_43 (by decide) (fun c43 => ?_) (fun c43 => ?_)
      · refine j_iconst (v := 0) C dX3_cleanUp_50 (by decide) ?_
        exact j_eq rfl rfl (by rw [show f_X3_cleanUp_x1 g s0 v q = 0 from ((if_pos c1).trans ((if_pos c30).trans (if_pos c43)))]) K51
      · refine j_iconst (v := 1) C dX3_cleanUp_46 (by decide) ?_
        refine j_goto (tgt := 51) C dX3_cleanUp_47 (by decide) ?_
        exact j_eq rfl rfl (by rw [show f_X3_cleanUp_x1 g s0 v q = 1 from ((if_pos c1).trans ((if_pos c30).trans (if_neg c43)))]) K51
  · refine j_aload_n C dX3_cleanUp_4 1 rfl ?_
    refine j_get C kin0 rfl 2 rfl 3 (by decide) kw_42 rfl (v := .int (v.1 3)) rfl dX3_cleanUp_5 ?_
    refine j_aload_n C dX3_cleanUp_8 0 rfl ?_
    refine j_get C kin3 rfl 0 rfl 0 (by decide) kw_78 rfl (v := .ref sa) rfl dX3_cleanUp_9 ?_
    refine j_bipush (v := 6) C dX3_cleanUp_12 (by decide) ?_
    refine j_iald C 1 rfl (vin_lit rfl) (v := s0 6) rfl dX3_cleanUp_14 ?_
    refine j_icmp_le (tgt := 22) C dX3_cleanUp_15 (by decide) (fun c15 => ?_) (fun c15 => ?_)
    · refine j_iconst (v := 0) C dX3_cleanUp_22 (by decide) ?_
      refine j_goto (tgt := 51) C dX3_cleanUp_23 (by decide) ?_
      exact j_eq rfl rfl (by rw [show f_X3_cleanUp_x1 g s0 v q = 0 from ((if_neg c1).trans (if_pos c15))]) K51
    · refine j_iconst (v := 1) C dX3_cleanUp_18 (by decide) ?_
      refine j_goto (tgt := 51) C dX3_cleanUp_19 (by decide) ?_
      exact j_eq rfl rfl (by rw [show f_X3_cleanUp_x1 g s0 v q = 1 from ((if_neg c1).trans (if_neg c15))]) K51
theorem f_X3_passMinuteOf_gq3_ex : ∃ F : (Nat → Int32) → (Nat → Int32) → DO → (Nat → Int8) → DO → (Nat → Int8) → (Nat → Int32), ∀ (g : Nat → Int32) (s0 : Nat → Int32) (v : DO) (f : Nat → Int8) (tv : DO) (tf : Nat → Int8), F g s0 v f tv tf = f_X3_settleHours_g g s0 v f (f_X3_hourOfNow_r g) (f_X0_isQuietIn_r v f (f_X3_hourOfNow_r g)) := ⟨fun g s0 v f tv tf => f_X3_settleHours_g g s0 v f (f_X3_hourOfNow_r g) (f_X0_isQuietIn_r v f (f_X3_hourOfNow_r g)), fun _ _ _ _ _ _ => rfl⟩
noncomputable def f_X3_passMinuteOf_gq3 : (Nat → Int32) → (Nat → Int32) → DO → (Nat → Int8) → DO → (Nat → Int8) → (Nat → Int32) := Classical.choose f_X3_passMinuteOf_gq3_ex
theorem f_X3_passMinuteOf_gq3_eq (g : Nat → Int32) (s0 : Nat → Int32) (v : DO) (f : Nat → Int8) (tv : DO) (tf : Nat → Int8) : f_X3_passMinuteOf_gq3 g s0 v f tv tf = f_X3_settleHours_g g s0 v f (f_X3_hourOfNow_r g) (f_X0_isQuietIn_r v f (f_X3_hourOfNow_r g)) := Classical.choose_spec f_X3_passMinuteOf_gq3_ex g s0 v f tv tf
theorem f_X3_passMinuteOf_fq3_ex : ∃ F : (Nat → Int32) → (Nat → Int32) → DO → (Nat → Int8) → DO → (Nat → Int8) → (Nat → Int8), ∀ (g : Nat → Int32) (s0 : Nat → Int32) (v : DO) (f : Nat → Int8) (tv : DO) (tf : Nat → Int8), F g s0 v f tv tf = f_X3_settleHours_f g s0 v f (f_X3_hourOfNow_r g) (f_X0_isQuietIn_r v f (f_X3_hourOfNow_r g)) := ⟨fun g s0 v f tv tf => f_X3_settleHours_f g s0 v f (f_X3_hourOfNow_r g) (f_X0_isQuietIn_r v f (f_X3_hourOfNow_r g)), fun _ _ _ _ _ _ => rfl⟩
noncomputable def f_X3_passMinuteOf_fq3 : (Nat → Int32) → (Nat → Int32) → DO → (Nat → Int8) → DO → (Nat → Int8) → (Nat → Int8) := Classical.choose f_X3_passMinuteOf_fq3_ex
theorem f_X3_passMinuteOf_fq3_eq (g : Nat → Int32) (s0 : Nat → Int32) (v : DO) (f : Nat → Int8) (tv : DO) (tf : Nat → Int8) : f_X3_passMinuteOf_fq3 g s0 v f tv tf = f_X3_settleHours_f g s0 v f (f_X3_hourOfNow_r g) (f_X0_isQuietIn_r v f (f_X3_hourOfNow_r g)) := Classical.choose_spec f_X3_passMinuteOf_fq3_ex g s0 v f tv tf
theorem f_X3_passMinuteOf_v4_ex : ∃ F : (Nat → Int32) → (Nat → Int32) → DO → (Nat → Int8) → DO → (Nat → Int8) → (Nat → Int32), ∀ (g : Nat → Int32) (s0 : Nat → Int32) (v : DO) (f : Nat → Int8) (tv : DO) (tf : Nat → Int8), F g s0 v f tv tf = (if (g 2) - (g 2) / 60 * 60 = 0 then (f_X3_passMinuteOf_gq3 g s0 v f tv tf) else g) := ⟨fun g s0 v f tv tf => (if (g 2) - (g 2) / 60 * 60 = 0 then (f_X3_passMinuteOf_gq3 g s0 v f tv tf) else g), fun _ _ _ _ _ _ => rfl⟩
noncomputable def f_X3_passMinuteOf_v4 : (Nat → Int32) → (Nat → Int32) → DO → (Nat → Int8) → DO → (Nat → Int8) → (Nat → Int32) := Classical.choose f_X3_passMinuteOf_v4_ex
theorem f_X3_passMinuteOf_v4_eq (g : Nat → Int32) (s0 : Nat → Int32) (v : DO) (f : Nat → Int8) (tv : DO) (tf : Nat → Int8) : f_X3_passMinuteOf_v4 g s0 v f tv tf = (if (g 2) - (g 2) / 60 * 60 = 0 then (f_X3_passMinuteOf_gq3 g s0 v f tv tf) else g) := Classical.choose_spec f_X3_passMinuteOf_v4_ex g s0 v f tv tf
theorem f_X3_passMinuteOf_v5_ex : ∃ F : (Nat → Int32) → (Nat → Int32) → DO → (Nat → Int8) → DO → (Nat → Int8) → (Nat → Int8), ∀ (g : Nat → Int32) (s0 : Nat → Int32) (v : DO) (f : Nat → Int8) (tv : DO) (tf : Nat → Int8), F g s0 v f tv tf = (if (g 2) - (g 2) / 60 * 60 = 0 then (f_X3_passMinuteOf_fq3 g s0 v f tv tf) else f) := ⟨fun g s0 v f tv tf => (if (g 2) - (g 2) / 60 * 60 = 0 then (f_X3_passMinuteOf_fq3 g s0 v f tv tf) else f), fun _ _ _ _ _ _ => rfl⟩
noncomputable def f_X3_passMinuteOf_v5 : (Nat → Int32) → (Nat → Int32) → DO → (Nat → Int8) → DO → (Nat → Int8) → (Nat → Int8) := Classical.choose f_X3_passMinuteOf_v5_ex
theorem f_X3_passMinuteOf_v5_eq (g : Nat → Int32) (s0 : Nat → Int32) (v : DO) (f : Nat → Int8) (tv : DO) (tf : Nat → Int8) : f_X3_passMinuteOf_v5 g s0 v f tv tf = (if (g 2) - (g 2) / 60 * 60 = 0 then (f_X3_passMinuteOf_fq3 g s0 v f tv tf) else f) := Classical.choose_spec f_X3_passMinuteOf_v5_ex g s0 v f tv tf
theorem f_X3_passMinuteOf_vq6_ex : ∃ F : (Nat → Int32) → (Nat → Int32) → DO → (Nat → Int8) → DO → (Nat → Int8) → DO, ∀ (g : Nat → Int32) (s0 : Nat → Int32) (v : DO) (f : Nat → Int8) (tv : DO) (tf : Nat → Int8), F g s0 v f tv tf = f_X0_takeStream_v v ((f_X3_passMinuteOf_v4 g s0 v f tv tf) 2) := ⟨fun g s0 v f tv tf => f_X0_takeStream_v v ((f_X3_passMinuteOf_v4 g s0 v f tv tf) 2), fun _ _ _ _ _ _ => rfl⟩
noncomputable def f_X3_passMinuteOf_vq6 : (Nat → Int32) → (Nat → Int32) → DO → (Nat → Int8) → DO → (Nat → Int8) → DO := Classical.choose f_X3_passMinuteOf_vq6_ex
theorem f_X3_passMinuteOf_vq6_eq (g : Nat → Int32) (s0 : Nat → Int32) (v : DO) (f : Nat → Int8) (tv : DO) (tf : Nat → Int8) : f_X3_passMinuteOf_vq6 g s0 v f tv tf = f_X0_takeStream_v v ((f_X3_passMinuteOf_v4 g s0 v f tv tf) 2) := Classical.choose_spec f_X3_passMinuteOf_vq6_ex g s0 v f tv tf
theorem f_X3_passMinuteOf_vq7_ex : ∃ F : (Nat → Int32) → (Nat → Int32) → DO → (Nat → Int8) → DO → (Nat → Int8) → DO, ∀ (g : Nat → Int32) (s0 : Nat → Int32) (v : DO) (f : Nat → Int8) (tv : DO) (tf : Nat → Int8), F g s0 v f tv tf = f_X0_takeBackFrom_v (f_X3_passMinuteOf_vq6 g s0 v f tv tf) tv := ⟨fun g s0 v f tv tf => f_X0_takeBackFrom_v (f_X3_passMinuteOf_vq6 g s0 v f tv tf) tv, fun _ _ _ _ _ _ => rfl⟩
noncomputable def f_X3_passMinuteOf_vq7 : (Nat → Int32) → (Nat → Int32) → DO → (Nat → Int8) → DO → (Nat → Int8) → DO := Classical.choose f_X3_passMinuteOf_vq7_ex
theorem f_X3_passMinuteOf_vq7_eq (g : Nat → Int32) (s0 : Nat → Int32) (v : DO) (f : Nat → Int8) (tv : DO) (tf : Nat → Int8) : f_X3_passMinuteOf_vq7 g s0 v f tv tf = f_X0_takeBackFrom_v (f_X3_passMinuteOf_vq6 g s0 v f tv tf) tv := Classical.choose_spec f_X3_passMinuteOf_vq7_ex g s0 v f tv tf
theorem f_X3_passMinuteOf_tq7_ex : ∃ F : (Nat → Int32) → (Nat → Int32) → DO → (Nat → Int8) → DO → (Nat → Int8) → DO, ∀ (g : Nat → Int32) (s0 : Nat → Int32) (v : DO) (f : Nat → Int8) (tv : DO) (tf : Nat → Int8), F g s0 v f tv tf = f_X0_takeBackFrom_t (f_X3_passMinuteOf_vq6 g s0 v f tv tf) tv := ⟨fun g s0 v f tv tf => f_X0_takeBackFrom_t (f_X3_passMinuteOf_vq6 g s0 v f tv tf) tv, fun _ _ _ _ _ _ => rfl⟩
noncomputable def f_X3_passMinuteOf_tq7 : (Nat → Int32) → (Nat → Int32) → DO → (Nat → Int8) → DO → (Nat → Int8) → DO := Classical.choose f_X3_passMinuteOf_tq7_ex
theorem f_X3_passMinuteOf_tq7_eq (g : Nat → Int32) (s0 : Nat → Int32) (v : DO) (f : Nat → Int8) (tv : DO) (tf : Nat → Int8) : f_X3_passMinuteOf_tq7 g s0 v f tv tf = f_X0_takeBackFrom_t (f_X3_passMinuteOf_vq6 g s0 v f tv tf) tv := Classical.choose_spec f_X3_passMinuteOf_tq7_ex g s0 v f tv tf
theorem f_X3_passMinuteOf_v8_ex : ∃ F : (Nat → Int32) → (Nat → Int32) → DO → (Nat → Int8) → DO → (Nat → Int8) → DO, ∀ (g : Nat → Int32) (s0 : Nat → Int32) (v : DO) (f : Nat → Int8) (tv : DO) (tf : Nat → Int8), F g s0 v f tv tf = (if f_X0_isQuietIn_r v f (f_X3_hourOfNow_r g) = 0 then (f_X3_passMinuteOf_vq7 g s0 v f tv tf) else (f_X3_passMinuteOf_vq6 g s0 v f tv tf)) := ⟨fun g s0 v f tv tf => (if f_X0_isQuietIn_r v f (f_X3_hourOfNow_r g) = 0 then (f_X3_passMinuteOf_vq7 g s0 v f tv tf) else (f_X3_passMinuteOf_vq6 g s0 v f tv tf)), fun _ _ _ _ _ _ => rfl⟩
noncomputable def f_X3_passMinuteOf_v8 : (Nat → Int32) → (Nat → Int32) → DO → (Nat → Int8) → DO → (Nat → Int8) → DO := Classical.choose f_X3_passMinuteOf_v8_ex
theorem f_X3_passMinuteOf_v8_eq (g : Nat → Int32) (s0 : Nat → Int32) (v : DO) (f : Nat → Int8) (tv : DO) (tf : Nat → Int8) : f_X3_passMinuteOf_v8 g s0 v f tv tf = (if f_X0_isQuietIn_r v f (f_X3_hourOfNow_r g) = 0 then (f_X3_passMinuteOf_vq7 g s0 v f tv tf) else (f_X3_passMinuteOf_vq6 g s0 v f tv tf)) := Classical.choose_spec f_X3_passMinuteOf_v8_ex g s0 v f tv tf
theorem f_X3_passMinuteOf_v9_ex : ∃ F : (Nat → Int32) → (Nat → Int32) → DO → (Nat → Int8) → DO → (Nat → Int8) → DO, ∀ (g : Nat → Int32) (s0 : Nat → Int32) (v : DO) (f : Nat → Int8) (tv : DO) (tf : Nat → Int8), F g s0 v f tv tf = (if f_X0_isQuietIn_r v f (f_X3_hourOfNow_r g) = 0 then (f_X3_passMinuteOf_tq7 g s0 v f tv tf) else tv) := ⟨fun g s0 v f tv tf => (if f_X0_isQuietIn_r v f (f_X3_hourOfNow_r g) = 0 then (f_X3_passMinuteOf_tq7 g s0 v f tv tf) else tv), fun _ _ _ _ _ _ => rfl⟩
noncomputable def f_X3_passMinuteOf_v9 : (Nat → Int32) → (Nat → Int32) → DO → (Nat → Int8) → DO → (Nat → Int8) → DO := Classical.choose f_X3_passMinuteOf_v9_ex
theorem f_X3_passMinuteOf_v9_eq (g : Nat → Int32) (s0 : Nat → Int32) (v : DO) (f : Nat → Int8) (tv : DO) (tf : Nat → Int8) : f_X3_passMinuteOf_v9 g s0 v f tv tf = (if f_X0_isQuietIn_r v f (f_X3_hourOfNow_r g) = 0 then (f_X3_passMinuteOf_tq7 g s0 v f tv tf) else tv) := Classical.choose_spec f_X3_passMinuteOf_v9_ex g s0 v f tv tf
theorem f_X3_passMinuteOf_rq11_ex : ∃ F : (Nat → Int32) → (Nat → Int32) → DO → (Nat → Int8) → DO → (Nat → Int8) → Int32, ∀ (g : Nat → Int32) (s0 : Nat → Int32) (v : DO) (f : Nat → Int8) (tv : DO) (tf : Nat → Int8), F g s0 v f tv tf = f_X0_isQuietIn_r (f_X3_passMinuteOf_v9 g s0 v f tv tf) tf (f_X3_hourOfNow_r g) := ⟨fun g s0 v f tv tf => f_X0_isQuietIn_r (f_X3_passMinuteOf_v9 g s0 v f tv tf) tf (f_X3_hourOfNow_r g), fun _ _ _ _ _ _ => rfl⟩
noncomputable def f_X3_passMinuteOf_rq11 : (Nat → Int32) → (Nat → Int32) → DO → (Nat → Int8) → DO → (Nat → Int8) → Int32 := Classical.choose f_X3_passMinuteOf_rq11_ex
theorem f_X3_passMinuteOf_rq11_eq (g : Nat → Int32) (s0 : Nat → Int32) (v : DO) (f : Nat → Int8) (tv : DO) (tf : Nat → Int8) : f_X3_passMinuteOf_rq11 g s0 v f tv tf = f_X0_isQuietIn_r (f_X3_passMinuteOf_v9 g s0 v f tv tf) tf (f_X3_hourOfNow_r g) := Classical.choose_spec f_X3_passMinuteOf_rq11_ex g s0 v f tv tf
theorem f_X3_passMinuteOf_vq12_ex : ∃ F : (Nat → Int32) → (Nat → Int32) → DO → (Nat → Int8) → DO → (Nat → Int8) → DO, ∀ (g : Nat → Int32) (s0 : Nat → Int32) (v : DO) (f : Nat → Int8) (tv : DO) (tf : Nat → Int8), F g s0 v f tv tf = f_X0_lendTo_v (f_X0_writeHeld_v (f_X3_passMinuteOf_v8 g s0 v f tv tf)) (f_X3_passMinuteOf_v9 g s0 v f tv tf) (s0 6) := ⟨fun g s0 v f tv tf => f_X0_lendTo_v (f_X0_writeHeld_v (f_X3_passMinuteOf_v8 g s0 v f tv tf)) (f_X3_passMinuteOf_v9 g s0 v f tv tf) (s0 6), fun _ _ _ _ _ _ => rfl⟩
noncomputable def f_X3_passMinuteOf_vq12 : (Nat → Int32) → (Nat → Int32) → DO → (Nat → Int8) → DO → (Nat → Int8) → DO := Classical.choose f_X3_passMinuteOf_vq12_ex
theorem f_X3_passMinuteOf_vq12_eq (g : Nat → Int32) (s0 : Nat → Int32) (v : DO) (f : Nat → Int8) (tv : DO) (tf : Nat → Int8) : f_X3_passMinuteOf_vq12 g s0 v f tv tf = f_X0_lendTo_v (f_X0_writeHeld_v (f_X3_passMinuteOf_v8 g s0 v f tv tf)) (f_X3_passMinuteOf_v9 g s0 v f tv tf) (s0 6) := Classical.choose_spec f_X3_passMinuteOf_vq12_ex g s0 v f tv tf
theorem f_X3_passMinuteOf_tq12_ex : ∃ F : (Nat → Int32) → (Nat → Int32) → DO → (Nat → Int8) → DO → (Nat → Int8) → DO, ∀ (g : Nat → Int32) (s0 : Nat → Int32) (v : DO) (f : Nat → Int8) (tv : DO) (tf : Nat → Int8), F g s0 v f tv tf = f_X0_lendTo_t (f_X0_writeHeld_v (f_X3_passMinuteOf_v8 g s0 v f tv tf)) (f_X3_passMinuteOf_v9 g s0 v f tv tf) (s0 6) := ⟨fun g s0 v f tv tf => f_X0_lendTo_t (f_X0_writeHeld_v (f_X3_passMinuteOf_v8 g s0 v f tv tf)) (f_X3_passMinuteOf_v9 g s0 v f tv tf) (s0 6), fun _ _ _ _ _ _ => rfl⟩
noncomputable def f_X3_passMinuteOf_tq12 : (Nat → Int32) → (Nat → Int32) → DO → (Nat → Int8) → DO → (Nat → Int8) → DO := Classical.choose f_X3_passMinuteOf_tq12_ex
theorem f_X3_passMinuteOf_tq12_eq (g : Nat → Int32) (s0 : Nat → Int32) (v : DO) (f : Nat → Int8) (tv : DO) (tf : Nat → Int8) : f_X3_passMinuteOf_tq12 g s0 v f tv tf = f_X0_lendTo_t (f_X0_writeHeld_v (f_X3_passMinuteOf_v8 g s0 v f tv tf)) (f_X3_passMinuteOf_v9 g s0 v f tv tf) (s0 6) := Classical.choose_spec f_X3_passMinuteOf_tq12_ex g s0 v f tv tf
theorem f_X3_passMinuteOf_v13_ex : ∃ F : (Nat → Int32) → (Nat → Int32) → DO → (Nat → Int8) → DO → (Nat → Int8) → DO, ∀ (g : Nat → Int32) (s0 : Nat → Int32) (v : DO) (f : Nat → Int8) (tv : DO) (tf : Nat → Int8), F g s0 v f tv tf = (if f_X0_isQuietIn_r v f (f_X3_hourOfNow_r g) = 0 then f_X0_writeHeld_v (f_X3_passMinuteOf_v8 g s0 v f tv tf) else (if (f_X3_passMinuteOf_rq11 g s0 v f tv tf) = 0 then (f_X3_passMinuteOf_vq12 g s0 v f tv tf) else f_X0_writeHeld_v (f_X3_passMinuteOf_v8 g s0 v f tv tf))) := ⟨fun g s0 v f tv tf => (if f_X0_isQuietIn_r v f (f_X3_hourOfNow_r g) = 0 then f_X0_writeHeld_v (f_X3_passMinuteOf_v8 g s0 v f tv tf) else (if (f_X3_passMinuteOf_rq11 g s0 v f tv tf) = 0 then (f_X3_passMinuteOf_vq12 g s0 v f tv tf) else f_X0_writeHeld_v (f_X3_passMinuteOf_v8 g s0 v f tv tf))), fun _ _ _ _ _ _ => rfl⟩
noncomputable def f_X3_passMinuteOf_v13 : (Nat → Int32) → (Nat → Int32) → DO → (Nat → Int8) → DO → (Nat → Int8) → DO := Classical.choose f_X3_passMinuteOf_v13_ex
theorem f_X3_passMinuteOf_v13_eq (g : Nat → Int32) (s0 : Nat → Int32) (v : DO) (f : Nat → Int8) (tv : DO) (tf : Nat → Int8) : f_X3_passMinuteOf_v13 g s0 v f tv tf = (if f_X0_isQuietIn_r v f (f_X3_hourOfNow_r g) = 0 then f_X0_writeHeld_v (f_X3_passMinuteOf_v8 g s0 v f tv tf) else (if (f_X3_passMinuteOf_rq11 g s0 v f tv tf) = 0 then (f_X3_passMinuteOf_vq12 g s0 v f tv tf) else f_X0_writeHeld_v (f_X3_passMinuteOf_v8 g s0 v f tv tf))) := Classical.choose_spec f_X3_passMinuteOf_v13_ex g s0 v f tv tf
theorem f_X3_passMinuteOf_v14_ex : ∃ F : (Nat → Int32) → (Nat → Int32) → DO → (Nat → Int8) → DO → (Nat → Int8) → DO, ∀ (g : Nat → Int32) (s0 : Nat → Int32) (v : DO) (f : Nat → Int8) (tv : DO) (tf : Nat → Int8), F g s0 v f tv tf = (if f_X0_isQuietIn_r v f (f_X3_hourOfNow_r g) = 0 then (f_X3_passMinuteOf_v9 g s0 v f tv tf) else (if (f_X3_passMinuteOf_rq11 g s0 v f tv tf) = 0 then (f_X3_passMinuteOf_tq12 g s0 v f tv tf) else (f_X3_passMinuteOf_v9 g s0 v f tv tf))) := ⟨fun g s0 v f tv tf => (if f_X0_isQuietIn_r v f (f_X3_hourOfNow_r g) = 0 then (f_X3_passMinuteOf_v9 g s0 v f tv tf) else (if (f_X3_passMinuteOf_rq11 g s0 v f tv tf) = 0 then (f_X3_passMinuteOf_tq12 g s0 v f tv tf) else (f_X3_passMinuteOf_v9 g s0 v f tv tf))), fun _ _ _ _ _ _ => rfl⟩
noncomputable def f_X3_passMinuteOf_v14 : (Nat → Int32) → (Nat → Int32) → DO → (Nat → Int8) → DO → (Nat → Int8) → DO := Classical.choose f_X3_passMinuteOf_v14_ex
theorem f_X3_passMinuteOf_v14_eq (g : Nat → Int32) (s0 : Nat → Int32) (v : DO) (f : Nat → Int8) (tv : DO) (tf : Nat → Int8) : f_X3_passMinuteOf_v14 g s0 v f tv tf = (if f_X0_isQuietIn_r v f (f_X3_hourOfNow_r g) = 0 then (f_X3_passMinuteOf_v9 g s0 v f tv tf) else (if (f_X3_passMinuteOf_rq11 g s0 v f tv tf) = 0 then (f_X3_passMinuteOf_tq12 g s0 v f tv tf) else (f_X3_passMinuteOf_v9 g s0 v f tv tf))) := Classical.choose_spec f_X3_passMinuteOf_v14_ex g s0 v f tv tf
theorem f_X3_passMinuteOf_rq15_ex : ∃ F : (Nat → Int32) → (Nat → Int32) → DO → (Nat → Int8) → DO → (Nat → Int8) → Int32, ∀ (g : Nat → Int32) (s0 : Nat → Int32) (v : DO) (f : Nat → Int8) (tv : DO) (tf : Nat → Int8), F g s0 v f tv tf = f_X3_cleanUp_r (f_X3_passMinuteOf_v4 g s0 v f tv tf) s0 (f_X3_passMinuteOf_v13 g s0 v f tv tf) (f_X0_isQuietIn_r v f (f_X3_hourOfNow_r g)) := ⟨fun g s0 v f tv tf => f_X3_cleanUp_r (f_X3_passMinuteOf_v4 g s0 v f tv tf) s0 (f_X3_passMinuteOf_v13 g s0 v f tv tf) (f_X0_isQuietIn_r v f (f_X3_hourOfNow_r g)), fun _ _ _ _ _ _ => rfl⟩
noncomputable def f_X3_passMinuteOf_rq15 : (Nat → Int32) → (Nat → Int32) → DO → (Nat → Int8) → DO → (Nat → Int8) → Int32 := Classical.choose f_X3_passMinuteOf_rq15_ex
theorem f_X3_passMinuteOf_rq15_eq (g : Nat → Int32) (s0 : Nat → Int32) (v : DO) (f : Nat → Int8) (tv : DO) (tf : Nat → Int8) : f_X3_passMinuteOf_rq15 g s0 v f tv tf = f_X3_cleanUp_r (f_X3_passMinuteOf_v4 g s0 v f tv tf) s0 (f_X3_passMinuteOf_v13 g s0 v f tv tf) (f_X0_isQuietIn_r v f (f_X3_hourOfNow_r g)) := Classical.choose_spec f_X3_passMinuteOf_rq15_ex g s0 v f tv tf
theorem f_X3_passMinuteOf_vq15_ex : ∃ F : (Nat → Int32) → (Nat → Int32) → DO → (Nat → Int8) → DO → (Nat → Int8) → DO, ∀ (g : Nat → Int32) (s0 : Nat → Int32) (v : DO) (f : Nat → Int8) (tv : DO) (tf : Nat → Int8), F g s0 v f tv tf = f_X3_cleanUp_v (f_X3_passMinuteOf_v4 g s0 v f tv tf) s0 (f_X3_passMinuteOf_v13 g s0 v f tv tf) (f_X0_isQuietIn_r v f (f_X3_hourOfNow_r g)) := ⟨fun g s0 v f tv tf => f_X3_cleanUp_v (f_X3_passMinuteOf_v4 g s0 v f tv tf) s0 (f_X3_passMinuteOf_v13 g s0 v f tv tf) (f_X0_isQuietIn_r v f (f_X3_hourOfNow_r g)), fun _ _ _ _ _ _ => rfl⟩
noncomputable def f_X3_passMinuteOf_vq15 : (Nat → Int32) → (Nat → Int32) → DO → (Nat → Int8) → DO → (Nat → Int8) → DO := Classical.choose f_X3_passMinuteOf_vq15_ex
theorem f_X3_passMinuteOf_vq15_eq (g : Nat → Int32) (s0 : Nat → Int32) (v : DO) (f : Nat → Int8) (tv : DO) (tf : Nat → Int8) : f_X3_passMinuteOf_vq15 g s0 v f tv tf = f_X3_cleanUp_v (f_X3_passMinuteOf_v4 g s0 v f tv tf) s0 (f_X3_passMinuteOf_v13 g s0 v f tv tf) (f_X0_isQuietIn_r v f (f_X3_hourOfNow_r g)) := Classical.choose_spec f_X3_passMinuteOf_vq15_ex g s0 v f tv tf
theorem f_X3_passMinuteOf_gq16_ex : ∃ F : (Nat → Int32) → (Nat → Int32) → DO → (Nat → Int8) → DO → (Nat → Int8) → (Nat → Int32), ∀ (g : Nat → Int32) (s0 : Nat → Int32) (v : DO) (f : Nat → Int8) (tv : DO) (tf : Nat → Int8), F g s0 v f tv tf = f_X3_chargeOverrun_g (f_X3_passMinuteOf_v4 g s0 v f tv tf) s0 (f_X3_passMinuteOf_vq15 g s0 v f tv tf) (f_X3_passMinuteOf_v5 g s0 v f tv tf) (f_X3_hourOfNow_r g) := ⟨fun g s0 v f tv tf => f_X3_chargeOverrun_g (f_X3_passMinuteOf_v4 g s0 v f tv tf) s0 (f_X3_passMinuteOf_vq15 g s0 v f tv tf) (f_X3_passMinuteOf_v5 g s0 v f tv tf) (f_X3_hourOfNow_r g), fun _ _ _ _ _ _ => rfl⟩
noncomputable def f_X3_passMinuteOf_gq16 : (Nat → Int32) → (Nat → Int32) → DO → (Nat → Int8) → DO → (Nat → Int8) → (Nat → Int32) := Classical.choose f_X3_passMinuteOf_gq16_ex
theorem f_X3_passMinuteOf_gq16_eq (g : Nat → Int32) (s0 : Nat → Int32) (v : DO) (f : Nat → Int8) (tv : DO) (tf : Nat → Int8) : f_X3_passMinuteOf_gq16 g s0 v f tv tf = f_X3_chargeOverrun_g (f_X3_passMinuteOf_v4 g s0 v f tv tf) s0 (f_X3_passMinuteOf_vq15 g s0 v f tv tf) (f_X3_passMinuteOf_v5 g s0 v f tv tf) (f_X3_hourOfNow_r g) := Classical.choose_spec f_X3_passMinuteOf_gq16_ex g s0 v f tv tf
theorem f_X3_passMinuteOf_vq16_ex : ∃ F : (Nat → Int32) → (Nat → Int32) → DO → (Nat → Int8) → DO → (Nat → Int8) → DO, ∀ (g : Nat → Int32) (s0 : Nat → Int32) (v : DO) (f : Nat → Int8) (tv : DO) (tf : Nat → Int8), F g s0 v f tv tf = f_X3_chargeOverrun_v (f_X3_passMinuteOf_v4 g s0 v f tv tf) s0 (f_X3_passMinuteOf_vq15 g s0 v f tv tf) (f_X3_passMinuteOf_v5 g s0 v f tv tf) (f_X3_hourOfNow_r g) := ⟨fun g s0 v f tv tf => f_X3_chargeOverrun_v (f_X3_passMinuteOf_v4 g s0 v f tv tf) s0 (f_X3_passMinuteOf_vq15 g s0 v f tv tf) (f_X3_passMinuteOf_v5 g s0 v f tv tf) (f_X3_hourOfNow_r g), fun _ _ _ _ _ _ => rfl⟩
noncomputable def f_X3_passMinuteOf_vq16 : (Nat → Int32) → (Nat → Int32) → DO → (Nat → Int8) → DO → (Nat → Int8) → DO := Classical.choose f_X3_passMinuteOf_vq16_ex
theorem f_X3_passMinuteOf_vq16_eq (g : Nat → Int32) (s0 : Nat → Int32) (v : DO) (f : Nat → Int8) (tv : DO) (tf : Nat → Int8) : f_X3_passMinuteOf_vq16 g s0 v f tv tf = f_X3_chargeOverrun_v (f_X3_passMinuteOf_v4 g s0 v f tv tf) s0 (f_X3_passMinuteOf_vq15 g s0 v f tv tf) (f_X3_passMinuteOf_v5 g s0 v f tv tf) (f_X3_hourOfNow_r g) := Classical.choose_spec f_X3_passMinuteOf_vq16_ex g s0 v f tv tf
theorem f_X3_passMinuteOf_fq16_ex : ∃ F : (Nat → Int32) → (Nat → Int32) → DO → (Nat → Int8) → DO → (Nat → Int8) → (Nat → Int8), ∀ (g : Nat → Int32) (s0 : Nat → Int32) (v : DO) (f : Nat → Int8) (tv : DO) (tf : Nat → Int8), F g s0 v f tv tf = f_X3_chargeOverrun_f (f_X3_passMinuteOf_v4 g s0 v f tv tf) s0 (f_X3_passMinuteOf_vq15 g s0 v f tv tf) (f_X3_passMinuteOf_v5 g s0 v f tv tf) (f_X3_hourOfNow_r g) := ⟨fun g s0 v f tv tf => f_X3_chargeOverrun_f (f_X3_passMinuteOf_v4 g s0 v f tv tf) s0 (f_X3_passMinuteOf_vq15 g s0 v f tv tf) (f_X3_passMinuteOf_v5 g s0 v f tv tf) (f_X3_hourOfNow_r g), fun _ _ _ _ _ _ => rfl⟩
noncomputable def f_X3_passMinuteOf_fq16 : (Nat → Int32) → (Nat → Int32) → DO → (Nat → Int8) → DO → (Nat → Int8) → (Nat → Int8) := Classical.choose f_X3_passMinuteOf_fq16_ex
theorem f_X3_passMinuteOf_fq16_eq (g : Nat → Int32) (s0 : Nat → Int32) (v : DO) (f : Nat → Int8) (tv : DO) (tf : Nat → Int8) : f_X3_passMinuteOf_fq16 g s0 v f tv tf = f_X3_chargeOverrun_f (f_X3_passMinuteOf_v4 g s0 v f tv tf) s0 (f_X3_passMinuteOf_vq15 g s0 v f tv tf) (f_X3_passMinuteOf_v5 g s0 v f tv tf) (f_X3_hourOfNow_r g) := Classical.choose_spec f_X3_passMinuteOf_fq16_ex g s0 v f tv tf
theorem f_X3_passMinuteOf_v17_ex : ∃ F : (Nat → Int32) → (Nat → Int32) → DO → (Nat → Int8) → DO → (Nat → Int8) → (Nat → Int32), ∀ (g : Nat → Int32) (s0 : Nat → Int32) (v : DO) (f : Nat → Int8) (tv : DO) (tf : Nat → Int8), F g s0 v f tv tf = (if (f_X3_passMinuteOf_rq15 g s0 v f tv tf) = 0 then (f_X3_passMinuteOf_v4 g s0 v f tv tf) else (if f_X0_isQuietIn_r v f (f_X3_hourOfNow_r g) = 0 then (f_X3_passMinuteOf_v4 g s0 v f tv tf) else (f_X3_passMinuteOf_gq16 g s0 v f tv tf))) := ⟨fun g s0 v f tv tf => (if (f_X3_passMinuteOf_rq15 g s0 v f tv tf) = 0 then (f_X3_passMinuteOf_v4 g s0 v f tv tf) else (if f_X0_isQuietIn_r v f (f_X3_hourOfNow_r g) = 0 then (f_X3_passMinuteOf_v4 g s0 v f tv tf) else (f_X3_passMinuteOf_gq16 g s0 v f tv tf))), fun _ _ _ _ _ _ => rfl⟩
noncomputable def f_X3_passMinuteOf_v17 : (Nat → Int32) → (Nat → Int32) → DO → (Nat → Int8) → DO → (Nat → Int8) → (Nat → Int32) := Classical.choose f_X3_passMinuteOf_v17_ex
theorem f_X3_passMinuteOf_v17_eq (g : Nat → Int32) (s0 : Nat → Int32) (v : DO) (f : Nat → Int8) (tv : DO) (tf : Nat → Int8) : f_X3_passMinuteOf_v17 g s0 v f tv tf = (if (f_X3_passMinuteOf_rq15 g s0 v f tv tf) = 0 then (f_X3_passMinuteOf_v4 g s0 v f tv tf) else (if f_X0_isQuietIn_r v f (f_X3_hourOfNow_r g) = 0 then (f_X3_passMinuteOf_v4 g s0 v f tv tf) else (f_X3_passMinuteOf_gq16 g s0 v f tv tf))) := Classical.choose_spec f_X3_passMinuteOf_v17_ex g s0 v f tv tf
theorem f_X3_passMinuteOf_v18_ex : ∃ F : (Nat → Int32) → (Nat → Int32) → DO → (Nat → Int8) → DO → (Nat → Int8) → DO, ∀ (g : Nat → Int32) (s0 : Nat → Int32) (v : DO) (f : Nat → Int8) (tv : DO) (tf : Nat → Int8), F g s0 v f tv tf = (if (f_X3_passMinuteOf_rq15 g s0 v f tv tf) = 0 then (f_X3_passMinuteOf_vq15 g s0 v f tv tf) else (if f_X0_isQuietIn_r v f (f_X3_hourOfNow_r g) = 0 then (f_X3_passMinuteOf_vq15 g s0 v f tv tf) else (f_X3_passMinuteOf_vq16 g s0 v f tv tf))) := ⟨fun g s0 v f tv tf => (if (f_X3_passMinuteOf_rq15 g s0 v f tv tf) = 0 then (f_X3_passMinuteOf_vq15 g s0 v f tv tf) else (if f_X0_isQuietIn_r v f (f_X3_hourOfNow_r g) = 0 then (f_X3_passMinuteOf_vq15 g s0 v f tv tf) else (f_X3_passMinuteOf_vq16 g s0 v f tv tf))), fun _ _ _ _ _ _ => rfl⟩
noncomputable def f_X3_passMinuteOf_v18 : (Nat → Int32) → (Nat → Int32) → DO → (Nat → Int8) → DO → (Nat → Int8) → DO := Classical.choose f_X3_passMinuteOf_v18_ex
theorem f_X3_passMinuteOf_v18_eq (g : Nat → Int32) (s0 : Nat → Int32) (v : DO) (f : Nat → Int8) (tv : DO) (tf : Nat → Int8) : f_X3_passMinuteOf_v18 g s0 v f tv tf = (if (f_X3_passMinuteOf_rq15 g s0 v f tv tf) = 0 then (f_X3_passMinuteOf_vq15 g s0 v f tv tf) else (if f_X0_isQuietIn_r v f (f_X3_hourOfNow_r g) = 0 then (f_X3_passMinuteOf_vq15 g s0 v f tv tf) else (f_X3_passMinuteOf_vq16 g s0 v f tv tf))) := Classical.choose_spec f_X3_passMinuteOf_v18_ex g s0 v f tv tf
theorem f_X3_passMinuteOf_v19_ex : ∃ F : (Nat → Int32) → (Nat → Int32) → DO → (Nat → Int8) → DO → (Nat → Int8) → (Nat → Int8), ∀ (g : Nat → Int32) (s0 : Nat → Int32) (v : DO) (f : Nat → Int8) (tv : DO) (tf : Nat → Int8), F g s0 v f tv tf = (if (f_X3_passMinuteOf_rq15 g s0 v f tv tf) = 0 then (f_X3_passMinuteOf_v5 g s0 v f tv tf) else (if f_X0_isQuietIn_r v f (f_X3_hourOfNow_r g) = 0 then (f_X3_passMinuteOf_v5 g s0 v f tv tf) else (f_X3_passMinuteOf_fq16 g s0 v f tv tf))) := ⟨fun g s0 v f tv tf => (if (f_X3_passMinuteOf_rq15 g s0 v f tv tf) = 0 then (f_X3_passMinuteOf_v5 g s0 v f tv tf) else (if f_X0_isQuietIn_r v f (f_X3_hourOfNow_r g) = 0 then (f_X3_passMinuteOf_v5 g s0 v f tv tf) else (f_X3_passMinuteOf_fq16 g s0 v f tv tf))), fun _ _ _ _ _ _ => rfl⟩
noncomputable def f_X3_passMinuteOf_v19 : (Nat → Int32) → (Nat → Int32) → DO → (Nat → Int8) → DO → (Nat → Int8) → (Nat → Int8) := Classical.choose f_X3_passMinuteOf_v19_ex
theorem f_X3_passMinuteOf_v19_eq (g : Nat → Int32) (s0 : Nat → Int32) (v : DO) (f : Nat → Int8) (tv : DO) (tf : Nat → Int8) : f_X3_passMinuteOf_v19 g s0 v f tv tf = (if (f_X3_passMinuteOf_rq15 g s0 v f tv tf) = 0 then (f_X3_passMinuteOf_v5 g s0 v f tv tf) else (if f_X0_isQuietIn_r v f (f_X3_hourOfNow_r g) = 0 then (f_X3_passMinuteOf_v5 g s0 v f tv tf) else (f_X3_passMinuteOf_fq16 g s0 v f tv tf))) := Classical.choose_spec f_X3_passMinuteOf_v19_ex g s0 v f tv tf
theorem f_X3_passMinuteOf_x20_ex : ∃ F : (Nat → Int32) → (Nat → Int32) → DO → (Nat → Int8) → DO → (Nat → Int8) → Int32, ∀ (g : Nat → Int32) (s0 : Nat → Int32) (v : DO) (f : Nat → Int8) (tv : DO) (tf : Nat → Int8), F g s0 v f tv tf = (if (f_X3_passMinuteOf_rq15 g s0 v f tv tf) = 0 then 0 else (if f_X0_isQuietIn_r v f (f_X3_hourOfNow_r g) = 0 then 0 else 1)) := ⟨fun g s0 v f tv tf => (if (f_X3_passMinuteOf_rq15 g s0 v f tv tf) = 0 then 0 else (if f_X0_isQuietIn_r v f (f_X3_hourOfNow_r g) = 0 then 0 else 1)), fun _ _ _ _ _ _ => rfl⟩
noncomputable def f_X3_passMinuteOf_x20 : (Nat → Int32) → (Nat → Int32) → DO → (Nat → Int8) → DO → (Nat → Int8) → Int32 := Classical.choose f_X3_passMinuteOf_x20_ex
theorem f_X3_passMinuteOf_x20_eq (g : Nat → Int32) (s0 : Nat → Int32) (v : DO) (f : Nat → Int8) (tv : DO) (tf : Nat → Int8) : f_X3_passMinuteOf_x20 g s0 v f tv tf = (if (f_X3_passMinuteOf_rq15 g s0 v f tv tf) = 0 then 0 else (if f_X0_isQuietIn_r v f (f_X3_hourOfNow_r g) = 0 then 0 else 1)) := Classical.choose_spec f_X3_passMinuteOf_x20_ex g s0 v f tv tf
theorem f_X3_passMinuteOf_g_ex : ∃ F : (Nat → Int32) → (Nat → Int32) → DO → (Nat → Int8) → DO → (Nat → Int8) → (Nat → Int32), ∀ (g : Nat → Int32) (s0 : Nat → Int32) (v : DO) (f : Nat → Int8) (tv : DO) (tf : Nat → Int8), F g s0 v f tv tf = (f_X3_passMinuteOf_v17 g s0 v f tv tf) := ⟨fun g s0 v f tv tf => (f_X3_passMinuteOf_v17 g s0 v f tv tf), fun _ _ _ _ _ _ => rfl⟩
noncomputable def f_X3_passMinuteOf_g : (Nat → Int32) → (Nat → Int32) → DO → (Nat → Int8) → DO → (Nat → Int8) → (Nat → Int32) := Classical.choose f_X3_passMinuteOf_g_ex
theorem f_X3_passMinuteOf_g_eq (g : Nat → Int32) (s0 : Nat → Int32) (v : DO) (f : Nat → Int8) (tv : DO) (tf : Nat → Int8) : f_X3_passMinuteOf_g g s0 v f tv tf = (f_X3_passMinuteOf_v17 g s0 v f tv tf) := Classical.choose_spec f_X3_passMinuteOf_g_ex g s0 v f tv tf
theorem f_X3_passMinuteOf_v_ex : ∃ F : (Nat → Int32) → (Nat → Int32) → DO → (Nat → Int8) → DO → (Nat → Int8) → DO, ∀ (g : Nat → Int32) (s0 : Nat → Int32) (v : DO) (f : Nat → Int8) (tv : DO) (tf : Nat → Int8), F g s0 v f tv tf = ((f_X3_passMinuteOf_v18 g s0 v f tv tf).1, (f_X3_passMinuteOf_v18 g s0 v f tv tf).2 + (((f_X3_passMinuteOf_v18 g s0 v f tv tf).1 3).toInt64)) := ⟨fun g s0 v f tv tf => ((f_X3_passMinuteOf_v18 g s0 v f tv tf).1, (f_X3_passMinuteOf_v18 g s0 v f tv tf).2 + (((f_X3_passMinuteOf_v18 g s0 v f tv tf).1 3).toInt64)), fun _ _ _ _ _ _ => rfl⟩
noncomputable def f_X3_passMinuteOf_v : (Nat → Int32) → (Nat → Int32) → DO → (Nat → Int8) → DO → (Nat → Int8) → DO := Classical.choose f_X3_passMinuteOf_v_ex
theorem f_X3_passMinuteOf_v_eq (g : Nat → Int32) (s0 : Nat → Int32) (v : DO) (f : Nat → Int8) (tv : DO) (tf : Nat → Int8) : f_X3_passMinuteOf_v g s0 v f tv tf = ((f_X3_passMinuteOf_v18 g s0 v f tv tf).1, (f_X3_passMinuteOf_v18 g s0 v f tv tf).2 + (((f_X3_passMinuteOf_v18 g s0 v f tv tf).1 3).toInt64)) := Classical.choose_spec f_X3_passMinuteOf_v_ex g s0 v f tv tf
theorem f_X3_passMinuteOf_f_ex : ∃ F : (Nat → Int32) → (Nat → Int32) → DO → (Nat → Int8) → DO → (Nat → Int8) → (Nat → Int8), ∀ (g : Nat → Int32) (s0 : Nat → Int32) (v : DO) (f : Nat → Int8) (tv : DO) (tf : Nat → Int8), F g s0 v f tv tf = (f_X3_passMinuteOf_v19 g s0 v f tv tf) := ⟨fun g s0 v f tv tf => (f_X3_passMinuteOf_v19 g s0 v f tv tf), fun _ _ _ _ _ _ => rfl⟩
noncomputable def f_X3_passMinuteOf_f : (Nat → Int32) → (Nat → Int32) → DO → (Nat → Int8) → DO → (Nat → Int8) → (Nat → Int8) := Classical.choose f_X3_passMinuteOf_f_ex
theorem f_X3_passMinuteOf_f_eq (g : Nat → Int32) (s0 : Nat → Int32) (v : DO) (f : Nat → Int8) (tv : DO) (tf : Nat → Int8) : f_X3_passMinuteOf_f g s0 v f tv tf = (f_X3_passMinuteOf_v19 g s0 v f tv tf) := Classical.choose_spec f_X3_passMinuteOf_f_ex g s0 v f tv tf
theorem f_X3_passMinuteOf_tv_ex : ∃ F : (Nat → Int32) → (Nat → Int32) → DO → (Nat → Int8) → DO → (Nat → Int8) → DO, ∀ (g : Nat → Int32) (s0 : Nat → Int32) (v : DO) (f : Nat → Int8) (tv : DO) (tf : Nat → Int8), F g s0 v f tv tf = (f_X3_passMinuteOf_v14 g s0 v f tv tf) := ⟨fun g s0 v f tv tf => (f_X3_passMinuteOf_v14 g s0 v f tv tf), fun _ _ _ _ _ _ => rfl⟩
noncomputable def f_X3_passMinuteOf_tv : (Nat → Int32) → (Nat → Int32) → DO → (Nat → Int8) → DO → (Nat → Int8) → DO := Classical.choose f_X3_passMinuteOf_tv_ex
theorem f_X3_passMinuteOf_tv_eq (g : Nat → Int32) (s0 : Nat → Int32) (v : DO) (f : Nat → Int8) (tv : DO) (tf : Nat → Int8) : f_X3_passMinuteOf_tv g s0 v f tv tf = (f_X3_passMinuteOf_v14 g s0 v f tv tf) := Classical.choose_spec f_X3_passMinuteOf_tv_ex g s0 v f tv tf
theorem f_X3_passMinuteOf_r_ex : ∃ F : (Nat → Int32) → (Nat → Int32) → DO → (Nat → Int8) → DO → (Nat → Int8) → Int32, ∀ (g : Nat → Int32) (s0 : Nat → Int32) (v : DO) (f : Nat → Int8) (tv : DO) (tf : Nat → Int8), F g s0 v f tv tf = (f_X3_passMinuteOf_x20 g s0 v f tv tf) := ⟨fun g s0 v f tv tf => (f_X3_passMinuteOf_x20 g s0 v f tv tf), fun _ _ _ _ _ _ => rfl⟩
noncomputable def f_X3_passMinuteOf_r : (Nat → Int32) → (Nat → Int32) → DO → (Nat → Int8) → DO → (Nat → Int8) → Int32 := Classical.choose f_X3_passMinuteOf_r_ex
theorem f_X3_passMinuteOf_r_eq (g : Nat → Int32) (s0 : Nat → Int32) (v : DO) (f : Nat → Int8) (tv : DO) (tf : Nat → Int8) : f_X3_passMinuteOf_r g s0 v f tv tf = (f_X3_passMinuteOf_x20 g s0 v f tv tf) := Classical.choose_spec f_X3_passMinuteOf_r_ex g s0 v f tv tf
set_option maxRecDepth 100000 in
set_option maxHeartbeats 4000000 in
theorem m_X3_passMinuteOf (l : Launch) (G : GG) (a b t sa da h k : Nat) (g : Nat → Int32) (s0 : Nat → Int32) (v : DO) (f : Nat → Int8) (tv : DO) (tf : Nat → Int8)  : CtI l yX3_passMinuteOf cX3_passMinuteOf 6 (some .boolean) (RM 3) G [.ref a, .ref b, .ref t] ([oS a sa da g, aI G sa 7 s0, oD b h v, aB G h f, oD t k tv, aB G k tf]) (f_X3_passMinuteOf_r g s0 v f tv tf) ([oS a sa da (f_X3_passMinuteOf_g g s0 v f tv tf), aI G sa 7 s0, oD b h (f_X3_passMinuteOf_v g s0 v f tv tf), aB G h (f_X3_passMinuteOf_f g s0 v f tv tf), oD t k (f_X3_passMinuteOf_tv g s0 v f tv tf), aB G k tf]) := by
  refine ct_I RX3 [(0, .ref a), (1, .ref b), (2, .ref t)] rfl (by decide +kernel) (Nat.le_of_ble_eq_true rfl) rfl ?_
  intro p e s m args below meth c A C hr hk hnm
  generalize hQ : (MQ below (PostI G A (f_X3_passMinuteOf_r g s0 v f tv tf) ([oS a sa da (f_X3_passMinuteOf_g g s0 v f tv tf), aI G sa 7 s0, oD b h (f_X3_passMinuteOf_v g s0 v f tv tf), aB G h (f_X3_passMinuteOf_f g s0 v f tv tf), oD t k (f_X3_passMinuteOf_tv g s0 v f tv tf), aB G k tf])) args s (RM 3).cells (RM 3).slots A) = Q
  refine j_aload_n C dX3_passMinuteOf_0 0 rfl ?_
  refine j_callV_i (r := f_X3_hourOfNow_r g) (wc' := [oS a sa da g]) C (m_X3_hourOfNow l G a sa da g) rfl 0 rfl 0 (gV kw_216 kw_217 kw_218 kw_2 kw_219) (by decide +kernel) ⟨(Nat.le_of_ble_eq_true rfl), (Nat.le_of_ble_eq_true rfl)⟩ rfl rfl (Nat.le_of_ble_eq_true rfl) dX3_passMinuteOf_1 ⟨(Nat.le_of_ble_eq_true rfl), (Nat.le_of_ble_eq_true rfl)⟩ [aI G sa 7 s0, oD b h v, aB G h f, oD t k tv, aB G k tf] [oS a sa da g, aI G sa 7 s0, oD b h v, aB G h f, oD t k tv, aB G k tf] (perm_idx [0, 1, 2, 3, 4, 5] 6 rfl (by decide +kernel) rfl) rfl ?_
  refine j_istore_n C [(3, .int (f_X3_hourOfNow_r g)), (0, .ref a), (1, .ref b), (2, .ref t)] dX3_passMinuteOf_4 (by decide) rfl ?_
  refine j_aload_n C dX3_passMinuteOf_5 2 rfl ?_
  refine j_iload_n C dX3_passMinuteOf_6 0 rfl ?_
  refine j_callV_i (r := f_X0_isQuietIn_r v f (f_X3_hourOfNow_r g)) (wc' := [oD b h v, aB G h f]) C (m_X0_isQuietIn l G b h v f (f_X3_hourOfNow_r g)) rfl 0 rfl 1 (gV kw_263 kw_264 kw_265 kw_4 kw_266) (by decide +kernel) ⟨(Nat.le_of_ble_eq_true rfl), (Nat.le_of_ble_eq_true rfl)⟩ rfl rfl (Nat.le_of_ble_eq_true rfl) dX3_passMinuteOf_7 ⟨(Nat.le_of_ble_eq_true rfl), (Nat.le_of_ble_eq_true rfl)⟩ [oS a sa da g, aI G sa 7 s0, oD t k tv, aB G k tf] [oD b h v, aB G h f, oS a sa da g, aI G sa 7 s0, oD t k tv, aB G k tf] (perm_idx [2, 3, 0, 1, 4, 5] 6 rfl (by decide +kernel) rfl) rfl ?_
  refine j_istore C [(4, .int (f_X0_isQuietIn_r v f (f_X3_hourOfNow_r g))), (3, .int (f_X3_hourOfNow_r g)), (0, .ref a), (1, .ref b), (2, .ref t)] dX3_passMinuteOf_10 (by decide) rfl ?_
  refine j_aload_n C dX3_passMinuteOf_12 2 rfl ?_
  refine j_get C kin3 rfl 2 rfl 2 (by decide) kw_82 rfl (v := .int (g 2)) rfl dX3_passMinuteOf_13 ?_
  refine j_bipush (v := 60) C dX3_passMinuteOf_16 (by decide) ?_
  refine j_irem C dX3_passMinuteOf_18 (by decide) rfl ?_
  have K30 : WJ p l e (RM 3) s m args below meth c G A 6 0 0 Q ([oS a sa da (f_X3_passMinuteOf_v4 g s0 v f tv tf), aI G sa 7 s0, oD b h v, aB G h (f_X3_passMinuteOf_v5 g s0 v f tv tf), oD t k tv, aB G k tf]) [(4, .int (f_X0_isQuietIn_r v f (f_X3_hourOfNow_r g))), (3, .int (f_X3_hourOfNow_r g)), (0, .ref a), (1, .ref b), (2, .ref t)] 30 [] := by
    generalize hw2 : f_X3_passMinuteOf_v4 g s0 v f tv tf = w2
    generalize hw3 : f_X3_passMinuteOf_v5 g s0 v f tv tf = w3
    refine j_aload_n C dX3_passMinuteOf_30 3 rfl ?_
    refine j_aload_n C dX3_passMinuteOf_31 2 rfl ?_
    refine j_get C kin3 rfl 0 rfl 2 (by decide) kw_82 rfl (v := .int (w2 2)) rfl dX3_passMinuteOf_32 ?_
    refine j_callV_v (wc' := [oD b h (f_X0_takeStream_v v (w2 2))]) C (m_X0_takeStream l G b h v (w2 2)) rfl 0 rfl 1 (gV kw_271 kw_272 kw_273 kw_4 kw_274) (by decide +kernel) ⟨(Nat.le_of_ble_eq_true rfl), (Nat.le_of_ble_eq_true rfl)⟩ rfl rfl (Nat.le_of_ble_eq_true rfl) dX3_passMinuteOf_35 ⟨(Nat.le_of_ble_eq_true rfl), (Nat.le_of_ble_eq_true rfl)⟩ [oS a sa da w2, aI G sa 7 s0, aB G h w3, oD t k tv, aB G k tf] [oD b h (f_X0_takeStream_v v (w2 2)), oS a sa da w2, aI G sa 7 s0, aB G h w3, oD t k tv, aB G k tf] (perm_idx [2, 0, 1, 3, 4, 5] 6 rfl (by decide +kernel) rfl) rfl ?_
    generalize hzw4 : f_X0_takeStream_v v (w2 2) = w4
    have hw4 : f_X3_passMinuteOf_vq6 g s0 v f tv tf = w4 := by subst hw2 hw3; subst hzw4; exact (f_X3_passMinuteOf_vq6_eq g s0 v f tv tf)
    refine j_iload C dX3_passMinuteOf_38 0 rfl ?_
    have K48 : WJ p l e (RM 3) s m args below meth c G A 6 0 0 Q ([oD b h (f_X3_passMinuteOf_v8 g s0 v f tv tf), oD t k (f_X3_passMinuteOf_v9 g s0 v f tv tf), oS a sa da w2, aI G sa 7 s0, aB G h w3, aB G k tf]) [(4, .int (f_X0_isQuietIn_r v f (f_X3_hourOfNow_r g))), (3, .int (f_X3_hourOfNow_r g)), (0, .ref a), (1, .ref b), (2, .ref t)] 48 [] := by
      generalize hw7 : f_X3_passMinuteOf_v8 g s0 v f tv tf = w7
      generalize hw8 : f_X3_passMinuteOf_v9 g s0 v f tv tf = w8
      refine j_aload_n C dX3_passMinuteOf_48 3 rfl ?_
      refine j_callV_v (wc' := [oD b h (f_X0_writeHeld_v w7)]) C (m_X0_writeHeld l G b h w7) rfl 0 rfl 0 (gV kw_283 kw_284 kw_285 kw_4 kw_286) (by decide +kernel) ⟨(Nat.le_of_ble_eq_true rfl), (Nat.le_of_ble_eq_true rfl)⟩ rfl rfl (Nat.le_of_ble_eq_true rfl) dX3_passMinuteOf_49 ⟨(Nat.le_of_ble_eq_true rfl), (Nat.le_of_ble_eq_true rfl)⟩ [oD t k w8, oS a sa da w2, aI G sa 7 s0, aB G h w3, aB G k tf] [oD b h (f_X0_writeHeld_v w7), oD t k w8, oS a sa da w2, aI G sa 7 s0, aB G h w3, aB G k tf] (perm_idx [0, 1, 2, 3, 4, 5] 6 rfl (by decide +kernel) rfl) rfl ?_
      refine j_iload C dX3_passMinuteOf_52 0 rfl ?_
      have K77 : WJ p l e (RM 3) s m args below meth c G A 6 0 0 Q ([oD b h (f_X3_passMinuteOf_v13 g s0 v f tv tf), oD t k (f_X3_passMinuteOf_v14 g s0 v f tv tf), oS a sa da w2, aI G sa 7 s0, aB G h w3, aB G k tf]) [(4, .int (f_X0_isQuietIn_r v f (f_X3_hourOfNow_r g))), (3, .int (f_X3_hourOfNow_r g)), (0, .ref a), (1, .ref b), (2, .ref t)] 77 [] := by
        generalize hw12 : f_X3_passMinuteOf_v13 g s0 v f tv tf = w12
        generalize hw13 : f_X3_passMinuteOf_v14 g s0 v f tv tf = w13
        refine j_aload_n C dX3_passMinuteOf_77 2 rfl ?_
        refine j_aload_n C dX3_passMinuteOf_78 3 rfl ?_
        refine j_iload C dX3_passMinuteOf_79 0 rfl ?_
        refine j_callV_i (r := f_X3_cleanUp_r w2 s0 w12 (f_X0_isQuietIn_r v f (f_X3_hourOfNow_r g))) (wc' := [oS a sa da w2, aI G sa 7 s0, oD b h (f_X3_cleanUp_v w2 s0 w12 (f_X0_isQuietIn_r v f (f_X3_hourOfNow_r g)))]) C (m_X3_cleanUp l G a b sa da h w2 s0 w12 (f_X0_isQuietIn_r v f (f_X3_hourOfNow_r g))) rfl 0 rfl 2 (gV kw_291 kw_292 kw_759 kw_2 kw_293) (by decide +kernel) ⟨(Nat.le_of_ble_eq_true rfl), (Nat.le_of_ble_eq_true rfl)⟩ rfl rfl (Nat.le_of_ble_eq_true rfl) dX3_passMinuteOf_81 ⟨(Nat.le_of_ble_eq_true rfl), (Nat.le_of_ble_eq_true rfl)⟩ [oD t k w13, aB G h w3, aB G k tf] [oS a sa da w2, aI G sa 7 s0, oD b h (f_X3_cleanUp_v w2 s0 w12 (f_X0_isQuietIn_r v f (f_X3_hourOfNow_r g))), oD t k w13, aB G h w3, aB G k tf] (perm_idx [2, 3, 0, 1, 4, 5] 6 rfl (by decide +kernel) rfl) rfl ?_
        generalize hzw14 : f_X3_cleanUp_r w2 s0 w12 (f_X0_isQuietIn_r v f (f_X3_hourOfNow_r g)) = w14
        have hw14 : f_X3_passMinuteOf_rq15 g s0 v f tv tf = w14 := by subst hw2 hw3 hw4 hw7 hw8 hw12 hw13; subst hzw14; exact (f_X3_passMinuteOf_rq15_eq g s0 v f tv tf)
        generalize hzw15 : f_X3_cleanUp_v w2 s0 w12 (f_X0_isQuietIn_r v f (f_X3_hourOfNow_r g)) = w15
        have hw15 : f_X3_passMinuteOf_vq15 g s0 v f tv tf = w15 := by subst hw2 hw3 hw4 hw7 hw8 hw12 hw13 hw14; subst hzw15; exact (f_X3_passMinuteOf_vq15_eq g s0 v f tv tf)
        refine j_istore C [(5, .int w14), (4, .int (f_X0_isQuietIn_r v f (f_X3_hourOfNow_r g))), (3, .int (f_X3_hourOfNow_r g)), (0, .ref a), (1, .ref b), (2, .ref t)] dX3_passMinuteOf_84 (by decide) rfl ?_
        refine j_iload C dX3_passMinuteOf_86 0 rfl ?_
        have K102 : WJ p l e (RM 3) s m args below meth c G A 6 0 0 Q ([oS a sa da (f_X3_passMinuteOf_v17 g s0 v f tv tf), aI G sa 7 s0, oD b h (f_X3_passMinuteOf_v18 g s0 v f tv tf), oD t k w13, aB G h (f_X3_passMinuteOf_v19 g s0 v f tv tf), aB G k tf]) [(5, .int w14), (4, .int (f_X0_isQuietIn_r v f (f_X3_hourOfNow_r g))), (3, .int (f_X3_hourOfNow_r g)), (0, .ref a), (1, .ref b), (2, .ref t)] 102 [] := by
          generalize hw19 : f_X3_passMinuteOf_v17 g s0 v f tv tf = w19
          generalize hw20 : f_X3_passMinuteOf_v18 g s0 v f tv tf = w20
          generalize hw21 : f_X3_passMinuteOf_v19 g s0 v f tv tf = w21
          refine j_aload_n C dX3_passMinuteOf_102 4 rfl ?_
          refine j_dup C dX3_passMinuteOf_103 rfl ?_
          refine j_get C kin0 rfl 2 rfl 10 (by decide) kw_62 rfl (v := .long w20.2) rfl dX3_passMinuteOf_104 ?_
          refine j_aload_n C dX3_passMinuteOf_107 4 rfl ?_
          refine j_get C kin0 rfl 2 rfl 3 (by decide) kw_42 rfl (v := .int (w20.1 3)) rfl dX3_passMinuteOf_108 ?_
          refine j_i2l C dX3_passMinuteOf_111 rfl ?_
          refine j_ladd C dX3_passMinuteOf_112 rfl ?_
          refine j_put C kin0 rfl 2 rfl 10 (by decide) kw_62 rfl tyX0 tyX0_ok nmX0 rfl rfl rfl (Nat.le_of_ble_eq_true rfl) ([oS a sa da w19, aI G sa 7 s0, oD b h (w20.1, w20.2 + ((w20.1 3).toInt64)), oD t k w13, aB G h w21, aB G k tf]) rfl dX3_passMinuteOf_113 ?_
          refine j_iload C dX3_passMinuteOf_116 0 rfl ?_
          have K131 : WJ p l e (RM 3) s m args below meth c G A 6 0 0 Q ([oS a sa da w19, aI G sa 7 s0, oD b h (w20.1, w20.2 + ((w20.1 3).toInt64)), oD t k w13, aB G h w21, aB G k tf]) [(5, .int w14), (4, .int (f_X0_isQuietIn_r v f (f_X3_hourOfNow_r g))), (3, .int (f_X3_hourOfNow_r g)), (0, .ref a), (1, .ref b), (2, .ref t)] 131 [.int (f_X3_passMinuteOf_x20 g s0 v f tv tf)] := by
            generalize hw22 : f_X3_passMinuteOf_x20 g s0 v f tv tf = w22
            refine j_perm ([oS a sa da w19, aI G sa 7 s0, oD b h (w20.1, w20.2 + ((w20.1 3).toInt64)), aB G h w21, oD t k w13, aB G k tf]) (perm_idx [0, 1, 2, 4, 3, 5] 6 rfl (by decide +kernel) rfl) ?_
            subst hQ; subst hw2 hw3 hw4 hw7 hw8 hw12 hw13 hw14 hw15 hw19 hw20 hw21 hw22; exact j_zret C hr hk (by rw [f_X3_passMinuteOf_x20_eq]; (repeat' split) <;> rfl) ((show f_X3_passMinuteOf_r g s0 v f tv tf = (f_X3_passMinuteOf_x20 g s0 v f tv tf) from (f_X3_passMinuteOf_r_eq g s0 v f tv tf)).symm) (by rw [show f_X3_passMinuteOf_g g s0 v f tv tf = (f_X3_passMinuteOf_v17 g s0 v f tv tf) from (f_X3_passMinuteOf_g_eq g s0 v f tv tf), show f_X3_passMinuteOf_v g s0 v f tv tf = ((f_X3_passMinuteOf_v18 g s0 v f tv tf).1, (f_X3_passMinuteOf_v18 g s0 v f tv tf).2 + (((f_X3_passMinuteOf_v18 g s0 v f tv tf).1 3).toInt64)) from (f_X3_passMinuteOf_v_eq g s0 v f tv tf), show f_X3_passMinuteOf_f g s0 v f tv tf = (f_X3_passMinuteOf_v19 g s0 v f tv tf) from (f_X3_passMinuteOf_f_eq g s0 v f tv tf), show f_X3_passMinuteOf_tv g s0 v f tv tf = (f_X3_passMinuteOf_v14 g s0 v f tv tf) from (f_X3_passMinuteOf_tv_eq g s0 v f tv tf)]) dX3_passMinuteOf_131
          refine j_if_eq (tgt := 130) C dX3_passMinuteOf_118 (by decide) (fun c118 => ?_) (fun c118 => ?_)
          · refine j_iconst (v := 0) C dX3_passMinuteOf_130 (by decide) ?_
            subst hw2 hw3 hw4 hw7 hw8 hw12 hw13 hw14 hw15 hw19 hw20 hw21; exact j_eq rfl rfl (by rw [show f_X3_passMinuteOf_x20 g s0 v f tv tf = 0 from ((f_X3_passMinuteOf_x20_eq g s0 v f tv tf).trans (if_pos c118))]) K131
          · refine j_iload C dX3_passMinuteOf_121 1 rfl ?_
            refine j_if_eq (tgt := 130) C dX3_passMinuteOf_123 (by decide) (fun c123 => ?_) (fun c123 => ?_)
            · refine j_iconst (v := 0) C dX3_passMinuteOf_130 (by decide) ?_
              subst hw2 hw3 hw4 hw7 hw8 hw12 hw13 hw14 hw15 hw19 hw20 hw21; exact j_eq rfl rfl (by rw [show f_X3_passMinuteOf_x20 g s0 v f tv tf = 0 from ((f_X3_passMinuteOf_x20_eq g s0 v f tv tf).trans ((if_neg c118).trans (if_pos c123)))]) K131
            · refine j_iconst (v := 1) C dX3_passMinuteOf_126 (by decide) ?_
              refine j_goto (tgt := 131) C dX3_passMinuteOf_127 (by decide) ?_
              subst hw2 hw3 hw4 hw7 hw8 hw12 hw13 hw14 hw15 hw19 hw20 hw21; exact j_eq rfl rfl (by rw [show f_X3_passMinuteOf_x20 g s0 v f tv tf = 1 from ((f_X3_passMinuteOf_x20_eq g s0 v f tv tf).trans ((if_neg c118).trans (if_neg c123)))]) K131
        refine j_if_eq (tgt := 102) C dX3_passMinuteOf_88 (by decide) (fun c88 => ?_) (fun c88 => ?_)
        · subst hw2 hw3 hw4 hw7 hw8 hw12 hw13 hw14 hw15; exact j_eq (by rw [show f_X3_passMinuteOf_v17 g s0 v f tv tf = (f_X3_passMinuteOf_v4 g s0 v f tv tf) from ((f_X3_passMinuteOf_v17_eq g s0 v f tv tf).trans (if_pos c88)), show f_X3_passMinuteOf_v18 g s0 v f tv tf = (f_X3_passMinuteOf_vq15 g s0 v f tv tf) from ((f_X3_passMinuteOf_v18_eq g s0 v f tv tf).trans (if_pos c88)), show f_X3_passMinuteOf_v19 g s0 v f tv tf = (f_X3_passMinuteOf_v5 g s0 v f tv tf) from ((f_X3_passMinuteOf_v19_eq g s0 v f tv tf).trans (if_pos c88))]) rfl rfl K102
        · refine j_iload C dX3_passMinuteOf_91 1 rfl ?_
          refine j_if_eq (tgt := 102) C dX3_passMinuteOf_93 (by decide) (fun c93 => ?_) (fun c93 => ?_)
          · subst hw2 hw3 hw4 hw7 hw8 hw12 hw13 hw14 hw15; exact j_eq (by rw [show f_X3_passMinuteOf_v17 g s0 v f tv tf = (f_X3_passMinuteOf_v4 g s0 v f tv tf) from ((f_X3_passMinuteOf_v17_eq g s0 v f tv tf).trans ((if_neg c88).trans (if_pos c93))), show f_X3_passMinuteOf_v18 g s0 v f tv tf = (f_X3_passMinuteOf_vq15 g s0 v f tv tf) from ((f_X3_passMinuteOf_v18_eq g s0 v f tv tf).trans ((if_neg c88).trans (if_pos c93))), show f_X3_passMinuteOf_v19 g s0 v f tv tf = (f_X3_passMinuteOf_v5 g s0 v f tv tf) from ((f_X3_passMinuteOf_v19_eq g s0 v f tv tf).trans ((if_neg c88).trans (if_pos c93)))]) rfl rfl K102
          · refine j_aload_n C dX3_passMinuteOf_96 3 rfl ?_
            refine j_aload_n C dX3_passMinuteOf_97 4 rfl ?_
            refine j_iload_n C dX3_passMinuteOf_98 2 rfl ?_
            refine j_callV_v (wc' := [oS a sa da (f_X3_chargeOverrun_g w2 s0 w15 w3 (f_X3_hourOfNow_r g)), aI G sa 7 s0, oD b h (f_X3_chargeOverrun_v w2 s0 w15 w3 (f_X3_hourOfNow_r g)), aB G h (f_X3_chargeOverrun_f w2 s0 w15 w3 (f_X3_hourOfNow_r g))]) C (m_X3_chargeOverrun l G a b sa da h w2 s0 w15 w3 (f_X3_hourOfNow_r g)) rfl 0 rfl 2 (gV kw_299 kw_300 kw_760 kw_2 kw_301) (by decide +kernel) ⟨(Nat.le_of_ble_eq_true rfl), (Nat.le_of_ble_eq_true rfl)⟩ rfl rfl (Nat.le_of_ble_eq_true rfl) dX3_passMinuteOf_99 ⟨(Nat.le_of_ble_eq_true rfl), (Nat.le_of_ble_eq_true rfl)⟩ [oD t k w13, aB G k tf] [oS a sa da (f_X3_chargeOverrun_g w2 s0 w15 w3 (f_X3_hourOfNow_r g)), aI G sa 7 s0, oD b h (f_X3_chargeOverrun_v w2 s0 w15 w3 (f_X3_hourOfNow_r g)), aB G h (f_X3_chargeOverrun_f w2 s0 w15 w3 (f_X3_hourOfNow_r g)), oD t k w13, aB G k tf] (perm_idx [0, 1, 2, 4, 3, 5] 6 rfl (by decide +kernel) rfl) rfl ?_
            generalize hzw16 : f_X3_chargeOverrun_g w2 s0 w15 w3 (f_X3_hourOfNow_r g) = w16
            have hw16 : f_X3_passMinuteOf_gq16 g s0 v f tv tf = w16 := by subst hw2 hw3 hw4 hw7 hw8 hw12 hw13 hw14 hw15; subst hzw16; exact (f_X3_passMinuteOf_gq16_eq g s0 v f tv tf)
            generalize hzw17 : f_X3_chargeOverrun_v w2 s0 w15 w3 (f_X3_hourOfNow_r g) = w17
            have hw17 : f_X3_passMinuteOf_vq16 g s0 v f tv tf = w17 := by subst hw2 hw3 hw4 hw7 hw8 hw12 hw13 hw14 hw15 hw16; subst hzw17; exact (f_X3_passMinuteOf_vq16_eq g s0 v f tv tf)
            generalize hzw18 : f_X3_chargeOverrun_f w2 s0 w15 w3 (f_X3_hourOfNow_r g) = w18
            have hw18 : f_X3_passMinuteOf_fq16 g s0 v f tv tf = w18 := by subst hw2 hw3 hw4 hw7 hw8 hw12 hw13 hw14 hw15 hw16 hw17; subst hzw18; exact (f_X3_passMinuteOf_fq16_eq g s0 v f tv tf)
            refine j_perm ([oS a sa da w16, aI G sa 7 s0, oD b h w17, oD t k w13, aB G h w18, aB G k tf]) (perm_idx [0, 1, 2, 4, 3, 5] 6 rfl (by decide +kernel) rfl) ?_
            subst hw2 hw3 hw4 hw7 hw8 hw12 hw13 hw14 hw15 hw16 hw17 hw18; exact j_eq (by rw [show f_X3_passMinuteOf_v17 g s0 v f tv tf = (f_X3_passMinuteOf_gq16 g s0 v f tv tf) from ((f_X3_passMinuteOf_v17_eq g s0 v f tv tf).trans ((if_neg c88).trans (if_neg c93))), show f_X3_passMinuteOf_v18 g s0 v f tv tf = (f_X3_passMinuteOf_vq16 g s0 v f tv tf) from ((f_X3_passMinuteOf_v18_eq g s0 v f tv tf).trans ((if_neg c88).trans (if_neg c93))), show f_X3_passMinuteOf_v19 g s0 v f tv tf = (f_X3_passMinuteOf_fq16 g s0 v f tv tf) from ((f_X3_passMinuteOf_v19_eq g s0 v f tv tf).trans ((if_neg c88).trans (if_neg c93)))]) rfl rfl K102
      refine j_if_eq (tgt := 77) C dX3_passMinuteOf_54 (by decide) (fun c54 => ?_) (fun c54 => ?_)
      · subst hw2 hw3 hw4 hw7 hw8; exact j_eq (by rw [show f_X3_passMinuteOf_v13 g s0 v f tv tf = f_X0_writeHeld_v (f_X3_passMinuteOf_v8 g s0 v f tv tf) from ((f_X3_passMinuteOf_v13_eq g s0 v f tv tf).trans (if_pos c54)), show f_X3_passMinuteOf_v14 g s0 v f tv tf = (f_X3_passMinuteOf_v9 g s0 v f tv tf) from ((f_X3_passMinuteOf_v14_eq g s0 v f tv tf).trans (if_pos c54))]) rfl rfl K77
      · refine j_aload_n C dX3_passMinuteOf_57 4 rfl ?_
        refine j_iload_n C dX3_passMinuteOf_58 1 rfl ?_
        refine j_callV_i (r := f_X0_isQuietIn_r w8 tf (f_X3_hourOfNow_r g)) (wc' := [oD t k w8, aB G k tf]) C (m_X0_isQuietIn l G t k w8 tf (f_X3_hourOfNow_r g)) rfl 0 rfl 1 (gV kw_263 kw_264 kw_265 kw_4 kw_266) (by decide +kernel) ⟨(Nat.le_of_ble_eq_true rfl), (Nat.le_of_ble_eq_true rfl)⟩ rfl rfl (Nat.le_of_ble_eq_true rfl) dX3_passMinuteOf_59 ⟨(Nat.le_of_ble_eq_true rfl), (Nat.le_of_ble_eq_true rfl)⟩ [oD b h (f_X0_writeHeld_v w7), oS a sa da w2, aI G sa 7 s0, aB G h w3] [oD t k w8, aB G k tf, oD b h (f_X0_writeHeld_v w7), oS a sa da w2, aI G sa 7 s0, aB G h w3] (perm_idx [1, 5, 0, 2, 3, 4] 6 rfl (by decide +kernel) rfl) rfl ?_
        generalize hzw9 : f_X0_isQuietIn_r w8 tf (f_X3_hourOfNow_r g) = w9
        have hw9 : f_X3_passMinuteOf_rq11 g s0 v f tv tf = w9 := by subst hw2 hw3 hw4 hw7 hw8; subst hzw9; exact (f_X3_passMinuteOf_rq11_eq g s0 v f tv tf)
        refine j_if_ne (tgt := 77) C dX3_passMinuteOf_62 (by decide) (fun c62 => ?_) (fun c62 => ?_)
        · refine j_perm ([oD b h (f_X0_writeHeld_v w7), oD t k w8, oS a sa da w2, aI G sa 7 s0, aB G h w3, aB G k tf]) (perm_idx [2, 0, 3, 4, 5, 1] 6 rfl (by decide +kernel) rfl) ?_
          subst hw2 hw3 hw4 hw7 hw8 hw9; exact j_eq (by rw [show f_X3_passMinuteOf_v13 g s0 v f tv tf = f_X0_writeHeld_v (f_X3_passMinuteOf_v8 g s0 v f tv tf) from ((f_X3_passMinuteOf_v13_eq g s0 v f tv tf).trans ((if_neg c54).trans (if_neg c62))), show f_X3_passMinuteOf_v14 g s0 v f tv tf = (f_X3_passMinuteOf_v9 g s0 v f tv tf) from ((f_X3_passMinuteOf_v14_eq g s0 v f tv tf).trans ((if_neg c54).trans (if_neg c62)))]) rfl rfl K77
        · refine j_aload_n C dX3_passMinuteOf_65 3 rfl ?_
          refine j_aload_n C dX3_passMinuteOf_66 4 rfl ?_
          refine j_aload_n C dX3_passMinuteOf_67 2 rfl ?_
          refine j_get C kin3 rfl 3 rfl 0 (by decide) kw_78 rfl (v := .ref sa) rfl dX3_passMinuteOf_68 ?_
          refine j_bipush (v := 6) C dX3_passMinuteOf_71 (by decide) ?_
          refine j_iald C 4 rfl (vin_lit rfl) (v := s0 6) rfl dX3_passMinuteOf_73 ?_
          refine j_callV_v (wc' := [oD b h (f_X0_lendTo_v (f_X0_writeHeld_v w7) w8 (s0 6)), oD t k (f_X0_lendTo_t (f_X0_writeHeld_v w7) w8 (s0 6))]) C (m_X0_lendTo l G b t h k (f_X0_writeHeld_v w7) w8 (s0 6)) rfl 0 rfl 2 (gV kw_287 kw_288 kw_289 kw_4 kw_290) (by decide +kernel) ⟨(Nat.le_of_ble_eq_true rfl), (Nat.le_of_ble_eq_true rfl)⟩ rfl rfl (Nat.le_of_ble_eq_true rfl) dX3_passMinuteOf_74 ⟨(Nat.le_of_ble_eq_true rfl), (Nat.le_of_ble_eq_true rfl)⟩ [aB G k tf, oS a sa da w2, aI G sa 7 s0, aB G h w3] [oD b h (f_X0_lendTo_v (f_X0_writeHeld_v w7) w8 (s0 6)), oD t k (f_X0_lendTo_t (f_X0_writeHeld_v w7) w8 (s0 6)), aB G k tf, oS a sa da w2, aI G sa 7 s0, aB G h w3] (perm_idx [2, 0, 1, 3, 4, 5] 6 rfl (by decide +kernel) rfl) rfl ?_
          generalize hzw10 : f_X0_lendTo_v (f_X0_writeHeld_v w7) w8 (s0 6) = w10
          have hw10 : f_X3_passMinuteOf_vq12 g s0 v f tv tf = w10 := by subst hw2 hw3 hw4 hw7 hw8 hw9; subst hzw10; exact (f_X3_passMinuteOf_vq12_eq g s0 v f tv tf)
          generalize hzw11 : f_X0_lendTo_t (f_X0_writeHeld_v w7) w8 (s0 6) = w11
          have hw11 : f_X3_passMinuteOf_tq12 g s0 v f tv tf = w11 := by subst hw2 hw3 hw4 hw7 hw8 hw9 hw10; subst hzw11; exact (f_X3_passMinuteOf_tq12_eq g s0 v f tv tf)
          refine j_perm ([oD b h w10, oD t k w11, oS a sa da w2, aI G sa 7 s0, aB G h w3, aB G k tf]) (perm_idx [0, 1, 3, 4, 5, 2] 6 rfl (by decide +kernel) rfl) ?_
          subst hw2 hw3 hw4 hw7 hw8 hw9 hw10 hw11; exact j_eq (by rw [show f_X3_passMinuteOf_v13 g s0 v f tv tf = (f_X3_passMinuteOf_vq12 g s0 v f tv tf) from ((f_X3_passMinuteOf_v13_eq g s0 v f tv tf).trans ((if_neg c54).trans (if_pos c62))), show f_X3_passMinuteOf_v14 g s0 v f tv tf = (f_X3_passMinuteOf_tq12 g s0 v f tv tf) from ((f_X3_passMinuteOf_v14_eq g s0 v f tv tf).trans ((if_neg c54).trans (if_pos c62)))]) rfl rfl K77
    refine j_if_ne (tgt := 48) C dX3_passMinuteOf_40 (by decide) (fun c40 => ?_) (fun c40 => ?_)
    · refine j_perm ([oD b h w4, oD t k tv, oS a sa da w2, aI G sa 7 s0, aB G h w3, aB G k tf]) (perm_idx [0, 4, 1, 2, 3, 5] 6 rfl (by decide +kernel) rfl) ?_
      subst hw2 hw3 hw4; exact j_eq (by rw [show f_X3_passMinuteOf_v8 g s0 v f tv tf = (f_X3_passMinuteOf_vq6 g s0 v f tv tf) from ((f_X3_passMinuteOf_v8_eq g s0 v f tv tf).trans (if_neg c40)), show f_X3_passMinuteOf_v9 g s0 v f tv tf = tv from ((f_X3_passMinuteOf_v9_eq g s0 v f tv tf).trans (if_neg c40))]) rfl rfl K48
    · refine j_aload_n C dX3_passMinuteOf_43 3 rfl ?_
      refine j_aload_n C dX3_passMinuteOf_44 4 rfl ?_
      refine j_callV_v (wc' := [oD b h (f_X0_takeBackFrom_v w4 tv), oD t k (f_X0_takeBackFrom_t w4 tv)]) C (m_X0_takeBackFrom l G b t h k w4 tv) rfl 0 rfl 1 (gV kw_275 kw_276 kw_277 kw_4 kw_278) (by decide +kernel) ⟨(Nat.le_of_ble_eq_true rfl), (Nat.le_of_ble_eq_true rfl)⟩ rfl rfl (Nat.le_of_ble_eq_true rfl) dX3_passMinuteOf_45 ⟨(Nat.le_of_ble_eq_true rfl), (Nat.le_of_ble_eq_true rfl)⟩ [oS a sa da w2, aI G sa 7 s0, aB G h w3, aB G k tf] [oD b h (f_X0_takeBackFrom_v w4 tv), oD t k (f_X0_takeBackFrom_t w4 tv), oS a sa da w2, aI G sa 7 s0, aB G h w3, aB G k tf] (perm_idx [0, 4, 1, 2, 3, 5] 6 rfl (by decide +kernel) rfl) rfl ?_
      generalize hzw5 : f_X0_takeBackFrom_v w4 tv = w5
      have hw5 : f_X3_passMinuteOf_vq7 g s0 v f tv tf = w5 := by subst hw2 hw3 hw4; subst hzw5; exact (f_X3_passMinuteOf_vq7_eq g s0 v f tv tf)
      generalize hzw6 : f_X0_takeBackFrom_t w4 tv = w6
      have hw6 : f_X3_passMinuteOf_tq7 g s0 v f tv tf = w6 := by subst hw2 hw3 hw4 hw5; subst hzw6; exact (f_X3_passMinuteOf_tq7_eq g s0 v f tv tf)
      subst hw2 hw3 hw4 hw5 hw6; exact j_eq (by rw [show f_X3_passMinuteOf_v8 g s0 v f tv tf = (f_X3_passMinuteOf_vq7 g s0 v f tv tf) from ((f_X3_passMinuteOf_v8_eq g s0 v f tv tf).trans (if_pos c40)), show f_X3_passMinuteOf_v9 g s0 v f tv tf = (f_X3_passMinuteOf_tq7 g s0 v f tv tf) from ((f_X3_passMinuteOf_v9_eq g s0 v f tv tf).trans (if_pos c40))]) rfl rfl K48
  refine j_if_ne (tgt := 30) C dX3_passMinuteOf_19 (by decide) (fun c19 => ?_) (fun c19 => ?_)
  · refine j_perm ([oS a sa da g, aI G sa 7 s0, oD b h v, aB G h f, oD t k tv, aB G k tf]) (perm_idx [2, 3, 0, 1, 4, 5] 6 rfl (by decide +kernel) rfl) ?_
    exact j_eq (by rw [show f_X3_passMinuteOf_v4 g s0 v f tv tf = g from ((f_X3_passMinuteOf_v4_eq g s0 v f tv tf).trans (if_neg c19)), show f_X3_passMinuteOf_v5 g s0 v f tv tf = f from ((f_X3_passMinuteOf_v5_eq g s0 v f tv tf).trans (if_neg c19))]) rfl rfl K30
  · refine j_aload_n C dX3_passMinuteOf_22 2 rfl ?_
    refine j_aload_n C dX3_passMinuteOf_23 3 rfl ?_
    refine j_iload_n C dX3_passMinuteOf_24 1 rfl ?_
    refine j_iload C dX3_passMinuteOf_25 0 rfl ?_
    refine j_callV_v (wc' := [oS a sa da (f_X3_settleHours_g g s0 v f (f_X3_hourOfNow_r g) (f_X0_isQuietIn_r v f (f_X3_hourOfNow_r g))), aI G sa 7 s0, oD b h v, aB G h (f_X3_settleHours_f g s0 v f (f_X3_hourOfNow_r g) (f_X0_isQuietIn_r v f (f_X3_hourOfNow_r g)))]) C (m_X3_settleHours l G a b sa da h g s0 v f (f_X3_hourOfNow_r g) (f_X0_isQuietIn_r v f (f_X3_hourOfNow_r g))) rfl 0 rfl 3 (gV kw_268 kw_269 kw_757 kw_2 kw_270) (by decide +kernel) ⟨(Nat.le_of_ble_eq_true rfl), (Nat.le_of_ble_eq_true rfl)⟩ rfl rfl (Nat.le_of_ble_eq_true rfl) dX3_passMinuteOf_27 ⟨(Nat.le_of_ble_eq_true rfl), (Nat.le_of_ble_eq_true rfl)⟩ [oD t k tv, aB G k tf] [oS a sa da (f_X3_settleHours_g g s0 v f (f_X3_hourOfNow_r g) (f_X0_isQuietIn_r v f (f_X3_hourOfNow_r g))), aI G sa 7 s0, oD b h v, aB G h (f_X3_settleHours_f g s0 v f (f_X3_hourOfNow_r g) (f_X0_isQuietIn_r v f (f_X3_hourOfNow_r g))), oD t k tv, aB G k tf] (perm_idx [2, 3, 0, 1, 4, 5] 6 rfl (by decide +kernel) rfl) rfl ?_
    generalize hzw0 : f_X3_settleHours_g g s0 v f (f_X3_hourOfNow_r g) (f_X0_isQuietIn_r v f (f_X3_hourOfNow_r g)) = w0
    have hw0 : f_X3_passMinuteOf_gq3 g s0 v f tv tf = w0 := by subst hzw0; exact (f_X3_passMinuteOf_gq3_eq g s0 v f tv tf)
    generalize hzw1 : f_X3_settleHours_f g s0 v f (f_X3_hourOfNow_r g) (f_X0_isQuietIn_r v f (f_X3_hourOfNow_r g)) = w1
    have hw1 : f_X3_passMinuteOf_fq3 g s0 v f tv tf = w1 := by subst hw0; subst hzw1; exact (f_X3_passMinuteOf_fq3_eq g s0 v f tv tf)
    subst hw0 hw1; exact j_eq (by rw [show f_X3_passMinuteOf_v4 g s0 v f tv tf = (f_X3_passMinuteOf_gq3 g s0 v f tv tf) from ((f_X3_passMinuteOf_v4_eq g s0 v f tv tf).trans (if_pos c19)), show f_X3_passMinuteOf_v5 g s0 v f tv tf = (f_X3_passMinuteOf_fq3 g s0 v f tv tf) from ((f_X3_passMinuteOf_v5_eq g s0 v f tv tf).trans (if_pos c19))]) rfl rfl K30
end
section
/-! A MINUTE OF A STATION, AND MINUTES -/
theorem vin_lt {k : Int32} {n : Nat} {N : Int32} (hN : N.toInt = n) (h0 : ¬ k < 0) (h1 : k < N) : vp_in k n := vin_of hN h0 (Int32.not_le.mpr h1)
theorem le_cl (k : Int32) (hk : k.toNatClampNeg < 2 ^ 31) : k ≤ nI k.toNatClampNeg := by
  rw [Int32.le_iff_toInt_le, nI_toInt hk]
  show k.toInt ≤ ((k.toInt.toNat : Nat) : Int)
  omega
theorem cl_31 (k : Int32) : k.toNatClampNeg < 2 ^ 31 := by
  have := Int32.toInt_lt k
  show k.toInt.toNat < 2 ^ 31
  omega
theorem nle_cl {k : Int32} {i : Nat} (hi : i < k.toNatClampNeg) : ¬ k ≤ nI i := by
  have h := cl_31 k
  rw [Int32.le_iff_toInt_le, nI_toInt (by omega)]
  have : i < k.toInt.toNat := hi
  omega
theorem m_X4_twinOf_0 (l : Launch) (G : GG) : CtI l yX4_twinOf cX4_twinOf 1 (some .int) (RM 0) G [.int 0] [] 1 [] := by
  have h := m_X4_twinOf l G 0
  rw [show f_X4_twinOf_r 0 = 1 by decide] at h
  exact h
theorem m_X4_twinOf_1 (l : Launch) (G : GG) : CtI l yX4_twinOf cX4_twinOf 1 (some .int) (RM 0) G [.int 1] [] 0 [] := by
  have h := m_X4_twinOf l G 1
  rw [show f_X4_twinOf_r 1 = 0 by decide] at h
  exact h
theorem m_X4_twinOf_2 (l : Launch) (G : GG) : CtI l yX4_twinOf cX4_twinOf 1 (some .int) (RM 0) G [.int 2] [] 3 [] := by
  have h := m_X4_twinOf l G 2
  rw [show f_X4_twinOf_r 2 = 3 by decide] at h
  exact h
theorem m_X4_twinOf_3 (l : Launch) (G : GG) : CtI l yX4_twinOf cX4_twinOf 1 (some .int) (RM 0) G [.int 3] [] 2 [] := by
  have h := m_X4_twinOf l G 3
  rw [show f_X4_twinOf_r 3 = 2 by decide] at h
  exact h
theorem f_X3_passOneMinute_rq2_ex : ∃ F : StV → Int32, ∀ (x : StV), F x = f_X3_passMinuteOf_r x.1 x.2.1 (x.2.2.1 0) (x.2.2.2 0) (x.2.2.1 1) (x.2.2.2 1) := ⟨fun x => f_X3_passMinuteOf_r x.1 x.2.1 (x.2.2.1 0) (x.2.2.2 0) (x.2.2.1 1) (x.2.2.2 1), fun _ => rfl⟩
noncomputable def f_X3_passOneMinute_rq2 : StV → Int32 := Classical.choose f_X3_passOneMinute_rq2_ex
theorem f_X3_passOneMinute_rq2_eq (x : StV) : f_X3_passOneMinute_rq2 x = f_X3_passMinuteOf_r x.1 x.2.1 (x.2.2.1 0) (x.2.2.2 0) (x.2.2.1 1) (x.2.2.2 1) := Classical.choose_spec f_X3_passOneMinute_rq2_ex x
theorem f_X3_passOneMinute_gq2_ex : ∃ F : StV → (Nat → Int32), ∀ (x : StV), F x = f_X3_passMinuteOf_g x.1 x.2.1 (x.2.2.1 0) (x.2.2.2 0) (x.2.2.1 1) (x.2.2.2 1) := ⟨fun x => f_X3_passMinuteOf_g x.1 x.2.1 (x.2.2.1 0) (x.2.2.2 0) (x.2.2.1 1) (x.2.2.2 1), fun _ => rfl⟩
noncomputable def f_X3_passOneMinute_gq2 : StV → (Nat → Int32) := Classical.choose f_X3_passOneMinute_gq2_ex
theorem f_X3_passOneMinute_gq2_eq (x : StV) : f_X3_passOneMinute_gq2 x = f_X3_passMinuteOf_g x.1 x.2.1 (x.2.2.1 0) (x.2.2.2 0) (x.2.2.1 1) (x.2.2.2 1) := Classical.choose_spec f_X3_passOneMinute_gq2_ex x
theorem f_X3_passOneMinute_vq2_ex : ∃ F : StV → DO, ∀ (x : StV), F x = f_X3_passMinuteOf_v x.1 x.2.1 (x.2.2.1 0) (x.2.2.2 0) (x.2.2.1 1) (x.2.2.2 1) := ⟨fun x => f_X3_passMinuteOf_v x.1 x.2.1 (x.2.2.1 0) (x.2.2.2 0) (x.2.2.1 1) (x.2.2.2 1), fun _ => rfl⟩
noncomputable def f_X3_passOneMinute_vq2 : StV → DO := Classical.choose f_X3_passOneMinute_vq2_ex
theorem f_X3_passOneMinute_vq2_eq (x : StV) : f_X3_passOneMinute_vq2 x = f_X3_passMinuteOf_v x.1 x.2.1 (x.2.2.1 0) (x.2.2.2 0) (x.2.2.1 1) (x.2.2.2 1) := Classical.choose_spec f_X3_passOneMinute_vq2_ex x
theorem f_X3_passOneMinute_fq2_ex : ∃ F : StV → (Nat → Int8), ∀ (x : StV), F x = f_X3_passMinuteOf_f x.1 x.2.1 (x.2.2.1 0) (x.2.2.2 0) (x.2.2.1 1) (x.2.2.2 1) := ⟨fun x => f_X3_passMinuteOf_f x.1 x.2.1 (x.2.2.1 0) (x.2.2.2 0) (x.2.2.1 1) (x.2.2.2 1), fun _ => rfl⟩
noncomputable def f_X3_passOneMinute_fq2 : StV → (Nat → Int8) := Classical.choose f_X3_passOneMinute_fq2_ex
theorem f_X3_passOneMinute_fq2_eq (x : StV) : f_X3_passOneMinute_fq2 x = f_X3_passMinuteOf_f x.1 x.2.1 (x.2.2.1 0) (x.2.2.2 0) (x.2.2.1 1) (x.2.2.2 1) := Classical.choose_spec f_X3_passOneMinute_fq2_ex x
theorem f_X3_passOneMinute_tvq2_ex : ∃ F : StV → DO, ∀ (x : StV), F x = f_X3_passMinuteOf_tv x.1 x.2.1 (x.2.2.1 0) (x.2.2.2 0) (x.2.2.1 1) (x.2.2.2 1) := ⟨fun x => f_X3_passMinuteOf_tv x.1 x.2.1 (x.2.2.1 0) (x.2.2.2 0) (x.2.2.1 1) (x.2.2.2 1), fun _ => rfl⟩
noncomputable def f_X3_passOneMinute_tvq2 : StV → DO := Classical.choose f_X3_passOneMinute_tvq2_ex
theorem f_X3_passOneMinute_tvq2_eq (x : StV) : f_X3_passOneMinute_tvq2 x = f_X3_passMinuteOf_tv x.1 x.2.1 (x.2.2.1 0) (x.2.2.2 0) (x.2.2.1 1) (x.2.2.2 1) := Classical.choose_spec f_X3_passOneMinute_tvq2_ex x
theorem f_X3_passOneMinute_x3_ex : ∃ F : StV → Int32, ∀ (x : StV), F x = (if (f_X3_passOneMinute_rq2 x) = 0 then 0 else 1) := ⟨fun x => (if (f_X3_passOneMinute_rq2 x) = 0 then 0 else 1), fun _ => rfl⟩
noncomputable def f_X3_passOneMinute_x3 : StV → Int32 := Classical.choose f_X3_passOneMinute_x3_ex
theorem f_X3_passOneMinute_x3_eq (x : StV) : f_X3_passOneMinute_x3 x = (if (f_X3_passOneMinute_rq2 x) = 0 then 0 else 1) := Classical.choose_spec f_X3_passOneMinute_x3_ex x
theorem f_X3_passOneMinute_rq5_ex : ∃ F : StV → Int32, ∀ (x : StV), F x = f_X3_passMinuteOf_r (f_X3_passOneMinute_gq2 x) x.2.1 (f_X3_passOneMinute_tvq2 x) (x.2.2.2 1) (f_X3_passOneMinute_vq2 x) (f_X3_passOneMinute_fq2 x) := ⟨fun x => f_X3_passMinuteOf_r (f_X3_passOneMinute_gq2 x) x.2.1 (f_X3_passOneMinute_tvq2 x) (x.2.2.2 1) (f_X3_passOneMinute_vq2 x) (f_X3_passOneMinute_fq2 x), fun _ => rfl⟩
noncomputable def f_X3_passOneMinute_rq5 : StV → Int32 := Classical.choose f_X3_passOneMinute_rq5_ex
theorem f_X3_passOneMinute_rq5_eq (x : StV) : f_X3_passOneMinute_rq5 x = f_X3_passMinuteOf_r (f_X3_passOneMinute_gq2 x) x.2.1 (f_X3_passOneMinute_tvq2 x) (x.2.2.2 1) (f_X3_passOneMinute_vq2 x) (f_X3_passOneMinute_fq2 x) := Classical.choose_spec f_X3_passOneMinute_rq5_ex x
theorem f_X3_passOneMinute_gq5_ex : ∃ F : StV → (Nat → Int32), ∀ (x : StV), F x = f_X3_passMinuteOf_g (f_X3_passOneMinute_gq2 x) x.2.1 (f_X3_passOneMinute_tvq2 x) (x.2.2.2 1) (f_X3_passOneMinute_vq2 x) (f_X3_passOneMinute_fq2 x) := ⟨fun x => f_X3_passMinuteOf_g (f_X3_passOneMinute_gq2 x) x.2.1 (f_X3_passOneMinute_tvq2 x) (x.2.2.2 1) (f_X3_passOneMinute_vq2 x) (f_X3_passOneMinute_fq2 x), fun _ => rfl⟩
noncomputable def f_X3_passOneMinute_gq5 : StV → (Nat → Int32) := Classical.choose f_X3_passOneMinute_gq5_ex
theorem f_X3_passOneMinute_gq5_eq (x : StV) : f_X3_passOneMinute_gq5 x = f_X3_passMinuteOf_g (f_X3_passOneMinute_gq2 x) x.2.1 (f_X3_passOneMinute_tvq2 x) (x.2.2.2 1) (f_X3_passOneMinute_vq2 x) (f_X3_passOneMinute_fq2 x) := Classical.choose_spec f_X3_passOneMinute_gq5_ex x
theorem f_X3_passOneMinute_vq5_ex : ∃ F : StV → DO, ∀ (x : StV), F x = f_X3_passMinuteOf_v (f_X3_passOneMinute_gq2 x) x.2.1 (f_X3_passOneMinute_tvq2 x) (x.2.2.2 1) (f_X3_passOneMinute_vq2 x) (f_X3_passOneMinute_fq2 x) := ⟨fun x => f_X3_passMinuteOf_v (f_X3_passOneMinute_gq2 x) x.2.1 (f_X3_passOneMinute_tvq2 x) (x.2.2.2 1) (f_X3_passOneMinute_vq2 x) (f_X3_passOneMinute_fq2 x), fun _ => rfl⟩
noncomputable def f_X3_passOneMinute_vq5 : StV → DO := Classical.choose f_X3_passOneMinute_vq5_ex
theorem f_X3_passOneMinute_vq5_eq (x : StV) : f_X3_passOneMinute_vq5 x = f_X3_passMinuteOf_v (f_X3_passOneMinute_gq2 x) x.2.1 (f_X3_passOneMinute_tvq2 x) (x.2.2.2 1) (f_X3_passOneMinute_vq2 x) (f_X3_passOneMinute_fq2 x) := Classical.choose_spec f_X3_passOneMinute_vq5_ex x
theorem f_X3_passOneMinute_fq5_ex : ∃ F : StV → (Nat → Int8), ∀ (x : StV), F x = f_X3_passMinuteOf_f (f_X3_passOneMinute_gq2 x) x.2.1 (f_X3_passOneMinute_tvq2 x) (x.2.2.2 1) (f_X3_passOneMinute_vq2 x) (f_X3_passOneMinute_fq2 x) := ⟨fun x => f_X3_passMinuteOf_f (f_X3_passOneMinute_gq2 x) x.2.1 (f_X3_passOneMinute_tvq2 x) (x.2.2.2 1) (f_X3_passOneMinute_vq2 x) (f_X3_passOneMinute_fq2 x), fun _ => rfl⟩
noncomputable def f_X3_passOneMinute_fq5 : StV → (Nat → Int8) := Classical.choose f_X3_passOneMinute_fq5_ex
theorem f_X3_passOneMinute_fq5_eq (x : StV) : f_X3_passOneMinute_fq5 x = f_X3_passMinuteOf_f (f_X3_passOneMinute_gq2 x) x.2.1 (f_X3_passOneMinute_tvq2 x) (x.2.2.2 1) (f_X3_passOneMinute_vq2 x) (f_X3_passOneMinute_fq2 x) := Classical.choose_spec f_X3_passOneMinute_fq5_ex x
theorem f_X3_passOneMinute_tvq5_ex : ∃ F : StV → DO, ∀ (x : StV), F x = f_X3_passMinuteOf_tv (f_X3_passOneMinute_gq2 x) x.2.1 (f_X3_passOneMinute_tvq2 x) (x.2.2.2 1) (f_X3_passOneMinute_vq2 x) (f_X3_passOneMinute_fq2 x) := ⟨fun x => f_X3_passMinuteOf_tv (f_X3_passOneMinute_gq2 x) x.2.1 (f_X3_passOneMinute_tvq2 x) (x.2.2.2 1) (f_X3_passOneMinute_vq2 x) (f_X3_passOneMinute_fq2 x), fun _ => rfl⟩
noncomputable def f_X3_passOneMinute_tvq5 : StV → DO := Classical.choose f_X3_passOneMinute_tvq5_ex
theorem f_X3_passOneMinute_tvq5_eq (x : StV) : f_X3_passOneMinute_tvq5 x = f_X3_passMinuteOf_tv (f_X3_passOneMinute_gq2 x) x.2.1 (f_X3_passOneMinute_tvq2 x) (x.2.2.2 1) (f_X3_passOneMinute_vq2 x) (f_X3_passOneMinute_fq2 x) := Classical.choose_spec f_X3_passOneMinute_tvq5_ex x
theorem f_X3_passOneMinute_x6_ex : ∃ F : StV → Int32, ∀ (x : StV), F x = (if (f_X3_passOneMinute_rq5 x) = 0 then (f_X3_passOneMinute_x3 x) else 1) := ⟨fun x => (if (f_X3_passOneMinute_rq5 x) = 0 then (f_X3_passOneMinute_x3 x) else 1), fun _ => rfl⟩
noncomputable def f_X3_passOneMinute_x6 : StV → Int32 := Classical.choose f_X3_passOneMinute_x6_ex
theorem f_X3_passOneMinute_x6_eq (x : StV) : f_X3_passOneMinute_x6 x = (if (f_X3_passOneMinute_rq5 x) = 0 then (f_X3_passOneMinute_x3 x) else 1) := Classical.choose_spec f_X3_passOneMinute_x6_ex x
theorem f_X3_passOneMinute_rq8_ex : ∃ F : StV → Int32, ∀ (x : StV), F x = f_X3_passMinuteOf_r (f_X3_passOneMinute_gq5 x) x.2.1 (x.2.2.1 2) (x.2.2.2 2) (x.2.2.1 3) (x.2.2.2 3) := ⟨fun x => f_X3_passMinuteOf_r (f_X3_passOneMinute_gq5 x) x.2.1 (x.2.2.1 2) (x.2.2.2 2) (x.2.2.1 3) (x.2.2.2 3), fun _ => rfl⟩
noncomputable def f_X3_passOneMinute_rq8 : StV → Int32 := Classical.choose f_X3_passOneMinute_rq8_ex
theorem f_X3_passOneMinute_rq8_eq (x : StV) : f_X3_passOneMinute_rq8 x = f_X3_passMinuteOf_r (f_X3_passOneMinute_gq5 x) x.2.1 (x.2.2.1 2) (x.2.2.2 2) (x.2.2.1 3) (x.2.2.2 3) := Classical.choose_spec f_X3_passOneMinute_rq8_ex x
theorem f_X3_passOneMinute_gq8_ex : ∃ F : StV → (Nat → Int32), ∀ (x : StV), F x = f_X3_passMinuteOf_g (f_X3_passOneMinute_gq5 x) x.2.1 (x.2.2.1 2) (x.2.2.2 2) (x.2.2.1 3) (x.2.2.2 3) := ⟨fun x => f_X3_passMinuteOf_g (f_X3_passOneMinute_gq5 x) x.2.1 (x.2.2.1 2) (x.2.2.2 2) (x.2.2.1 3) (x.2.2.2 3), fun _ => rfl⟩
noncomputable def f_X3_passOneMinute_gq8 : StV → (Nat → Int32) := Classical.choose f_X3_passOneMinute_gq8_ex
theorem f_X3_passOneMinute_gq8_eq (x : StV) : f_X3_passOneMinute_gq8 x = f_X3_passMinuteOf_g (f_X3_passOneMinute_gq5 x) x.2.1 (x.2.2.1 2) (x.2.2.2 2) (x.2.2.1 3) (x.2.2.2 3) := Classical.choose_spec f_X3_passOneMinute_gq8_ex x
theorem f_X3_passOneMinute_vq8_ex : ∃ F : StV → DO, ∀ (x : StV), F x = f_X3_passMinuteOf_v (f_X3_passOneMinute_gq5 x) x.2.1 (x.2.2.1 2) (x.2.2.2 2) (x.2.2.1 3) (x.2.2.2 3) := ⟨fun x => f_X3_passMinuteOf_v (f_X3_passOneMinute_gq5 x) x.2.1 (x.2.2.1 2) (x.2.2.2 2) (x.2.2.1 3) (x.2.2.2 3), fun _ => rfl⟩
noncomputable def f_X3_passOneMinute_vq8 : StV → DO := Classical.choose f_X3_passOneMinute_vq8_ex
theorem f_X3_passOneMinute_vq8_eq (x : StV) : f_X3_passOneMinute_vq8 x = f_X3_passMinuteOf_v (f_X3_passOneMinute_gq5 x) x.2.1 (x.2.2.1 2) (x.2.2.2 2) (x.2.2.1 3) (x.2.2.2 3) := Classical.choose_spec f_X3_passOneMinute_vq8_ex x
theorem f_X3_passOneMinute_fq8_ex : ∃ F : StV → (Nat → Int8), ∀ (x : StV), F x = f_X3_passMinuteOf_f (f_X3_passOneMinute_gq5 x) x.2.1 (x.2.2.1 2) (x.2.2.2 2) (x.2.2.1 3) (x.2.2.2 3) := ⟨fun x => f_X3_passMinuteOf_f (f_X3_passOneMinute_gq5 x) x.2.1 (x.2.2.1 2) (x.2.2.2 2) (x.2.2.1 3) (x.2.2.2 3), fun _ => rfl⟩
noncomputable def f_X3_passOneMinute_fq8 : StV → (Nat → Int8) := Classical.choose f_X3_passOneMinute_fq8_ex
theorem f_X3_passOneMinute_fq8_eq (x : StV) : f_X3_passOneMinute_fq8 x = f_X3_passMinuteOf_f (f_X3_passOneMinute_gq5 x) x.2.1 (x.2.2.1 2) (x.2.2.2 2) (x.2.2.1 3) (x.2.2.2 3) := Classical.choose_spec f_X3_passOneMinute_fq8_ex x
theorem f_X3_passOneMinute_tvq8_ex : ∃ F : StV → DO, ∀ (x : StV), F x = f_X3_passMinuteOf_tv (f_X3_passOneMinute_gq5 x) x.2.1 (x.2.2.1 2) (x.2.2.2 2) (x.2.2.1 3) (x.2.2.2 3) := ⟨fun x => f_X3_passMinuteOf_tv (f_X3_passOneMinute_gq5 x) x.2.1 (x.2.2.1 2) (x.2.2.2 2) (x.2.2.1 3) (x.2.2.2 3), fun _ => rfl⟩
noncomputable def f_X3_passOneMinute_tvq8 : StV → DO := Classical.choose f_X3_passOneMinute_tvq8_ex
theorem f_X3_passOneMinute_tvq8_eq (x : StV) : f_X3_passOneMinute_tvq8 x = f_X3_passMinuteOf_tv (f_X3_passOneMinute_gq5 x) x.2.1 (x.2.2.1 2) (x.2.2.2 2) (x.2.2.1 3) (x.2.2.2 3) := Classical.choose_spec f_X3_passOneMinute_tvq8_ex x
theorem f_X3_passOneMinute_x9_ex : ∃ F : StV → Int32, ∀ (x : StV), F x = (if (f_X3_passOneMinute_rq8 x) = 0 then (f_X3_passOneMinute_x6 x) else 1) := ⟨fun x => (if (f_X3_passOneMinute_rq8 x) = 0 then (f_X3_passOneMinute_x6 x) else 1), fun _ => rfl⟩
noncomputable def f_X3_passOneMinute_x9 : StV → Int32 := Classical.choose f_X3_passOneMinute_x9_ex
theorem f_X3_passOneMinute_x9_eq (x : StV) : f_X3_passOneMinute_x9 x = (if (f_X3_passOneMinute_rq8 x) = 0 then (f_X3_passOneMinute_x6 x) else 1) := Classical.choose_spec f_X3_passOneMinute_x9_ex x
theorem f_X3_passOneMinute_rq11_ex : ∃ F : StV → Int32, ∀ (x : StV), F x = f_X3_passMinuteOf_r (f_X3_passOneMinute_gq8 x) x.2.1 (f_X3_passOneMinute_tvq8 x) (x.2.2.2 3) (f_X3_passOneMinute_vq8 x) (f_X3_passOneMinute_fq8 x) := ⟨fun x => f_X3_passMinuteOf_r (f_X3_passOneMinute_gq8 x) x.2.1 (f_X3_passOneMinute_tvq8 x) (x.2.2.2 3) (f_X3_passOneMinute_vq8 x) (f_X3_passOneMinute_fq8 x), fun _ => rfl⟩
noncomputable def f_X3_passOneMinute_rq11 : StV → Int32 := Classical.choose f_X3_passOneMinute_rq11_ex
theorem f_X3_passOneMinute_rq11_eq (x : StV) : f_X3_passOneMinute_rq11 x = f_X3_passMinuteOf_r (f_X3_passOneMinute_gq8 x) x.2.1 (f_X3_passOneMinute_tvq8 x) (x.2.2.2 3) (f_X3_passOneMinute_vq8 x) (f_X3_passOneMinute_fq8 x) := Classical.choose_spec f_X3_passOneMinute_rq11_ex x
theorem f_X3_passOneMinute_gq11_ex : ∃ F : StV → (Nat → Int32), ∀ (x : StV), F x = f_X3_passMinuteOf_g (f_X3_passOneMinute_gq8 x) x.2.1 (f_X3_passOneMinute_tvq8 x) (x.2.2.2 3) (f_X3_passOneMinute_vq8 x) (f_X3_passOneMinute_fq8 x) := ⟨fun x => f_X3_passMinuteOf_g (f_X3_passOneMinute_gq8 x) x.2.1 (f_X3_passOneMinute_tvq8 x) (x.2.2.2 3) (f_X3_passOneMinute_vq8 x) (f_X3_passOneMinute_fq8 x), fun _ => rfl⟩
noncomputable def f_X3_passOneMinute_gq11 : StV → (Nat → Int32) := Classical.choose f_X3_passOneMinute_gq11_ex
theorem f_X3_passOneMinute_gq11_eq (x : StV) : f_X3_passOneMinute_gq11 x = f_X3_passMinuteOf_g (f_X3_passOneMinute_gq8 x) x.2.1 (f_X3_passOneMinute_tvq8 x) (x.2.2.2 3) (f_X3_passOneMinute_vq8 x) (f_X3_passOneMinute_fq8 x) := Classical.choose_spec f_X3_passOneMinute_gq11_ex x
theorem f_X3_passOneMinute_vq11_ex : ∃ F : StV → DO, ∀ (x : StV), F x = f_X3_passMinuteOf_v (f_X3_passOneMinute_gq8 x) x.2.1 (f_X3_passOneMinute_tvq8 x) (x.2.2.2 3) (f_X3_passOneMinute_vq8 x) (f_X3_passOneMinute_fq8 x) := ⟨fun x => f_X3_passMinuteOf_v (f_X3_passOneMinute_gq8 x) x.2.1 (f_X3_passOneMinute_tvq8 x) (x.2.2.2 3) (f_X3_passOneMinute_vq8 x) (f_X3_passOneMinute_fq8 x), fun _ => rfl⟩
noncomputable def f_X3_passOneMinute_vq11 : StV → DO := Classical.choose f_X3_passOneMinute_vq11_ex
theorem f_X3_passOneMinute_vq11_eq (x : StV) : f_X3_passOneMinute_vq11 x = f_X3_passMinuteOf_v (f_X3_passOneMinute_gq8 x) x.2.1 (f_X3_passOneMinute_tvq8 x) (x.2.2.2 3) (f_X3_passOneMinute_vq8 x) (f_X3_passOneMinute_fq8 x) := Classical.choose_spec f_X3_passOneMinute_vq11_ex x
theorem f_X3_passOneMinute_fq11_ex : ∃ F : StV → (Nat → Int8), ∀ (x : StV), F x = f_X3_passMinuteOf_f (f_X3_passOneMinute_gq8 x) x.2.1 (f_X3_passOneMinute_tvq8 x) (x.2.2.2 3) (f_X3_passOneMinute_vq8 x) (f_X3_passOneMinute_fq8 x) := ⟨fun x => f_X3_passMinuteOf_f (f_X3_passOneMinute_gq8 x) x.2.1 (f_X3_passOneMinute_tvq8 x) (x.2.2.2 3) (f_X3_passOneMinute_vq8 x) (f_X3_passOneMinute_fq8 x), fun _ => rfl⟩
noncomputable def f_X3_passOneMinute_fq11 : StV → (Nat → Int8) := Classical.choose f_X3_passOneMinute_fq11_ex
theorem f_X3_passOneMinute_fq11_eq (x : StV) : f_X3_passOneMinute_fq11 x = f_X3_passMinuteOf_f (f_X3_passOneMinute_gq8 x) x.2.1 (f_X3_passOneMinute_tvq8 x) (x.2.2.2 3) (f_X3_passOneMinute_vq8 x) (f_X3_passOneMinute_fq8 x) := Classical.choose_spec f_X3_passOneMinute_fq11_ex x
theorem f_X3_passOneMinute_tvq11_ex : ∃ F : StV → DO, ∀ (x : StV), F x = f_X3_passMinuteOf_tv (f_X3_passOneMinute_gq8 x) x.2.1 (f_X3_passOneMinute_tvq8 x) (x.2.2.2 3) (f_X3_passOneMinute_vq8 x) (f_X3_passOneMinute_fq8 x) := ⟨fun x => f_X3_passMinuteOf_tv (f_X3_passOneMinute_gq8 x) x.2.1 (f_X3_passOneMinute_tvq8 x) (x.2.2.2 3) (f_X3_passOneMinute_vq8 x) (f_X3_passOneMinute_fq8 x), fun _ => rfl⟩
noncomputable def f_X3_passOneMinute_tvq11 : StV → DO := Classical.choose f_X3_passOneMinute_tvq11_ex
theorem f_X3_passOneMinute_tvq11_eq (x : StV) : f_X3_passOneMinute_tvq11 x = f_X3_passMinuteOf_tv (f_X3_passOneMinute_gq8 x) x.2.1 (f_X3_passOneMinute_tvq8 x) (x.2.2.2 3) (f_X3_passOneMinute_vq8 x) (f_X3_passOneMinute_fq8 x) := Classical.choose_spec f_X3_passOneMinute_tvq11_ex x
theorem f_X3_passOneMinute_x12_ex : ∃ F : StV → Int32, ∀ (x : StV), F x = (if (f_X3_passOneMinute_rq11 x) = 0 then (f_X3_passOneMinute_x9 x) else 1) := ⟨fun x => (if (f_X3_passOneMinute_rq11 x) = 0 then (f_X3_passOneMinute_x9 x) else 1), fun _ => rfl⟩
noncomputable def f_X3_passOneMinute_x12 : StV → Int32 := Classical.choose f_X3_passOneMinute_x12_ex
theorem f_X3_passOneMinute_x12_eq (x : StV) : f_X3_passOneMinute_x12 x = (if (f_X3_passOneMinute_rq11 x) = 0 then (f_X3_passOneMinute_x9 x) else 1) := Classical.choose_spec f_X3_passOneMinute_x12_ex x
theorem f_X3_passOneMinute_g_ex : ∃ F : StV → (Nat → Int32), ∀ (x : StV), F x = upd (f_X3_passOneMinute_gq11 x) 2 (((f_X3_passOneMinute_gq11 x) 2) + 1) := ⟨fun x => upd (f_X3_passOneMinute_gq11 x) 2 (((f_X3_passOneMinute_gq11 x) 2) + 1), fun _ => rfl⟩
noncomputable def f_X3_passOneMinute_g : StV → (Nat → Int32) := Classical.choose f_X3_passOneMinute_g_ex
theorem f_X3_passOneMinute_g_eq (x : StV) : f_X3_passOneMinute_g x = upd (f_X3_passOneMinute_gq11 x) 2 (((f_X3_passOneMinute_gq11 x) 2) + 1) := Classical.choose_spec f_X3_passOneMinute_g_ex x
theorem f_X3_passOneMinute_v0_ex : ∃ F : StV → DO, ∀ (x : StV), F x = (f_X3_passOneMinute_tvq5 x) := ⟨fun x => (f_X3_passOneMinute_tvq5 x), fun _ => rfl⟩
noncomputable def f_X3_passOneMinute_v0 : StV → DO := Classical.choose f_X3_passOneMinute_v0_ex
theorem f_X3_passOneMinute_v0_eq (x : StV) : f_X3_passOneMinute_v0 x = (f_X3_passOneMinute_tvq5 x) := Classical.choose_spec f_X3_passOneMinute_v0_ex x
theorem f_X3_passOneMinute_f0_ex : ∃ F : StV → (Nat → Int8), ∀ (x : StV), F x = (f_X3_passOneMinute_fq2 x) := ⟨fun x => (f_X3_passOneMinute_fq2 x), fun _ => rfl⟩
noncomputable def f_X3_passOneMinute_f0 : StV → (Nat → Int8) := Classical.choose f_X3_passOneMinute_f0_ex
theorem f_X3_passOneMinute_f0_eq (x : StV) : f_X3_passOneMinute_f0 x = (f_X3_passOneMinute_fq2 x) := Classical.choose_spec f_X3_passOneMinute_f0_ex x
theorem f_X3_passOneMinute_v1_ex : ∃ F : StV → DO, ∀ (x : StV), F x = (f_X3_passOneMinute_vq5 x) := ⟨fun x => (f_X3_passOneMinute_vq5 x), fun _ => rfl⟩
noncomputable def f_X3_passOneMinute_v1 : StV → DO := Classical.choose f_X3_passOneMinute_v1_ex
theorem f_X3_passOneMinute_v1_eq (x : StV) : f_X3_passOneMinute_v1 x = (f_X3_passOneMinute_vq5 x) := Classical.choose_spec f_X3_passOneMinute_v1_ex x
theorem f_X3_passOneMinute_f1_ex : ∃ F : StV → (Nat → Int8), ∀ (x : StV), F x = (f_X3_passOneMinute_fq5 x) := ⟨fun x => (f_X3_passOneMinute_fq5 x), fun _ => rfl⟩
noncomputable def f_X3_passOneMinute_f1 : StV → (Nat → Int8) := Classical.choose f_X3_passOneMinute_f1_ex
theorem f_X3_passOneMinute_f1_eq (x : StV) : f_X3_passOneMinute_f1 x = (f_X3_passOneMinute_fq5 x) := Classical.choose_spec f_X3_passOneMinute_f1_ex x
theorem f_X3_passOneMinute_v2_ex : ∃ F : StV → DO, ∀ (x : StV), F x = (f_X3_passOneMinute_tvq11 x) := ⟨fun x => (f_X3_passOneMinute_tvq11 x), fun _ => rfl⟩
noncomputable def f_X3_passOneMinute_v2 : StV → DO := Classical.choose f_X3_passOneMinute_v2_ex
theorem f_X3_passOneMinute_v2_eq (x : StV) : f_X3_passOneMinute_v2 x = (f_X3_passOneMinute_tvq11 x) := Classical.choose_spec f_X3_passOneMinute_v2_ex x
theorem f_X3_passOneMinute_f2_ex : ∃ F : StV → (Nat → Int8), ∀ (x : StV), F x = (f_X3_passOneMinute_fq8 x) := ⟨fun x => (f_X3_passOneMinute_fq8 x), fun _ => rfl⟩
noncomputable def f_X3_passOneMinute_f2 : StV → (Nat → Int8) := Classical.choose f_X3_passOneMinute_f2_ex
theorem f_X3_passOneMinute_f2_eq (x : StV) : f_X3_passOneMinute_f2 x = (f_X3_passOneMinute_fq8 x) := Classical.choose_spec f_X3_passOneMinute_f2_ex x
theorem f_X3_passOneMinute_v3_ex : ∃ F : StV → DO, ∀ (x : StV), F x = (f_X3_passOneMinute_vq11 x) := ⟨fun x => (f_X3_passOneMinute_vq11 x), fun _ => rfl⟩
noncomputable def f_X3_passOneMinute_v3 : StV → DO := Classical.choose f_X3_passOneMinute_v3_ex
theorem f_X3_passOneMinute_v3_eq (x : StV) : f_X3_passOneMinute_v3 x = (f_X3_passOneMinute_vq11 x) := Classical.choose_spec f_X3_passOneMinute_v3_ex x
theorem f_X3_passOneMinute_f3_ex : ∃ F : StV → (Nat → Int8), ∀ (x : StV), F x = (f_X3_passOneMinute_fq11 x) := ⟨fun x => (f_X3_passOneMinute_fq11 x), fun _ => rfl⟩
noncomputable def f_X3_passOneMinute_f3 : StV → (Nat → Int8) := Classical.choose f_X3_passOneMinute_f3_ex
theorem f_X3_passOneMinute_f3_eq (x : StV) : f_X3_passOneMinute_f3 x = (f_X3_passOneMinute_fq11 x) := Classical.choose_spec f_X3_passOneMinute_f3_ex x
theorem f_X3_passOneMinute_r_ex : ∃ F : StV → Int32, ∀ (x : StV), F x = (f_X3_passOneMinute_x12 x) := ⟨fun x => (f_X3_passOneMinute_x12 x), fun _ => rfl⟩
noncomputable def f_X3_passOneMinute_r : StV → Int32 := Classical.choose f_X3_passOneMinute_r_ex
theorem f_X3_passOneMinute_r_eq (x : StV) : f_X3_passOneMinute_r x = (f_X3_passOneMinute_x12 x) := Classical.choose_spec f_X3_passOneMinute_r_ex x
set_option maxRecDepth 100000 in
set_option maxHeartbeats 4000000 in
theorem m_X3_passOneMinute (l : Launch) (G : GG) (ad : Nat → Nat) (x : StV)  : CtI l yX3_passOneMinute cX3_passOneMinute 3 (some .boolean) (RM 4) G [.ref (ad 0)] (cSt G ad x) (f_X3_passOneMinute_r x) (cSt G ad (f_X3_passOneMinute_g x, x.2.1, pick4 (f_X3_passOneMinute_v0 x) (f_X3_passOneMinute_v1 x) (f_X3_passOneMinute_v2 x) (f_X3_passOneMinute_v3 x), pick4 (f_X3_passOneMinute_f0 x) (f_X3_passOneMinute_f1 x) (f_X3_passOneMinute_f2 x) (f_X3_passOneMinute_f3 x))) := by
  refine ct_I RX3 [(0, .ref (ad 0))] rfl (by decide +kernel) (Nat.le_of_ble_eq_true rfl) rfl ?_
  intro p e s m args below meth c A C hr hk hnm
  generalize hQ : (MQ below (PostI G A (f_X3_passOneMinute_r x) (cSt G ad (f_X3_passOneMinute_g x, x.2.1, pick4 (f_X3_passOneMinute_v0 x) (f_X3_passOneMinute_v1 x) (f_X3_passOneMinute_v2 x) (f_X3_passOneMinute_v3 x), pick4 (f_X3_passOneMinute_f0 x) (f_X3_passOneMinute_f1 x) (f_X3_passOneMinute_f2 x) (f_X3_passOneMinute_f3 x)))) args s (RM 4).cells (RM 4).slots A) = Q
  refine j_w ([oS (ad 0) (ad 1) (ad 2) x.1, aI G (ad 1) 7 x.2.1, aD G (ad 2) 4 (fun k => some (ad (3 + 2 * k))), oD (ad 3) (ad 4) (x.2.2.1 0), aB G (ad 4) (x.2.2.2 0), oD (ad 5) (ad 6) (x.2.2.1 1), aB G (ad 6) (x.2.2.2 1), oD (ad 7) (ad 8) (x.2.2.1 2), aB G (ad 8) (x.2.2.2 2), oD (ad 9) (ad 10) (x.2.2.1 3), aB G (ad 10) (x.2.2.2 3)]) rfl ?_
  refine j_iconst (v := 0) C dX3_passOneMinute_0 (by decide) ?_
  refine j_istore_n C [(1, .int 0), (0, .ref (ad 0))] dX3_passOneMinute_1 (by decide) rfl ?_
  refine j_iconst (v := 0) C dX3_passOneMinute_2 (by decide) ?_
  refine j_istore_n C [(2, .int 0), (1, .int 0), (0, .ref (ad 0))] dX3_passOneMinute_3 (by decide) rfl ?_
  refine j_iload_n C dX3_passOneMinute_4 0 rfl ?_
  refine j_iconst (v := 4) C dX3_passOneMinute_5 (by decide) ?_
  refine j_icmp_ge (tgt := 39) C dX3_passOneMinute_6 (by decide) (fun h => absurd h (by decide)) (fun _ => ?_)
  refine j_aload_n C dX3_passOneMinute_9 2 rfl ?_
  refine j_aload_n C dX3_passOneMinute_10 2 rfl ?_
  refine j_get C kin3 rfl 0 rfl 1 (by decide) kw_80 rfl (v := .ref (ad 2)) rfl dX3_passOneMinute_11 ?_
  refine j_iload_n C dX3_passOneMinute_14 0 rfl ?_
  refine j_aaldD C 2 rfl (vin_lit rfl) (y := ad 3) rfl dX3_passOneMinute_15 ?_
  refine j_aload_n C dX3_passOneMinute_16 2 rfl ?_
  refine j_get C kin3 rfl 0 rfl 1 (by decide) kw_80 rfl (v := .ref (ad 2)) rfl dX3_passOneMinute_17 ?_
  refine j_iload_n C dX3_passOneMinute_20 0 rfl ?_
  refine j_pureSN_i (r := 1) C (m_X4_twinOf_0 l G) 1 kw_259 (List.mem_of_getElem? (i := 6) rfl) kw_1 kw_258 (by decide +kernel) ⟨(Nat.le_of_ble_eq_true rfl), (Nat.le_of_ble_eq_true rfl)⟩ rfl rfl (Nat.le_of_ble_eq_true rfl) dX3_passOneMinute_21 ⟨(Nat.le_of_ble_eq_true rfl), (Nat.le_of_ble_eq_true rfl)⟩ ?_
  refine j_aaldD C 2 rfl (vin_lit rfl) (y := ad 5) rfl dX3_passOneMinute_24 ?_
  refine j_callV_i (r := f_X3_passMinuteOf_r x.1 x.2.1 (x.2.2.1 0) (x.2.2.2 0) (x.2.2.1 1) (x.2.2.2 1)) (wc' := [oS (ad 0) (ad 1) (ad 2) (f_X3_passMinuteOf_g x.1 x.2.1 (x.2.2.1 0) (x.2.2.2 0) (x.2.2.1 1) (x.2.2.2 1)), aI G (ad 1) 7 x.2.1, oD (ad 3) (ad 4) (f_X3_passMinuteOf_v x.1 x.2.1 (x.2.2.1 0) (x.2.2.2 0) (x.2.2.1 1) (x.2.2.2 1)), aB G (ad 4) (f_X3_passMinuteOf_f x.1 x.2.1 (x.2.2.1 0) (x.2.2.2 0) (x.2.2.1 1) (x.2.2.2 1)), oD (ad 5) (ad 6) (f_X3_passMinuteOf_tv x.1 x.2.1 (x.2.2.1 0) (x.2.2.2 0) (x.2.2.1 1) (x.2.2.2 1)), aB G (ad 6) (x.2.2.2 1)]) C (m_X3_passMinuteOf l G (ad 0) (ad 3) (ad 5) (ad 1) (ad 2) (ad 4) (ad 6) x.1 x.2.1 (x.2.2.1 0) (x.2.2.2 0) (x.2.2.1 1) (x.2.2.2 1)) rfl 0 rfl 2 (gV kw_260 kw_261 kw_756 kw_2 kw_262) (by decide +kernel) ⟨(Nat.le_of_ble_eq_true rfl), (Nat.le_of_ble_eq_true rfl)⟩ rfl rfl (Nat.le_of_ble_eq_true rfl) dX3_passOneMinute_25 ⟨(Nat.le_of_ble_eq_true rfl), (Nat.le_of_ble_eq_true rfl)⟩ [aD G (ad 2) 4 (fun k => some (ad (3 + 2 * k))), oD (ad 7) (ad 8) (x.2.2.1 2), aB G (ad 8) (x.2.2.2 2), oD (ad 9) (ad 10) (x.2.2.1 3), aB G (ad 10) (x.2.2.2 3)] [oS (ad 0) (ad 1) (ad 2) (f_X3_passMinuteOf_g x.1 x.2.1 (x.2.2.1 0) (x.2.2.2 0) (x.2.2.1 1) (x.2.2.2 1)), aI G (ad 1) 7 x.2.1, oD (ad 3) (ad 4) (f_X3_passMinuteOf_v x.1 x.2.1 (x.2.2.1 0) (x.2.2.2 0) (x.2.2.1 1) (x.2.2.2 1)), aB G (ad 4) (f_X3_passMinuteOf_f x.1 x.2.1 (x.2.2.1 0) (x.2.2.2 0) (x.2.2.1 1) (x.2.2.2 1)), oD (ad 5) (ad 6) (f_X3_passMinuteOf_tv x.1 x.2.1 (x.2.2.1 0) (x.2.2.2 0) (x.2.2.1 1) (x.2.2.2 1)), aB G (ad 6) (x.2.2.2 1), aD G (ad 2) 4 (fun k => some (ad (3 + 2 * k))), oD (ad 7) (ad 8) (x.2.2.1 2), aB G (ad 8) (x.2.2.2 2), oD (ad 9) (ad 10) (x.2.2.1 3), aB G (ad 10) (x.2.2.2 3)] (perm_idx [0, 1, 3, 4, 5, 6, 2, 7, 8, 9, 10] 11 rfl (by decide +kernel) rfl) rfl ?_
  generalize hzw0 : f_X3_passMinuteOf_r x.1 x.2.1 (x.2.2.1 0) (x.2.2.2 0) (x.2.2.1 1) (x.2.2.2 1) = w0
  have hw0 : f_X3_passOneMinute_rq2 x = w0 := by subst hzw0; exact (f_X3_passOneMinute_rq2_eq x)
  generalize hzw1 : f_X3_passMinuteOf_g x.1 x.2.1 (x.2.2.1 0) (x.2.2.2 0) (x.2.2.1 1) (x.2.2.2 1) = w1
  have hw1 : f_X3_passOneMinute_gq2 x = w1 := by subst hw0; subst hzw1; exact (f_X3_passOneMinute_gq2_eq x)
  generalize hzw2 : f_X3_passMinuteOf_v x.1 x.2.1 (x.2.2.1 0) (x.2.2.2 0) (x.2.2.1 1) (x.2.2.2 1) = w2
  have hw2 : f_X3_passOneMinute_vq2 x = w2 := by subst hw0 hw1; subst hzw2; exact (f_X3_passOneMinute_vq2_eq x)
  generalize hzw3 : f_X3_passMinuteOf_f x.1 x.2.1 (x.2.2.1 0) (x.2.2.2 0) (x.2.2.1 1) (x.2.2.2 1) = w3
  have hw3 : f_X3_passOneMinute_fq2 x = w3 := by subst hw0 hw1 hw2; subst hzw3; exact (f_X3_passOneMinute_fq2_eq x)
  generalize hzw4 : f_X3_passMinuteOf_tv x.1 x.2.1 (x.2.2.1 0) (x.2.2.2 0) (x.2.2.1 1) (x.2.2.2 1) = w4
  have hw4 : f_X3_passOneMinute_tvq2 x = w4 := by subst hw0 hw1 hw2 hw3; subst hzw4; exact (f_X3_passOneMinute_tvq2_eq x)
  have K33 : WJ p l e (RM 4) s m args below meth c G A 3 0 0 Q ([oS (ad 0) (ad 1) (ad 2) w1, aI G (ad 1) 7 x.2.1, oD (ad 3) (ad 4) w2, aB G (ad 4) w3, oD (ad 5) (ad 6) w4, aB G (ad 6) (x.2.2.2 1), aD G (ad 2) 4 (fun k => some (ad (3 + 2 * k))), oD (ad 7) (ad 8) (x.2.2.1 2), aB G (ad 8) (x.2.2.2 2), oD (ad 9) (ad 10) (x.2.2.1 3), aB G (ad 10) (x.2.2.2 3)]) [(2, .int 0), (1, .int (f_X3_passOneMinute_x3 x)), (0, .ref (ad 0))] 33 [] := by
    generalize hw5 : f_X3_passOneMinute_x3 x = w5
    refine j_iinc (v := 1) C [(2, .int 1), (1, .int w5), (0, .ref (ad 0))] dX3_passOneMinute_33 (k := 0) rfl (by decide) (by decide) rfl ?_
    refine j_goto (tgt := 4) C dX3_passOneMinute_36 (by decide) ?_
    refine j_iload_n C dX3_passOneMinute_4 0 rfl ?_
    refine j_iconst (v := 4) C dX3_passOneMinute_5 (by decide) ?_
    refine j_icmp_ge (tgt := 39) C dX3_passOneMinute_6 (by decide) (fun h => absurd h (by decide)) (fun _ => ?_)
    refine j_aload_n C dX3_passOneMinute_9 2 rfl ?_
    refine j_aload_n C dX3_passOneMinute_10 2 rfl ?_
    refine j_get C kin3 rfl 0 rfl 1 (by decide) kw_80 rfl (v := .ref (ad 2)) rfl dX3_passOneMinute_11 ?_
    refine j_iload_n C dX3_passOneMinute_14 0 rfl ?_
    refine j_aaldD C 6 rfl (vin_lit rfl) (y := ad 5) rfl dX3_passOneMinute_15 ?_
    refine j_aload_n C dX3_passOneMinute_16 2 rfl ?_
    refine j_get C kin3 rfl 0 rfl 1 (by decide) kw_80 rfl (v := .ref (ad 2)) rfl dX3_passOneMinute_17 ?_
    refine j_iload_n C dX3_passOneMinute_20 0 rfl ?_
    refine j_pureSN_i (r := 0) C (m_X4_twinOf_1 l G) 1 kw_259 (List.mem_of_getElem? (i := 6) rfl) kw_1 kw_258 (by decide +kernel) ⟨(Nat.le_of_ble_eq_true rfl), (Nat.le_of_ble_eq_true rfl)⟩ rfl rfl (Nat.le_of_ble_eq_true rfl) dX3_passOneMinute_21 ⟨(Nat.le_of_ble_eq_true rfl), (Nat.le_of_ble_eq_true rfl)⟩ ?_
    refine j_aaldD C 6 rfl (vin_lit rfl) (y := ad 3) rfl dX3_passOneMinute_24 ?_
    refine j_callV_i (r := f_X3_passMinuteOf_r w1 x.2.1 w4 (x.2.2.2 1) w2 w3) (wc' := [oS (ad 0) (ad 1) (ad 2) (f_X3_passMinuteOf_g w1 x.2.1 w4 (x.2.2.2 1) w2 w3), aI G (ad 1) 7 x.2.1, oD (ad 5) (ad 6) (f_X3_passMinuteOf_v w1 x.2.1 w4 (x.2.2.2 1) w2 w3), aB G (ad 6) (f_X3_passMinuteOf_f w1 x.2.1 w4 (x.2.2.2 1) w2 w3), oD (ad 3) (ad 4) (f_X3_passMinuteOf_tv w1 x.2.1 w4 (x.2.2.2 1) w2 w3), aB G (ad 4) w3]) C (m_X3_passMinuteOf l G (ad 0) (ad 5) (ad 3) (ad 1) (ad 2) (ad 6) (ad 4) w1 x.2.1 w4 (x.2.2.2 1) w2 w3) rfl 0 rfl 2 (gV kw_260 kw_261 kw_756 kw_2 kw_262) (by decide +kernel) ⟨(Nat.le_of_ble_eq_true rfl), (Nat.le_of_ble_eq_true rfl)⟩ rfl rfl (Nat.le_of_ble_eq_true rfl) dX3_passOneMinute_25 ⟨(Nat.le_of_ble_eq_true rfl), (Nat.le_of_ble_eq_true rfl)⟩ [aD G (ad 2) 4 (fun k => some (ad (3 + 2 * k))), oD (ad 7) (ad 8) (x.2.2.1 2), aB G (ad 8) (x.2.2.2 2), oD (ad 9) (ad 10) (x.2.2.1 3), aB G (ad 10) (x.2.2.2 3)] [oS (ad 0) (ad 1) (ad 2) (f_X3_passMinuteOf_g w1 x.2.1 w4 (x.2.2.2 1) w2 w3), aI G (ad 1) 7 x.2.1, oD (ad 5) (ad 6) (f_X3_passMinuteOf_v w1 x.2.1 w4 (x.2.2.2 1) w2 w3), aB G (ad 6) (f_X3_passMinuteOf_f w1 x.2.1 w4 (x.2.2.2 1) w2 w3), oD (ad 3) (ad 4) (f_X3_passMinuteOf_tv w1 x.2.1 w4 (x.2.2.2 1) w2 w3), aB G (ad 4) w3, aD G (ad 2) 4 (fun k => some (ad (3 + 2 * k))), oD (ad 7) (ad 8) (x.2.2.1 2), aB G (ad 8) (x.2.2.2 2), oD (ad 9) (ad 10) (x.2.2.1 3), aB G (ad 10) (x.2.2.2 3)] (perm_idx [0, 1, 4, 5, 2, 3, 6, 7, 8, 9, 10] 11 rfl (by decide +kernel) rfl) rfl ?_
    generalize hzw6 : f_X3_passMinuteOf_r w1 x.2.1 w4 (x.2.2.2 1) w2 w3 = w6
    have hw6 : f_X3_passOneMinute_rq5 x = w6 := by subst hw0 hw1 hw2 hw3 hw4 hw5; subst hzw6; exact (f_X3_passOneMinute_rq5_eq x)
    generalize hzw7 : f_X3_passMinuteOf_g w1 x.2.1 w4 (x.2.2.2 1) w2 w3 = w7
    have hw7 : f_X3_passOneMinute_gq5 x = w7 := by subst hw0 hw1 hw2 hw3 hw4 hw5 hw6; subst hzw7; exact (f_X3_passOneMinute_gq5_eq x)
    generalize hzw8 : f_X3_passMinuteOf_v w1 x.2.1 w4 (x.2.2.2 1) w2 w3 = w8
    have hw8 : f_X3_passOneMinute_vq5 x = w8 := by subst hw0 hw1 hw2 hw3 hw4 hw5 hw6 hw7; subst hzw8; exact (f_X3_passOneMinute_vq5_eq x)
    generalize hzw9 : f_X3_passMinuteOf_f w1 x.2.1 w4 (x.2.2.2 1) w2 w3 = w9
    have hw9 : f_X3_passOneMinute_fq5 x = w9 := by subst hw0 hw1 hw2 hw3 hw4 hw5 hw6 hw7 hw8; subst hzw9; exact (f_X3_passOneMinute_fq5_eq x)
    generalize hzw10 : f_X3_passMinuteOf_tv w1 x.2.1 w4 (x.2.2.2 1) w2 w3 = w10
    have hw10 : f_X3_passOneMinute_tvq5 x = w10 := by subst hw0 hw1 hw2 hw3 hw4 hw5 hw6 hw7 hw8 hw9; subst hzw10; exact (f_X3_passOneMinute_tvq5_eq x)
    have K33_1 : WJ p l e (RM 4) s m args below meth c G A 3 0 0 Q ([oS (ad 0) (ad 1) (ad 2) w7, aI G (ad 1) 7 x.2.1, oD (ad 5) (ad 6) w8, aB G (ad 6) w9, oD (ad 3) (ad 4) w10, aB G (ad 4) w3, aD G (ad 2) 4 (fun k => some (ad (3 + 2 * k))), oD (ad 7) (ad 8) (x.2.2.1 2), aB G (ad 8) (x.2.2.2 2), oD (ad 9) (ad 10) (x.2.2.1 3), aB G (ad 10) (x.2.2.2 3)]) [(2, .int 1), (1, .int (f_X3_passOneMinute_x6 x)), (0, .ref (ad 0))] 33 [] := by
      generalize hw11 : f_X3_passOneMinute_x6 x = w11
      refine j_iinc (v := 2) C [(2, .int 2), (1, .int w11), (0, .ref (ad 0))] dX3_passOneMinute_33 (k := 0) rfl (by decide) (by decide) rfl ?_
      refine j_goto (tgt := 4) C dX3_passOneMinute_36 (by decide) ?_
      refine j_iload_n C dX3_passOneMinute_4 0 rfl ?_
      refine j_iconst (v := 4) C dX3_passOneMinute_5 (by decide) ?_
      refine j_icmp_ge (tgt := 39) C dX3_passOneMinute_6 (by decide) (fun h => absurd h (by decide)) (fun _ => ?_)
      refine j_aload_n C dX3_passOneMinute_9 2 rfl ?_
      refine j_aload_n C dX3_passOneMinute_10 2 rfl ?_
      refine j_get C kin3 rfl 0 rfl 1 (by decide) kw_80 rfl (v := .ref (ad 2)) rfl dX3_passOneMinute_11 ?_
      refine j_iload_n C dX3_passOneMinute_14 0 rfl ?_
      refine j_aaldD C 6 rfl (vin_lit rfl) (y := ad 7) rfl dX3_passOneMinute_15 ?_
      refine j_aload_n C dX3_passOneMinute_16 2 rfl ?_
      refine j_get C kin3 rfl 0 rfl 1 (by decide) kw_80 rfl (v := .ref (ad 2)) rfl dX3_passOneMinute_17 ?_
      refine j_iload_n C dX3_passOneMinute_20 0 rfl ?_
      refine j_pureSN_i (r := 3) C (m_X4_twinOf_2 l G) 1 kw_259 (List.mem_of_getElem? (i := 6) rfl) kw_1 kw_258 (by decide +kernel) ⟨(Nat.le_of_ble_eq_true rfl), (Nat.le_of_ble_eq_true rfl)⟩ rfl rfl (Nat.le_of_ble_eq_true rfl) dX3_passOneMinute_21 ⟨(Nat.le_of_ble_eq_true rfl), (Nat.le_of_ble_eq_true rfl)⟩ ?_
      refine j_aaldD C 6 rfl (vin_lit rfl) (y := ad 9) rfl dX3_passOneMinute_24 ?_
      refine j_callV_i (r := f_X3_passMinuteOf_r w7 x.2.1 (x.2.2.1 2) (x.2.2.2 2) (x.2.2.1 3) (x.2.2.2 3)) (wc' := [oS (ad 0) (ad 1) (ad 2) (f_X3_passMinuteOf_g w7 x.2.1 (x.2.2.1 2) (x.2.2.2 2) (x.2.2.1 3) (x.2.2.2 3)), aI G (ad 1) 7 x.2.1, oD (ad 7) (ad 8) (f_X3_passMinuteOf_v w7 x.2.1 (x.2.2.1 2) (x.2.2.2 2) (x.2.2.1 3) (x.2.2.2 3)), aB G (ad 8) (f_X3_passMinuteOf_f w7 x.2.1 (x.2.2.1 2) (x.2.2.2 2) (x.2.2.1 3) (x.2.2.2 3)), oD (ad 9) (ad 10) (f_X3_passMinuteOf_tv w7 x.2.1 (x.2.2.1 2) (x.2.2.2 2) (x.2.2.1 3) (x.2.2.2 3)), aB G (ad 10) (x.2.2.2 3)]) C (m_X3_passMinuteOf l G (ad 0) (ad 7) (ad 9) (ad 1) (ad 2) (ad 8) (ad 10) w7 x.2.1 (x.2.2.1 2) (x.2.2.2 2) (x.2.2.1 3) (x.2.2.2 3)) rfl 0 rfl 2 (gV kw_260 kw_261 kw_756 kw_2 kw_262) (by decide +kernel) ⟨(Nat.le_of_ble_eq_true rfl), (Nat.le_of_ble_eq_true rfl)⟩ rfl rfl (Nat.le_of_ble_eq_true rfl) dX3_passOneMinute_25 ⟨(Nat.le_of_ble_eq_true rfl), (Nat.le_of_ble_eq_true rfl)⟩ [oD (ad 5) (ad 6) w8, aB G (ad 6) w9, oD (ad 3) (ad 4) w10, aB G (ad 4) w3, aD G (ad 2) 4 (fun k => some (ad (3 + 2 * k)))] [oS (ad 0) (ad 1) (ad 2) (f_X3_passMinuteOf_g w7 x.2.1 (x.2.2.1 2) (x.2.2.2 2) (x.2.2.1 3) (x.2.2.2 3)), aI G (ad 1) 7 x.2.1, oD (ad 7) (ad 8) (f_X3_passMinuteOf_v w7 x.2.1 (x.2.2.1 2) (x.2.2.2 2) (x.2.2.1 3) (x.2.2.2 3)), aB G (ad 8) (f_X3_passMinuteOf_f w7 x.2.1 (x.2.2.1 2) (x.2.2.2 2) (x.2.2.1 3) (x.2.2.2 3)), oD (ad 9) (ad 10) (f_X3_passMinuteOf_tv w7 x.2.1 (x.2.2.1 2) (x.2.2.2 2) (x.2.2.1 3) (x.2.2.2 3)), aB G (ad 10) (x.2.2.2 3), oD (ad 5) (ad 6) w8, aB G (ad 6) w9, oD (ad 3) (ad 4) w10, aB G (ad 4) w3, aD G (ad 2) 4 (fun k => some (ad (3 + 2 * k)))] (perm_idx [0, 1, 7, 8, 9, 10, 2, 3, 4, 5, 6] 11 rfl (by decide +kernel) rfl) rfl ?_
      generalize hzw12 : f_X3_passMinuteOf_r w7 x.2.1 (x.2.2.1 2) (x.2.2.2 2) (x.2.2.1 3) (x.2.2.2 3) = w12
      have hw12 : f_X3_passOneMinute_rq8 x = w12 := by subst hw0 hw1 hw2 hw3 hw4 hw5 hw6 hw7 hw8 hw9 hw10 hw11; subst hzw12; exact (f_X3_passOneMinute_rq8_eq x)
      generalize hzw13 : f_X3_passMinuteOf_g w7 x.2.1 (x.2.2.1 2) (x.2.2.2 2) (x.2.2.1 3) (x.2.2.2 3) = w13
      have hw13 : f_X3_passOneMinute_gq8 x = w13 := by subst hw0 hw1 hw2 hw3 hw4 hw5 hw6 hw7 hw8 hw9 hw10 hw11 hw12; subst hzw13; exact (f_X3_passOneMinute_gq8_eq x)
      generalize hzw14 : f_X3_passMinuteOf_v w7 x.2.1 (x.2.2.1 2) (x.2.2.2 2) (x.2.2.1 3) (x.2.2.2 3) = w14
      have hw14 : f_X3_passOneMinute_vq8 x = w14 := by subst hw0 hw1 hw2 hw3 hw4 hw5 hw6 hw7 hw8 hw9 hw10 hw11 hw12 hw13; subst hzw14; exact (f_X3_passOneMinute_vq8_eq x)
      generalize hzw15 : f_X3_passMinuteOf_f w7 x.2.1 (x.2.2.1 2) (x.2.2.2 2) (x.2.2.1 3) (x.2.2.2 3) = w15
      have hw15 : f_X3_passOneMinute_fq8 x = w15 := by subst hw0 hw1 hw2 hw3 hw4 hw5 hw6 hw7 hw8 hw9 hw10 hw11 hw12 hw13 hw14; subst hzw15; exact (f_X3_passOneMinute_fq8_eq x)
      generalize hzw16 : f_X3_passMinuteOf_tv w7 x.2.1 (x.2.2.1 2) (x.2.2.2 2) (x.2.2.1 3) (x.2.2.2 3) = w16
      have hw16 : f_X3_passOneMinute_tvq8 x = w16 := by subst hw0 hw1 hw2 hw3 hw4 hw5 hw6 hw7 hw8 hw9 hw10 hw11 hw12 hw13 hw14 hw15; subst hzw16; exact (f_X3_passOneMinute_tvq8_eq x)
      have K33_2 : WJ p l e (RM 4) s m args below meth c G A 3 0 0 Q ([oS (ad 0) (ad 1) (ad 2) w13, aI G (ad 1) 7 x.2.1, oD (ad 7) (ad 8) w14, aB G (ad 8) w15, oD (ad 9) (ad 10) w16, aB G (ad 10) (x.2.2.2 3), oD (ad 5) (ad 6) w8, aB G (ad 6) w9, oD (ad 3) (ad 4) w10, aB G (ad 4) w3, aD G (ad 2) 4 (fun k => some (ad (3 + 2 * k)))]) [(2, .int 2), (1, .int (f_X3_passOneMinute_x9 x)), (0, .ref (ad 0))] 33 [] := by
        generalize hw17 : f_X3_passOneMinute_x9 x = w17
        refine j_iinc (v := 3) C [(2, .int 3), (1, .int w17), (0, .ref (ad 0))] dX3_passOneMinute_33 (k := 0) rfl (by decide) (by decide) rfl ?_
        refine j_goto (tgt := 4) C dX3_passOneMinute_36 (by decide) ?_
        refine j_iload_n C dX3_passOneMinute_4 0 rfl ?_
        refine j_iconst (v := 4) C dX3_passOneMinute_5 (by decide) ?_
        refine j_icmp_ge (tgt := 39) C dX3_passOneMinute_6 (by decide) (fun h => absurd h (by decide)) (fun _ => ?_)
        refine j_aload_n C dX3_passOneMinute_9 2 rfl ?_
        refine j_aload_n C dX3_passOneMinute_10 2 rfl ?_
        refine j_get C kin3 rfl 0 rfl 1 (by decide) kw_80 rfl (v := .ref (ad 2)) rfl dX3_passOneMinute_11 ?_
        refine j_iload_n C dX3_passOneMinute_14 0 rfl ?_
        refine j_aaldD C 10 rfl (vin_lit rfl) (y := ad 9) rfl dX3_passOneMinute_15 ?_
        refine j_aload_n C dX3_passOneMinute_16 2 rfl ?_
        refine j_get C kin3 rfl 0 rfl 1 (by decide) kw_80 rfl (v := .ref (ad 2)) rfl dX3_passOneMinute_17 ?_
        refine j_iload_n C dX3_passOneMinute_20 0 rfl ?_
        refine j_pureSN_i (r := 2) C (m_X4_twinOf_3 l G) 1 kw_259 (List.mem_of_getElem? (i := 6) rfl) kw_1 kw_258 (by decide +kernel) ⟨(Nat.le_of_ble_eq_true rfl), (Nat.le_of_ble_eq_true rfl)⟩ rfl rfl (Nat.le_of_ble_eq_true rfl) dX3_passOneMinute_21 ⟨(Nat.le_of_ble_eq_true rfl), (Nat.le_of_ble_eq_true rfl)⟩ ?_
        refine j_aaldD C 10 rfl (vin_lit rfl) (y := ad 7) rfl dX3_passOneMinute_24 ?_
        refine j_callV_i (r := f_X3_passMinuteOf_r w13 x.2.1 w16 (x.2.2.2 3) w14 w15) (wc' := [oS (ad 0) (ad 1) (ad 2) (f_X3_passMinuteOf_g w13 x.2.1 w16 (x.2.2.2 3) w14 w15), aI G (ad 1) 7 x.2.1, oD (ad 9) (ad 10) (f_X3_passMinuteOf_v w13 x.2.1 w16 (x.2.2.2 3) w14 w15), aB G (ad 10) (f_X3_passMinuteOf_f w13 x.2.1 w16 (x.2.2.2 3) w14 w15), oD (ad 7) (ad 8) (f_X3_passMinuteOf_tv w13 x.2.1 w16 (x.2.2.2 3) w14 w15), aB G (ad 8) w15]) C (m_X3_passMinuteOf l G (ad 0) (ad 9) (ad 7) (ad 1) (ad 2) (ad 10) (ad 8) w13 x.2.1 w16 (x.2.2.2 3) w14 w15) rfl 0 rfl 2 (gV kw_260 kw_261 kw_756 kw_2 kw_262) (by decide +kernel) ⟨(Nat.le_of_ble_eq_true rfl), (Nat.le_of_ble_eq_true rfl)⟩ rfl rfl (Nat.le_of_ble_eq_true rfl) dX3_passOneMinute_25 ⟨(Nat.le_of_ble_eq_true rfl), (Nat.le_of_ble_eq_true rfl)⟩ [oD (ad 5) (ad 6) w8, aB G (ad 6) w9, oD (ad 3) (ad 4) w10, aB G (ad 4) w3, aD G (ad 2) 4 (fun k => some (ad (3 + 2 * k)))] [oS (ad 0) (ad 1) (ad 2) (f_X3_passMinuteOf_g w13 x.2.1 w16 (x.2.2.2 3) w14 w15), aI G (ad 1) 7 x.2.1, oD (ad 9) (ad 10) (f_X3_passMinuteOf_v w13 x.2.1 w16 (x.2.2.2 3) w14 w15), aB G (ad 10) (f_X3_passMinuteOf_f w13 x.2.1 w16 (x.2.2.2 3) w14 w15), oD (ad 7) (ad 8) (f_X3_passMinuteOf_tv w13 x.2.1 w16 (x.2.2.2 3) w14 w15), aB G (ad 8) w15, oD (ad 5) (ad 6) w8, aB G (ad 6) w9, oD (ad 3) (ad 4) w10, aB G (ad 4) w3, aD G (ad 2) 4 (fun k => some (ad (3 + 2 * k)))] (perm_idx [0, 1, 4, 5, 2, 3, 6, 7, 8, 9, 10] 11 rfl (by decide +kernel) rfl) rfl ?_
        generalize hzw18 : f_X3_passMinuteOf_r w13 x.2.1 w16 (x.2.2.2 3) w14 w15 = w18
        have hw18 : f_X3_passOneMinute_rq11 x = w18 := by subst hw0 hw1 hw2 hw3 hw4 hw5 hw6 hw7 hw8 hw9 hw10 hw11 hw12 hw13 hw14 hw15 hw16 hw17; subst hzw18; exact (f_X3_passOneMinute_rq11_eq x)
        generalize hzw19 : f_X3_passMinuteOf_g w13 x.2.1 w16 (x.2.2.2 3) w14 w15 = w19
        have hw19 : f_X3_passOneMinute_gq11 x = w19 := by subst hw0 hw1 hw2 hw3 hw4 hw5 hw6 hw7 hw8 hw9 hw10 hw11 hw12 hw13 hw14 hw15 hw16 hw17 hw18; subst hzw19; exact (f_X3_passOneMinute_gq11_eq x)
        generalize hzw20 : f_X3_passMinuteOf_v w13 x.2.1 w16 (x.2.2.2 3) w14 w15 = w20
        have hw20 : f_X3_passOneMinute_vq11 x = w20 := by subst hw0 hw1 hw2 hw3 hw4 hw5 hw6 hw7 hw8 hw9 hw10 hw11 hw12 hw13 hw14 hw15 hw16 hw17 hw18 hw19; subst hzw20; exact (f_X3_passOneMinute_vq11_eq x)
        generalize hzw21 : f_X3_passMinuteOf_f w13 x.2.1 w16 (x.2.2.2 3) w14 w15 = w21
        have hw21 : f_X3_passOneMinute_fq11 x = w21 := by subst hw0 hw1 hw2 hw3 hw4 hw5 hw6 hw7 hw8 hw9 hw10 hw11 hw12 hw13 hw14 hw15 hw16 hw17 hw18 hw19 hw20; subst hzw21; exact (f_X3_passOneMinute_fq11_eq x)
        generalize hzw22 : f_X3_passMinuteOf_tv w13 x.2.1 w16 (x.2.2.2 3) w14 w15 = w22
        have hw22 : f_X3_passOneMinute_tvq11 x = w22 := by subst hw0 hw1 hw2 hw3 hw4 hw5 hw6 hw7 hw8 hw9 hw10 hw11 hw12 hw13 hw14 hw15 hw16 hw17 hw18 hw19 hw20 hw21; subst hzw22; exact (f_X3_passOneMinute_tvq11_eq x)
        have K33_3 : WJ p l e (RM 4) s m args below meth c G A 3 0 0 Q ([oS (ad 0) (ad 1) (ad 2) w19, aI G (ad 1) 7 x.2.1, oD (ad 9) (ad 10) w20, aB G (ad 10) w21, oD (ad 7) (ad 8) w22, aB G (ad 8) w15, oD (ad 5) (ad 6) w8, aB G (ad 6) w9, oD (ad 3) (ad 4) w10, aB G (ad 4) w3, aD G (ad 2) 4 (fun k => some (ad (3 + 2 * k)))]) [(2, .int 3), (1, .int (f_X3_passOneMinute_x12 x)), (0, .ref (ad 0))] 33 [] := by
          generalize hw23 : f_X3_passOneMinute_x12 x = w23
          refine j_iinc (v := 4) C [(2, .int 4), (1, .int w23), (0, .ref (ad 0))] dX3_passOneMinute_33 (k := 0) rfl (by decide) (by decide) rfl ?_
          refine j_goto (tgt := 4) C dX3_passOneMinute_36 (by decide) ?_
          refine j_iload_n C dX3_passOneMinute_4 0 rfl ?_
          refine j_iconst (v := 4) C dX3_passOneMinute_5 (by decide) ?_
          refine j_icmp_ge (tgt := 39) C dX3_passOneMinute_6 (by decide) (fun _ => ?_) (fun h => absurd h (by decide))
          refine j_aload_n C dX3_passOneMinute_39 2 rfl ?_
          refine j_dup C dX3_passOneMinute_40 rfl ?_
          refine j_get C kin3 rfl 0 rfl 2 (by decide) kw_82 rfl (v := .int (w19 2)) rfl dX3_passOneMinute_41 ?_
          refine j_iconst (v := 1) C dX3_passOneMinute_44 (by decide) ?_
          refine j_iadd C dX3_passOneMinute_45 rfl ?_
          refine j_put C kin3 rfl 0 rfl 2 (by decide) kw_82 rfl tyX3 tyX3_ok nmX3 rfl rfl rfl (Nat.le_of_ble_eq_true rfl) ([oS (ad 0) (ad 1) (ad 2) (upd w19 2 ((w19 2) + 1)), aI G (ad 1) 7 x.2.1, oD (ad 9) (ad 10) w20, aB G (ad 10) w21, oD (ad 7) (ad 8) w22, aB G (ad 8) w15, oD (ad 5) (ad 6) w8, aB G (ad 6) w9, oD (ad 3) (ad 4) w10, aB G (ad 4) w3, aD G (ad 2) 4 (fun k => some (ad (3 + 2 * k)))]) rfl dX3_passOneMinute_46 ?_
          refine j_iload_n C dX3_passOneMinute_49 1 rfl ?_
          refine j_perm ([oS (ad 0) (ad 1) (ad 2) (upd w19 2 ((w19 2) + 1)), aI G (ad 1) 7 x.2.1, aD G (ad 2) 4 (fun k => some (ad (3 + 2 * k))), oD (ad 3) (ad 4) w10, aB G (ad 4) w3, oD (ad 5) (ad 6) w8, aB G (ad 6) w9, oD (ad 7) (ad 8) w22, aB G (ad 8) w15, oD (ad 9) (ad 10) w20, aB G (ad 10) w21]) (perm_idx [0, 1, 10, 8, 9, 6, 7, 4, 5, 2, 3] 11 rfl (by decide +kernel) rfl) ?_
          subst hQ; subst hw0 hw1 hw2 hw3 hw4 hw5 hw6 hw7 hw8 hw9 hw10 hw11 hw12 hw13 hw14 hw15 hw16 hw17 hw18 hw19 hw20 hw21 hw22 hw23; exact j_zret C hr hk (nar_01 (by rw [f_X3_passOneMinute_x12_eq, f_X3_passOneMinute_x9_eq, f_X3_passOneMinute_x6_eq, f_X3_passOneMinute_x3_eq]; (repeat' split) <;> decide)) ((show f_X3_passOneMinute_r x = (f_X3_passOneMinute_x12 x) from (f_X3_passOneMinute_r_eq x)).symm) (by rw [show f_X3_passOneMinute_g x = upd (f_X3_passOneMinute_gq11 x) 2 (((f_X3_passOneMinute_gq11 x) 2) + 1) from (f_X3_passOneMinute_g_eq x), show f_X3_passOneMinute_v0 x = (f_X3_passOneMinute_tvq5 x) from (f_X3_passOneMinute_v0_eq x), show f_X3_passOneMinute_f0 x = (f_X3_passOneMinute_fq2 x) from (f_X3_passOneMinute_f0_eq x), show f_X3_passOneMinute_v1 x = (f_X3_passOneMinute_vq5 x) from (f_X3_passOneMinute_v1_eq x), show f_X3_passOneMinute_f1 x = (f_X3_passOneMinute_fq5 x) from (f_X3_passOneMinute_f1_eq x), show f_X3_passOneMinute_v2 x = (f_X3_passOneMinute_tvq11 x) from (f_X3_passOneMinute_v2_eq x), show f_X3_passOneMinute_f2 x = (f_X3_passOneMinute_fq8 x) from (f_X3_passOneMinute_f2_eq x), show f_X3_passOneMinute_v3 x = (f_X3_passOneMinute_vq11 x) from (f_X3_passOneMinute_v3_eq x), show f_X3_passOneMinute_f3 x = (f_X3_passOneMinute_fq11 x) from (f_X3_passOneMinute_f3_eq x)]; rfl) dX3_passOneMinute_50
        refine j_if_eq (tgt := 33) C dX3_passOneMinute_28 (by decide) (fun c28 => ?_) (fun c28 => ?_)
        · subst hw0 hw1 hw2 hw3 hw4 hw5 hw6 hw7 hw8 hw9 hw10 hw11 hw12 hw13 hw14 hw15 hw16 hw17 hw18 hw19 hw20 hw21 hw22; exact j_eq rfl (by rw [show f_X3_passOneMinute_x12 x = (f_X3_passOneMinute_x9 x) from ((f_X3_passOneMinute_x12_eq x).trans (if_pos c28))]) rfl K33_3
        · refine j_iconst (v := 1) C dX3_passOneMinute_31 (by decide) ?_
          refine j_istore_n C [(1, .int 1), (2, .int 3), (0, .ref (ad 0))] dX3_passOneMinute_32 (by decide) rfl ?_
          refine j_lv [1, 0, 2] [(2, .int 3), (1, .int 1), (0, .ref (ad 0))] rfl ?_
          subst hw0 hw1 hw2 hw3 hw4 hw5 hw6 hw7 hw8 hw9 hw10 hw11 hw12 hw13 hw14 hw15 hw16 hw17 hw18 hw19 hw20 hw21 hw22; exact j_eq rfl (by rw [show f_X3_passOneMinute_x12 x = 1 from ((f_X3_passOneMinute_x12_eq x).trans (if_neg c28))]) rfl K33_3
      refine j_if_eq (tgt := 33) C dX3_passOneMinute_28 (by decide) (fun c28 => ?_) (fun c28 => ?_)
      · subst hw0 hw1 hw2 hw3 hw4 hw5 hw6 hw7 hw8 hw9 hw10 hw11 hw12 hw13 hw14 hw15 hw16; exact j_eq rfl (by rw [show f_X3_passOneMinute_x9 x = (f_X3_passOneMinute_x6 x) from ((f_X3_passOneMinute_x9_eq x).trans (if_pos c28))]) rfl K33_2
      · refine j_iconst (v := 1) C dX3_passOneMinute_31 (by decide) ?_
        refine j_istore_n C [(1, .int 1), (2, .int 2), (0, .ref (ad 0))] dX3_passOneMinute_32 (by decide) rfl ?_
        refine j_lv [1, 0, 2] [(2, .int 2), (1, .int 1), (0, .ref (ad 0))] rfl ?_
        subst hw0 hw1 hw2 hw3 hw4 hw5 hw6 hw7 hw8 hw9 hw10 hw11 hw12 hw13 hw14 hw15 hw16; exact j_eq rfl (by rw [show f_X3_passOneMinute_x9 x = 1 from ((f_X3_passOneMinute_x9_eq x).trans (if_neg c28))]) rfl K33_2
    refine j_if_eq (tgt := 33) C dX3_passOneMinute_28 (by decide) (fun c28 => ?_) (fun c28 => ?_)
    · subst hw0 hw1 hw2 hw3 hw4 hw5 hw6 hw7 hw8 hw9 hw10; exact j_eq rfl (by rw [show f_X3_passOneMinute_x6 x = (f_X3_passOneMinute_x3 x) from ((f_X3_passOneMinute_x6_eq x).trans (if_pos c28))]) rfl K33_1
    · refine j_iconst (v := 1) C dX3_passOneMinute_31 (by decide) ?_
      refine j_istore_n C [(1, .int 1), (2, .int 1), (0, .ref (ad 0))] dX3_passOneMinute_32 (by decide) rfl ?_
      refine j_lv [1, 0, 2] [(2, .int 1), (1, .int 1), (0, .ref (ad 0))] rfl ?_
      subst hw0 hw1 hw2 hw3 hw4 hw5 hw6 hw7 hw8 hw9 hw10; exact j_eq rfl (by rw [show f_X3_passOneMinute_x6 x = 1 from ((f_X3_passOneMinute_x6_eq x).trans (if_neg c28))]) rfl K33_1
  refine j_if_eq (tgt := 33) C dX3_passOneMinute_28 (by decide) (fun c28 => ?_) (fun c28 => ?_)
  · subst hw0 hw1 hw2 hw3 hw4; exact j_eq rfl (by rw [show f_X3_passOneMinute_x3 x = 0 from ((f_X3_passOneMinute_x3_eq x).trans (if_pos c28))]) rfl K33
  · refine j_iconst (v := 1) C dX3_passOneMinute_31 (by decide) ?_
    refine j_istore_n C [(1, .int 1), (2, .int 0), (0, .ref (ad 0))] dX3_passOneMinute_32 (by decide) rfl ?_
    refine j_lv [1, 0, 2] [(2, .int 0), (1, .int 1), (0, .ref (ad 0))] rfl ?_
    subst hw0 hw1 hw2 hw3 hw4; exact j_eq rfl (by rw [show f_X3_passOneMinute_x3 x = 1 from ((f_X3_passOneMinute_x3_eq x).trans (if_neg c28))]) rfl K33
/-- a minute of a station -/
noncomputable def passOne (x : StV) : StV := (f_X3_passOneMinute_g x, x.2.1, pick4 (f_X3_passOneMinute_v0 x) (f_X3_passOneMinute_v1 x) (f_X3_passOneMinute_v2 x) (f_X3_passOneMinute_v3 x), pick4 (f_X3_passOneMinute_f0 x) (f_X3_passOneMinute_f1 x) (f_X3_passOneMinute_f2 x) (f_X3_passOneMinute_f3 x))
noncomputable def passOneR (x : StV) : Int32 := f_X3_passOneMinute_r x
theorem m_passOne (l : Launch) (G : GG) (ad : Nat → Nat) (x : StV) : CtI l yX3_passOneMinute cX3_passOneMinute 3 (some .boolean) (RM 4) G [.ref (ad 0)] (cSt G ad x) (passOneR x) (cSt G ad (passOne x)) := m_X3_passOneMinute l G ad x
noncomputable def passN (x : StV) : Nat → StV
  | 0 => x
  | n + 1 => passOne (passN x n)
/-- minutes up to the first overrun -/
noncomputable def noLoud (x : StV) : Nat → Int32 × StV
  | 0 => (1, x)
  | n + 1 => if passOneR x = 0 then noLoud (passOne x) n else (0, passOne x)
set_option maxRecDepth 100000 in
set_option maxHeartbeats 4000000 in
theorem m_X3_passMinutes (l : Launch) (G : GG) (ad : Nat → Nat) (x : StV) (k : Int32)  : CtI l yX3_passMinutes cX3_passMinutes 3 (some .int) (RM 5) G [.ref (ad 0), .int k] (cSt G ad x) (if f_X4_arePassable_r k = 0 then -2 else (passN x k.toNatClampNeg).1 2) (cSt G ad (if f_X4_arePassable_r k = 0 then x else passN x k.toNatClampNeg)) := by
  refine ct_I RX3 [(0, .ref (ad 0)), (1, .int k)] rfl (by decide +kernel) (Nat.le_of_ble_eq_true rfl) rfl ?_
  intro p e s m args below meth c A C hr hk hnm
  generalize hQ : (MQ below (PostI G A (if f_X4_arePassable_r k = 0 then -2 else (passN x k.toNatClampNeg).1 2) (cSt G ad (if f_X4_arePassable_r k = 0 then x else passN x k.toNatClampNeg))) args s (RM 5).cells (RM 5).slots A) = Q
  refine j_w (fl [cSt G ad x]) (fl_one _).symm ?_
  refine j_iload_n C dX3_passMinutes_0 1 rfl ?_
  refine j_pureSN_i (r := f_X4_arePassable_r k) C (m_X4_arePassable l G k) 1 kw_253 (List.mem_of_getElem? (i := 5) rfl) kw_1 kw_252 (by decide +kernel) ⟨(Nat.le_of_ble_eq_true rfl), (Nat.le_of_ble_eq_true rfl)⟩ rfl rfl (Nat.le_of_ble_eq_true rfl) dX3_passMinutes_1 ⟨(Nat.le_of_ble_eq_true rfl), (Nat.le_of_ble_eq_true rfl)⟩ ?_
  refine j_if_ne (tgt := 10) C dX3_passMinutes_4 (by decide) (fun c4 => ?_) (fun c4 => ?_)
  · refine j_iconst (v := 0) C dX3_passMinutes_10 (by decide) ?_
    refine j_istore_n C [(2, .int 0), (0, .ref (ad 0)), (1, .int k)] dX3_passMinutes_11 (by decide) rfl ?_
    have L2 : ∀ (n i : Nat), i + n = k.toNatClampNeg → WJ p l e (RM 5) s m args below meth c G A 3 0 0 Q (fl [cSt G ad (passN x i)]) [(2, .int (nI i)), (0, .ref (ad 0)), (1, .int k)] 12 [] := by
      intro n
      induction n with
      | zero =>
        intro i hi
        have hN : i = k.toNatClampNeg := by omega
        subst hN
        refine j_iload_n C dX3_passMinutes_12 0 rfl ?_
        refine j_iload_n C dX3_passMinutes_13 2 rfl ?_
        refine j_icmp_ge (tgt := 28) C dX3_passMinutes_14 (by decide) (fun c14 => ?_) (fun h => absurd (le_cl k (cl_31 k)) h)
        refine j_aload_n C dX3_passMinutes_28 1 rfl ?_
        refine j_w (fl [[oS (ad 0) (ad 1) (ad 2) ((passN x k.toNatClampNeg).1)], [aI G (ad 1) 7 ((passN x k.toNatClampNeg).2.1)], [aD G (ad 2) 4 (fun k => some (ad (3 + 2 * k)))], cDrs G ad (passN x k.toNatClampNeg).2.2.1 (passN x k.toNatClampNeg).2.2.2]) rfl ?_
        refine j_get C kin3 rfl 0 rfl 2 (by decide) kw_82 rfl (v := .int (((passN x k.toNatClampNeg).1) 2)) rfl dX3_passMinutes_29 ?_
        refine j_w (fl [cSt G ad (passN x k.toNatClampNeg)]) rfl ?_
        refine j_w (cSt G ad (passN x k.toNatClampNeg)) (fl_one _) ?_
        subst hQ; exact j_iret C hr hk (show ((passN x k.toNatClampNeg).1) 2 = (if f_X4_arePassable_r k = 0 then -2 else (passN x k.toNatClampNeg).1 2) from (if_neg c4).symm) (by rw [show (if f_X4_arePassable_r k = 0 then x else passN x k.toNatClampNeg) = (passN x k.toNatClampNeg) from (if_neg c4)]) dX3_passMinutes_32
      | succ n ih =>
        intro i hi
        have hlt : i < k.toNatClampNeg := by omega
        refine j_iload_n C dX3_passMinutes_12 0 rfl ?_
        refine j_iload_n C dX3_passMinutes_13 2 rfl ?_
        refine j_icmp_ge (tgt := 28) C dX3_passMinutes_14 (by decide) (fun h => absurd h (nle_cl hlt)) (fun c14 => ?_)
        refine j_aload_n C dX3_passMinutes_17 1 rfl ?_
        refine j_callV_i (r := passOneR (passN x i)) (wc' := cSt G ad (passOne (passN x i))) C (m_passOne l G ad (passN x i)) rfl 0 rfl 0 (gV kw_254 kw_255 kw_256 kw_2 kw_257) (by decide +kernel) ⟨(Nat.le_of_ble_eq_true rfl), (Nat.le_of_ble_eq_true rfl)⟩ rfl rfl (Nat.le_of_ble_eq_true rfl) dX3_passMinutes_18 ⟨(Nat.le_of_ble_eq_true rfl), (Nat.le_of_ble_eq_true rfl)⟩ (fl []) (fl [cSt G ad (passOne (passN x i))]) (bperm (bs' := [cSt G ad (passN x i)]) [0] 1 rfl (by decide +kernel) rfl) rfl ?_
        refine j_pop C dX3_passMinutes_21 rfl ?_
        refine j_iinc (v := nI (i + 1)) C [(2, .int (nI (i + 1))), (0, .ref (ad 0)), (1, .int k)] dX3_passMinutes_22 (k := 0) rfl (nI_1 i) (by decide) rfl ?_
        refine j_goto (tgt := 12) C dX3_passMinutes_25 (by decide) ?_
        exact j_eq (by rw [show (passN x (i + 1)) = passOne (passN x i) from rfl]) rfl rfl (ih (i + 1) (by omega))
    exact j_eq (by rw [show (passN x 0) = x from rfl]) (by rw [show nI 0 = 0 from rfl]) rfl (L2 k.toNatClampNeg 0 (by omega))
  · refine j_bipush (v := (-2)) C dX3_passMinutes_7 (by decide) ?_
    refine j_w (cSt G ad x) (fl_one _) ?_
    subst hQ; exact j_iret C hr hk (show (-2) = (if f_X4_arePassable_r k = 0 then -2 else (passN x k.toNatClampNeg).1 2) from (if_pos c4).symm) (by rw [show (if f_X4_arePassable_r k = 0 then x else passN x k.toNatClampNeg) = x from (if_pos c4)]) dX3_passMinutes_9
set_option maxRecDepth 100000 in
set_option maxHeartbeats 4000000 in
theorem m_X3_passesWithoutOverrun (l : Launch) (G : GG) (ad : Nat → Nat) (x : StV) (k : Int32)  : CtI l yX3_passesWithoutOverrun cX3_passesWithoutOverrun 3 (some .boolean) (RM 5) G [.ref (ad 0), .int k] (cSt G ad x) ((noLoud x k.toNatClampNeg).1) (cSt G ad ((noLoud x k.toNatClampNeg).2)) := by
  refine ct_I RX3 [(0, .ref (ad 0)), (1, .int k)] rfl (by decide +kernel) (Nat.le_of_ble_eq_true rfl) rfl ?_
  intro p e s m args below meth c A C hr hk hnm
  generalize hQ : (MQ below (PostI G A ((noLoud x k.toNatClampNeg).1) (cSt G ad ((noLoud x k.toNatClampNeg).2))) args s (RM 5).cells (RM 5).slots A) = Q
  refine j_w (fl [cSt G ad x]) (fl_one _).symm ?_
  refine j_iconst (v := 0) C dX3_passesWithoutOverrun_0 (by decide) ?_
  refine j_istore_n C [(2, .int 0), (0, .ref (ad 0)), (1, .int k)] dX3_passesWithoutOverrun_1 (by decide) rfl ?_
  have L1 : ∀ (n i : Nat), i + n = k.toNatClampNeg → noLoud (passN x i) n = noLoud x k.toNatClampNeg → WJ p l e (RM 5) s m args below meth c G A 3 0 0 Q (fl [cSt G ad (passN x i)]) [(2, .int (nI i)), (0, .ref (ad 0)), (1, .int k)] 2 [] := by
    intro n
    induction n with
    | zero =>
      intro i hi hx
      have hN : i = k.toNatClampNeg := by omega
      subst hN
      refine j_iload_n C dX3_passesWithoutOverrun_2 0 rfl ?_
      refine j_iload_n C dX3_passesWithoutOverrun_3 2 rfl ?_
      refine j_icmp_ge (tgt := 22) C dX3_passesWithoutOverrun_4 (by decide) (fun c4 => ?_) (fun h => absurd (le_cl k (cl_31 k)) h)
      refine j_iconst (v := 1) C dX3_passesWithoutOverrun_22 (by decide) ?_
      refine j_w (cSt G ad (passN x k.toNatClampNeg)) (fl_one _) ?_
      subst hQ; exact j_zret C hr hk rfl (show 1 = ((noLoud x k.toNatClampNeg).1) from (by rw [← hx]; rfl)) (by rw [show ((noLoud x k.toNatClampNeg).2) = (passN x k.toNatClampNeg) from (by rw [← hx]; rfl)]) dX3_passesWithoutOverrun_23
    | succ n ih =>
      intro i hi hx
      have hlt : i < k.toNatClampNeg := by omega
      refine j_iload_n C dX3_passesWithoutOverrun_2 0 rfl ?_
      refine j_iload_n C dX3_passesWithoutOverrun_3 2 rfl ?_
      refine j_icmp_ge (tgt := 22) C dX3_passesWithoutOverrun_4 (by decide) (fun h => absurd h (nle_cl hlt)) (fun c4 => ?_)
      refine j_aload_n C dX3_passesWithoutOverrun_7 1 rfl ?_
      refine j_callV_i (r := passOneR (passN x i)) (wc' := cSt G ad (passOne (passN x i))) C (m_passOne l G ad (passN x i)) rfl 0 rfl 0 (gV kw_254 kw_255 kw_256 kw_2 kw_257) (by decide +kernel) ⟨(Nat.le_of_ble_eq_true rfl), (Nat.le_of_ble_eq_true rfl)⟩ rfl rfl (Nat.le_of_ble_eq_true rfl) dX3_passesWithoutOverrun_8 ⟨(Nat.le_of_ble_eq_true rfl), (Nat.le_of_ble_eq_true rfl)⟩ (fl []) (fl [cSt G ad (passOne (passN x i))]) (bperm (bs' := [cSt G ad (passN x i)]) [0] 1 rfl (by decide +kernel) rfl) rfl ?_
      refine j_if_eq (tgt := 16) C dX3_passesWithoutOverrun_11 (by decide) (fun c11 => ?_) (fun c11 => ?_)
      · refine j_iinc (v := nI (i + 1)) C [(2, .int (nI (i + 1))), (0, .ref (ad 0)), (1, .int k)] dX3_passesWithoutOverrun_16 (k := 0) rfl (nI_1 i) (by decide) rfl ?_
        refine j_goto (tgt := 2) C dX3_passesWithoutOverrun_19 (by decide) ?_
        exact j_eq (by rw [show (passN x (i + 1)) = passOne (passN x i) from rfl]) rfl rfl (ih (i + 1) (by omega) (by rw [noLoud, if_pos c11] at hx; exact hx))
      · refine j_iconst (v := 0) C dX3_passesWithoutOverrun_14 (by decide) ?_
        refine j_w (cSt G ad (passOne (passN x i))) (fl_one _) ?_
        subst hQ; exact j_zret C hr hk rfl (show 0 = ((noLoud x k.toNatClampNeg).1) from (by rw [← hx, noLoud, if_neg c11])) (by rw [show ((noLoud x k.toNatClampNeg).2) = (passOne (passN x i)) from (by rw [← hx, noLoud, if_neg c11])]) dX3_passesWithoutOverrun_15
  exact j_eq (by rw [show (passN x 0) = x from rfl]) (by rw [show nI 0 = 0 from rfl]) rfl (L1 k.toNatClampNeg 0 (by omega) rfl)
end
section
/-! THE CHANGES OF A STATION -/
noncomputable def f_X3_changeSetting_x (x : StV) (k : Int32) (y : Int32) : StV := (if k < 0 then x else (if k < 7 then (if y < vLeast k.toNatClampNeg then x else (if y ≤ vMost k.toNatClampNeg then (x.1, upd x.2.1 k.toNatClampNeg y, x.2.2.1, x.2.2.2) else x)) else x))
noncomputable def f_X3_changeSetting_r (x : StV) (k : Int32) (y : Int32) : Int32 := (if k < 0 then (-2) else (if k < 7 then (if y < vLeast k.toNatClampNeg then (-2) else (if y ≤ vMost k.toNatClampNeg then x.2.1 k.toNatClampNeg else (-2))) else (-2)))
set_option maxRecDepth 100000 in
set_option maxHeartbeats 4000000 in
theorem m_X3_changeSetting (l : Launch) (G : GG) (ad : Nat → Nat) (x : StV) (k : Int32) (y : Int32)  : CtI l yX3_changeSetting cX3_changeSetting 4 (some .int) (RM 0) G [.ref (ad 0), .int k, .int y] (cSt G ad x) (f_X3_changeSetting_r x k y) (cSt G ad (f_X3_changeSetting_x x k y)) := by
  refine ct_I RX3 [(0, .ref (ad 0)), (1, .int k), (2, .int y)] rfl (by decide +kernel) (Nat.le_of_ble_eq_true rfl) rfl ?_
  intro p e s m args below meth c A C hr hk hnm
  generalize hQ : (MQ below (PostI G A (f_X3_changeSetting_r x k y) (cSt G ad (f_X3_changeSetting_x x k y))) args s (RM 0).cells (RM 0).slots A) = Q
  refine j_w (fl [cSt G ad x]) (fl_one _).symm ?_
  refine j_iload_n C dX3_changeSetting_0 1 rfl ?_
  refine j_if_lt (tgt := 10) C dX3_changeSetting_1 (by decide) (fun c1 => ?_) (fun c1 => ?_)
  · refine j_bipush (v := (-2)) C dX3_changeSetting_10 (by decide) ?_
    refine j_w (cSt G ad x) (fl_one _) ?_
    subst hQ; exact j_iret C hr hk ((show f_X3_changeSetting_r x k y = (-2) from (if_pos c1)).symm) (by rw [show f_X3_changeSetting_x x k y = x from (if_pos c1)]) dX3_changeSetting_12
  · refine j_iload_n C dX3_changeSetting_4 1 rfl ?_
    refine j_bipush (v := 7) C dX3_changeSetting_5 (by decide) ?_
    refine j_icmp_lt (tgt := 13) C dX3_changeSetting_7 (by decide) (fun c7 => ?_) (fun c7 => ?_)
    · refine j_iload_n C dX3_changeSetting_13 2 rfl ?_
      refine j_gstLN C (List.mem_of_getElem? (i := 9) rfl) dX3_changeSetting_14 ?_
      refine j_iload_n C dX3_changeSetting_17 1 rfl ?_
      refine j_stiL C (vin_lt (N := 7) rfl c1 c7) (v := vLeast k.toNatClampNeg) rfl dX3_changeSetting_18 ?_
      refine j_icmp_lt (tgt := 31) C dX3_changeSetting_19 (by decide) (fun c19 => ?_) (fun c19 => ?_)
      · refine j_bipush (v := (-2)) C dX3_changeSetting_31 (by decide) ?_
        refine j_w (cSt G ad x) (fl_one _) ?_
        subst hQ; exact j_iret C hr hk ((show f_X3_changeSetting_r x k y = (-2) from ((if_neg c1).trans ((if_pos c7).trans (if_pos c19)))).symm) (by rw [show f_X3_changeSetting_x x k y = x from ((if_neg c1).trans ((if_pos c7).trans (if_pos c19)))]) dX3_changeSetting_33
      · refine j_iload_n C dX3_changeSetting_22 2 rfl ?_
        refine j_gstMN C (List.mem_of_getElem? (i := 10) rfl) dX3_changeSetting_23 ?_
        refine j_iload_n C dX3_changeSetting_26 1 rfl ?_
        refine j_stiM C (vin_lt (N := 7) rfl c1 c7) (v := vMost k.toNatClampNeg) rfl dX3_changeSetting_27 ?_
        refine j_icmp_le (tgt := 34) C dX3_changeSetting_28 (by decide) (fun c28 => ?_) (fun c28 => ?_)
        · refine j_aload_n C dX3_changeSetting_34 0 rfl ?_
          refine j_w (fl [[oS (ad 0) (ad 1) (ad 2) x.1], [aI G (ad 1) 7 x.2.1], [aD G (ad 2) 4 (fun k => some (ad (3 + 2 * k)))], cDrs G ad x.2.2.1 x.2.2.2]) rfl ?_
          refine j_get C kin3 rfl 0 rfl 0 (by decide) kw_78 rfl (v := .ref (ad 1)) rfl dX3_changeSetting_35 ?_
          refine j_iload_n C dX3_changeSetting_38 1 rfl ?_
          refine j_iald C 1 rfl (vin_lt (N := 7) rfl c1 c7) (v := x.2.1 k.toNatClampNeg) rfl dX3_changeSetting_39 ?_
          refine j_istore_n C [(3, .int (x.2.1 k.toNatClampNeg)), (0, .ref (ad 0)), (1, .int k), (2, .int y)] dX3_changeSetting_40 (by decide) rfl ?_
          refine j_aload_n C dX3_changeSetting_41 1 rfl ?_
          refine j_get C kin3 rfl 0 rfl 0 (by decide) kw_78 rfl (v := .ref (ad 1)) rfl dX3_changeSetting_42 ?_
          refine j_iload_n C dX3_changeSetting_45 2 rfl ?_
          refine j_iload_n C dX3_changeSetting_46 3 rfl ?_
          refine j_iast C 1 rfl (vin_lt (N := 7) rfl c1 c7) (fl [[oS (ad 0) (ad 1) (ad 2) x.1], [aI G (ad 1) 7 (upd x.2.1 k.toNatClampNeg y)], [aD G (ad 2) 4 (fun k => some (ad (3 + 2 * k)))], cDrs G ad x.2.2.1 x.2.2.2]) rfl dX3_changeSetting_47 ?_
          refine j_iload_n C dX3_changeSetting_48 0 rfl ?_
          refine j_w (fl [cSt G ad (x.1, upd x.2.1 k.toNatClampNeg y, x.2.2.1, x.2.2.2)]) rfl ?_
          refine j_w (cSt G ad (x.1, upd x.2.1 k.toNatClampNeg y, x.2.2.1, x.2.2.2)) (fl_one _) ?_
          subst hQ; exact j_iret C hr hk ((show f_X3_changeSetting_r x k y = x.2.1 k.toNatClampNeg from ((if_neg c1).trans ((if_pos c7).trans ((if_neg c19).trans (if_pos c28))))).symm) (by rw [show f_X3_changeSetting_x x k y = (x.1, upd x.2.1 k.toNatClampNeg y, x.2.2.1, x.2.2.2) from ((if_neg c1).trans ((if_pos c7).trans ((if_neg c19).trans (if_pos c28))))]) dX3_changeSetting_49
        · refine j_bipush (v := (-2)) C dX3_changeSetting_31 (by decide) ?_
          refine j_w (cSt G ad x) (fl_one _) ?_
          subst hQ; exact j_iret C hr hk ((show f_X3_changeSetting_r x k y = (-2) from ((if_neg c1).trans ((if_pos c7).trans ((if_neg c19).trans (if_neg c28))))).symm) (by rw [show f_X3_changeSetting_x x k y = x from ((if_neg c1).trans ((if_pos c7).trans ((if_neg c19).trans (if_neg c28))))]) dX3_changeSetting_33
    · refine j_bipush (v := (-2)) C dX3_changeSetting_10 (by decide) ?_
      refine j_w (cSt G ad x) (fl_one _) ?_
      subst hQ; exact j_iret C hr hk ((show f_X3_changeSetting_r x k y = (-2) from ((if_neg c1).trans (if_neg c7))).symm) (by rw [show f_X3_changeSetting_x x k y = x from ((if_neg c1).trans (if_neg c7))]) dX3_changeSetting_12
noncomputable def f_X3_changeStream_x (x : StV) (k : Int32) (y : Int32) (z : Int32) : StV := (if f_X4_isDrive_r k = 0 then x else (if y < 1 then x else (if 60 < y then x else (if z < 0 then x else (if z ≤ 20 then (x.1, x.2.1, (updF x.2.2.1 k.toNatClampNeg (upd (upd ((x.2.2.1 k.toNatClampNeg).1) 8 y) 9 z, (x.2.2.1 k.toNatClampNeg).2)), (updF x.2.2.2 k.toNatClampNeg (x.2.2.2 k.toNatClampNeg))) else x)))))
noncomputable def f_X3_changeStream_r (x : StV) (k : Int32) (y : Int32) (z : Int32) : Int32 := (if f_X4_isDrive_r k = 0 then (-1) else (if y < 1 then (-2) else (if 60 < y then (-2) else (if z < 0 then (-2) else (if z ≤ 20 then (x.2.2.1 k.toNatClampNeg).1 9 else (-2))))))
set_option maxRecDepth 100000 in
set_option maxHeartbeats 4000000 in
theorem m_X3_changeStream (l : Launch) (G : GG) (ad : Nat → Nat) (x : StV) (k : Int32) (y : Int32) (z : Int32)  : CtI l yX3_changeStream cX3_changeStream 5 (some .int) (RM 1) G [.ref (ad 0), .int k, .int y, .int z] (cSt G ad x) (f_X3_changeStream_r x k y z) (cSt G ad (f_X3_changeStream_x x k y z)) := by
  refine ct_I RX3 [(0, .ref (ad 0)), (1, .int k), (2, .int y), (3, .int z)] rfl (by decide +kernel) (Nat.le_of_ble_eq_true rfl) rfl ?_
  intro p e s m args below meth c A C hr hk hnm
  generalize hQ : (MQ below (PostI G A (f_X3_changeStream_r x k y z) (cSt G ad (f_X3_changeStream_x x k y z))) args s (RM 1).cells (RM 1).slots A) = Q
  refine j_w (fl [cSt G ad x]) (fl_one _).symm ?_
  refine j_iload_n C dX3_changeStream_0 1 rfl ?_
  refine j_pureSN_i (r := f_X4_isDrive_r k) C (m_X4_isDrive l G k) 1 kw_194 (List.mem_of_getElem? (i := 2) rfl) kw_1 kw_193 (by decide +kernel) ⟨(Nat.le_of_ble_eq_true rfl), (Nat.le_of_ble_eq_true rfl)⟩ rfl rfl (Nat.le_of_ble_eq_true rfl) dX3_changeStream_1 ⟨(Nat.le_of_ble_eq_true rfl), (Nat.le_of_ble_eq_true rfl)⟩ ?_
  refine j_if_ne (tgt := 9) C dX3_changeStream_4 (by decide) (fun c4 => ?_) (fun c4 => ?_)
  · refine j_iload_n C dX3_changeStream_9 2 rfl ?_
    refine j_iconst (v := 1) C dX3_changeStream_10 (by decide) ?_
    refine j_icmp_lt (tgt := 30) C dX3_changeStream_11 (by decide) (fun c11 => ?_) (fun c11 => ?_)
    · refine j_bipush (v := (-2)) C dX3_changeStream_30 (by decide) ?_
      refine j_w (cSt G ad x) (fl_one _) ?_
      subst hQ; exact j_iret C hr hk ((show f_X3_changeStream_r x k y z = (-2) from ((if_neg c4).trans (if_pos c11))).symm) (by rw [show f_X3_changeStream_x x k y z = x from ((if_neg c4).trans (if_pos c11))]) dX3_changeStream_32
    · refine j_iload_n C dX3_changeStream_14 2 rfl ?_
      refine j_bipush (v := 60) C dX3_changeStream_15 (by decide) ?_
      refine j_icmp_gt (tgt := 30) C dX3_changeStream_17 (by decide) (fun c17 => ?_) (fun c17 => ?_)
      · refine j_bipush (v := (-2)) C dX3_changeStream_30 (by decide) ?_
        refine j_w (cSt G ad x) (fl_one _) ?_
        subst hQ; exact j_iret C hr hk ((show f_X3_changeStream_r x k y z = (-2) from ((if_neg c4).trans ((if_neg c11).trans (if_pos c17)))).symm) (by rw [show f_X3_changeStream_x x k y z = x from ((if_neg c4).trans ((if_neg c11).trans (if_pos c17)))]) dX3_changeStream_32
      · refine j_iload_n C dX3_changeStream_20 3 rfl ?_
        refine j_if_lt (tgt := 30) C dX3_changeStream_21 (by decide) (fun c21 => ?_) (fun c21 => ?_)
        · refine j_bipush (v := (-2)) C dX3_changeStream_30 (by decide) ?_
          refine j_w (cSt G ad x) (fl_one _) ?_
          subst hQ; exact j_iret C hr hk ((show f_X3_changeStream_r x k y z = (-2) from ((if_neg c4).trans ((if_neg c11).trans ((if_neg c17).trans (if_pos c21))))).symm) (by rw [show f_X3_changeStream_x x k y z = x from ((if_neg c4).trans ((if_neg c11).trans ((if_neg c17).trans (if_pos c21))))]) dX3_changeStream_32
        · refine j_iload_n C dX3_changeStream_24 3 rfl ?_
          refine j_bipush (v := 20) C dX3_changeStream_25 (by decide) ?_
          refine j_icmp_le (tgt := 33) C dX3_changeStream_27 (by decide) (fun c27 => ?_) (fun c27 => ?_)
          · refine j_aload_n C dX3_changeStream_33 0 rfl ?_
            refine j_w (fl [[oS (ad 0) (ad 1) (ad 2) x.1], [aI G (ad 1) 7 x.2.1], [aD G (ad 2) 4 (fun k => some (ad (3 + 2 * k)))], cDrs G ad x.2.2.1 x.2.2.2]) rfl ?_
            refine j_get C kin3 rfl 0 rfl 1 (by decide) kw_80 rfl (v := .ref (ad 2)) rfl dX3_changeStream_34 ?_
            refine j_iload_n C dX3_changeStream_37 1 rfl ?_
            refine j_perm (fl [cDrs G ad x.2.2.1 x.2.2.2, [oS (ad 0) (ad 1) (ad 2) x.1], [aI G (ad 1) 7 x.2.1], [aD G (ad 2) 4 (fun k => some (ad (3 + 2 * k)))]]) (bperm [3, 0, 1, 2] 4 rfl (by decide +kernel) rfl) ?_
            refine j_perm (fl [[oD (ad (3 + 2 * k.toNatClampNeg)) (ad (4 + 2 * k.toNatClampNeg)) (x.2.2.1 k.toNatClampNeg)], [aB G (ad (4 + 2 * k.toNatClampNeg)) (x.2.2.2 k.toNatClampNeg)], cRs G ad x.2.2.1 x.2.2.2 k.toNatClampNeg, [oS (ad 0) (ad 1) (ad 2) x.1], [aI G (ad 1) 7 x.2.1], [aD G (ad 2) 4 (fun k => some (ad (3 + 2 * k)))]]) (open_at (openDrs G ad x.2.2.1 x.2.2.2 k.toNatClampNeg (vin_nat (lt_drive c4)))) ?_
            refine j_perm (fl [[oD (ad (3 + 2 * k.toNatClampNeg)) (ad (4 + 2 * k.toNatClampNeg)) (x.2.2.1 k.toNatClampNeg)], [aB G (ad (4 + 2 * k.toNatClampNeg)) (x.2.2.2 k.toNatClampNeg)], [oS (ad 0) (ad 1) (ad 2) x.1], [aI G (ad 1) 7 x.2.1], [aD G (ad 2) 4 (fun k => some (ad (3 + 2 * k)))], cRs G ad x.2.2.1 x.2.2.2 k.toNatClampNeg]) (bperm [0, 1, 3, 4, 5, 2] 6 rfl (by decide +kernel) rfl) ?_
            refine j_aaldD C 4 rfl (lt_drive c4) (y := ad (3 + 2 * k.toNatClampNeg)) rfl dX3_changeStream_38 ?_
            refine j_get C kin0 rfl 0 rfl 9 (by decide) kw_58 rfl (v := .int ((x.2.2.1 k.toNatClampNeg).1 9)) rfl dX3_changeStream_39 ?_
            refine j_istore C [(4, .int ((x.2.2.1 k.toNatClampNeg).1 9)), (0, .ref (ad 0)), (1, .int k), (2, .int y), (3, .int z)] dX3_changeStream_42 (by decide) rfl ?_
            refine j_aload_n C dX3_changeStream_44 1 rfl ?_
            refine j_get C kin3 rfl 2 rfl 1 (by decide) kw_80 rfl (v := .ref (ad 2)) rfl dX3_changeStream_45 ?_
            refine j_iload_n C dX3_changeStream_48 2 rfl ?_
            refine j_aaldD C 4 rfl (lt_drive c4) (y := ad (3 + 2 * k.toNatClampNeg)) rfl dX3_changeStream_49 ?_
            refine j_iload_n C dX3_changeStream_50 3 rfl ?_
            refine j_put C kin0 rfl 0 rfl 8 (by decide) kw_55 rfl tyX0 tyX0_ok nmX0 rfl rfl rfl (Nat.le_of_ble_eq_true rfl) (fl [[oD (ad (3 + 2 * k.toNatClampNeg)) (ad (4 + 2 * k.toNatClampNeg)) (upd ((x.2.2.1 k.toNatClampNeg).1) 8 y, (x.2.2.1 k.toNatClampNeg).2)], [aB G (ad (4 + 2 * k.toNatClampNeg)) (x.2.2.2 k.toNatClampNeg)], [oS (ad 0) (ad 1) (ad 2) x.1], [aI G (ad 1) 7 x.2.1], [aD G (ad 2) 4 (fun k => some (ad (3 + 2 * k)))], cRs G ad x.2.2.1 x.2.2.2 k.toNatClampNeg]) rfl dX3_changeStream_51 ?_
            refine j_aload_n C dX3_changeStream_54 1 rfl ?_
            refine j_get C kin3 rfl 2 rfl 1 (by decide) kw_80 rfl (v := .ref (ad 2)) rfl dX3_changeStream_55 ?_
            refine j_iload_n C dX3_changeStream_58 2 rfl ?_
            refine j_aaldD C 4 rfl (lt_drive c4) (y := ad (3 + 2 * k.toNatClampNeg)) rfl dX3_changeStream_59 ?_
            refine j_iload_n C dX3_changeStream_60 4 rfl ?_
            refine j_put C kin0 rfl 0 rfl 9 (by decide) kw_58 rfl tyX0 tyX0_ok nmX0 rfl rfl rfl (Nat.le_of_ble_eq_true rfl) (fl [[oD (ad (3 + 2 * k.toNatClampNeg)) (ad (4 + 2 * k.toNatClampNeg)) (upd (upd ((x.2.2.1 k.toNatClampNeg).1) 8 y) 9 z, (x.2.2.1 k.toNatClampNeg).2)], [aB G (ad (4 + 2 * k.toNatClampNeg)) (x.2.2.2 k.toNatClampNeg)], [oS (ad 0) (ad 1) (ad 2) x.1], [aI G (ad 1) 7 x.2.1], [aD G (ad 2) 4 (fun k => some (ad (3 + 2 * k)))], cRs G ad x.2.2.1 x.2.2.2 k.toNatClampNeg]) rfl dX3_changeStream_61 ?_
            refine j_iload C dX3_changeStream_64 0 rfl ?_
            refine j_perm (fl [[oD (ad (3 + 2 * k.toNatClampNeg)) (ad (4 + 2 * k.toNatClampNeg)) (upd (upd ((x.2.2.1 k.toNatClampNeg).1) 8 y) 9 z, (x.2.2.1 k.toNatClampNeg).2)], [aB G (ad (4 + 2 * k.toNatClampNeg)) (x.2.2.2 k.toNatClampNeg)], cRs G ad x.2.2.1 x.2.2.2 k.toNatClampNeg, [oS (ad 0) (ad 1) (ad 2) x.1], [aI G (ad 1) 7 x.2.1], [aD G (ad 2) 4 (fun k => some (ad (3 + 2 * k)))]]) (bperm [0, 1, 5, 2, 3, 4] 6 rfl (by decide +kernel) rfl) ?_
            refine j_perm (fl [cDrs G ad (updF x.2.2.1 k.toNatClampNeg (upd (upd ((x.2.2.1 k.toNatClampNeg).1) 8 y) 9 z, (x.2.2.1 k.toNatClampNeg).2)) (updF x.2.2.2 k.toNatClampNeg (x.2.2.2 k.toNatClampNeg)), [oS (ad 0) (ad 1) (ad 2) x.1], [aI G (ad 1) 7 x.2.1], [aD G (ad 2) 4 (fun k => some (ad (3 + 2 * k)))]]) (shut_at (bs := [[oD (ad (3 + 2 * k.toNatClampNeg)) (ad (4 + 2 * k.toNatClampNeg)) (upd (upd ((x.2.2.1 k.toNatClampNeg).1) 8 y) 9 z, (x.2.2.1 k.toNatClampNeg).2)], [aB G (ad (4 + 2 * k.toNatClampNeg)) (x.2.2.2 k.toNatClampNeg)], cRs G ad x.2.2.1 x.2.2.2 k.toNatClampNeg]) (closeDrs G ad x.2.2.1 x.2.2.2 k.toNatClampNeg (vin_nat (lt_drive c4)) _ _)) ?_
            refine j_perm (fl [[oS (ad 0) (ad 1) (ad 2) x.1], [aI G (ad 1) 7 x.2.1], [aD G (ad 2) 4 (fun k => some (ad (3 + 2 * k)))], cDrs G ad (updF x.2.2.1 k.toNatClampNeg (upd (upd ((x.2.2.1 k.toNatClampNeg).1) 8 y) 9 z, (x.2.2.1 k.toNatClampNeg).2)) (updF x.2.2.2 k.toNatClampNeg (x.2.2.2 k.toNatClampNeg))]) (bperm [1, 2, 3, 0] 4 rfl (by decide +kernel) rfl) ?_
            refine j_w (fl [cSt G ad (x.1, x.2.1, (updF x.2.2.1 k.toNatClampNeg (upd (upd ((x.2.2.1 k.toNatClampNeg).1) 8 y) 9 z, (x.2.2.1 k.toNatClampNeg).2)), (updF x.2.2.2 k.toNatClampNeg (x.2.2.2 k.toNatClampNeg)))]) rfl ?_
            refine j_w (cSt G ad (x.1, x.2.1, (updF x.2.2.1 k.toNatClampNeg (upd (upd ((x.2.2.1 k.toNatClampNeg).1) 8 y) 9 z, (x.2.2.1 k.toNatClampNeg).2)), (updF x.2.2.2 k.toNatClampNeg (x.2.2.2 k.toNatClampNeg)))) (fl_one _) ?_
            subst hQ; exact j_iret C hr hk ((show f_X3_changeStream_r x k y z = (x.2.2.1 k.toNatClampNeg).1 9 from ((if_neg c4).trans ((if_neg c11).trans ((if_neg c17).trans ((if_neg c21).trans (if_pos c27)))))).symm) (by rw [show f_X3_changeStream_x x k y z = (x.1, x.2.1, (updF x.2.2.1 k.toNatClampNeg (upd (upd ((x.2.2.1 k.toNatClampNeg).1) 8 y) 9 z, (x.2.2.1 k.toNatClampNeg).2)), (updF x.2.2.2 k.toNatClampNeg (x.2.2.2 k.toNatClampNeg))) from ((if_neg c4).trans ((if_neg c11).trans ((if_neg c17).trans ((if_neg c21).trans (if_pos c27)))))]) dX3_changeStream_66
          · refine j_bipush (v := (-2)) C dX3_changeStream_30 (by decide) ?_
            refine j_w (cSt G ad x) (fl_one _) ?_
            subst hQ; exact j_iret C hr hk ((show f_X3_changeStream_r x k y z = (-2) from ((if_neg c4).trans ((if_neg c11).trans ((if_neg c17).trans ((if_neg c21).trans (if_neg c27)))))).symm) (by rw [show f_X3_changeStream_x x k y z = x from ((if_neg c4).trans ((if_neg c11).trans ((if_neg c17).trans ((if_neg c21).trans (if_neg c27)))))]) dX3_changeStream_32
  · refine j_iconst (v := (-1)) C dX3_changeStream_7 (by decide) ?_
    refine j_w (cSt G ad x) (fl_one _) ?_
    subst hQ; exact j_iret C hr hk ((show f_X3_changeStream_r x k y z = (-1) from (if_pos c4)).symm) (by rw [show f_X3_changeStream_x x k y z = x from (if_pos c4)]) dX3_changeStream_8
noncomputable def f_X3_bringUnits_x (x : StV) (k : Int32) (y : Int32) : StV := (if f_X4_isDrive_r k = 0 then x else (if y < 1 then x else (if y ≤ 200 then (if (x.2.2.1 k.toNatClampNeg).1 3 ≤ 9999 - y then (x.1, x.2.1, (updF x.2.2.1 k.toNatClampNeg (upd ((x.2.2.1 k.toNatClampNeg).1) 3 (((x.2.2.1 k.toNatClampNeg).1 3) + y), (x.2.2.1 k.toNatClampNeg).2)), (updF x.2.2.2 k.toNatClampNeg (x.2.2.2 k.toNatClampNeg))) else x) else x)))
noncomputable def f_X3_bringUnits_r (x : StV) (k : Int32) (y : Int32) : Int32 := (if f_X4_isDrive_r k = 0 then (-1) else (if y < 1 then (-2) else (if y ≤ 200 then (if (x.2.2.1 k.toNatClampNeg).1 3 ≤ 9999 - y then ((x.2.2.1 k.toNatClampNeg).1 3) + y else (-4)) else (-2))))
set_option maxRecDepth 100000 in
set_option maxHeartbeats 4000000 in
theorem m_X3_bringUnits (l : Launch) (G : GG) (ad : Nat → Nat) (x : StV) (k : Int32) (y : Int32)  : CtI l yX3_bringUnits cX3_bringUnits 3 (some .int) (RM 1) G [.ref (ad 0), .int k, .int y] (cSt G ad x) (f_X3_bringUnits_r x k y) (cSt G ad (f_X3_bringUnits_x x k y)) := by
  refine ct_I RX3 [(0, .ref (ad 0)), (1, .int k), (2, .int y)] rfl (by decide +kernel) (Nat.le_of_ble_eq_true rfl) rfl ?_
  intro p e s m args below meth c A C hr hk hnm
  generalize hQ : (MQ below (PostI G A (f_X3_bringUnits_r x k y) (cSt G ad (f_X3_bringUnits_x x k y))) args s (RM 1).cells (RM 1).slots A) = Q
  refine j_w (fl [cSt G ad x]) (fl_one _).symm ?_
  refine j_iload_n C dX3_bringUnits_0 1 rfl ?_
  refine j_pureSN_i (r := f_X4_isDrive_r k) C (m_X4_isDrive l G k) 1 kw_194 (List.mem_of_getElem? (i := 2) rfl) kw_1 kw_193 (by decide +kernel) ⟨(Nat.le_of_ble_eq_true rfl), (Nat.le_of_ble_eq_true rfl)⟩ rfl rfl (Nat.le_of_ble_eq_true rfl) dX3_bringUnits_1 ⟨(Nat.le_of_ble_eq_true rfl), (Nat.le_of_ble_eq_true rfl)⟩ ?_
  refine j_if_ne (tgt := 9) C dX3_bringUnits_4 (by decide) (fun c4 => ?_) (fun c4 => ?_)
  · refine j_iload_n C dX3_bringUnits_9 2 rfl ?_
    refine j_iconst (v := 1) C dX3_bringUnits_10 (by decide) ?_
    refine j_icmp_lt (tgt := 21) C dX3_bringUnits_11 (by decide) (fun c11 => ?_) (fun c11 => ?_)
    · refine j_bipush (v := (-2)) C dX3_bringUnits_21 (by decide) ?_
      refine j_w (cSt G ad x) (fl_one _) ?_
      subst hQ; exact j_iret C hr hk ((show f_X3_bringUnits_r x k y = (-2) from ((if_neg c4).trans (if_pos c11))).symm) (by rw [show f_X3_bringUnits_x x k y = x from ((if_neg c4).trans (if_pos c11))]) dX3_bringUnits_23
    · refine j_iload_n C dX3_bringUnits_14 2 rfl ?_
      refine j_sipush (v := 200) C dX3_bringUnits_15 (by decide) ?_
      refine j_icmp_le (tgt := 24) C dX3_bringUnits_18 (by decide) (fun c18 => ?_) (fun c18 => ?_)
      · refine j_aload_n C dX3_bringUnits_24 0 rfl ?_
        refine j_w (fl [[oS (ad 0) (ad 1) (ad 2) x.1], [aI G (ad 1) 7 x.2.1], [aD G (ad 2) 4 (fun k => some (ad (3 + 2 * k)))], cDrs G ad x.2.2.1 x.2.2.2]) rfl ?_
        refine j_get C kin3 rfl 0 rfl 1 (by decide) kw_80 rfl (v := .ref (ad 2)) rfl dX3_bringUnits_25 ?_
        refine j_iload_n C dX3_bringUnits_28 1 rfl ?_
        refine j_perm (fl [cDrs G ad x.2.2.1 x.2.2.2, [oS (ad 0) (ad 1) (ad 2) x.1], [aI G (ad 1) 7 x.2.1], [aD G (ad 2) 4 (fun k => some (ad (3 + 2 * k)))]]) (bperm [3, 0, 1, 2] 4 rfl (by decide +kernel) rfl) ?_
        refine j_perm (fl [[oD (ad (3 + 2 * k.toNatClampNeg)) (ad (4 + 2 * k.toNatClampNeg)) (x.2.2.1 k.toNatClampNeg)], [aB G (ad (4 + 2 * k.toNatClampNeg)) (x.2.2.2 k.toNatClampNeg)], cRs G ad x.2.2.1 x.2.2.2 k.toNatClampNeg, [oS (ad 0) (ad 1) (ad 2) x.1], [aI G (ad 1) 7 x.2.1], [aD G (ad 2) 4 (fun k => some (ad (3 + 2 * k)))]]) (open_at (openDrs G ad x.2.2.1 x.2.2.2 k.toNatClampNeg (vin_nat (lt_drive c4)))) ?_
        refine j_perm (fl [[oD (ad (3 + 2 * k.toNatClampNeg)) (ad (4 + 2 * k.toNatClampNeg)) (x.2.2.1 k.toNatClampNeg)], [aB G (ad (4 + 2 * k.toNatClampNeg)) (x.2.2.2 k.toNatClampNeg)], [oS (ad 0) (ad 1) (ad 2) x.1], [aI G (ad 1) 7 x.2.1], [aD G (ad 2) 4 (fun k => some (ad (3 + 2 * k)))], cRs G ad x.2.2.1 x.2.2.2 k.toNatClampNeg]) (bperm [0, 1, 3, 4, 5, 2] 6 rfl (by decide +kernel) rfl) ?_
        refine j_aaldD C 4 rfl (lt_drive c4) (y := ad (3 + 2 * k.toNatClampNeg)) rfl dX3_bringUnits_29 ?_
        refine j_get C kin0 rfl 0 rfl 3 (by decide) kw_42 rfl (v := .int ((x.2.2.1 k.toNatClampNeg).1 3)) rfl dX3_bringUnits_30 ?_
        refine j_sipush (v := 9999) C dX3_bringUnits_33 (by decide) ?_
        refine j_iload_n C dX3_bringUnits_36 2 rfl ?_
        refine j_isub C dX3_bringUnits_37 rfl ?_
        refine j_icmp_le (tgt := 44) C dX3_bringUnits_38 (by decide) (fun c38 => ?_) (fun c38 => ?_)
        · refine j_aload_n C dX3_bringUnits_44 0 rfl ?_
          refine j_get C kin3 rfl 2 rfl 1 (by decide) kw_80 rfl (v := .ref (ad 2)) rfl dX3_bringUnits_45 ?_
          refine j_iload_n C dX3_bringUnits_48 1 rfl ?_
          refine j_aaldD C 4 rfl (lt_drive c4) (y := ad (3 + 2 * k.toNatClampNeg)) rfl dX3_bringUnits_49 ?_
          refine j_dup C dX3_bringUnits_50 rfl ?_
          refine j_get C kin0 rfl 0 rfl 3 (by decide) kw_42 rfl (v := .int ((x.2.2.1 k.toNatClampNeg).1 3)) rfl dX3_bringUnits_51 ?_
          refine j_iload_n C dX3_bringUnits_54 2 rfl ?_
          refine j_iadd C dX3_bringUnits_55 rfl ?_
          refine j_put C kin0 rfl 0 rfl 3 (by decide) kw_42 rfl tyX0 tyX0_ok nmX0 rfl rfl rfl (Nat.le_of_ble_eq_true rfl) (fl [[oD (ad (3 + 2 * k.toNatClampNeg)) (ad (4 + 2 * k.toNatClampNeg)) (upd ((x.2.2.1 k.toNatClampNeg).1) 3 (((x.2.2.1 k.toNatClampNeg).1 3) + y), (x.2.2.1 k.toNatClampNeg).2)], [aB G (ad (4 + 2 * k.toNatClampNeg)) (x.2.2.2 k.toNatClampNeg)], [oS (ad 0) (ad 1) (ad 2) x.1], [aI G (ad 1) 7 x.2.1], [aD G (ad 2) 4 (fun k => some (ad (3 + 2 * k)))], cRs G ad x.2.2.1 x.2.2.2 k.toNatClampNeg]) rfl dX3_bringUnits_56 ?_
          refine j_aload_n C dX3_bringUnits_59 0 rfl ?_
          refine j_get C kin3 rfl 2 rfl 1 (by decide) kw_80 rfl (v := .ref (ad 2)) rfl dX3_bringUnits_60 ?_
          refine j_iload_n C dX3_bringUnits_63 1 rfl ?_
          refine j_aaldD C 4 rfl (lt_drive c4) (y := ad (3 + 2 * k.toNatClampNeg)) rfl dX3_bringUnits_64 ?_
          refine j_get C kin0 rfl 0 rfl 3 (by decide) kw_42 rfl (v := .int (((x.2.2.1 k.toNatClampNeg).1 3) + y)) rfl dX3_bringUnits_65 ?_
          refine j_perm (fl [[oD (ad (3 + 2 * k.toNatClampNeg)) (ad (4 + 2 * k.toNatClampNeg)) (upd ((x.2.2.1 k.toNatClampNeg).1) 3 (((x.2.2.1 k.toNatClampNeg).1 3) + y), (x.2.2.1 k.toNatClampNeg).2)], [aB G (ad (4 + 2 * k.toNatClampNeg)) (x.2.2.2 k.toNatClampNeg)], cRs G ad x.2.2.1 x.2.2.2 k.toNatClampNeg, [oS (ad 0) (ad 1) (ad 2) x.1], [aI G (ad 1) 7 x.2.1], [aD G (ad 2) 4 (fun k => some (ad (3 + 2 * k)))]]) (bperm [0, 1, 5, 2, 3, 4] 6 rfl (by decide +kernel) rfl) ?_
          refine j_perm (fl [cDrs G ad (updF x.2.2.1 k.toNatClampNeg (upd ((x.2.2.1 k.toNatClampNeg).1) 3 (((x.2.2.1 k.toNatClampNeg).1 3) + y), (x.2.2.1 k.toNatClampNeg).2)) (updF x.2.2.2 k.toNatClampNeg (x.2.2.2 k.toNatClampNeg)), [oS (ad 0) (ad 1) (ad 2) x.1], [aI G (ad 1) 7 x.2.1], [aD G (ad 2) 4 (fun k => some (ad (3 + 2 * k)))]]) (shut_at (bs := [[oD (ad (3 + 2 * k.toNatClampNeg)) (ad (4 + 2 * k.toNatClampNeg)) (upd ((x.2.2.1 k.toNatClampNeg).1) 3 (((x.2.2.1 k.toNatClampNeg).1 3) + y), (x.2.2.1 k.toNatClampNeg).2)], [aB G (ad (4 + 2 * k.toNatClampNeg)) (x.2.2.2 k.toNatClampNeg)], cRs G ad x.2.2.1 x.2.2.2 k.toNatClampNeg]) (closeDrs G ad x.2.2.1 x.2.2.2 k.toNatClampNeg (vin_nat (lt_drive c4)) _ _)) ?_
          refine j_perm (fl [[oS (ad 0) (ad 1) (ad 2) x.1], [aI G (ad 1) 7 x.2.1], [aD G (ad 2) 4 (fun k => some (ad (3 + 2 * k)))], cDrs G ad (updF x.2.2.1 k.toNatClampNeg (upd ((x.2.2.1 k.toNatClampNeg).1) 3 (((x.2.2.1 k.toNatClampNeg).1 3) + y), (x.2.2.1 k.toNatClampNeg).2)) (updF x.2.2.2 k.toNatClampNeg (x.2.2.2 k.toNatClampNeg))]) (bperm [1, 2, 3, 0] 4 rfl (by decide +kernel) rfl) ?_
          refine j_w (fl [cSt G ad (x.1, x.2.1, (updF x.2.2.1 k.toNatClampNeg (upd ((x.2.2.1 k.toNatClampNeg).1) 3 (((x.2.2.1 k.toNatClampNeg).1 3) + y), (x.2.2.1 k.toNatClampNeg).2)), (updF x.2.2.2 k.toNatClampNeg (x.2.2.2 k.toNatClampNeg)))]) rfl ?_
          refine j_w (cSt G ad (x.1, x.2.1, (updF x.2.2.1 k.toNatClampNeg (upd ((x.2.2.1 k.toNatClampNeg).1) 3 (((x.2.2.1 k.toNatClampNeg).1 3) + y), (x.2.2.1 k.toNatClampNeg).2)), (updF x.2.2.2 k.toNatClampNeg (x.2.2.2 k.toNatClampNeg)))) (fl_one _) ?_
          subst hQ; exact j_iret C hr hk ((show f_X3_bringUnits_r x k y = ((x.2.2.1 k.toNatClampNeg).1 3) + y from ((if_neg c4).trans ((if_neg c11).trans ((if_pos c18).trans (if_pos c38))))).symm) (by rw [show f_X3_bringUnits_x x k y = (x.1, x.2.1, (updF x.2.2.1 k.toNatClampNeg (upd ((x.2.2.1 k.toNatClampNeg).1) 3 (((x.2.2.1 k.toNatClampNeg).1 3) + y), (x.2.2.1 k.toNatClampNeg).2)), (updF x.2.2.2 k.toNatClampNeg (x.2.2.2 k.toNatClampNeg))) from ((if_neg c4).trans ((if_neg c11).trans ((if_pos c18).trans (if_pos c38))))]) dX3_bringUnits_68
        · refine j_bipush (v := (-4)) C dX3_bringUnits_41 (by decide) ?_
          refine j_perm (fl [[oD (ad (3 + 2 * k.toNatClampNeg)) (ad (4 + 2 * k.toNatClampNeg)) (x.2.2.1 k.toNatClampNeg)], [aB G (ad (4 + 2 * k.toNatClampNeg)) (x.2.2.2 k.toNatClampNeg)], cRs G ad x.2.2.1 x.2.2.2 k.toNatClampNeg, [oS (ad 0) (ad 1) (ad 2) x.1], [aI G (ad 1) 7 x.2.1], [aD G (ad 2) 4 (fun k => some (ad (3 + 2 * k)))]]) (bperm [0, 1, 5, 2, 3, 4] 6 rfl (by decide +kernel) rfl) ?_
          refine j_perm (fl [cDrs G ad x.2.2.1 x.2.2.2, [oS (ad 0) (ad 1) (ad 2) x.1], [aI G (ad 1) 7 x.2.1], [aD G (ad 2) 4 (fun k => some (ad (3 + 2 * k)))]]) (shut_at (bs := [[oD (ad (3 + 2 * k.toNatClampNeg)) (ad (4 + 2 * k.toNatClampNeg)) (x.2.2.1 k.toNatClampNeg)], [aB G (ad (4 + 2 * k.toNatClampNeg)) (x.2.2.2 k.toNatClampNeg)], cRs G ad x.2.2.1 x.2.2.2 k.toNatClampNeg]) (openDrs G ad x.2.2.1 x.2.2.2 k.toNatClampNeg (vin_nat (lt_drive c4))).symm) ?_
          refine j_perm (fl [[oS (ad 0) (ad 1) (ad 2) x.1], [aI G (ad 1) 7 x.2.1], [aD G (ad 2) 4 (fun k => some (ad (3 + 2 * k)))], cDrs G ad x.2.2.1 x.2.2.2]) (bperm [1, 2, 3, 0] 4 rfl (by decide +kernel) rfl) ?_
          refine j_w (fl [cSt G ad x]) rfl ?_
          refine j_w (cSt G ad x) (fl_one _) ?_
          subst hQ; exact j_iret C hr hk ((show f_X3_bringUnits_r x k y = (-4) from ((if_neg c4).trans ((if_neg c11).trans ((if_pos c18).trans (if_neg c38))))).symm) (by rw [show f_X3_bringUnits_x x k y = x from ((if_neg c4).trans ((if_neg c11).trans ((if_pos c18).trans (if_neg c38))))]) dX3_bringUnits_43
      · refine j_bipush (v := (-2)) C dX3_bringUnits_21 (by decide) ?_
        refine j_w (cSt G ad x) (fl_one _) ?_
        subst hQ; exact j_iret C hr hk ((show f_X3_bringUnits_r x k y = (-2) from ((if_neg c4).trans ((if_neg c11).trans (if_neg c18)))).symm) (by rw [show f_X3_bringUnits_x x k y = x from ((if_neg c4).trans ((if_neg c11).trans (if_neg c18)))]) dX3_bringUnits_23
  · refine j_iconst (v := (-1)) C dX3_bringUnits_7 (by decide) ?_
    refine j_w (cSt G ad x) (fl_one _) ?_
    subst hQ; exact j_iret C hr hk ((show f_X3_bringUnits_r x k y = (-1) from (if_pos c4)).symm) (by rw [show f_X3_bringUnits_x x k y = x from (if_pos c4)]) dX3_bringUnits_8
noncomputable def f_X3_changeHour_rq4 (x : StV) (k : Int32) (y : Int32) (z : Int32) (u : Int32) : Int32 := f_X0_hourState_r (x.2.2.1 k.toNatClampNeg) (x.2.2.2 k.toNatClampNeg) y
noncomputable def f_X3_changeHour_fq5 (x : StV) (k : Int32) (y : Int32) (z : Int32) (u : Int32) : (Nat → Int8) := f_X0_markHour_f (x.2.2.1 k.toNatClampNeg) (x.2.2.2 k.toNatClampNeg) y u
noncomputable def f_X3_changeHour_rq6 (x : StV) (k : Int32) (y : Int32) (z : Int32) (u : Int32) : Int32 := f_X0_soldHours_r (x.2.2.1 k.toNatClampNeg) (f_X3_changeHour_fq5 x k y z u)
noncomputable def f_X3_changeHour_x (x : StV) (k : Int32) (y : Int32) (z : Int32) (u : Int32) : StV := (if f_X4_isDrive_r k = 0 then x else (if f_X4_isHour_r y = 0 then x else (if y ≤ f_X3_hourOfNow_r x.1 then x else (if (f_X3_changeHour_rq4 x k y z u) = z then (x.1, x.2.1, (updF x.2.2.1 k.toNatClampNeg (x.2.2.1 k.toNatClampNeg)), (updF x.2.2.2 k.toNatClampNeg (f_X3_changeHour_fq5 x k y z u))) else x))))
noncomputable def f_X3_changeHour_r (x : StV) (k : Int32) (y : Int32) (z : Int32) (u : Int32) : Int32 := (if f_X4_isDrive_r k = 0 then (-1) else (if f_X4_isHour_r y = 0 then (-2) else (if y ≤ f_X3_hourOfNow_r x.1 then (-5) else (if (f_X3_changeHour_rq4 x k y z u) = z then (f_X3_changeHour_rq6 x k y z u) else (-5)))))
set_option maxRecDepth 100000 in
set_option maxHeartbeats 4000000 in
theorem m_X3_changeHour (l : Launch) (G : GG) (ad : Nat → Nat) (x : StV) (k : Int32) (y : Int32) (z : Int32) (u : Int32)  : CtI l yX3_changeHour cX3_changeHour 5 (some .int) (RM 2) G [.ref (ad 0), .int k, .int y, .int z, .int u] (cSt G ad x) (f_X3_changeHour_r x k y z u) (cSt G ad (f_X3_changeHour_x x k y z u)) := by
  refine ct_I RX3 [(0, .ref (ad 0)), (1, .int k), (2, .int y), (3, .int z), (4, .int u)] rfl (by decide +kernel) (Nat.le_of_ble_eq_true rfl) rfl ?_
  intro p e s m args below meth c A C hr hk hnm
  generalize hQ : (MQ below (PostI G A (f_X3_changeHour_r x k y z u) (cSt G ad (f_X3_changeHour_x x k y z u))) args s (RM 2).cells (RM 2).slots A) = Q
  refine j_w (fl [cSt G ad x]) (fl_one _).symm ?_
  refine j_iload_n C dX3_changeHour_0 1 rfl ?_
  refine j_pureSN_i (r := f_X4_isDrive_r k) C (m_X4_isDrive l G k) 1 kw_194 (List.mem_of_getElem? (i := 2) rfl) kw_1 kw_193 (by decide +kernel) ⟨(Nat.le_of_ble_eq_true rfl), (Nat.le_of_ble_eq_true rfl)⟩ rfl rfl (Nat.le_of_ble_eq_true rfl) dX3_changeHour_1 ⟨(Nat.le_of_ble_eq_true rfl), (Nat.le_of_ble_eq_true rfl)⟩ ?_
  refine j_if_ne (tgt := 9) C dX3_changeHour_4 (by decide) (fun c4 => ?_) (fun c4 => ?_)
  · refine j_iload_n C dX3_changeHour_9 2 rfl ?_
    refine j_pureSN_i (r := f_X4_isHour_r y) C (m_X4_isHour l G y) 1 kw_215 (List.mem_of_getElem? (i := 3) rfl) kw_1 kw_214 (by decide +kernel) ⟨(Nat.le_of_ble_eq_true rfl), (Nat.le_of_ble_eq_true rfl)⟩ rfl rfl (Nat.le_of_ble_eq_true rfl) dX3_changeHour_10 ⟨(Nat.le_of_ble_eq_true rfl), (Nat.le_of_ble_eq_true rfl)⟩ ?_
    refine j_if_ne (tgt := 19) C dX3_changeHour_13 (by decide) (fun c13 => ?_) (fun c13 => ?_)
    · refine j_iload_n C dX3_changeHour_19 2 rfl ?_
      refine j_aload_n C dX3_changeHour_20 0 rfl ?_
      refine j_w (fl [[oS (ad 0) (ad 1) (ad 2) x.1], [aI G (ad 1) 7 x.2.1], [aD G (ad 2) 4 (fun k => some (ad (3 + 2 * k)))], cDrs G ad x.2.2.1 x.2.2.2]) rfl ?_
      refine j_callV_i (r := f_X3_hourOfNow_r x.1) (wc' := [oS (ad 0) (ad 1) (ad 2) x.1]) C (m_X3_hourOfNow l G (ad 0) (ad 1) (ad 2) x.1) rfl 0 rfl 0 (gV kw_216 kw_217 kw_218 kw_2 kw_219) (by decide +kernel) ⟨(Nat.le_of_ble_eq_true rfl), (Nat.le_of_ble_eq_true rfl)⟩ rfl rfl (Nat.le_of_ble_eq_true rfl) dX3_changeHour_21 ⟨(Nat.le_of_ble_eq_true rfl), (Nat.le_of_ble_eq_true rfl)⟩ (fl [[aI G (ad 1) 7 x.2.1], [aD G (ad 2) 4 (fun k => some (ad (3 + 2 * k)))], cDrs G ad x.2.2.1 x.2.2.2]) (fl [[oS (ad 0) (ad 1) (ad 2) x.1], [aI G (ad 1) 7 x.2.1], [aD G (ad 2) 4 (fun k => some (ad (3 + 2 * k)))], cDrs G ad x.2.2.1 x.2.2.2]) (bperm (bs' := [[oS (ad 0) (ad 1) (ad 2) x.1], [aI G (ad 1) 7 x.2.1], [aD G (ad 2) 4 (fun k => some (ad (3 + 2 * k)))], cDrs G ad x.2.2.1 x.2.2.2]) [0, 1, 2, 3] 4 rfl (by decide +kernel) rfl) rfl ?_
      refine j_icmp_le (tgt := 41) C dX3_changeHour_24 (by decide) (fun c24 => ?_) (fun c24 => ?_)
      · refine j_bipush (v := (-5)) C dX3_changeHour_41 (by decide) ?_
        refine j_w (fl [cSt G ad x]) rfl ?_
        refine j_w (cSt G ad x) (fl_one _) ?_
        subst hQ; exact j_iret C hr hk ((show f_X3_changeHour_r x k y z u = (-5) from ((if_neg c4).trans ((if_neg c13).trans (if_pos c24)))).symm) (by rw [show f_X3_changeHour_x x k y z u = x from ((if_neg c4).trans ((if_neg c13).trans (if_pos c24)))]) dX3_changeHour_43
      · refine j_aload_n C dX3_changeHour_27 0 rfl ?_
        refine j_get C kin3 rfl 0 rfl 1 (by decide) kw_80 rfl (v := .ref (ad 2)) rfl dX3_changeHour_28 ?_
        refine j_iload_n C dX3_changeHour_31 1 rfl ?_
        refine j_perm (fl [cDrs G ad x.2.2.1 x.2.2.2, [oS (ad 0) (ad 1) (ad 2) x.1], [aI G (ad 1) 7 x.2.1], [aD G (ad 2) 4 (fun k => some (ad (3 + 2 * k)))]]) (bperm [3, 0, 1, 2] 4 rfl (by decide +kernel) rfl) ?_
        refine j_perm (fl [[oD (ad (3 + 2 * k.toNatClampNeg)) (ad (4 + 2 * k.toNatClampNeg)) (x.2.2.1 k.toNatClampNeg)], [aB G (ad (4 + 2 * k.toNatClampNeg)) (x.2.2.2 k.toNatClampNeg)], cRs G ad x.2.2.1 x.2.2.2 k.toNatClampNeg, [oS (ad 0) (ad 1) (ad 2) x.1], [aI G (ad 1) 7 x.2.1], [aD G (ad 2) 4 (fun k => some (ad (3 + 2 * k)))]]) (open_at (openDrs G ad x.2.2.1 x.2.2.2 k.toNatClampNeg (vin_nat (lt_drive c4)))) ?_
        refine j_perm (fl [[oD (ad (3 + 2 * k.toNatClampNeg)) (ad (4 + 2 * k.toNatClampNeg)) (x.2.2.1 k.toNatClampNeg)], [aB G (ad (4 + 2 * k.toNatClampNeg)) (x.2.2.2 k.toNatClampNeg)], [oS (ad 0) (ad 1) (ad 2) x.1], [aI G (ad 1) 7 x.2.1], [aD G (ad 2) 4 (fun k => some (ad (3 + 2 * k)))], cRs G ad x.2.2.1 x.2.2.2 k.toNatClampNeg]) (bperm [0, 1, 3, 4, 5, 2] 6 rfl (by decide +kernel) rfl) ?_
        refine j_aaldD C 4 rfl (lt_drive c4) (y := ad (3 + 2 * k.toNatClampNeg)) rfl dX3_changeHour_32 ?_
        refine j_iload_n C dX3_changeHour_33 2 rfl ?_
        refine j_callV_i (r := f_X0_hourState_r (x.2.2.1 k.toNatClampNeg) (x.2.2.2 k.toNatClampNeg) y) (wc' := [oD (ad (3 + 2 * k.toNatClampNeg)) (ad (4 + 2 * k.toNatClampNeg)) (x.2.2.1 k.toNatClampNeg), aB G (ad (4 + 2 * k.toNatClampNeg)) (x.2.2.2 k.toNatClampNeg)]) C (m_X0_hourState l G (ad (3 + 2 * k.toNatClampNeg)) (ad (4 + 2 * k.toNatClampNeg)) (x.2.2.1 k.toNatClampNeg) (x.2.2.2 k.toNatClampNeg) y) rfl 0 rfl 1 (gV kw_220 kw_221 kw_222 kw_4 kw_223) (by decide +kernel) ⟨(Nat.le_of_ble_eq_true rfl), (Nat.le_of_ble_eq_true rfl)⟩ rfl rfl (Nat.le_of_ble_eq_true rfl) dX3_changeHour_34 ⟨(Nat.le_of_ble_eq_true rfl), (Nat.le_of_ble_eq_true rfl)⟩ (fl [[oS (ad 0) (ad 1) (ad 2) x.1], [aI G (ad 1) 7 x.2.1], [aD G (ad 2) 4 (fun k => some (ad (3 + 2 * k)))], cRs G ad x.2.2.1 x.2.2.2 k.toNatClampNeg]) (fl [[oD (ad (3 + 2 * k.toNatClampNeg)) (ad (4 + 2 * k.toNatClampNeg)) (x.2.2.1 k.toNatClampNeg)], [aB G (ad (4 + 2 * k.toNatClampNeg)) (x.2.2.2 k.toNatClampNeg)], [oS (ad 0) (ad 1) (ad 2) x.1], [aI G (ad 1) 7 x.2.1], [aD G (ad 2) 4 (fun k => some (ad (3 + 2 * k)))], cRs G ad x.2.2.1 x.2.2.2 k.toNatClampNeg]) (bperm (bs' := [[oD (ad (3 + 2 * k.toNatClampNeg)) (ad (4 + 2 * k.toNatClampNeg)) (x.2.2.1 k.toNatClampNeg)], [aB G (ad (4 + 2 * k.toNatClampNeg)) (x.2.2.2 k.toNatClampNeg)], [oS (ad 0) (ad 1) (ad 2) x.1], [aI G (ad 1) 7 x.2.1], [aD G (ad 2) 4 (fun k => some (ad (3 + 2 * k)))], cRs G ad x.2.2.1 x.2.2.2 k.toNatClampNeg]) [0, 1, 2, 3, 4, 5] 6 rfl (by decide +kernel) rfl) rfl ?_
        generalize hzw0 : f_X0_hourState_r (x.2.2.1 k.toNatClampNeg) (x.2.2.2 k.toNatClampNeg) y = w0
        have hw0 : f_X3_changeHour_rq4 x k y z u = w0 := by subst hzw0; rfl
        refine j_iload_n C dX3_changeHour_37 3 rfl ?_
        refine j_icmp_eq (tgt := 44) C dX3_changeHour_38 (by decide) (fun c38 => ?_) (fun c38 => ?_)
        · refine j_aload_n C dX3_changeHour_44 0 rfl ?_
          refine j_get C kin3 rfl 2 rfl 1 (by decide) kw_80 rfl (v := .ref (ad 2)) rfl dX3_changeHour_45 ?_
          refine j_iload_n C dX3_changeHour_48 1 rfl ?_
          refine j_aaldD C 4 rfl (lt_drive c4) (y := ad (3 + 2 * k.toNatClampNeg)) rfl dX3_changeHour_49 ?_
          refine j_iload_n C dX3_changeHour_50 2 rfl ?_
          refine j_iload C dX3_changeHour_51 4 rfl ?_
          refine j_callV_v (wc' := [oD (ad (3 + 2 * k.toNatClampNeg)) (ad (4 + 2 * k.toNatClampNeg)) (x.2.2.1 k.toNatClampNeg), aB G (ad (4 + 2 * k.toNatClampNeg)) (f_X0_markHour_f (x.2.2.1 k.toNatClampNeg) (x.2.2.2 k.toNatClampNeg) y u)]) C (m_X0_markHour l G (ad (3 + 2 * k.toNatClampNeg)) (ad (4 + 2 * k.toNatClampNeg)) (x.2.2.1 k.toNatClampNeg) (x.2.2.2 k.toNatClampNeg) y u) rfl 0 rfl 2 (gV kw_224 kw_225 kw_226 kw_4 kw_227) (by decide +kernel) ⟨(Nat.le_of_ble_eq_true rfl), (Nat.le_of_ble_eq_true rfl)⟩ rfl rfl (Nat.le_of_ble_eq_true rfl) dX3_changeHour_53 ⟨(Nat.le_of_ble_eq_true rfl), (Nat.le_of_ble_eq_true rfl)⟩ (fl [[oS (ad 0) (ad 1) (ad 2) x.1], [aI G (ad 1) 7 x.2.1], [aD G (ad 2) 4 (fun k => some (ad (3 + 2 * k)))], cRs G ad x.2.2.1 x.2.2.2 k.toNatClampNeg]) (fl [[oD (ad (3 + 2 * k.toNatClampNeg)) (ad (4 + 2 * k.toNatClampNeg)) (x.2.2.1 k.toNatClampNeg)], [aB G (ad (4 + 2 * k.toNatClampNeg)) (f_X0_markHour_f (x.2.2.1 k.toNatClampNeg) (x.2.2.2 k.toNatClampNeg) y u)], [oS (ad 0) (ad 1) (ad 2) x.1], [aI G (ad 1) 7 x.2.1], [aD G (ad 2) 4 (fun k => some (ad (3 + 2 * k)))], cRs G ad x.2.2.1 x.2.2.2 k.toNatClampNeg]) (bperm (bs' := [[oD (ad (3 + 2 * k.toNatClampNeg)) (ad (4 + 2 * k.toNatClampNeg)) (x.2.2.1 k.toNatClampNeg)], [aB G (ad (4 + 2 * k.toNatClampNeg)) (x.2.2.2 k.toNatClampNeg)], [oS (ad 0) (ad 1) (ad 2) x.1], [aI G (ad 1) 7 x.2.1], [aD G (ad 2) 4 (fun k => some (ad (3 + 2 * k)))], cRs G ad x.2.2.1 x.2.2.2 k.toNatClampNeg]) [0, 1, 2, 3, 4, 5] 6 rfl (by decide +kernel) rfl) rfl ?_
          generalize hzw1 : f_X0_markHour_f (x.2.2.1 k.toNatClampNeg) (x.2.2.2 k.toNatClampNeg) y u = w1
          have hw1 : f_X3_changeHour_fq5 x k y z u = w1 := by subst hw0; subst hzw1; rfl
          refine j_aload_n C dX3_changeHour_56 0 rfl ?_
          refine j_get C kin3 rfl 2 rfl 1 (by decide) kw_80 rfl (v := .ref (ad 2)) rfl dX3_changeHour_57 ?_
          refine j_iload_n C dX3_changeHour_60 1 rfl ?_
          refine j_aaldD C 4 rfl (lt_drive c4) (y := ad (3 + 2 * k.toNatClampNeg)) rfl dX3_changeHour_61 ?_
          refine j_callV_i (r := f_X0_soldHours_r (x.2.2.1 k.toNatClampNeg) w1) (wc' := [oD (ad (3 + 2 * k.toNatClampNeg)) (ad (4 + 2 * k.toNatClampNeg)) (x.2.2.1 k.toNatClampNeg), aB G (ad (4 + 2 * k.toNatClampNeg)) w1]) C (m_X0_soldHours l G (ad (3 + 2 * k.toNatClampNeg)) (ad (4 + 2 * k.toNatClampNeg)) (x.2.2.1 k.toNatClampNeg) w1) rfl 0 rfl 0 (gV kw_228 kw_229 kw_230 kw_4 kw_231) (by decide +kernel) ⟨(Nat.le_of_ble_eq_true rfl), (Nat.le_of_ble_eq_true rfl)⟩ rfl rfl (Nat.le_of_ble_eq_true rfl) dX3_changeHour_62 ⟨(Nat.le_of_ble_eq_true rfl), (Nat.le_of_ble_eq_true rfl)⟩ (fl [[oS (ad 0) (ad 1) (ad 2) x.1], [aI G (ad 1) 7 x.2.1], [aD G (ad 2) 4 (fun k => some (ad (3 + 2 * k)))], cRs G ad x.2.2.1 x.2.2.2 k.toNatClampNeg]) (fl [[oD (ad (3 + 2 * k.toNatClampNeg)) (ad (4 + 2 * k.toNatClampNeg)) (x.2.2.1 k.toNatClampNeg)], [aB G (ad (4 + 2 * k.toNatClampNeg)) w1], [oS (ad 0) (ad 1) (ad 2) x.1], [aI G (ad 1) 7 x.2.1], [aD G (ad 2) 4 (fun k => some (ad (3 + 2 * k)))], cRs G ad x.2.2.1 x.2.2.2 k.toNatClampNeg]) (bperm (bs' := [[oD (ad (3 + 2 * k.toNatClampNeg)) (ad (4 + 2 * k.toNatClampNeg)) (x.2.2.1 k.toNatClampNeg)], [aB G (ad (4 + 2 * k.toNatClampNeg)) w1], [oS (ad 0) (ad 1) (ad 2) x.1], [aI G (ad 1) 7 x.2.1], [aD G (ad 2) 4 (fun k => some (ad (3 + 2 * k)))], cRs G ad x.2.2.1 x.2.2.2 k.toNatClampNeg]) [0, 1, 2, 3, 4, 5] 6 rfl (by decide +kernel) rfl) rfl ?_
          generalize hzw2 : f_X0_soldHours_r (x.2.2.1 k.toNatClampNeg) w1 = w2
          have hw2 : f_X3_changeHour_rq6 x k y z u = w2 := by subst hw0 hw1; subst hzw2; rfl
          refine j_perm (fl [[oD (ad (3 + 2 * k.toNatClampNeg)) (ad (4 + 2 * k.toNatClampNeg)) (x.2.2.1 k.toNatClampNeg)], [aB G (ad (4 + 2 * k.toNatClampNeg)) w1], cRs G ad x.2.2.1 x.2.2.2 k.toNatClampNeg, [oS (ad 0) (ad 1) (ad 2) x.1], [aI G (ad 1) 7 x.2.1], [aD G (ad 2) 4 (fun k => some (ad (3 + 2 * k)))]]) (bperm [0, 1, 5, 2, 3, 4] 6 rfl (by decide +kernel) rfl) ?_
          refine j_perm (fl [cDrs G ad (updF x.2.2.1 k.toNatClampNeg (x.2.2.1 k.toNatClampNeg)) (updF x.2.2.2 k.toNatClampNeg w1), [oS (ad 0) (ad 1) (ad 2) x.1], [aI G (ad 1) 7 x.2.1], [aD G (ad 2) 4 (fun k => some (ad (3 + 2 * k)))]]) (shut_at (bs := [[oD (ad (3 + 2 * k.toNatClampNeg)) (ad (4 + 2 * k.toNatClampNeg)) (x.2.2.1 k.toNatClampNeg)], [aB G (ad (4 + 2 * k.toNatClampNeg)) w1], cRs G ad x.2.2.1 x.2.2.2 k.toNatClampNeg]) (closeDrs G ad x.2.2.1 x.2.2.2 k.toNatClampNeg (vin_nat (lt_drive c4)) _ _)) ?_
          refine j_perm (fl [[oS (ad 0) (ad 1) (ad 2) x.1], [aI G (ad 1) 7 x.2.1], [aD G (ad 2) 4 (fun k => some (ad (3 + 2 * k)))], cDrs G ad (updF x.2.2.1 k.toNatClampNeg (x.2.2.1 k.toNatClampNeg)) (updF x.2.2.2 k.toNatClampNeg w1)]) (bperm [1, 2, 3, 0] 4 rfl (by decide +kernel) rfl) ?_
          refine j_w (fl [cSt G ad (x.1, x.2.1, (updF x.2.2.1 k.toNatClampNeg (x.2.2.1 k.toNatClampNeg)), (updF x.2.2.2 k.toNatClampNeg w1))]) rfl ?_
          refine j_w (cSt G ad (x.1, x.2.1, (updF x.2.2.1 k.toNatClampNeg (x.2.2.1 k.toNatClampNeg)), (updF x.2.2.2 k.toNatClampNeg w1))) (fl_one _) ?_
          subst hQ; subst hw0 hw1 hw2; exact j_iret C hr hk ((show f_X3_changeHour_r x k y z u = (f_X3_changeHour_rq6 x k y z u) from ((if_neg c4).trans ((if_neg c13).trans ((if_neg c24).trans (if_pos c38))))).symm) (by rw [show f_X3_changeHour_x x k y z u = (x.1, x.2.1, (updF x.2.2.1 k.toNatClampNeg (x.2.2.1 k.toNatClampNeg)), (updF x.2.2.2 k.toNatClampNeg (f_X3_changeHour_fq5 x k y z u))) from ((if_neg c4).trans ((if_neg c13).trans ((if_neg c24).trans (if_pos c38))))]) dX3_changeHour_65
        · refine j_bipush (v := (-5)) C dX3_changeHour_41 (by decide) ?_
          refine j_perm (fl [[oD (ad (3 + 2 * k.toNatClampNeg)) (ad (4 + 2 * k.toNatClampNeg)) (x.2.2.1 k.toNatClampNeg)], [aB G (ad (4 + 2 * k.toNatClampNeg)) (x.2.2.2 k.toNatClampNeg)], cRs G ad x.2.2.1 x.2.2.2 k.toNatClampNeg, [oS (ad 0) (ad 1) (ad 2) x.1], [aI G (ad 1) 7 x.2.1], [aD G (ad 2) 4 (fun k => some (ad (3 + 2 * k)))]]) (bperm [0, 1, 5, 2, 3, 4] 6 rfl (by decide +kernel) rfl) ?_
          refine j_perm (fl [cDrs G ad x.2.2.1 x.2.2.2, [oS (ad 0) (ad 1) (ad 2) x.1], [aI G (ad 1) 7 x.2.1], [aD G (ad 2) 4 (fun k => some (ad (3 + 2 * k)))]]) (shut_at (bs := [[oD (ad (3 + 2 * k.toNatClampNeg)) (ad (4 + 2 * k.toNatClampNeg)) (x.2.2.1 k.toNatClampNeg)], [aB G (ad (4 + 2 * k.toNatClampNeg)) (x.2.2.2 k.toNatClampNeg)], cRs G ad x.2.2.1 x.2.2.2 k.toNatClampNeg]) (openDrs G ad x.2.2.1 x.2.2.2 k.toNatClampNeg (vin_nat (lt_drive c4))).symm) ?_
          refine j_perm (fl [[oS (ad 0) (ad 1) (ad 2) x.1], [aI G (ad 1) 7 x.2.1], [aD G (ad 2) 4 (fun k => some (ad (3 + 2 * k)))], cDrs G ad x.2.2.1 x.2.2.2]) (bperm [1, 2, 3, 0] 4 rfl (by decide +kernel) rfl) ?_
          refine j_w (fl [cSt G ad x]) rfl ?_
          refine j_w (cSt G ad x) (fl_one _) ?_
          subst hQ; subst hw0; exact j_iret C hr hk ((show f_X3_changeHour_r x k y z u = (-5) from ((if_neg c4).trans ((if_neg c13).trans ((if_neg c24).trans (if_neg c38))))).symm) (by rw [show f_X3_changeHour_x x k y z u = x from ((if_neg c4).trans ((if_neg c13).trans ((if_neg c24).trans (if_neg c38))))]) dX3_changeHour_43
    · refine j_bipush (v := (-2)) C dX3_changeHour_16 (by decide) ?_
      refine j_w (cSt G ad x) (fl_one _) ?_
      subst hQ; exact j_iret C hr hk ((show f_X3_changeHour_r x k y z u = (-2) from ((if_neg c4).trans (if_pos c13))).symm) (by rw [show f_X3_changeHour_x x k y z u = x from ((if_neg c4).trans (if_pos c13))]) dX3_changeHour_18
  · refine j_iconst (v := (-1)) C dX3_changeHour_7 (by decide) ?_
    refine j_w (cSt G ad x) (fl_one _) ?_
    subst hQ; exact j_iret C hr hk ((show f_X3_changeHour_r x k y z u = (-1) from (if_pos c4)).symm) (by rw [show f_X3_changeHour_x x k y z u = x from (if_pos c4)]) dX3_changeHour_8
noncomputable def f_X3_sellHour_x (x : StV) (k : Int32) (y : Int32) : StV := f_X3_changeHour_x x k y 0 1
noncomputable def f_X3_sellHour_r (x : StV) (k : Int32) (y : Int32) : Int32 := f_X3_changeHour_r x k y 0 1
set_option maxRecDepth 100000 in
set_option maxHeartbeats 4000000 in
theorem m_X3_sellHour (l : Launch) (G : GG) (ad : Nat → Nat) (x : StV) (k : Int32) (y : Int32)  : CtI l yX3_sellHour cX3_sellHour 3 (some .int) (RM 3) G [.ref (ad 0), .int k, .int y] (cSt G ad x) (f_X3_sellHour_r x k y) (cSt G ad (f_X3_sellHour_x x k y)) := by
  refine ct_I RX3 [(0, .ref (ad 0)), (1, .int k), (2, .int y)] rfl (by decide +kernel) (Nat.le_of_ble_eq_true rfl) rfl ?_
  intro p e s m args below meth c A C hr hk hnm
  generalize hQ : (MQ below (PostI G A (f_X3_sellHour_r x k y) (cSt G ad (f_X3_sellHour_x x k y))) args s (RM 3).cells (RM 3).slots A) = Q
  refine j_w (fl [cSt G ad x]) (fl_one _).symm ?_
  refine j_aload_n C dX3_sellHour_0 0 rfl ?_
  refine j_iload_n C dX3_sellHour_1 1 rfl ?_
  refine j_iload_n C dX3_sellHour_2 2 rfl ?_
  refine j_iconst (v := 0) C dX3_sellHour_3 (by decide) ?_
  refine j_iconst (v := 1) C dX3_sellHour_4 (by decide) ?_
  refine j_callV_i (r := f_X3_changeHour_r x k y 0 1) (wc' := cSt G ad (f_X3_changeHour_x x k y 0 1)) C (m_X3_changeHour l G ad x k y 0 1) rfl 0 rfl 4 (gV kw_211 kw_212 kw_755 kw_2 kw_213) (by decide +kernel) ⟨(Nat.le_of_ble_eq_true rfl), (Nat.le_of_ble_eq_true rfl)⟩ rfl rfl (Nat.le_of_ble_eq_true rfl) dX3_sellHour_5 ⟨(Nat.le_of_ble_eq_true rfl), (Nat.le_of_ble_eq_true rfl)⟩ (fl []) (fl [cSt G ad (f_X3_changeHour_x x k y 0 1)]) (bperm (bs' := [cSt G ad x]) [0] 1 rfl (by decide +kernel) rfl) rfl ?_
  refine j_w (cSt G ad (f_X3_changeHour_x x k y 0 1)) (fl_one _) ?_
  subst hQ; exact j_iret C hr hk ((show f_X3_sellHour_r x k y = f_X3_changeHour_r x k y 0 1 from rfl).symm) (by rw [show f_X3_sellHour_x x k y = f_X3_changeHour_x x k y 0 1 from rfl]) dX3_sellHour_8
noncomputable def f_X3_takeHourBack_x (x : StV) (k : Int32) (y : Int32) : StV := f_X3_changeHour_x x k y 1 0
noncomputable def f_X3_takeHourBack_r (x : StV) (k : Int32) (y : Int32) : Int32 := f_X3_changeHour_r x k y 1 0
set_option maxRecDepth 100000 in
set_option maxHeartbeats 4000000 in
theorem m_X3_takeHourBack (l : Launch) (G : GG) (ad : Nat → Nat) (x : StV) (k : Int32) (y : Int32)  : CtI l yX3_takeHourBack cX3_takeHourBack 3 (some .int) (RM 3) G [.ref (ad 0), .int k, .int y] (cSt G ad x) (f_X3_takeHourBack_r x k y) (cSt G ad (f_X3_takeHourBack_x x k y)) := by
  refine ct_I RX3 [(0, .ref (ad 0)), (1, .int k), (2, .int y)] rfl (by decide +kernel) (Nat.le_of_ble_eq_true rfl) rfl ?_
  intro p e s m args below meth c A C hr hk hnm
  generalize hQ : (MQ below (PostI G A (f_X3_takeHourBack_r x k y) (cSt G ad (f_X3_takeHourBack_x x k y))) args s (RM 3).cells (RM 3).slots A) = Q
  refine j_w (fl [cSt G ad x]) (fl_one _).symm ?_
  refine j_aload_n C dX3_takeHourBack_0 0 rfl ?_
  refine j_iload_n C dX3_takeHourBack_1 1 rfl ?_
  refine j_iload_n C dX3_takeHourBack_2 2 rfl ?_
  refine j_iconst (v := 1) C dX3_takeHourBack_3 (by decide) ?_
  refine j_iconst (v := 0) C dX3_takeHourBack_4 (by decide) ?_
  refine j_callV_i (r := f_X3_changeHour_r x k y 1 0) (wc' := cSt G ad (f_X3_changeHour_x x k y 1 0)) C (m_X3_changeHour l G ad x k y 1 0) rfl 0 rfl 4 (gV kw_211 kw_212 kw_755 kw_2 kw_213) (by decide +kernel) ⟨(Nat.le_of_ble_eq_true rfl), (Nat.le_of_ble_eq_true rfl)⟩ rfl rfl (Nat.le_of_ble_eq_true rfl) dX3_takeHourBack_5 ⟨(Nat.le_of_ble_eq_true rfl), (Nat.le_of_ble_eq_true rfl)⟩ (fl []) (fl [cSt G ad (f_X3_changeHour_x x k y 1 0)]) (bperm (bs' := [cSt G ad x]) [0] 1 rfl (by decide +kernel) rfl) rfl ?_
  refine j_w (cSt G ad (f_X3_changeHour_x x k y 1 0)) (fl_one _) ?_
  subst hQ; exact j_iret C hr hk ((show f_X3_takeHourBack_r x k y = f_X3_changeHour_r x k y 1 0 from rfl).symm) (by rw [show f_X3_takeHourBack_x x k y = f_X3_changeHour_x x k y 1 0 from rfl]) dX3_takeHourBack_8
end
section
/-! COPIES -/
set_option maxRecDepth 100000 in
set_option maxHeartbeats 4000000 in
theorem m_X0_copyFrom (l : Launch) (G : GG) (a b h g : Nat) (v : DO) (f : Nat → Int8) (o : DO) (q : Nat → Int8)  : CtV l yX0_copyFrom cX0_copyFrom 2 (none : Option Jvm.ClassFile.FieldType) (RM 1) G [.ref a, .ref b] ([oD a h v, aB G h f, oD b g o, aB G g q]) ([oD a h o, aB G h q, oD b g o, aB G g q]) := by
  refine ct_V RX0 [(0, .ref a), (1, .ref b)] rfl (by decide +kernel) (Nat.le_of_ble_eq_true rfl) rfl ?_
  intro p e s m args below meth c A C hr hk hnm
  generalize hQ : (MQ below (PostV G A ([oD a h o, aB G h q, oD b g o, aB G g q])) args s (RM 1).cells (RM 1).slots A) = Q
  refine j_aload_n C dX0_copyFrom_0 0 rfl ?_
  refine j_aload_n C dX0_copyFrom_1 1 rfl ?_
  refine j_get C kin0 rfl 2 rfl 0 (by decide) kw_33 rfl (v := .int (o.1 0)) rfl dX0_copyFrom_2 ?_
  refine j_put C kin0 rfl 0 rfl 0 (by decide) kw_33 rfl tyX0 tyX0_ok nmX0 rfl rfl rfl (Nat.le_of_ble_eq_true rfl) ([oD a h (upd v.1 0 (o.1 0), v.2), aB G h f, oD b g o, aB G g q]) rfl dX0_copyFrom_5 ?_
  refine j_aload_n C dX0_copyFrom_8 0 rfl ?_
  refine j_aload_n C dX0_copyFrom_9 1 rfl ?_
  refine j_get C kin0 rfl 2 rfl 1 (by decide) kw_36 rfl (v := .int (o.1 1)) rfl dX0_copyFrom_10 ?_
  refine j_put C kin0 rfl 0 rfl 1 (by decide) kw_36 rfl tyX0 tyX0_ok nmX0 rfl rfl rfl (Nat.le_of_ble_eq_true rfl) ([oD a h (upd (upd v.1 0 (o.1 0)) 1 (o.1 1), v.2), aB G h f, oD b g o, aB G g q]) rfl dX0_copyFrom_13 ?_
  refine j_aload_n C dX0_copyFrom_16 0 rfl ?_
  refine j_aload_n C dX0_copyFrom_17 1 rfl ?_
  refine j_get C kin0 rfl 2 rfl 2 (by decide) kw_39 rfl (v := .int (o.1 2)) rfl dX0_copyFrom_18 ?_
  refine j_put C kin0 rfl 0 rfl 2 (by decide) kw_39 rfl tyX0 tyX0_ok nmX0 rfl rfl rfl (Nat.le_of_ble_eq_true rfl) ([oD a h (upd (upd (upd v.1 0 (o.1 0)) 1 (o.1 1)) 2 (o.1 2), v.2), aB G h f, oD b g o, aB G g q]) rfl dX0_copyFrom_21 ?_
  refine j_aload_n C dX0_copyFrom_24 0 rfl ?_
  refine j_aload_n C dX0_copyFrom_25 1 rfl ?_
  refine j_get C kin0 rfl 2 rfl 3 (by decide) kw_41 rfl (v := .int (o.1 3)) rfl dX0_copyFrom_26 ?_
  refine j_put C kin0 rfl 0 rfl 3 (by decide) kw_41 rfl tyX0 tyX0_ok nmX0 rfl rfl rfl (Nat.le_of_ble_eq_true rfl) ([oD a h (upd (upd (upd (upd v.1 0 (o.1 0)) 1 (o.1 1)) 2 (o.1 2)) 3 (o.1 3), v.2), aB G h f, oD b g o, aB G g q]) rfl dX0_copyFrom_29 ?_
  refine j_aload_n C dX0_copyFrom_32 0 rfl ?_
  refine j_aload_n C dX0_copyFrom_33 1 rfl ?_
  refine j_get C kin0 rfl 2 rfl 4 (by decide) kw_44 rfl (v := .int (b01 (o.1 4))) rfl dX0_copyFrom_34 ?_
  refine j_put C kin0 rfl 0 rfl 4 (by decide) kw_44 rfl tyX0 tyX0_ok nmX0 rfl (nar_b01 _) (fit_b01 _) (Nat.le_of_ble_eq_true rfl) ([oD a h (upd (upd (upd (upd (upd v.1 0 (o.1 0)) 1 (o.1 1)) 2 (o.1 2)) 3 (o.1 3)) 4 (o.1 4), v.2), aB G h f, oD b g o, aB G g q]) rfl dX0_copyFrom_37 ?_
  refine j_aload_n C dX0_copyFrom_40 0 rfl ?_
  refine j_aload_n C dX0_copyFrom_41 1 rfl ?_
  refine j_get C kin0 rfl 2 rfl 5 (by decide) kw_47 rfl (v := .int (o.1 5)) rfl dX0_copyFrom_42 ?_
  refine j_put C kin0 rfl 0 rfl 5 (by decide) kw_47 rfl tyX0 tyX0_ok nmX0 rfl rfl rfl (Nat.le_of_ble_eq_true rfl) ([oD a h (upd (upd (upd (upd (upd (upd v.1 0 (o.1 0)) 1 (o.1 1)) 2 (o.1 2)) 3 (o.1 3)) 4 (o.1 4)) 5 (o.1 5), v.2), aB G h f, oD b g o, aB G g q]) rfl dX0_copyFrom_45 ?_
  refine j_aload_n C dX0_copyFrom_48 0 rfl ?_
  refine j_aload_n C dX0_copyFrom_49 1 rfl ?_
  refine j_get C kin0 rfl 2 rfl 6 (by decide) kw_49 rfl (v := .int (o.1 6)) rfl dX0_copyFrom_50 ?_
  refine j_put C kin0 rfl 0 rfl 6 (by decide) kw_49 rfl tyX0 tyX0_ok nmX0 rfl rfl rfl (Nat.le_of_ble_eq_true rfl) ([oD a h (upd (upd (upd (upd (upd (upd (upd v.1 0 (o.1 0)) 1 (o.1 1)) 2 (o.1 2)) 3 (o.1 3)) 4 (o.1 4)) 5 (o.1 5)) 6 (o.1 6), v.2), aB G h f, oD b g o, aB G g q]) rfl dX0_copyFrom_53 ?_
  refine j_aload_n C dX0_copyFrom_56 0 rfl ?_
  refine j_aload_n C dX0_copyFrom_57 1 rfl ?_
  refine j_get C kin0 rfl 2 rfl 7 (by decide) kw_51 rfl (v := .int (o.1 7)) rfl dX0_copyFrom_58 ?_
  refine j_put C kin0 rfl 0 rfl 7 (by decide) kw_51 rfl tyX0 tyX0_ok nmX0 rfl rfl rfl (Nat.le_of_ble_eq_true rfl) ([oD a h (upd (upd (upd (upd (upd (upd (upd (upd v.1 0 (o.1 0)) 1 (o.1 1)) 2 (o.1 2)) 3 (o.1 3)) 4 (o.1 4)) 5 (o.1 5)) 6 (o.1 6)) 7 (o.1 7), v.2), aB G h f, oD b g o, aB G g q]) rfl dX0_copyFrom_61 ?_
  refine j_aload_n C dX0_copyFrom_64 0 rfl ?_
  refine j_aload_n C dX0_copyFrom_65 1 rfl ?_
  refine j_get C kin0 rfl 2 rfl 8 (by decide) kw_54 rfl (v := .int (o.1 8)) rfl dX0_copyFrom_66 ?_
  refine j_put C kin0 rfl 0 rfl 8 (by decide) kw_54 rfl tyX0 tyX0_ok nmX0 rfl rfl rfl (Nat.le_of_ble_eq_true rfl) ([oD a h (upd (upd (upd (upd (upd (upd (upd (upd (upd v.1 0 (o.1 0)) 1 (o.1 1)) 2 (o.1 2)) 3 (o.1 3)) 4 (o.1 4)) 5 (o.1 5)) 6 (o.1 6)) 7 (o.1 7)) 8 (o.1 8), v.2), aB G h f, oD b g o, aB G g q]) rfl dX0_copyFrom_69 ?_
  refine j_aload_n C dX0_copyFrom_72 0 rfl ?_
  refine j_aload_n C dX0_copyFrom_73 1 rfl ?_
  refine j_get C kin0 rfl 2 rfl 9 (by decide) kw_57 rfl (v := .int (o.1 9)) rfl dX0_copyFrom_74 ?_
  refine j_put C kin0 rfl 0 rfl 9 (by decide) kw_57 rfl tyX0 tyX0_ok nmX0 rfl rfl rfl (Nat.le_of_ble_eq_true rfl) ([oD a h (upd (upd (upd (upd (upd (upd (upd (upd (upd (upd v.1 0 (o.1 0)) 1 (o.1 1)) 2 (o.1 2)) 3 (o.1 3)) 4 (o.1 4)) 5 (o.1 5)) 6 (o.1 6)) 7 (o.1 7)) 8 (o.1 8)) 9 (o.1 9), v.2), aB G h f, oD b g o, aB G g q]) rfl dX0_copyFrom_77 ?_
  refine j_aload_n C dX0_copyFrom_80 0 rfl ?_
  refine j_aload_n C dX0_copyFrom_81 1 rfl ?_
  refine j_get C kin0 rfl 2 rfl 10 (by decide) kw_60 rfl (v := .long o.2) rfl dX0_copyFrom_82 ?_
  refine j_put C kin0 rfl 0 rfl 10 (by decide) kw_60 rfl tyX0 tyX0_ok nmX0 rfl rfl rfl (Nat.le_of_ble_eq_true rfl) ([oD a h (upd (upd (upd (upd (upd (upd (upd (upd (upd (upd v.1 0 (o.1 0)) 1 (o.1 1)) 2 (o.1 2)) 3 (o.1 3)) 4 (o.1 4)) 5 (o.1 5)) 6 (o.1 6)) 7 (o.1 7)) 8 (o.1 8)) 9 (o.1 9), o.2), aB G h f, oD b g o, aB G g q]) rfl dX0_copyFrom_85 ?_
  refine j_aload_n C dX0_copyFrom_88 1 rfl ?_
  refine j_get C kin0 rfl 2 rfl 11 (by decide) kw_63 rfl (v := .ref g) rfl dX0_copyFrom_89 ?_
  refine j_iconst (v := 0) C dX0_copyFrom_92 (by decide) ?_
  refine j_aload_n C dX0_copyFrom_93 0 rfl ?_
  refine j_get C kin0 rfl 0 rfl 11 (by decide) kw_63 rfl (v := .ref h) rfl dX0_copyFrom_94 ?_
  refine j_iconst (v := 0) C dX0_copyFrom_97 (by decide) ?_
  refine j_bipush (v := 100) C dX0_copyFrom_98 (by decide) ?_
  refine j_copyb C kw_170 3 1 rfl rfl (Nat.le_of_ble_eq_true rfl) (Nat.le_of_ble_eq_true rfl) (Nat.le_of_ble_eq_true rfl) ([oD a h (upd (upd (upd (upd (upd (upd (upd (upd (upd (upd v.1 0 (o.1 0)) 1 (o.1 1)) 2 (o.1 2)) 3 (o.1 3)) 4 (o.1 4)) 5 (o.1 5)) 6 (o.1 6)) 7 (o.1 7)) 8 (o.1 8)) 9 (o.1 9), o.2), aB G h q, oD b g o, aB G g q]) rfl dX0_copyFrom_100 ?_
  subst hQ; exact j_vret C hr hk rfl dX0_copyFrom_103
set_option maxRecDepth 100000 in
set_option maxHeartbeats 4000000 in
theorem m_X3_copyFrom (l : Launch) (G : GG) (ad bd : Nat → Nat) (x : StV) (y : StV)  : CtV l yX3_copyFrom cX3_copyFrom 3 (none : Option Jvm.ClassFile.FieldType) (RM 2) G [.ref (ad 0), .ref (bd 0)] (fl [cSt G ad x, cSt G bd y]) (fl [cSt G ad y, cSt G bd y]) := by
  refine ct_V RX3 [(0, .ref (ad 0)), (1, .ref (bd 0))] rfl (by decide +kernel) (Nat.le_of_ble_eq_true rfl) rfl ?_
  intro p e s m args below meth c A C hr hk hnm
  generalize hQ : (MQ below (PostV G A (fl [cSt G ad y, cSt G bd y])) args s (RM 2).cells (RM 2).slots A) = Q
  refine j_w ([oS (ad 0) (ad 1) (ad 2) x.1, aI G (ad 1) 7 x.2.1, aD G (ad 2) 4 (fun k => some (ad (3 + 2 * k))), oD (ad 3) (ad 4) (x.2.2.1 0), aB G (ad 4) (x.2.2.2 0), oD (ad 5) (ad 6) (x.2.2.1 1), aB G (ad 6) (x.2.2.2 1), oD (ad 7) (ad 8) (x.2.2.1 2), aB G (ad 8) (x.2.2.2 2), oD (ad 9) (ad 10) (x.2.2.1 3), aB G (ad 10) (x.2.2.2 3), oS (bd 0) (bd 1) (bd 2) y.1, aI G (bd 1) 7 y.2.1, aD G (bd 2) 4 (fun k => some (bd (3 + 2 * k))), oD (bd 3) (bd 4) (y.2.2.1 0), aB G (bd 4) (y.2.2.2 0), oD (bd 5) (bd 6) (y.2.2.1 1), aB G (bd 6) (y.2.2.2 1), oD (bd 7) (bd 8) (y.2.2.1 2), aB G (bd 8) (y.2.2.2 2), oD (bd 9) (bd 10) (y.2.2.1 3), aB G (bd 10) (y.2.2.2 3)]) rfl ?_
  refine j_aload_n C dX3_copyFrom_0 1 rfl ?_
  refine j_get C kin3 rfl 11 rfl 0 (by decide) kw_78 rfl (v := .ref (bd 1)) rfl dX3_copyFrom_1 ?_
  refine j_iconst (v := 0) C dX3_copyFrom_4 (by decide) ?_
  refine j_aload_n C dX3_copyFrom_5 0 rfl ?_
  refine j_get C kin3 rfl 0 rfl 0 (by decide) kw_78 rfl (v := .ref (ad 1)) rfl dX3_copyFrom_6 ?_
  refine j_iconst (v := 0) C dX3_copyFrom_9 (by decide) ?_
  refine j_bipush (v := 7) C dX3_copyFrom_10 (by decide) ?_
  refine j_copyI C kw_26 12 1 rfl rfl (Nat.le_of_ble_eq_true rfl) (Nat.le_of_ble_eq_true rfl) (Nat.le_of_ble_eq_true rfl) ([oS (ad 0) (ad 1) (ad 2) x.1, aI G (ad 1) 7 y.2.1, aD G (ad 2) 4 (fun k => some (ad (3 + 2 * k))), oD (ad 3) (ad 4) (x.2.2.1 0), aB G (ad 4) (x.2.2.2 0), oD (ad 5) (ad 6) (x.2.2.1 1), aB G (ad 6) (x.2.2.2 1), oD (ad 7) (ad 8) (x.2.2.1 2), aB G (ad 8) (x.2.2.2 2), oD (ad 9) (ad 10) (x.2.2.1 3), aB G (ad 10) (x.2.2.2 3), oS (bd 0) (bd 1) (bd 2) y.1, aI G (bd 1) 7 y.2.1, aD G (bd 2) 4 (fun k => some (bd (3 + 2 * k))), oD (bd 3) (bd 4) (y.2.2.1 0), aB G (bd 4) (y.2.2.2 0), oD (bd 5) (bd 6) (y.2.2.1 1), aB G (bd 6) (y.2.2.2 1), oD (bd 7) (bd 8) (y.2.2.1 2), aB G (bd 8) (y.2.2.2 2), oD (bd 9) (bd 10) (y.2.2.1 3), aB G (bd 10) (y.2.2.2 3)]) rfl dX3_copyFrom_12 ?_
  refine j_iconst (v := 0) C dX3_copyFrom_15 (by decide) ?_
  refine j_istore_n C [(2, .int 0), (0, .ref (ad 0)), (1, .ref (bd 0))] dX3_copyFrom_16 (by decide) rfl ?_
  refine j_iload_n C dX3_copyFrom_17 0 rfl ?_
  refine j_iconst (v := 4) C dX3_copyFrom_18 (by decide) ?_
  refine j_icmp_ge (tgt := 43) C dX3_copyFrom_19 (by decide) (fun h => absurd h (by decide)) (fun _ => ?_)
  refine j_aload_n C dX3_copyFrom_22 1 rfl ?_
  refine j_get C kin3 rfl 0 rfl 1 (by decide) kw_80 rfl (v := .ref (ad 2)) rfl dX3_copyFrom_23 ?_
  refine j_iload_n C dX3_copyFrom_26 0 rfl ?_
  refine j_aaldD C 2 rfl (vin_lit rfl) (y := ad 3) rfl dX3_copyFrom_27 ?_
  refine j_aload_n C dX3_copyFrom_28 2 rfl ?_
  refine j_get C kin3 rfl 11 rfl 1 (by decide) kw_80 rfl (v := .ref (bd 2)) rfl dX3_copyFrom_29 ?_
  refine j_iload_n C dX3_copyFrom_32 0 rfl ?_
  refine j_aaldD C 13 rfl (vin_lit rfl) (y := bd 3) rfl dX3_copyFrom_33 ?_
  refine j_callV_v (wc' := [oD (ad 3) (ad 4) (y.2.2.1 0), aB G (ad 4) (y.2.2.2 0), oD (bd 3) (bd 4) (y.2.2.1 0), aB G (bd 4) (y.2.2.2 0)]) C (m_X0_copyFrom l G (ad 3) (bd 3) (ad 4) (bd 4) (x.2.2.1 0) (x.2.2.2 0) (y.2.2.1 0) (y.2.2.2 0)) rfl 0 rfl 1 (gV kw_166 kw_167 kw_168 kw_4 kw_169) (by decide +kernel) ⟨(Nat.le_of_ble_eq_true rfl), (Nat.le_of_ble_eq_true rfl)⟩ rfl rfl (Nat.le_of_ble_eq_true rfl) dX3_copyFrom_34 ⟨(Nat.le_of_ble_eq_true rfl), (Nat.le_of_ble_eq_true rfl)⟩ [oS (ad 0) (ad 1) (ad 2) x.1, aI G (ad 1) 7 y.2.1, aD G (ad 2) 4 (fun k => some (ad (3 + 2 * k))), oD (ad 5) (ad 6) (x.2.2.1 1), aB G (ad 6) (x.2.2.2 1), oD (ad 7) (ad 8) (x.2.2.1 2), aB G (ad 8) (x.2.2.2 2), oD (ad 9) (ad 10) (x.2.2.1 3), aB G (ad 10) (x.2.2.2 3), oS (bd 0) (bd 1) (bd 2) y.1, aI G (bd 1) 7 y.2.1, aD G (bd 2) 4 (fun k => some (bd (3 + 2 * k))), oD (bd 5) (bd 6) (y.2.2.1 1), aB G (bd 6) (y.2.2.2 1), oD (bd 7) (bd 8) (y.2.2.1 2), aB G (bd 8) (y.2.2.2 2), oD (bd 9) (bd 10) (y.2.2.1 3), aB G (bd 10) (y.2.2.2 3)] [oD (ad 3) (ad 4) (y.2.2.1 0), aB G (ad 4) (y.2.2.2 0), oD (bd 3) (bd 4) (y.2.2.1 0), aB G (bd 4) (y.2.2.2 0), oS (ad 0) (ad 1) (ad 2) x.1, aI G (ad 1) 7 y.2.1, aD G (ad 2) 4 (fun k => some (ad (3 + 2 * k))), oD (ad 5) (ad 6) (x.2.2.1 1), aB G (ad 6) (x.2.2.2 1), oD (ad 7) (ad 8) (x.2.2.1 2), aB G (ad 8) (x.2.2.2 2), oD (ad 9) (ad 10) (x.2.2.1 3), aB G (ad 10) (x.2.2.2 3), oS (bd 0) (bd 1) (bd 2) y.1, aI G (bd 1) 7 y.2.1, aD G (bd 2) 4 (fun k => some (bd (3 + 2 * k))), oD (bd 5) (bd 6) (y.2.2.1 1), aB G (bd 6) (y.2.2.2 1), oD (bd 7) (bd 8) (y.2.2.1 2), aB G (bd 8) (y.2.2.2 2), oD (bd 9) (bd 10) (y.2.2.1 3), aB G (bd 10) (y.2.2.2 3)] (perm_idx [3, 4, 14, 15, 0, 1, 2, 5, 6, 7, 8, 9, 10, 11, 12, 13, 16, 17, 18, 19, 20, 21] 22 rfl (by decide +kernel) rfl) rfl ?_
  refine j_iinc (v := 1) C [(2, .int 1), (0, .ref (ad 0)), (1, .ref (bd 0))] dX3_copyFrom_37 (k := 0) rfl (by decide) (by decide) rfl ?_
  refine j_goto (tgt := 17) C dX3_copyFrom_40 (by decide) ?_
  refine j_iload_n C dX3_copyFrom_17 0 rfl ?_
  refine j_iconst (v := 4) C dX3_copyFrom_18 (by decide) ?_
  refine j_icmp_ge (tgt := 43) C dX3_copyFrom_19 (by decide) (fun h => absurd h (by decide)) (fun _ => ?_)
  refine j_aload_n C dX3_copyFrom_22 1 rfl ?_
  refine j_get C kin3 rfl 4 rfl 1 (by decide) kw_80 rfl (v := .ref (ad 2)) rfl dX3_copyFrom_23 ?_
  refine j_iload_n C dX3_copyFrom_26 0 rfl ?_
  refine j_aaldD C 6 rfl (vin_lit rfl) (y := ad 5) rfl dX3_copyFrom_27 ?_
  refine j_aload_n C dX3_copyFrom_28 2 rfl ?_
  refine j_get C kin3 rfl 13 rfl 1 (by decide) kw_80 rfl (v := .ref (bd 2)) rfl dX3_copyFrom_29 ?_
  refine j_iload_n C dX3_copyFrom_32 0 rfl ?_
  refine j_aaldD C 15 rfl (vin_lit rfl) (y := bd 5) rfl dX3_copyFrom_33 ?_
  refine j_callV_v (wc' := [oD (ad 5) (ad 6) (y.2.2.1 1), aB G (ad 6) (y.2.2.2 1), oD (bd 5) (bd 6) (y.2.2.1 1), aB G (bd 6) (y.2.2.2 1)]) C (m_X0_copyFrom l G (ad 5) (bd 5) (ad 6) (bd 6) (x.2.2.1 1) (x.2.2.2 1) (y.2.2.1 1) (y.2.2.2 1)) rfl 0 rfl 1 (gV kw_166 kw_167 kw_168 kw_4 kw_169) (by decide +kernel) ⟨(Nat.le_of_ble_eq_true rfl), (Nat.le_of_ble_eq_true rfl)⟩ rfl rfl (Nat.le_of_ble_eq_true rfl) dX3_copyFrom_34 ⟨(Nat.le_of_ble_eq_true rfl), (Nat.le_of_ble_eq_true rfl)⟩ [oD (ad 3) (ad 4) (y.2.2.1 0), aB G (ad 4) (y.2.2.2 0), oD (bd 3) (bd 4) (y.2.2.1 0), aB G (bd 4) (y.2.2.2 0), oS (ad 0) (ad 1) (ad 2) x.1, aI G (ad 1) 7 y.2.1, aD G (ad 2) 4 (fun k => some (ad (3 + 2 * k))), oD (ad 7) (ad 8) (x.2.2.1 2), aB G (ad 8) (x.2.2.2 2), oD (ad 9) (ad 10) (x.2.2.1 3), aB G (ad 10) (x.2.2.2 3), oS (bd 0) (bd 1) (bd 2) y.1, aI G (bd 1) 7 y.2.1, aD G (bd 2) 4 (fun k => some (bd (3 + 2 * k))), oD (bd 7) (bd 8) (y.2.2.1 2), aB G (bd 8) (y.2.2.2 2), oD (bd 9) (bd 10) (y.2.2.1 3), aB G (bd 10) (y.2.2.2 3)] [oD (ad 5) (ad 6) (y.2.2.1 1), aB G (ad 6) (y.2.2.2 1), oD (bd 5) (bd 6) (y.2.2.1 1), aB G (bd 6) (y.2.2.2 1), oD (ad 3) (ad 4) (y.2.2.1 0), aB G (ad 4) (y.2.2.2 0), oD (bd 3) (bd 4) (y.2.2.1 0), aB G (bd 4) (y.2.2.2 0), oS (ad 0) (ad 1) (ad 2) x.1, aI G (ad 1) 7 y.2.1, aD G (ad 2) 4 (fun k => some (ad (3 + 2 * k))), oD (ad 7) (ad 8) (x.2.2.1 2), aB G (ad 8) (x.2.2.2 2), oD (ad 9) (ad 10) (x.2.2.1 3), aB G (ad 10) (x.2.2.2 3), oS (bd 0) (bd 1) (bd 2) y.1, aI G (bd 1) 7 y.2.1, aD G (bd 2) 4 (fun k => some (bd (3 + 2 * k))), oD (bd 7) (bd 8) (y.2.2.1 2), aB G (bd 8) (y.2.2.2 2), oD (bd 9) (bd 10) (y.2.2.1 3), aB G (bd 10) (y.2.2.2 3)] (perm_idx [7, 8, 16, 17, 0, 1, 2, 3, 4, 5, 6, 9, 10, 11, 12, 13, 14, 15, 18, 19, 20, 21] 22 rfl (by decide +kernel) rfl) rfl ?_
  refine j_iinc (v := 2) C [(2, .int 2), (0, .ref (ad 0)), (1, .ref (bd 0))] dX3_copyFrom_37 (k := 0) rfl (by decide) (by decide) rfl ?_
  refine j_goto (tgt := 17) C dX3_copyFrom_40 (by decide) ?_
  refine j_iload_n C dX3_copyFrom_17 0 rfl ?_
  refine j_iconst (v := 4) C dX3_copyFrom_18 (by decide) ?_
  refine j_icmp_ge (tgt := 43) C dX3_copyFrom_19 (by decide) (fun h => absurd h (by decide)) (fun _ => ?_)
  refine j_aload_n C dX3_copyFrom_22 1 rfl ?_
  refine j_get C kin3 rfl 8 rfl 1 (by decide) kw_80 rfl (v := .ref (ad 2)) rfl dX3_copyFrom_23 ?_
  refine j_iload_n C dX3_copyFrom_26 0 rfl ?_
  refine j_aaldD C 10 rfl (vin_lit rfl) (y := ad 7) rfl dX3_copyFrom_27 ?_
  refine j_aload_n C dX3_copyFrom_28 2 rfl ?_
  refine j_get C kin3 rfl 15 rfl 1 (by decide) kw_80 rfl (v := .ref (bd 2)) rfl dX3_copyFrom_29 ?_
  refine j_iload_n C dX3_copyFrom_32 0 rfl ?_
  refine j_aaldD C 17 rfl (vin_lit rfl) (y := bd 7) rfl dX3_copyFrom_33 ?_
  refine j_callV_v (wc' := [oD (ad 7) (ad 8) (y.2.2.1 2), aB G (ad 8) (y.2.2.2 2), oD (bd 7) (bd 8) (y.2.2.1 2), aB G (bd 8) (y.2.2.2 2)]) C (m_X0_copyFrom l G (ad 7) (bd 7) (ad 8) (bd 8) (x.2.2.1 2) (x.2.2.2 2) (y.2.2.1 2) (y.2.2.2 2)) rfl 0 rfl 1 (gV kw_166 kw_167 kw_168 kw_4 kw_169) (by decide +kernel) ⟨(Nat.le_of_ble_eq_true rfl), (Nat.le_of_ble_eq_true rfl)⟩ rfl rfl (Nat.le_of_ble_eq_true rfl) dX3_copyFrom_34 ⟨(Nat.le_of_ble_eq_true rfl), (Nat.le_of_ble_eq_true rfl)⟩ [oD (ad 5) (ad 6) (y.2.2.1 1), aB G (ad 6) (y.2.2.2 1), oD (bd 5) (bd 6) (y.2.2.1 1), aB G (bd 6) (y.2.2.2 1), oD (ad 3) (ad 4) (y.2.2.1 0), aB G (ad 4) (y.2.2.2 0), oD (bd 3) (bd 4) (y.2.2.1 0), aB G (bd 4) (y.2.2.2 0), oS (ad 0) (ad 1) (ad 2) x.1, aI G (ad 1) 7 y.2.1, aD G (ad 2) 4 (fun k => some (ad (3 + 2 * k))), oD (ad 9) (ad 10) (x.2.2.1 3), aB G (ad 10) (x.2.2.2 3), oS (bd 0) (bd 1) (bd 2) y.1, aI G (bd 1) 7 y.2.1, aD G (bd 2) 4 (fun k => some (bd (3 + 2 * k))), oD (bd 9) (bd 10) (y.2.2.1 3), aB G (bd 10) (y.2.2.2 3)] [oD (ad 7) (ad 8) (y.2.2.1 2), aB G (ad 8) (y.2.2.2 2), oD (bd 7) (bd 8) (y.2.2.1 2), aB G (bd 8) (y.2.2.2 2), oD (ad 5) (ad 6) (y.2.2.1 1), aB G (ad 6) (y.2.2.2 1), oD (bd 5) (bd 6) (y.2.2.1 1), aB G (bd 6) (y.2.2.2 1), oD (ad 3) (ad 4) (y.2.2.1 0), aB G (ad 4) (y.2.2.2 0), oD (bd 3) (bd 4) (y.2.2.1 0), aB G (bd 4) (y.2.2.2 0), oS (ad 0) (ad 1) (ad 2) x.1, aI G (ad 1) 7 y.2.1, aD G (ad 2) 4 (fun k => some (ad (3 + 2 * k))), oD (ad 9) (ad 10) (x.2.2.1 3), aB G (ad 10) (x.2.2.2 3), oS (bd 0) (bd 1) (bd 2) y.1, aI G (bd 1) 7 y.2.1, aD G (bd 2) 4 (fun k => some (bd (3 + 2 * k))), oD (bd 9) (bd 10) (y.2.2.1 3), aB G (bd 10) (y.2.2.2 3)] (perm_idx [11, 12, 18, 19, 0, 1, 2, 3, 4, 5, 6, 7, 8, 9, 10, 13, 14, 15, 16, 17, 20, 21] 22 rfl (by decide +kernel) rfl) rfl ?_
  refine j_iinc (v := 3) C [(2, .int 3), (0, .ref (ad 0)), (1, .ref (bd 0))] dX3_copyFrom_37 (k := 0) rfl (by decide) (by decide) rfl ?_
  refine j_goto (tgt := 17) C dX3_copyFrom_40 (by decide) ?_
  refine j_iload_n C dX3_copyFrom_17 0 rfl ?_
  refine j_iconst (v := 4) C dX3_copyFrom_18 (by decide) ?_
  refine j_icmp_ge (tgt := 43) C dX3_copyFrom_19 (by decide) (fun h => absurd h (by decide)) (fun _ => ?_)
  refine j_aload_n C dX3_copyFrom_22 1 rfl ?_
  refine j_get C kin3 rfl 12 rfl 1 (by decide) kw_80 rfl (v := .ref (ad 2)) rfl dX3_copyFrom_23 ?_
  refine j_iload_n C dX3_copyFrom_26 0 rfl ?_
  refine j_aaldD C 14 rfl (vin_lit rfl) (y := ad 9) rfl dX3_copyFrom_27 ?_
  refine j_aload_n C dX3_copyFrom_28 2 rfl ?_
  refine j_get C kin3 rfl 17 rfl 1 (by decide) kw_80 rfl (v := .ref (bd 2)) rfl dX3_copyFrom_29 ?_
  refine j_iload_n C dX3_copyFrom_32 0 rfl ?_
  refine j_aaldD C 19 rfl (vin_lit rfl) (y := bd 9) rfl dX3_copyFrom_33 ?_
  refine j_callV_v (wc' := [oD (ad 9) (ad 10) (y.2.2.1 3), aB G (ad 10) (y.2.2.2 3), oD (bd 9) (bd 10) (y.2.2.1 3), aB G (bd 10) (y.2.2.2 3)]) C (m_X0_copyFrom l G (ad 9) (bd 9) (ad 10) (bd 10) (x.2.2.1 3) (x.2.2.2 3) (y.2.2.1 3) (y.2.2.2 3)) rfl 0 rfl 1 (gV kw_166 kw_167 kw_168 kw_4 kw_169) (by decide +kernel) ⟨(Nat.le_of_ble_eq_true rfl), (Nat.le_of_ble_eq_true rfl)⟩ rfl rfl (Nat.le_of_ble_eq_true rfl) dX3_copyFrom_34 ⟨(Nat.le_of_ble_eq_true rfl), (Nat.le_of_ble_eq_true rfl)⟩ [oD (ad 7) (ad 8) (y.2.2.1 2), aB G (ad 8) (y.2.2.2 2), oD (bd 7) (bd 8) (y.2.2.1 2), aB G (bd 8) (y.2.2.2 2), oD (ad 5) (ad 6) (y.2.2.1 1), aB G (ad 6) (y.2.2.2 1), oD (bd 5) (bd 6) (y.2.2.1 1), aB G (bd 6) (y.2.2.2 1), oD (ad 3) (ad 4) (y.2.2.1 0), aB G (ad 4) (y.2.2.2 0), oD (bd 3) (bd 4) (y.2.2.1 0), aB G (bd 4) (y.2.2.2 0), oS (ad 0) (ad 1) (ad 2) x.1, aI G (ad 1) 7 y.2.1, aD G (ad 2) 4 (fun k => some (ad (3 + 2 * k))), oS (bd 0) (bd 1) (bd 2) y.1, aI G (bd 1) 7 y.2.1, aD G (bd 2) 4 (fun k => some (bd (3 + 2 * k)))] [oD (ad 9) (ad 10) (y.2.2.1 3), aB G (ad 10) (y.2.2.2 3), oD (bd 9) (bd 10) (y.2.2.1 3), aB G (bd 10) (y.2.2.2 3), oD (ad 7) (ad 8) (y.2.2.1 2), aB G (ad 8) (y.2.2.2 2), oD (bd 7) (bd 8) (y.2.2.1 2), aB G (bd 8) (y.2.2.2 2), oD (ad 5) (ad 6) (y.2.2.1 1), aB G (ad 6) (y.2.2.2 1), oD (bd 5) (bd 6) (y.2.2.1 1), aB G (bd 6) (y.2.2.2 1), oD (ad 3) (ad 4) (y.2.2.1 0), aB G (ad 4) (y.2.2.2 0), oD (bd 3) (bd 4) (y.2.2.1 0), aB G (bd 4) (y.2.2.2 0), oS (ad 0) (ad 1) (ad 2) x.1, aI G (ad 1) 7 y.2.1, aD G (ad 2) 4 (fun k => some (ad (3 + 2 * k))), oS (bd 0) (bd 1) (bd 2) y.1, aI G (bd 1) 7 y.2.1, aD G (bd 2) 4 (fun k => some (bd (3 + 2 * k)))] (perm_idx [15, 16, 20, 21, 0, 1, 2, 3, 4, 5, 6, 7, 8, 9, 10, 11, 12, 13, 14, 17, 18, 19] 22 rfl (by decide +kernel) rfl) rfl ?_
  refine j_iinc (v := 4) C [(2, .int 4), (0, .ref (ad 0)), (1, .ref (bd 0))] dX3_copyFrom_37 (k := 0) rfl (by decide) (by decide) rfl ?_
  refine j_goto (tgt := 17) C dX3_copyFrom_40 (by decide) ?_
  refine j_iload_n C dX3_copyFrom_17 0 rfl ?_
  refine j_iconst (v := 4) C dX3_copyFrom_18 (by decide) ?_
  refine j_icmp_ge (tgt := 43) C dX3_copyFrom_19 (by decide) (fun _ => ?_) (fun h => absurd h (by decide))
  refine j_aload_n C dX3_copyFrom_43 1 rfl ?_
  refine j_aload_n C dX3_copyFrom_44 2 rfl ?_
  refine j_get C kin3 rfl 19 rfl 2 (by decide) kw_82 rfl (v := .int (y.1 2)) rfl dX3_copyFrom_45 ?_
  refine j_put C kin3 rfl 16 rfl 2 (by decide) kw_82 rfl tyX3 tyX3_ok nmX3 rfl rfl rfl (Nat.le_of_ble_eq_true rfl) ([oD (ad 9) (ad 10) (y.2.2.1 3), aB G (ad 10) (y.2.2.2 3), oD (bd 9) (bd 10) (y.2.2.1 3), aB G (bd 10) (y.2.2.2 3), oD (ad 7) (ad 8) (y.2.2.1 2), aB G (ad 8) (y.2.2.2 2), oD (bd 7) (bd 8) (y.2.2.1 2), aB G (bd 8) (y.2.2.2 2), oD (ad 5) (ad 6) (y.2.2.1 1), aB G (ad 6) (y.2.2.2 1), oD (bd 5) (bd 6) (y.2.2.1 1), aB G (bd 6) (y.2.2.2 1), oD (ad 3) (ad 4) (y.2.2.1 0), aB G (ad 4) (y.2.2.2 0), oD (bd 3) (bd 4) (y.2.2.1 0), aB G (bd 4) (y.2.2.2 0), oS (ad 0) (ad 1) (ad 2) (upd x.1 2 (y.1 2)), aI G (ad 1) 7 y.2.1, aD G (ad 2) 4 (fun k => some (ad (3 + 2 * k))), oS (bd 0) (bd 1) (bd 2) y.1, aI G (bd 1) 7 y.2.1, aD G (bd 2) 4 (fun k => some (bd (3 + 2 * k)))]) rfl dX3_copyFrom_48 ?_
  refine j_aload_n C dX3_copyFrom_51 1 rfl ?_
  refine j_aload_n C dX3_copyFrom_52 2 rfl ?_
  refine j_get C kin3 rfl 19 rfl 3 (by decide) kw_84 rfl (v := .int (y.1 3)) rfl dX3_copyFrom_53 ?_
  refine j_put C kin3 rfl 16 rfl 3 (by decide) kw_84 rfl tyX3 tyX3_ok nmX3 rfl rfl rfl (Nat.le_of_ble_eq_true rfl) ([oD (ad 9) (ad 10) (y.2.2.1 3), aB G (ad 10) (y.2.2.2 3), oD (bd 9) (bd 10) (y.2.2.1 3), aB G (bd 10) (y.2.2.2 3), oD (ad 7) (ad 8) (y.2.2.1 2), aB G (ad 8) (y.2.2.2 2), oD (bd 7) (bd 8) (y.2.2.1 2), aB G (bd 8) (y.2.2.2 2), oD (ad 5) (ad 6) (y.2.2.1 1), aB G (ad 6) (y.2.2.2 1), oD (bd 5) (bd 6) (y.2.2.1 1), aB G (bd 6) (y.2.2.2 1), oD (ad 3) (ad 4) (y.2.2.1 0), aB G (ad 4) (y.2.2.2 0), oD (bd 3) (bd 4) (y.2.2.1 0), aB G (bd 4) (y.2.2.2 0), oS (ad 0) (ad 1) (ad 2) (upd (upd x.1 2 (y.1 2)) 3 (y.1 3)), aI G (ad 1) 7 y.2.1, aD G (ad 2) 4 (fun k => some (ad (3 + 2 * k))), oS (bd 0) (bd 1) (bd 2) y.1, aI G (bd 1) 7 y.2.1, aD G (bd 2) 4 (fun k => some (bd (3 + 2 * k)))]) rfl dX3_copyFrom_56 ?_
  refine j_aload_n C dX3_copyFrom_59 1 rfl ?_
  refine j_aload_n C dX3_copyFrom_60 2 rfl ?_
  refine j_get C kin3 rfl 19 rfl 4 (by decide) kw_86 rfl (v := .int (y.1 4)) rfl dX3_copyFrom_61 ?_
  refine j_put C kin3 rfl 16 rfl 4 (by decide) kw_86 rfl tyX3 tyX3_ok nmX3 rfl rfl rfl (Nat.le_of_ble_eq_true rfl) ([oD (ad 9) (ad 10) (y.2.2.1 3), aB G (ad 10) (y.2.2.2 3), oD (bd 9) (bd 10) (y.2.2.1 3), aB G (bd 10) (y.2.2.2 3), oD (ad 7) (ad 8) (y.2.2.1 2), aB G (ad 8) (y.2.2.2 2), oD (bd 7) (bd 8) (y.2.2.1 2), aB G (bd 8) (y.2.2.2 2), oD (ad 5) (ad 6) (y.2.2.1 1), aB G (ad 6) (y.2.2.2 1), oD (bd 5) (bd 6) (y.2.2.1 1), aB G (bd 6) (y.2.2.2 1), oD (ad 3) (ad 4) (y.2.2.1 0), aB G (ad 4) (y.2.2.2 0), oD (bd 3) (bd 4) (y.2.2.1 0), aB G (bd 4) (y.2.2.2 0), oS (ad 0) (ad 1) (ad 2) (upd (upd (upd x.1 2 (y.1 2)) 3 (y.1 3)) 4 (y.1 4)), aI G (ad 1) 7 y.2.1, aD G (ad 2) 4 (fun k => some (ad (3 + 2 * k))), oS (bd 0) (bd 1) (bd 2) y.1, aI G (bd 1) 7 y.2.1, aD G (bd 2) 4 (fun k => some (bd (3 + 2 * k)))]) rfl dX3_copyFrom_64 ?_
  refine j_aload_n C dX3_copyFrom_67 1 rfl ?_
  refine j_aload_n C dX3_copyFrom_68 2 rfl ?_
  refine j_get C kin3 rfl 19 rfl 5 (by decide) kw_88 rfl (v := .int (y.1 5)) rfl dX3_copyFrom_69 ?_
  refine j_put C kin3 rfl 16 rfl 5 (by decide) kw_88 rfl tyX3 tyX3_ok nmX3 rfl rfl rfl (Nat.le_of_ble_eq_true rfl) ([oD (ad 9) (ad 10) (y.2.2.1 3), aB G (ad 10) (y.2.2.2 3), oD (bd 9) (bd 10) (y.2.2.1 3), aB G (bd 10) (y.2.2.2 3), oD (ad 7) (ad 8) (y.2.2.1 2), aB G (ad 8) (y.2.2.2 2), oD (bd 7) (bd 8) (y.2.2.1 2), aB G (bd 8) (y.2.2.2 2), oD (ad 5) (ad 6) (y.2.2.1 1), aB G (ad 6) (y.2.2.2 1), oD (bd 5) (bd 6) (y.2.2.1 1), aB G (bd 6) (y.2.2.2 1), oD (ad 3) (ad 4) (y.2.2.1 0), aB G (ad 4) (y.2.2.2 0), oD (bd 3) (bd 4) (y.2.2.1 0), aB G (bd 4) (y.2.2.2 0), oS (ad 0) (ad 1) (ad 2) (upd (upd (upd (upd x.1 2 (y.1 2)) 3 (y.1 3)) 4 (y.1 4)) 5 (y.1 5)), aI G (ad 1) 7 y.2.1, aD G (ad 2) 4 (fun k => some (ad (3 + 2 * k))), oS (bd 0) (bd 1) (bd 2) y.1, aI G (bd 1) 7 y.2.1, aD G (bd 2) 4 (fun k => some (bd (3 + 2 * k)))]) rfl dX3_copyFrom_72 ?_
  refine j_aload_n C dX3_copyFrom_75 1 rfl ?_
  refine j_aload_n C dX3_copyFrom_76 2 rfl ?_
  refine j_get C kin3 rfl 19 rfl 6 (by decide) kw_90 rfl (v := .int (y.1 6)) rfl dX3_copyFrom_77 ?_
  refine j_put C kin3 rfl 16 rfl 6 (by decide) kw_90 rfl tyX3 tyX3_ok nmX3 rfl rfl rfl (Nat.le_of_ble_eq_true rfl) ([oD (ad 9) (ad 10) (y.2.2.1 3), aB G (ad 10) (y.2.2.2 3), oD (bd 9) (bd 10) (y.2.2.1 3), aB G (bd 10) (y.2.2.2 3), oD (ad 7) (ad 8) (y.2.2.1 2), aB G (ad 8) (y.2.2.2 2), oD (bd 7) (bd 8) (y.2.2.1 2), aB G (bd 8) (y.2.2.2 2), oD (ad 5) (ad 6) (y.2.2.1 1), aB G (ad 6) (y.2.2.2 1), oD (bd 5) (bd 6) (y.2.2.1 1), aB G (bd 6) (y.2.2.2 1), oD (ad 3) (ad 4) (y.2.2.1 0), aB G (ad 4) (y.2.2.2 0), oD (bd 3) (bd 4) (y.2.2.1 0), aB G (bd 4) (y.2.2.2 0), oS (ad 0) (ad 1) (ad 2) (upd (upd (upd (upd (upd x.1 2 (y.1 2)) 3 (y.1 3)) 4 (y.1 4)) 5 (y.1 5)) 6 (y.1 6)), aI G (ad 1) 7 y.2.1, aD G (ad 2) 4 (fun k => some (ad (3 + 2 * k))), oS (bd 0) (bd 1) (bd 2) y.1, aI G (bd 1) 7 y.2.1, aD G (bd 2) 4 (fun k => some (bd (3 + 2 * k)))]) rfl dX3_copyFrom_80 ?_
  refine j_perm ([oS (ad 0) (ad 1) (ad 2) (upd (upd (upd (upd (upd x.1 2 (y.1 2)) 3 (y.1 3)) 4 (y.1 4)) 5 (y.1 5)) 6 (y.1 6)), aI G (ad 1) 7 y.2.1, aD G (ad 2) 4 (fun k => some (ad (3 + 2 * k))), oD (ad 3) (ad 4) (y.2.2.1 0), aB G (ad 4) (y.2.2.2 0), oD (ad 5) (ad 6) (y.2.2.1 1), aB G (ad 6) (y.2.2.2 1), oD (ad 7) (ad 8) (y.2.2.1 2), aB G (ad 8) (y.2.2.2 2), oD (ad 9) (ad 10) (y.2.2.1 3), aB G (ad 10) (y.2.2.2 3), oS (bd 0) (bd 1) (bd 2) y.1, aI G (bd 1) 7 y.2.1, aD G (bd 2) 4 (fun k => some (bd (3 + 2 * k))), oD (bd 3) (bd 4) (y.2.2.1 0), aB G (bd 4) (y.2.2.2 0), oD (bd 5) (bd 6) (y.2.2.1 1), aB G (bd 6) (y.2.2.2 1), oD (bd 7) (bd 8) (y.2.2.1 2), aB G (bd 8) (y.2.2.2 2), oD (bd 9) (bd 10) (y.2.2.1 3), aB G (bd 10) (y.2.2.2 3)]) (perm_idx [16, 17, 18, 12, 13, 8, 9, 4, 5, 0, 1, 19, 20, 21, 14, 15, 10, 11, 6, 7, 2, 3] 22 rfl (by decide +kernel) rfl) ?_
  subst hQ; exact j_vret C hr hk rfl dX3_copyFrom_83
end
section
/-! THE HISTORY -/
noncomputable def f_X1_prepare_sv (h : Nat → Int32) (sv : Nat → StV) (xp : StV) : (Nat → StV) := updF sv ((h 1).toNatClampNeg) xp
set_option maxRecDepth 100000 in
set_option maxHeartbeats 4000000 in
theorem m_X1_prepare (l : Launch) (G : GG) (a ha : Nat) (AP : Nat → Nat) (AH : Nat → Nat → Nat) (h : Nat → Int32) (sv : Nat → StV) (xp : StV) (h7 : vp_in (h 1) 7) : CtV l yX1_prepare cX1_prepare 2 (none : Option Jvm.ClassFile.FieldType) (RM 3) G [.ref a, .ref (AP 0)] (fl [[oH a ha h], [aS G ha 7 (fun k => some (AH k 0))], cMany G AH sv 7, cSt G AP xp]) (fl [[oH a ha h], [aS G ha 7 (fun k => some (AH k 0))], cMany G AH (f_X1_prepare_sv h sv xp) 7, cSt G AP xp]) := by
  refine ct_V RX1 [(0, .ref a), (1, .ref (AP 0))] rfl (by decide +kernel) (Nat.le_of_ble_eq_true rfl) rfl ?_
  intro p e s m args below meth c A C hr hk hnm
  generalize hQ : (MQ below (PostV G A (fl [[oH a ha h], [aS G ha 7 (fun k => some (AH k 0))], cMany G AH (f_X1_prepare_sv h sv xp) 7, cSt G AP xp])) args s (RM 3).cells (RM 3).slots A) = Q
  refine j_aload_n C dX1_prepare_0 0 rfl ?_
  refine j_get C kin1 rfl 0 rfl 0 (by decide) kw_107 rfl (v := .ref ha) rfl dX1_prepare_1 ?_
  refine j_aload_n C dX1_prepare_4 0 rfl ?_
  refine j_get C kin1 rfl 0 rfl 1 (by decide) kw_108 rfl (v := .int (h 1)) rfl dX1_prepare_5 ?_
  refine j_perm (fl [cMany G AH sv 7, [oH a ha h], [aS G ha 7 (fun k => some (AH k 0))], cSt G AP xp]) (bperm [2, 0, 1, 3] 4 rfl (by decide +kernel) rfl) ?_
  refine j_perm (fl [cSt G (AH ((h 1).toNatClampNeg)) (sv ((h 1).toNatClampNeg)), cManyR G AH sv 7 ((h 1).toNatClampNeg), [oH a ha h], [aS G ha 7 (fun k => some (AH k 0))], cSt G AP xp]) (open_at (openMany G AH sv 7 ((h 1).toNatClampNeg) (vin_nat h7))) ?_
  refine j_perm (fl [[oH a ha h], [aS G ha 7 (fun k => some (AH k 0))], cSt G (AH ((h 1).toNatClampNeg)) (sv ((h 1).toNatClampNeg)), cManyR G AH sv 7 ((h 1).toNatClampNeg), cSt G AP xp]) (bperm [2, 3, 0, 1, 4] 5 rfl (by decide +kernel) rfl) ?_
  refine j_aaldS C 1 rfl h7 (y := AH ((h 1).toNatClampNeg) 0) rfl dX1_prepare_8 ?_
  refine j_aload_n C dX1_prepare_9 1 rfl ?_
  refine j_callV_v (wc' := fl [cSt G (AH ((h 1).toNatClampNeg)) xp, cSt G AP xp]) C (m_X3_copyFrom l G (AH ((h 1).toNatClampNeg)) AP (sv ((h 1).toNatClampNeg)) xp) rfl 0 rfl 1 (gV kw_162 kw_163 kw_164 kw_2 kw_165) (by decide +kernel) ⟨(Nat.le_of_ble_eq_true rfl), (Nat.le_of_ble_eq_true rfl)⟩ rfl rfl (Nat.le_of_ble_eq_true rfl) dX1_prepare_10 ⟨(Nat.le_of_ble_eq_true rfl), (Nat.le_of_ble_eq_true rfl)⟩ (fl [[oH a ha h], [aS G ha 7 (fun k => some (AH k 0))], cManyR G AH sv 7 ((h 1).toNatClampNeg)]) (fl [cSt G (AH ((h 1).toNatClampNeg)) xp, cSt G AP xp, [oH a ha h], [aS G ha 7 (fun k => some (AH k 0))], cManyR G AH sv 7 ((h 1).toNatClampNeg)]) (bperm2 (bC := [cSt G (AH ((h 1).toNatClampNeg)) (sv ((h 1).toNatClampNeg)), cSt G AP xp]) (bR := [[oH a ha h], [aS G ha 7 (fun k => some (AH k 0))], cManyR G AH sv 7 ((h 1).toNatClampNeg)]) [2, 4, 0, 1, 3] 5 rfl (by decide +kernel) rfl) (fl_app _ _) ?_
  refine j_perm (fl [cSt G (AH ((h 1).toNatClampNeg)) xp, cManyR G AH sv 7 ((h 1).toNatClampNeg), cSt G AP xp, [oH a ha h], [aS G ha 7 (fun k => some (AH k 0))]]) (bperm [0, 4, 1, 2, 3] 5 rfl (by decide +kernel) rfl) ?_
  refine j_perm (fl [cMany G AH (updF sv ((h 1).toNatClampNeg) xp) 7, cSt G AP xp, [oH a ha h], [aS G ha 7 (fun k => some (AH k 0))]]) (shut_at (bs := [cSt G (AH ((h 1).toNatClampNeg)) xp, cManyR G AH sv 7 ((h 1).toNatClampNeg)]) (closeMany G AH sv 7 ((h 1).toNatClampNeg) (vin_nat h7) _)) ?_
  refine j_perm (fl [[oH a ha h], [aS G ha 7 (fun k => some (AH k 0))], cMany G AH (updF sv ((h 1).toNatClampNeg) xp) 7, cSt G AP xp]) (bperm [2, 3, 0, 1] 4 rfl (by decide +kernel) rfl) ?_
  subst hQ; exact j_vret C hr hk (by rw [show f_X1_prepare_sv h sv xp = updF sv ((h 1).toNatClampNeg) xp from rfl]) dX1_prepare_13
noncomputable def f_X1_keepPrepared_x1 (h : Nat → Int32) : Int32 := (if 6 ≤ h 1 then 0 else (h 1) + 1)
noncomputable def f_X1_keepPrepared_h (h : Nat → Int32) : (Nat → Int32) := upd (upd h 1 (f_X1_keepPrepared_x1 h)) 2 (imin ((h 2) + 1) 6)
set_option maxRecDepth 100000 in
set_option maxHeartbeats 4000000 in
theorem m_X1_keepPrepared (l : Launch) (G : GG) (a ha : Nat) (h : Nat → Int32)  : CtV l yX1_keepPrepared cX1_keepPrepared 1 (none : Option Jvm.ClassFile.FieldType) (RM 1) G [.ref a] ([oH a ha h]) ([oH a ha (f_X1_keepPrepared_h h)]) := by
  refine ct_V RX1 [(0, .ref a)] rfl (by decide +kernel) (Nat.le_of_ble_eq_true rfl) rfl ?_
  intro p e s m args below meth c A C hr hk hnm
  generalize hQ : (MQ below (PostV G A ([oH a ha (f_X1_keepPrepared_h h)])) args s (RM 1).cells (RM 1).slots A) = Q
  refine j_aload_n C dX1_keepPrepared_0 0 rfl ?_
  refine j_aload_n C dX1_keepPrepared_1 0 rfl ?_
  refine j_get C kin1 rfl 0 rfl 1 (by decide) kw_108 rfl (v := .int (h 1)) rfl dX1_keepPrepared_2 ?_
  refine j_bipush (v := 6) C dX1_keepPrepared_5 (by decide) ?_
  have K20 : WJ p l e (RM 1) s m args below meth c G A 1 0 0 Q ([oH a ha h]) [(0, .ref a)] 20 [.int (f_X1_keepPrepared_x1 h), .ref a] := by
    generalize hw0 : f_X1_keepPrepared_x1 h = w0
    refine j_put C kin1 rfl 0 rfl 1 (by decide) kw_108 rfl tyX1 tyX1_ok nmX1 rfl rfl rfl (Nat.le_of_ble_eq_true rfl) ([oH a ha (upd h 1 w0)]) rfl dX1_keepPrepared_20 ?_
    refine j_aload_n C dX1_keepPrepared_23 0 rfl ?_
    refine j_aload_n C dX1_keepPrepared_24 0 rfl ?_
    refine j_get C kin1 rfl 0 rfl 2 (by decide) kw_109 rfl (v := .int (h 2)) rfl dX1_keepPrepared_25 ?_
    refine j_iconst (v := 1) C dX1_keepPrepared_28 (by decide) ?_
    refine j_iadd C dX1_keepPrepared_29 rfl ?_
    refine j_bipush (v := 6) C dX1_keepPrepared_30 (by decide) ?_
    refine j_mmin C kw_182 (Nat.le_of_ble_eq_true rfl) (Nat.le_of_ble_eq_true rfl) ⟨(Nat.le_of_ble_eq_true rfl), (Nat.le_of_ble_eq_true rfl)⟩ dX1_keepPrepared_32 (v := imin ((h 2) + 1) 6) (imin_eq _ _).symm ?_
    refine j_put C kin1 rfl 0 rfl 2 (by decide) kw_109 rfl tyX1 tyX1_ok nmX1 rfl rfl rfl (Nat.le_of_ble_eq_true rfl) ([oH a ha (upd (upd h 1 w0) 2 (imin ((h 2) + 1) 6))]) rfl dX1_keepPrepared_35 ?_
    subst hQ; subst hw0; exact j_vret C hr hk (by rw [show f_X1_keepPrepared_h h = upd (upd h 1 (f_X1_keepPrepared_x1 h)) 2 (imin ((h 2) + 1) 6) from rfl]) dX1_keepPrepared_38
  refine j_icmp_ge (tgt := 19) C dX1_keepPrepared_7 (by decide) (fun c7 => ?_) (fun c7 => ?_)
  · refine j_iconst (v := 0) C dX1_keepPrepared_19 (by decide) ?_
    exact j_eq rfl rfl (by rw [show f_X1_keepPrepared_x1 h = 0 from (if_pos c7)]) K20
  · refine j_aload_n C dX1_keepPrepared_10 0 rfl ?_
    refine j_get C kin1 rfl 0 rfl 1 (by decide) kw_108 rfl (v := .int (h 1)) rfl dX1_keepPrepared_11 ?_
    refine j_iconst (v := 1) C dX1_keepPrepared_14 (by decide) ?_
    refine j_iadd C dX1_keepPrepared_15 rfl ?_
    refine j_goto (tgt := 20) C dX1_keepPrepared_16 (by decide) ?_
    exact j_eq rfl rfl (by rw [show f_X1_keepPrepared_x1 h = (h 1) + 1 from (if_neg c7)]) K20
theorem vin_prev {k : Int32} (h : vp_in k 7) : vp_in (if k ≤ 0 then 6 else k - 1) 7 := by
  obtain ⟨j, hj, rfl⟩ := vp_in_of h (by decide)
  rcases (show j = 0 ∨ j = 1 ∨ j = 2 ∨ j = 3 ∨ j = 4 ∨ j = 5 ∨ j = 6 by omega) with rfl | rfl | rfl | rfl | rfl | rfl | rfl <;> exact vin_lit (by decide)
noncomputable def f_X1_bringBackLatest_x1 (h : Nat → Int32) (sv : Nat → StV) (xp : StV) : Int32 := (if h 1 ≤ 0 then 6 else (h 1) - 1)
noncomputable def f_X1_bringBackLatest_v3 (h : Nat → Int32) (sv : Nat → StV) (xp : StV) : (Nat → Int32) := (if h 2 ≤ 0 then h else upd (upd h 1 (f_X1_bringBackLatest_x1 h sv xp)) 2 ((h 2) - 1))
noncomputable def f_X1_bringBackLatest_v4 (h : Nat → Int32) (sv : Nat → StV) (xp : StV) : StV := (if h 2 ≤ 0 then xp else (sv (f_X1_bringBackLatest_x1 h sv xp).toNatClampNeg))
noncomputable def f_X1_bringBackLatest_h (h : Nat → Int32) (sv : Nat → StV) (xp : StV) : (Nat → Int32) := (f_X1_bringBackLatest_v3 h sv xp)
noncomputable def f_X1_bringBackLatest_xp (h : Nat → Int32) (sv : Nat → StV) (xp : StV) : StV := (f_X1_bringBackLatest_v4 h sv xp)
set_option maxRecDepth 100000 in
set_option maxHeartbeats 4000000 in
theorem m_X1_bringBackLatest (l : Launch) (G : GG) (a ha : Nat) (AP : Nat → Nat) (AH : Nat → Nat → Nat) (h : Nat → Int32) (sv : Nat → StV) (xp : StV) (h7 : vp_in (h 1) 7) : CtV l yX1_bringBackLatest cX1_bringBackLatest 2 (none : Option Jvm.ClassFile.FieldType) (RM 3) G [.ref a, .ref (AP 0)] (fl [[oH a ha h], [aS G ha 7 (fun k => some (AH k 0))], cMany G AH sv 7, cSt G AP xp]) (fl [[oH a ha (f_X1_bringBackLatest_h h sv xp)], [aS G ha 7 (fun k => some (AH k 0))], cMany G AH sv 7, cSt G AP (f_X1_bringBackLatest_xp h sv xp)]) := by
  refine ct_V RX1 [(0, .ref a), (1, .ref (AP 0))] rfl (by decide +kernel) (Nat.le_of_ble_eq_true rfl) rfl ?_
  intro p e s m args below meth c A C hr hk hnm
  generalize hQ : (MQ below (PostV G A (fl [[oH a ha (f_X1_bringBackLatest_h h sv xp)], [aS G ha 7 (fun k => some (AH k 0))], cMany G AH sv 7, cSt G AP (f_X1_bringBackLatest_xp h sv xp)])) args s (RM 3).cells (RM 3).slots A) = Q
  refine j_aload_n C dX1_bringBackLatest_0 0 rfl ?_
  refine j_get C kin1 rfl 0 rfl 2 (by decide) kw_109 rfl (v := .int (h 2)) rfl dX1_bringBackLatest_1 ?_
  have K52 : WJ p l e (RM 3) s m args below meth c G A 2 0 0 Q (fl [[oH a ha (f_X1_bringBackLatest_v3 h sv xp)], [aS G ha 7 (fun k => some (AH k 0))], cMany G AH sv 7, cSt G AP (f_X1_bringBackLatest_v4 h sv xp)]) [(0, .ref a), (1, .ref (AP 0))] 52 [] := by
    generalize hw1 : f_X1_bringBackLatest_v3 h sv xp = w1
    generalize hw2 : f_X1_bringBackLatest_v4 h sv xp = w2
    subst hQ; subst hw1 hw2; exact j_vret C hr hk (by rw [show f_X1_bringBackLatest_h h sv xp = (f_X1_bringBackLatest_v3 h sv xp) from rfl, show f_X1_bringBackLatest_xp h sv xp = (f_X1_bringBackLatest_v4 h sv xp) from rfl]) dX1_bringBackLatest_52
  refine j_if_le (tgt := 52) C dX1_bringBackLatest_4 (by decide) (fun c4 => ?_) (fun c4 => ?_)
  · exact j_eq (by rw [show f_X1_bringBackLatest_v3 h sv xp = h from (if_pos c4), show f_X1_bringBackLatest_v4 h sv xp = xp from (if_pos c4)]) rfl rfl K52
  · refine j_aload_n C dX1_bringBackLatest_7 0 rfl ?_
    refine j_aload_n C dX1_bringBackLatest_8 0 rfl ?_
    refine j_get C kin1 rfl 0 rfl 1 (by decide) kw_108 rfl (v := .int (h 1)) rfl dX1_bringBackLatest_9 ?_
    have K26 : WJ p l e (RM 3) s m args below meth c G A 2 0 0 Q (fl [[oH a ha h], [aS G ha 7 (fun k => some (AH k 0))], cMany G AH sv 7, cSt G AP xp]) [(0, .ref a), (1, .ref (AP 0))] 26 [.int (f_X1_bringBackLatest_x1 h sv xp), .ref a] := by
      generalize hw0 : f_X1_bringBackLatest_x1 h sv xp = w0
      refine j_put C kin1 rfl 0 rfl 1 (by decide) kw_108 rfl tyX1 tyX1_ok nmX1 rfl rfl rfl (Nat.le_of_ble_eq_true rfl) (fl [[oH a ha (upd h 1 w0)], [aS G ha 7 (fun k => some (AH k 0))], cMany G AH sv 7, cSt G AP xp]) rfl dX1_bringBackLatest_26 ?_
      refine j_aload_n C dX1_bringBackLatest_29 0 rfl ?_
      refine j_dup C dX1_bringBackLatest_30 rfl ?_
      refine j_get C kin1 rfl 0 rfl 2 (by decide) kw_109 rfl (v := .int (h 2)) rfl dX1_bringBackLatest_31 ?_
      refine j_iconst (v := 1) C dX1_bringBackLatest_34 (by decide) ?_
      refine j_isub C dX1_bringBackLatest_35 rfl ?_
      refine j_put C kin1 rfl 0 rfl 2 (by decide) kw_109 rfl tyX1 tyX1_ok nmX1 rfl rfl rfl (Nat.le_of_ble_eq_true rfl) (fl [[oH a ha (upd (upd h 1 w0) 2 ((h 2) - 1))], [aS G ha 7 (fun k => some (AH k 0))], cMany G AH sv 7, cSt G AP xp]) rfl dX1_bringBackLatest_36 ?_
      refine j_aload_n C dX1_bringBackLatest_39 1 rfl ?_
      refine j_aload_n C dX1_bringBackLatest_40 0 rfl ?_
      refine j_get C kin1 rfl 0 rfl 0 (by decide) kw_107 rfl (v := .ref ha) rfl dX1_bringBackLatest_41 ?_
      refine j_aload_n C dX1_bringBackLatest_44 0 rfl ?_
      refine j_get C kin1 rfl 0 rfl 1 (by decide) kw_108 rfl (v := .int w0) rfl dX1_bringBackLatest_45 ?_
      refine j_perm (fl [cMany G AH sv 7, [oH a ha (upd (upd h 1 w0) 2 ((h 2) - 1))], [aS G ha 7 (fun k => some (AH k 0))], cSt G AP xp]) (bperm [2, 0, 1, 3] 4 rfl (by decide +kernel) rfl) ?_
      refine j_perm (fl [cSt G (AH w0.toNatClampNeg) (sv w0.toNatClampNeg), cManyR G AH sv 7 w0.toNatClampNeg, [oH a ha (upd (upd h 1 w0) 2 ((h 2) - 1))], [aS G ha 7 (fun k => some (AH k 0))], cSt G AP xp]) (open_at (openMany G AH sv 7 w0.toNatClampNeg (vin_nat (by subst hw0; exact vin_prev h7)))) ?_
      refine j_perm (fl [[oH a ha (upd (upd h 1 w0) 2 ((h 2) - 1))], [aS G ha 7 (fun k => some (AH k 0))], cSt G (AH w0.toNatClampNeg) (sv w0.toNatClampNeg), cManyR G AH sv 7 w0.toNatClampNeg, cSt G AP xp]) (bperm [2, 3, 0, 1, 4] 5 rfl (by decide +kernel) rfl) ?_
      refine j_aaldS C 1 rfl (by subst hw0; exact vin_prev h7) (y := AH w0.toNatClampNeg 0) rfl dX1_bringBackLatest_48 ?_
      refine j_callV_v (wc' := fl [cSt G AP (sv w0.toNatClampNeg), cSt G (AH w0.toNatClampNeg) (sv w0.toNatClampNeg)]) C (m_X3_copyFrom l G AP (AH w0.toNatClampNeg) xp (sv w0.toNatClampNeg)) rfl 0 rfl 1 (gV kw_162 kw_163 kw_164 kw_2 kw_165) (by decide +kernel) ⟨(Nat.le_of_ble_eq_true rfl), (Nat.le_of_ble_eq_true rfl)⟩ rfl rfl (Nat.le_of_ble_eq_true rfl) dX1_bringBackLatest_49 ⟨(Nat.le_of_ble_eq_true rfl), (Nat.le_of_ble_eq_true rfl)⟩ (fl [[oH a ha (upd (upd h 1 w0) 2 ((h 2) - 1))], [aS G ha 7 (fun k => some (AH k 0))], cManyR G AH sv 7 w0.toNatClampNeg]) (fl [cSt G AP (sv w0.toNatClampNeg), cSt G (AH w0.toNatClampNeg) (sv w0.toNatClampNeg), [oH a ha (upd (upd h 1 w0) 2 ((h 2) - 1))], [aS G ha 7 (fun k => some (AH k 0))], cManyR G AH sv 7 w0.toNatClampNeg]) (bperm2 (bC := [cSt G AP xp, cSt G (AH w0.toNatClampNeg) (sv w0.toNatClampNeg)]) (bR := [[oH a ha (upd (upd h 1 w0) 2 ((h 2) - 1))], [aS G ha 7 (fun k => some (AH k 0))], cManyR G AH sv 7 w0.toNatClampNeg]) [4, 2, 0, 1, 3] 5 rfl (by decide +kernel) rfl) (fl_app _ _) ?_
      refine j_perm (fl [cSt G (AH w0.toNatClampNeg) (sv w0.toNatClampNeg), cManyR G AH sv 7 w0.toNatClampNeg, cSt G AP (sv w0.toNatClampNeg), [oH a ha (upd (upd h 1 w0) 2 ((h 2) - 1))], [aS G ha 7 (fun k => some (AH k 0))]]) (bperm [1, 4, 0, 2, 3] 5 rfl (by decide +kernel) rfl) ?_
      refine j_perm (fl [cMany G AH sv 7, cSt G AP (sv w0.toNatClampNeg), [oH a ha (upd (upd h 1 w0) 2 ((h 2) - 1))], [aS G ha 7 (fun k => some (AH k 0))]]) (shut_at (bs := [cSt G (AH w0.toNatClampNeg) (sv w0.toNatClampNeg), cManyR G AH sv 7 w0.toNatClampNeg]) (openMany G AH sv 7 w0.toNatClampNeg (vin_nat (by subst hw0; exact vin_prev h7))).symm) ?_
      refine j_perm (fl [[oH a ha (upd (upd h 1 w0) 2 ((h 2) - 1))], [aS G ha 7 (fun k => some (AH k 0))], cMany G AH sv 7, cSt G AP (sv w0.toNatClampNeg)]) (bperm [2, 3, 0, 1] 4 rfl (by decide +kernel) rfl) ?_
      subst hw0; exact j_eq (by rw [show f_X1_bringBackLatest_v3 h sv xp = upd (upd h 1 (f_X1_bringBackLatest_x1 h sv xp)) 2 ((h 2) - 1) from (if_neg c4), show f_X1_bringBackLatest_v4 h sv xp = (sv (f_X1_bringBackLatest_x1 h sv xp).toNatClampNeg) from (if_neg c4)]) rfl rfl K52
    refine j_if_le (tgt := 24) C dX1_bringBackLatest_12 (by decide) (fun c12 => ?_) (fun c12 => ?_)
    · refine j_bipush (v := 6) C dX1_bringBackLatest_24 (by decide) ?_
      exact j_eq rfl rfl (by rw [show f_X1_bringBackLatest_x1 h sv xp = 6 from (if_pos c12)]) K26
    · refine j_aload_n C dX1_bringBackLatest_15 0 rfl ?_
      refine j_get C kin1 rfl 0 rfl 1 (by decide) kw_108 rfl (v := .int (h 1)) rfl dX1_bringBackLatest_16 ?_
      refine j_iconst (v := 1) C dX1_bringBackLatest_19 (by decide) ?_
      refine j_isub C dX1_bringBackLatest_20 rfl ?_
      refine j_goto (tgt := 26) C dX1_bringBackLatest_21 (by decide) ?_
      exact j_eq rfl rfl (by rw [show f_X1_bringBackLatest_x1 h sv xp = (h 1) - 1 from (if_neg c12)]) K26
end
