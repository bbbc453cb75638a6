-- ===== PART A: goes FIRST, ahead of the names: the tables' words, and 'selects' of the private methods out of them =====
/-- a private method of a class that the tables say can be made, by its rows of tables_1 -/
def lw_okq (q : MethodName × Nat) : Prop := (q.1.cls ≠ "java/lang/invoke/MethodHandle" ∧ q.1.cls ≠ "java/lang/invoke/VarHandle") ∧ Cond.instantiable q.1.cls q.2 ∈ tables_1 ∧ Cond.privateMethod q.1 ∈ tables_1 ∧ Cond.instanceMethod q.1 ∈ tables_1
theorem lw_p0 : lw_okq (⟨"SilentDrives", "recorded", "(I)I"⟩, 7) := ⟨⟨by decide +kernel, by decide +kernel⟩, List.mem_of_getElem? (i := 12) (by decide +kernel), List.mem_of_getElem? (i := 227) (by decide +kernel), List.mem_of_getElem? (i := 228) (by decide +kernel)⟩
theorem lw_p1 : lw_okq (⟨"SilentDrives$Station", "changeHour", "(IIII)I"⟩, 7) := ⟨⟨by decide +kernel, by decide +kernel⟩, List.mem_of_getElem? (i := 20) (by decide +kernel), List.mem_of_getElem? (i := 265) (by decide +kernel), List.mem_of_getElem? (i := 266) (by decide +kernel)⟩
theorem lw_p2 : lw_okq (⟨"SilentDrives$Station", "passMinuteOf", "(LSilentDrives$Drive;LSilentDrives$Drive;)Z"⟩, 7) := ⟨⟨by decide +kernel, by decide +kernel⟩, List.mem_of_getElem? (i := 20) (by decide +kernel), List.mem_of_getElem? (i := 319) (by decide +kernel), List.mem_of_getElem? (i := 320) (by decide +kernel)⟩
theorem lw_p3 : lw_okq (⟨"SilentDrives$Station", "settleHours", "(LSilentDrives$Drive;IZ)V"⟩, 7) := ⟨⟨by decide +kernel, by decide +kernel⟩, List.mem_of_getElem? (i := 20) (by decide +kernel), List.mem_of_getElem? (i := 328) (by decide +kernel), List.mem_of_getElem? (i := 329) (by decide +kernel)⟩
theorem lw_p4 : lw_okq (⟨"SilentDrives$Drive", "fillCells", "(I)V"⟩, 12) := ⟨⟨by decide +kernel, by decide +kernel⟩, List.mem_of_getElem? (i := 32) (by decide +kernel), List.mem_of_getElem? (i := 341) (by decide +kernel), List.mem_of_getElem? (i := 342) (by decide +kernel)⟩
theorem lw_p5 : lw_okq (⟨"SilentDrives$Station", "cleanUp", "(LSilentDrives$Drive;Z)Z"⟩, 7) := ⟨⟨by decide +kernel, by decide +kernel⟩, List.mem_of_getElem? (i := 20) (by decide +kernel), List.mem_of_getElem? (i := 353) (by decide +kernel), List.mem_of_getElem? (i := 354) (by decide +kernel)⟩
theorem lw_p6 : lw_okq (⟨"SilentDrives$Station", "chargeOverrun", "(LSilentDrives$Drive;I)V"⟩, 7) := ⟨⟨by decide +kernel, by decide +kernel⟩, List.mem_of_getElem? (i := 20) (by decide +kernel), List.mem_of_getElem? (i := 362) (by decide +kernel), List.mem_of_getElem? (i := 363) (by decide +kernel)⟩
theorem lw_p7 : lw_okq (⟨"SilentDrives", "errorOfQuestion", "(II)I"⟩, 7) := ⟨⟨by decide +kernel, by decide +kernel⟩, List.mem_of_getElem? (i := 12) (by decide +kernel), List.mem_of_getElem? (i := 415) (by decide +kernel), List.mem_of_getElem? (i := 416) (by decide +kernel)⟩
theorem lw_p8 : lw_okq (⟨"SilentDrives", "tryMinutes", "(I)V"⟩, 7) := ⟨⟨by decide +kernel, by decide +kernel⟩, List.mem_of_getElem? (i := 12) (by decide +kernel), List.mem_of_getElem? (i := 420) (by decide +kernel), List.mem_of_getElem? (i := 421) (by decide +kernel)⟩
theorem lw_p9 : lw_okq (⟨"SilentDrives$Pad", "readSign", "(C)Z"⟩, 7) := ⟨⟨by decide +kernel, by decide +kernel⟩, List.mem_of_getElem? (i := 145) (by decide +kernel), List.mem_of_getElem? (i := 488) (by decide +kernel), List.mem_of_getElem? (i := 489) (by decide +kernel)⟩
theorem lw_p10 : lw_okq (⟨"SilentDrives$Pad", "signHere", "()C"⟩, 7) := ⟨⟨by decide +kernel, by decide +kernel⟩, List.mem_of_getElem? (i := 145) (by decide +kernel), List.mem_of_getElem? (i := 492) (by decide +kernel), List.mem_of_getElem? (i := 493) (by decide +kernel)⟩
theorem lw_p11 : lw_okq (⟨"SilentDrives$Pad", "readOrder", "()Z"⟩, 7) := ⟨⟨by decide +kernel, by decide +kernel⟩, List.mem_of_getElem? (i := 145) (by decide +kernel), List.mem_of_getElem? (i := 496) (by decide +kernel), List.mem_of_getElem? (i := 497) (by decide +kernel)⟩
theorem lw_p12 : lw_okq (⟨"SilentDrives$Pad", "readKindAndDrive", "()Z"⟩, 7) := ⟨⟨by decide +kernel, by decide +kernel⟩, List.mem_of_getElem? (i := 145) (by decide +kernel), List.mem_of_getElem? (i := 500) (by decide +kernel), List.mem_of_getElem? (i := 501) (by decide +kernel)⟩
theorem lw_p13 : lw_okq (⟨"SilentDrives$Pad", "readFirst", "()Z"⟩, 7) := ⟨⟨by decide +kernel, by decide +kernel⟩, List.mem_of_getElem? (i := 145) (by decide +kernel), List.mem_of_getElem? (i := 505) (by decide +kernel), List.mem_of_getElem? (i := 506) (by decide +kernel)⟩
theorem lw_p14 : lw_okq (⟨"SilentDrives$Pad", "readNumber", "()I"⟩, 7) := ⟨⟨by decide +kernel, by decide +kernel⟩, List.mem_of_getElem? (i := 145) (by decide +kernel), List.mem_of_getElem? (i := 509) (by decide +kernel), List.mem_of_getElem? (i := 510) (by decide +kernel)⟩
theorem lw_p15 : lw_okq (⟨"SilentDrives$Pad", "readSecond", "()Z"⟩, 7) := ⟨⟨by decide +kernel, by decide +kernel⟩, List.mem_of_getElem? (i := 145) (by decide +kernel), List.mem_of_getElem? (i := 516) (by decide +kernel), List.mem_of_getElem? (i := 517) (by decide +kernel)⟩
def lw_privs_1 : List (MethodName × Nat) := [(⟨"SilentDrives", "recorded", "(I)I"⟩, 7), (⟨"SilentDrives$Station", "changeHour", "(IIII)I"⟩, 7), (⟨"SilentDrives$Station", "passMinuteOf", "(LSilentDrives$Drive;LSilentDrives$Drive;)Z"⟩, 7), (⟨"SilentDrives$Station", "settleHours", "(LSilentDrives$Drive;IZ)V"⟩, 7), (⟨"SilentDrives$Drive", "fillCells", "(I)V"⟩, 12), (⟨"SilentDrives$Station", "cleanUp", "(LSilentDrives$Drive;Z)Z"⟩, 7), (⟨"SilentDrives$Station", "chargeOverrun", "(LSilentDrives$Drive;I)V"⟩, 7), (⟨"SilentDrives", "errorOfQuestion", "(II)I"⟩, 7), (⟨"SilentDrives", "tryMinutes", "(I)V"⟩, 7), (⟨"SilentDrives$Pad", "readSign", "(C)Z"⟩, 7), (⟨"SilentDrives$Pad", "signHere", "()C"⟩, 7), (⟨"SilentDrives$Pad", "readOrder", "()Z"⟩, 7), (⟨"SilentDrives$Pad", "readKindAndDrive", "()Z"⟩, 7), (⟨"SilentDrives$Pad", "readFirst", "()Z"⟩, 7), (⟨"SilentDrives$Pad", "readNumber", "()I"⟩, 7), (⟨"SilentDrives$Pad", "readSecond", "()Z"⟩, 7)]
theorem lw_r1 : ∀ q ∈ lw_privs_1, lw_okq q := List.forall_mem_cons.mpr ⟨lw_p0, List.forall_mem_cons.mpr ⟨lw_p1, List.forall_mem_cons.mpr ⟨lw_p2, List.forall_mem_cons.mpr ⟨lw_p3, List.forall_mem_cons.mpr ⟨lw_p4, List.forall_mem_cons.mpr ⟨lw_p5, List.forall_mem_cons.mpr ⟨lw_p6, List.forall_mem_cons.mpr ⟨lw_p7, List.forall_mem_cons.mpr ⟨lw_p8, List.forall_mem_cons.mpr ⟨lw_p9, List.forall_mem_cons.mpr ⟨lw_p10, List.forall_mem_cons.mpr ⟨lw_p11, List.forall_mem_cons.mpr ⟨lw_p12, List.forall_mem_cons.mpr ⟨lw_p13, List.forall_mem_cons.mpr ⟨lw_p14, List.forall_mem_cons.mpr ⟨lw_p15, fun _ h => absurd h List.not_mem_nil⟩⟩⟩⟩⟩⟩⟩⟩⟩⟩⟩⟩⟩⟩⟩⟩
theorem lw_p16 : lw_okq (⟨"SilentDrives", "carryOutOrder", "()I"⟩, 7) := ⟨⟨by decide +kernel, by decide +kernel⟩, List.mem_of_getElem? (i := 12) (by decide +kernel), List.mem_of_getElem? (i := 526) (by decide +kernel), List.mem_of_getElem? (i := 527) (by decide +kernel)⟩
theorem lw_p17 : lw_okq (⟨"SilentDrivesModel", "records", "()V"⟩, 11) := ⟨⟨by decide +kernel, by decide +kernel⟩, List.mem_of_getElem? (i := 549) (by decide +kernel), List.mem_of_getElem? (i := 617) (by decide +kernel), List.mem_of_getElem? (i := 618) (by decide +kernel)⟩
theorem lw_p18 : lw_okq (⟨"SilentDrivesModel", "mayStream", "(III)I"⟩, 11) := ⟨⟨by decide +kernel, by decide +kernel⟩, List.mem_of_getElem? (i := 549) (by decide +kernel), List.mem_of_getElem? (i := 636) (by decide +kernel), List.mem_of_getElem? (i := 637) (by decide +kernel)⟩
theorem lw_p19 : lw_okq (⟨"SilentDrivesModel", "streams", "(III)I"⟩, 11) := ⟨⟨by decide +kernel, by decide +kernel⟩, List.mem_of_getElem? (i := 549) (by decide +kernel), List.mem_of_getElem? (i := 644) (by decide +kernel), List.mem_of_getElem? (i := 645) (by decide +kernel)⟩
theorem lw_p20 : lw_okq (⟨"SilentDrivesModel", "mayWrite", "(II)I"⟩, 11) := ⟨⟨by decide +kernel, by decide +kernel⟩, List.mem_of_getElem? (i := 549) (by decide +kernel), List.mem_of_getElem? (i := 652) (by decide +kernel), List.mem_of_getElem? (i := 653) (by decide +kernel)⟩
theorem lw_p21 : lw_okq (⟨"SilentDrivesModel", "comes", "(II)I"⟩, 11) := ⟨⟨by decide +kernel, by decide +kernel⟩, List.mem_of_getElem? (i := 549) (by decide +kernel), List.mem_of_getElem? (i := 658) (by decide +kernel), List.mem_of_getElem? (i := 659) (by decide +kernel)⟩
theorem lw_p22 : lw_okq (⟨"SilentDrivesModel", "mayTrade", "(IIZ)I"⟩, 11) := ⟨⟨by decide +kernel, by decide +kernel⟩, List.mem_of_getElem? (i := 549) (by decide +kernel), List.mem_of_getElem? (i := 666) (by decide +kernel), List.mem_of_getElem? (i := 667) (by decide +kernel)⟩
theorem lw_p23 : lw_okq (⟨"SilentDrivesModel", "trades", "(IIZ)I"⟩, 11) := ⟨⟨by decide +kernel, by decide +kernel⟩, List.mem_of_getElem? (i := 549) (by decide +kernel), List.mem_of_getElem? (i := 677) (by decide +kernel), List.mem_of_getElem? (i := 678) (by decide +kernel)⟩
theorem lw_p24 : lw_okq (⟨"SilentDrivesModel", "hoursOf", "(II)I"⟩, 11) := ⟨⟨by decide +kernel, by decide +kernel⟩, List.mem_of_getElem? (i := 549) (by decide +kernel), List.mem_of_getElem? (i := 681) (by decide +kernel), List.mem_of_getElem? (i := 682) (by decide +kernel)⟩
theorem lw_p25 : lw_okq (⟨"SilentDrivesModel", "passes", "(I)V"⟩, 11) := ⟨⟨by decide +kernel, by decide +kernel⟩, List.mem_of_getElem? (i := 549) (by decide +kernel), List.mem_of_getElem? (i := 697) (by decide +kernel), List.mem_of_getElem? (i := 698) (by decide +kernel)⟩
theorem lw_p26 : lw_okq (⟨"SilentDrivesModel", "tries", "()V"⟩, 11) := ⟨⟨by decide +kernel, by decide +kernel⟩, List.mem_of_getElem? (i := 549) (by decide +kernel), List.mem_of_getElem? (i := 776) (by decide +kernel), List.mem_of_getElem? (i := 777) (by decide +kernel)⟩
theorem lw_p27 : lw_okq (⟨"SilentDrivesModel", "passesThen", "(II)J"⟩, 11) := ⟨⟨by decide +kernel, by decide +kernel⟩, List.mem_of_getElem? (i := 549) (by decide +kernel), List.mem_of_getElem? (i := 780) (by decide +kernel), List.mem_of_getElem? (i := 781) (by decide +kernel)⟩
theorem lw_p28 : lw_okq (⟨"SilentDrivesModel", "isSafe", "(II)Z"⟩, 11) := ⟨⟨by decide +kernel, by decide +kernel⟩, List.mem_of_getElem? (i := 549) (by decide +kernel), List.mem_of_getElem? (i := 797) (by decide +kernel), List.mem_of_getElem? (i := 798) (by decide +kernel)⟩
theorem lw_p29 : lw_okq (⟨"SilentDrivesModel", "isText", "()Z"⟩, 11) := ⟨⟨by decide +kernel, by decide +kernel⟩, List.mem_of_getElem? (i := 549) (by decide +kernel), List.mem_of_getElem? (i := 830) (by decide +kernel), List.mem_of_getElem? (i := 831) (by decide +kernel)⟩
theorem lw_p30 : lw_okq (⟨"SilentDrivesModel", "isOrder", "()Z"⟩, 11) := ⟨⟨by decide +kernel, by decide +kernel⟩, List.mem_of_getElem? (i := 549) (by decide +kernel), List.mem_of_getElem? (i := 834) (by decide +kernel), List.mem_of_getElem? (i := 835) (by decide +kernel)⟩
theorem lw_p31 : lw_okq (⟨"SilentDrivesModel", "isAt", "(II)Z"⟩, 11) := ⟨⟨by decide +kernel, by decide +kernel⟩, List.mem_of_getElem? (i := 549) (by decide +kernel), List.mem_of_getElem? (i := 838) (by decide +kernel), List.mem_of_getElem? (i := 839) (by decide +kernel)⟩
def lw_privs_2 : List (MethodName × Nat) := [(⟨"SilentDrives", "carryOutOrder", "()I"⟩, 7), (⟨"SilentDrivesModel", "records", "()V"⟩, 11), (⟨"SilentDrivesModel", "mayStream", "(III)I"⟩, 11), (⟨"SilentDrivesModel", "streams", "(III)I"⟩, 11), (⟨"SilentDrivesModel", "mayWrite", "(II)I"⟩, 11), (⟨"SilentDrivesModel", "comes", "(II)I"⟩, 11), (⟨"SilentDrivesModel", "mayTrade", "(IIZ)I"⟩, 11), (⟨"SilentDrivesModel", "trades", "(IIZ)I"⟩, 11), (⟨"SilentDrivesModel", "hoursOf", "(II)I"⟩, 11), (⟨"SilentDrivesModel", "passes", "(I)V"⟩, 11), (⟨"SilentDrivesModel", "tries", "()V"⟩, 11), (⟨"SilentDrivesModel", "passesThen", "(II)J"⟩, 11), (⟨"SilentDrivesModel", "isSafe", "(II)Z"⟩, 11), (⟨"SilentDrivesModel", "isText", "()Z"⟩, 11), (⟨"SilentDrivesModel", "isOrder", "()Z"⟩, 11), (⟨"SilentDrivesModel", "isAt", "(II)Z"⟩, 11)]
theorem lw_r2 : ∀ q ∈ lw_privs_2, lw_okq q := List.forall_mem_cons.mpr ⟨lw_p16, List.forall_mem_cons.mpr ⟨lw_p17, List.forall_mem_cons.mpr ⟨lw_p18, List.forall_mem_cons.mpr ⟨lw_p19, List.forall_mem_cons.mpr ⟨lw_p20, List.forall_mem_cons.mpr ⟨lw_p21, List.forall_mem_cons.mpr ⟨lw_p22, List.forall_mem_cons.mpr ⟨lw_p23, List.forall_mem_cons.mpr ⟨lw_p24, List.forall_mem_cons.mpr ⟨lw_p25, List.forall_mem_cons.mpr ⟨lw_p26, List.forall_mem_cons.mpr ⟨lw_p27, List.forall_mem_cons.mpr ⟨lw_p28, List.forall_mem_cons.mpr ⟨lw_p29, List.forall_mem_cons.mpr ⟨lw_p30, List.forall_mem_cons.mpr ⟨lw_p31, fun _ h => absurd h List.not_mem_nil⟩⟩⟩⟩⟩⟩⟩⟩⟩⟩⟩⟩⟩⟩⟩⟩
theorem lw_p32 : lw_okq (⟨"SilentDrivesModel", "isNumber", "(I)Z"⟩, 11) := ⟨⟨by decide +kernel, by decide +kernel⟩, List.mem_of_getElem? (i := 549) (by decide +kernel), List.mem_of_getElem? (i := 842) (by decide +kernel), List.mem_of_getElem? (i := 843) (by decide +kernel)⟩
theorem lw_p33 : lw_okq (⟨"SilentDrivesModel", "isSign", "(I)Z"⟩, 11) := ⟨⟨by decide +kernel, by decide +kernel⟩, List.mem_of_getElem? (i := 549) (by decide +kernel), List.mem_of_getElem? (i := 846) (by decide +kernel), List.mem_of_getElem? (i := 847) (by decide +kernel)⟩
theorem lw_p34 : lw_okq (⟨"SilentDrivesModel", "does", "(I)Z"⟩, 11) := ⟨⟨by decide +kernel, by decide +kernel⟩, List.mem_of_getElem? (i := 549) (by decide +kernel), List.mem_of_getElem? (i := 854) (by decide +kernel), List.mem_of_getElem? (i := 855) (by decide +kernel)⟩
def lw_privs_3 : List (MethodName × Nat) := [(⟨"SilentDrivesModel", "isNumber", "(I)Z"⟩, 11), (⟨"SilentDrivesModel", "isSign", "(I)Z"⟩, 11), (⟨"SilentDrivesModel", "does", "(I)Z"⟩, 11)]
theorem lw_r3 : ∀ q ∈ lw_privs_3, lw_okq q := List.forall_mem_cons.mpr ⟨lw_p32, List.forall_mem_cons.mpr ⟨lw_p33, List.forall_mem_cons.mpr ⟨lw_p34, fun _ h => absurd h List.not_mem_nil⟩⟩⟩
def lw_privs : List (MethodName × Nat) := lw_privs_1 ++ (lw_privs_2 ++ (lw_privs_3))
def lw_tbl : List Cond := k2_sels lw_privs ++ tables_1
theorem lw_privs_ok : ∀ q ∈ lw_privs, lw_okq q := by
  show ∀ q ∈ lw_privs_1 ++ (lw_privs_2 ++ (lw_privs_3)), lw_okq q
  exact List.forall_mem_append.mpr ⟨lw_r1, List.forall_mem_append.mpr ⟨lw_r2, lw_r3⟩⟩
/-- the streams that the claim lets the run draw from -/
abbrev lw_cs : List Choice := [Jvm.Choice.named "NaN.bits"]
theorem lw_bits : nanBits ∈ lw_cs := by first | decide | exact List.mem_cons_self | simp [lw_cs, nanBits]
-- ===== end of PART A; then your names; then what follows =====
/-! ===== BEGIN words of one list among another's, by their places ===== -/
theorem goodIn_r {big : List Cond} (ws : List Cond) (ps : List Nat) (hp : ws = ps.filterMap (fun i => big[i]?)) (h : ws.all goodWord = true) : GoodIn big ws := by
  intro w hw
  have h1 := List.all_eq_true.mp h w hw
  rw [hp] at hw
  obtain ⟨i, -, hi⟩ := List.mem_filterMap.mp hw
  have hm : w ∈ big := by first | exact List.mem_of_getElem? hi | exact List.getElem?_mem hi
  exact ⟨hm, good_of_word h1⟩
theorem goodIn_app {big a b : List Cond} (ha : GoodIn big a) (hb : GoodIn big b) : GoodIn big (a ++ b) := fun w h => (List.mem_append.mp h).elim (ha w) (hb w)
theorem goodIn_ca {big a b : List Cond} {c : Cond} (ha : GoodIn big (c :: a)) (hb : GoodIn big b) : GoodIn big (c :: (a ++ b)) := fun w h => (List.mem_cons.mp h).elim (fun e => ha w (List.mem_cons.mpr (Or.inl e))) (fun h => (List.mem_append.mp h).elim (fun h => ha w (List.mem_cons.mpr (Or.inr h))) (hb w))
theorem goodIn_sub {big ws : List Cond} (hm : ∀ w ∈ ws, w ∈ big) (h : ws.all goodWord = true) : GoodIn big ws := fun w hw => ⟨hm w hw, good_of_word (List.all_eq_true.mp h w hw)⟩
/-! ===== END ===== -/

/-! ===== BEGIN printed: names, fields, word lists, decode rows ===== -/
def RX0 : String := "SilentDrives$Drive"
def TX0 : u_T := fun k => match k with
  | 0 => ("SilentDrives$Drive", "free", "I", false)
  | 1 => ("SilentDrives$Drive", "stale", "I", false)
  | 2 => ("SilentDrives$Drive", "lent", "I", false)
  | 3 => ("SilentDrives$Drive", "held", "I", false)
  | 4 => ("SilentDrives$Drive", "cleaning", "Z", false)
  | 5 => ("SilentDrives$Drive", "written", "I", false)
  | 6 => ("SilentDrives$Drive", "sounded", "I", false)
  | 7 => ("SilentDrives$Drive", "overruns", "I", false)
  | 8 => ("SilentDrives$Drive", "every", "I", false)
  | 9 => ("SilentDrives$Drive", "units", "I", false)
  | 10 => ("SilentDrives$Drive", "heldSum", "J", false)
  | _ => ("SilentDrives$Drive", "hours", "[B", true)
def tyX0 : Nat → FieldType := fun k => match k with
  | 0 => .int
  | 1 => .int
  | 2 => .int
  | 3 => .int
  | 4 => .boolean
  | 5 => .int
  | 6 => .int
  | 7 => .int
  | 8 => .int
  | 9 => .int
  | 10 => .long
  | _ => .array .byte
abbrev wsX00 : List Cond := u_ws RX0 TX0 12
theorem nmX0 : ∀ a, a < 12 → ∀ b, b < 12 → a ≠ b → (TX0 a).2.1 ≠ (TX0 b).2.1 := by decide +kernel
theorem tyX0_ok : ∀ k, k < 12 → parseFieldDescriptor (TX0 k).2.2.1 = some (tyX0 k) := by decide +kernel
abbrev cX0_init : ByteArray := prog_2_method_1_code
def yX0_init : MethodName := ⟨RX0, "<init>", "()V"⟩
abbrev cX0_copyFrom : ByteArray := prog_2_method_2_code
def yX0_copyFrom : MethodName := ⟨RX0, "copyFrom", "(LSilentDrives$Drive;)V"⟩
abbrev cX0_hourState : ByteArray := prog_2_method_3_code
def yX0_hourState : MethodName := ⟨RX0, "hourState", "(I)I"⟩
abbrev cX0_markHour : ByteArray := prog_2_method_4_code
def yX0_markHour : MethodName := ⟨RX0, "markHour", "(II)V"⟩
abbrev cX0_isQuietIn : ByteArray := prog_2_method_5_code
def yX0_isQuietIn : MethodName := ⟨RX0, "isQuietIn", "(I)Z"⟩
abbrev cX0_hoursThatAre : ByteArray := prog_2_method_6_code
def yX0_hoursThatAre : MethodName := ⟨RX0, "hoursThatAre", "(I)I"⟩
abbrev cX0_soldHours : ByteArray := prog_2_method_7_code
def yX0_soldHours : MethodName := ⟨RX0, "soldHours", "()I"⟩
abbrev cX0_keptInARow : ByteArray := prog_2_method_8_code
def yX0_keptInARow : MethodName := ⟨RX0, "keptInARow", "()I"⟩
abbrev cX0_takeStream : ByteArray := prog_2_method_9_code
def yX0_takeStream : MethodName := ⟨RX0, "takeStream", "(I)V"⟩
abbrev cX0_takeBackFrom : ByteArray := prog_2_method_10_code
def yX0_takeBackFrom : MethodName := ⟨RX0, "takeBackFrom", "(LSilentDrives$Drive;)V"⟩
abbrev cX0_writeHeld : ByteArray := prog_2_method_11_code
def yX0_writeHeld : MethodName := ⟨RX0, "writeHeld", "()V"⟩
abbrev cX0_fillCells : ByteArray := prog_2_method_12_code
def yX0_fillCells : MethodName := ⟨RX0, "fillCells", "(I)V"⟩
abbrev cX0_lendTo : ByteArray := prog_2_method_13_code
def yX0_lendTo : MethodName := ⟨RX0, "lendTo", "(LSilentDrives$Drive;I)V"⟩
abbrev cX0_cleanCells : ByteArray := prog_2_method_14_code
def yX0_cleanCells : MethodName := ⟨RX0, "cleanCells", "(I)V"⟩
def RX1 : String := "SilentDrives$History"
def TX1 : u_T := fun k => match k with
  | 0 => ("SilentDrives$History", "states", "[LSilentDrives$Station;", true)
  | 1 => ("SilentDrives$History", "next", "I", false)
  | _ => ("SilentDrives$History", "size", "I", false)
def tyX1 : Nat → FieldType := fun k => match k with
  | 0 => .array (.object "SilentDrives$Station")
  | 1 => .int
  | _ => .int
abbrev wsX10 : List Cond := u_ws RX1 TX1 3
theorem nmX1 : ∀ a, a < 3 → ∀ b, b < 3 → a ≠ b → (TX1 a).2.1 ≠ (TX1 b).2.1 := by decide +kernel
theorem tyX1_ok : ∀ k, k < 3 → parseFieldDescriptor (TX1 k).2.2.1 = some (tyX1 k) := by decide +kernel
abbrev cX1_init : ByteArray := prog_3_method_1_code
def yX1_init : MethodName := ⟨RX1, "<init>", "()V"⟩
abbrev cX1_prepare : ByteArray := prog_3_method_2_code
def yX1_prepare : MethodName := ⟨RX1, "prepare", "(LSilentDrives$Station;)V"⟩
abbrev cX1_keepPrepared : ByteArray := prog_3_method_3_code
def yX1_keepPrepared : MethodName := ⟨RX1, "keepPrepared", "()V"⟩
abbrev cX1_bringBackLatest : ByteArray := prog_3_method_4_code
def yX1_bringBackLatest : MethodName := ⟨RX1, "bringBackLatest", "(LSilentDrives$Station;)V"⟩
def RX2 : String := "SilentDrives$Pad"
def TX2 : u_T := fun k => match k with
  | 0 => ("SilentDrives$Pad", "signs", "[C", true)
  | 1 => ("SilentDrives$Pad", "length", "I", false)
  | 2 => ("SilentDrives$Pad", "place", "I", false)
  | 3 => ("SilentDrives$Pad", "kind", "C", false)
  | 4 => ("SilentDrives$Pad", "drive", "I", false)
  | 5 => ("SilentDrives$Pad", "first", "I", false)
  | _ => ("SilentDrives$Pad", "second", "I", false)
def tyX2 : Nat → FieldType := fun k => match k with
  | 0 => .array .char
  | 1 => .int
  | 2 => .int
  | 3 => .char
  | 4 => .int
  | 5 => .int
  | _ => .int
abbrev wsX20 : List Cond := u_ws RX2 TX2 7
theorem nmX2 : ∀ a, a < 7 → ∀ b, b < 7 → a ≠ b → (TX2 a).2.1 ≠ (TX2 b).2.1 := by decide +kernel
theorem tyX2_ok : ∀ k, k < 7 → parseFieldDescriptor (TX2 k).2.2.1 = some (tyX2 k) := by decide +kernel
abbrev cX2_init : ByteArray := prog_4_method_1_code
def yX2_init : MethodName := ⟨RX2, "<init>", "()V"⟩
abbrev cX2_append : ByteArray := prog_4_method_2_code
def yX2_append : MethodName := ⟨RX2, "append", "(JI)V"⟩
abbrev cX2_firstFault : ByteArray := prog_4_method_3_code
def yX2_firstFault : MethodName := ⟨RX2, "firstFault", "()I"⟩
abbrev cX2_begin : ByteArray := prog_4_method_4_code
def yX2_begin : MethodName := ⟨RX2, "begin", "()V"⟩
abbrev cX2_readNext : ByteArray := prog_4_method_5_code
def yX2_readNext : MethodName := ⟨RX2, "readNext", "()Z"⟩
abbrev cX2_readOrder : ByteArray := prog_4_method_6_code
def yX2_readOrder : MethodName := ⟨RX2, "readOrder", "()Z"⟩
abbrev cX2_readKindAndDrive : ByteArray := prog_4_method_7_code
def yX2_readKindAndDrive : MethodName := ⟨RX2, "readKindAndDrive", "()Z"⟩
abbrev cX2_readSign : ByteArray := prog_4_method_8_code
def yX2_readSign : MethodName := ⟨RX2, "readSign", "(C)Z"⟩
abbrev cX2_readFirst : ByteArray := prog_4_method_9_code
def yX2_readFirst : MethodName := ⟨RX2, "readFirst", "()Z"⟩
abbrev cX2_readSecond : ByteArray := prog_4_method_10_code
def yX2_readSecond : MethodName := ⟨RX2, "readSecond", "()Z"⟩
abbrev cX2_readNumber : ByteArray := prog_4_method_11_code
def yX2_readNumber : MethodName := ⟨RX2, "readNumber", "()I"⟩
abbrev cX2_isDigit : ByteArray := prog_4_method_12_code
def yX2_isDigit : MethodName := ⟨RX2, "isDigit", "(C)Z"⟩
abbrev cX2_signHere : ByteArray := prog_4_method_13_code
def yX2_signHere : MethodName := ⟨RX2, "signHere", "()C"⟩
def RX3 : String := "SilentDrives$Station"
def TX3 : u_T := fun k => match k with
  | 0 => ("SilentDrives$Station", "settings", "[I", true)
  | 1 => ("SilentDrives$Station", "drives", "[LSilentDrives$Drive;", true)
  | 2 => ("SilentDrives$Station", "now", "I", false)
  | 3 => ("SilentDrives$Station", "earned", "I", false)
  | 4 => ("SilentDrives$Station", "fined", "I", false)
  | 5 => ("SilentDrives$Station", "credits", "I", false)
  | _ => ("SilentDrives$Station", "creditsUsed", "I", false)
def tyX3 : Nat → FieldType := fun k => match k with
  | 0 => .array .int
  | 1 => .array (.object "SilentDrives$Drive")
  | 2 => .int
  | 3 => .int
  | 4 => .int
  | 5 => .int
  | _ => .int
abbrev wsX30 : List Cond := u_ws RX3 TX3 7
theorem nmX3 : ∀ a, a < 7 → ∀ b, b < 7 → a ≠ b → (TX3 a).2.1 ≠ (TX3 b).2.1 := by decide +kernel
theorem tyX3_ok : ∀ k, k < 7 → parseFieldDescriptor (TX3 k).2.2.1 = some (tyX3 k) := by decide +kernel
abbrev cX3_init : ByteArray := prog_5_method_1_code
def yX3_init : MethodName := ⟨RX3, "<init>", "()V"⟩
abbrev cX3_copyFrom : ByteArray := prog_5_method_2_code
def yX3_copyFrom : MethodName := ⟨RX3, "copyFrom", "(LSilentDrives$Station;)V"⟩
abbrev cX3_hourOfNow : ByteArray := prog_5_method_3_code
def yX3_hourOfNow : MethodName := ⟨RX3, "hourOfNow", "()I"⟩
abbrev cX3_changeSetting : ByteArray := prog_5_method_4_code
def yX3_changeSetting : MethodName := ⟨RX3, "changeSetting", "(II)I"⟩
abbrev cX3_changeStream : ByteArray := prog_5_method_5_code
def yX3_changeStream : MethodName := ⟨RX3, "changeStream", "(III)I"⟩
abbrev cX3_bringUnits : ByteArray := prog_5_method_6_code
def yX3_bringUnits : MethodName := ⟨RX3, "bringUnits", "(II)I"⟩
abbrev cX3_sellHour : ByteArray := prog_5_method_7_code
def yX3_sellHour : MethodName := ⟨RX3, "sellHour", "(II)I"⟩
abbrev cX3_takeHourBack : ByteArray := prog_5_method_8_code
def yX3_takeHourBack : MethodName := ⟨RX3, "takeHourBack", "(II)I"⟩
abbrev cX3_changeHour : ByteArray := prog_5_method_9_code
def yX3_changeHour : MethodName := ⟨RX3, "changeHour", "(IIII)I"⟩
abbrev cX3_passMinutes : ByteArray := prog_5_method_10_code
def yX3_passMinutes : MethodName := ⟨RX3, "passMinutes", "(I)I"⟩
abbrev cX3_passesWithoutOverrun : ByteArray := prog_5_method_11_code
def yX3_passesWithoutOverrun : MethodName := ⟨RX3, "passesWithoutOverrun", "(I)Z"⟩
abbrev cX3_passOneMinute : ByteArray := prog_5_method_12_code
def yX3_passOneMinute : MethodName := ⟨RX3, "passOneMinute", "()Z"⟩
abbrev cX3_passMinuteOf : ByteArray := prog_5_method_13_code
def yX3_passMinuteOf : MethodName := ⟨RX3, "passMinuteOf", "(LSilentDrives$Drive;LSilentDrives$Drive;)Z"⟩
abbrev cX3_settleHours : ByteArray := prog_5_method_14_code
def yX3_settleHours : MethodName := ⟨RX3, "settleHours", "(LSilentDrives$Drive;IZ)V"⟩
abbrev cX3_cleanUp : ByteArray := prog_5_method_15_code
def yX3_cleanUp : MethodName := ⟨RX3, "cleanUp", "(LSilentDrives$Drive;Z)Z"⟩
abbrev cX3_chargeOverrun : ByteArray := prog_5_method_16_code
def yX3_chargeOverrun : MethodName := ⟨RX3, "chargeOverrun", "(LSilentDrives$Drive;I)V"⟩
def RX4 : String := "SilentDrives"
def TX4 : u_T := fun k => match k with
  | 0 => ("SilentDrives", "present", "LSilentDrives$Station;", true)
  | 1 => ("SilentDrives", "history", "LSilentDrives$History;", true)
  | 2 => ("SilentDrives", "slots", "[LSilentDrives$Station;", true)
  | 3 => ("SilentDrives", "slotUsed", "[Z", true)
  | 4 => ("SilentDrives", "pad", "LSilentDrives$Pad;", true)
  | 5 => ("SilentDrives", "trial", "LSilentDrives$Station;", true)
  | _ => ("SilentDrives", "soldTrial", "LSilentDrives$Station;", true)
def tyX4 : Nat → FieldType := fun k => match k with
  | 0 => .object "SilentDrives$Station"
  | 1 => .object "SilentDrives$History"
  | 2 => .array (.object "SilentDrives$Station")
  | 3 => .array .boolean
  | 4 => .object "SilentDrives$Pad"
  | 5 => .object "SilentDrives$Station"
  | _ => .object "SilentDrives$Station"
abbrev wsX40 : List Cond := u_ws RX4 TX4 7
theorem nmX4 : ∀ a, a < 7 → ∀ b, b < 7 → a ≠ b → (TX4 a).2.1 ≠ (TX4 b).2.1 := by decide +kernel
theorem tyX4_ok : ∀ k, k < 7 → parseFieldDescriptor (TX4 k).2.2.1 = some (tyX4 k) := by decide +kernel
abbrev cX4_init : ByteArray := prog_1_method_1_code
def yX4_init : MethodName := ⟨RX4, "<init>", "()V"⟩
abbrev cX4_set : ByteArray := prog_1_method_2_code
def yX4_set : MethodName := ⟨RX4, "set", "(II)I"⟩
abbrev cX4_stream : ByteArray := prog_1_method_3_code
def yX4_stream : MethodName := ⟨RX4, "stream", "(III)I"⟩
abbrev cX4_write : ByteArray := prog_1_method_4_code
def yX4_write : MethodName := ⟨RX4, "write", "(II)I"⟩
abbrev cX4_sell : ByteArray := prog_1_method_5_code
def yX4_sell : MethodName := ⟨RX4, "sell", "(II)I"⟩
abbrev cX4_giveBack : ByteArray := prog_1_method_6_code
def yX4_giveBack : MethodName := ⟨RX4, "giveBack", "(II)I"⟩
abbrev cX4_pass : ByteArray := prog_1_method_7_code
def yX4_pass : MethodName := ⟨RX4, "pass", "(I)I"⟩
abbrev cX4_ofDrive : ByteArray := prog_1_method_8_code
def yX4_ofDrive : MethodName := ⟨RX4, "ofDrive", "(II)I"⟩
abbrev cX4_hour : ByteArray := prog_1_method_9_code
def yX4_hour : MethodName := ⟨RX4, "hour", "(II)I"⟩
abbrev cX4_streak : ByteArray := prog_1_method_10_code
def yX4_streak : MethodName := ⟨RX4, "streak", "(I)I"⟩
abbrev cX4_share : ByteArray := prog_1_method_11_code
def yX4_share : MethodName := ⟨RX4, "share", "(I)I"⟩
abbrev cX4_mean : ByteArray := prog_1_method_12_code
def yX4_mean : MethodName := ⟨RX4, "mean", "(I)J"⟩
abbrev cX4_count : ByteArray := prog_1_method_13_code
def yX4_count : MethodName := ⟨RX4, "count", "(I)I"⟩
abbrev cX4_loudIn : ByteArray := prog_1_method_14_code
def yX4_loudIn : MethodName := ⟨RX4, "loudIn", "(II)I"⟩
abbrev cX4_freeIn : ByteArray := prog_1_method_15_code
def yX4_freeIn : MethodName := ⟨RX4, "freeIn", "(II)I"⟩
abbrev cX4_mostHeld : ByteArray := prog_1_method_16_code
def yX4_mostHeld : MethodName := ⟨RX4, "mostHeld", "(II)I"⟩
abbrev cX4_firstSafe : ByteArray := prog_1_method_17_code
def yX4_firstSafe : MethodName := ⟨RX4, "firstSafe", "(I)I"⟩
abbrev cX4_leastRoom : ByteArray := prog_1_method_18_code
def yX4_leastRoom : MethodName := ⟨RX4, "leastRoom", "(I)I"⟩
abbrev cX4_put : ByteArray := prog_1_method_19_code
def yX4_put : MethodName := ⟨RX4, "put", "(J)I"⟩
abbrev cX4_wipe : ByteArray := prog_1_method_20_code
def yX4_wipe : MethodName := ⟨RX4, "wipe", "()I"⟩
abbrev cX4_fault : ByteArray := prog_1_method_21_code
def yX4_fault : MethodName := ⟨RX4, "fault", "()I"⟩
abbrev cX4_carryOut : ByteArray := prog_1_method_22_code
def yX4_carryOut : MethodName := ⟨RX4, "carryOut", "()I"⟩
abbrev cX4_undo : ByteArray := prog_1_method_23_code
def yX4_undo : MethodName := ⟨RX4, "undo", "()I"⟩
abbrev cX4_save : ByteArray := prog_1_method_24_code
def yX4_save : MethodName := ⟨RX4, "save", "(I)I"⟩
abbrev cX4_restore : ByteArray := prog_1_method_25_code
def yX4_restore : MethodName := ⟨RX4, "restore", "(I)I"⟩
abbrev cX4_recorded : ByteArray := prog_1_method_26_code
def yX4_recorded : MethodName := ⟨RX4, "recorded", "(I)I"⟩
abbrev cX4_carryOutOrder : ByteArray := prog_1_method_27_code
def yX4_carryOutOrder : MethodName := ⟨RX4, "carryOutOrder", "()I"⟩
abbrev cX4_errorOfQuestion : ByteArray := prog_1_method_28_code
def yX4_errorOfQuestion : MethodName := ⟨RX4, "errorOfQuestion", "(II)I"⟩
abbrev cX4_tryMinutes : ByteArray := prog_1_method_29_code
def yX4_tryMinutes : MethodName := ⟨RX4, "tryMinutes", "(I)V"⟩
abbrev cX4_isDrive : ByteArray := prog_1_method_30_code
def yX4_isDrive : MethodName := ⟨RX4, "isDrive", "(I)Z"⟩
abbrev cX4_twinOf : ByteArray := prog_1_method_31_code
def yX4_twinOf : MethodName := ⟨RX4, "twinOf", "(I)I"⟩
abbrev cX4_isHour : ByteArray := prog_1_method_32_code
def yX4_isHour : MethodName := ⟨RX4, "isHour", "(I)Z"⟩
abbrev cX4_isSlot : ByteArray := prog_1_method_33_code
def yX4_isSlot : MethodName := ⟨RX4, "isSlot", "(I)Z"⟩
abbrev cX4_arePassable : ByteArray := prog_1_method_34_code
def yX4_arePassable : MethodName := ⟨RX4, "arePassable", "(I)Z"⟩
abbrev cX4_signsIn : ByteArray := prog_1_method_35_code
def yX4_signsIn : MethodName := ⟨RX4, "signsIn", "(J)I"⟩
abbrev cX4_doubleBits : ByteArray := prog_1_method_36_code
def yX4_doubleBits : MethodName := ⟨RX4, "doubleBits", "(D)J"⟩
abbrev cX4_floatBits : ByteArray := prog_1_method_37_code
def yX4_floatBits : MethodName := ⟨RX4, "floatBits", "(F)I"⟩
def RX5 : String := "SilentDrivesModel"
def TX5 : u_T := fun k => match k with
  | 0 => ("SilentDrivesModel", "now", "[J", true)
  | 1 => ("SilentDrivesModel", "then", "[J", true)
  | 2 => ("SilentDrivesModel", "past", "[J", true)
  | 3 => ("SilentDrivesModel", "kept", "I", false)
  | 4 => ("SilentDrivesModel", "slots", "[J", true)
  | 5 => ("SilentDrivesModel", "held", "[Z", true)
  | 6 => ("SilentDrivesModel", "pad", "[I", true)
  | 7 => ("SilentDrivesModel", "padded", "I", false)
  | 8 => ("SilentDrivesModel", "at", "I", false)
  | 9 => ("SilentDrivesModel", "orders", "[I", true)
  | _ => ("SilentDrivesModel", "ordered", "I", false)
def tyX5 : Nat → FieldType := fun k => match k with
  | 0 => .array .long
  | 1 => .array .long
  | 2 => .array .long
  | 3 => .int
  | 4 => .array .long
  | 5 => .array .boolean
  | 6 => .array .int
  | 7 => .int
  | 8 => .int
  | 9 => .array .int
  | _ => .int
abbrev wsX50 : List Cond := u_ws RX5 TX5 11
theorem nmX5 : ∀ a, a < 11 → ∀ b, b < 11 → a ≠ b → (TX5 a).2.1 ≠ (TX5 b).2.1 := by decide +kernel
theorem tyX5_ok : ∀ k, k < 11 → parseFieldDescriptor (TX5 k).2.2.1 = some (tyX5 k) := by decide +kernel
abbrev cX5_init : ByteArray := prog_7_method_1_code
def yX5_init : MethodName := ⟨RX5, "<init>", "()V"⟩
abbrev cX5_in : ByteArray := prog_7_method_3_code
def yX5_in : MethodName := ⟨RX5, "in", "(JJJ)Z"⟩
abbrev cX5_isDrive : ByteArray := prog_7_method_4_code
def yX5_isDrive : MethodName := ⟨RX5, "isDrive", "(I)Z"⟩
abbrev cX5_isHour : ByteArray := prog_7_method_5_code
def yX5_isHour : MethodName := ⟨RX5, "isHour", "(I)Z"⟩
abbrev cX5_row : ByteArray := prog_7_method_6_code
def yX5_row : MethodName := ⟨RX5, "row", "(I)I"⟩
abbrev cX5_lays : ByteArray := prog_7_method_7_code
def yX5_lays : MethodName := ⟨RX5, "lays", "([JI[JI)V"⟩
abbrev cX5_records : ByteArray := prog_7_method_8_code
def yX5_records : MethodName := ⟨RX5, "records", "()V"⟩
abbrev cX5_undo : ByteArray := prog_7_method_9_code
def yX5_undo : MethodName := ⟨RX5, "undo", "()I"⟩
abbrev cX5_save : ByteArray := prog_7_method_10_code
def yX5_save : MethodName := ⟨RX5, "save", "(I)I"⟩
abbrev cX5_restore : ByteArray := prog_7_method_11_code
def yX5_restore : MethodName := ⟨RX5, "restore", "(I)I"⟩
abbrev cX5_hourOf : ByteArray := prog_7_method_12_code
def yX5_hourOf : MethodName := ⟨RX5, "hourOf", "([JIJ)I"⟩
abbrev cX5_isQuiet : ByteArray := prog_7_method_13_code
def yX5_isQuiet : MethodName := ⟨RX5, "isQuiet", "([JI)Z"⟩
abbrev cX5_moves : ByteArray := prog_7_method_14_code
def yX5_moves : MethodName := ⟨RX5, "moves", "([JIIJ)V"⟩
abbrev cX5_least : ByteArray := prog_7_method_15_code
def yX5_least : MethodName := ⟨RX5, "least", "(JJ)J"⟩
abbrev cX5_turns : ByteArray := prog_7_method_16_code
def yX5_turns : MethodName := ⟨RX5, "turns", "([JI)V"⟩
abbrev cX5_writes : ByteArray := prog_7_method_17_code
def yX5_writes : MethodName := ⟨RX5, "writes", "([JIZ)V"⟩
abbrev cX5_cleans : ByteArray := prog_7_method_18_code
def yX5_cleans : MethodName := ⟨RX5, "cleans", "([JIZ)V"⟩
abbrev cX5_passesOne : ByteArray := prog_7_method_19_code
def yX5_passesOne : MethodName := ⟨RX5, "passesOne", "([J)V"⟩
abbrev cX5_overruns : ByteArray := prog_7_method_20_code
def yX5_overruns : MethodName := ⟨RX5, "overruns", "([J)J"⟩
abbrev cX5_isFor : ByteArray := prog_7_method_21_code
def yX5_isFor : MethodName := ⟨RX5, "isFor", "(II)Z"⟩
abbrev cX5_set : ByteArray := prog_7_method_22_code
def yX5_set : MethodName := ⟨RX5, "set", "(II)I"⟩
abbrev cX5_mayStream : ByteArray := prog_7_method_23_code
def yX5_mayStream : MethodName := ⟨RX5, "mayStream", "(III)I"⟩
abbrev cX5_streams : ByteArray := prog_7_method_24_code
def yX5_streams : MethodName := ⟨RX5, "streams", "(III)I"⟩
abbrev cX5_stream : ByteArray := prog_7_method_25_code
def yX5_stream : MethodName := ⟨RX5, "stream", "(III)I"⟩
abbrev cX5_mayWrite : ByteArray := prog_7_method_26_code
def yX5_mayWrite : MethodName := ⟨RX5, "mayWrite", "(II)I"⟩
abbrev cX5_comes : ByteArray := prog_7_method_27_code
def yX5_comes : MethodName := ⟨RX5, "comes", "(II)I"⟩
abbrev cX5_write : ByteArray := prog_7_method_28_code
def yX5_write : MethodName := ⟨RX5, "write", "(II)I"⟩
abbrev cX5_mayTrade : ByteArray := prog_7_method_29_code
def yX5_mayTrade : MethodName := ⟨RX5, "mayTrade", "(IIZ)I"⟩
abbrev cX5_hoursOf : ByteArray := prog_7_method_30_code
def yX5_hoursOf : MethodName := ⟨RX5, "hoursOf", "(II)I"⟩
abbrev cX5_trades : ByteArray := prog_7_method_31_code
def yX5_trades : MethodName := ⟨RX5, "trades", "(IIZ)I"⟩
abbrev cX5_sell : ByteArray := prog_7_method_32_code
def yX5_sell : MethodName := ⟨RX5, "sell", "(II)I"⟩
abbrev cX5_giveBack : ByteArray := prog_7_method_33_code
def yX5_giveBack : MethodName := ⟨RX5, "giveBack", "(II)I"⟩
abbrev cX5_areMinutes : ByteArray := prog_7_method_34_code
def yX5_areMinutes : MethodName := ⟨RX5, "areMinutes", "(I)Z"⟩
abbrev cX5_passes : ByteArray := prog_7_method_35_code
def yX5_passes : MethodName := ⟨RX5, "passes", "(I)V"⟩
abbrev cX5_pass : ByteArray := prog_7_method_36_code
def yX5_pass : MethodName := ⟨RX5, "pass", "(I)I"⟩
abbrev cX5_ofDrive : ByteArray := prog_7_method_37_code
def yX5_ofDrive : MethodName := ⟨RX5, "ofDrive", "(II)I"⟩
abbrev cX5_hour : ByteArray := prog_7_method_38_code
def yX5_hour : MethodName := ⟨RX5, "hour", "(II)I"⟩
abbrev cX5_streak : ByteArray := prog_7_method_39_code
def yX5_streak : MethodName := ⟨RX5, "streak", "(I)I"⟩
abbrev cX5_share : ByteArray := prog_7_method_40_code
def yX5_share : MethodName := ⟨RX5, "share", "(I)I"⟩
abbrev cX5_mean : ByteArray := prog_7_method_41_code
def yX5_mean : MethodName := ⟨RX5, "mean", "(I)J"⟩
abbrev cX5_count : ByteArray := prog_7_method_42_code
def yX5_count : MethodName := ⟨RX5, "count", "(I)I"⟩
abbrev cX5_tries : ByteArray := prog_7_method_43_code
def yX5_tries : MethodName := ⟨RX5, "tries", "()V"⟩
abbrev cX5_mayAsk : ByteArray := prog_7_method_44_code
def yX5_mayAsk : MethodName := ⟨RX5, "mayAsk", "(II)I"⟩
abbrev cX5_passesThen : ByteArray := prog_7_method_45_code
def yX5_passesThen : MethodName := ⟨RX5, "passesThen", "(II)J"⟩
abbrev cX5_loudIn : ByteArray := prog_7_method_46_code
def yX5_loudIn : MethodName := ⟨RX5, "loudIn", "(II)I"⟩
abbrev cX5_freeIn : ByteArray := prog_7_method_47_code
def yX5_freeIn : MethodName := ⟨RX5, "freeIn", "(II)I"⟩
abbrev cX5_mostHeld : ByteArray := prog_7_method_48_code
def yX5_mostHeld : MethodName := ⟨RX5, "mostHeld", "(II)I"⟩
abbrev cX5_isSafe : ByteArray := prog_7_method_49_code
def yX5_isSafe : MethodName := ⟨RX5, "isSafe", "(II)Z"⟩
abbrev cX5_firstSafe : ByteArray := prog_7_method_50_code
def yX5_firstSafe : MethodName := ⟨RX5, "firstSafe", "(I)I"⟩
abbrev cX5_leastRoom : ByteArray := prog_7_method_51_code
def yX5_leastRoom : MethodName := ⟨RX5, "leastRoom", "(I)I"⟩
abbrev cX5_byteOf : ByteArray := prog_7_method_52_code
def yX5_byteOf : MethodName := ⟨RX5, "byteOf", "(JI)I"⟩
abbrev cX5_toldBy : ByteArray := prog_7_method_53_code
def yX5_toldBy : MethodName := ⟨RX5, "toldBy", "(J)I"⟩
abbrev cX5_put : ByteArray := prog_7_method_54_code
def yX5_put : MethodName := ⟨RX5, "put", "(J)I"⟩
abbrev cX5_wipe : ByteArray := prog_7_method_55_code
def yX5_wipe : MethodName := ⟨RX5, "wipe", "()I"⟩
abbrev cX5_isAt : ByteArray := prog_7_method_56_code
def yX5_isAt : MethodName := ⟨RX5, "isAt", "(II)Z"⟩
abbrev cX5_isSign : ByteArray := prog_7_method_57_code
def yX5_isSign : MethodName := ⟨RX5, "isSign", "(I)Z"⟩
abbrev cX5_isNumber : ByteArray := prog_7_method_58_code
def yX5_isNumber : MethodName := ⟨RX5, "isNumber", "(I)Z"⟩
abbrev cX5_isOrder : ByteArray := prog_7_method_59_code
def yX5_isOrder : MethodName := ⟨RX5, "isOrder", "()Z"⟩
abbrev cX5_isText : ByteArray := prog_7_method_60_code
def yX5_isText : MethodName := ⟨RX5, "isText", "()Z"⟩
abbrev cX5_fault : ByteArray := prog_7_method_61_code
def yX5_fault : MethodName := ⟨RX5, "fault", "()I"⟩
abbrev cX5_does : ByteArray := prog_7_method_62_code
def yX5_does : MethodName := ⟨RX5, "does", "(I)Z"⟩
abbrev cX5_carryOut : ByteArray := prog_7_method_63_code
def yX5_carryOut : MethodName := ⟨RX5, "carryOut", "()I"⟩
def RJxe99ae : String := "java/lang/Double"
def TJxe99ae : u_T := fun k => match k with
  | _ => ("", "", "", false)
def tyJxe99ae : Nat → FieldType := fun k => match k with
  | _ => .int
abbrev wsJxe99ae0 : List Cond := u_ws RJxe99ae TJxe99ae 0
theorem nmJxe99ae : ∀ a, a < 0 → ∀ b, b < 0 → a ≠ b → (TJxe99ae a).2.1 ≠ (TJxe99ae b).2.1 := by decide +kernel
theorem tyJxe99ae_ok : ∀ k, k < 0 → parseFieldDescriptor (TJxe99ae k).2.2.1 = some (tyJxe99ae k) := by decide +kernel
abbrev cJxe99ae_isNaN_b9ae7 : ByteArray := prog_8_method_6_code
def yJxe99ae_isNaN_b9ae7 : MethodName := ⟨RJxe99ae, "isNaN", "(D)Z"⟩
abbrev cJxe99ae_doubleToLongBits_ccdee : ByteArray := prog_8_method_23_code
def yJxe99ae_doubleToLongBits_ccdee : MethodName := ⟨RJxe99ae, "doubleToLongBits", "(D)J"⟩
def RJxf58ca : String := "java/lang/Float"
def TJxf58ca : u_T := fun k => match k with
  | _ => ("", "", "", false)
def tyJxf58ca : Nat → FieldType := fun k => match k with
  | _ => .int
abbrev wsJxf58ca0 : List Cond := u_ws RJxf58ca TJxf58ca 0
theorem nmJxf58ca : ∀ a, a < 0 → ∀ b, b < 0 → a ≠ b → (TJxf58ca a).2.1 ≠ (TJxf58ca b).2.1 := by decide +kernel
theorem tyJxf58ca_ok : ∀ k, k < 0 → parseFieldDescriptor (TJxf58ca k).2.2.1 = some (tyJxf58ca k) := by decide +kernel
abbrev cJxf58ca_isNaN_12338 : ByteArray := prog_9_method_6_code
def yJxf58ca_isNaN_12338 : MethodName := ⟨RJxf58ca, "isNaN", "(F)Z"⟩
abbrev cJxf58ca_floatToIntBits_5c35a : ByteArray := prog_9_method_24_code
def yJxf58ca_floatToIntBits_5c35a : MethodName := ⟨RJxf58ca, "floatToIntBits", "(F)I"⟩
def RJ9 : String := "java/lang/Math"
def TJ9 : u_T := fun k => match k with
  | _ => ("", "", "", false)
def tyJ9 : Nat → FieldType := fun k => match k with
  | _ => .int
abbrev wsJ90 : List Cond := u_ws RJ9 TJ9 0
theorem nmJ9 : ∀ a, a < 0 → ∀ b, b < 0 → a ≠ b → (TJ9 a).2.1 ≠ (TJ9 b).2.1 := by decide +kernel
theorem tyJ9_ok : ∀ k, k < 0 → parseFieldDescriptor (TJ9 k).2.2.1 = some (tyJ9 k) := by decide +kernel
abbrev cJ9_max_7cf53 : ByteArray := prog_10_method_65_code
def yJ9_max_7cf53 : MethodName := ⟨RJ9, "max", "(II)I"⟩
abbrev cJ9_min_7cf53 : ByteArray := prog_10_method_69_code
def yJ9_min_7cf53 : MethodName := ⟨RJ9, "min", "(II)I"⟩
def RJ10 : String := "java/lang/System"
def TJ10 : u_T := fun k => match k with
  | _ => ("", "", "", false)
def tyJ10 : Nat → FieldType := fun k => match k with
  | _ => .int
abbrev wsJ100 : List Cond := u_ws RJ10 TJ10 0
theorem nmJ10 : ∀ a, a < 0 → ∀ b, b < 0 → a ≠ b → (TJ10 a).2.1 ≠ (TJ10 b).2.1 := by decide +kernel
theorem tyJ10_ok : ∀ k, k < 0 → parseFieldDescriptor (TJ10 k).2.2.1 = some (tyJ10 k) := by decide +kernel
def RL : String := "SilentDrivesLaw"
abbrev cL_law : ByteArray := code
def yL_law : MethodName := ⟨RL, "law", "([I)Z"⟩
abbrev vwCl : List vw_C := [(RX0, TX0, 12), (RX1, TX1, 3), (RX2, TX2, 7), (RX3, TX3, 7), (RX4, TX4, 7), (RX5, TX5, 11)]
