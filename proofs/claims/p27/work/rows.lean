section
-- ===== PART A: goes FIRST, ahead of the names: the tables' words, and 'selects' of the private methods out of them =====
/-- a private method of a class that the tables say can be made, by its rows of tables_1 -/
def lw_okq (q : MethodName × Nat) : Prop := (q.1.cls ≠ "java/lang/invoke/MethodHandle" ∧ q.1.cls ≠ "java/lang/invoke/VarHandle") ∧ Cond.instantiable q.1.cls q.2 ∈ tables_1 ∧ Cond.privateMethod q.1 ∈ tables_1 ∧ Cond.instanceMethod q.1 ∈ tables_1
theorem lw_p0 : lw_okq (⟨"SilentDrives$Station", "passMinuteOf", "(LSilentDrives$Drive;LSilentDrives$Drive;)Z"⟩, 7) := ⟨⟨by decide +kernel, by decide +kernel⟩, List.mem_of_getElem? (i := 17) (by decide +kernel), List.mem_of_getElem? (i := 219) (by decide +kernel), List.mem_of_getElem? (i := 220) (by decide +kernel)⟩
theorem lw_p1 : lw_okq (⟨"SilentDrives$Station", "settleHours", "(LSilentDrives$Drive;IZ)V"⟩, 7) := ⟨⟨by decide +kernel, by decide +kernel⟩, List.mem_of_getElem? (i := 17) (by decide +kernel), List.mem_of_getElem? (i := 238) (by decide +kernel), List.mem_of_getElem? (i := 239) (by decide +kernel)⟩
theorem lw_p2 : lw_okq (⟨"SilentDrives$Drive", "fillCells", "(I)V"⟩, 12) := ⟨⟨by decide +kernel, by decide +kernel⟩, List.mem_of_getElem? (i := 29) (by decide +kernel), List.mem_of_getElem? (i := 258) (by decide +kernel), List.mem_of_getElem? (i := 259) (by decide +kernel)⟩
theorem lw_p3 : lw_okq (⟨"SilentDrives$Station", "cleanUp", "(LSilentDrives$Drive;Z)Z"⟩, 7) := ⟨⟨by decide +kernel, by decide +kernel⟩, List.mem_of_getElem? (i := 17) (by decide +kernel), List.mem_of_getElem? (i := 270) (by decide +kernel), List.mem_of_getElem? (i := 271) (by decide +kernel)⟩
theorem lw_p4 : lw_okq (⟨"SilentDrives$Station", "chargeOverrun", "(LSilentDrives$Drive;I)V"⟩, 7) := ⟨⟨by decide +kernel, by decide +kernel⟩, List.mem_of_getElem? (i := 17) (by decide +kernel), List.mem_of_getElem? (i := 279) (by decide +kernel), List.mem_of_getElem? (i := 280) (by decide +kernel)⟩
theorem lw_p5 : lw_okq (⟨"SilentDrives", "recorded", "(I)I"⟩, 7) := ⟨⟨by decide +kernel, by decide +kernel⟩, List.mem_of_getElem? (i := 9) (by decide +kernel), List.mem_of_getElem? (i := 283) (by decide +kernel), List.mem_of_getElem? (i := 284) (by decide +kernel)⟩
theorem lw_p6 : lw_okq (⟨"SilentDrives$Station", "changeHour", "(IIII)I"⟩, 7) := ⟨⟨by decide +kernel, by decide +kernel⟩, List.mem_of_getElem? (i := 17) (by decide +kernel), List.mem_of_getElem? (i := 363) (by decide +kernel), List.mem_of_getElem? (i := 364) (by decide +kernel)⟩
def lw_privs_1 : List (MethodName × Nat) := [(⟨"SilentDrives$Station", "passMinuteOf", "(LSilentDrives$Drive;LSilentDrives$Drive;)Z"⟩, 7), (⟨"SilentDrives$Station", "settleHours", "(LSilentDrives$Drive;IZ)V"⟩, 7), (⟨"SilentDrives$Drive", "fillCells", "(I)V"⟩, 12), (⟨"SilentDrives$Station", "cleanUp", "(LSilentDrives$Drive;Z)Z"⟩, 7), (⟨"SilentDrives$Station", "chargeOverrun", "(LSilentDrives$Drive;I)V"⟩, 7), (⟨"SilentDrives", "recorded", "(I)I"⟩, 7), (⟨"SilentDrives$Station", "changeHour", "(IIII)I"⟩, 7)]
theorem lw_r1 : ∀ q ∈ lw_privs_1, lw_okq q := List.forall_mem_cons.mpr ⟨lw_p0, List.forall_mem_cons.mpr ⟨lw_p1, List.forall_mem_cons.mpr ⟨lw_p2, List.forall_mem_cons.mpr ⟨lw_p3, List.forall_mem_cons.mpr ⟨lw_p4, List.forall_mem_cons.mpr ⟨lw_p5, List.forall_mem_cons.mpr ⟨lw_p6, fun _ h => absurd h List.not_mem_nil⟩⟩⟩⟩⟩⟩⟩
def lw_privs : List (MethodName × Nat) := lw_privs_1
def lw_tbl : List Cond := k2_sels lw_privs ++ tables_1
theorem lw_privs_ok : ∀ q ∈ lw_privs, lw_okq q := lw_r1
/-- the streams that the claim lets the run draw from -/
abbrev lw_cs : List Choice := [Jvm.Choice.named "NaN.bits"]
theorem lw_bits : nanBits ∈ lw_cs := by first | decide | exact List.mem_cons_self | simp [lw_cs, nanBits]
-- ===== end of PART A; then your names; then what follows =====
/-! ===== BEGIN words of one list among another's, by their places ===== -/
theorem goodIn_r {big : List Cond} (ws : List Cond) (ps : List Nat) (hp : ws = ps.filterMap (fun i => big[i]?)) (h : ws.all goodWord = true) : GoodIn big ws := by
  intro w hw
  have h1 := List.all_eq_true.mp h w hw
  rw [hp] at hw
  obtain ⟨i, -, hi⟩ := List.mem_filterMap.mp hw
  have hm : w ∈ big := by first | exact List.mem_of_getElem? hi | exact List.getElem?_mem hi
  exact ⟨hm, good_of_word h1⟩
theorem goodIn_app {big a b : List Cond} (ha : GoodIn big a) (hb : GoodIn big b) : GoodIn big (a ++ b) := fun w h => (List.mem_append.mp h).elim (ha w) (hb w)
theorem goodIn_ca {big a b : List Cond} {c : Cond} (ha : GoodIn big (c :: a)) (hb : GoodIn big b) : GoodIn big (c :: (a ++ b)) := fun w h => (List.mem_cons.mp h).elim (fun e => ha w (List.mem_cons.mpr (Or.inl e))) (fun h => (List.mem_append.mp h).elim (fun h => ha w (List.mem_cons.mpr (Or.inr h))) (hb w))
theorem goodIn_sub {big ws : List Cond} (hm : ∀ w ∈ ws, w ∈ big) (h : ws.all goodWord = true) : GoodIn big ws := fun w hw => ⟨hm w hw, good_of_word (List.all_eq_true.mp h w hw)⟩
/-! ===== END ===== -/

/-! ===== BEGIN printed: names, fields, word lists, decode rows ===== -/
def RX0 : String := "SilentDrives$Drive"
def TX0 : u_T := fun k => match k with
  | 0 => ("SilentDrives$Drive", "free", "I", false)
  | 1 => ("SilentDrives$Drive", "stale", "I", false)
  | 2 => ("SilentDrives$Drive", "lent", "I", false)
  | 3 => ("SilentDrives$Drive", "held", "I", false)
  | 4 => ("SilentDrives$Drive", "cleaning", "Z", false)
  | 5 => ("SilentDrives$Drive", "written", "I", false)
  | 6 => ("SilentDrives$Drive", "sounded", "I", false)
  | 7 => ("SilentDrives$Drive", "overruns", "I", false)
  | 8 => ("SilentDrives$Drive", "every", "I", false)
  | 9 => ("SilentDrives$Drive", "units", "I", false)
  | 10 => ("SilentDrives$Drive", "heldSum", "J", false)
  | _ => ("SilentDrives$Drive", "hours", "[B", true)
def tyX0 : Nat → FieldType := fun k => match k with
  | 0 => .int
  | 1 => .int
  | 2 => .int
  | 3 => .int
  | 4 => .boolean
  | 5 => .int
  | 6 => .int
  | 7 => .int
  | 8 => .int
  | 9 => .int
  | 10 => .long
  | _ => .array .byte
abbrev wsX00 : List Cond := u_ws RX0 TX0 12
theorem nmX0 : ∀ a, a < 12 → ∀ b, b < 12 → a ≠ b → (TX0 a).2.1 ≠ (TX0 b).2.1 := by decide +kernel
theorem tyX0_ok : ∀ k, k < 12 → parseFieldDescriptor (TX0 k).2.2.1 = some (tyX0 k) := by decide +kernel
abbrev cX0_init : ByteArray := prog_2_method_1_code
def yX0_init : MethodName := ⟨RX0, "<init>", "()V"⟩
abbrev cX0_copyFrom : ByteArray := prog_2_method_2_code
def yX0_copyFrom : MethodName := ⟨RX0, "copyFrom", "(LSilentDrives$Drive;)V"⟩
abbrev cX0_hourState : ByteArray := prog_2_method_3_code
def yX0_hourState : MethodName := ⟨RX0, "hourState", "(I)I"⟩
abbrev cX0_markHour : ByteArray := prog_2_method_4_code
def yX0_markHour : MethodName := ⟨RX0, "markHour", "(II)V"⟩
abbrev cX0_isQuietIn : ByteArray := prog_2_method_5_code
def yX0_isQuietIn : MethodName := ⟨RX0, "isQuietIn", "(I)Z"⟩
abbrev cX0_hoursThatAre : ByteArray := prog_2_method_6_code
def yX0_hoursThatAre : MethodName := ⟨RX0, "hoursThatAre", "(I)I"⟩
abbrev cX0_soldHours : ByteArray := prog_2_method_7_code
def yX0_soldHours : MethodName := ⟨RX0, "soldHours", "()I"⟩
abbrev cX0_keptInARow : ByteArray := prog_2_method_8_code
def yX0_keptInARow : MethodName := ⟨RX0, "keptInARow", "()I"⟩
abbrev cX0_takeStream : ByteArray := prog_2_method_9_code
def yX0_takeStream : MethodName := ⟨RX0, "takeStream", "(I)V"⟩
abbrev cX0_takeBackFrom : ByteArray := prog_2_method_10_code
def yX0_takeBackFrom : MethodName := ⟨RX0, "takeBackFrom", "(LSilentDrives$Drive;)V"⟩
abbrev cX0_writeHeld : ByteArray := prog_2_method_11_code
def yX0_writeHeld : MethodName := ⟨RX0, "writeHeld", "()V"⟩
abbrev cX0_fillCells : ByteArray := prog_2_method_12_code
def yX0_fillCells : MethodName := ⟨RX0, "fillCells", "(I)V"⟩
abbrev cX0_lendTo : ByteArray := prog_2_method_13_code
def yX0_lendTo : MethodName := ⟨RX0, "lendTo", "(LSilentDrives$Drive;I)V"⟩
abbrev cX0_cleanCells : ByteArray := prog_2_method_14_code
def yX0_cleanCells : MethodName := ⟨RX0, "cleanCells", "(I)V"⟩
def RX1 : String := "SilentDrives$History"
def TX1 : u_T := fun k => match k with
  | 0 => ("SilentDrives$History", "states", "[LSilentDrives$Station;", true)
  | 1 => ("SilentDrives$History", "next", "I", false)
  | _ => ("SilentDrives$History", "size", "I", false)
def tyX1 : Nat → FieldType := fun k => match k with
  | 0 => .array (.object "SilentDrives$Station")
  | 1 => .int
  | _ => .int
abbrev wsX10 : List Cond := u_ws RX1 TX1 3
theorem nmX1 : ∀ a, a < 3 → ∀ b, b < 3 → a ≠ b → (TX1 a).2.1 ≠ (TX1 b).2.1 := by decide +kernel
theorem tyX1_ok : ∀ k, k < 3 → parseFieldDescriptor (TX1 k).2.2.1 = some (tyX1 k) := by decide +kernel
abbrev cX1_init : ByteArray := prog_3_method_1_code
def yX1_init : MethodName := ⟨RX1, "<init>", "()V"⟩
abbrev cX1_prepare : ByteArray := prog_3_method_2_code
def yX1_prepare : MethodName := ⟨RX1, "prepare", "(LSilentDrives$Station;)V"⟩
abbrev cX1_keepPrepared : ByteArray := prog_3_method_3_code
def yX1_keepPrepared : MethodName := ⟨RX1, "keepPrepared", "()V"⟩
def RX2 : String := "SilentDrives$Pad"
def TX2 : u_T := fun k => match k with
  | 0 => ("SilentDrives$Pad", "signs", "[C", true)
  | 1 => ("SilentDrives$Pad", "length", "I", false)
  | 2 => ("SilentDrives$Pad", "place", "I", false)
  | 3 => ("SilentDrives$Pad", "kind", "C", false)
  | 4 => ("SilentDrives$Pad", "drive", "I", false)
  | 5 => ("SilentDrives$Pad", "first", "I", false)
  | _ => ("SilentDrives$Pad", "second", "I", false)
def tyX2 : Nat → FieldType := fun k => match k with
  | 0 => .array .char
  | 1 => .int
  | 2 => .int
  | 3 => .char
  | 4 => .int
  | 5 => .int
  | _ => .int
abbrev wsX20 : List Cond := u_ws RX2 TX2 7
theorem nmX2 : ∀ a, a < 7 → ∀ b, b < 7 → a ≠ b → (TX2 a).2.1 ≠ (TX2 b).2.1 := by decide +kernel
theorem tyX2_ok : ∀ k, k < 7 → parseFieldDescriptor (TX2 k).2.2.1 = some (tyX2 k) := by decide +kernel
abbrev cX2_init : ByteArray := prog_4_method_1_code
def yX2_init : MethodName := ⟨RX2, "<init>", "()V"⟩
def RX3 : String := "SilentDrives$Station"
def TX3 : u_T := fun k => match k with
  | 0 => ("SilentDrives$Station", "settings", "[I", true)
  | 1 => ("SilentDrives$Station", "drives", "[LSilentDrives$Drive;", true)
  | 2 => ("SilentDrives$Station", "now", "I", false)
  | 3 => ("SilentDrives$Station", "earned", "I", false)
  | 4 => ("SilentDrives$Station", "fined", "I", false)
  | 5 => ("SilentDrives$Station", "credits", "I", false)
  | _ => ("SilentDrives$Station", "creditsUsed", "I", false)
def tyX3 : Nat → FieldType := fun k => match k with
  | 0 => .array .int
  | 1 => .array (.object "SilentDrives$Drive")
  | 2 => .int
  | 3 => .int
  | 4 => .int
  | 5 => .int
  | _ => .int
abbrev wsX30 : List Cond := u_ws RX3 TX3 7
theorem nmX3 : ∀ a, a < 7 → ∀ b, b < 7 → a ≠ b → (TX3 a).2.1 ≠ (TX3 b).2.1 := by decide +kernel
theorem tyX3_ok : ∀ k, k < 7 → parseFieldDescriptor (TX3 k).2.2.1 = some (tyX3 k) := by decide +kernel
abbrev cX3_init : ByteArray := prog_5_method_1_code
def yX3_init : MethodName := ⟨RX3, "<init>", "()V"⟩
abbrev cX3_copyFrom : ByteArray := prog_5_method_2_code
def yX3_copyFrom : MethodName := ⟨RX3, "copyFrom", "(LSilentDrives$Station;)V"⟩
abbrev cX3_hourOfNow : ByteArray := prog_5_method_3_code
def yX3_hourOfNow : MethodName := ⟨RX3, "hourOfNow", "()I"⟩
abbrev cX3_changeSetting : ByteArray := prog_5_method_4_code
def yX3_changeSetting : MethodName := ⟨RX3, "changeSetting", "(II)I"⟩
abbrev cX3_changeStream : ByteArray := prog_5_method_5_code
def yX3_changeStream : MethodName := ⟨RX3, "changeStream", "(III)I"⟩
abbrev cX3_bringUnits : ByteArray := prog_5_method_6_code
def yX3_bringUnits : MethodName := ⟨RX3, "bringUnits", "(II)I"⟩
abbrev cX3_sellHour : ByteArray := prog_5_method_7_code
def yX3_sellHour : MethodName := ⟨RX3, "sellHour", "(II)I"⟩
abbrev cX3_takeHourBack : ByteArray := prog_5_method_8_code
def yX3_takeHourBack : MethodName := ⟨RX3, "takeHourBack", "(II)I"⟩
abbrev cX3_changeHour : ByteArray := prog_5_method_9_code
def yX3_changeHour : MethodName := ⟨RX3, "changeHour", "(IIII)I"⟩
abbrev cX3_passMinutes : ByteArray := prog_5_method_10_code
def yX3_passMinutes : MethodName := ⟨RX3, "passMinutes", "(I)I"⟩
abbrev cX3_passOneMinute : ByteArray := prog_5_method_12_code
def yX3_passOneMinute : MethodName := ⟨RX3, "passOneMinute", "()Z"⟩
abbrev cX3_passMinuteOf : ByteArray := prog_5_method_13_code
def yX3_passMinuteOf : MethodName := ⟨RX3, "passMinuteOf", "(LSilentDrives$Drive;LSilentDrives$Drive;)Z"⟩
abbrev cX3_settleHours : ByteArray := prog_5_method_14_code
def yX3_settleHours : MethodName := ⟨RX3, "settleHours", "(LSilentDrives$Drive;IZ)V"⟩
abbrev cX3_cleanUp : ByteArray := prog_5_method_15_code
def yX3_cleanUp : MethodName := ⟨RX3, "cleanUp", "(LSilentDrives$Drive;Z)Z"⟩
abbrev cX3_chargeOverrun : ByteArray := prog_5_method_16_code
def yX3_chargeOverrun : MethodName := ⟨RX3, "chargeOverrun", "(LSilentDrives$Drive;I)V"⟩
def RX4 : String := "SilentDrives"
def TX4 : u_T := fun k => match k with
  | 0 => ("SilentDrives", "present", "LSilentDrives$Station;", true)
  | 1 => ("SilentDrives", "history", "LSilentDrives$History;", true)
  | 2 => ("SilentDrives", "slots", "[LSilentDrives$Station;", true)
  | 3 => ("SilentDrives", "slotUsed", "[Z", true)
  | 4 => ("SilentDrives", "pad", "LSilentDrives$Pad;", true)
  | 5 => ("SilentDrives", "trial", "LSilentDrives$Station;", true)
  | _ => ("SilentDrives", "soldTrial", "LSilentDrives$Station;", true)
def tyX4 : Nat → FieldType := fun k => match k with
  | 0 => .object "SilentDrives$Station"
  | 1 => .object "SilentDrives$History"
  | 2 => .array (.object "SilentDrives$Station")
  | 3 => .array .boolean
  | 4 => .object "SilentDrives$Pad"
  | 5 => .object "SilentDrives$Station"
  | _ => .object "SilentDrives$Station"
abbrev wsX40 : List Cond := u_ws RX4 TX4 7
theorem nmX4 : ∀ a, a < 7 → ∀ b, b < 7 → a ≠ b → (TX4 a).2.1 ≠ (TX4 b).2.1 := by decide +kernel
theorem tyX4_ok : ∀ k, k < 7 → parseFieldDescriptor (TX4 k).2.2.1 = some (tyX4 k) := by decide +kernel
abbrev cX4_init : ByteArray := prog_1_method_1_code
def yX4_init : MethodName := ⟨RX4, "<init>", "()V"⟩
abbrev cX4_set : ByteArray := prog_1_method_2_code
def yX4_set : MethodName := ⟨RX4, "set", "(II)I"⟩
abbrev cX4_stream : ByteArray := prog_1_method_3_code
def yX4_stream : MethodName := ⟨RX4, "stream", "(III)I"⟩
abbrev cX4_write : ByteArray := prog_1_method_4_code
def yX4_write : MethodName := ⟨RX4, "write", "(II)I"⟩
abbrev cX4_sell : ByteArray := prog_1_method_5_code
def yX4_sell : MethodName := ⟨RX4, "sell", "(II)I"⟩
abbrev cX4_giveBack : ByteArray := prog_1_method_6_code
def yX4_giveBack : MethodName := ⟨RX4, "giveBack", "(II)I"⟩
abbrev cX4_pass : ByteArray := prog_1_method_7_code
def yX4_pass : MethodName := ⟨RX4, "pass", "(I)I"⟩
abbrev cX4_ofDrive : ByteArray := prog_1_method_8_code
def yX4_ofDrive : MethodName := ⟨RX4, "ofDrive", "(II)I"⟩
abbrev cX4_hour : ByteArray := prog_1_method_9_code
def yX4_hour : MethodName := ⟨RX4, "hour", "(II)I"⟩
abbrev cX4_streak : ByteArray := prog_1_method_10_code
def yX4_streak : MethodName := ⟨RX4, "streak", "(I)I"⟩
abbrev cX4_share : ByteArray := prog_1_method_11_code
def yX4_share : MethodName := ⟨RX4, "share", "(I)I"⟩
abbrev cX4_count : ByteArray := prog_1_method_13_code
def yX4_count : MethodName := ⟨RX4, "count", "(I)I"⟩
abbrev cX4_recorded : ByteArray := prog_1_method_26_code
def yX4_recorded : MethodName := ⟨RX4, "recorded", "(I)I"⟩
abbrev cX4_isDrive : ByteArray := prog_1_method_30_code
def yX4_isDrive : MethodName := ⟨RX4, "isDrive", "(I)Z"⟩
abbrev cX4_twinOf : ByteArray := prog_1_method_31_code
def yX4_twinOf : MethodName := ⟨RX4, "twinOf", "(I)I"⟩
abbrev cX4_isHour : ByteArray := prog_1_method_32_code
def yX4_isHour : MethodName := ⟨RX4, "isHour", "(I)Z"⟩
abbrev cX4_arePassable : ByteArray := prog_1_method_34_code
def yX4_arePassable : MethodName := ⟨RX4, "arePassable", "(I)Z"⟩
abbrev cX4_doubleBits : ByteArray := prog_1_method_36_code
def yX4_doubleBits : MethodName := ⟨RX4, "doubleBits", "(D)J"⟩
abbrev cX4_floatBits : ByteArray := prog_1_method_37_code
def yX4_floatBits : MethodName := ⟨RX4, "floatBits", "(F)I"⟩
def RX5 : String := "SilentDrivesModel"
def TX5 : u_T := fun k => match k with
  | _ => ("", "", "", false)
def tyX5 : Nat → FieldType := fun k => match k with
  | _ => .int
abbrev wsX50 : List Cond := u_ws RX5 TX5 0
theorem nmX5 : ∀ a, a < 0 → ∀ b, b < 0 → a ≠ b → (TX5 a).2.1 ≠ (TX5 b).2.1 := by decide +kernel
theorem tyX5_ok : ∀ k, k < 0 → parseFieldDescriptor (TX5 k).2.2.1 = some (tyX5 k) := by decide +kernel
def RJ9 : String := "java/lang/Math"
def TJ9 : u_T := fun k => match k with
  | _ => ("", "", "", false)
def tyJ9 : Nat → FieldType := fun k => match k with
  | _ => .int
abbrev wsJ90 : List Cond := u_ws RJ9 TJ9 0
theorem nmJ9 : ∀ a, a < 0 → ∀ b, b < 0 → a ≠ b → (TJ9 a).2.1 ≠ (TJ9 b).2.1 := by decide +kernel
theorem tyJ9_ok : ∀ k, k < 0 → parseFieldDescriptor (TJ9 k).2.2.1 = some (tyJ9 k) := by decide +kernel
abbrev cJ9_min_7cf53 : ByteArray := prog_8_method_69_code
def yJ9_min_7cf53 : MethodName := ⟨RJ9, "min", "(II)I"⟩
def RJ10 : String := "java/lang/System"
def TJ10 : u_T := fun k => match k with
  | _ => ("", "", "", false)
def tyJ10 : Nat → FieldType := fun k => match k with
  | _ => .int
abbrev wsJ100 : List Cond := u_ws RJ10 TJ10 0
theorem nmJ10 : ∀ a, a < 0 → ∀ b, b < 0 → a ≠ b → (TJ10 a).2.1 ≠ (TJ10 b).2.1 := by decide +kernel
theorem tyJ10_ok : ∀ k, k < 0 → parseFieldDescriptor (TJ10 k).2.2.1 = some (tyJ10 k) := by decide +kernel
def RL : String := "SilentDrivesLaw"
abbrev cL_low : ByteArray := method_2_code
def yL_low : MethodName := ⟨RL, "low", "(II)I"⟩
abbrev cL_cell : ByteArray := method_3_code
def yL_cell : MethodName := ⟨RL, "cell", "([II)I"⟩
abbrev cL_drive : ByteArray := method_4_code
def yL_drive : MethodName := ⟨RL, "drive", "(LSilentDrives;I)Z"⟩
abbrev cL_act : ByteArray := method_5_code
def yL_act : MethodName := ⟨RL, "act", "(LSilentDrives;[II)I"⟩
abbrev cL_law : ByteArray := code
def yL_law : MethodName := ⟨RL, "law", "([I)Z"⟩
abbrev vwCl : List vw_C := [(RX0, TX0, 12), (RX1, TX1, 3), (RX2, TX2, 7), (RX3, TX3, 7), (RX4, TX4, 7)]
end
section
/-! WORDS: AW is what of the tables a callee may be handed; each word by its place -/
def AW : List Cond := lw_tbl.filter goodWord
theorem AW_in {w : Cond} (h : w ∈ AW) : w ∈ lw_tbl := (List.mem_filter.mp h).1
theorem AW_good : AW.all goodWord = true := List.all_eq_true.mpr fun _ h => (List.mem_filter.mp h).2
theorem aw_0 {w : Cond} (h : w ∈ k2_sels lw_privs) (g : goodWord w = true) : w ∈ AW := List.mem_filter.mpr ⟨List.mem_append_left _ h, g⟩
theorem aw_t1 {w : Cond} (h : w ∈ tables_1_1) (g : goodWord w = true) : w ∈ AW := List.mem_filter.mpr ⟨List.mem_append_right _ (List.mem_append_left _ h), g⟩
theorem aw_t2 {w : Cond} (h : w ∈ tables_1_2) (g : goodWord w = true) : w ∈ AW := List.mem_filter.mpr ⟨List.mem_append_right _ (List.mem_append_right _ h), g⟩
theorem kw_0 : Cond.initialized RL ∈ AW := aw_t1 (List.mem_of_getElem? (i := 0) rfl) rfl
theorem kw_1 : Cond.initialized RX4 ∈ AW := aw_t1 (List.mem_of_getElem? (i := 1) rfl) rfl
theorem kw_2 : Cond.initialized RX3 ∈ AW := aw_t1 (List.mem_of_getElem? (i := 2) rfl) rfl
theorem kw_3 : Cond.initialized RJ10 ∈ AW := aw_t1 (List.mem_of_getElem? (i := 3) rfl) rfl
theorem kw_4 : Cond.initialized RX0 ∈ AW := aw_t1 (List.mem_of_getElem? (i := 4) rfl) rfl
theorem kw_5 : Cond.initialized RX1 ∈ AW := aw_t1 (List.mem_of_getElem? (i := 5) rfl) rfl
theorem kw_6 : Cond.initialized RX2 ∈ AW := aw_t1 (List.mem_of_getElem? (i := 6) rfl) rfl
theorem kw_7 : Cond.initialized RJ9 ∈ AW := aw_t1 (List.mem_of_getElem? (i := 7) rfl) rfl
theorem kw_8 : Cond.classLink RL 10 RX4 ∈ AW := aw_t1 (List.mem_of_getElem? (i := 8) rfl) rfl
theorem kw_9 : Cond.instantiable RX4 7 ∈ AW := aw_t1 (List.mem_of_getElem? (i := 9) rfl) rfl
theorem kw_10 : Cond.methodLink RL 53 yX4_init ∈ AW := aw_t1 (List.mem_of_getElem? (i := 10) rfl) rfl
theorem kw_11 : Cond.instanceMethod yX4_init ∈ AW := aw_t1 (List.mem_of_getElem? (i := 11) rfl) rfl
theorem kw_12 : Cond.code yX4_init cX4_init 2 (Option.none : Option Jvm.ClassFile.FieldType) ∈ AW := aw_t1 (List.mem_of_getElem? (i := 12) rfl) rfl
theorem kw_13 : Cond.methodLink RX4 1 objectInit ∈ AW := aw_t1 (List.mem_of_getElem? (i := 13) rfl) rfl
theorem kw_14 : Cond.instanceMethod objectInit ∈ AW := aw_t1 (List.mem_of_getElem? (i := 14) rfl) rfl
theorem kw_15 : Cond.code objectInit object_method_1_code 1 (Option.none : Option Jvm.ClassFile.FieldType) ∈ AW := aw_t1 (List.mem_of_getElem? (i := 15) rfl) rfl
theorem kw_16 : Cond.classLink RX4 7 RX3 ∈ AW := aw_t1 (List.mem_of_getElem? (i := 16) rfl) rfl
theorem kw_17 : Cond.instantiable RX3 7 ∈ AW := aw_t1 (List.mem_of_getElem? (i := 17) rfl) rfl
theorem kw_18 : Cond.methodLink RX4 9 yX3_init ∈ AW := aw_t1 (List.mem_of_getElem? (i := 18) rfl) rfl
theorem kw_19 : Cond.instanceMethod yX3_init ∈ AW := aw_t1 (List.mem_of_getElem? (i := 19) rfl) rfl
theorem kw_20 : Cond.code yX3_init cX3_init 2 (Option.none : Option Jvm.ClassFile.FieldType) ∈ AW := aw_t1 (List.mem_of_getElem? (i := 20) rfl) rfl
theorem kw_21 : Cond.methodLink RX3 3 objectInit ∈ AW := aw_t1 (List.mem_of_getElem? (i := 21) rfl) rfl
theorem kw_22 : Cond.classLink RX3 15 RX0 ∈ AW := aw_t1 (List.mem_of_getElem? (i := 22) rfl) rfl
theorem kw_23 : Cond.methodLink RX3 24 arraycopyName ∈ AW := aw_t1 (List.mem_of_getElem? (i := 26) rfl) rfl
theorem kw_24 : Cond.static arraycopyName ∈ AW := aw_t1 (List.mem_of_getElem? (i := 27) rfl) rfl
theorem kw_25 : Cond.native arraycopyName ∈ AW := aw_t1 (List.mem_of_getElem? (i := 28) rfl) rfl
theorem kw_26 : Cond.instantiable RX0 12 ∈ AW := aw_t1 (List.mem_of_getElem? (i := 29) rfl) rfl
theorem kw_27 : Cond.instanceMethod yX0_init ∈ AW := aw_t1 (List.mem_of_getElem? (i := 31) rfl) rfl
theorem kw_28 : Cond.code yX0_init cX0_init 1 (Option.none : Option Jvm.ClassFile.FieldType) ∈ AW := aw_t1 (List.mem_of_getElem? (i := 32) rfl) rfl
theorem kw_29 : Cond.methodLink RX0 3 objectInit ∈ AW := aw_t1 (List.mem_of_getElem? (i := 33) rfl) rfl
theorem kw_30 : Cond.fieldLink RX0 9 "SilentDrives$Drive" "free" "I" ∈ AW := aw_t1 (List.mem_of_getElem? (i := 34) rfl) rfl
theorem kw_31 : Cond.fieldLink RX4 80 "SilentDrives$Drive" "free" "I" ∈ AW := aw_t1 (List.mem_of_getElem? (i := 35) rfl) rfl
theorem kw_32 : Cond.fieldLink RX3 142 "SilentDrives$Drive" "free" "I" ∈ AW := aw_t1 (List.mem_of_getElem? (i := 36) rfl) rfl
theorem kw_33 : Cond.fieldLink RX0 22 "SilentDrives$Drive" "stale" "I" ∈ AW := aw_t1 (List.mem_of_getElem? (i := 37) rfl) rfl
theorem kw_34 : Cond.fieldLink RX4 86 "SilentDrives$Drive" "stale" "I" ∈ AW := aw_t1 (List.mem_of_getElem? (i := 38) rfl) rfl
theorem kw_35 : Cond.fieldLink RX3 145 "SilentDrives$Drive" "stale" "I" ∈ AW := aw_t1 (List.mem_of_getElem? (i := 39) rfl) rfl
theorem kw_36 : Cond.fieldLink RX0 25 "SilentDrives$Drive" "lent" "I" ∈ AW := aw_t1 (List.mem_of_getElem? (i := 40) rfl) rfl
theorem kw_37 : Cond.fieldLink RX4 89 "SilentDrives$Drive" "lent" "I" ∈ AW := aw_t1 (List.mem_of_getElem? (i := 41) rfl) rfl
theorem kw_38 : Cond.fieldLink RX0 28 "SilentDrives$Drive" "held" "I" ∈ AW := aw_t1 (List.mem_of_getElem? (i := 42) rfl) rfl
theorem kw_39 : Cond.fieldLink RX3 67 "SilentDrives$Drive" "held" "I" ∈ AW := aw_t1 (List.mem_of_getElem? (i := 43) rfl) rfl
theorem kw_40 : Cond.fieldLink RX4 92 "SilentDrives$Drive" "held" "I" ∈ AW := aw_t1 (List.mem_of_getElem? (i := 44) rfl) rfl
theorem kw_41 : Cond.fieldLink RX0 31 "SilentDrives$Drive" "cleaning" "Z" ∈ AW := aw_t1 (List.mem_of_getElem? (i := 45) rfl) rfl
theorem kw_42 : Cond.fieldLink RX4 102 "SilentDrives$Drive" "cleaning" "Z" ∈ AW := aw_t1 (List.mem_of_getElem? (i := 46) rfl) rfl
theorem kw_43 : Cond.fieldLink RX3 138 "SilentDrives$Drive" "cleaning" "Z" ∈ AW := aw_t1 (List.mem_of_getElem? (i := 47) rfl) rfl
theorem kw_44 : Cond.fieldLink RX0 35 "SilentDrives$Drive" "written" "I" ∈ AW := aw_t1 (List.mem_of_getElem? (i := 48) rfl) rfl
theorem kw_45 : Cond.fieldLink RX4 106 "SilentDrives$Drive" "written" "I" ∈ AW := aw_t1 (List.mem_of_getElem? (i := 49) rfl) rfl
theorem kw_46 : Cond.fieldLink RX0 38 "SilentDrives$Drive" "sounded" "I" ∈ AW := aw_t1 (List.mem_of_getElem? (i := 50) rfl) rfl
theorem kw_47 : Cond.fieldLink RX4 109 "SilentDrives$Drive" "sounded" "I" ∈ AW := aw_t1 (List.mem_of_getElem? (i := 51) rfl) rfl
theorem kw_48 : Cond.fieldLink RX0 41 "SilentDrives$Drive" "overruns" "I" ∈ AW := aw_t1 (List.mem_of_getElem? (i := 52) rfl) rfl
theorem kw_49 : Cond.fieldLink RX4 112 "SilentDrives$Drive" "overruns" "I" ∈ AW := aw_t1 (List.mem_of_getElem? (i := 53) rfl) rfl
theorem kw_50 : Cond.fieldLink RX3 157 "SilentDrives$Drive" "overruns" "I" ∈ AW := aw_t1 (List.mem_of_getElem? (i := 54) rfl) rfl
theorem kw_51 : Cond.fieldLink RX0 15 "SilentDrives$Drive" "every" "I" ∈ AW := aw_t1 (List.mem_of_getElem? (i := 55) rfl) rfl
theorem kw_52 : Cond.fieldLink RX3 64 "SilentDrives$Drive" "every" "I" ∈ AW := aw_t1 (List.mem_of_getElem? (i := 56) rfl) rfl
theorem kw_53 : Cond.fieldLink RX4 121 "SilentDrives$Drive" "every" "I" ∈ AW := aw_t1 (List.mem_of_getElem? (i := 57) rfl) rfl
theorem kw_54 : Cond.fieldLink RX0 44 "SilentDrives$Drive" "units" "I" ∈ AW := aw_t1 (List.mem_of_getElem? (i := 58) rfl) rfl
theorem kw_55 : Cond.fieldLink RX3 61 "SilentDrives$Drive" "units" "I" ∈ AW := aw_t1 (List.mem_of_getElem? (i := 59) rfl) rfl
theorem kw_56 : Cond.fieldLink RX4 124 "SilentDrives$Drive" "units" "I" ∈ AW := aw_t1 (List.mem_of_getElem? (i := 60) rfl) rfl
theorem kw_57 : Cond.fieldLink RX0 47 "SilentDrives$Drive" "heldSum" "J" ∈ AW := aw_t1 (List.mem_of_getElem? (i := 61) rfl) rfl
theorem kw_58 : Cond.fieldLink RX3 134 "SilentDrives$Drive" "heldSum" "J" ∈ AW := aw_t1 (List.mem_of_getElem? (i := 62) rfl) rfl
theorem kw_59 : Cond.fieldLink RX0 18 "SilentDrives$Drive" "hours" "[B" ∈ AW := aw_t1 (List.mem_of_getElem? (i := 63) rfl) rfl
theorem kw_60 : Cond.lays "SilentDrives$Drive" "SilentDrives$Drive" "free" "I" ∈ AW := aw_t1 (List.mem_of_getElem? (i := 64) rfl) rfl
theorem kw_61 : Cond.lays "SilentDrives$Drive" "SilentDrives$Drive" "stale" "I" ∈ AW := aw_t1 (List.mem_of_getElem? (i := 66) rfl) rfl
theorem kw_62 : Cond.lays "SilentDrives$Drive" "SilentDrives$Drive" "lent" "I" ∈ AW := aw_t1 (List.mem_of_getElem? (i := 68) rfl) rfl
theorem kw_63 : Cond.lays "SilentDrives$Drive" "SilentDrives$Drive" "held" "I" ∈ AW := aw_t1 (List.mem_of_getElem? (i := 70) rfl) rfl
theorem kw_64 : Cond.lays "SilentDrives$Drive" "SilentDrives$Drive" "cleaning" "Z" ∈ AW := aw_t1 (List.mem_of_getElem? (i := 72) rfl) rfl
theorem kw_65 : Cond.lays "SilentDrives$Drive" "SilentDrives$Drive" "written" "I" ∈ AW := aw_t1 (List.mem_of_getElem? (i := 74) rfl) rfl
theorem kw_66 : Cond.lays "SilentDrives$Drive" "SilentDrives$Drive" "sounded" "I" ∈ AW := aw_t1 (List.mem_of_getElem? (i := 76) rfl) rfl
theorem kw_67 : Cond.lays "SilentDrives$Drive" "SilentDrives$Drive" "overruns" "I" ∈ AW := aw_t1 (List.mem_of_getElem? (i := 78) rfl) rfl
theorem kw_68 : Cond.lays "SilentDrives$Drive" "SilentDrives$Drive" "every" "I" ∈ AW := aw_t1 (List.mem_of_getElem? (i := 80) rfl) rfl
theorem kw_69 : Cond.lays "SilentDrives$Drive" "SilentDrives$Drive" "units" "I" ∈ AW := aw_t1 (List.mem_of_getElem? (i := 82) rfl) rfl
theorem kw_70 : Cond.lays "SilentDrives$Drive" "SilentDrives$Drive" "heldSum" "J" ∈ AW := aw_t1 (List.mem_of_getElem? (i := 84) rfl) rfl
theorem kw_71 : Cond.laysFinal "SilentDrives$Drive" "SilentDrives$Drive" "hours" "[B" ∈ AW := aw_t1 (List.mem_of_getElem? (i := 86) rfl) rfl
theorem kw_72 : Cond.arrayClass Jvm.ClassFile.FieldType.int ∈ AW := aw_t1 (List.mem_of_getElem? (i := 89) rfl) rfl
theorem kw_73 : Cond.arrayClass Jvm.ClassFile.FieldType.byte ∈ AW := aw_t1 (List.mem_of_getElem? (i := 90) rfl) rfl
theorem kw_74 : Cond.fieldLink RX3 9 "SilentDrives$Station" "settings" "[I" ∈ AW := aw_t1 (List.mem_of_getElem? (i := 91) rfl) rfl
theorem kw_75 : Cond.fieldLink RX4 153 "SilentDrives$Station" "settings" "[I" ∈ AW := aw_t1 (List.mem_of_getElem? (i := 92) rfl) rfl
theorem kw_76 : Cond.fieldLink RX3 17 "SilentDrives$Station" "drives" "[LSilentDrives$Drive;" ∈ AW := aw_t1 (List.mem_of_getElem? (i := 93) rfl) rfl
theorem kw_77 : Cond.fieldLink RX4 76 "SilentDrives$Station" "drives" "[LSilentDrives$Drive;" ∈ AW := aw_t1 (List.mem_of_getElem? (i := 94) rfl) rfl
theorem kw_78 : Cond.fieldLink RX3 35 "SilentDrives$Station" "now" "I" ∈ AW := aw_t1 (List.mem_of_getElem? (i := 95) rfl) rfl
theorem kw_79 : Cond.fieldLink RX4 142 "SilentDrives$Station" "now" "I" ∈ AW := aw_t1 (List.mem_of_getElem? (i := 96) rfl) rfl
theorem kw_80 : Cond.fieldLink RX3 39 "SilentDrives$Station" "earned" "I" ∈ AW := aw_t1 (List.mem_of_getElem? (i := 97) rfl) rfl
theorem kw_81 : Cond.fieldLink RX4 157 "SilentDrives$Station" "earned" "I" ∈ AW := aw_t1 (List.mem_of_getElem? (i := 98) rfl) rfl
theorem kw_82 : Cond.fieldLink RX3 42 "SilentDrives$Station" "fined" "I" ∈ AW := aw_t1 (List.mem_of_getElem? (i := 99) rfl) rfl
theorem kw_83 : Cond.fieldLink RX4 160 "SilentDrives$Station" "fined" "I" ∈ AW := aw_t1 (List.mem_of_getElem? (i := 100) rfl) rfl
theorem kw_84 : Cond.fieldLink RX3 45 "SilentDrives$Station" "credits" "I" ∈ AW := aw_t1 (List.mem_of_getElem? (i := 101) rfl) rfl
theorem kw_85 : Cond.fieldLink RX4 163 "SilentDrives$Station" "credits" "I" ∈ AW := aw_t1 (List.mem_of_getElem? (i := 102) rfl) rfl
theorem kw_86 : Cond.fieldLink RX3 48 "SilentDrives$Station" "creditsUsed" "I" ∈ AW := aw_t1 (List.mem_of_getElem? (i := 103) rfl) rfl
theorem kw_87 : Cond.fieldLink RX4 166 "SilentDrives$Station" "creditsUsed" "I" ∈ AW := aw_t1 (List.mem_of_getElem? (i := 104) rfl) rfl
theorem kw_88 : Cond.laysFinal "SilentDrives$Station" "SilentDrives$Station" "settings" "[I" ∈ AW := aw_t1 (List.mem_of_getElem? (i := 105) rfl) rfl
theorem kw_89 : Cond.laysFinal "SilentDrives$Station" "SilentDrives$Station" "drives" "[LSilentDrives$Drive;" ∈ AW := aw_t1 (List.mem_of_getElem? (i := 107) rfl) rfl
theorem kw_90 : Cond.lays "SilentDrives$Station" "SilentDrives$Station" "now" "I" ∈ AW := aw_t1 (List.mem_of_getElem? (i := 109) rfl) rfl
theorem kw_91 : Cond.lays "SilentDrives$Station" "SilentDrives$Station" "earned" "I" ∈ AW := aw_t1 (List.mem_of_getElem? (i := 111) rfl) rfl
theorem kw_92 : Cond.lays "SilentDrives$Station" "SilentDrives$Station" "fined" "I" ∈ AW := aw_t1 (List.mem_of_getElem? (i := 113) rfl) rfl
theorem kw_93 : Cond.lays "SilentDrives$Station" "SilentDrives$Station" "credits" "I" ∈ AW := aw_t1 (List.mem_of_getElem? (i := 115) rfl) rfl
theorem kw_94 : Cond.lays "SilentDrives$Station" "SilentDrives$Station" "creditsUsed" "I" ∈ AW := aw_t1 (List.mem_of_getElem? (i := 117) rfl) rfl
theorem kw_95 : Cond.classLink RX4 16 RX1 ∈ AW := aw_t1 (List.mem_of_getElem? (i := 120) rfl) rfl
theorem kw_96 : Cond.instantiable RX1 3 ∈ AW := aw_t1 (List.mem_of_getElem? (i := 121) rfl) rfl
theorem kw_97 : Cond.methodLink RX4 18 yX1_init ∈ AW := aw_t1 (List.mem_of_getElem? (i := 122) rfl) rfl
theorem kw_98 : Cond.instanceMethod yX1_init ∈ AW := aw_t1 (List.mem_of_getElem? (i := 123) rfl) rfl
theorem kw_99 : Cond.code yX1_init cX1_init 2 (Option.none : Option Jvm.ClassFile.FieldType) ∈ AW := aw_t1 (List.mem_of_getElem? (i := 124) rfl) rfl
theorem kw_100 : Cond.methodLink RX1 3 objectInit ∈ AW := aw_t1 (List.mem_of_getElem? (i := 125) rfl) rfl
theorem kw_101 : Cond.classLink RX1 9 RX3 ∈ AW := aw_t1 (List.mem_of_getElem? (i := 126) rfl) rfl
theorem kw_102 : Cond.methodLink RX1 17 yX3_init ∈ AW := aw_t1 (List.mem_of_getElem? (i := 128) rfl) rfl
theorem kw_103 : Cond.fieldLink RX1 11 "SilentDrives$History" "states" "[LSilentDrives$Station;" ∈ AW := aw_t1 (List.mem_of_getElem? (i := 129) rfl) rfl
theorem kw_104 : Cond.fieldLink RX1 18 "SilentDrives$History" "next" "I" ∈ AW := aw_t1 (List.mem_of_getElem? (i := 130) rfl) rfl
theorem kw_105 : Cond.fieldLink RX1 26 "SilentDrives$History" "size" "I" ∈ AW := aw_t1 (List.mem_of_getElem? (i := 131) rfl) rfl
theorem kw_106 : Cond.fieldLink RX4 172 "SilentDrives$History" "size" "I" ∈ AW := aw_t1 (List.mem_of_getElem? (i := 132) rfl) rfl
theorem kw_107 : Cond.laysFinal "SilentDrives$History" "SilentDrives$History" "states" "[LSilentDrives$Station;" ∈ AW := aw_t1 (List.mem_of_getElem? (i := 133) rfl) rfl
theorem kw_108 : Cond.lays "SilentDrives$History" "SilentDrives$History" "next" "I" ∈ AW := aw_t1 (List.mem_of_getElem? (i := 135) rfl) rfl
theorem kw_109 : Cond.lays "SilentDrives$History" "SilentDrives$History" "size" "I" ∈ AW := aw_t1 (List.mem_of_getElem? (i := 137) rfl) rfl
theorem kw_110 : Cond.classLink RX4 31 RX2 ∈ AW := aw_t1 (List.mem_of_getElem? (i := 140) rfl) rfl
theorem kw_111 : Cond.instantiable RX2 7 ∈ AW := aw_t1 (List.mem_of_getElem? (i := 141) rfl) rfl
theorem kw_112 : Cond.instanceMethod yX2_init ∈ AW := aw_t1 (List.mem_of_getElem? (i := 143) rfl) rfl
theorem kw_113 : Cond.code yX2_init cX2_init 1 (Option.none : Option Jvm.ClassFile.FieldType) ∈ AW := aw_t1 (List.mem_of_getElem? (i := 144) rfl) rfl
theorem kw_114 : Cond.methodLink RX2 3 objectInit ∈ AW := aw_t1 (List.mem_of_getElem? (i := 145) rfl) rfl
theorem kw_115 : Cond.fieldLink RX2 9 "SilentDrives$Pad" "signs" "[C" ∈ AW := aw_t1 (List.mem_of_getElem? (i := 146) rfl) rfl
theorem kw_116 : Cond.fieldLink RX4 169 "SilentDrives$Pad" "length" "I" ∈ AW := aw_t1 (List.mem_of_getElem? (i := 147) rfl) rfl
theorem kw_117 : Cond.laysFinal "SilentDrives$Pad" "SilentDrives$Pad" "signs" "[C" ∈ AW := aw_t1 (List.mem_of_getElem? (i := 148) rfl) rfl
theorem kw_118 : Cond.lays "SilentDrives$Pad" "SilentDrives$Pad" "length" "I" ∈ AW := aw_t1 (List.mem_of_getElem? (i := 150) rfl) rfl
theorem kw_119 : Cond.lays "SilentDrives$Pad" "SilentDrives$Pad" "place" "I" ∈ AW := aw_t1 (List.mem_of_getElem? (i := 152) rfl) rfl
theorem kw_120 : Cond.lays "SilentDrives$Pad" "SilentDrives$Pad" "kind" "C" ∈ AW := aw_t1 (List.mem_of_getElem? (i := 154) rfl) rfl
theorem kw_121 : Cond.lays "SilentDrives$Pad" "SilentDrives$Pad" "drive" "I" ∈ AW := aw_t1 (List.mem_of_getElem? (i := 156) rfl) rfl
theorem kw_122 : Cond.lays "SilentDrives$Pad" "SilentDrives$Pad" "first" "I" ∈ AW := aw_t1 (List.mem_of_getElem? (i := 158) rfl) rfl
theorem kw_123 : Cond.lays "SilentDrives$Pad" "SilentDrives$Pad" "second" "I" ∈ AW := aw_t1 (List.mem_of_getElem? (i := 160) rfl) rfl
theorem kw_124 : Cond.arrayClass Jvm.ClassFile.FieldType.boolean ∈ AW := aw_t1 (List.mem_of_getElem? (i := 163) rfl) rfl
theorem kw_125 : Cond.arrayClass Jvm.ClassFile.FieldType.char ∈ AW := aw_t1 (List.mem_of_getElem? (i := 164) rfl) rfl
theorem kw_126 : Cond.fieldLink RX4 10 "SilentDrives" "present" "LSilentDrives$Station;" ∈ AW := aw_t1 (List.mem_of_getElem? (i := 165) rfl) rfl
theorem kw_127 : Cond.fieldLink RX4 19 "SilentDrives" "history" "LSilentDrives$History;" ∈ AW := aw_t1 (List.mem_of_getElem? (i := 166) rfl) rfl
theorem kw_128 : Cond.fieldLink RX4 23 "SilentDrives" "slots" "[LSilentDrives$Station;" ∈ AW := aw_t1 (List.mem_of_getElem? (i := 167) rfl) rfl
theorem kw_129 : Cond.fieldLink RX4 27 "SilentDrives" "slotUsed" "[Z" ∈ AW := aw_t1 (List.mem_of_getElem? (i := 168) rfl) rfl
theorem kw_130 : Cond.fieldLink RX4 34 "SilentDrives" "pad" "LSilentDrives$Pad;" ∈ AW := aw_t1 (List.mem_of_getElem? (i := 169) rfl) rfl
theorem kw_131 : Cond.fieldLink RX4 38 "SilentDrives" "trial" "LSilentDrives$Station;" ∈ AW := aw_t1 (List.mem_of_getElem? (i := 170) rfl) rfl
theorem kw_132 : Cond.fieldLink RX4 41 "SilentDrives" "soldTrial" "LSilentDrives$Station;" ∈ AW := aw_t1 (List.mem_of_getElem? (i := 171) rfl) rfl
theorem kw_133 : Cond.laysFinal "SilentDrives" "SilentDrives" "present" "LSilentDrives$Station;" ∈ AW := aw_t1 (List.mem_of_getElem? (i := 172) rfl) rfl
theorem kw_134 : Cond.laysFinal "SilentDrives" "SilentDrives" "history" "LSilentDrives$History;" ∈ AW := aw_t1 (List.mem_of_getElem? (i := 174) rfl) rfl
theorem kw_135 : Cond.laysFinal "SilentDrives" "SilentDrives" "slots" "[LSilentDrives$Station;" ∈ AW := aw_t1 (List.mem_of_getElem? (i := 176) rfl) rfl
theorem kw_136 : Cond.laysFinal "SilentDrives" "SilentDrives" "slotUsed" "[Z" ∈ AW := aw_t1 (List.mem_of_getElem? (i := 178) rfl) rfl
theorem kw_137 : Cond.laysFinal "SilentDrives" "SilentDrives" "pad" "LSilentDrives$Pad;" ∈ AW := aw_t1 (List.mem_of_getElem? (i := 180) rfl) rfl
theorem kw_138 : Cond.laysFinal "SilentDrives" "SilentDrives" "trial" "LSilentDrives$Station;" ∈ AW := aw_t1 (List.mem_of_getElem? (i := 182) rfl) rfl
theorem kw_139 : Cond.laysFinal "SilentDrives" "SilentDrives" "soldTrial" "LSilentDrives$Station;" ∈ AW := aw_t1 (List.mem_of_getElem? (i := 184) rfl) rfl
theorem kw_140 : Cond.methodLink RL 58 yX4_pass ∈ AW := aw_t1 (List.mem_of_getElem? (i := 187) rfl) rfl
theorem kw_141 : Cond.instanceMethod yX4_pass ∈ AW := aw_t1 (List.mem_of_getElem? (i := 188) rfl) rfl
theorem kw_142 : Cond.selects RX4 yX4_pass yX4_pass ∈ AW := aw_t1 (List.mem_of_getElem? (i := 189) rfl) rfl
theorem kw_143 : Cond.code yX4_pass cX4_pass 2 (Option.some Jvm.ClassFile.FieldType.int) ∈ AW := aw_t1 (List.mem_of_getElem? (i := 190) rfl) rfl
theorem kw_144 : Cond.methodLink RX4 44 yX1_prepare ∈ AW := aw_t1 (List.mem_of_getElem? (i := 191) rfl) rfl
theorem kw_145 : Cond.instanceMethod yX1_prepare ∈ AW := aw_t1 (List.mem_of_getElem? (i := 192) rfl) rfl
theorem kw_146 : Cond.selects RX1 yX1_prepare yX1_prepare ∈ AW := aw_t1 (List.mem_of_getElem? (i := 193) rfl) rfl
theorem kw_147 : Cond.code yX1_prepare cX1_prepare 2 (Option.none : Option Jvm.ClassFile.FieldType) ∈ AW := aw_t1 (List.mem_of_getElem? (i := 194) rfl) rfl
theorem kw_148 : Cond.methodLink RX1 22 yX3_copyFrom ∈ AW := aw_t1 (List.mem_of_getElem? (i := 195) rfl) rfl
theorem kw_149 : Cond.instanceMethod yX3_copyFrom ∈ AW := aw_t1 (List.mem_of_getElem? (i := 196) rfl) rfl
theorem kw_150 : Cond.selects RX3 yX3_copyFrom yX3_copyFrom ∈ AW := aw_t1 (List.mem_of_getElem? (i := 197) rfl) rfl
theorem kw_151 : Cond.code yX3_copyFrom cX3_copyFrom 3 (Option.none : Option Jvm.ClassFile.FieldType) ∈ AW := aw_t1 (List.mem_of_getElem? (i := 198) rfl) rfl
theorem kw_152 : Cond.methodLink RX3 31 yX0_copyFrom ∈ AW := aw_t1 (List.mem_of_getElem? (i := 199) rfl) rfl
theorem kw_153 : Cond.instanceMethod yX0_copyFrom ∈ AW := aw_t1 (List.mem_of_getElem? (i := 200) rfl) rfl
theorem kw_154 : Cond.selects RX0 yX0_copyFrom yX0_copyFrom ∈ AW := aw_t1 (List.mem_of_getElem? (i := 201) rfl) rfl
theorem kw_155 : Cond.code yX0_copyFrom cX0_copyFrom 2 (Option.none : Option Jvm.ClassFile.FieldType) ∈ AW := aw_t1 (List.mem_of_getElem? (i := 202) rfl) rfl
theorem kw_156 : Cond.methodLink RX0 51 arraycopyName ∈ AW := aw_t1 (List.mem_of_getElem? (i := 203) rfl) rfl
theorem kw_157 : Cond.methodLink RX4 69 yX3_passMinutes ∈ AW := aw_t1 (List.mem_of_getElem? (i := 204) rfl) rfl
theorem kw_158 : Cond.instanceMethod yX3_passMinutes ∈ AW := aw_t1 (List.mem_of_getElem? (i := 205) rfl) rfl
theorem kw_159 : Cond.selects RX3 yX3_passMinutes yX3_passMinutes ∈ AW := aw_t1 (List.mem_of_getElem? (i := 206) rfl) rfl
theorem kw_160 : Cond.code yX3_passMinutes cX3_passMinutes 3 (Option.some Jvm.ClassFile.FieldType.int) ∈ AW := aw_t1 (List.mem_of_getElem? (i := 207) rfl) rfl
theorem kw_161 : Cond.static yX4_arePassable ∈ AW := aw_t1 (List.mem_of_getElem? (i := 209) rfl) rfl
theorem kw_162 : Cond.code yX4_arePassable cX4_arePassable 1 (Option.some Jvm.ClassFile.FieldType.boolean) ∈ AW := aw_t1 (List.mem_of_getElem? (i := 210) rfl) rfl
theorem kw_163 : Cond.methodLink RX3 95 yX3_passOneMinute ∈ AW := aw_t1 (List.mem_of_getElem? (i := 211) rfl) rfl
theorem kw_164 : Cond.instanceMethod yX3_passOneMinute ∈ AW := aw_t1 (List.mem_of_getElem? (i := 212) rfl) rfl
theorem kw_165 : Cond.selects RX3 yX3_passOneMinute yX3_passOneMinute ∈ AW := aw_t1 (List.mem_of_getElem? (i := 213) rfl) rfl
theorem kw_166 : Cond.code yX3_passOneMinute cX3_passOneMinute 3 (Option.some Jvm.ClassFile.FieldType.boolean) ∈ AW := aw_t1 (List.mem_of_getElem? (i := 214) rfl) rfl
theorem kw_167 : Cond.static yX4_twinOf ∈ AW := aw_t1 (List.mem_of_getElem? (i := 216) rfl) rfl
theorem kw_168 : Cond.code yX4_twinOf cX4_twinOf 1 (Option.some Jvm.ClassFile.FieldType.int) ∈ AW := aw_t1 (List.mem_of_getElem? (i := 217) rfl) rfl
theorem kw_169 : Cond.methodLink RX3 102 yX3_passMinuteOf ∈ AW := aw_t1 (List.mem_of_getElem? (i := 218) rfl) rfl
theorem kw_170 : Cond.instanceMethod yX3_passMinuteOf ∈ AW := aw_t1 (List.mem_of_getElem? (i := 220) rfl) rfl
theorem kw_171 : Cond.code yX3_passMinuteOf cX3_passMinuteOf 6 (Option.some Jvm.ClassFile.FieldType.boolean) ∈ AW := aw_t1 (List.mem_of_getElem? (i := 221) rfl) rfl
theorem kw_172 : Cond.methodLink RX3 77 yX3_hourOfNow ∈ AW := aw_t1 (List.mem_of_getElem? (i := 222) rfl) rfl
theorem kw_173 : Cond.instanceMethod yX3_hourOfNow ∈ AW := aw_t1 (List.mem_of_getElem? (i := 223) rfl) rfl
theorem kw_174 : Cond.selects RX3 yX3_hourOfNow yX3_hourOfNow ∈ AW := aw_t1 (List.mem_of_getElem? (i := 224) rfl) rfl
theorem kw_175 : Cond.code yX3_hourOfNow cX3_hourOfNow 1 (Option.some Jvm.ClassFile.FieldType.int) ∈ AW := aw_t1 (List.mem_of_getElem? (i := 225) rfl) rfl
theorem kw_176 : Cond.methodLink RX3 106 yX0_isQuietIn ∈ AW := aw_t1 (List.mem_of_getElem? (i := 226) rfl) rfl
theorem kw_177 : Cond.instanceMethod yX0_isQuietIn ∈ AW := aw_t1 (List.mem_of_getElem? (i := 227) rfl) rfl
theorem kw_178 : Cond.selects RX0 yX0_isQuietIn yX0_isQuietIn ∈ AW := aw_t1 (List.mem_of_getElem? (i := 228) rfl) rfl
theorem kw_179 : Cond.code yX0_isQuietIn cX0_isQuietIn 2 (Option.some Jvm.ClassFile.FieldType.boolean) ∈ AW := aw_t1 (List.mem_of_getElem? (i := 229) rfl) rfl
theorem kw_180 : Cond.methodLink RX0 61 yX0_hourState ∈ AW := aw_t1 (List.mem_of_getElem? (i := 230) rfl) rfl
theorem kw_181 : Cond.instanceMethod yX0_hourState ∈ AW := aw_t1 (List.mem_of_getElem? (i := 231) rfl) rfl
theorem kw_182 : Cond.selects RX0 yX0_hourState yX0_hourState ∈ AW := aw_t1 (List.mem_of_getElem? (i := 232) rfl) rfl
theorem kw_183 : Cond.code yX0_hourState cX0_hourState 2 (Option.some Jvm.ClassFile.FieldType.int) ∈ AW := aw_t1 (List.mem_of_getElem? (i := 233) rfl) rfl
theorem kw_184 : Cond.static yX4_isHour ∈ AW := aw_t1 (List.mem_of_getElem? (i := 235) rfl) rfl
theorem kw_185 : Cond.code yX4_isHour cX4_isHour 1 (Option.some Jvm.ClassFile.FieldType.boolean) ∈ AW := aw_t1 (List.mem_of_getElem? (i := 236) rfl) rfl
theorem kw_186 : Cond.methodLink RX3 109 yX3_settleHours ∈ AW := aw_t1 (List.mem_of_getElem? (i := 237) rfl) rfl
theorem kw_187 : Cond.instanceMethod yX3_settleHours ∈ AW := aw_t1 (List.mem_of_getElem? (i := 239) rfl) rfl
theorem kw_188 : Cond.code yX3_settleHours cX3_settleHours 4 (Option.none : Option Jvm.ClassFile.FieldType) ∈ AW := aw_t2 (List.mem_of_getElem? (i := 0) rfl) rfl
theorem kw_189 : Cond.methodLink RX3 81 yX0_hourState ∈ AW := aw_t2 (List.mem_of_getElem? (i := 1) rfl) rfl
theorem kw_190 : Cond.methodLink RX3 85 yX0_markHour ∈ AW := aw_t2 (List.mem_of_getElem? (i := 2) rfl) rfl
theorem kw_191 : Cond.instanceMethod yX0_markHour ∈ AW := aw_t2 (List.mem_of_getElem? (i := 3) rfl) rfl
theorem kw_192 : Cond.selects RX0 yX0_markHour yX0_markHour ∈ AW := aw_t2 (List.mem_of_getElem? (i := 4) rfl) rfl
theorem kw_193 : Cond.code yX0_markHour cX0_markHour 3 (Option.none : Option Jvm.ClassFile.FieldType) ∈ AW := aw_t2 (List.mem_of_getElem? (i := 5) rfl) rfl
theorem kw_194 : Cond.methodLink RX3 113 yX0_takeStream ∈ AW := aw_t2 (List.mem_of_getElem? (i := 6) rfl) rfl
theorem kw_195 : Cond.instanceMethod yX0_takeStream ∈ AW := aw_t2 (List.mem_of_getElem? (i := 7) rfl) rfl
theorem kw_196 : Cond.selects RX0 yX0_takeStream yX0_takeStream ∈ AW := aw_t2 (List.mem_of_getElem? (i := 8) rfl) rfl
theorem kw_197 : Cond.code yX0_takeStream cX0_takeStream 2 (Option.none : Option Jvm.ClassFile.FieldType) ∈ AW := aw_t2 (List.mem_of_getElem? (i := 9) rfl) rfl
theorem kw_198 : Cond.methodLink RX3 117 yX0_takeBackFrom ∈ AW := aw_t2 (List.mem_of_getElem? (i := 10) rfl) rfl
theorem kw_199 : Cond.instanceMethod yX0_takeBackFrom ∈ AW := aw_t2 (List.mem_of_getElem? (i := 11) rfl) rfl
theorem kw_200 : Cond.selects RX0 yX0_takeBackFrom yX0_takeBackFrom ∈ AW := aw_t2 (List.mem_of_getElem? (i := 12) rfl) rfl
theorem kw_201 : Cond.code yX0_takeBackFrom cX0_takeBackFrom 3 (Option.none : Option Jvm.ClassFile.FieldType) ∈ AW := aw_t2 (List.mem_of_getElem? (i := 13) rfl) rfl
theorem kw_202 : Cond.methodLink RX0 68 yJ9_min_7cf53 ∈ AW := aw_t2 (List.mem_of_getElem? (i := 14) rfl) rfl
theorem kw_203 : Cond.static yJ9_min_7cf53 ∈ AW := aw_t2 (List.mem_of_getElem? (i := 15) rfl) rfl
theorem kw_204 : Cond.code yJ9_min_7cf53 Lib.Math.min.code 2 (Option.some Jvm.ClassFile.FieldType.int) ∈ AW := aw_t2 (List.mem_of_getElem? (i := 16) rfl) rfl
theorem kw_205 : Cond.methodLink RX0 74 yX0_fillCells ∈ AW := aw_t2 (List.mem_of_getElem? (i := 17) rfl) rfl
theorem kw_206 : Cond.instanceMethod yX0_fillCells ∈ AW := aw_t2 (List.mem_of_getElem? (i := 19) rfl) rfl
theorem kw_207 : Cond.code yX0_fillCells cX0_fillCells 2 (Option.none : Option Jvm.ClassFile.FieldType) ∈ AW := aw_t2 (List.mem_of_getElem? (i := 20) rfl) rfl
theorem kw_208 : Cond.methodLink RX3 120 yX0_writeHeld ∈ AW := aw_t2 (List.mem_of_getElem? (i := 21) rfl) rfl
theorem kw_209 : Cond.instanceMethod yX0_writeHeld ∈ AW := aw_t2 (List.mem_of_getElem? (i := 22) rfl) rfl
theorem kw_210 : Cond.selects RX0 yX0_writeHeld yX0_writeHeld ∈ AW := aw_t2 (List.mem_of_getElem? (i := 23) rfl) rfl
theorem kw_211 : Cond.code yX0_writeHeld cX0_writeHeld 2 (Option.none : Option Jvm.ClassFile.FieldType) ∈ AW := aw_t2 (List.mem_of_getElem? (i := 24) rfl) rfl
theorem kw_212 : Cond.methodLink RX3 123 yX0_lendTo ∈ AW := aw_t2 (List.mem_of_getElem? (i := 25) rfl) rfl
theorem kw_213 : Cond.instanceMethod yX0_lendTo ∈ AW := aw_t2 (List.mem_of_getElem? (i := 26) rfl) rfl
theorem kw_214 : Cond.selects RX0 yX0_lendTo yX0_lendTo ∈ AW := aw_t2 (List.mem_of_getElem? (i := 27) rfl) rfl
theorem kw_215 : Cond.code yX0_lendTo cX0_lendTo 4 (Option.none : Option Jvm.ClassFile.FieldType) ∈ AW := aw_t2 (List.mem_of_getElem? (i := 28) rfl) rfl
theorem kw_216 : Cond.methodLink RX3 127 yX3_cleanUp ∈ AW := aw_t2 (List.mem_of_getElem? (i := 29) rfl) rfl
theorem kw_217 : Cond.instanceMethod yX3_cleanUp ∈ AW := aw_t2 (List.mem_of_getElem? (i := 31) rfl) rfl
theorem kw_218 : Cond.code yX3_cleanUp cX3_cleanUp 5 (Option.some Jvm.ClassFile.FieldType.boolean) ∈ AW := aw_t2 (List.mem_of_getElem? (i := 32) rfl) rfl
theorem kw_219 : Cond.methodLink RX3 148 yJ9_min_7cf53 ∈ AW := aw_t2 (List.mem_of_getElem? (i := 33) rfl) rfl
theorem kw_220 : Cond.methodLink RX3 154 yX0_cleanCells ∈ AW := aw_t2 (List.mem_of_getElem? (i := 34) rfl) rfl
theorem kw_221 : Cond.instanceMethod yX0_cleanCells ∈ AW := aw_t2 (List.mem_of_getElem? (i := 35) rfl) rfl
theorem kw_222 : Cond.selects RX0 yX0_cleanCells yX0_cleanCells ∈ AW := aw_t2 (List.mem_of_getElem? (i := 36) rfl) rfl
theorem kw_223 : Cond.code yX0_cleanCells cX0_cleanCells 2 (Option.none : Option Jvm.ClassFile.FieldType) ∈ AW := aw_t2 (List.mem_of_getElem? (i := 37) rfl) rfl
theorem kw_224 : Cond.methodLink RX3 131 yX3_chargeOverrun ∈ AW := aw_t2 (List.mem_of_getElem? (i := 38) rfl) rfl
theorem kw_225 : Cond.instanceMethod yX3_chargeOverrun ∈ AW := aw_t2 (List.mem_of_getElem? (i := 40) rfl) rfl
theorem kw_226 : Cond.code yX3_chargeOverrun cX3_chargeOverrun 3 (Option.none : Option Jvm.ClassFile.FieldType) ∈ AW := aw_t2 (List.mem_of_getElem? (i := 41) rfl) rfl
theorem kw_227 : Cond.methodLink RX4 52 yX4_recorded ∈ AW := aw_t2 (List.mem_of_getElem? (i := 42) rfl) rfl
theorem kw_228 : Cond.instanceMethod yX4_recorded ∈ AW := aw_t2 (List.mem_of_getElem? (i := 44) rfl) rfl
theorem kw_229 : Cond.code yX4_recorded cX4_recorded 2 (Option.some Jvm.ClassFile.FieldType.int) ∈ AW := aw_t2 (List.mem_of_getElem? (i := 45) rfl) rfl
theorem kw_230 : Cond.methodLink RX4 221 yX1_keepPrepared ∈ AW := aw_t2 (List.mem_of_getElem? (i := 46) rfl) rfl
theorem kw_231 : Cond.instanceMethod yX1_keepPrepared ∈ AW := aw_t2 (List.mem_of_getElem? (i := 47) rfl) rfl
theorem kw_232 : Cond.selects RX1 yX1_keepPrepared yX1_keepPrepared ∈ AW := aw_t2 (List.mem_of_getElem? (i := 48) rfl) rfl
theorem kw_233 : Cond.code yX1_keepPrepared cX1_keepPrepared 1 (Option.none : Option Jvm.ClassFile.FieldType) ∈ AW := aw_t2 (List.mem_of_getElem? (i := 49) rfl) rfl
theorem kw_234 : Cond.methodLink RX1 29 yJ9_min_7cf53 ∈ AW := aw_t2 (List.mem_of_getElem? (i := 50) rfl) rfl
theorem kw_235 : Cond.methodLink RL 9 yX4_ofDrive ∈ AW := aw_t2 (List.mem_of_getElem? (i := 51) rfl) rfl
theorem kw_236 : Cond.instanceMethod yX4_ofDrive ∈ AW := aw_t2 (List.mem_of_getElem? (i := 52) rfl) rfl
theorem kw_237 : Cond.selects RX4 yX4_ofDrive yX4_ofDrive ∈ AW := aw_t2 (List.mem_of_getElem? (i := 53) rfl) rfl
theorem kw_238 : Cond.code yX4_ofDrive cX4_ofDrive 4 (Option.some Jvm.ClassFile.FieldType.int) ∈ AW := aw_t2 (List.mem_of_getElem? (i := 54) rfl) rfl
theorem kw_239 : Cond.methodLink RX4 72 yX4_isDrive ∈ AW := aw_t2 (List.mem_of_getElem? (i := 55) rfl) rfl
theorem kw_240 : Cond.static yX4_isDrive ∈ AW := aw_t2 (List.mem_of_getElem? (i := 56) rfl) rfl
theorem kw_241 : Cond.code yX4_isDrive cX4_isDrive 1 (Option.some Jvm.ClassFile.FieldType.boolean) ∈ AW := aw_t2 (List.mem_of_getElem? (i := 57) rfl) rfl
theorem kw_242 : Cond.methodLink RX4 95 yX3_hourOfNow ∈ AW := aw_t2 (List.mem_of_getElem? (i := 58) rfl) rfl
theorem kw_243 : Cond.methodLink RX4 99 yX0_isQuietIn ∈ AW := aw_t2 (List.mem_of_getElem? (i := 59) rfl) rfl
theorem kw_244 : Cond.methodLink RX4 115 yX0_soldHours ∈ AW := aw_t2 (List.mem_of_getElem? (i := 60) rfl) rfl
theorem kw_245 : Cond.instanceMethod yX0_soldHours ∈ AW := aw_t2 (List.mem_of_getElem? (i := 61) rfl) rfl
theorem kw_246 : Cond.selects RX0 yX0_soldHours yX0_soldHours ∈ AW := aw_t2 (List.mem_of_getElem? (i := 62) rfl) rfl
theorem kw_247 : Cond.code yX0_soldHours cX0_soldHours 1 (Option.some Jvm.ClassFile.FieldType.int) ∈ AW := aw_t2 (List.mem_of_getElem? (i := 63) rfl) rfl
theorem kw_248 : Cond.methodLink RX0 65 yX0_hoursThatAre ∈ AW := aw_t2 (List.mem_of_getElem? (i := 64) rfl) rfl
theorem kw_249 : Cond.instanceMethod yX0_hoursThatAre ∈ AW := aw_t2 (List.mem_of_getElem? (i := 65) rfl) rfl
theorem kw_250 : Cond.selects RX0 yX0_hoursThatAre yX0_hoursThatAre ∈ AW := aw_t2 (List.mem_of_getElem? (i := 66) rfl) rfl
theorem kw_251 : Cond.code yX0_hoursThatAre cX0_hoursThatAre 4 (Option.some Jvm.ClassFile.FieldType.int) ∈ AW := aw_t2 (List.mem_of_getElem? (i := 67) rfl) rfl
theorem kw_252 : Cond.methodLink RX4 118 yX0_hoursThatAre ∈ AW := aw_t2 (List.mem_of_getElem? (i := 68) rfl) rfl
theorem kw_253 : Cond.methodLink RL 18 yX4_count ∈ AW := aw_t2 (List.mem_of_getElem? (i := 69) rfl) rfl
theorem kw_254 : Cond.instanceMethod yX4_count ∈ AW := aw_t2 (List.mem_of_getElem? (i := 70) rfl) rfl
theorem kw_255 : Cond.selects RX4 yX4_count yX4_count ∈ AW := aw_t2 (List.mem_of_getElem? (i := 71) rfl) rfl
theorem kw_256 : Cond.code yX4_count cX4_count 2 (Option.some Jvm.ClassFile.FieldType.int) ∈ AW := aw_t2 (List.mem_of_getElem? (i := 72) rfl) rfl
theorem kw_257 : Cond.methodLink RL 34 yL_low ∈ AW := aw_t2 (List.mem_of_getElem? (i := 73) rfl) rfl
theorem kw_258 : Cond.static yL_low ∈ AW := aw_t2 (List.mem_of_getElem? (i := 74) rfl) rfl
theorem kw_259 : Cond.code yL_low cL_low 2 (Option.some Jvm.ClassFile.FieldType.int) ∈ AW := aw_t2 (List.mem_of_getElem? (i := 75) rfl) rfl
theorem kw_260 : Cond.constant RL 7 (2147483647) ∈ AW := aw_t2 (List.mem_of_getElem? (i := 76) rfl) rfl
theorem kw_261 : Cond.methodLink RL 28 yL_cell ∈ AW := aw_t2 (List.mem_of_getElem? (i := 77) rfl) rfl
theorem kw_262 : Cond.static yL_cell ∈ AW := aw_t2 (List.mem_of_getElem? (i := 78) rfl) rfl
theorem kw_263 : Cond.code yL_cell cL_cell 2 (Option.some Jvm.ClassFile.FieldType.int) ∈ AW := aw_t2 (List.mem_of_getElem? (i := 79) rfl) rfl
theorem kw_264 : Cond.constant RL 8 (40503) ∈ AW := aw_t2 (List.mem_of_getElem? (i := 80) rfl) rfl
theorem kw_265 : Cond.methodLink RL 61 yL_drive ∈ AW := aw_t2 (List.mem_of_getElem? (i := 81) rfl) rfl
theorem kw_266 : Cond.static yL_drive ∈ AW := aw_t2 (List.mem_of_getElem? (i := 82) rfl) rfl
theorem kw_267 : Cond.code yL_drive cL_drive 9 (Option.some Jvm.ClassFile.FieldType.boolean) ∈ AW := aw_t2 (List.mem_of_getElem? (i := 83) rfl) rfl
theorem kw_268 : Cond.methodLink RL 15 yX4_hour ∈ AW := aw_t2 (List.mem_of_getElem? (i := 84) rfl) rfl
theorem kw_269 : Cond.instanceMethod yX4_hour ∈ AW := aw_t2 (List.mem_of_getElem? (i := 85) rfl) rfl
theorem kw_270 : Cond.selects RX4 yX4_hour yX4_hour ∈ AW := aw_t2 (List.mem_of_getElem? (i := 86) rfl) rfl
theorem kw_271 : Cond.code yX4_hour cX4_hour 3 (Option.some Jvm.ClassFile.FieldType.int) ∈ AW := aw_t2 (List.mem_of_getElem? (i := 87) rfl) rfl
theorem kw_272 : Cond.methodLink RX4 127 yX4_isHour ∈ AW := aw_t2 (List.mem_of_getElem? (i := 88) rfl) rfl
theorem kw_273 : Cond.methodLink RX4 130 yX0_hourState ∈ AW := aw_t2 (List.mem_of_getElem? (i := 89) rfl) rfl
theorem kw_274 : Cond.methodLink RL 22 yX4_streak ∈ AW := aw_t2 (List.mem_of_getElem? (i := 90) rfl) rfl
theorem kw_275 : Cond.instanceMethod yX4_streak ∈ AW := aw_t2 (List.mem_of_getElem? (i := 91) rfl) rfl
theorem kw_276 : Cond.selects RX4 yX4_streak yX4_streak ∈ AW := aw_t2 (List.mem_of_getElem? (i := 92) rfl) rfl
theorem kw_277 : Cond.code yX4_streak cX4_streak 2 (Option.some Jvm.ClassFile.FieldType.int) ∈ AW := aw_t2 (List.mem_of_getElem? (i := 93) rfl) rfl
theorem kw_278 : Cond.methodLink RX4 133 yX0_keptInARow ∈ AW := aw_t2 (List.mem_of_getElem? (i := 94) rfl) rfl
theorem kw_279 : Cond.instanceMethod yX0_keptInARow ∈ AW := aw_t2 (List.mem_of_getElem? (i := 95) rfl) rfl
theorem kw_280 : Cond.selects RX0 yX0_keptInARow yX0_keptInARow ∈ AW := aw_t2 (List.mem_of_getElem? (i := 96) rfl) rfl
theorem kw_281 : Cond.code yX0_keptInARow cX0_keptInARow 3 (Option.some Jvm.ClassFile.FieldType.int) ∈ AW := aw_t2 (List.mem_of_getElem? (i := 97) rfl) rfl
theorem kw_282 : Cond.methodLink RL 25 yX4_share ∈ AW := aw_t2 (List.mem_of_getElem? (i := 98) rfl) rfl
theorem kw_283 : Cond.instanceMethod yX4_share ∈ AW := aw_t2 (List.mem_of_getElem? (i := 99) rfl) rfl
theorem kw_284 : Cond.selects RX4 yX4_share yX4_share ∈ AW := aw_t2 (List.mem_of_getElem? (i := 100) rfl) rfl
theorem kw_285 : Cond.code yX4_share cX4_share 4 (Option.some Jvm.ClassFile.FieldType.int) ∈ AW := aw_t2 (List.mem_of_getElem? (i := 101) rfl) rfl
theorem kw_286 : Cond.methodLink RX4 136 yX4_floatBits ∈ AW := aw_t2 (List.mem_of_getElem? (i := 102) rfl) rfl
theorem kw_287 : Cond.static yX4_floatBits ∈ AW := aw_t2 (List.mem_of_getElem? (i := 103) rfl) rfl
theorem kw_288 : Cond.code yX4_floatBits cX4_floatBits 5 (Option.some Jvm.ClassFile.FieldType.int) ∈ AW := aw_t2 (List.mem_of_getElem? (i := 104) rfl) rfl
theorem kw_289 : Cond.methodLink RX4 149 yX4_doubleBits ∈ AW := aw_t2 (List.mem_of_getElem? (i := 105) rfl) rfl
theorem kw_290 : Cond.static yX4_doubleBits ∈ AW := aw_t2 (List.mem_of_getElem? (i := 106) rfl) rfl
theorem kw_291 : Cond.code yX4_doubleBits cX4_doubleBits 7 (Option.some Jvm.ClassFile.FieldType.long) ∈ AW := aw_t2 (List.mem_of_getElem? (i := 107) rfl) rfl
theorem kw_292 : Cond.constantDouble RX4 261 (4611686018427387904) ∈ AW := aw_t2 (List.mem_of_getElem? (i := 108) rfl) rfl
theorem kw_293 : Cond.constantDouble RX4 263 (4841369599423283200) ∈ AW := aw_t2 (List.mem_of_getElem? (i := 109) rfl) rfl
theorem kw_294 : Cond.constantLong RX4 265 (7516192768) ∈ AW := aw_t2 (List.mem_of_getElem? (i := 110) rfl) rfl
theorem kw_295 : Cond.methodLink RL 54 yL_act ∈ AW := aw_t2 (List.mem_of_getElem? (i := 111) rfl) rfl
theorem kw_296 : Cond.static yL_act ∈ AW := aw_t2 (List.mem_of_getElem? (i := 112) rfl) rfl
theorem kw_297 : Cond.code yL_act cL_act 5 (Option.some Jvm.ClassFile.FieldType.int) ∈ AW := aw_t2 (List.mem_of_getElem? (i := 113) rfl) rfl
theorem kw_298 : Cond.methodLink RL 37 yX4_sell ∈ AW := aw_t2 (List.mem_of_getElem? (i := 114) rfl) rfl
theorem kw_299 : Cond.instanceMethod yX4_sell ∈ AW := aw_t2 (List.mem_of_getElem? (i := 115) rfl) rfl
theorem kw_300 : Cond.selects RX4 yX4_sell yX4_sell ∈ AW := aw_t2 (List.mem_of_getElem? (i := 116) rfl) rfl
theorem kw_301 : Cond.code yX4_sell cX4_sell 3 (Option.some Jvm.ClassFile.FieldType.int) ∈ AW := aw_t2 (List.mem_of_getElem? (i := 117) rfl) rfl
theorem kw_302 : Cond.methodLink RX4 63 yX3_sellHour ∈ AW := aw_t2 (List.mem_of_getElem? (i := 118) rfl) rfl
theorem kw_303 : Cond.instanceMethod yX3_sellHour ∈ AW := aw_t2 (List.mem_of_getElem? (i := 119) rfl) rfl
theorem kw_304 : Cond.selects RX3 yX3_sellHour yX3_sellHour ∈ AW := aw_t2 (List.mem_of_getElem? (i := 120) rfl) rfl
theorem kw_305 : Cond.code yX3_sellHour cX3_sellHour 3 (Option.some Jvm.ClassFile.FieldType.int) ∈ AW := aw_t2 (List.mem_of_getElem? (i := 121) rfl) rfl
theorem kw_306 : Cond.methodLink RX3 70 yX3_changeHour ∈ AW := aw_t2 (List.mem_of_getElem? (i := 122) rfl) rfl
theorem kw_307 : Cond.instanceMethod yX3_changeHour ∈ AW := aw_t2 (List.mem_of_getElem? (i := 124) rfl) rfl
theorem kw_308 : Cond.code yX3_changeHour cX3_changeHour 5 (Option.some Jvm.ClassFile.FieldType.int) ∈ AW := aw_t2 (List.mem_of_getElem? (i := 125) rfl) rfl
theorem kw_309 : Cond.methodLink RX3 89 yX0_soldHours ∈ AW := aw_t2 (List.mem_of_getElem? (i := 128) rfl) rfl
theorem kw_310 : Cond.methodLink RL 40 yX4_giveBack ∈ AW := aw_t2 (List.mem_of_getElem? (i := 129) rfl) rfl
theorem kw_311 : Cond.instanceMethod yX4_giveBack ∈ AW := aw_t2 (List.mem_of_getElem? (i := 130) rfl) rfl
theorem kw_312 : Cond.selects RX4 yX4_giveBack yX4_giveBack ∈ AW := aw_t2 (List.mem_of_getElem? (i := 131) rfl) rfl
theorem kw_313 : Cond.code yX4_giveBack cX4_giveBack 3 (Option.some Jvm.ClassFile.FieldType.int) ∈ AW := aw_t2 (List.mem_of_getElem? (i := 132) rfl) rfl
theorem kw_314 : Cond.methodLink RX4 66 yX3_takeHourBack ∈ AW := aw_t2 (List.mem_of_getElem? (i := 133) rfl) rfl
theorem kw_315 : Cond.instanceMethod yX3_takeHourBack ∈ AW := aw_t2 (List.mem_of_getElem? (i := 134) rfl) rfl
theorem kw_316 : Cond.selects RX3 yX3_takeHourBack yX3_takeHourBack ∈ AW := aw_t2 (List.mem_of_getElem? (i := 135) rfl) rfl
theorem kw_317 : Cond.code yX3_takeHourBack cX3_takeHourBack 3 (Option.some Jvm.ClassFile.FieldType.int) ∈ AW := aw_t2 (List.mem_of_getElem? (i := 136) rfl) rfl
theorem kw_318 : Cond.methodLink RL 43 yX4_stream ∈ AW := aw_t2 (List.mem_of_getElem? (i := 137) rfl) rfl
theorem kw_319 : Cond.instanceMethod yX4_stream ∈ AW := aw_t2 (List.mem_of_getElem? (i := 138) rfl) rfl
theorem kw_320 : Cond.selects RX4 yX4_stream yX4_stream ∈ AW := aw_t2 (List.mem_of_getElem? (i := 139) rfl) rfl
theorem kw_321 : Cond.code yX4_stream cX4_stream 4 (Option.some Jvm.ClassFile.FieldType.int) ∈ AW := aw_t2 (List.mem_of_getElem? (i := 140) rfl) rfl
theorem kw_322 : Cond.methodLink RX4 56 yX3_changeStream ∈ AW := aw_t2 (List.mem_of_getElem? (i := 141) rfl) rfl
theorem kw_323 : Cond.instanceMethod yX3_changeStream ∈ AW := aw_t2 (List.mem_of_getElem? (i := 142) rfl) rfl
theorem kw_324 : Cond.selects RX3 yX3_changeStream yX3_changeStream ∈ AW := aw_t2 (List.mem_of_getElem? (i := 143) rfl) rfl
theorem kw_325 : Cond.code yX3_changeStream cX3_changeStream 5 (Option.some Jvm.ClassFile.FieldType.int) ∈ AW := aw_t2 (List.mem_of_getElem? (i := 144) rfl) rfl
theorem kw_326 : Cond.methodLink RL 47 yX4_set ∈ AW := aw_t2 (List.mem_of_getElem? (i := 145) rfl) rfl
theorem kw_327 : Cond.instanceMethod yX4_set ∈ AW := aw_t2 (List.mem_of_getElem? (i := 146) rfl) rfl
theorem kw_328 : Cond.selects RX4 yX4_set yX4_set ∈ AW := aw_t2 (List.mem_of_getElem? (i := 147) rfl) rfl
theorem kw_329 : Cond.code yX4_set cX4_set 3 (Option.some Jvm.ClassFile.FieldType.int) ∈ AW := aw_t2 (List.mem_of_getElem? (i := 148) rfl) rfl
theorem kw_330 : Cond.methodLink RX4 48 yX3_changeSetting ∈ AW := aw_t2 (List.mem_of_getElem? (i := 149) rfl) rfl
theorem kw_331 : Cond.instanceMethod yX3_changeSetting ∈ AW := aw_t2 (List.mem_of_getElem? (i := 150) rfl) rfl
theorem kw_332 : Cond.selects RX3 yX3_changeSetting yX3_changeSetting ∈ AW := aw_t2 (List.mem_of_getElem? (i := 151) rfl) rfl
theorem kw_333 : Cond.code yX3_changeSetting cX3_changeSetting 4 (Option.some Jvm.ClassFile.FieldType.int) ∈ AW := aw_t2 (List.mem_of_getElem? (i := 152) rfl) rfl
theorem kw_334 : Cond.methodLink RL 50 yX4_write ∈ AW := aw_t2 (List.mem_of_getElem? (i := 157) rfl) rfl
theorem kw_335 : Cond.instanceMethod yX4_write ∈ AW := aw_t2 (List.mem_of_getElem? (i := 158) rfl) rfl
theorem kw_336 : Cond.selects RX4 yX4_write yX4_write ∈ AW := aw_t2 (List.mem_of_getElem? (i := 159) rfl) rfl
theorem kw_337 : Cond.code yX4_write cX4_write 3 (Option.some Jvm.ClassFile.FieldType.int) ∈ AW := aw_t2 (List.mem_of_getElem? (i := 160) rfl) rfl
theorem kw_338 : Cond.methodLink RX4 60 yX3_bringUnits ∈ AW := aw_t2 (List.mem_of_getElem? (i := 161) rfl) rfl
theorem kw_339 : Cond.instanceMethod yX3_bringUnits ∈ AW := aw_t2 (List.mem_of_getElem? (i := 162) rfl) rfl
theorem kw_340 : Cond.selects RX3 yX3_bringUnits yX3_bringUnits ∈ AW := aw_t2 (List.mem_of_getElem? (i := 163) rfl) rfl
theorem kw_341 : Cond.code yX3_bringUnits cX3_bringUnits 3 (Option.some Jvm.ClassFile.FieldType.int) ∈ AW := aw_t2 (List.mem_of_getElem? (i := 164) rfl) rfl
theorem kw_342 : Cond.selects RX3 yX3_passMinuteOf yX3_passMinuteOf ∈ AW := aw_0 (List.mem_of_getElem? (i := 0) rfl) rfl
theorem kw_343 : Cond.selects RX3 yX3_settleHours yX3_settleHours ∈ AW := aw_0 (List.mem_of_getElem? (i := 1) rfl) rfl
theorem kw_344 : Cond.selects RX0 yX0_fillCells yX0_fillCells ∈ AW := aw_0 (List.mem_of_getElem? (i := 2) rfl) rfl
theorem kw_345 : Cond.selects RX3 yX3_cleanUp yX3_cleanUp ∈ AW := aw_0 (List.mem_of_getElem? (i := 3) rfl) rfl
theorem kw_346 : Cond.selects RX3 yX3_chargeOverrun yX3_chargeOverrun ∈ AW := aw_0 (List.mem_of_getElem? (i := 4) rfl) rfl
theorem kw_347 : Cond.selects RX4 yX4_recorded yX4_recorded ∈ AW := aw_0 (List.mem_of_getElem? (i := 5) rfl) rfl
theorem kw_348 : Cond.selects RX3 yX3_changeHour yX3_changeHour ∈ AW := aw_0 (List.mem_of_getElem? (i := 6) rfl) rfl
theorem kin0 : ∀ w ∈ u_ws RX0 TX0 12, w ∈ AW := by
  intro w hw
  have hw : w ∈ ([u_lay RX0 TX0 0, u_lay RX0 TX0 1, u_lay RX0 TX0 2, u_lay RX0 TX0 3, u_lay RX0 TX0 4, u_lay RX0 TX0 5, u_lay RX0 TX0 6, u_lay RX0 TX0 7, u_lay RX0 TX0 8, u_lay RX0 TX0 9, u_lay RX0 TX0 10, u_lay RX0 TX0 11] : List Cond) := hw
  simp only [List.mem_cons, List.not_mem_nil, or_false] at hw
  rcases hw with rfl | rfl | rfl | rfl | rfl | rfl | rfl | rfl | rfl | rfl | rfl | rfl
  · exact kw_60
  · exact kw_61
  · exact kw_62
  · exact kw_63
  · exact kw_64
  · exact kw_65
  · exact kw_66
  · exact kw_67
  · exact kw_68
  · exact kw_69
  · exact kw_70
  · exact kw_71
theorem kin1 : ∀ w ∈ u_ws RX1 TX1 3, w ∈ AW := by
  intro w hw
  have hw : w ∈ ([u_lay RX1 TX1 0, u_lay RX1 TX1 1, u_lay RX1 TX1 2] : List Cond) := hw
  simp only [List.mem_cons, List.not_mem_nil, or_false] at hw
  rcases hw with rfl | rfl | rfl
  · exact kw_107
  · exact kw_108
  · exact kw_109
theorem kin2 : ∀ w ∈ u_ws RX2 TX2 7, w ∈ AW := by
  intro w hw
  have hw : w ∈ ([u_lay RX2 TX2 0, u_lay RX2 TX2 1, u_lay RX2 TX2 2, u_lay RX2 TX2 3, u_lay RX2 TX2 4, u_lay RX2 TX2 5, u_lay RX2 TX2 6] : List Cond) := hw
  simp only [List.mem_cons, List.not_mem_nil, or_false] at hw
  rcases hw with rfl | rfl | rfl | rfl | rfl | rfl | rfl
  · exact kw_117
  · exact kw_118
  · exact kw_119
  · exact kw_120
  · exact kw_121
  · exact kw_122
  · exact kw_123
theorem kin3 : ∀ w ∈ u_ws RX3 TX3 7, w ∈ AW := by
  intro w hw
  have hw : w ∈ ([u_lay RX3 TX3 0, u_lay RX3 TX3 1, u_lay RX3 TX3 2, u_lay RX3 TX3 3, u_lay RX3 TX3 4, u_lay RX3 TX3 5, u_lay RX3 TX3 6] : List Cond) := hw
  simp only [List.mem_cons, List.not_mem_nil, or_false] at hw
  rcases hw with rfl | rfl | rfl | rfl | rfl | rfl | rfl
  · exact kw_88
  · exact kw_89
  · exact kw_90
  · exact kw_91
  · exact kw_92
  · exact kw_93
  · exact kw_94
theorem kin4 : ∀ w ∈ u_ws RX4 TX4 7, w ∈ AW := by
  intro w hw
  have hw : w ∈ ([u_lay RX4 TX4 0, u_lay RX4 TX4 1, u_lay RX4 TX4 2, u_lay RX4 TX4 3, u_lay RX4 TX4 4, u_lay RX4 TX4 5, u_lay RX4 TX4 6] : List Cond) := hw
  simp only [List.mem_cons, List.not_mem_nil, or_false] at hw
  rcases hw with rfl | rfl | rfl | rfl | rfl | rfl | rfl
  · exact kw_133
  · exact kw_134
  · exact kw_135
  · exact kw_136
  · exact kw_137
  · exact kw_138
  · exact kw_139
end
section
theorem dX0_init_0 : decode cX0_init 0 = .ok (.aload_n 0, 1) := by decide +kernel
theorem dX0_init_1 : decode cX0_init 1 = .ok (.invokespecial 3, 3) := by decide +kernel
theorem dX0_init_4 : decode cX0_init 4 = .ok (.aload_n 0, 1) := by decide +kernel
theorem dX0_init_5 : decode cX0_init 5 = .ok (.bipush 60, 2) := by decide +kernel
theorem dX0_init_7 : decode cX0_init 7 = .ok (.putfield 9, 3) := by decide +kernel
theorem dX0_init_10 : decode cX0_init 10 = .ok (.aload_n 0, 1) := by decide +kernel
theorem dX0_init_11 : decode cX0_init 11 = .ok (.iconst 1, 1) := by decide +kernel
theorem dX0_init_12 : decode cX0_init 12 = .ok (.putfield 15, 3) := by decide +kernel
theorem dX0_init_15 : decode cX0_init 15 = .ok (.aload_n 0, 1) := by decide +kernel
theorem dX0_init_16 : decode cX0_init 16 = .ok (.bipush 100, 2) := by decide +kernel
theorem dX0_init_18 : decode cX0_init 18 = .ok (.newarray .byte, 2) := by decide +kernel
theorem dX0_init_20 : decode cX0_init 20 = .ok (.putfield 18, 3) := by decide +kernel
theorem dX0_init_23 : decode cX0_init 23 = .ok (.return_, 1) := by decide +kernel
theorem dX0_copyFrom_0 : decode cX0_copyFrom 0 = .ok (.aload_n 0, 1) := by decide +kernel
theorem dX0_copyFrom_1 : decode cX0_copyFrom 1 = .ok (.aload_n 1, 1) := by decide +kernel
theorem dX0_copyFrom_2 : decode cX0_copyFrom 2 = .ok (.getfield 9, 3) := by decide +kernel
theorem dX0_copyFrom_5 : decode cX0_copyFrom 5 = .ok (.putfield 9, 3) := by decide +kernel
theorem dX0_copyFrom_8 : decode cX0_copyFrom 8 = .ok (.aload_n 0, 1) := by decide +kernel
theorem dX0_copyFrom_9 : decode cX0_copyFrom 9 = .ok (.aload_n 1, 1) := by decide +kernel
theorem dX0_copyFrom_10 : decode cX0_copyFrom 10 = .ok (.getfield 22, 3) := by decide +kernel
theorem dX0_copyFrom_13 : decode cX0_copyFrom 13 = .ok (.putfield 22, 3) := by decide +kernel
theorem dX0_copyFrom_16 : decode cX0_copyFrom 16 = .ok (.aload_n 0, 1) := by decide +kernel
theorem dX0_copyFrom_17 : decode cX0_copyFrom 17 = .ok (.aload_n 1, 1) := by decide +kernel
theorem dX0_copyFrom_18 : decode cX0_copyFrom 18 = .ok (.getfield 25, 3) := by decide +kernel
theorem dX0_copyFrom_21 : decode cX0_copyFrom 21 = .ok (.putfield 25, 3) := by decide +kernel
theorem dX0_copyFrom_24 : decode cX0_copyFrom 24 = .ok (.aload_n 0, 1) := by decide +kernel
theorem dX0_copyFrom_25 : decode cX0_copyFrom 25 = .ok (.aload_n 1, 1) := by decide +kernel
theorem dX0_copyFrom_26 : decode cX0_copyFrom 26 = .ok (.getfield 28, 3) := by decide +kernel
theorem dX0_copyFrom_29 : decode cX0_copyFrom 29 = .ok (.putfield 28, 3) := by decide +kernel
theorem dX0_copyFrom_32 : decode cX0_copyFrom 32 = .ok (.aload_n 0, 1) := by decide +kernel
theorem dX0_copyFrom_33 : decode cX0_copyFrom 33 = .ok (.aload_n 1, 1) := by decide +kernel
theorem dX0_copyFrom_34 : decode cX0_copyFrom 34 = .ok (.getfield 31, 3) := by decide +kernel
theorem dX0_copyFrom_37 : decode cX0_copyFrom 37 = .ok (.putfield 31, 3) := by decide +kernel
theorem dX0_copyFrom_40 : decode cX0_copyFrom 40 = .ok (.aload_n 0, 1) := by decide +kernel
theorem dX0_copyFrom_41 : decode cX0_copyFrom 41 = .ok (.aload_n 1, 1) := by decide +kernel
theorem dX0_copyFrom_42 : decode cX0_copyFrom 42 = .ok (.getfield 35, 3) := by decide +kernel
theorem dX0_copyFrom_45 : decode cX0_copyFrom 45 = .ok (.putfield 35, 3) := by decide +kernel
theorem dX0_copyFrom_48 : decode cX0_copyFrom 48 = .ok (.aload_n 0, 1) := by decide +kernel
theorem dX0_copyFrom_49 : decode cX0_copyFrom 49 = .ok (.aload_n 1, 1) := by decide +kernel
theorem dX0_copyFrom_50 : decode cX0_copyFrom 50 = .ok (.getfield 38, 3) := by decide +kernel
theorem dX0_copyFrom_53 : decode cX0_copyFrom 53 = .ok (.putfield 38, 3) := by decide +kernel
theorem dX0_copyFrom_56 : decode cX0_copyFrom 56 = .ok (.aload_n 0, 1) := by decide +kernel
theorem dX0_copyFrom_57 : decode cX0_copyFrom 57 = .ok (.aload_n 1, 1) := by decide +kernel
theorem dX0_copyFrom_58 : decode cX0_copyFrom 58 = .ok (.getfield 41, 3) := by decide +kernel
theorem dX0_copyFrom_61 : decode cX0_copyFrom 61 = .ok (.putfield 41, 3) := by decide +kernel
theorem dX0_copyFrom_64 : decode cX0_copyFrom 64 = .ok (.aload_n 0, 1) := by decide +kernel
theorem dX0_copyFrom_65 : decode cX0_copyFrom 65 = .ok (.aload_n 1, 1) := by decide +kernel
theorem dX0_copyFrom_66 : decode cX0_copyFrom 66 = .ok (.getfield 15, 3) := by decide +kernel
theorem dX0_copyFrom_69 : decode cX0_copyFrom 69 = .ok (.putfield 15, 3) := by decide +kernel
theorem dX0_copyFrom_72 : decode cX0_copyFrom 72 = .ok (.aload_n 0, 1) := by decide +kernel
theorem dX0_copyFrom_73 : decode cX0_copyFrom 73 = .ok (.aload_n 1, 1) := by decide +kernel
theorem dX0_copyFrom_74 : decode cX0_copyFrom 74 = .ok (.getfield 44, 3) := by decide +kernel
theorem dX0_copyFrom_77 : decode cX0_copyFrom 77 = .ok (.putfield 44, 3) := by decide +kernel
theorem dX0_copyFrom_80 : decode cX0_copyFrom 80 = .ok (.aload_n 0, 1) := by decide +kernel
theorem dX0_copyFrom_81 : decode cX0_copyFrom 81 = .ok (.aload_n 1, 1) := by decide +kernel
theorem dX0_copyFrom_82 : decode cX0_copyFrom 82 = .ok (.getfield 47, 3) := by decide +kernel
theorem dX0_copyFrom_85 : decode cX0_copyFrom 85 = .ok (.putfield 47, 3) := by decide +kernel
theorem dX0_copyFrom_88 : decode cX0_copyFrom 88 = .ok (.aload_n 1, 1) := by decide +kernel
theorem dX0_copyFrom_89 : decode cX0_copyFrom 89 = .ok (.getfield 18, 3) := by decide +kernel
theorem dX0_copyFrom_92 : decode cX0_copyFrom 92 = .ok (.iconst 0, 1) := by decide +kernel
theorem dX0_copyFrom_93 : decode cX0_copyFrom 93 = .ok (.aload_n 0, 1) := by decide +kernel
theorem dX0_copyFrom_94 : decode cX0_copyFrom 94 = .ok (.getfield 18, 3) := by decide +kernel
theorem dX0_copyFrom_97 : decode cX0_copyFrom 97 = .ok (.iconst 0, 1) := by decide +kernel
theorem dX0_copyFrom_98 : decode cX0_copyFrom 98 = .ok (.bipush 100, 2) := by decide +kernel
theorem dX0_copyFrom_100 : decode cX0_copyFrom 100 = .ok (.invokestatic 51, 3) := by decide +kernel
theorem dX0_copyFrom_103 : decode cX0_copyFrom 103 = .ok (.return_, 1) := by decide +kernel
theorem dX0_hourState_0 : decode cX0_hourState 0 = .ok (.iload_n 1, 1) := by decide +kernel
theorem dX0_hourState_1 : decode cX0_hourState 1 = .ok (.invokestatic 57, 3) := by decide +kernel
theorem dX0_hourState_4 : decode cX0_hourState 4 = .ok (.ifCond .eq 12, 3) := by decide +kernel
theorem dX0_hourState_7 : decode cX0_hourState 7 = .ok (.aload_n 0, 1) := by decide +kernel
theorem dX0_hourState_8 : decode cX0_hourState 8 = .ok (.getfield 18, 3) := by decide +kernel
theorem dX0_hourState_11 : decode cX0_hourState 11 = .ok (.iload_n 1, 1) := by decide +kernel
theorem dX0_hourState_12 : decode cX0_hourState 12 = .ok (.baload, 1) := by decide +kernel
theorem dX0_hourState_13 : decode cX0_hourState 13 = .ok (.goto 4, 3) := by decide +kernel
theorem dX0_hourState_16 : decode cX0_hourState 16 = .ok (.iconst 0, 1) := by decide +kernel
theorem dX0_hourState_17 : decode cX0_hourState 17 = .ok (.ireturn, 1) := by decide +kernel
theorem dX0_markHour_0 : decode cX0_markHour 0 = .ok (.iload_n 1, 1) := by decide +kernel
theorem dX0_markHour_1 : decode cX0_markHour 1 = .ok (.invokestatic 57, 3) := by decide +kernel
theorem dX0_markHour_4 : decode cX0_markHour 4 = .ok (.ifCond .eq 11, 3) := by decide +kernel
theorem dX0_markHour_7 : decode cX0_markHour 7 = .ok (.aload_n 0, 1) := by decide +kernel
theorem dX0_markHour_8 : decode cX0_markHour 8 = .ok (.getfield 18, 3) := by decide +kernel
theorem dX0_markHour_11 : decode cX0_markHour 11 = .ok (.iload_n 1, 1) := by decide +kernel
theorem dX0_markHour_12 : decode cX0_markHour 12 = .ok (.iload_n 2, 1) := by decide +kernel
theorem dX0_markHour_13 : decode cX0_markHour 13 = .ok (.i2b, 1) := by decide +kernel
theorem dX0_markHour_14 : decode cX0_markHour 14 = .ok (.bastore, 1) := by decide +kernel
theorem dX0_markHour_15 : decode cX0_markHour 15 = .ok (.return_, 1) := by decide +kernel
theorem dX0_isQuietIn_0 : decode cX0_isQuietIn 0 = .ok (.aload_n 0, 1) := by decide +kernel
theorem dX0_isQuietIn_1 : decode cX0_isQuietIn 1 = .ok (.iload_n 1, 1) := by decide +kernel
theorem dX0_isQuietIn_2 : decode cX0_isQuietIn 2 = .ok (.invokevirtual 61, 3) := by decide +kernel
theorem dX0_isQuietIn_5 : decode cX0_isQuietIn 5 = .ok (.ifCond .eq 7, 3) := by decide +kernel
theorem dX0_isQuietIn_8 : decode cX0_isQuietIn 8 = .ok (.iconst 1, 1) := by decide +kernel
theorem dX0_isQuietIn_9 : decode cX0_isQuietIn 9 = .ok (.goto 4, 3) := by decide +kernel
theorem dX0_isQuietIn_12 : decode cX0_isQuietIn 12 = .ok (.iconst 0, 1) := by decide +kernel
theorem dX0_isQuietIn_13 : decode cX0_isQuietIn 13 = .ok (.ireturn, 1) := by decide +kernel
theorem dX0_hoursThatAre_0 : decode cX0_hoursThatAre 0 = .ok (.iconst 0, 1) := by decide +kernel
theorem dX0_hoursThatAre_1 : decode cX0_hoursThatAre 1 = .ok (.istore_n 2, 1) := by decide +kernel
theorem dX0_hoursThatAre_2 : decode cX0_hoursThatAre 2 = .ok (.iconst 0, 1) := by decide +kernel
theorem dX0_hoursThatAre_3 : decode cX0_hoursThatAre 3 = .ok (.istore_n 3, 1) := by decide +kernel
theorem dX0_hoursThatAre_4 : decode cX0_hoursThatAre 4 = .ok (.iload_n 3, 1) := by decide +kernel
theorem dX0_hoursThatAre_5 : decode cX0_hoursThatAre 5 = .ok (.bipush 100, 2) := by decide +kernel
theorem dX0_hoursThatAre_7 : decode cX0_hoursThatAre 7 = .ok (.if_icmp .ge 22, 3) := by decide +kernel
theorem dX0_hoursThatAre_10 : decode cX0_hoursThatAre 10 = .ok (.aload_n 0, 1) := by decide +kernel
theorem dX0_hoursThatAre_11 : decode cX0_hoursThatAre 11 = .ok (.getfield 18, 3) := by decide +kernel
theorem dX0_hoursThatAre_14 : decode cX0_hoursThatAre 14 = .ok (.iload_n 3, 1) := by decide +kernel
theorem dX0_hoursThatAre_15 : decode cX0_hoursThatAre 15 = .ok (.baload, 1) := by decide +kernel
theorem dX0_hoursThatAre_16 : decode cX0_hoursThatAre 16 = .ok (.iload_n 1, 1) := by decide +kernel
theorem dX0_hoursThatAre_17 : decode cX0_hoursThatAre 17 = .ok (.if_icmp .ne 6, 3) := by decide +kernel
theorem dX0_hoursThatAre_20 : decode cX0_hoursThatAre 20 = .ok (.iinc 2 1, 3) := by decide +kernel
theorem dX0_hoursThatAre_23 : decode cX0_hoursThatAre 23 = .ok (.iinc 3 1, 3) := by decide +kernel
theorem dX0_hoursThatAre_26 : decode cX0_hoursThatAre 26 = .ok (.goto (-22), 3) := by decide +kernel
theorem dX0_hoursThatAre_29 : decode cX0_hoursThatAre 29 = .ok (.iload_n 2, 1) := by decide +kernel
theorem dX0_hoursThatAre_30 : decode cX0_hoursThatAre 30 = .ok (.ireturn, 1) := by decide +kernel
theorem dX0_soldHours_0 : decode cX0_soldHours 0 = .ok (.bipush 100, 2) := by decide +kernel
theorem dX0_soldHours_2 : decode cX0_soldHours 2 = .ok (.aload_n 0, 1) := by decide +kernel
theorem dX0_soldHours_3 : decode cX0_soldHours 3 = .ok (.iconst 0, 1) := by decide +kernel
theorem dX0_soldHours_4 : decode cX0_soldHours 4 = .ok (.invokevirtual 65, 3) := by decide +kernel
theorem dX0_soldHours_7 : decode cX0_soldHours 7 = .ok (.isub, 1) := by decide +kernel
theorem dX0_soldHours_8 : decode cX0_soldHours 8 = .ok (.ireturn, 1) := by decide +kernel
theorem dX0_keptInARow_0 : decode cX0_keptInARow 0 = .ok (.iconst 0, 1) := by decide +kernel
theorem dX0_keptInARow_1 : decode cX0_keptInARow 1 = .ok (.istore_n 1, 1) := by decide +kernel
theorem dX0_keptInARow_2 : decode cX0_keptInARow 2 = .ok (.bipush 99, 2) := by decide +kernel
theorem dX0_keptInARow_4 : decode cX0_keptInARow 4 = .ok (.istore_n 2, 1) := by decide +kernel
theorem dX0_keptInARow_5 : decode cX0_keptInARow 5 = .ok (.iload_n 2, 1) := by decide +kernel
theorem dX0_keptInARow_6 : decode cX0_keptInARow 6 = .ok (.ifCond .lt 32, 3) := by decide +kernel
theorem dX0_keptInARow_9 : decode cX0_keptInARow 9 = .ok (.aload_n 0, 1) := by decide +kernel
theorem dX0_keptInARow_10 : decode cX0_keptInARow 10 = .ok (.getfield 18, 3) := by decide +kernel
theorem dX0_keptInARow_13 : decode cX0_keptInARow 13 = .ok (.iload_n 2, 1) := by decide +kernel
theorem dX0_keptInARow_14 : decode cX0_keptInARow 14 = .ok (.baload, 1) := by decide +kernel
theorem dX0_keptInARow_15 : decode cX0_keptInARow 15 = .ok (.iconst 3, 1) := by decide +kernel
theorem dX0_keptInARow_16 : decode cX0_keptInARow 16 = .ok (.if_icmp .eq 22, 3) := by decide +kernel
theorem dX0_keptInARow_19 : decode cX0_keptInARow 19 = .ok (.aload_n 0, 1) := by decide +kernel
theorem dX0_keptInARow_20 : decode cX0_keptInARow 20 = .ok (.getfield 18, 3) := by decide +kernel
theorem dX0_keptInARow_23 : decode cX0_keptInARow 23 = .ok (.iload_n 2, 1) := by decide +kernel
theorem dX0_keptInARow_24 : decode cX0_keptInARow 24 = .ok (.baload, 1) := by decide +kernel
theorem dX0_keptInARow_25 : decode cX0_keptInARow 25 = .ok (.iconst 2, 1) := by decide +kernel
theorem dX0_keptInARow_26 : decode cX0_keptInARow 26 = .ok (.if_icmp .ne 6, 3) := by decide +kernel
theorem dX0_keptInARow_29 : decode cX0_keptInARow 29 = .ok (.iinc 1 1, 3) := by decide +kernel
theorem dX0_keptInARow_32 : decode cX0_keptInARow 32 = .ok (.iinc 2 (-1), 3) := by decide +kernel
theorem dX0_keptInARow_35 : decode cX0_keptInARow 35 = .ok (.goto (-30), 3) := by decide +kernel
theorem dX0_keptInARow_38 : decode cX0_keptInARow 38 = .ok (.iload_n 1, 1) := by decide +kernel
theorem dX0_keptInARow_39 : decode cX0_keptInARow 39 = .ok (.ireturn, 1) := by decide +kernel
theorem dX0_takeStream_0 : decode cX0_takeStream 0 = .ok (.aload_n 0, 1) := by decide +kernel
theorem dX0_takeStream_1 : decode cX0_takeStream 1 = .ok (.getfield 15, 3) := by decide +kernel
theorem dX0_takeStream_4 : decode cX0_takeStream 4 = .ok (.ifCond .le 25, 3) := by decide +kernel
theorem dX0_takeStream_7 : decode cX0_takeStream 7 = .ok (.iload_n 1, 1) := by decide +kernel
theorem dX0_takeStream_8 : decode cX0_takeStream 8 = .ok (.aload_n 0, 1) := by decide +kernel
theorem dX0_takeStream_9 : decode cX0_takeStream 9 = .ok (.getfield 15, 3) := by decide +kernel
theorem dX0_takeStream_12 : decode cX0_takeStream 12 = .ok (.irem, 1) := by decide +kernel
theorem dX0_takeStream_13 : decode cX0_takeStream 13 = .ok (.ifCond .ne 16, 3) := by decide +kernel
theorem dX0_takeStream_16 : decode cX0_takeStream 16 = .ok (.aload_n 0, 1) := by decide +kernel
theorem dX0_takeStream_17 : decode cX0_takeStream 17 = .ok (.dup, 1) := by decide +kernel
theorem dX0_takeStream_18 : decode cX0_takeStream 18 = .ok (.getfield 28, 3) := by decide +kernel
theorem dX0_takeStream_21 : decode cX0_takeStream 21 = .ok (.aload_n 0, 1) := by decide +kernel
theorem dX0_takeStream_22 : decode cX0_takeStream 22 = .ok (.getfield 44, 3) := by decide +kernel
theorem dX0_takeStream_25 : decode cX0_takeStream 25 = .ok (.iadd, 1) := by decide +kernel
theorem dX0_takeStream_26 : decode cX0_takeStream 26 = .ok (.putfield 28, 3) := by decide +kernel
theorem dX0_takeStream_29 : decode cX0_takeStream 29 = .ok (.return_, 1) := by decide +kernel
theorem dX0_takeBackFrom_0 : decode cX0_takeBackFrom 0 = .ok (.aload_n 1, 1) := by decide +kernel
theorem dX0_takeBackFrom_1 : decode cX0_takeBackFrom 1 = .ok (.getfield 25, 3) := by decide +kernel
theorem dX0_takeBackFrom_4 : decode cX0_takeBackFrom 4 = .ok (.aload_n 0, 1) := by decide +kernel
theorem dX0_takeBackFrom_5 : decode cX0_takeBackFrom 5 = .ok (.getfield 9, 3) := by decide +kernel
theorem dX0_takeBackFrom_8 : decode cX0_takeBackFrom 8 = .ok (.invokestatic 68, 3) := by decide +kernel
theorem dX0_takeBackFrom_11 : decode cX0_takeBackFrom 11 = .ok (.istore_n 2, 1) := by decide +kernel
theorem dX0_takeBackFrom_12 : decode cX0_takeBackFrom 12 = .ok (.aload_n 1, 1) := by decide +kernel
theorem dX0_takeBackFrom_13 : decode cX0_takeBackFrom 13 = .ok (.dup, 1) := by decide +kernel
theorem dX0_takeBackFrom_14 : decode cX0_takeBackFrom 14 = .ok (.getfield 25, 3) := by decide +kernel
theorem dX0_takeBackFrom_17 : decode cX0_takeBackFrom 17 = .ok (.iload_n 2, 1) := by decide +kernel
theorem dX0_takeBackFrom_18 : decode cX0_takeBackFrom 18 = .ok (.isub, 1) := by decide +kernel
theorem dX0_takeBackFrom_19 : decode cX0_takeBackFrom 19 = .ok (.putfield 25, 3) := by decide +kernel
theorem dX0_takeBackFrom_22 : decode cX0_takeBackFrom 22 = .ok (.aload_n 1, 1) := by decide +kernel
theorem dX0_takeBackFrom_23 : decode cX0_takeBackFrom 23 = .ok (.dup, 1) := by decide +kernel
theorem dX0_takeBackFrom_24 : decode cX0_takeBackFrom 24 = .ok (.getfield 22, 3) := by decide +kernel
theorem dX0_takeBackFrom_27 : decode cX0_takeBackFrom 27 = .ok (.iload_n 2, 1) := by decide +kernel
theorem dX0_takeBackFrom_28 : decode cX0_takeBackFrom 28 = .ok (.iadd, 1) := by decide +kernel
theorem dX0_takeBackFrom_29 : decode cX0_takeBackFrom 29 = .ok (.putfield 22, 3) := by decide +kernel
theorem dX0_takeBackFrom_32 : decode cX0_takeBackFrom 32 = .ok (.aload_n 0, 1) := by decide +kernel
theorem dX0_takeBackFrom_33 : decode cX0_takeBackFrom 33 = .ok (.iload_n 2, 1) := by decide +kernel
theorem dX0_takeBackFrom_34 : decode cX0_takeBackFrom 34 = .ok (.invokevirtual 74, 3) := by decide +kernel
theorem dX0_takeBackFrom_37 : decode cX0_takeBackFrom 37 = .ok (.return_, 1) := by decide +kernel
theorem dX0_writeHeld_0 : decode cX0_writeHeld 0 = .ok (.aload_n 0, 1) := by decide +kernel
theorem dX0_writeHeld_1 : decode cX0_writeHeld 1 = .ok (.getfield 28, 3) := by decide +kernel
theorem dX0_writeHeld_4 : decode cX0_writeHeld 4 = .ok (.aload_n 0, 1) := by decide +kernel
theorem dX0_writeHeld_5 : decode cX0_writeHeld 5 = .ok (.getfield 9, 3) := by decide +kernel
theorem dX0_writeHeld_8 : decode cX0_writeHeld 8 = .ok (.invokestatic 68, 3) := by decide +kernel
theorem dX0_writeHeld_11 : decode cX0_writeHeld 11 = .ok (.istore_n 1, 1) := by decide +kernel
theorem dX0_writeHeld_12 : decode cX0_writeHeld 12 = .ok (.aload_n 0, 1) := by decide +kernel
theorem dX0_writeHeld_13 : decode cX0_writeHeld 13 = .ok (.dup, 1) := by decide +kernel
theorem dX0_writeHeld_14 : decode cX0_writeHeld 14 = .ok (.getfield 28, 3) := by decide +kernel
theorem dX0_writeHeld_17 : decode cX0_writeHeld 17 = .ok (.iload_n 1, 1) := by decide +kernel
theorem dX0_writeHeld_18 : decode cX0_writeHeld 18 = .ok (.isub, 1) := by decide +kernel
theorem dX0_writeHeld_19 : decode cX0_writeHeld 19 = .ok (.putfield 28, 3) := by decide +kernel
theorem dX0_writeHeld_22 : decode cX0_writeHeld 22 = .ok (.aload_n 0, 1) := by decide +kernel
theorem dX0_writeHeld_23 : decode cX0_writeHeld 23 = .ok (.iload_n 1, 1) := by decide +kernel
theorem dX0_writeHeld_24 : decode cX0_writeHeld 24 = .ok (.invokevirtual 74, 3) := by decide +kernel
theorem dX0_writeHeld_27 : decode cX0_writeHeld 27 = .ok (.return_, 1) := by decide +kernel
theorem dX0_fillCells_0 : decode cX0_fillCells 0 = .ok (.aload_n 0, 1) := by decide +kernel
theorem dX0_fillCells_1 : decode cX0_fillCells 1 = .ok (.dup, 1) := by decide +kernel
theorem dX0_fillCells_2 : decode cX0_fillCells 2 = .ok (.getfield 9, 3) := by decide +kernel
theorem dX0_fillCells_5 : decode cX0_fillCells 5 = .ok (.iload_n 1, 1) := by decide +kernel
theorem dX0_fillCells_6 : decode cX0_fillCells 6 = .ok (.isub, 1) := by decide +kernel
theorem dX0_fillCells_7 : decode cX0_fillCells 7 = .ok (.putfield 9, 3) := by decide +kernel
theorem dX0_fillCells_10 : decode cX0_fillCells 10 = .ok (.aload_n 0, 1) := by decide +kernel
theorem dX0_fillCells_11 : decode cX0_fillCells 11 = .ok (.dup, 1) := by decide +kernel
theorem dX0_fillCells_12 : decode cX0_fillCells 12 = .ok (.getfield 22, 3) := by decide +kernel
theorem dX0_fillCells_15 : decode cX0_fillCells 15 = .ok (.iload_n 1, 1) := by decide +kernel
theorem dX0_fillCells_16 : decode cX0_fillCells 16 = .ok (.iadd, 1) := by decide +kernel
theorem dX0_fillCells_17 : decode cX0_fillCells 17 = .ok (.putfield 22, 3) := by decide +kernel
theorem dX0_fillCells_20 : decode cX0_fillCells 20 = .ok (.aload_n 0, 1) := by decide +kernel
theorem dX0_fillCells_21 : decode cX0_fillCells 21 = .ok (.dup, 1) := by decide +kernel
theorem dX0_fillCells_22 : decode cX0_fillCells 22 = .ok (.getfield 35, 3) := by decide +kernel
theorem dX0_fillCells_25 : decode cX0_fillCells 25 = .ok (.iload_n 1, 1) := by decide +kernel
theorem dX0_fillCells_26 : decode cX0_fillCells 26 = .ok (.iadd, 1) := by decide +kernel
theorem dX0_fillCells_27 : decode cX0_fillCells 27 = .ok (.putfield 35, 3) := by decide +kernel
theorem dX0_fillCells_30 : decode cX0_fillCells 30 = .ok (.return_, 1) := by decide +kernel
theorem dX0_lendTo_0 : decode cX0_lendTo 0 = .ok (.aload_n 0, 1) := by decide +kernel
theorem dX0_lendTo_1 : decode cX0_lendTo 1 = .ok (.getfield 28, 3) := by decide +kernel
theorem dX0_lendTo_4 : decode cX0_lendTo 4 = .ok (.iload_n 2, 1) := by decide +kernel
theorem dX0_lendTo_5 : decode cX0_lendTo 5 = .ok (.if_icmp .le 47, 3) := by decide +kernel
theorem dX0_lendTo_8 : decode cX0_lendTo 8 = .ok (.aload_n 0, 1) := by decide +kernel
theorem dX0_lendTo_9 : decode cX0_lendTo 9 = .ok (.getfield 28, 3) := by decide +kernel
theorem dX0_lendTo_12 : decode cX0_lendTo 12 = .ok (.iload_n 2, 1) := by decide +kernel
theorem dX0_lendTo_13 : decode cX0_lendTo 13 = .ok (.isub, 1) := by decide +kernel
theorem dX0_lendTo_14 : decode cX0_lendTo 14 = .ok (.aload_n 1, 1) := by decide +kernel
theorem dX0_lendTo_15 : decode cX0_lendTo 15 = .ok (.getfield 9, 3) := by decide +kernel
theorem dX0_lendTo_18 : decode cX0_lendTo 18 = .ok (.invokestatic 68, 3) := by decide +kernel
theorem dX0_lendTo_21 : decode cX0_lendTo 21 = .ok (.istore_n 3, 1) := by decide +kernel
theorem dX0_lendTo_22 : decode cX0_lendTo 22 = .ok (.aload_n 1, 1) := by decide +kernel
theorem dX0_lendTo_23 : decode cX0_lendTo 23 = .ok (.dup, 1) := by decide +kernel
theorem dX0_lendTo_24 : decode cX0_lendTo 24 = .ok (.getfield 9, 3) := by decide +kernel
theorem dX0_lendTo_27 : decode cX0_lendTo 27 = .ok (.iload_n 3, 1) := by decide +kernel
theorem dX0_lendTo_28 : decode cX0_lendTo 28 = .ok (.isub, 1) := by decide +kernel
theorem dX0_lendTo_29 : decode cX0_lendTo 29 = .ok (.putfield 9, 3) := by decide +kernel
theorem dX0_lendTo_32 : decode cX0_lendTo 32 = .ok (.aload_n 1, 1) := by decide +kernel
theorem dX0_lendTo_33 : decode cX0_lendTo 33 = .ok (.dup, 1) := by decide +kernel
theorem dX0_lendTo_34 : decode cX0_lendTo 34 = .ok (.getfield 25, 3) := by decide +kernel
theorem dX0_lendTo_37 : decode cX0_lendTo 37 = .ok (.iload_n 3, 1) := by decide +kernel
theorem dX0_lendTo_38 : decode cX0_lendTo 38 = .ok (.iadd, 1) := by decide +kernel
theorem dX0_lendTo_39 : decode cX0_lendTo 39 = .ok (.putfield 25, 3) := by decide +kernel
theorem dX0_lendTo_42 : decode cX0_lendTo 42 = .ok (.aload_n 0, 1) := by decide +kernel
theorem dX0_lendTo_43 : decode cX0_lendTo 43 = .ok (.dup, 1) := by decide +kernel
theorem dX0_lendTo_44 : decode cX0_lendTo 44 = .ok (.getfield 28, 3) := by decide +kernel
theorem dX0_lendTo_47 : decode cX0_lendTo 47 = .ok (.iload_n 3, 1) := by decide +kernel
theorem dX0_lendTo_48 : decode cX0_lendTo 48 = .ok (.isub, 1) := by decide +kernel
theorem dX0_lendTo_49 : decode cX0_lendTo 49 = .ok (.putfield 28, 3) := by decide +kernel
theorem dX0_lendTo_52 : decode cX0_lendTo 52 = .ok (.return_, 1) := by decide +kernel
theorem dX0_cleanCells_0 : decode cX0_cleanCells 0 = .ok (.aload_n 0, 1) := by decide +kernel
theorem dX0_cleanCells_1 : decode cX0_cleanCells 1 = .ok (.dup, 1) := by decide +kernel
theorem dX0_cleanCells_2 : decode cX0_cleanCells 2 = .ok (.getfield 22, 3) := by decide +kernel
theorem dX0_cleanCells_5 : decode cX0_cleanCells 5 = .ok (.iload_n 1, 1) := by decide +kernel
theorem dX0_cleanCells_6 : decode cX0_cleanCells 6 = .ok (.isub, 1) := by decide +kernel
theorem dX0_cleanCells_7 : decode cX0_cleanCells 7 = .ok (.putfield 22, 3) := by decide +kernel
theorem dX0_cleanCells_10 : decode cX0_cleanCells 10 = .ok (.aload_n 0, 1) := by decide +kernel
theorem dX0_cleanCells_11 : decode cX0_cleanCells 11 = .ok (.dup, 1) := by decide +kernel
theorem dX0_cleanCells_12 : decode cX0_cleanCells 12 = .ok (.getfield 9, 3) := by decide +kernel
theorem dX0_cleanCells_15 : decode cX0_cleanCells 15 = .ok (.iload_n 1, 1) := by decide +kernel
theorem dX0_cleanCells_16 : decode cX0_cleanCells 16 = .ok (.iadd, 1) := by decide +kernel
theorem dX0_cleanCells_17 : decode cX0_cleanCells 17 = .ok (.putfield 9, 3) := by decide +kernel
theorem dX0_cleanCells_20 : decode cX0_cleanCells 20 = .ok (.aload_n 0, 1) := by decide +kernel
theorem dX0_cleanCells_21 : decode cX0_cleanCells 21 = .ok (.dup, 1) := by decide +kernel
theorem dX0_cleanCells_22 : decode cX0_cleanCells 22 = .ok (.getfield 38, 3) := by decide +kernel
theorem dX0_cleanCells_25 : decode cX0_cleanCells 25 = .ok (.iconst 1, 1) := by decide +kernel
theorem dX0_cleanCells_26 : decode cX0_cleanCells 26 = .ok (.iadd, 1) := by decide +kernel
theorem dX0_cleanCells_27 : decode cX0_cleanCells 27 = .ok (.putfield 38, 3) := by decide +kernel
theorem dX0_cleanCells_30 : decode cX0_cleanCells 30 = .ok (.return_, 1) := by decide +kernel
theorem dX1_init_0 : decode cX1_init 0 = .ok (.aload_n 0, 1) := by decide +kernel
theorem dX1_init_1 : decode cX1_init 1 = .ok (.invokespecial 3, 3) := by decide +kernel
theorem dX1_init_4 : decode cX1_init 4 = .ok (.aload_n 0, 1) := by decide +kernel
theorem dX1_init_5 : decode cX1_init 5 = .ok (.bipush 7, 2) := by decide +kernel
theorem dX1_init_7 : decode cX1_init 7 = .ok (.anewarray 9, 3) := by decide +kernel
theorem dX1_init_10 : decode cX1_init 10 = .ok (.putfield 11, 3) := by decide +kernel
theorem dX1_init_13 : decode cX1_init 13 = .ok (.iconst 0, 1) := by decide +kernel
theorem dX1_init_14 : decode cX1_init 14 = .ok (.istore_n 1, 1) := by decide +kernel
theorem dX1_init_15 : decode cX1_init 15 = .ok (.iload_n 1, 1) := by decide +kernel
theorem dX1_init_16 : decode cX1_init 16 = .ok (.bipush 6, 2) := by decide +kernel
theorem dX1_init_18 : decode cX1_init 18 = .ok (.if_icmp .gt 22, 3) := by decide +kernel
theorem dX1_init_21 : decode cX1_init 21 = .ok (.aload_n 0, 1) := by decide +kernel
theorem dX1_init_22 : decode cX1_init 22 = .ok (.getfield 11, 3) := by decide +kernel
theorem dX1_init_25 : decode cX1_init 25 = .ok (.iload_n 1, 1) := by decide +kernel
theorem dX1_init_26 : decode cX1_init 26 = .ok (.new 9, 3) := by decide +kernel
theorem dX1_init_29 : decode cX1_init 29 = .ok (.dup, 1) := by decide +kernel
theorem dX1_init_30 : decode cX1_init 30 = .ok (.invokespecial 17, 3) := by decide +kernel
theorem dX1_init_33 : decode cX1_init 33 = .ok (.aastore, 1) := by decide +kernel
theorem dX1_init_34 : decode cX1_init 34 = .ok (.iinc 1 1, 3) := by decide +kernel
theorem dX1_init_37 : decode cX1_init 37 = .ok (.goto (-22), 3) := by decide +kernel
theorem dX1_init_40 : decode cX1_init 40 = .ok (.return_, 1) := by decide +kernel
theorem dX1_prepare_0 : decode cX1_prepare 0 = .ok (.aload_n 0, 1) := by decide +kernel
theorem dX1_prepare_1 : decode cX1_prepare 1 = .ok (.getfield 11, 3) := by decide +kernel
theorem dX1_prepare_4 : decode cX1_prepare 4 = .ok (.aload_n 0, 1) := by decide +kernel
theorem dX1_prepare_5 : decode cX1_prepare 5 = .ok (.getfield 18, 3) := by decide +kernel
theorem dX1_prepare_8 : decode cX1_prepare 8 = .ok (.aaload, 1) := by decide +kernel
theorem dX1_prepare_9 : decode cX1_prepare 9 = .ok (.aload_n 1, 1) := by decide +kernel
theorem dX1_prepare_10 : decode cX1_prepare 10 = .ok (.invokevirtual 22, 3) := by decide +kernel
theorem dX1_prepare_13 : decode cX1_prepare 13 = .ok (.return_, 1) := by decide +kernel
theorem dX1_keepPrepared_0 : decode cX1_keepPrepared 0 = .ok (.aload_n 0, 1) := by decide +kernel
theorem dX1_keepPrepared_1 : decode cX1_keepPrepared 1 = .ok (.aload_n 0, 1) := by decide +kernel
theorem dX1_keepPrepared_2 : decode cX1_keepPrepared 2 = .ok (.getfield 18, 3) := by decide +kernel
theorem dX1_keepPrepared_5 : decode cX1_keepPrepared 5 = .ok (.bipush 6, 2) := by decide +kernel
theorem dX1_keepPrepared_7 : decode cX1_keepPrepared 7 = .ok (.if_icmp .ge 12, 3) := by decide +kernel
theorem dX1_keepPrepared_10 : decode cX1_keepPrepared 10 = .ok (.aload_n 0, 1) := by decide +kernel
theorem dX1_keepPrepared_11 : decode cX1_keepPrepared 11 = .ok (.getfield 18, 3) := by decide +kernel
theorem dX1_keepPrepared_14 : decode cX1_keepPrepared 14 = .ok (.iconst 1, 1) := by decide +kernel
theorem dX1_keepPrepared_15 : decode cX1_keepPrepared 15 = .ok (.iadd, 1) := by decide +kernel
theorem dX1_keepPrepared_16 : decode cX1_keepPrepared 16 = .ok (.goto 4, 3) := by decide +kernel
theorem dX1_keepPrepared_19 : decode cX1_keepPrepared 19 = .ok (.iconst 0, 1) := by decide +kernel
theorem dX1_keepPrepared_20 : decode cX1_keepPrepared 20 = .ok (.putfield 18, 3) := by decide +kernel
theorem dX1_keepPrepared_23 : decode cX1_keepPrepared 23 = .ok (.aload_n 0, 1) := by decide +kernel
theorem dX1_keepPrepared_24 : decode cX1_keepPrepared 24 = .ok (.aload_n 0, 1) := by decide +kernel
theorem dX1_keepPrepared_25 : decode cX1_keepPrepared 25 = .ok (.getfield 26, 3) := by decide +kernel
theorem dX1_keepPrepared_28 : decode cX1_keepPrepared 28 = .ok (.iconst 1, 1) := by decide +kernel
theorem dX1_keepPrepared_29 : decode cX1_keepPrepared 29 = .ok (.iadd, 1) := by decide +kernel
theorem dX1_keepPrepared_30 : decode cX1_keepPrepared 30 = .ok (.bipush 6, 2) := by decide +kernel
theorem dX1_keepPrepared_32 : decode cX1_keepPrepared 32 = .ok (.invokestatic 29, 3) := by decide +kernel
theorem dX1_keepPrepared_35 : decode cX1_keepPrepared 35 = .ok (.putfield 26, 3) := by decide +kernel
theorem dX1_keepPrepared_38 : decode cX1_keepPrepared 38 = .ok (.return_, 1) := by decide +kernel
theorem dX2_init_0 : decode cX2_init 0 = .ok (.aload_n 0, 1) := by decide +kernel
theorem dX2_init_1 : decode cX2_init 1 = .ok (.invokespecial 3, 3) := by decide +kernel
theorem dX2_init_4 : decode cX2_init 4 = .ok (.aload_n 0, 1) := by decide +kernel
theorem dX2_init_5 : decode cX2_init 5 = .ok (.bipush 80, 2) := by decide +kernel
theorem dX2_init_7 : decode cX2_init 7 = .ok (.newarray .char, 2) := by decide +kernel
theorem dX2_init_9 : decode cX2_init 9 = .ok (.putfield 9, 3) := by decide +kernel
theorem dX2_init_12 : decode cX2_init 12 = .ok (.return_, 1) := by decide +kernel
theorem dX3_init_0 : decode cX3_init 0 = .ok (.aload_n 0, 1) := by decide +kernel
theorem dX3_init_1 : decode cX3_init 1 = .ok (.invokespecial 3, 3) := by decide +kernel
theorem dX3_init_4 : decode cX3_init 4 = .ok (.aload_n 0, 1) := by decide +kernel
theorem dX3_init_5 : decode cX3_init 5 = .ok (.bipush 7, 2) := by decide +kernel
theorem dX3_init_7 : decode cX3_init 7 = .ok (.newarray .int, 2) := by decide +kernel
theorem dX3_init_9 : decode cX3_init 9 = .ok (.putfield 9, 3) := by decide +kernel
theorem dX3_init_12 : decode cX3_init 12 = .ok (.aload_n 0, 1) := by decide +kernel
theorem dX3_init_13 : decode cX3_init 13 = .ok (.iconst 4, 1) := by decide +kernel
theorem dX3_init_14 : decode cX3_init 14 = .ok (.anewarray 15, 3) := by decide +kernel
theorem dX3_init_17 : decode cX3_init 17 = .ok (.putfield 17, 3) := by decide +kernel
theorem dX3_init_20 : decode cX3_init 20 = .ok (.getstatic 21, 3) := by decide +kernel
theorem dX3_init_23 : decode cX3_init 23 = .ok (.iconst 0, 1) := by decide +kernel
theorem dX3_init_24 : decode cX3_init 24 = .ok (.aload_n 0, 1) := by decide +kernel
theorem dX3_init_25 : decode cX3_init 25 = .ok (.getfield 9, 3) := by decide +kernel
theorem dX3_init_28 : decode cX3_init 28 = .ok (.iconst 0, 1) := by decide +kernel
theorem dX3_init_29 : decode cX3_init 29 = .ok (.bipush 7, 2) := by decide +kernel
theorem dX3_init_31 : decode cX3_init 31 = .ok (.invokestatic 24, 3) := by decide +kernel
theorem dX3_init_34 : decode cX3_init 34 = .ok (.iconst 0, 1) := by decide +kernel
theorem dX3_init_35 : decode cX3_init 35 = .ok (.istore_n 1, 1) := by decide +kernel
theorem dX3_init_36 : decode cX3_init 36 = .ok (.iload_n 1, 1) := by decide +kernel
theorem dX3_init_37 : decode cX3_init 37 = .ok (.iconst 4, 1) := by decide +kernel
theorem dX3_init_38 : decode cX3_init 38 = .ok (.if_icmp .ge 22, 3) := by decide +kernel
theorem dX3_init_41 : decode cX3_init 41 = .ok (.aload_n 0, 1) := by decide +kernel
theorem dX3_init_42 : decode cX3_init 42 = .ok (.getfield 17, 3) := by decide +kernel
theorem dX3_init_45 : decode cX3_init 45 = .ok (.iload_n 1, 1) := by decide +kernel
theorem dX3_init_46 : decode cX3_init 46 = .ok (.new 15, 3) := by decide +kernel
theorem dX3_init_49 : decode cX3_init 49 = .ok (.dup, 1) := by decide +kernel
theorem dX3_init_50 : decode cX3_init 50 = .ok (.invokespecial 30, 3) := by decide +kernel
theorem dX3_init_53 : decode cX3_init 53 = .ok (.aastore, 1) := by decide +kernel
theorem dX3_init_54 : decode cX3_init 54 = .ok (.iinc 1 1, 3) := by decide +kernel
theorem dX3_init_57 : decode cX3_init 57 = .ok (.goto (-21), 3) := by decide +kernel
theorem dX3_init_60 : decode cX3_init 60 = .ok (.return_, 1) := by decide +kernel
theorem dX3_copyFrom_0 : decode cX3_copyFrom 0 = .ok (.aload_n 1, 1) := by decide +kernel
theorem dX3_copyFrom_1 : decode cX3_copyFrom 1 = .ok (.getfield 9, 3) := by decide +kernel
theorem dX3_copyFrom_4 : decode cX3_copyFrom 4 = .ok (.iconst 0, 1) := by decide +kernel
theorem dX3_copyFrom_5 : decode cX3_copyFrom 5 = .ok (.aload_n 0, 1) := by decide +kernel
theorem dX3_copyFrom_6 : decode cX3_copyFrom 6 = .ok (.getfield 9, 3) := by decide +kernel
theorem dX3_copyFrom_9 : decode cX3_copyFrom 9 = .ok (.iconst 0, 1) := by decide +kernel
theorem dX3_copyFrom_10 : decode cX3_copyFrom 10 = .ok (.bipush 7, 2) := by decide +kernel
theorem dX3_copyFrom_12 : decode cX3_copyFrom 12 = .ok (.invokestatic 24, 3) := by decide +kernel
theorem dX3_copyFrom_15 : decode cX3_copyFrom 15 = .ok (.iconst 0, 1) := by decide +kernel
theorem dX3_copyFrom_16 : decode cX3_copyFrom 16 = .ok (.istore_n 2, 1) := by decide +kernel
theorem dX3_copyFrom_17 : decode cX3_copyFrom 17 = .ok (.iload_n 2, 1) := by decide +kernel
theorem dX3_copyFrom_18 : decode cX3_copyFrom 18 = .ok (.iconst 4, 1) := by decide +kernel
theorem dX3_copyFrom_19 : decode cX3_copyFrom 19 = .ok (.if_icmp .ge 24, 3) := by decide +kernel
theorem dX3_copyFrom_22 : decode cX3_copyFrom 22 = .ok (.aload_n 0, 1) := by decide +kernel
theorem dX3_copyFrom_23 : decode cX3_copyFrom 23 = .ok (.getfield 17, 3) := by decide +kernel
theorem dX3_copyFrom_26 : decode cX3_copyFrom 26 = .ok (.iload_n 2, 1) := by decide +kernel
theorem dX3_copyFrom_27 : decode cX3_copyFrom 27 = .ok (.aaload, 1) := by decide +kernel
theorem dX3_copyFrom_28 : decode cX3_copyFrom 28 = .ok (.aload_n 1, 1) := by decide +kernel
theorem dX3_copyFrom_29 : decode cX3_copyFrom 29 = .ok (.getfield 17, 3) := by decide +kernel
theorem dX3_copyFrom_32 : decode cX3_copyFrom 32 = .ok (.iload_n 2, 1) := by decide +kernel
theorem dX3_copyFrom_33 : decode cX3_copyFrom 33 = .ok (.aaload, 1) := by decide +kernel
theorem dX3_copyFrom_34 : decode cX3_copyFrom 34 = .ok (.invokevirtual 31, 3) := by decide +kernel
theorem dX3_copyFrom_37 : decode cX3_copyFrom 37 = .ok (.iinc 2 1, 3) := by decide +kernel
theorem dX3_copyFrom_40 : decode cX3_copyFrom 40 = .ok (.goto (-23), 3) := by decide +kernel
theorem dX3_copyFrom_43 : decode cX3_copyFrom 43 = .ok (.aload_n 0, 1) := by decide +kernel
theorem dX3_copyFrom_44 : decode cX3_copyFrom 44 = .ok (.aload_n 1, 1) := by decide +kernel
theorem dX3_copyFrom_45 : decode cX3_copyFrom 45 = .ok (.getfield 35, 3) := by decide +kernel
theorem dX3_copyFrom_48 : decode cX3_copyFrom 48 = .ok (.putfield 35, 3) := by decide +kernel
theorem dX3_copyFrom_51 : decode cX3_copyFrom 51 = .ok (.aload_n 0, 1) := by decide +kernel
theorem dX3_copyFrom_52 : decode cX3_copyFrom 52 = .ok (.aload_n 1, 1) := by decide +kernel
theorem dX3_copyFrom_53 : decode cX3_copyFrom 53 = .ok (.getfield 39, 3) := by decide +kernel
theorem dX3_copyFrom_56 : decode cX3_copyFrom 56 = .ok (.putfield 39, 3) := by decide +kernel
theorem dX3_copyFrom_59 : decode cX3_copyFrom 59 = .ok (.aload_n 0, 1) := by decide +kernel
theorem dX3_copyFrom_60 : decode cX3_copyFrom 60 = .ok (.aload_n 1, 1) := by decide +kernel
theorem dX3_copyFrom_61 : decode cX3_copyFrom 61 = .ok (.getfield 42, 3) := by decide +kernel
theorem dX3_copyFrom_64 : decode cX3_copyFrom 64 = .ok (.putfield 42, 3) := by decide +kernel
theorem dX3_copyFrom_67 : decode cX3_copyFrom 67 = .ok (.aload_n 0, 1) := by decide +kernel
theorem dX3_copyFrom_68 : decode cX3_copyFrom 68 = .ok (.aload_n 1, 1) := by decide +kernel
theorem dX3_copyFrom_69 : decode cX3_copyFrom 69 = .ok (.getfield 45, 3) := by decide +kernel
theorem dX3_copyFrom_72 : decode cX3_copyFrom 72 = .ok (.putfield 45, 3) := by decide +kernel
theorem dX3_copyFrom_75 : decode cX3_copyFrom 75 = .ok (.aload_n 0, 1) := by decide +kernel
theorem dX3_copyFrom_76 : decode cX3_copyFrom 76 = .ok (.aload_n 1, 1) := by decide +kernel
theorem dX3_copyFrom_77 : decode cX3_copyFrom 77 = .ok (.getfield 48, 3) := by decide +kernel
theorem dX3_copyFrom_80 : decode cX3_copyFrom 80 = .ok (.putfield 48, 3) := by decide +kernel
theorem dX3_copyFrom_83 : decode cX3_copyFrom 83 = .ok (.return_, 1) := by decide +kernel
theorem dX3_hourOfNow_0 : decode cX3_hourOfNow 0 = .ok (.aload_n 0, 1) := by decide +kernel
theorem dX3_hourOfNow_1 : decode cX3_hourOfNow 1 = .ok (.getfield 35, 3) := by decide +kernel
theorem dX3_hourOfNow_4 : decode cX3_hourOfNow 4 = .ok (.bipush 60, 2) := by decide +kernel
theorem dX3_hourOfNow_6 : decode cX3_hourOfNow 6 = .ok (.idiv, 1) := by decide +kernel
theorem dX3_hourOfNow_7 : decode cX3_hourOfNow 7 = .ok (.ireturn, 1) := by decide +kernel
theorem dX3_changeSetting_0 : decode cX3_changeSetting 0 = .ok (.iload_n 1, 1) := by decide +kernel
theorem dX3_changeSetting_1 : decode cX3_changeSetting 1 = .ok (.ifCond .lt 9, 3) := by decide +kernel
theorem dX3_changeSetting_4 : decode cX3_changeSetting 4 = .ok (.iload_n 1, 1) := by decide +kernel
theorem dX3_changeSetting_5 : decode cX3_changeSetting 5 = .ok (.bipush 7, 2) := by decide +kernel
theorem dX3_changeSetting_7 : decode cX3_changeSetting 7 = .ok (.if_icmp .lt 6, 3) := by decide +kernel
theorem dX3_changeSetting_10 : decode cX3_changeSetting 10 = .ok (.bipush (-2), 2) := by decide +kernel
theorem dX3_changeSetting_12 : decode cX3_changeSetting 12 = .ok (.ireturn, 1) := by decide +kernel
theorem dX3_changeSetting_13 : decode cX3_changeSetting 13 = .ok (.iload_n 2, 1) := by decide +kernel
theorem dX3_changeSetting_14 : decode cX3_changeSetting 14 = .ok (.getstatic 51, 3) := by decide +kernel
theorem dX3_changeSetting_17 : decode cX3_changeSetting 17 = .ok (.iload_n 1, 1) := by decide +kernel
theorem dX3_changeSetting_18 : decode cX3_changeSetting 18 = .ok (.iaload, 1) := by decide +kernel
theorem dX3_changeSetting_19 : decode cX3_changeSetting 19 = .ok (.if_icmp .lt 12, 3) := by decide +kernel
theorem dX3_changeSetting_22 : decode cX3_changeSetting 22 = .ok (.iload_n 2, 1) := by decide +kernel
theorem dX3_changeSetting_23 : decode cX3_changeSetting 23 = .ok (.getstatic 54, 3) := by decide +kernel
theorem dX3_changeSetting_26 : decode cX3_changeSetting 26 = .ok (.iload_n 1, 1) := by decide +kernel
theorem dX3_changeSetting_27 : decode cX3_changeSetting 27 = .ok (.iaload, 1) := by decide +kernel
theorem dX3_changeSetting_28 : decode cX3_changeSetting 28 = .ok (.if_icmp .le 6, 3) := by decide +kernel
theorem dX3_changeSetting_31 : decode cX3_changeSetting 31 = .ok (.bipush (-2), 2) := by decide +kernel
theorem dX3_changeSetting_33 : decode cX3_changeSetting 33 = .ok (.ireturn, 1) := by decide +kernel
theorem dX3_changeSetting_34 : decode cX3_changeSetting 34 = .ok (.aload_n 0, 1) := by decide +kernel
theorem dX3_changeSetting_35 : decode cX3_changeSetting 35 = .ok (.getfield 9, 3) := by decide +kernel
theorem dX3_changeSetting_38 : decode cX3_changeSetting 38 = .ok (.iload_n 1, 1) := by decide +kernel
theorem dX3_changeSetting_39 : decode cX3_changeSetting 39 = .ok (.iaload, 1) := by decide +kernel
theorem dX3_changeSetting_40 : decode cX3_changeSetting 40 = .ok (.istore_n 3, 1) := by decide +kernel
theorem dX3_changeSetting_41 : decode cX3_changeSetting 41 = .ok (.aload_n 0, 1) := by decide +kernel
theorem dX3_changeSetting_42 : decode cX3_changeSetting 42 = .ok (.getfield 9, 3) := by decide +kernel
theorem dX3_changeSetting_45 : decode cX3_changeSetting 45 = .ok (.iload_n 1, 1) := by decide +kernel
theorem dX3_changeSetting_46 : decode cX3_changeSetting 46 = .ok (.iload_n 2, 1) := by decide +kernel
theorem dX3_changeSetting_47 : decode cX3_changeSetting 47 = .ok (.iastore, 1) := by decide +kernel
theorem dX3_changeSetting_48 : decode cX3_changeSetting 48 = .ok (.iload_n 3, 1) := by decide +kernel
theorem dX3_changeSetting_49 : decode cX3_changeSetting 49 = .ok (.ireturn, 1) := by decide +kernel
theorem dX3_changeStream_0 : decode cX3_changeStream 0 = .ok (.iload_n 1, 1) := by decide +kernel
theorem dX3_changeStream_1 : decode cX3_changeStream 1 = .ok (.invokestatic 57, 3) := by decide +kernel
theorem dX3_changeStream_4 : decode cX3_changeStream 4 = .ok (.ifCond .ne 5, 3) := by decide +kernel
theorem dX3_changeStream_7 : decode cX3_changeStream 7 = .ok (.iconst (-1), 1) := by decide +kernel
theorem dX3_changeStream_8 : decode cX3_changeStream 8 = .ok (.ireturn, 1) := by decide +kernel
theorem dX3_changeStream_9 : decode cX3_changeStream 9 = .ok (.iload_n 2, 1) := by decide +kernel
theorem dX3_changeStream_10 : decode cX3_changeStream 10 = .ok (.iconst 1, 1) := by decide +kernel
theorem dX3_changeStream_11 : decode cX3_changeStream 11 = .ok (.if_icmp .lt 19, 3) := by decide +kernel
theorem dX3_changeStream_14 : decode cX3_changeStream 14 = .ok (.iload_n 2, 1) := by decide +kernel
theorem dX3_changeStream_15 : decode cX3_changeStream 15 = .ok (.bipush 60, 2) := by decide +kernel
theorem dX3_changeStream_17 : decode cX3_changeStream 17 = .ok (.if_icmp .gt 13, 3) := by decide +kernel
theorem dX3_changeStream_20 : decode cX3_changeStream 20 = .ok (.iload_n 3, 1) := by decide +kernel
theorem dX3_changeStream_21 : decode cX3_changeStream 21 = .ok (.ifCond .lt 9, 3) := by decide +kernel
theorem dX3_changeStream_24 : decode cX3_changeStream 24 = .ok (.iload_n 3, 1) := by decide +kernel
theorem dX3_changeStream_25 : decode cX3_changeStream 25 = .ok (.bipush 20, 2) := by decide +kernel
theorem dX3_changeStream_27 : decode cX3_changeStream 27 = .ok (.if_icmp .le 6, 3) := by decide +kernel
theorem dX3_changeStream_30 : decode cX3_changeStream 30 = .ok (.bipush (-2), 2) := by decide +kernel
theorem dX3_changeStream_32 : decode cX3_changeStream 32 = .ok (.ireturn, 1) := by decide +kernel
theorem dX3_changeStream_33 : decode cX3_changeStream 33 = .ok (.aload_n 0, 1) := by decide +kernel
theorem dX3_changeStream_34 : decode cX3_changeStream 34 = .ok (.getfield 17, 3) := by decide +kernel
theorem dX3_changeStream_37 : decode cX3_changeStream 37 = .ok (.iload_n 1, 1) := by decide +kernel
theorem dX3_changeStream_38 : decode cX3_changeStream 38 = .ok (.aaload, 1) := by decide +kernel
theorem dX3_changeStream_39 : decode cX3_changeStream 39 = .ok (.getfield 61, 3) := by decide +kernel
theorem dX3_changeStream_42 : decode cX3_changeStream 42 = .ok (.istore 4, 2) := by decide +kernel
theorem dX3_changeStream_44 : decode cX3_changeStream 44 = .ok (.aload_n 0, 1) := by decide +kernel
theorem dX3_changeStream_45 : decode cX3_changeStream 45 = .ok (.getfield 17, 3) := by decide +kernel
theorem dX3_changeStream_48 : decode cX3_changeStream 48 = .ok (.iload_n 1, 1) := by decide +kernel
theorem dX3_changeStream_49 : decode cX3_changeStream 49 = .ok (.aaload, 1) := by decide +kernel
theorem dX3_changeStream_50 : decode cX3_changeStream 50 = .ok (.iload_n 2, 1) := by decide +kernel
theorem dX3_changeStream_51 : decode cX3_changeStream 51 = .ok (.putfield 64, 3) := by decide +kernel
theorem dX3_changeStream_54 : decode cX3_changeStream 54 = .ok (.aload_n 0, 1) := by decide +kernel
theorem dX3_changeStream_55 : decode cX3_changeStream 55 = .ok (.getfield 17, 3) := by decide +kernel
theorem dX3_changeStream_58 : decode cX3_changeStream 58 = .ok (.iload_n 1, 1) := by decide +kernel
theorem dX3_changeStream_59 : decode cX3_changeStream 59 = .ok (.aaload, 1) := by decide +kernel
theorem dX3_changeStream_60 : decode cX3_changeStream 60 = .ok (.iload_n 3, 1) := by decide +kernel
theorem dX3_changeStream_61 : decode cX3_changeStream 61 = .ok (.putfield 61, 3) := by decide +kernel
theorem dX3_changeStream_64 : decode cX3_changeStream 64 = .ok (.iload 4, 2) := by decide +kernel
theorem dX3_changeStream_66 : decode cX3_changeStream 66 = .ok (.ireturn, 1) := by decide +kernel
theorem dX3_bringUnits_0 : decode cX3_bringUnits 0 = .ok (.iload_n 1, 1) := by decide +kernel
theorem dX3_bringUnits_1 : decode cX3_bringUnits 1 = .ok (.invokestatic 57, 3) := by decide +kernel
theorem dX3_bringUnits_4 : decode cX3_bringUnits 4 = .ok (.ifCond .ne 5, 3) := by decide +kernel
theorem dX3_bringUnits_7 : decode cX3_bringUnits 7 = .ok (.iconst (-1), 1) := by decide +kernel
theorem dX3_bringUnits_8 : decode cX3_bringUnits 8 = .ok (.ireturn, 1) := by decide +kernel
theorem dX3_bringUnits_9 : decode cX3_bringUnits 9 = .ok (.iload_n 2, 1) := by decide +kernel
theorem dX3_bringUnits_10 : decode cX3_bringUnits 10 = .ok (.iconst 1, 1) := by decide +kernel
theorem dX3_bringUnits_11 : decode cX3_bringUnits 11 = .ok (.if_icmp .lt 10, 3) := by decide +kernel
theorem dX3_bringUnits_14 : decode cX3_bringUnits 14 = .ok (.iload_n 2, 1) := by decide +kernel
theorem dX3_bringUnits_15 : decode cX3_bringUnits 15 = .ok (.sipush 200, 3) := by decide +kernel
theorem dX3_bringUnits_18 : decode cX3_bringUnits 18 = .ok (.if_icmp .le 6, 3) := by decide +kernel
theorem dX3_bringUnits_21 : decode cX3_bringUnits 21 = .ok (.bipush (-2), 2) := by decide +kernel
theorem dX3_bringUnits_23 : decode cX3_bringUnits 23 = .ok (.ireturn, 1) := by decide +kernel
theorem dX3_bringUnits_24 : decode cX3_bringUnits 24 = .ok (.aload_n 0, 1) := by decide +kernel
theorem dX3_bringUnits_25 : decode cX3_bringUnits 25 = .ok (.getfield 17, 3) := by decide +kernel
theorem dX3_bringUnits_28 : decode cX3_bringUnits 28 = .ok (.iload_n 1, 1) := by decide +kernel
theorem dX3_bringUnits_29 : decode cX3_bringUnits 29 = .ok (.aaload, 1) := by decide +kernel
theorem dX3_bringUnits_30 : decode cX3_bringUnits 30 = .ok (.getfield 67, 3) := by decide +kernel
theorem dX3_bringUnits_33 : decode cX3_bringUnits 33 = .ok (.sipush 9999, 3) := by decide +kernel
theorem dX3_bringUnits_36 : decode cX3_bringUnits 36 = .ok (.iload_n 2, 1) := by decide +kernel
theorem dX3_bringUnits_37 : decode cX3_bringUnits 37 = .ok (.isub, 1) := by decide +kernel
theorem dX3_bringUnits_38 : decode cX3_bringUnits 38 = .ok (.if_icmp .le 6, 3) := by decide +kernel
theorem dX3_bringUnits_41 : decode cX3_bringUnits 41 = .ok (.bipush (-4), 2) := by decide +kernel
theorem dX3_bringUnits_43 : decode cX3_bringUnits 43 = .ok (.ireturn, 1) := by decide +kernel
theorem dX3_bringUnits_44 : decode cX3_bringUnits 44 = .ok (.aload_n 0, 1) := by decide +kernel
theorem dX3_bringUnits_45 : decode cX3_bringUnits 45 = .ok (.getfield 17, 3) := by decide +kernel
theorem dX3_bringUnits_48 : decode cX3_bringUnits 48 = .ok (.iload_n 1, 1) := by decide +kernel
theorem dX3_bringUnits_49 : decode cX3_bringUnits 49 = .ok (.aaload, 1) := by decide +kernel
theorem dX3_bringUnits_50 : decode cX3_bringUnits 50 = .ok (.dup, 1) := by decide +kernel
theorem dX3_bringUnits_51 : decode cX3_bringUnits 51 = .ok (.getfield 67, 3) := by decide +kernel
theorem dX3_bringUnits_54 : decode cX3_bringUnits 54 = .ok (.iload_n 2, 1) := by decide +kernel
theorem dX3_bringUnits_55 : decode cX3_bringUnits 55 = .ok (.iadd, 1) := by decide +kernel
theorem dX3_bringUnits_56 : decode cX3_bringUnits 56 = .ok (.putfield 67, 3) := by decide +kernel
theorem dX3_bringUnits_59 : decode cX3_bringUnits 59 = .ok (.aload_n 0, 1) := by decide +kernel
theorem dX3_bringUnits_60 : decode cX3_bringUnits 60 = .ok (.getfield 17, 3) := by decide +kernel
theorem dX3_bringUnits_63 : decode cX3_bringUnits 63 = .ok (.iload_n 1, 1) := by decide +kernel
theorem dX3_bringUnits_64 : decode cX3_bringUnits 64 = .ok (.aaload, 1) := by decide +kernel
theorem dX3_bringUnits_65 : decode cX3_bringUnits 65 = .ok (.getfield 67, 3) := by decide +kernel
theorem dX3_bringUnits_68 : decode cX3_bringUnits 68 = .ok (.ireturn, 1) := by decide +kernel
theorem dX3_sellHour_0 : decode cX3_sellHour 0 = .ok (.aload_n 0, 1) := by decide +kernel
theorem dX3_sellHour_1 : decode cX3_sellHour 1 = .ok (.iload_n 1, 1) := by decide +kernel
theorem dX3_sellHour_2 : decode cX3_sellHour 2 = .ok (.iload_n 2, 1) := by decide +kernel
theorem dX3_sellHour_3 : decode cX3_sellHour 3 = .ok (.iconst 0, 1) := by decide +kernel
theorem dX3_sellHour_4 : decode cX3_sellHour 4 = .ok (.iconst 1, 1) := by decide +kernel
theorem dX3_sellHour_5 : decode cX3_sellHour 5 = .ok (.invokevirtual 70, 3) := by decide +kernel
theorem dX3_sellHour_8 : decode cX3_sellHour 8 = .ok (.ireturn, 1) := by decide +kernel
theorem dX3_takeHourBack_0 : decode cX3_takeHourBack 0 = .ok (.aload_n 0, 1) := by decide +kernel
theorem dX3_takeHourBack_1 : decode cX3_takeHourBack 1 = .ok (.iload_n 1, 1) := by decide +kernel
theorem dX3_takeHourBack_2 : decode cX3_takeHourBack 2 = .ok (.iload_n 2, 1) := by decide +kernel
theorem dX3_takeHourBack_3 : decode cX3_takeHourBack 3 = .ok (.iconst 1, 1) := by decide +kernel
theorem dX3_takeHourBack_4 : decode cX3_takeHourBack 4 = .ok (.iconst 0, 1) := by decide +kernel
theorem dX3_takeHourBack_5 : decode cX3_takeHourBack 5 = .ok (.invokevirtual 70, 3) := by decide +kernel
theorem dX3_takeHourBack_8 : decode cX3_takeHourBack 8 = .ok (.ireturn, 1) := by decide +kernel
theorem dX3_changeHour_0 : decode cX3_changeHour 0 = .ok (.iload_n 1, 1) := by decide +kernel
theorem dX3_changeHour_1 : decode cX3_changeHour 1 = .ok (.invokestatic 57, 3) := by decide +kernel
theorem dX3_changeHour_4 : decode cX3_changeHour 4 = .ok (.ifCond .ne 5, 3) := by decide +kernel
theorem dX3_changeHour_7 : decode cX3_changeHour 7 = .ok (.iconst (-1), 1) := by decide +kernel
theorem dX3_changeHour_8 : decode cX3_changeHour 8 = .ok (.ireturn, 1) := by decide +kernel
theorem dX3_changeHour_9 : decode cX3_changeHour 9 = .ok (.iload_n 2, 1) := by decide +kernel
theorem dX3_changeHour_10 : decode cX3_changeHour 10 = .ok (.invokestatic 74, 3) := by decide +kernel
theorem dX3_changeHour_13 : decode cX3_changeHour 13 = .ok (.ifCond .ne 6, 3) := by decide +kernel
theorem dX3_changeHour_16 : decode cX3_changeHour 16 = .ok (.bipush (-2), 2) := by decide +kernel
theorem dX3_changeHour_18 : decode cX3_changeHour 18 = .ok (.ireturn, 1) := by decide +kernel
theorem dX3_changeHour_19 : decode cX3_changeHour 19 = .ok (.iload_n 2, 1) := by decide +kernel
theorem dX3_changeHour_20 : decode cX3_changeHour 20 = .ok (.aload_n 0, 1) := by decide +kernel
theorem dX3_changeHour_21 : decode cX3_changeHour 21 = .ok (.invokevirtual 77, 3) := by decide +kernel
theorem dX3_changeHour_24 : decode cX3_changeHour 24 = .ok (.if_icmp .le 17, 3) := by decide +kernel
theorem dX3_changeHour_27 : decode cX3_changeHour 27 = .ok (.aload_n 0, 1) := by decide +kernel
theorem dX3_changeHour_28 : decode cX3_changeHour 28 = .ok (.getfield 17, 3) := by decide +kernel
theorem dX3_changeHour_31 : decode cX3_changeHour 31 = .ok (.iload_n 1, 1) := by decide +kernel
theorem dX3_changeHour_32 : decode cX3_changeHour 32 = .ok (.aaload, 1) := by decide +kernel
theorem dX3_changeHour_33 : decode cX3_changeHour 33 = .ok (.iload_n 2, 1) := by decide +kernel
theorem dX3_changeHour_34 : decode cX3_changeHour 34 = .ok (.invokevirtual 81, 3) := by decide +kernel
theorem dX3_changeHour_37 : decode cX3_changeHour 37 = .ok (.iload_n 3, 1) := by decide +kernel
theorem dX3_changeHour_38 : decode cX3_changeHour 38 = .ok (.if_icmp .eq 6, 3) := by decide +kernel
theorem dX3_changeHour_41 : decode cX3_changeHour 41 = .ok (.bipush (-5), 2) := by decide +kernel
theorem dX3_changeHour_43 : decode cX3_changeHour 43 = .ok (.ireturn, 1) := by decide +kernel
theorem dX3_changeHour_44 : decode cX3_changeHour 44 = .ok (.aload_n 0, 1) := by decide +kernel
theorem dX3_changeHour_45 : decode cX3_changeHour 45 = .ok (.getfield 17, 3) := by decide +kernel
theorem dX3_changeHour_48 : decode cX3_changeHour 48 = .ok (.iload_n 1, 1) := by decide +kernel
theorem dX3_changeHour_49 : decode cX3_changeHour 49 = .ok (.aaload, 1) := by decide +kernel
theorem dX3_changeHour_50 : decode cX3_changeHour 50 = .ok (.iload_n 2, 1) := by decide +kernel
theorem dX3_changeHour_51 : decode cX3_changeHour 51 = .ok (.iload 4, 2) := by decide +kernel
theorem dX3_changeHour_53 : decode cX3_changeHour 53 = .ok (.invokevirtual 85, 3) := by decide +kernel
theorem dX3_changeHour_56 : decode cX3_changeHour 56 = .ok (.aload_n 0, 1) := by decide +kernel
theorem dX3_changeHour_57 : decode cX3_changeHour 57 = .ok (.getfield 17, 3) := by decide +kernel
theorem dX3_changeHour_60 : decode cX3_changeHour 60 = .ok (.iload_n 1, 1) := by decide +kernel
theorem dX3_changeHour_61 : decode cX3_changeHour 61 = .ok (.aaload, 1) := by decide +kernel
theorem dX3_changeHour_62 : decode cX3_changeHour 62 = .ok (.invokevirtual 89, 3) := by decide +kernel
theorem dX3_changeHour_65 : decode cX3_changeHour 65 = .ok (.ireturn, 1) := by decide +kernel
theorem dX3_passMinutes_0 : decode cX3_passMinutes 0 = .ok (.iload_n 1, 1) := by decide +kernel
theorem dX3_passMinutes_1 : decode cX3_passMinutes 1 = .ok (.invokestatic 92, 3) := by decide +kernel
theorem dX3_passMinutes_4 : decode cX3_passMinutes 4 = .ok (.ifCond .ne 6, 3) := by decide +kernel
theorem dX3_passMinutes_7 : decode cX3_passMinutes 7 = .ok (.bipush (-2), 2) := by decide +kernel
theorem dX3_passMinutes_9 : decode cX3_passMinutes 9 = .ok (.ireturn, 1) := by decide +kernel
theorem dX3_passMinutes_10 : decode cX3_passMinutes 10 = .ok (.iconst 0, 1) := by decide +kernel
theorem dX3_passMinutes_11 : decode cX3_passMinutes 11 = .ok (.istore_n 2, 1) := by decide +kernel
theorem dX3_passMinutes_12 : decode cX3_passMinutes 12 = .ok (.iload_n 2, 1) := by decide +kernel
theorem dX3_passMinutes_13 : decode cX3_passMinutes 13 = .ok (.iload_n 1, 1) := by decide +kernel
theorem dX3_passMinutes_14 : decode cX3_passMinutes 14 = .ok (.if_icmp .ge 14, 3) := by decide +kernel
theorem dX3_passMinutes_17 : decode cX3_passMinutes 17 = .ok (.aload_n 0, 1) := by decide +kernel
theorem dX3_passMinutes_18 : decode cX3_passMinutes 18 = .ok (.invokevirtual 95, 3) := by decide +kernel
theorem dX3_passMinutes_21 : decode cX3_passMinutes 21 = .ok (.pop, 1) := by decide +kernel
theorem dX3_passMinutes_22 : decode cX3_passMinutes 22 = .ok (.iinc 2 1, 3) := by decide +kernel
theorem dX3_passMinutes_25 : decode cX3_passMinutes 25 = .ok (.goto (-13), 3) := by decide +kernel
theorem dX3_passMinutes_28 : decode cX3_passMinutes 28 = .ok (.aload_n 0, 1) := by decide +kernel
theorem dX3_passMinutes_29 : decode cX3_passMinutes 29 = .ok (.getfield 35, 3) := by decide +kernel
theorem dX3_passMinutes_32 : decode cX3_passMinutes 32 = .ok (.ireturn, 1) := by decide +kernel
theorem dX3_passOneMinute_0 : decode cX3_passOneMinute 0 = .ok (.iconst 0, 1) := by decide +kernel
theorem dX3_passOneMinute_1 : decode cX3_passOneMinute 1 = .ok (.istore_n 1, 1) := by decide +kernel
theorem dX3_passOneMinute_2 : decode cX3_passOneMinute 2 = .ok (.iconst 0, 1) := by decide +kernel
theorem dX3_passOneMinute_3 : decode cX3_passOneMinute 3 = .ok (.istore_n 2, 1) := by decide +kernel
theorem dX3_passOneMinute_4 : decode cX3_passOneMinute 4 = .ok (.iload_n 2, 1) := by decide +kernel
theorem dX3_passOneMinute_5 : decode cX3_passOneMinute 5 = .ok (.iconst 4, 1) := by decide +kernel
theorem dX3_passOneMinute_6 : decode cX3_passOneMinute 6 = .ok (.if_icmp .ge 33, 3) := by decide +kernel
theorem dX3_passOneMinute_9 : decode cX3_passOneMinute 9 = .ok (.aload_n 0, 1) := by decide +kernel
theorem dX3_passOneMinute_10 : decode cX3_passOneMinute 10 = .ok (.aload_n 0, 1) := by decide +kernel
theorem dX3_passOneMinute_11 : decode cX3_passOneMinute 11 = .ok (.getfield 17, 3) := by decide +kernel
theorem dX3_passOneMinute_14 : decode cX3_passOneMinute 14 = .ok (.iload_n 2, 1) := by decide +kernel
theorem dX3_passOneMinute_15 : decode cX3_passOneMinute 15 = .ok (.aaload, 1) := by decide +kernel
theorem dX3_passOneMinute_16 : decode cX3_passOneMinute 16 = .ok (.aload_n 0, 1) := by decide +kernel
theorem dX3_passOneMinute_17 : decode cX3_passOneMinute 17 = .ok (.getfield 17, 3) := by decide +kernel
theorem dX3_passOneMinute_20 : decode cX3_passOneMinute 20 = .ok (.iload_n 2, 1) := by decide +kernel
theorem dX3_passOneMinute_21 : decode cX3_passOneMinute 21 = .ok (.invokestatic 99, 3) := by decide +kernel
theorem dX3_passOneMinute_24 : decode cX3_passOneMinute 24 = .ok (.aaload, 1) := by decide +kernel
theorem dX3_passOneMinute_25 : decode cX3_passOneMinute 25 = .ok (.invokevirtual 102, 3) := by decide +kernel
theorem dX3_passOneMinute_28 : decode cX3_passOneMinute 28 = .ok (.ifCond .eq 5, 3) := by decide +kernel
theorem dX3_passOneMinute_31 : decode cX3_passOneMinute 31 = .ok (.iconst 1, 1) := by decide +kernel
theorem dX3_passOneMinute_32 : decode cX3_passOneMinute 32 = .ok (.istore_n 1, 1) := by decide +kernel
theorem dX3_passOneMinute_33 : decode cX3_passOneMinute 33 = .ok (.iinc 2 1, 3) := by decide +kernel
theorem dX3_passOneMinute_36 : decode cX3_passOneMinute 36 = .ok (.goto (-32), 3) := by decide +kernel
theorem dX3_passOneMinute_39 : decode cX3_passOneMinute 39 = .ok (.aload_n 0, 1) := by decide +kernel
theorem dX3_passOneMinute_40 : decode cX3_passOneMinute 40 = .ok (.dup, 1) := by decide +kernel
theorem dX3_passOneMinute_41 : decode cX3_passOneMinute 41 = .ok (.getfield 35, 3) := by decide +kernel
theorem dX3_passOneMinute_44 : decode cX3_passOneMinute 44 = .ok (.iconst 1, 1) := by decide +kernel
theorem dX3_passOneMinute_45 : decode cX3_passOneMinute 45 = .ok (.iadd, 1) := by decide +kernel
theorem dX3_passOneMinute_46 : decode cX3_passOneMinute 46 = .ok (.putfield 35, 3) := by decide +kernel
theorem dX3_passOneMinute_49 : decode cX3_passOneMinute 49 = .ok (.iload_n 1, 1) := by decide +kernel
theorem dX3_passOneMinute_50 : decode cX3_passOneMinute 50 = .ok (.ireturn, 1) := by decide +kernel
theorem dX3_passMinuteOf_0 : decode cX3_passMinuteOf 0 = .ok (.aload_n 0, 1) := by decide +kernel
theorem dX3_passMinuteOf_1 : decode cX3_passMinuteOf 1 = .ok (.invokevirtual 77, 3) := by decide +kernel
theorem dX3_passMinuteOf_4 : decode cX3_passMinuteOf 4 = .ok (.istore_n 3, 1) := by decide +kernel
theorem dX3_passMinuteOf_5 : decode cX3_passMinuteOf 5 = .ok (.aload_n 1, 1) := by decide +kernel
theorem dX3_passMinuteOf_6 : decode cX3_passMinuteOf 6 = .ok (.iload_n 3, 1) := by decide +kernel
theorem dX3_passMinuteOf_7 : decode cX3_passMinuteOf 7 = .ok (.invokevirtual 106, 3) := by decide +kernel
theorem dX3_passMinuteOf_10 : decode cX3_passMinuteOf 10 = .ok (.istore 4, 2) := by decide +kernel
theorem dX3_passMinuteOf_12 : decode cX3_passMinuteOf 12 = .ok (.aload_n 0, 1) := by decide +kernel
theorem dX3_passMinuteOf_13 : decode cX3_passMinuteOf 13 = .ok (.getfield 35, 3) := by decide +kernel
theorem dX3_passMinuteOf_16 : decode cX3_passMinuteOf 16 = .ok (.bipush 60, 2) := by decide +kernel
theorem dX3_passMinuteOf_18 : decode cX3_passMinuteOf 18 = .ok (.irem, 1) := by decide +kernel
theorem dX3_passMinuteOf_19 : decode cX3_passMinuteOf 19 = .ok (.ifCond .ne 11, 3) := by decide +kernel
theorem dX3_passMinuteOf_22 : decode cX3_passMinuteOf 22 = .ok (.aload_n 0, 1) := by decide +kernel
theorem dX3_passMinuteOf_23 : decode cX3_passMinuteOf 23 = .ok (.aload_n 1, 1) := by decide +kernel
theorem dX3_passMinuteOf_24 : decode cX3_passMinuteOf 24 = .ok (.iload_n 3, 1) := by decide +kernel
theorem dX3_passMinuteOf_25 : decode cX3_passMinuteOf 25 = .ok (.iload 4, 2) := by decide +kernel
theorem dX3_passMinuteOf_27 : decode cX3_passMinuteOf 27 = .ok (.invokevirtual 109, 3) := by decide +kernel
theorem dX3_passMinuteOf_30 : decode cX3_passMinuteOf 30 = .ok (.aload_n 1, 1) := by decide +kernel
theorem dX3_passMinuteOf_31 : decode cX3_passMinuteOf 31 = .ok (.aload_n 0, 1) := by decide +kernel
theorem dX3_passMinuteOf_32 : decode cX3_passMinuteOf 32 = .ok (.getfield 35, 3) := by decide +kernel
theorem dX3_passMinuteOf_35 : decode cX3_passMinuteOf 35 = .ok (.invokevirtual 113, 3) := by decide +kernel
theorem dX3_passMinuteOf_38 : decode cX3_passMinuteOf 38 = .ok (.iload 4, 2) := by decide +kernel
theorem dX3_passMinuteOf_40 : decode cX3_passMinuteOf 40 = .ok (.ifCond .ne 8, 3) := by decide +kernel
theorem dX3_passMinuteOf_43 : decode cX3_passMinuteOf 43 = .ok (.aload_n 1, 1) := by decide +kernel
theorem dX3_passMinuteOf_44 : decode cX3_passMinuteOf 44 = .ok (.aload_n 2, 1) := by decide +kernel
theorem dX3_passMinuteOf_45 : decode cX3_passMinuteOf 45 = .ok (.invokevirtual 117, 3) := by decide +kernel
theorem dX3_passMinuteOf_48 : decode cX3_passMinuteOf 48 = .ok (.aload_n 1, 1) := by decide +kernel
theorem dX3_passMinuteOf_49 : decode cX3_passMinuteOf 49 = .ok (.invokevirtual 120, 3) := by decide +kernel
theorem dX3_passMinuteOf_52 : decode cX3_passMinuteOf 52 = .ok (.iload 4, 2) := by decide +kernel
theorem dX3_passMinuteOf_54 : decode cX3_passMinuteOf 54 = .ok (.ifCond .eq 23, 3) := by decide +kernel
theorem dX3_passMinuteOf_57 : decode cX3_passMinuteOf 57 = .ok (.aload_n 2, 1) := by decide +kernel
theorem dX3_passMinuteOf_58 : decode cX3_passMinuteOf 58 = .ok (.iload_n 3, 1) := by decide +kernel
theorem dX3_passMinuteOf_59 : decode cX3_passMinuteOf 59 = .ok (.invokevirtual 106, 3) := by decide +kernel
theorem dX3_passMinuteOf_62 : decode cX3_passMinuteOf 62 = .ok (.ifCond .ne 15, 3) := by decide +kernel
theorem dX3_passMinuteOf_65 : decode cX3_passMinuteOf 65 = .ok (.aload_n 1, 1) := by decide +kernel
theorem dX3_passMinuteOf_66 : decode cX3_passMinuteOf 66 = .ok (.aload_n 2, 1) := by decide +kernel
theorem dX3_passMinuteOf_67 : decode cX3_passMinuteOf 67 = .ok (.aload_n 0, 1) := by decide +kernel
theorem dX3_passMinuteOf_68 : decode cX3_passMinuteOf 68 = .ok (.getfield 9, 3) := by decide +kernel
theorem dX3_passMinuteOf_71 : decode cX3_passMinuteOf 71 = .ok (.bipush 6, 2) := by decide +kernel
theorem dX3_passMinuteOf_73 : decode cX3_passMinuteOf 73 = .ok (.iaload, 1) := by decide +kernel
theorem dX3_passMinuteOf_74 : decode cX3_passMinuteOf 74 = .ok (.invokevirtual 123, 3) := by decide +kernel
theorem dX3_passMinuteOf_77 : decode cX3_passMinuteOf 77 = .ok (.aload_n 0, 1) := by decide +kernel
theorem dX3_passMinuteOf_78 : decode cX3_passMinuteOf 78 = .ok (.aload_n 1, 1) := by decide +kernel
theorem dX3_passMinuteOf_79 : decode cX3_passMinuteOf 79 = .ok (.iload 4, 2) := by decide +kernel
theorem dX3_passMinuteOf_81 : decode cX3_passMinuteOf 81 = .ok (.invokevirtual 127, 3) := by decide +kernel
theorem dX3_passMinuteOf_84 : decode cX3_passMinuteOf 84 = .ok (.istore 5, 2) := by decide +kernel
theorem dX3_passMinuteOf_86 : decode cX3_passMinuteOf 86 = .ok (.iload 5, 2) := by decide +kernel
theorem dX3_passMinuteOf_88 : decode cX3_passMinuteOf 88 = .ok (.ifCond .eq 14, 3) := by decide +kernel
theorem dX3_passMinuteOf_91 : decode cX3_passMinuteOf 91 = .ok (.iload 4, 2) := by decide +kernel
theorem dX3_passMinuteOf_93 : decode cX3_passMinuteOf 93 = .ok (.ifCond .eq 9, 3) := by decide +kernel
theorem dX3_passMinuteOf_96 : decode cX3_passMinuteOf 96 = .ok (.aload_n 0, 1) := by decide +kernel
theorem dX3_passMinuteOf_97 : decode cX3_passMinuteOf 97 = .ok (.aload_n 1, 1) := by decide +kernel
theorem dX3_passMinuteOf_98 : decode cX3_passMinuteOf 98 = .ok (.iload_n 3, 1) := by decide +kernel
theorem dX3_passMinuteOf_99 : decode cX3_passMinuteOf 99 = .ok (.invokevirtual 131, 3) := by decide +kernel
theorem dX3_passMinuteOf_102 : decode cX3_passMinuteOf 102 = .ok (.aload_n 1, 1) := by decide +kernel
theorem dX3_passMinuteOf_103 : decode cX3_passMinuteOf 103 = .ok (.dup, 1) := by decide +kernel
theorem dX3_passMinuteOf_104 : decode cX3_passMinuteOf 104 = .ok (.getfield 134, 3) := by decide +kernel
theorem dX3_passMinuteOf_107 : decode cX3_passMinuteOf 107 = .ok (.aload_n 1, 1) := by decide +kernel
theorem dX3_passMinuteOf_108 : decode cX3_passMinuteOf 108 = .ok (.getfield 67, 3) := by decide +kernel
theorem dX3_passMinuteOf_111 : decode cX3_passMinuteOf 111 = .ok (.i2l, 1) := by decide +kernel
theorem dX3_passMinuteOf_112 : decode cX3_passMinuteOf 112 = .ok (.ladd, 1) := by decide +kernel
theorem dX3_passMinuteOf_113 : decode cX3_passMinuteOf 113 = .ok (.putfield 134, 3) := by decide +kernel
theorem dX3_passMinuteOf_116 : decode cX3_passMinuteOf 116 = .ok (.iload 5, 2) := by decide +kernel
theorem dX3_passMinuteOf_118 : decode cX3_passMinuteOf 118 = .ok (.ifCond .eq 12, 3) := by decide +kernel
theorem dX3_passMinuteOf_121 : decode cX3_passMinuteOf 121 = .ok (.iload 4, 2) := by decide +kernel
theorem dX3_passMinuteOf_123 : decode cX3_passMinuteOf 123 = .ok (.ifCond .eq 7, 3) := by decide +kernel
theorem dX3_passMinuteOf_126 : decode cX3_passMinuteOf 126 = .ok (.iconst 1, 1) := by decide +kernel
theorem dX3_passMinuteOf_127 : decode cX3_passMinuteOf 127 = .ok (.goto 4, 3) := by decide +kernel
theorem dX3_passMinuteOf_130 : decode cX3_passMinuteOf 130 = .ok (.iconst 0, 1) := by decide +kernel
theorem dX3_passMinuteOf_131 : decode cX3_passMinuteOf 131 = .ok (.ireturn, 1) := by decide +kernel
theorem dX3_settleHours_0 : decode cX3_settleHours 0 = .ok (.aload_n 1, 1) := by decide +kernel
theorem dX3_settleHours_1 : decode cX3_settleHours 1 = .ok (.iload_n 2, 1) := by decide +kernel
theorem dX3_settleHours_2 : decode cX3_settleHours 2 = .ok (.iconst 1, 1) := by decide +kernel
theorem dX3_settleHours_3 : decode cX3_settleHours 3 = .ok (.isub, 1) := by decide +kernel
theorem dX3_settleHours_4 : decode cX3_settleHours 4 = .ok (.invokevirtual 81, 3) := by decide +kernel
theorem dX3_settleHours_7 : decode cX3_settleHours 7 = .ok (.iconst 1, 1) := by decide +kernel
theorem dX3_settleHours_8 : decode cX3_settleHours 8 = .ok (.if_icmp .ne 26, 3) := by decide +kernel
theorem dX3_settleHours_11 : decode cX3_settleHours 11 = .ok (.aload_n 1, 1) := by decide +kernel
theorem dX3_settleHours_12 : decode cX3_settleHours 12 = .ok (.iload_n 2, 1) := by decide +kernel
theorem dX3_settleHours_13 : decode cX3_settleHours 13 = .ok (.iconst 1, 1) := by decide +kernel
theorem dX3_settleHours_14 : decode cX3_settleHours 14 = .ok (.isub, 1) := by decide +kernel
theorem dX3_settleHours_15 : decode cX3_settleHours 15 = .ok (.iconst 2, 1) := by decide +kernel
theorem dX3_settleHours_16 : decode cX3_settleHours 16 = .ok (.invokevirtual 85, 3) := by decide +kernel
theorem dX3_settleHours_19 : decode cX3_settleHours 19 = .ok (.aload_n 0, 1) := by decide +kernel
theorem dX3_settleHours_20 : decode cX3_settleHours 20 = .ok (.dup, 1) := by decide +kernel
theorem dX3_settleHours_21 : decode cX3_settleHours 21 = .ok (.getfield 45, 3) := by decide +kernel
theorem dX3_settleHours_24 : decode cX3_settleHours 24 = .ok (.aload_n 0, 1) := by decide +kernel
theorem dX3_settleHours_25 : decode cX3_settleHours 25 = .ok (.getfield 9, 3) := by decide +kernel
theorem dX3_settleHours_28 : decode cX3_settleHours 28 = .ok (.iconst 2, 1) := by decide +kernel
end
section
theorem dX3_settleHours_29 : decode cX3_settleHours 29 = .ok (.iaload, 1) := by decide +kernel
theorem dX3_settleHours_30 : decode cX3_settleHours 30 = .ok (.iadd, 1) := by decide +kernel
theorem dX3_settleHours_31 : decode cX3_settleHours 31 = .ok (.putfield 45, 3) := by decide +kernel
theorem dX3_settleHours_34 : decode cX3_settleHours 34 = .ok (.iload_n 3, 1) := by decide +kernel
theorem dX3_settleHours_35 : decode cX3_settleHours 35 = .ok (.ifCond .eq 18, 3) := by decide +kernel
theorem dX3_settleHours_38 : decode cX3_settleHours 38 = .ok (.aload_n 0, 1) := by decide +kernel
theorem dX3_settleHours_39 : decode cX3_settleHours 39 = .ok (.dup, 1) := by decide +kernel
theorem dX3_settleHours_40 : decode cX3_settleHours 40 = .ok (.getfield 39, 3) := by decide +kernel
theorem dX3_settleHours_43 : decode cX3_settleHours 43 = .ok (.aload_n 0, 1) := by decide +kernel
theorem dX3_settleHours_44 : decode cX3_settleHours 44 = .ok (.getfield 9, 3) := by decide +kernel
theorem dX3_settleHours_47 : decode cX3_settleHours 47 = .ok (.iconst 0, 1) := by decide +kernel
theorem dX3_settleHours_48 : decode cX3_settleHours 48 = .ok (.iaload, 1) := by decide +kernel
theorem dX3_settleHours_49 : decode cX3_settleHours 49 = .ok (.iadd, 1) := by decide +kernel
theorem dX3_settleHours_50 : decode cX3_settleHours 50 = .ok (.putfield 39, 3) := by decide +kernel
theorem dX3_settleHours_53 : decode cX3_settleHours 53 = .ok (.return_, 1) := by decide +kernel
theorem dX3_cleanUp_0 : decode cX3_cleanUp 0 = .ok (.iload_n 2, 1) := by decide +kernel
theorem dX3_cleanUp_1 : decode cX3_cleanUp 1 = .ok (.ifCond .eq 25, 3) := by decide +kernel
theorem dX3_cleanUp_4 : decode cX3_cleanUp 4 = .ok (.aload_n 1, 1) := by decide +kernel
theorem dX3_cleanUp_5 : decode cX3_cleanUp 5 = .ok (.getfield 67, 3) := by decide +kernel
theorem dX3_cleanUp_8 : decode cX3_cleanUp 8 = .ok (.aload_n 0, 1) := by decide +kernel
theorem dX3_cleanUp_9 : decode cX3_cleanUp 9 = .ok (.getfield 9, 3) := by decide +kernel
theorem dX3_cleanUp_12 : decode cX3_cleanUp 12 = .ok (.bipush 6, 2) := by decide +kernel
theorem dX3_cleanUp_14 : decode cX3_cleanUp 14 = .ok (.iaload, 1) := by decide +kernel
theorem dX3_cleanUp_15 : decode cX3_cleanUp 15 = .ok (.if_icmp .le 7, 3) := by decide +kernel
theorem dX3_cleanUp_18 : decode cX3_cleanUp 18 = .ok (.iconst 1, 1) := by decide +kernel
theorem dX3_cleanUp_19 : decode cX3_cleanUp 19 = .ok (.goto 32, 3) := by decide +kernel
theorem dX3_cleanUp_22 : decode cX3_cleanUp 22 = .ok (.iconst 0, 1) := by decide +kernel
theorem dX3_cleanUp_23 : decode cX3_cleanUp 23 = .ok (.goto 28, 3) := by decide +kernel
theorem dX3_cleanUp_26 : decode cX3_cleanUp 26 = .ok (.aload_n 1, 1) := by decide +kernel
theorem dX3_cleanUp_27 : decode cX3_cleanUp 27 = .ok (.getfield 138, 3) := by decide +kernel
theorem dX3_cleanUp_30 : decode cX3_cleanUp 30 = .ok (.ifCond .ne 16, 3) := by decide +kernel
theorem dX3_cleanUp_33 : decode cX3_cleanUp 33 = .ok (.aload_n 1, 1) := by decide +kernel
theorem dX3_cleanUp_34 : decode cX3_cleanUp 34 = .ok (.getfield 142, 3) := by decide +kernel
theorem dX3_cleanUp_37 : decode cX3_cleanUp 37 = .ok (.aload_n 0, 1) := by decide +kernel
theorem dX3_cleanUp_38 : decode cX3_cleanUp 38 = .ok (.getfield 9, 3) := by decide +kernel
theorem dX3_cleanUp_41 : decode cX3_cleanUp 41 = .ok (.iconst 3, 1) := by decide +kernel
theorem dX3_cleanUp_42 : decode cX3_cleanUp 42 = .ok (.iaload, 1) := by decide +kernel
theorem dX3_cleanUp_43 : decode cX3_cleanUp 43 = .ok (.if_icmp .ge 7, 3) := by decide +kernel
theorem dX3_cleanUp_46 : decode cX3_cleanUp 46 = .ok (.iconst 1, 1) := by decide +kernel
theorem dX3_cleanUp_47 : decode cX3_cleanUp 47 = .ok (.goto 4, 3) := by decide +kernel
theorem dX3_cleanUp_50 : decode cX3_cleanUp 50 = .ok (.iconst 0, 1) := by decide +kernel
theorem dX3_cleanUp_51 : decode cX3_cleanUp 51 = .ok (.istore_n 3, 1) := by decide +kernel
theorem dX3_cleanUp_52 : decode cX3_cleanUp 52 = .ok (.iload_n 3, 1) := by decide +kernel
theorem dX3_cleanUp_53 : decode cX3_cleanUp 53 = .ok (.ifCond .eq 14, 3) := by decide +kernel
theorem dX3_cleanUp_56 : decode cX3_cleanUp 56 = .ok (.aload_n 1, 1) := by decide +kernel
theorem dX3_cleanUp_57 : decode cX3_cleanUp 57 = .ok (.getfield 145, 3) := by decide +kernel
theorem dX3_cleanUp_60 : decode cX3_cleanUp 60 = .ok (.ifCond .le 7, 3) := by decide +kernel
theorem dX3_cleanUp_63 : decode cX3_cleanUp 63 = .ok (.iconst 1, 1) := by decide +kernel
theorem dX3_cleanUp_64 : decode cX3_cleanUp 64 = .ok (.goto 4, 3) := by decide +kernel
theorem dX3_cleanUp_67 : decode cX3_cleanUp 67 = .ok (.iconst 0, 1) := by decide +kernel
theorem dX3_cleanUp_68 : decode cX3_cleanUp 68 = .ok (.istore 4, 2) := by decide +kernel
theorem dX3_cleanUp_70 : decode cX3_cleanUp 70 = .ok (.iload 4, 2) := by decide +kernel
theorem dX3_cleanUp_72 : decode cX3_cleanUp 72 = .ok (.ifCond .eq 20, 3) := by decide +kernel
theorem dX3_cleanUp_75 : decode cX3_cleanUp 75 = .ok (.aload_n 1, 1) := by decide +kernel
theorem dX3_cleanUp_76 : decode cX3_cleanUp 76 = .ok (.aload_n 0, 1) := by decide +kernel
theorem dX3_cleanUp_77 : decode cX3_cleanUp 77 = .ok (.getfield 9, 3) := by decide +kernel
theorem dX3_cleanUp_80 : decode cX3_cleanUp 80 = .ok (.iconst 5, 1) := by decide +kernel
theorem dX3_cleanUp_81 : decode cX3_cleanUp 81 = .ok (.iaload, 1) := by decide +kernel
theorem dX3_cleanUp_82 : decode cX3_cleanUp 82 = .ok (.aload_n 1, 1) := by decide +kernel
theorem dX3_cleanUp_83 : decode cX3_cleanUp 83 = .ok (.getfield 145, 3) := by decide +kernel
theorem dX3_cleanUp_86 : decode cX3_cleanUp 86 = .ok (.invokestatic 148, 3) := by decide +kernel
theorem dX3_cleanUp_89 : decode cX3_cleanUp 89 = .ok (.invokevirtual 154, 3) := by decide +kernel
theorem dX3_cleanUp_92 : decode cX3_cleanUp 92 = .ok (.aload_n 1, 1) := by decide +kernel
theorem dX3_cleanUp_93 : decode cX3_cleanUp 93 = .ok (.iload 4, 2) := by decide +kernel
theorem dX3_cleanUp_95 : decode cX3_cleanUp 95 = .ok (.ifCond .eq 31, 3) := by decide +kernel
theorem dX3_cleanUp_98 : decode cX3_cleanUp 98 = .ok (.iload_n 2, 1) := by decide +kernel
theorem dX3_cleanUp_99 : decode cX3_cleanUp 99 = .ok (.ifCond .ne 27, 3) := by decide +kernel
theorem dX3_cleanUp_102 : decode cX3_cleanUp 102 = .ok (.aload_n 1, 1) := by decide +kernel
theorem dX3_cleanUp_103 : decode cX3_cleanUp 103 = .ok (.getfield 142, 3) := by decide +kernel
theorem dX3_cleanUp_106 : decode cX3_cleanUp 106 = .ok (.aload_n 0, 1) := by decide +kernel
theorem dX3_cleanUp_107 : decode cX3_cleanUp 107 = .ok (.getfield 9, 3) := by decide +kernel
theorem dX3_cleanUp_110 : decode cX3_cleanUp 110 = .ok (.iconst 4, 1) := by decide +kernel
theorem dX3_cleanUp_111 : decode cX3_cleanUp 111 = .ok (.iaload, 1) := by decide +kernel
theorem dX3_cleanUp_112 : decode cX3_cleanUp 112 = .ok (.if_icmp .ge 14, 3) := by decide +kernel
theorem dX3_cleanUp_115 : decode cX3_cleanUp 115 = .ok (.aload_n 1, 1) := by decide +kernel
theorem dX3_cleanUp_116 : decode cX3_cleanUp 116 = .ok (.getfield 145, 3) := by decide +kernel
theorem dX3_cleanUp_119 : decode cX3_cleanUp 119 = .ok (.ifCond .le 7, 3) := by decide +kernel
theorem dX3_cleanUp_122 : decode cX3_cleanUp 122 = .ok (.iconst 1, 1) := by decide +kernel
theorem dX3_cleanUp_123 : decode cX3_cleanUp 123 = .ok (.goto 4, 3) := by decide +kernel
theorem dX3_cleanUp_126 : decode cX3_cleanUp 126 = .ok (.iconst 0, 1) := by decide +kernel
theorem dX3_cleanUp_127 : decode cX3_cleanUp 127 = .ok (.putfield 138, 3) := by decide +kernel
theorem dX3_cleanUp_130 : decode cX3_cleanUp 130 = .ok (.iload 4, 2) := by decide +kernel
theorem dX3_cleanUp_132 : decode cX3_cleanUp 132 = .ok (.ireturn, 1) := by decide +kernel
theorem dX3_chargeOverrun_0 : decode cX3_chargeOverrun 0 = .ok (.aload_n 1, 1) := by decide +kernel
theorem dX3_chargeOverrun_1 : decode cX3_chargeOverrun 1 = .ok (.dup, 1) := by decide +kernel
theorem dX3_chargeOverrun_2 : decode cX3_chargeOverrun 2 = .ok (.getfield 157, 3) := by decide +kernel
theorem dX3_chargeOverrun_5 : decode cX3_chargeOverrun 5 = .ok (.iconst 1, 1) := by decide +kernel
theorem dX3_chargeOverrun_6 : decode cX3_chargeOverrun 6 = .ok (.iadd, 1) := by decide +kernel
theorem dX3_chargeOverrun_7 : decode cX3_chargeOverrun 7 = .ok (.putfield 157, 3) := by decide +kernel
theorem dX3_chargeOverrun_10 : decode cX3_chargeOverrun 10 = .ok (.aload_n 1, 1) := by decide +kernel
theorem dX3_chargeOverrun_11 : decode cX3_chargeOverrun 11 = .ok (.iload_n 2, 1) := by decide +kernel
theorem dX3_chargeOverrun_12 : decode cX3_chargeOverrun 12 = .ok (.iconst 3, 1) := by decide +kernel
theorem dX3_chargeOverrun_13 : decode cX3_chargeOverrun 13 = .ok (.invokevirtual 85, 3) := by decide +kernel
theorem dX3_chargeOverrun_16 : decode cX3_chargeOverrun 16 = .ok (.aload_n 0, 1) := by decide +kernel
theorem dX3_chargeOverrun_17 : decode cX3_chargeOverrun 17 = .ok (.getfield 45, 3) := by decide +kernel
theorem dX3_chargeOverrun_20 : decode cX3_chargeOverrun 20 = .ok (.ifCond .le 26, 3) := by decide +kernel
theorem dX3_chargeOverrun_23 : decode cX3_chargeOverrun 23 = .ok (.aload_n 0, 1) := by decide +kernel
theorem dX3_chargeOverrun_24 : decode cX3_chargeOverrun 24 = .ok (.dup, 1) := by decide +kernel
theorem dX3_chargeOverrun_25 : decode cX3_chargeOverrun 25 = .ok (.getfield 45, 3) := by decide +kernel
theorem dX3_chargeOverrun_28 : decode cX3_chargeOverrun 28 = .ok (.iconst 1, 1) := by decide +kernel
theorem dX3_chargeOverrun_29 : decode cX3_chargeOverrun 29 = .ok (.isub, 1) := by decide +kernel
theorem dX3_chargeOverrun_30 : decode cX3_chargeOverrun 30 = .ok (.putfield 45, 3) := by decide +kernel
theorem dX3_chargeOverrun_33 : decode cX3_chargeOverrun 33 = .ok (.aload_n 0, 1) := by decide +kernel
theorem dX3_chargeOverrun_34 : decode cX3_chargeOverrun 34 = .ok (.dup, 1) := by decide +kernel
theorem dX3_chargeOverrun_35 : decode cX3_chargeOverrun 35 = .ok (.getfield 48, 3) := by decide +kernel
theorem dX3_chargeOverrun_38 : decode cX3_chargeOverrun 38 = .ok (.iconst 1, 1) := by decide +kernel
theorem dX3_chargeOverrun_39 : decode cX3_chargeOverrun 39 = .ok (.iadd, 1) := by decide +kernel
theorem dX3_chargeOverrun_40 : decode cX3_chargeOverrun 40 = .ok (.putfield 48, 3) := by decide +kernel
theorem dX3_chargeOverrun_43 : decode cX3_chargeOverrun 43 = .ok (.goto 18, 3) := by decide +kernel
theorem dX3_chargeOverrun_46 : decode cX3_chargeOverrun 46 = .ok (.aload_n 0, 1) := by decide +kernel
theorem dX3_chargeOverrun_47 : decode cX3_chargeOverrun 47 = .ok (.dup, 1) := by decide +kernel
theorem dX3_chargeOverrun_48 : decode cX3_chargeOverrun 48 = .ok (.getfield 42, 3) := by decide +kernel
theorem dX3_chargeOverrun_51 : decode cX3_chargeOverrun 51 = .ok (.aload_n 0, 1) := by decide +kernel
theorem dX3_chargeOverrun_52 : decode cX3_chargeOverrun 52 = .ok (.getfield 9, 3) := by decide +kernel
theorem dX3_chargeOverrun_55 : decode cX3_chargeOverrun 55 = .ok (.iconst 1, 1) := by decide +kernel
theorem dX3_chargeOverrun_56 : decode cX3_chargeOverrun 56 = .ok (.iaload, 1) := by decide +kernel
theorem dX3_chargeOverrun_57 : decode cX3_chargeOverrun 57 = .ok (.iadd, 1) := by decide +kernel
theorem dX3_chargeOverrun_58 : decode cX3_chargeOverrun 58 = .ok (.putfield 42, 3) := by decide +kernel
theorem dX3_chargeOverrun_61 : decode cX3_chargeOverrun 61 = .ok (.return_, 1) := by decide +kernel
theorem dX4_init_0 : decode cX4_init 0 = .ok (.aload_n 0, 1) := by decide +kernel
theorem dX4_init_1 : decode cX4_init 1 = .ok (.invokespecial 1, 3) := by decide +kernel
theorem dX4_init_4 : decode cX4_init 4 = .ok (.aload_n 0, 1) := by decide +kernel
theorem dX4_init_5 : decode cX4_init 5 = .ok (.new 7, 3) := by decide +kernel
theorem dX4_init_8 : decode cX4_init 8 = .ok (.dup, 1) := by decide +kernel
theorem dX4_init_9 : decode cX4_init 9 = .ok (.invokespecial 9, 3) := by decide +kernel
theorem dX4_init_12 : decode cX4_init 12 = .ok (.putfield 10, 3) := by decide +kernel
theorem dX4_init_15 : decode cX4_init 15 = .ok (.aload_n 0, 1) := by decide +kernel
theorem dX4_init_16 : decode cX4_init 16 = .ok (.new 16, 3) := by decide +kernel
theorem dX4_init_19 : decode cX4_init 19 = .ok (.dup, 1) := by decide +kernel
theorem dX4_init_20 : decode cX4_init 20 = .ok (.invokespecial 18, 3) := by decide +kernel
theorem dX4_init_23 : decode cX4_init 23 = .ok (.putfield 19, 3) := by decide +kernel
theorem dX4_init_26 : decode cX4_init 26 = .ok (.aload_n 0, 1) := by decide +kernel
theorem dX4_init_27 : decode cX4_init 27 = .ok (.iconst 2, 1) := by decide +kernel
theorem dX4_init_28 : decode cX4_init 28 = .ok (.anewarray 7, 3) := by decide +kernel
theorem dX4_init_31 : decode cX4_init 31 = .ok (.putfield 23, 3) := by decide +kernel
theorem dX4_init_34 : decode cX4_init 34 = .ok (.aload_n 0, 1) := by decide +kernel
theorem dX4_init_35 : decode cX4_init 35 = .ok (.iconst 2, 1) := by decide +kernel
theorem dX4_init_36 : decode cX4_init 36 = .ok (.newarray .boolean, 2) := by decide +kernel
theorem dX4_init_38 : decode cX4_init 38 = .ok (.putfield 27, 3) := by decide +kernel
theorem dX4_init_41 : decode cX4_init 41 = .ok (.aload_n 0, 1) := by decide +kernel
theorem dX4_init_42 : decode cX4_init 42 = .ok (.new 31, 3) := by decide +kernel
theorem dX4_init_45 : decode cX4_init 45 = .ok (.dup, 1) := by decide +kernel
theorem dX4_init_46 : decode cX4_init 46 = .ok (.invokespecial 33, 3) := by decide +kernel
theorem dX4_init_49 : decode cX4_init 49 = .ok (.putfield 34, 3) := by decide +kernel
theorem dX4_init_52 : decode cX4_init 52 = .ok (.aload_n 0, 1) := by decide +kernel
theorem dX4_init_53 : decode cX4_init 53 = .ok (.new 7, 3) := by decide +kernel
theorem dX4_init_56 : decode cX4_init 56 = .ok (.dup, 1) := by decide +kernel
theorem dX4_init_57 : decode cX4_init 57 = .ok (.invokespecial 9, 3) := by decide +kernel
theorem dX4_init_60 : decode cX4_init 60 = .ok (.putfield 38, 3) := by decide +kernel
theorem dX4_init_63 : decode cX4_init 63 = .ok (.aload_n 0, 1) := by decide +kernel
theorem dX4_init_64 : decode cX4_init 64 = .ok (.new 7, 3) := by decide +kernel
theorem dX4_init_67 : decode cX4_init 67 = .ok (.dup, 1) := by decide +kernel
theorem dX4_init_68 : decode cX4_init 68 = .ok (.invokespecial 9, 3) := by decide +kernel
theorem dX4_init_71 : decode cX4_init 71 = .ok (.putfield 41, 3) := by decide +kernel
theorem dX4_init_74 : decode cX4_init 74 = .ok (.iconst 0, 1) := by decide +kernel
theorem dX4_init_75 : decode cX4_init 75 = .ok (.istore_n 1, 1) := by decide +kernel
theorem dX4_init_76 : decode cX4_init 76 = .ok (.iload_n 1, 1) := by decide +kernel
theorem dX4_init_77 : decode cX4_init 77 = .ok (.iconst 2, 1) := by decide +kernel
theorem dX4_init_78 : decode cX4_init 78 = .ok (.if_icmp .ge 22, 3) := by decide +kernel
theorem dX4_init_81 : decode cX4_init 81 = .ok (.aload_n 0, 1) := by decide +kernel
theorem dX4_init_82 : decode cX4_init 82 = .ok (.getfield 23, 3) := by decide +kernel
theorem dX4_init_85 : decode cX4_init 85 = .ok (.iload_n 1, 1) := by decide +kernel
theorem dX4_init_86 : decode cX4_init 86 = .ok (.new 7, 3) := by decide +kernel
theorem dX4_init_89 : decode cX4_init 89 = .ok (.dup, 1) := by decide +kernel
theorem dX4_init_90 : decode cX4_init 90 = .ok (.invokespecial 9, 3) := by decide +kernel
theorem dX4_init_93 : decode cX4_init 93 = .ok (.aastore, 1) := by decide +kernel
theorem dX4_init_94 : decode cX4_init 94 = .ok (.iinc 1 1, 3) := by decide +kernel
theorem dX4_init_97 : decode cX4_init 97 = .ok (.goto (-21), 3) := by decide +kernel
theorem dX4_init_100 : decode cX4_init 100 = .ok (.return_, 1) := by decide +kernel
theorem dX4_set_0 : decode cX4_set 0 = .ok (.aload_n 0, 1) := by decide +kernel
theorem dX4_set_1 : decode cX4_set 1 = .ok (.getfield 19, 3) := by decide +kernel
theorem dX4_set_4 : decode cX4_set 4 = .ok (.aload_n 0, 1) := by decide +kernel
theorem dX4_set_5 : decode cX4_set 5 = .ok (.getfield 10, 3) := by decide +kernel
theorem dX4_set_8 : decode cX4_set 8 = .ok (.invokevirtual 44, 3) := by decide +kernel
theorem dX4_set_11 : decode cX4_set 11 = .ok (.aload_n 0, 1) := by decide +kernel
theorem dX4_set_12 : decode cX4_set 12 = .ok (.aload_n 0, 1) := by decide +kernel
theorem dX4_set_13 : decode cX4_set 13 = .ok (.getfield 10, 3) := by decide +kernel
theorem dX4_set_16 : decode cX4_set 16 = .ok (.iload_n 1, 1) := by decide +kernel
theorem dX4_set_17 : decode cX4_set 17 = .ok (.iload_n 2, 1) := by decide +kernel
theorem dX4_set_18 : decode cX4_set 18 = .ok (.invokevirtual 48, 3) := by decide +kernel
theorem dX4_set_21 : decode cX4_set 21 = .ok (.invokevirtual 52, 3) := by decide +kernel
theorem dX4_set_24 : decode cX4_set 24 = .ok (.ireturn, 1) := by decide +kernel
theorem dX4_stream_0 : decode cX4_stream 0 = .ok (.aload_n 0, 1) := by decide +kernel
theorem dX4_stream_1 : decode cX4_stream 1 = .ok (.getfield 19, 3) := by decide +kernel
theorem dX4_stream_4 : decode cX4_stream 4 = .ok (.aload_n 0, 1) := by decide +kernel
theorem dX4_stream_5 : decode cX4_stream 5 = .ok (.getfield 10, 3) := by decide +kernel
theorem dX4_stream_8 : decode cX4_stream 8 = .ok (.invokevirtual 44, 3) := by decide +kernel
theorem dX4_stream_11 : decode cX4_stream 11 = .ok (.aload_n 0, 1) := by decide +kernel
theorem dX4_stream_12 : decode cX4_stream 12 = .ok (.aload_n 0, 1) := by decide +kernel
theorem dX4_stream_13 : decode cX4_stream 13 = .ok (.getfield 10, 3) := by decide +kernel
theorem dX4_stream_16 : decode cX4_stream 16 = .ok (.iload_n 1, 1) := by decide +kernel
theorem dX4_stream_17 : decode cX4_stream 17 = .ok (.iload_n 2, 1) := by decide +kernel
theorem dX4_stream_18 : decode cX4_stream 18 = .ok (.iload_n 3, 1) := by decide +kernel
theorem dX4_stream_19 : decode cX4_stream 19 = .ok (.invokevirtual 56, 3) := by decide +kernel
theorem dX4_stream_22 : decode cX4_stream 22 = .ok (.invokevirtual 52, 3) := by decide +kernel
theorem dX4_stream_25 : decode cX4_stream 25 = .ok (.ireturn, 1) := by decide +kernel
theorem dX4_write_0 : decode cX4_write 0 = .ok (.aload_n 0, 1) := by decide +kernel
theorem dX4_write_1 : decode cX4_write 1 = .ok (.getfield 19, 3) := by decide +kernel
theorem dX4_write_4 : decode cX4_write 4 = .ok (.aload_n 0, 1) := by decide +kernel
theorem dX4_write_5 : decode cX4_write 5 = .ok (.getfield 10, 3) := by decide +kernel
theorem dX4_write_8 : decode cX4_write 8 = .ok (.invokevirtual 44, 3) := by decide +kernel
theorem dX4_write_11 : decode cX4_write 11 = .ok (.aload_n 0, 1) := by decide +kernel
theorem dX4_write_12 : decode cX4_write 12 = .ok (.aload_n 0, 1) := by decide +kernel
theorem dX4_write_13 : decode cX4_write 13 = .ok (.getfield 10, 3) := by decide +kernel
theorem dX4_write_16 : decode cX4_write 16 = .ok (.iload_n 1, 1) := by decide +kernel
theorem dX4_write_17 : decode cX4_write 17 = .ok (.iload_n 2, 1) := by decide +kernel
theorem dX4_write_18 : decode cX4_write 18 = .ok (.invokevirtual 60, 3) := by decide +kernel
theorem dX4_write_21 : decode cX4_write 21 = .ok (.invokevirtual 52, 3) := by decide +kernel
theorem dX4_write_24 : decode cX4_write 24 = .ok (.ireturn, 1) := by decide +kernel
theorem dX4_sell_0 : decode cX4_sell 0 = .ok (.aload_n 0, 1) := by decide +kernel
theorem dX4_sell_1 : decode cX4_sell 1 = .ok (.getfield 19, 3) := by decide +kernel
theorem dX4_sell_4 : decode cX4_sell 4 = .ok (.aload_n 0, 1) := by decide +kernel
theorem dX4_sell_5 : decode cX4_sell 5 = .ok (.getfield 10, 3) := by decide +kernel
theorem dX4_sell_8 : decode cX4_sell 8 = .ok (.invokevirtual 44, 3) := by decide +kernel
theorem dX4_sell_11 : decode cX4_sell 11 = .ok (.aload_n 0, 1) := by decide +kernel
theorem dX4_sell_12 : decode cX4_sell 12 = .ok (.aload_n 0, 1) := by decide +kernel
theorem dX4_sell_13 : decode cX4_sell 13 = .ok (.getfield 10, 3) := by decide +kernel
theorem dX4_sell_16 : decode cX4_sell 16 = .ok (.iload_n 1, 1) := by decide +kernel
theorem dX4_sell_17 : decode cX4_sell 17 = .ok (.iload_n 2, 1) := by decide +kernel
theorem dX4_sell_18 : decode cX4_sell 18 = .ok (.invokevirtual 63, 3) := by decide +kernel
theorem dX4_sell_21 : decode cX4_sell 21 = .ok (.invokevirtual 52, 3) := by decide +kernel
theorem dX4_sell_24 : decode cX4_sell 24 = .ok (.ireturn, 1) := by decide +kernel
theorem dX4_giveBack_0 : decode cX4_giveBack 0 = .ok (.aload_n 0, 1) := by decide +kernel
theorem dX4_giveBack_1 : decode cX4_giveBack 1 = .ok (.getfield 19, 3) := by decide +kernel
theorem dX4_giveBack_4 : decode cX4_giveBack 4 = .ok (.aload_n 0, 1) := by decide +kernel
theorem dX4_giveBack_5 : decode cX4_giveBack 5 = .ok (.getfield 10, 3) := by decide +kernel
theorem dX4_giveBack_8 : decode cX4_giveBack 8 = .ok (.invokevirtual 44, 3) := by decide +kernel
theorem dX4_giveBack_11 : decode cX4_giveBack 11 = .ok (.aload_n 0, 1) := by decide +kernel
theorem dX4_giveBack_12 : decode cX4_giveBack 12 = .ok (.aload_n 0, 1) := by decide +kernel
theorem dX4_giveBack_13 : decode cX4_giveBack 13 = .ok (.getfield 10, 3) := by decide +kernel
theorem dX4_giveBack_16 : decode cX4_giveBack 16 = .ok (.iload_n 1, 1) := by decide +kernel
theorem dX4_giveBack_17 : decode cX4_giveBack 17 = .ok (.iload_n 2, 1) := by decide +kernel
theorem dX4_giveBack_18 : decode cX4_giveBack 18 = .ok (.invokevirtual 66, 3) := by decide +kernel
theorem dX4_giveBack_21 : decode cX4_giveBack 21 = .ok (.invokevirtual 52, 3) := by decide +kernel
theorem dX4_giveBack_24 : decode cX4_giveBack 24 = .ok (.ireturn, 1) := by decide +kernel
theorem dX4_pass_0 : decode cX4_pass 0 = .ok (.aload_n 0, 1) := by decide +kernel
theorem dX4_pass_1 : decode cX4_pass 1 = .ok (.getfield 19, 3) := by decide +kernel
theorem dX4_pass_4 : decode cX4_pass 4 = .ok (.aload_n 0, 1) := by decide +kernel
theorem dX4_pass_5 : decode cX4_pass 5 = .ok (.getfield 10, 3) := by decide +kernel
theorem dX4_pass_8 : decode cX4_pass 8 = .ok (.invokevirtual 44, 3) := by decide +kernel
theorem dX4_pass_11 : decode cX4_pass 11 = .ok (.aload_n 0, 1) := by decide +kernel
theorem dX4_pass_12 : decode cX4_pass 12 = .ok (.aload_n 0, 1) := by decide +kernel
theorem dX4_pass_13 : decode cX4_pass 13 = .ok (.getfield 10, 3) := by decide +kernel
theorem dX4_pass_16 : decode cX4_pass 16 = .ok (.iload_n 1, 1) := by decide +kernel
theorem dX4_pass_17 : decode cX4_pass 17 = .ok (.invokevirtual 69, 3) := by decide +kernel
theorem dX4_pass_20 : decode cX4_pass 20 = .ok (.invokevirtual 52, 3) := by decide +kernel
theorem dX4_pass_23 : decode cX4_pass 23 = .ok (.ireturn, 1) := by decide +kernel
theorem dX4_ofDrive_0 : decode cX4_ofDrive 0 = .ok (.iload_n 1, 1) := by decide +kernel
theorem dX4_ofDrive_1 : decode cX4_ofDrive 1 = .ok (.invokestatic 72, 3) := by decide +kernel
theorem dX4_ofDrive_4 : decode cX4_ofDrive 4 = .ok (.ifCond .ne 5, 3) := by decide +kernel
theorem dX4_ofDrive_7 : decode cX4_ofDrive 7 = .ok (.iconst (-1), 1) := by decide +kernel
theorem dX4_ofDrive_8 : decode cX4_ofDrive 8 = .ok (.ireturn, 1) := by decide +kernel
theorem dX4_ofDrive_9 : decode cX4_ofDrive 9 = .ok (.aload_n 0, 1) := by decide +kernel
theorem dX4_ofDrive_10 : decode cX4_ofDrive 10 = .ok (.getfield 10, 3) := by decide +kernel
theorem dX4_ofDrive_13 : decode cX4_ofDrive 13 = .ok (.getfield 76, 3) := by decide +kernel
theorem dX4_ofDrive_16 : decode cX4_ofDrive 16 = .ok (.iload_n 1, 1) := by decide +kernel
theorem dX4_ofDrive_17 : decode cX4_ofDrive 17 = .ok (.aaload, 1) := by decide +kernel
theorem dX4_ofDrive_18 : decode cX4_ofDrive 18 = .ok (.astore_n 3, 1) := by decide +kernel
theorem dX4_ofDrive_19 : decode cX4_ofDrive 19 = .ok (.iload_n 2, 1) := by decide +kernel
theorem dX4_ofDrive_20 : decode cX4_ofDrive 20 = .ok (.tableswitch 167 0 13 #[72, 77, 82, 87, 92, 112, 125, 130, 135, 140, 145, 151, 157, 162], 72) := by decide +kernel
theorem dX4_ofDrive_92 : decode cX4_ofDrive 92 = .ok (.aload_n 3, 1) := by decide +kernel
theorem dX4_ofDrive_93 : decode cX4_ofDrive 93 = .ok (.getfield 80, 3) := by decide +kernel
theorem dX4_ofDrive_96 : decode cX4_ofDrive 96 = .ok (.ireturn, 1) := by decide +kernel
theorem dX4_ofDrive_97 : decode cX4_ofDrive 97 = .ok (.aload_n 3, 1) := by decide +kernel
theorem dX4_ofDrive_98 : decode cX4_ofDrive 98 = .ok (.getfield 86, 3) := by decide +kernel
theorem dX4_ofDrive_101 : decode cX4_ofDrive 101 = .ok (.ireturn, 1) := by decide +kernel
theorem dX4_ofDrive_102 : decode cX4_ofDrive 102 = .ok (.aload_n 3, 1) := by decide +kernel
theorem dX4_ofDrive_103 : decode cX4_ofDrive 103 = .ok (.getfield 89, 3) := by decide +kernel
theorem dX4_ofDrive_106 : decode cX4_ofDrive 106 = .ok (.ireturn, 1) := by decide +kernel
theorem dX4_ofDrive_107 : decode cX4_ofDrive 107 = .ok (.aload_n 3, 1) := by decide +kernel
theorem dX4_ofDrive_108 : decode cX4_ofDrive 108 = .ok (.getfield 92, 3) := by decide +kernel
theorem dX4_ofDrive_111 : decode cX4_ofDrive 111 = .ok (.ireturn, 1) := by decide +kernel
theorem dX4_ofDrive_112 : decode cX4_ofDrive 112 = .ok (.aload_n 3, 1) := by decide +kernel
theorem dX4_ofDrive_113 : decode cX4_ofDrive 113 = .ok (.aload_n 0, 1) := by decide +kernel
theorem dX4_ofDrive_114 : decode cX4_ofDrive 114 = .ok (.getfield 10, 3) := by decide +kernel
theorem dX4_ofDrive_117 : decode cX4_ofDrive 117 = .ok (.invokevirtual 95, 3) := by decide +kernel
theorem dX4_ofDrive_120 : decode cX4_ofDrive 120 = .ok (.invokevirtual 99, 3) := by decide +kernel
theorem dX4_ofDrive_123 : decode cX4_ofDrive 123 = .ok (.ifCond .eq 7, 3) := by decide +kernel
theorem dX4_ofDrive_126 : decode cX4_ofDrive 126 = .ok (.iconst 1, 1) := by decide +kernel
theorem dX4_ofDrive_127 : decode cX4_ofDrive 127 = .ok (.goto 4, 3) := by decide +kernel
theorem dX4_ofDrive_130 : decode cX4_ofDrive 130 = .ok (.iconst 0, 1) := by decide +kernel
theorem dX4_ofDrive_131 : decode cX4_ofDrive 131 = .ok (.ireturn, 1) := by decide +kernel
theorem dX4_ofDrive_132 : decode cX4_ofDrive 132 = .ok (.aload_n 3, 1) := by decide +kernel
theorem dX4_ofDrive_133 : decode cX4_ofDrive 133 = .ok (.getfield 102, 3) := by decide +kernel
theorem dX4_ofDrive_136 : decode cX4_ofDrive 136 = .ok (.ifCond .eq 7, 3) := by decide +kernel
theorem dX4_ofDrive_139 : decode cX4_ofDrive 139 = .ok (.iconst 1, 1) := by decide +kernel
theorem dX4_ofDrive_140 : decode cX4_ofDrive 140 = .ok (.goto 4, 3) := by decide +kernel
theorem dX4_ofDrive_143 : decode cX4_ofDrive 143 = .ok (.iconst 0, 1) := by decide +kernel
theorem dX4_ofDrive_144 : decode cX4_ofDrive 144 = .ok (.ireturn, 1) := by decide +kernel
theorem dX4_ofDrive_145 : decode cX4_ofDrive 145 = .ok (.aload_n 3, 1) := by decide +kernel
theorem dX4_ofDrive_146 : decode cX4_ofDrive 146 = .ok (.getfield 106, 3) := by decide +kernel
theorem dX4_ofDrive_149 : decode cX4_ofDrive 149 = .ok (.ireturn, 1) := by decide +kernel
theorem dX4_ofDrive_150 : decode cX4_ofDrive 150 = .ok (.aload_n 3, 1) := by decide +kernel
theorem dX4_ofDrive_151 : decode cX4_ofDrive 151 = .ok (.getfield 109, 3) := by decide +kernel
theorem dX4_ofDrive_154 : decode cX4_ofDrive 154 = .ok (.ireturn, 1) := by decide +kernel
theorem dX4_ofDrive_155 : decode cX4_ofDrive 155 = .ok (.aload_n 3, 1) := by decide +kernel
theorem dX4_ofDrive_156 : decode cX4_ofDrive 156 = .ok (.getfield 112, 3) := by decide +kernel
theorem dX4_ofDrive_159 : decode cX4_ofDrive 159 = .ok (.ireturn, 1) := by decide +kernel
theorem dX4_ofDrive_160 : decode cX4_ofDrive 160 = .ok (.aload_n 3, 1) := by decide +kernel
theorem dX4_ofDrive_161 : decode cX4_ofDrive 161 = .ok (.invokevirtual 115, 3) := by decide +kernel
theorem dX4_ofDrive_164 : decode cX4_ofDrive 164 = .ok (.ireturn, 1) := by decide +kernel
theorem dX4_ofDrive_165 : decode cX4_ofDrive 165 = .ok (.aload_n 3, 1) := by decide +kernel
theorem dX4_ofDrive_166 : decode cX4_ofDrive 166 = .ok (.iconst 2, 1) := by decide +kernel
theorem dX4_ofDrive_167 : decode cX4_ofDrive 167 = .ok (.invokevirtual 118, 3) := by decide +kernel
theorem dX4_ofDrive_170 : decode cX4_ofDrive 170 = .ok (.ireturn, 1) := by decide +kernel
theorem dX4_ofDrive_171 : decode cX4_ofDrive 171 = .ok (.aload_n 3, 1) := by decide +kernel
theorem dX4_ofDrive_172 : decode cX4_ofDrive 172 = .ok (.iconst 3, 1) := by decide +kernel
theorem dX4_ofDrive_173 : decode cX4_ofDrive 173 = .ok (.invokevirtual 118, 3) := by decide +kernel
theorem dX4_ofDrive_176 : decode cX4_ofDrive 176 = .ok (.ireturn, 1) := by decide +kernel
theorem dX4_ofDrive_177 : decode cX4_ofDrive 177 = .ok (.aload_n 3, 1) := by decide +kernel
theorem dX4_ofDrive_178 : decode cX4_ofDrive 178 = .ok (.getfield 121, 3) := by decide +kernel
theorem dX4_ofDrive_181 : decode cX4_ofDrive 181 = .ok (.ireturn, 1) := by decide +kernel
theorem dX4_ofDrive_182 : decode cX4_ofDrive 182 = .ok (.aload_n 3, 1) := by decide +kernel
theorem dX4_ofDrive_183 : decode cX4_ofDrive 183 = .ok (.getfield 124, 3) := by decide +kernel
theorem dX4_ofDrive_186 : decode cX4_ofDrive 186 = .ok (.ireturn, 1) := by decide +kernel
theorem dX4_ofDrive_187 : decode cX4_ofDrive 187 = .ok (.bipush (-2), 2) := by decide +kernel
theorem dX4_ofDrive_189 : decode cX4_ofDrive 189 = .ok (.ireturn, 1) := by decide +kernel
theorem dX4_hour_0 : decode cX4_hour 0 = .ok (.iload_n 1, 1) := by decide +kernel
theorem dX4_hour_1 : decode cX4_hour 1 = .ok (.invokestatic 72, 3) := by decide +kernel
theorem dX4_hour_4 : decode cX4_hour 4 = .ok (.ifCond .ne 5, 3) := by decide +kernel
theorem dX4_hour_7 : decode cX4_hour 7 = .ok (.iconst (-1), 1) := by decide +kernel
theorem dX4_hour_8 : decode cX4_hour 8 = .ok (.ireturn, 1) := by decide +kernel
theorem dX4_hour_9 : decode cX4_hour 9 = .ok (.iload_n 2, 1) := by decide +kernel
theorem dX4_hour_10 : decode cX4_hour 10 = .ok (.invokestatic 127, 3) := by decide +kernel
theorem dX4_hour_13 : decode cX4_hour 13 = .ok (.ifCond .eq 19, 3) := by decide +kernel
theorem dX4_hour_16 : decode cX4_hour 16 = .ok (.aload_n 0, 1) := by decide +kernel
theorem dX4_hour_17 : decode cX4_hour 17 = .ok (.getfield 10, 3) := by decide +kernel
theorem dX4_hour_20 : decode cX4_hour 20 = .ok (.getfield 76, 3) := by decide +kernel
theorem dX4_hour_23 : decode cX4_hour 23 = .ok (.iload_n 1, 1) := by decide +kernel
theorem dX4_hour_24 : decode cX4_hour 24 = .ok (.aaload, 1) := by decide +kernel
theorem dX4_hour_25 : decode cX4_hour 25 = .ok (.iload_n 2, 1) := by decide +kernel
theorem dX4_hour_26 : decode cX4_hour 26 = .ok (.invokevirtual 130, 3) := by decide +kernel
theorem dX4_hour_29 : decode cX4_hour 29 = .ok (.goto 5, 3) := by decide +kernel
theorem dX4_hour_32 : decode cX4_hour 32 = .ok (.bipush (-2), 2) := by decide +kernel
theorem dX4_hour_34 : decode cX4_hour 34 = .ok (.ireturn, 1) := by decide +kernel
theorem dX4_streak_0 : decode cX4_streak 0 = .ok (.iload_n 1, 1) := by decide +kernel
theorem dX4_streak_1 : decode cX4_streak 1 = .ok (.invokestatic 72, 3) := by decide +kernel
theorem dX4_streak_4 : decode cX4_streak 4 = .ok (.ifCond .eq 18, 3) := by decide +kernel
theorem dX4_streak_7 : decode cX4_streak 7 = .ok (.aload_n 0, 1) := by decide +kernel
theorem dX4_streak_8 : decode cX4_streak 8 = .ok (.getfield 10, 3) := by decide +kernel
theorem dX4_streak_11 : decode cX4_streak 11 = .ok (.getfield 76, 3) := by decide +kernel
theorem dX4_streak_14 : decode cX4_streak 14 = .ok (.iload_n 1, 1) := by decide +kernel
theorem dX4_streak_15 : decode cX4_streak 15 = .ok (.aaload, 1) := by decide +kernel
theorem dX4_streak_16 : decode cX4_streak 16 = .ok (.invokevirtual 133, 3) := by decide +kernel
theorem dX4_streak_19 : decode cX4_streak 19 = .ok (.goto 4, 3) := by decide +kernel
theorem dX4_streak_22 : decode cX4_streak 22 = .ok (.iconst (-1), 1) := by decide +kernel
theorem dX4_streak_23 : decode cX4_streak 23 = .ok (.ireturn, 1) := by decide +kernel
theorem dX4_share_0 : decode cX4_share 0 = .ok (.iload_n 1, 1) := by decide +kernel
theorem dX4_share_1 : decode cX4_share 1 = .ok (.invokestatic 72, 3) := by decide +kernel
theorem dX4_share_4 : decode cX4_share 4 = .ok (.ifCond .ne 5, 3) := by decide +kernel
theorem dX4_share_7 : decode cX4_share 7 = .ok (.iconst (-1), 1) := by decide +kernel
theorem dX4_share_8 : decode cX4_share 8 = .ok (.ireturn, 1) := by decide +kernel
theorem dX4_share_9 : decode cX4_share 9 = .ok (.aload_n 0, 1) := by decide +kernel
theorem dX4_share_10 : decode cX4_share 10 = .ok (.getfield 10, 3) := by decide +kernel
theorem dX4_share_13 : decode cX4_share 13 = .ok (.getfield 76, 3) := by decide +kernel
theorem dX4_share_16 : decode cX4_share 16 = .ok (.iload_n 1, 1) := by decide +kernel
theorem dX4_share_17 : decode cX4_share 17 = .ok (.aaload, 1) := by decide +kernel
theorem dX4_share_18 : decode cX4_share 18 = .ok (.iconst 2, 1) := by decide +kernel
theorem dX4_share_19 : decode cX4_share 19 = .ok (.invokevirtual 118, 3) := by decide +kernel
theorem dX4_share_22 : decode cX4_share 22 = .ok (.istore_n 2, 1) := by decide +kernel
theorem dX4_share_23 : decode cX4_share 23 = .ok (.iload_n 2, 1) := by decide +kernel
theorem dX4_share_24 : decode cX4_share 24 = .ok (.aload_n 0, 1) := by decide +kernel
theorem dX4_share_25 : decode cX4_share 25 = .ok (.getfield 10, 3) := by decide +kernel
theorem dX4_share_28 : decode cX4_share 28 = .ok (.getfield 76, 3) := by decide +kernel
theorem dX4_share_31 : decode cX4_share 31 = .ok (.iload_n 1, 1) := by decide +kernel
theorem dX4_share_32 : decode cX4_share 32 = .ok (.aaload, 1) := by decide +kernel
theorem dX4_share_33 : decode cX4_share 33 = .ok (.iconst 3, 1) := by decide +kernel
theorem dX4_share_34 : decode cX4_share 34 = .ok (.invokevirtual 118, 3) := by decide +kernel
theorem dX4_share_37 : decode cX4_share 37 = .ok (.iadd, 1) := by decide +kernel
theorem dX4_share_38 : decode cX4_share 38 = .ok (.istore_n 3, 1) := by decide +kernel
theorem dX4_share_39 : decode cX4_share 39 = .ok (.iload_n 3, 1) := by decide +kernel
theorem dX4_share_40 : decode cX4_share 40 = .ok (.ifCond .le 15, 3) := by decide +kernel
theorem dX4_share_43 : decode cX4_share 43 = .ok (.iload_n 2, 1) := by decide +kernel
theorem dX4_share_44 : decode cX4_share 44 = .ok (.i2d, 1) := by decide +kernel
theorem dX4_share_45 : decode cX4_share 45 = .ok (.iload_n 3, 1) := by decide +kernel
theorem dX4_share_46 : decode cX4_share 46 = .ok (.i2d, 1) := by decide +kernel
theorem dX4_share_47 : decode cX4_share 47 = .ok (.ddiv, 1) := by decide +kernel
theorem dX4_share_48 : decode cX4_share 48 = .ok (.d2f, 1) := by decide +kernel
theorem dX4_share_49 : decode cX4_share 49 = .ok (.invokestatic 136, 3) := by decide +kernel
theorem dX4_share_52 : decode cX4_share 52 = .ok (.goto 5, 3) := by decide +kernel
theorem dX4_share_55 : decode cX4_share 55 = .ok (.bipush (-6), 2) := by decide +kernel
theorem dX4_share_57 : decode cX4_share 57 = .ok (.ireturn, 1) := by decide +kernel
theorem dX4_count_0 : decode cX4_count 0 = .ok (.iload_n 1, 1) := by decide +kernel
theorem dX4_count_1 : decode cX4_count 1 = .ok (.bipush 6, 2) := by decide +kernel
theorem dX4_count_3 : decode cX4_count 3 = .ok (.if_icmp .lt 22, 3) := by decide +kernel
theorem dX4_count_6 : decode cX4_count 6 = .ok (.iload_n 1, 1) := by decide +kernel
theorem dX4_count_7 : decode cX4_count 7 = .ok (.bipush 13, 2) := by decide +kernel
theorem dX4_count_9 : decode cX4_count 9 = .ok (.if_icmp .ge 16, 3) := by decide +kernel
theorem dX4_count_12 : decode cX4_count 12 = .ok (.aload_n 0, 1) := by decide +kernel
theorem dX4_count_13 : decode cX4_count 13 = .ok (.getfield 10, 3) := by decide +kernel
theorem dX4_count_16 : decode cX4_count 16 = .ok (.getfield 153, 3) := by decide +kernel
theorem dX4_count_19 : decode cX4_count 19 = .ok (.iload_n 1, 1) := by decide +kernel
theorem dX4_count_20 : decode cX4_count 20 = .ok (.bipush 6, 2) := by decide +kernel
theorem dX4_count_22 : decode cX4_count 22 = .ok (.isub, 1) := by decide +kernel
theorem dX4_count_23 : decode cX4_count 23 = .ok (.iaload, 1) := by decide +kernel
theorem dX4_count_24 : decode cX4_count 24 = .ok (.ireturn, 1) := by decide +kernel
theorem dX4_count_25 : decode cX4_count 25 = .ok (.iload_n 1, 1) := by decide +kernel
theorem dX4_count_26 : decode cX4_count 26 = .ok (.tableswitch 138 0 14 #[74, 82, 90, 98, 106, 114, 138, 138, 138, 138, 138, 138, 138, 122, 130], 74) := by decide +kernel
theorem dX4_count_100 : decode cX4_count 100 = .ok (.aload_n 0, 1) := by decide +kernel
theorem dX4_count_101 : decode cX4_count 101 = .ok (.getfield 10, 3) := by decide +kernel
theorem dX4_count_104 : decode cX4_count 104 = .ok (.getfield 142, 3) := by decide +kernel
theorem dX4_count_107 : decode cX4_count 107 = .ok (.ireturn, 1) := by decide +kernel
theorem dX4_count_108 : decode cX4_count 108 = .ok (.aload_n 0, 1) := by decide +kernel
theorem dX4_count_109 : decode cX4_count 109 = .ok (.getfield 10, 3) := by decide +kernel
theorem dX4_count_112 : decode cX4_count 112 = .ok (.invokevirtual 95, 3) := by decide +kernel
theorem dX4_count_115 : decode cX4_count 115 = .ok (.ireturn, 1) := by decide +kernel
theorem dX4_count_116 : decode cX4_count 116 = .ok (.aload_n 0, 1) := by decide +kernel
theorem dX4_count_117 : decode cX4_count 117 = .ok (.getfield 10, 3) := by decide +kernel
theorem dX4_count_120 : decode cX4_count 120 = .ok (.getfield 157, 3) := by decide +kernel
theorem dX4_count_123 : decode cX4_count 123 = .ok (.ireturn, 1) := by decide +kernel
theorem dX4_count_124 : decode cX4_count 124 = .ok (.aload_n 0, 1) := by decide +kernel
theorem dX4_count_125 : decode cX4_count 125 = .ok (.getfield 10, 3) := by decide +kernel
theorem dX4_count_128 : decode cX4_count 128 = .ok (.getfield 160, 3) := by decide +kernel
theorem dX4_count_131 : decode cX4_count 131 = .ok (.ireturn, 1) := by decide +kernel
theorem dX4_count_132 : decode cX4_count 132 = .ok (.aload_n 0, 1) := by decide +kernel
theorem dX4_count_133 : decode cX4_count 133 = .ok (.getfield 10, 3) := by decide +kernel
theorem dX4_count_136 : decode cX4_count 136 = .ok (.getfield 163, 3) := by decide +kernel
theorem dX4_count_139 : decode cX4_count 139 = .ok (.ireturn, 1) := by decide +kernel
theorem dX4_count_140 : decode cX4_count 140 = .ok (.aload_n 0, 1) := by decide +kernel
theorem dX4_count_141 : decode cX4_count 141 = .ok (.getfield 10, 3) := by decide +kernel
theorem dX4_count_144 : decode cX4_count 144 = .ok (.getfield 166, 3) := by decide +kernel
theorem dX4_count_147 : decode cX4_count 147 = .ok (.ireturn, 1) := by decide +kernel
theorem dX4_count_148 : decode cX4_count 148 = .ok (.aload_n 0, 1) := by decide +kernel
theorem dX4_count_149 : decode cX4_count 149 = .ok (.getfield 34, 3) := by decide +kernel
theorem dX4_count_152 : decode cX4_count 152 = .ok (.getfield 169, 3) := by decide +kernel
theorem dX4_count_155 : decode cX4_count 155 = .ok (.ireturn, 1) := by decide +kernel
theorem dX4_count_156 : decode cX4_count 156 = .ok (.aload_n 0, 1) := by decide +kernel
theorem dX4_count_157 : decode cX4_count 157 = .ok (.getfield 19, 3) := by decide +kernel
theorem dX4_count_160 : decode cX4_count 160 = .ok (.getfield 172, 3) := by decide +kernel
theorem dX4_count_163 : decode cX4_count 163 = .ok (.ireturn, 1) := by decide +kernel
theorem dX4_count_164 : decode cX4_count 164 = .ok (.bipush (-2), 2) := by decide +kernel
theorem dX4_count_166 : decode cX4_count 166 = .ok (.ireturn, 1) := by decide +kernel
theorem dX4_recorded_0 : decode cX4_recorded 0 = .ok (.iload_n 1, 1) := by decide +kernel
theorem dX4_recorded_1 : decode cX4_recorded 1 = .ok (.ifCond .lt 10, 3) := by decide +kernel
theorem dX4_recorded_4 : decode cX4_recorded 4 = .ok (.aload_n 0, 1) := by decide +kernel
theorem dX4_recorded_5 : decode cX4_recorded 5 = .ok (.getfield 19, 3) := by decide +kernel
theorem dX4_recorded_8 : decode cX4_recorded 8 = .ok (.invokevirtual 221, 3) := by decide +kernel
theorem dX4_recorded_11 : decode cX4_recorded 11 = .ok (.iload_n 1, 1) := by decide +kernel
theorem dX4_recorded_12 : decode cX4_recorded 12 = .ok (.ireturn, 1) := by decide +kernel
theorem dX4_isDrive_0 : decode cX4_isDrive 0 = .ok (.iload_n 0, 1) := by decide +kernel
theorem dX4_isDrive_1 : decode cX4_isDrive 1 = .ok (.ifCond .lt 12, 3) := by decide +kernel
theorem dX4_isDrive_4 : decode cX4_isDrive 4 = .ok (.iload_n 0, 1) := by decide +kernel
theorem dX4_isDrive_5 : decode cX4_isDrive 5 = .ok (.iconst 4, 1) := by decide +kernel
theorem dX4_isDrive_6 : decode cX4_isDrive 6 = .ok (.if_icmp .ge 7, 3) := by decide +kernel
theorem dX4_isDrive_9 : decode cX4_isDrive 9 = .ok (.iconst 1, 1) := by decide +kernel
theorem dX4_isDrive_10 : decode cX4_isDrive 10 = .ok (.goto 4, 3) := by decide +kernel
theorem dX4_isDrive_13 : decode cX4_isDrive 13 = .ok (.iconst 0, 1) := by decide +kernel
theorem dX4_isDrive_14 : decode cX4_isDrive 14 = .ok (.ireturn, 1) := by decide +kernel
theorem dX4_twinOf_0 : decode cX4_twinOf 0 = .ok (.iload_n 0, 1) := by decide +kernel
theorem dX4_twinOf_1 : decode cX4_twinOf 1 = .ok (.iconst 2, 1) := by decide +kernel
theorem dX4_twinOf_2 : decode cX4_twinOf 2 = .ok (.irem, 1) := by decide +kernel
theorem dX4_twinOf_3 : decode cX4_twinOf 3 = .ok (.ifCond .ne 9, 3) := by decide +kernel
theorem dX4_twinOf_6 : decode cX4_twinOf 6 = .ok (.iload_n 0, 1) := by decide +kernel
theorem dX4_twinOf_7 : decode cX4_twinOf 7 = .ok (.iconst 1, 1) := by decide +kernel
theorem dX4_twinOf_8 : decode cX4_twinOf 8 = .ok (.iadd, 1) := by decide +kernel
theorem dX4_twinOf_9 : decode cX4_twinOf 9 = .ok (.goto 6, 3) := by decide +kernel
theorem dX4_twinOf_12 : decode cX4_twinOf 12 = .ok (.iload_n 0, 1) := by decide +kernel
theorem dX4_twinOf_13 : decode cX4_twinOf 13 = .ok (.iconst 1, 1) := by decide +kernel
theorem dX4_twinOf_14 : decode cX4_twinOf 14 = .ok (.isub, 1) := by decide +kernel
theorem dX4_twinOf_15 : decode cX4_twinOf 15 = .ok (.ireturn, 1) := by decide +kernel
theorem dX4_isHour_0 : decode cX4_isHour 0 = .ok (.iload_n 0, 1) := by decide +kernel
theorem dX4_isHour_1 : decode cX4_isHour 1 = .ok (.ifCond .lt 13, 3) := by decide +kernel
theorem dX4_isHour_4 : decode cX4_isHour 4 = .ok (.iload_n 0, 1) := by decide +kernel
theorem dX4_isHour_5 : decode cX4_isHour 5 = .ok (.bipush 100, 2) := by decide +kernel
theorem dX4_isHour_7 : decode cX4_isHour 7 = .ok (.if_icmp .ge 7, 3) := by decide +kernel
theorem dX4_isHour_10 : decode cX4_isHour 10 = .ok (.iconst 1, 1) := by decide +kernel
theorem dX4_isHour_11 : decode cX4_isHour 11 = .ok (.goto 4, 3) := by decide +kernel
theorem dX4_isHour_14 : decode cX4_isHour 14 = .ok (.iconst 0, 1) := by decide +kernel
theorem dX4_isHour_15 : decode cX4_isHour 15 = .ok (.ireturn, 1) := by decide +kernel
theorem dX4_arePassable_0 : decode cX4_arePassable 0 = .ok (.iload_n 0, 1) := by decide +kernel
theorem dX4_arePassable_1 : decode cX4_arePassable 1 = .ok (.iconst 1, 1) := by decide +kernel
theorem dX4_arePassable_2 : decode cX4_arePassable 2 = .ok (.if_icmp .lt 14, 3) := by decide +kernel
theorem dX4_arePassable_5 : decode cX4_arePassable 5 = .ok (.iload_n 0, 1) := by decide +kernel
theorem dX4_arePassable_6 : decode cX4_arePassable 6 = .ok (.sipush 600, 3) := by decide +kernel
theorem dX4_arePassable_9 : decode cX4_arePassable 9 = .ok (.if_icmp .gt 7, 3) := by decide +kernel
theorem dX4_arePassable_12 : decode cX4_arePassable 12 = .ok (.iconst 1, 1) := by decide +kernel
theorem dX4_arePassable_13 : decode cX4_arePassable 13 = .ok (.goto 4, 3) := by decide +kernel
theorem dX4_arePassable_16 : decode cX4_arePassable 16 = .ok (.iconst 0, 1) := by decide +kernel
theorem dX4_arePassable_17 : decode cX4_arePassable 17 = .ok (.ireturn, 1) := by decide +kernel
theorem dX4_doubleBits_0 : decode cX4_doubleBits 0 = .ok (.dload_n 0, 1) := by decide +kernel
theorem dX4_doubleBits_1 : decode cX4_doubleBits 1 = .ok (.dconst 0, 1) := by decide +kernel
theorem dX4_doubleBits_2 : decode cX4_doubleBits 2 = .ok (.dcmp .l, 1) := by decide +kernel
theorem dX4_doubleBits_3 : decode cX4_doubleBits 3 = .ok (.ifCond .gt 5, 3) := by decide +kernel
theorem dX4_doubleBits_6 : decode cX4_doubleBits 6 = .ok (.lconst 0, 1) := by decide +kernel
theorem dX4_doubleBits_7 : decode cX4_doubleBits 7 = .ok (.lreturn, 1) := by decide +kernel
theorem dX4_doubleBits_8 : decode cX4_doubleBits 8 = .ok (.dload_n 0, 1) := by decide +kernel
theorem dX4_doubleBits_9 : decode cX4_doubleBits 9 = .ok (.dstore_n 2, 1) := by decide +kernel
theorem dX4_doubleBits_10 : decode cX4_doubleBits 10 = .ok (.iconst 0, 1) := by decide +kernel
theorem dX4_doubleBits_11 : decode cX4_doubleBits 11 = .ok (.istore 4, 2) := by decide +kernel
theorem dX4_doubleBits_13 : decode cX4_doubleBits 13 = .ok (.dload_n 2, 1) := by decide +kernel
theorem dX4_doubleBits_14 : decode cX4_doubleBits 14 = .ok (.ldc2_w 261, 3) := by decide +kernel
theorem dX4_doubleBits_17 : decode cX4_doubleBits 17 = .ok (.dcmp .l, 1) := by decide +kernel
theorem dX4_doubleBits_18 : decode cX4_doubleBits 18 = .ok (.ifCond .lt 23, 3) := by decide +kernel
theorem dX4_doubleBits_21 : decode cX4_doubleBits 21 = .ok (.iload 4, 2) := by decide +kernel
theorem dX4_doubleBits_23 : decode cX4_doubleBits 23 = .ok (.sipush 1023, 3) := by decide +kernel
theorem dX4_doubleBits_26 : decode cX4_doubleBits 26 = .ok (.if_icmp .ge 15, 3) := by decide +kernel
theorem dX4_doubleBits_29 : decode cX4_doubleBits 29 = .ok (.dload_n 2, 1) := by decide +kernel
theorem dX4_doubleBits_30 : decode cX4_doubleBits 30 = .ok (.ldc2_w 261, 3) := by decide +kernel
theorem dX4_doubleBits_33 : decode cX4_doubleBits 33 = .ok (.ddiv, 1) := by decide +kernel
theorem dX4_doubleBits_34 : decode cX4_doubleBits 34 = .ok (.dstore_n 2, 1) := by decide +kernel
theorem dX4_doubleBits_35 : decode cX4_doubleBits 35 = .ok (.iinc 4 1, 3) := by decide +kernel
theorem dX4_doubleBits_38 : decode cX4_doubleBits 38 = .ok (.goto (-25), 3) := by decide +kernel
theorem dX4_doubleBits_41 : decode cX4_doubleBits 41 = .ok (.dload_n 2, 1) := by decide +kernel
theorem dX4_doubleBits_42 : decode cX4_doubleBits 42 = .ok (.dconst 1, 1) := by decide +kernel
theorem dX4_doubleBits_43 : decode cX4_doubleBits 43 = .ok (.dcmp .g, 1) := by decide +kernel
theorem dX4_doubleBits_44 : decode cX4_doubleBits 44 = .ok (.ifCond .ge 23, 3) := by decide +kernel
theorem dX4_doubleBits_47 : decode cX4_doubleBits 47 = .ok (.iload 4, 2) := by decide +kernel
theorem dX4_doubleBits_49 : decode cX4_doubleBits 49 = .ok (.sipush (-1022), 3) := by decide +kernel
theorem dX4_doubleBits_52 : decode cX4_doubleBits 52 = .ok (.if_icmp .le 15, 3) := by decide +kernel
theorem dX4_doubleBits_55 : decode cX4_doubleBits 55 = .ok (.dload_n 2, 1) := by decide +kernel
theorem dX4_doubleBits_56 : decode cX4_doubleBits 56 = .ok (.ldc2_w 261, 3) := by decide +kernel
theorem dX4_doubleBits_59 : decode cX4_doubleBits 59 = .ok (.dmul, 1) := by decide +kernel
theorem dX4_doubleBits_60 : decode cX4_doubleBits 60 = .ok (.dstore_n 2, 1) := by decide +kernel
theorem dX4_doubleBits_61 : decode cX4_doubleBits 61 = .ok (.iinc 4 (-1), 3) := by decide +kernel
theorem dX4_doubleBits_64 : decode cX4_doubleBits 64 = .ok (.goto (-23), 3) := by decide +kernel
theorem dX4_doubleBits_67 : decode cX4_doubleBits 67 = .ok (.dload_n 2, 1) := by decide +kernel
theorem dX4_doubleBits_68 : decode cX4_doubleBits 68 = .ok (.dconst 1, 1) := by decide +kernel
theorem dX4_doubleBits_69 : decode cX4_doubleBits 69 = .ok (.dsub, 1) := by decide +kernel
theorem dX4_doubleBits_70 : decode cX4_doubleBits 70 = .ok (.ldc2_w 263, 3) := by decide +kernel
theorem dX4_doubleBits_73 : decode cX4_doubleBits 73 = .ok (.dmul, 1) := by decide +kernel
theorem dX4_doubleBits_74 : decode cX4_doubleBits 74 = .ok (.d2l, 1) := by decide +kernel
theorem dX4_doubleBits_75 : decode cX4_doubleBits 75 = .ok (.lstore 5, 2) := by decide +kernel
theorem dX4_doubleBits_77 : decode cX4_doubleBits 77 = .ok (.iload 4, 2) := by decide +kernel
theorem dX4_doubleBits_79 : decode cX4_doubleBits 79 = .ok (.sipush 1023, 3) := by decide +kernel
theorem dX4_doubleBits_82 : decode cX4_doubleBits 82 = .ok (.iadd, 1) := by decide +kernel
theorem dX4_doubleBits_83 : decode cX4_doubleBits 83 = .ok (.i2l, 1) := by decide +kernel
theorem dX4_doubleBits_84 : decode cX4_doubleBits 84 = .ok (.bipush 52, 2) := by decide +kernel
theorem dX4_doubleBits_86 : decode cX4_doubleBits 86 = .ok (.lshl, 1) := by decide +kernel
theorem dX4_doubleBits_87 : decode cX4_doubleBits 87 = .ok (.lload 5, 2) := by decide +kernel
theorem dX4_doubleBits_89 : decode cX4_doubleBits 89 = .ok (.ladd, 1) := by decide +kernel
theorem dX4_doubleBits_90 : decode cX4_doubleBits 90 = .ok (.lreturn, 1) := by decide +kernel
theorem dX4_floatBits_0 : decode cX4_floatBits 0 = .ok (.fload_n 0, 1) := by decide +kernel
theorem dX4_floatBits_1 : decode cX4_floatBits 1 = .ok (.f2d, 1) := by decide +kernel
theorem dX4_floatBits_2 : decode cX4_floatBits 2 = .ok (.invokestatic 149, 3) := by decide +kernel
theorem dX4_floatBits_5 : decode cX4_floatBits 5 = .ok (.lstore_n 1, 1) := by decide +kernel
theorem dX4_floatBits_6 : decode cX4_floatBits 6 = .ok (.lload_n 1, 1) := by decide +kernel
theorem dX4_floatBits_7 : decode cX4_floatBits 7 = .ok (.lconst 0, 1) := by decide +kernel
theorem dX4_floatBits_8 : decode cX4_floatBits 8 = .ok (.lcmp, 1) := by decide +kernel
theorem dX4_floatBits_9 : decode cX4_floatBits 9 = .ok (.ifCond .ne 5, 3) := by decide +kernel
theorem dX4_floatBits_12 : decode cX4_floatBits 12 = .ok (.iconst 0, 1) := by decide +kernel
theorem dX4_floatBits_13 : decode cX4_floatBits 13 = .ok (.ireturn, 1) := by decide +kernel
theorem dX4_floatBits_14 : decode cX4_floatBits 14 = .ok (.lload_n 1, 1) := by decide +kernel
theorem dX4_floatBits_15 : decode cX4_floatBits 15 = .ok (.bipush 29, 2) := by decide +kernel
theorem dX4_floatBits_17 : decode cX4_floatBits 17 = .ok (.lushr, 1) := by decide +kernel
theorem dX4_floatBits_18 : decode cX4_floatBits 18 = .ok (.lstore_n 3, 1) := by decide +kernel
theorem dX4_floatBits_19 : decode cX4_floatBits 19 = .ok (.lload_n 3, 1) := by decide +kernel
theorem dX4_floatBits_20 : decode cX4_floatBits 20 = .ok (.ldc2_w 265, 3) := by decide +kernel
theorem dX4_floatBits_23 : decode cX4_floatBits 23 = .ok (.lsub, 1) := by decide +kernel
theorem dX4_floatBits_24 : decode cX4_floatBits 24 = .ok (.l2i, 1) := by decide +kernel
theorem dX4_floatBits_25 : decode cX4_floatBits 25 = .ok (.ireturn, 1) := by decide +kernel
theorem dJ9_min_7cf53_0 : decode cJ9_min_7cf53 0 = .ok (.iload_n 0, 1) := by decide +kernel
theorem dJ9_min_7cf53_1 : decode cJ9_min_7cf53 1 = .ok (.iload_n 1, 1) := by decide +kernel
theorem dJ9_min_7cf53_2 : decode cJ9_min_7cf53 2 = .ok (.if_icmp .gt 7, 3) := by decide +kernel
theorem dJ9_min_7cf53_5 : decode cJ9_min_7cf53 5 = .ok (.iload_n 0, 1) := by decide +kernel
theorem dJ9_min_7cf53_6 : decode cJ9_min_7cf53 6 = .ok (.goto 4, 3) := by decide +kernel
theorem dJ9_min_7cf53_9 : decode cJ9_min_7cf53 9 = .ok (.iload_n 1, 1) := by decide +kernel
theorem dJ9_min_7cf53_10 : decode cJ9_min_7cf53 10 = .ok (.ireturn, 1) := by decide +kernel
theorem dL_low_0 : decode cL_low 0 = .ok (.iload_n 0, 1) := by decide +kernel
theorem dL_low_1 : decode cL_low 1 = .ok (.ldc 7, 2) := by decide +kernel
theorem dL_low_3 : decode cL_low 3 = .ok (.iand, 1) := by decide +kernel
theorem dL_low_4 : decode cL_low 4 = .ok (.iload_n 1, 1) := by decide +kernel
theorem dL_low_5 : decode cL_low 5 = .ok (.irem, 1) := by decide +kernel
theorem dL_low_6 : decode cL_low 6 = .ok (.ireturn, 1) := by decide +kernel
theorem dL_cell_0 : decode cL_cell 0 = .ok (.iload_n 1, 1) := by decide +kernel
theorem dL_cell_1 : decode cL_cell 1 = .ok (.aload_n 0, 1) := by decide +kernel
theorem dL_cell_2 : decode cL_cell 2 = .ok (.arraylength, 1) := by decide +kernel
theorem dL_cell_3 : decode cL_cell 3 = .ok (.if_icmp .ge 9, 3) := by decide +kernel
theorem dL_cell_6 : decode cL_cell 6 = .ok (.aload_n 0, 1) := by decide +kernel
theorem dL_cell_7 : decode cL_cell 7 = .ok (.iload_n 1, 1) := by decide +kernel
theorem dL_cell_8 : decode cL_cell 8 = .ok (.iaload, 1) := by decide +kernel
theorem dL_cell_9 : decode cL_cell 9 = .ok (.goto 11, 3) := by decide +kernel
theorem dL_cell_12 : decode cL_cell 12 = .ok (.ldc 8, 2) := by decide +kernel
theorem dL_cell_14 : decode cL_cell 14 = .ok (.iload_n 1, 1) := by decide +kernel
theorem dL_cell_15 : decode cL_cell 15 = .ok (.imul, 1) := by decide +kernel
theorem dL_cell_16 : decode cL_cell 16 = .ok (.sipush 977, 3) := by decide +kernel
theorem dL_cell_19 : decode cL_cell 19 = .ok (.iadd, 1) := by decide +kernel
theorem dL_cell_20 : decode cL_cell 20 = .ok (.ireturn, 1) := by decide +kernel
theorem dL_drive_0 : decode cL_drive 0 = .ok (.aload_n 0, 1) := by decide +kernel
theorem dL_drive_1 : decode cL_drive 1 = .ok (.iload_n 1, 1) := by decide +kernel
theorem dL_drive_2 : decode cL_drive 2 = .ok (.iconst 0, 1) := by decide +kernel
theorem dL_drive_3 : decode cL_drive 3 = .ok (.invokevirtual 9, 3) := by decide +kernel
theorem dL_drive_6 : decode cL_drive 6 = .ok (.ifCond .lt 50, 3) := by decide +kernel
theorem dL_drive_9 : decode cL_drive 9 = .ok (.aload_n 0, 1) := by decide +kernel
theorem dL_drive_10 : decode cL_drive 10 = .ok (.iload_n 1, 1) := by decide +kernel
theorem dL_drive_11 : decode cL_drive 11 = .ok (.iconst 1, 1) := by decide +kernel
theorem dL_drive_12 : decode cL_drive 12 = .ok (.invokevirtual 9, 3) := by decide +kernel
theorem dL_drive_15 : decode cL_drive 15 = .ok (.ifCond .lt 41, 3) := by decide +kernel
theorem dL_drive_18 : decode cL_drive 18 = .ok (.aload_n 0, 1) := by decide +kernel
theorem dL_drive_19 : decode cL_drive 19 = .ok (.iload_n 1, 1) := by decide +kernel
theorem dL_drive_20 : decode cL_drive 20 = .ok (.iconst 2, 1) := by decide +kernel
theorem dL_drive_21 : decode cL_drive 21 = .ok (.invokevirtual 9, 3) := by decide +kernel
theorem dL_drive_24 : decode cL_drive 24 = .ok (.ifCond .lt 32, 3) := by decide +kernel
theorem dL_drive_27 : decode cL_drive 27 = .ok (.aload_n 0, 1) := by decide +kernel
theorem dL_drive_28 : decode cL_drive 28 = .ok (.iload_n 1, 1) := by decide +kernel
theorem dL_drive_29 : decode cL_drive 29 = .ok (.iconst 0, 1) := by decide +kernel
theorem dL_drive_30 : decode cL_drive 30 = .ok (.invokevirtual 9, 3) := by decide +kernel
theorem dL_drive_33 : decode cL_drive 33 = .ok (.aload_n 0, 1) := by decide +kernel
theorem dL_drive_34 : decode cL_drive 34 = .ok (.iload_n 1, 1) := by decide +kernel
theorem dL_drive_35 : decode cL_drive 35 = .ok (.iconst 1, 1) := by decide +kernel
theorem dL_drive_36 : decode cL_drive 36 = .ok (.invokevirtual 9, 3) := by decide +kernel
theorem dL_drive_39 : decode cL_drive 39 = .ok (.iadd, 1) := by decide +kernel
theorem dL_drive_40 : decode cL_drive 40 = .ok (.aload_n 0, 1) := by decide +kernel
theorem dL_drive_41 : decode cL_drive 41 = .ok (.iload_n 1, 1) := by decide +kernel
theorem dL_drive_42 : decode cL_drive 42 = .ok (.iconst 2, 1) := by decide +kernel
theorem dL_drive_43 : decode cL_drive 43 = .ok (.invokevirtual 9, 3) := by decide +kernel
theorem dL_drive_46 : decode cL_drive 46 = .ok (.iadd, 1) := by decide +kernel
theorem dL_drive_47 : decode cL_drive 47 = .ok (.bipush 60, 2) := by decide +kernel
theorem dL_drive_49 : decode cL_drive 49 = .ok (.if_icmp .ne 7, 3) := by decide +kernel
theorem dL_drive_52 : decode cL_drive 52 = .ok (.iconst 1, 1) := by decide +kernel
theorem dL_drive_53 : decode cL_drive 53 = .ok (.goto 4, 3) := by decide +kernel
theorem dL_drive_56 : decode cL_drive 56 = .ok (.iconst 0, 1) := by decide +kernel
theorem dL_drive_57 : decode cL_drive 57 = .ok (.istore_n 2, 1) := by decide +kernel
theorem dL_drive_58 : decode cL_drive 58 = .ok (.iconst 0, 1) := by decide +kernel
theorem dL_drive_59 : decode cL_drive 59 = .ok (.istore_n 3, 1) := by decide +kernel
theorem dL_drive_60 : decode cL_drive 60 = .ok (.iconst 0, 1) := by decide +kernel
theorem dL_drive_61 : decode cL_drive 61 = .ok (.istore 4, 2) := by decide +kernel
theorem dL_drive_63 : decode cL_drive 63 = .ok (.iconst 0, 1) := by decide +kernel
theorem dL_drive_64 : decode cL_drive 64 = .ok (.istore 5, 2) := by decide +kernel
theorem dL_drive_66 : decode cL_drive 66 = .ok (.iconst 0, 1) := by decide +kernel
theorem dL_drive_67 : decode cL_drive 67 = .ok (.istore 6, 2) := by decide +kernel
theorem dL_drive_69 : decode cL_drive 69 = .ok (.iconst 0, 1) := by decide +kernel
theorem dL_drive_70 : decode cL_drive 70 = .ok (.istore 7, 2) := by decide +kernel
theorem dL_drive_72 : decode cL_drive 72 = .ok (.iload 7, 2) := by decide +kernel
theorem dL_drive_74 : decode cL_drive 74 = .ok (.bipush 100, 2) := by decide +kernel
theorem dL_drive_76 : decode cL_drive 76 = .ok (.if_icmp .ge 160, 3) := by decide +kernel
theorem dL_drive_79 : decode cL_drive 79 = .ok (.iload_n 2, 1) := by decide +kernel
theorem dL_drive_80 : decode cL_drive 80 = .ok (.ifCond .eq 156, 3) := by decide +kernel
theorem dL_drive_83 : decode cL_drive 83 = .ok (.aload_n 0, 1) := by decide +kernel
theorem dL_drive_84 : decode cL_drive 84 = .ok (.iload_n 1, 1) := by decide +kernel
theorem dL_drive_85 : decode cL_drive 85 = .ok (.iload 7, 2) := by decide +kernel
theorem dL_drive_87 : decode cL_drive 87 = .ok (.invokevirtual 15, 3) := by decide +kernel
theorem dL_drive_90 : decode cL_drive 90 = .ok (.istore 8, 2) := by decide +kernel
theorem dL_drive_92 : decode cL_drive 92 = .ok (.iload_n 3, 1) := by decide +kernel
theorem dL_drive_93 : decode cL_drive 93 = .ok (.iload 8, 2) := by decide +kernel
theorem dL_drive_95 : decode cL_drive 95 = .ok (.ifCond .le 7, 3) := by decide +kernel
theorem dL_drive_98 : decode cL_drive 98 = .ok (.iconst 1, 1) := by decide +kernel
theorem dL_drive_99 : decode cL_drive 99 = .ok (.goto 4, 3) := by decide +kernel
theorem dL_drive_102 : decode cL_drive 102 = .ok (.iconst 0, 1) := by decide +kernel
theorem dL_drive_103 : decode cL_drive 103 = .ok (.iadd, 1) := by decide +kernel
theorem dL_drive_104 : decode cL_drive 104 = .ok (.istore_n 3, 1) := by decide +kernel
theorem dL_drive_105 : decode cL_drive 105 = .ok (.iload 4, 2) := by decide +kernel
theorem dL_drive_107 : decode cL_drive 107 = .ok (.iload 8, 2) := by decide +kernel
theorem dL_drive_109 : decode cL_drive 109 = .ok (.iconst 2, 1) := by decide +kernel
theorem dL_drive_110 : decode cL_drive 110 = .ok (.if_icmp .ne 7, 3) := by decide +kernel
theorem dL_drive_113 : decode cL_drive 113 = .ok (.iconst 1, 1) := by decide +kernel
theorem dL_drive_114 : decode cL_drive 114 = .ok (.goto 4, 3) := by decide +kernel
theorem dL_drive_117 : decode cL_drive 117 = .ok (.iconst 0, 1) := by decide +kernel
theorem dL_drive_118 : decode cL_drive 118 = .ok (.iadd, 1) := by decide +kernel
theorem dL_drive_119 : decode cL_drive 119 = .ok (.istore 4, 2) := by decide +kernel
theorem dL_drive_121 : decode cL_drive 121 = .ok (.iload 5, 2) := by decide +kernel
theorem dL_drive_123 : decode cL_drive 123 = .ok (.iload 8, 2) := by decide +kernel
theorem dL_drive_125 : decode cL_drive 125 = .ok (.iconst 3, 1) := by decide +kernel
theorem dL_drive_126 : decode cL_drive 126 = .ok (.if_icmp .ne 7, 3) := by decide +kernel
theorem dL_drive_129 : decode cL_drive 129 = .ok (.iconst 1, 1) := by decide +kernel
theorem dL_drive_130 : decode cL_drive 130 = .ok (.goto 4, 3) := by decide +kernel
theorem dL_drive_133 : decode cL_drive 133 = .ok (.iconst 0, 1) := by decide +kernel
theorem dL_drive_134 : decode cL_drive 134 = .ok (.iadd, 1) := by decide +kernel
theorem dL_drive_135 : decode cL_drive 135 = .ok (.istore 5, 2) := by decide +kernel
theorem dL_drive_137 : decode cL_drive 137 = .ok (.iload 8, 2) := by decide +kernel
theorem dL_drive_139 : decode cL_drive 139 = .ok (.iconst 3, 1) := by decide +kernel
theorem dL_drive_140 : decode cL_drive 140 = .ok (.if_icmp .ne 7, 3) := by decide +kernel
theorem dL_drive_143 : decode cL_drive 143 = .ok (.iconst 0, 1) := by decide +kernel
theorem dL_drive_144 : decode cL_drive 144 = .ok (.goto 18, 3) := by decide +kernel
theorem dL_drive_147 : decode cL_drive 147 = .ok (.iload 8, 2) := by decide +kernel
theorem dL_drive_149 : decode cL_drive 149 = .ok (.iconst 2, 1) := by decide +kernel
theorem dL_drive_150 : decode cL_drive 150 = .ok (.if_icmp .ne 10, 3) := by decide +kernel
theorem dL_drive_153 : decode cL_drive 153 = .ok (.iload 6, 2) := by decide +kernel
theorem dL_drive_155 : decode cL_drive 155 = .ok (.iconst 1, 1) := by decide +kernel
theorem dL_drive_156 : decode cL_drive 156 = .ok (.iadd, 1) := by decide +kernel
theorem dL_drive_157 : decode cL_drive 157 = .ok (.goto 5, 3) := by decide +kernel
theorem dL_drive_160 : decode cL_drive 160 = .ok (.iload 6, 2) := by decide +kernel
theorem dL_drive_162 : decode cL_drive 162 = .ok (.istore 6, 2) := by decide +kernel
theorem dL_drive_164 : decode cL_drive 164 = .ok (.iload 8, 2) := by decide +kernel
theorem dL_drive_166 : decode cL_drive 166 = .ok (.iconst 2, 1) := by decide +kernel
theorem dL_drive_167 : decode cL_drive 167 = .ok (.if_icmp .lt 13, 3) := by decide +kernel
theorem dL_drive_170 : decode cL_drive 170 = .ok (.iload 7, 2) := by decide +kernel
theorem dL_drive_172 : decode cL_drive 172 = .ok (.aload_n 0, 1) := by decide +kernel
theorem dL_drive_173 : decode cL_drive 173 = .ok (.iconst 1, 1) := by decide +kernel
theorem dL_drive_174 : decode cL_drive 174 = .ok (.invokevirtual 18, 3) := by decide +kernel
theorem dL_drive_177 : decode cL_drive 177 = .ok (.if_icmp .gt 51, 3) := by decide +kernel
theorem dL_drive_180 : decode cL_drive 180 = .ok (.iload 8, 2) := by decide +kernel
theorem dL_drive_182 : decode cL_drive 182 = .ok (.iconst 2, 1) := by decide +kernel
theorem dL_drive_183 : decode cL_drive 183 = .ok (.if_icmp .ne 19, 3) := by decide +kernel
theorem dL_drive_186 : decode cL_drive 186 = .ok (.bipush 60, 2) := by decide +kernel
theorem dL_drive_188 : decode cL_drive 188 = .ok (.iload 7, 2) := by decide +kernel
theorem dL_drive_190 : decode cL_drive 190 = .ok (.imul, 1) := by decide +kernel
theorem dL_drive_191 : decode cL_drive 191 = .ok (.bipush 60, 2) := by decide +kernel
theorem dL_drive_193 : decode cL_drive 193 = .ok (.iadd, 1) := by decide +kernel
theorem dL_drive_194 : decode cL_drive 194 = .ok (.aload_n 0, 1) := by decide +kernel
theorem dL_drive_195 : decode cL_drive 195 = .ok (.iconst 0, 1) := by decide +kernel
theorem dL_drive_196 : decode cL_drive 196 = .ok (.invokevirtual 18, 3) := by decide +kernel
theorem dL_drive_199 : decode cL_drive 199 = .ok (.if_icmp .ge 29, 3) := by decide +kernel
theorem dL_drive_202 : decode cL_drive 202 = .ok (.iload 8, 2) := by decide +kernel
theorem dL_drive_204 : decode cL_drive 204 = .ok (.iconst 1, 1) := by decide +kernel
theorem dL_drive_205 : decode cL_drive 205 = .ok (.if_icmp .ne 19, 3) := by decide +kernel
theorem dL_drive_208 : decode cL_drive 208 = .ok (.bipush 60, 2) := by decide +kernel
theorem dL_drive_210 : decode cL_drive 210 = .ok (.iload 7, 2) := by decide +kernel
theorem dL_drive_212 : decode cL_drive 212 = .ok (.imul, 1) := by decide +kernel
theorem dL_drive_213 : decode cL_drive 213 = .ok (.bipush 60, 2) := by decide +kernel
theorem dL_drive_215 : decode cL_drive 215 = .ok (.iadd, 1) := by decide +kernel
end
section
theorem dL_drive_216 : decode cL_drive 216 = .ok (.aload_n 0, 1) := by decide +kernel
theorem dL_drive_217 : decode cL_drive 217 = .ok (.iconst 0, 1) := by decide +kernel
theorem dL_drive_218 : decode cL_drive 218 = .ok (.invokevirtual 18, 3) := by decide +kernel
theorem dL_drive_221 : decode cL_drive 221 = .ok (.if_icmp .lt 7, 3) := by decide +kernel
theorem dL_drive_224 : decode cL_drive 224 = .ok (.iconst 1, 1) := by decide +kernel
theorem dL_drive_225 : decode cL_drive 225 = .ok (.goto 4, 3) := by decide +kernel
theorem dL_drive_228 : decode cL_drive 228 = .ok (.iconst 0, 1) := by decide +kernel
theorem dL_drive_229 : decode cL_drive 229 = .ok (.istore_n 2, 1) := by decide +kernel
theorem dL_drive_230 : decode cL_drive 230 = .ok (.iinc 7 1, 3) := by decide +kernel
theorem dL_drive_233 : decode cL_drive 233 = .ok (.goto (-161), 3) := by decide +kernel
theorem dL_drive_236 : decode cL_drive 236 = .ok (.iload_n 2, 1) := by decide +kernel
theorem dL_drive_237 : decode cL_drive 237 = .ok (.ifCond .eq 52, 3) := by decide +kernel
theorem dL_drive_240 : decode cL_drive 240 = .ok (.aload_n 0, 1) := by decide +kernel
theorem dL_drive_241 : decode cL_drive 241 = .ok (.iload_n 1, 1) := by decide +kernel
theorem dL_drive_242 : decode cL_drive 242 = .ok (.bipush 9, 2) := by decide +kernel
theorem dL_drive_244 : decode cL_drive 244 = .ok (.invokevirtual 9, 3) := by decide +kernel
theorem dL_drive_247 : decode cL_drive 247 = .ok (.iload_n 3, 1) := by decide +kernel
theorem dL_drive_248 : decode cL_drive 248 = .ok (.if_icmp .ne 41, 3) := by decide +kernel
theorem dL_drive_251 : decode cL_drive 251 = .ok (.aload_n 0, 1) := by decide +kernel
theorem dL_drive_252 : decode cL_drive 252 = .ok (.iload_n 1, 1) := by decide +kernel
theorem dL_drive_253 : decode cL_drive 253 = .ok (.bipush 10, 2) := by decide +kernel
theorem dL_drive_255 : decode cL_drive 255 = .ok (.invokevirtual 9, 3) := by decide +kernel
theorem dL_drive_258 : decode cL_drive 258 = .ok (.iload 4, 2) := by decide +kernel
theorem dL_drive_260 : decode cL_drive 260 = .ok (.if_icmp .ne 29, 3) := by decide +kernel
theorem dL_drive_263 : decode cL_drive 263 = .ok (.aload_n 0, 1) := by decide +kernel
theorem dL_drive_264 : decode cL_drive 264 = .ok (.iload_n 1, 1) := by decide +kernel
theorem dL_drive_265 : decode cL_drive 265 = .ok (.bipush 11, 2) := by decide +kernel
theorem dL_drive_267 : decode cL_drive 267 = .ok (.invokevirtual 9, 3) := by decide +kernel
theorem dL_drive_270 : decode cL_drive 270 = .ok (.iload 5, 2) := by decide +kernel
theorem dL_drive_272 : decode cL_drive 272 = .ok (.if_icmp .ne 17, 3) := by decide +kernel
theorem dL_drive_275 : decode cL_drive 275 = .ok (.aload_n 0, 1) := by decide +kernel
theorem dL_drive_276 : decode cL_drive 276 = .ok (.iload_n 1, 1) := by decide +kernel
theorem dL_drive_277 : decode cL_drive 277 = .ok (.invokevirtual 22, 3) := by decide +kernel
theorem dL_drive_280 : decode cL_drive 280 = .ok (.iload 6, 2) := by decide +kernel
theorem dL_drive_282 : decode cL_drive 282 = .ok (.if_icmp .ne 7, 3) := by decide +kernel
theorem dL_drive_285 : decode cL_drive 285 = .ok (.iconst 1, 1) := by decide +kernel
theorem dL_drive_286 : decode cL_drive 286 = .ok (.goto 4, 3) := by decide +kernel
theorem dL_drive_289 : decode cL_drive 289 = .ok (.iconst 0, 1) := by decide +kernel
theorem dL_drive_290 : decode cL_drive 290 = .ok (.istore_n 2, 1) := by decide +kernel
theorem dL_drive_291 : decode cL_drive 291 = .ok (.iload_n 2, 1) := by decide +kernel
theorem dL_drive_292 : decode cL_drive 292 = .ok (.ifCond .eq 58, 3) := by decide +kernel
theorem dL_drive_295 : decode cL_drive 295 = .ok (.aload_n 0, 1) := by decide +kernel
theorem dL_drive_296 : decode cL_drive 296 = .ok (.iload_n 1, 1) := by decide +kernel
theorem dL_drive_297 : decode cL_drive 297 = .ok (.iconst 4, 1) := by decide +kernel
theorem dL_drive_298 : decode cL_drive 298 = .ok (.invokevirtual 9, 3) := by decide +kernel
theorem dL_drive_301 : decode cL_drive 301 = .ok (.aload_n 0, 1) := by decide +kernel
theorem dL_drive_302 : decode cL_drive 302 = .ok (.iconst 1, 1) := by decide +kernel
theorem dL_drive_303 : decode cL_drive 303 = .ok (.invokevirtual 18, 3) := by decide +kernel
theorem dL_drive_306 : decode cL_drive 306 = .ok (.bipush 100, 2) := by decide +kernel
theorem dL_drive_308 : decode cL_drive 308 = .ok (.if_icmp .ge 34, 3) := by decide +kernel
theorem dL_drive_311 : decode cL_drive 311 = .ok (.aload_n 0, 1) := by decide +kernel
theorem dL_drive_312 : decode cL_drive 312 = .ok (.iload_n 1, 1) := by decide +kernel
theorem dL_drive_313 : decode cL_drive 313 = .ok (.aload_n 0, 1) := by decide +kernel
theorem dL_drive_314 : decode cL_drive 314 = .ok (.iconst 1, 1) := by decide +kernel
theorem dL_drive_315 : decode cL_drive 315 = .ok (.invokevirtual 18, 3) := by decide +kernel
theorem dL_drive_318 : decode cL_drive 318 = .ok (.bipush 100, 2) := by decide +kernel
theorem dL_drive_320 : decode cL_drive 320 = .ok (.if_icmp .ge 11, 3) := by decide +kernel
theorem dL_drive_323 : decode cL_drive 323 = .ok (.aload_n 0, 1) := by decide +kernel
theorem dL_drive_324 : decode cL_drive 324 = .ok (.iconst 1, 1) := by decide +kernel
theorem dL_drive_325 : decode cL_drive 325 = .ok (.invokevirtual 18, 3) := by decide +kernel
theorem dL_drive_328 : decode cL_drive 328 = .ok (.goto 4, 3) := by decide +kernel
theorem dL_drive_331 : decode cL_drive 331 = .ok (.iconst 0, 1) := by decide +kernel
theorem dL_drive_332 : decode cL_drive 332 = .ok (.invokevirtual 15, 3) := by decide +kernel
theorem dL_drive_335 : decode cL_drive 335 = .ok (.ifCond .le 7, 3) := by decide +kernel
theorem dL_drive_338 : decode cL_drive 338 = .ok (.iconst 1, 1) := by decide +kernel
theorem dL_drive_339 : decode cL_drive 339 = .ok (.goto 4, 3) := by decide +kernel
theorem dL_drive_342 : decode cL_drive 342 = .ok (.iconst 0, 1) := by decide +kernel
theorem dL_drive_343 : decode cL_drive 343 = .ok (.if_icmp .ne 7, 3) := by decide +kernel
theorem dL_drive_346 : decode cL_drive 346 = .ok (.iconst 1, 1) := by decide +kernel
theorem dL_drive_347 : decode cL_drive 347 = .ok (.goto 4, 3) := by decide +kernel
theorem dL_drive_350 : decode cL_drive 350 = .ok (.iconst 0, 1) := by decide +kernel
theorem dL_drive_351 : decode cL_drive 351 = .ok (.istore_n 2, 1) := by decide +kernel
theorem dL_drive_352 : decode cL_drive 352 = .ok (.iload_n 2, 1) := by decide +kernel
theorem dL_drive_353 : decode cL_drive 353 = .ok (.ifCond .eq 51, 3) := by decide +kernel
theorem dL_drive_356 : decode cL_drive 356 = .ok (.aload_n 0, 1) := by decide +kernel
theorem dL_drive_357 : decode cL_drive 357 = .ok (.iload_n 1, 1) := by decide +kernel
theorem dL_drive_358 : decode cL_drive 358 = .ok (.bipush 8, 2) := by decide +kernel
theorem dL_drive_360 : decode cL_drive 360 = .ok (.invokevirtual 9, 3) := by decide +kernel
theorem dL_drive_363 : decode cL_drive 363 = .ok (.aload_n 0, 1) := by decide +kernel
theorem dL_drive_364 : decode cL_drive 364 = .ok (.iload_n 1, 1) := by decide +kernel
theorem dL_drive_365 : decode cL_drive 365 = .ok (.bipush 7, 2) := by decide +kernel
theorem dL_drive_367 : decode cL_drive 367 = .ok (.invokevirtual 9, 3) := by decide +kernel
theorem dL_drive_370 : decode cL_drive 370 = .ok (.if_icmp .gt 34, 3) := by decide +kernel
theorem dL_drive_373 : decode cL_drive 373 = .ok (.aload_n 0, 1) := by decide +kernel
theorem dL_drive_374 : decode cL_drive 374 = .ok (.iload_n 1, 1) := by decide +kernel
theorem dL_drive_375 : decode cL_drive 375 = .ok (.bipush 7, 2) := by decide +kernel
theorem dL_drive_377 : decode cL_drive 377 = .ok (.invokevirtual 9, 3) := by decide +kernel
theorem dL_drive_380 : decode cL_drive 380 = .ok (.aload_n 0, 1) := by decide +kernel
theorem dL_drive_381 : decode cL_drive 381 = .ok (.iconst 0, 1) := by decide +kernel
theorem dL_drive_382 : decode cL_drive 382 = .ok (.invokevirtual 18, 3) := by decide +kernel
theorem dL_drive_385 : decode cL_drive 385 = .ok (.if_icmp .gt 19, 3) := by decide +kernel
theorem dL_drive_388 : decode cL_drive 388 = .ok (.iload 5, 2) := by decide +kernel
theorem dL_drive_390 : decode cL_drive 390 = .ok (.aload_n 0, 1) := by decide +kernel
theorem dL_drive_391 : decode cL_drive 391 = .ok (.iload_n 1, 1) := by decide +kernel
theorem dL_drive_392 : decode cL_drive 392 = .ok (.bipush 8, 2) := by decide +kernel
theorem dL_drive_394 : decode cL_drive 394 = .ok (.invokevirtual 9, 3) := by decide +kernel
theorem dL_drive_397 : decode cL_drive 397 = .ok (.if_icmp .gt 7, 3) := by decide +kernel
theorem dL_drive_400 : decode cL_drive 400 = .ok (.iconst 1, 1) := by decide +kernel
theorem dL_drive_401 : decode cL_drive 401 = .ok (.goto 4, 3) := by decide +kernel
theorem dL_drive_404 : decode cL_drive 404 = .ok (.iconst 0, 1) := by decide +kernel
theorem dL_drive_405 : decode cL_drive 405 = .ok (.istore_n 2, 1) := by decide +kernel
theorem dL_drive_406 : decode cL_drive 406 = .ok (.iload_n 2, 1) := by decide +kernel
theorem dL_drive_407 : decode cL_drive 407 = .ok (.ifCond .eq 48, 3) := by decide +kernel
theorem dL_drive_410 : decode cL_drive 410 = .ok (.aload_n 0, 1) := by decide +kernel
theorem dL_drive_411 : decode cL_drive 411 = .ok (.iload_n 1, 1) := by decide +kernel
theorem dL_drive_412 : decode cL_drive 412 = .ok (.invokevirtual 25, 3) := by decide +kernel
theorem dL_drive_415 : decode cL_drive 415 = .ok (.bipush (-6), 2) := by decide +kernel
theorem dL_drive_417 : decode cL_drive 417 = .ok (.if_icmp .ne 7, 3) := by decide +kernel
theorem dL_drive_420 : decode cL_drive 420 = .ok (.iconst 1, 1) := by decide +kernel
theorem dL_drive_421 : decode cL_drive 421 = .ok (.goto 4, 3) := by decide +kernel
theorem dL_drive_424 : decode cL_drive 424 = .ok (.iconst 0, 1) := by decide +kernel
theorem dL_drive_425 : decode cL_drive 425 = .ok (.iload 4, 2) := by decide +kernel
theorem dL_drive_427 : decode cL_drive 427 = .ok (.iload 5, 2) := by decide +kernel
theorem dL_drive_429 : decode cL_drive 429 = .ok (.iadd, 1) := by decide +kernel
theorem dL_drive_430 : decode cL_drive 430 = .ok (.ifCond .ne 7, 3) := by decide +kernel
theorem dL_drive_433 : decode cL_drive 433 = .ok (.iconst 1, 1) := by decide +kernel
theorem dL_drive_434 : decode cL_drive 434 = .ok (.goto 4, 3) := by decide +kernel
theorem dL_drive_437 : decode cL_drive 437 = .ok (.iconst 0, 1) := by decide +kernel
theorem dL_drive_438 : decode cL_drive 438 = .ok (.if_icmp .ne 17, 3) := by decide +kernel
theorem dL_drive_441 : decode cL_drive 441 = .ok (.aload_n 0, 1) := by decide +kernel
theorem dL_drive_442 : decode cL_drive 442 = .ok (.iload_n 1, 1) := by decide +kernel
theorem dL_drive_443 : decode cL_drive 443 = .ok (.invokevirtual 22, 3) := by decide +kernel
theorem dL_drive_446 : decode cL_drive 446 = .ok (.iload 4, 2) := by decide +kernel
theorem dL_drive_448 : decode cL_drive 448 = .ok (.if_icmp .gt 7, 3) := by decide +kernel
theorem dL_drive_451 : decode cL_drive 451 = .ok (.iconst 1, 1) := by decide +kernel
theorem dL_drive_452 : decode cL_drive 452 = .ok (.goto 4, 3) := by decide +kernel
theorem dL_drive_455 : decode cL_drive 455 = .ok (.iconst 0, 1) := by decide +kernel
theorem dL_drive_456 : decode cL_drive 456 = .ok (.ireturn, 1) := by decide +kernel
theorem dL_act_0 : decode cL_act 0 = .ok (.aload_n 1, 1) := by decide +kernel
theorem dL_act_1 : decode cL_act 1 = .ok (.iload_n 2, 1) := by decide +kernel
theorem dL_act_2 : decode cL_act 2 = .ok (.iconst 1, 1) := by decide +kernel
theorem dL_act_3 : decode cL_act 3 = .ok (.iadd, 1) := by decide +kernel
theorem dL_act_4 : decode cL_act 4 = .ok (.invokestatic 28, 3) := by decide +kernel
theorem dL_act_7 : decode cL_act 7 = .ok (.iconst 4, 1) := by decide +kernel
theorem dL_act_8 : decode cL_act 8 = .ok (.invokestatic 34, 3) := by decide +kernel
theorem dL_act_11 : decode cL_act 11 = .ok (.istore_n 3, 1) := by decide +kernel
theorem dL_act_12 : decode cL_act 12 = .ok (.aload_n 1, 1) := by decide +kernel
theorem dL_act_13 : decode cL_act 13 = .ok (.iload_n 2, 1) := by decide +kernel
theorem dL_act_14 : decode cL_act 14 = .ok (.iconst 2, 1) := by decide +kernel
theorem dL_act_15 : decode cL_act 15 = .ok (.iadd, 1) := by decide +kernel
theorem dL_act_16 : decode cL_act 16 = .ok (.invokestatic 28, 3) := by decide +kernel
theorem dL_act_19 : decode cL_act 19 = .ok (.istore 4, 2) := by decide +kernel
theorem dL_act_21 : decode cL_act 21 = .ok (.aload_n 1, 1) := by decide +kernel
theorem dL_act_22 : decode cL_act 22 = .ok (.iload_n 2, 1) := by decide +kernel
theorem dL_act_23 : decode cL_act 23 = .ok (.invokestatic 28, 3) := by decide +kernel
theorem dL_act_26 : decode cL_act 26 = .ok (.bipush 6, 2) := by decide +kernel
theorem dL_act_28 : decode cL_act 28 = .ok (.invokestatic 34, 3) := by decide +kernel
theorem dL_act_31 : decode cL_act 31 = .ok (.tableswitch 119 0 3 #[29, 47, 65, 92], 29) := by decide +kernel
theorem dL_act_60 : decode cL_act 60 = .ok (.aload_n 0, 1) := by decide +kernel
theorem dL_act_61 : decode cL_act 61 = .ok (.iload_n 3, 1) := by decide +kernel
theorem dL_act_62 : decode cL_act 62 = .ok (.aload_n 0, 1) := by decide +kernel
theorem dL_act_63 : decode cL_act 63 = .ok (.iconst 1, 1) := by decide +kernel
theorem dL_act_64 : decode cL_act 64 = .ok (.invokevirtual 18, 3) := by decide +kernel
theorem dL_act_67 : decode cL_act 67 = .ok (.iload 4, 2) := by decide +kernel
theorem dL_act_69 : decode cL_act 69 = .ok (.iconst 3, 1) := by decide +kernel
theorem dL_act_70 : decode cL_act 70 = .ok (.invokestatic 34, 3) := by decide +kernel
theorem dL_act_73 : decode cL_act 73 = .ok (.iadd, 1) := by decide +kernel
theorem dL_act_74 : decode cL_act 74 = .ok (.invokevirtual 37, 3) := by decide +kernel
theorem dL_act_77 : decode cL_act 77 = .ok (.ireturn, 1) := by decide +kernel
theorem dL_act_78 : decode cL_act 78 = .ok (.aload_n 0, 1) := by decide +kernel
theorem dL_act_79 : decode cL_act 79 = .ok (.iload_n 3, 1) := by decide +kernel
theorem dL_act_80 : decode cL_act 80 = .ok (.aload_n 0, 1) := by decide +kernel
theorem dL_act_81 : decode cL_act 81 = .ok (.iconst 1, 1) := by decide +kernel
theorem dL_act_82 : decode cL_act 82 = .ok (.invokevirtual 18, 3) := by decide +kernel
theorem dL_act_85 : decode cL_act 85 = .ok (.iload 4, 2) := by decide +kernel
theorem dL_act_87 : decode cL_act 87 = .ok (.iconst 3, 1) := by decide +kernel
theorem dL_act_88 : decode cL_act 88 = .ok (.invokestatic 34, 3) := by decide +kernel
theorem dL_act_91 : decode cL_act 91 = .ok (.iadd, 1) := by decide +kernel
theorem dL_act_92 : decode cL_act 92 = .ok (.invokevirtual 40, 3) := by decide +kernel
theorem dL_act_95 : decode cL_act 95 = .ok (.ireturn, 1) := by decide +kernel
theorem dL_act_96 : decode cL_act 96 = .ok (.aload_n 0, 1) := by decide +kernel
theorem dL_act_97 : decode cL_act 97 = .ok (.iload_n 3, 1) := by decide +kernel
theorem dL_act_98 : decode cL_act 98 = .ok (.iconst 1, 1) := by decide +kernel
theorem dL_act_99 : decode cL_act 99 = .ok (.iload 4, 2) := by decide +kernel
theorem dL_act_101 : decode cL_act 101 = .ok (.bipush 9, 2) := by decide +kernel
theorem dL_act_103 : decode cL_act 103 = .ok (.invokestatic 34, 3) := by decide +kernel
theorem dL_act_106 : decode cL_act 106 = .ok (.iadd, 1) := by decide +kernel
theorem dL_act_107 : decode cL_act 107 = .ok (.aload_n 1, 1) := by decide +kernel
theorem dL_act_108 : decode cL_act 108 = .ok (.iload_n 2, 1) := by decide +kernel
theorem dL_act_109 : decode cL_act 109 = .ok (.iconst 3, 1) := by decide +kernel
theorem dL_act_110 : decode cL_act 110 = .ok (.iadd, 1) := by decide +kernel
theorem dL_act_111 : decode cL_act 111 = .ok (.invokestatic 28, 3) := by decide +kernel
theorem dL_act_114 : decode cL_act 114 = .ok (.bipush 8, 2) := by decide +kernel
theorem dL_act_116 : decode cL_act 116 = .ok (.invokestatic 34, 3) := by decide +kernel
theorem dL_act_119 : decode cL_act 119 = .ok (.invokevirtual 43, 3) := by decide +kernel
theorem dL_act_122 : decode cL_act 122 = .ok (.ireturn, 1) := by decide +kernel
theorem dL_act_123 : decode cL_act 123 = .ok (.aload_n 0, 1) := by decide +kernel
theorem dL_act_124 : decode cL_act 124 = .ok (.iconst 3, 1) := by decide +kernel
theorem dL_act_125 : decode cL_act 125 = .ok (.iload 4, 2) := by decide +kernel
theorem dL_act_127 : decode cL_act 127 = .ok (.iconst 4, 1) := by decide +kernel
theorem dL_act_128 : decode cL_act 128 = .ok (.invokestatic 34, 3) := by decide +kernel
theorem dL_act_131 : decode cL_act 131 = .ok (.iadd, 1) := by decide +kernel
theorem dL_act_132 : decode cL_act 132 = .ok (.iconst 1, 1) := by decide +kernel
theorem dL_act_133 : decode cL_act 133 = .ok (.aload_n 1, 1) := by decide +kernel
theorem dL_act_134 : decode cL_act 134 = .ok (.iload_n 2, 1) := by decide +kernel
theorem dL_act_135 : decode cL_act 135 = .ok (.iconst 3, 1) := by decide +kernel
theorem dL_act_136 : decode cL_act 136 = .ok (.iadd, 1) := by decide +kernel
theorem dL_act_137 : decode cL_act 137 = .ok (.invokestatic 28, 3) := by decide +kernel
theorem dL_act_140 : decode cL_act 140 = .ok (.bipush 20, 2) := by decide +kernel
theorem dL_act_142 : decode cL_act 142 = .ok (.invokestatic 34, 3) := by decide +kernel
theorem dL_act_145 : decode cL_act 145 = .ok (.iadd, 1) := by decide +kernel
theorem dL_act_146 : decode cL_act 146 = .ok (.invokevirtual 47, 3) := by decide +kernel
theorem dL_act_149 : decode cL_act 149 = .ok (.ireturn, 1) := by decide +kernel
theorem dL_act_150 : decode cL_act 150 = .ok (.aload_n 0, 1) := by decide +kernel
theorem dL_act_151 : decode cL_act 151 = .ok (.iload_n 3, 1) := by decide +kernel
theorem dL_act_152 : decode cL_act 152 = .ok (.iconst 1, 1) := by decide +kernel
theorem dL_act_153 : decode cL_act 153 = .ok (.iload 4, 2) := by decide +kernel
theorem dL_act_155 : decode cL_act 155 = .ok (.bipush 70, 2) := by decide +kernel
theorem dL_act_157 : decode cL_act 157 = .ok (.invokestatic 34, 3) := by decide +kernel
theorem dL_act_160 : decode cL_act 160 = .ok (.iadd, 1) := by decide +kernel
theorem dL_act_161 : decode cL_act 161 = .ok (.invokevirtual 50, 3) := by decide +kernel
theorem dL_act_164 : decode cL_act 164 = .ok (.ireturn, 1) := by decide +kernel
theorem dL_law_0 : decode cL_law 0 = .ok (.new 10, 3) := by decide +kernel
theorem dL_law_3 : decode cL_law 3 = .ok (.dup, 1) := by decide +kernel
theorem dL_law_4 : decode cL_law 4 = .ok (.invokespecial 53, 3) := by decide +kernel
theorem dL_law_7 : decode cL_law 7 = .ok (.astore_n 1, 1) := by decide +kernel
theorem dL_law_8 : decode cL_law 8 = .ok (.iconst 1, 1) := by decide +kernel
theorem dL_law_9 : decode cL_law 9 = .ok (.istore_n 2, 1) := by decide +kernel
theorem dL_law_10 : decode cL_law 10 = .ok (.iconst 0, 1) := by decide +kernel
theorem dL_law_11 : decode cL_law 11 = .ok (.istore_n 3, 1) := by decide +kernel
theorem dL_law_12 : decode cL_law 12 = .ok (.aload_n 0, 1) := by decide +kernel
theorem dL_law_13 : decode cL_law 13 = .ok (.arraylength, 1) := by decide +kernel
theorem dL_law_14 : decode cL_law 14 = .ok (.iconst 4, 1) := by decide +kernel
theorem dL_law_15 : decode cL_law 15 = .ok (.idiv, 1) := by decide +kernel
theorem dL_law_16 : decode cL_law 16 = .ok (.bipush 14, 2) := by decide +kernel
theorem dL_law_18 : decode cL_law 18 = .ok (.if_icmp .le 8, 3) := by decide +kernel
theorem dL_law_21 : decode cL_law 21 = .ok (.bipush 14, 2) := by decide +kernel
theorem dL_law_23 : decode cL_law 23 = .ok (.goto 7, 3) := by decide +kernel
theorem dL_law_26 : decode cL_law 26 = .ok (.aload_n 0, 1) := by decide +kernel
theorem dL_law_27 : decode cL_law 27 = .ok (.arraylength, 1) := by decide +kernel
theorem dL_law_28 : decode cL_law 28 = .ok (.iconst 4, 1) := by decide +kernel
theorem dL_law_29 : decode cL_law 29 = .ok (.idiv, 1) := by decide +kernel
theorem dL_law_30 : decode cL_law 30 = .ok (.istore 4, 2) := by decide +kernel
theorem dL_law_32 : decode cL_law 32 = .ok (.iconst 0, 1) := by decide +kernel
theorem dL_law_33 : decode cL_law 33 = .ok (.istore 5, 2) := by decide +kernel
theorem dL_law_35 : decode cL_law 35 = .ok (.iload 5, 2) := by decide +kernel
theorem dL_law_37 : decode cL_law 37 = .ok (.iload 4, 2) := by decide +kernel
theorem dL_law_39 : decode cL_law 39 = .ok (.if_icmp .ge 443, 3) := by decide +kernel
theorem dL_law_42 : decode cL_law 42 = .ok (.iload_n 2, 1) := by decide +kernel
theorem dL_law_43 : decode cL_law 43 = .ok (.ifCond .eq 439, 3) := by decide +kernel
theorem dL_law_46 : decode cL_law 46 = .ok (.aload_n 1, 1) := by decide +kernel
theorem dL_law_47 : decode cL_law 47 = .ok (.iconst 0, 1) := by decide +kernel
theorem dL_law_48 : decode cL_law 48 = .ok (.iconst 3, 1) := by decide +kernel
theorem dL_law_49 : decode cL_law 49 = .ok (.invokevirtual 9, 3) := by decide +kernel
theorem dL_law_52 : decode cL_law 52 = .ok (.aload_n 1, 1) := by decide +kernel
theorem dL_law_53 : decode cL_law 53 = .ok (.iconst 1, 1) := by decide +kernel
theorem dL_law_54 : decode cL_law 54 = .ok (.iconst 3, 1) := by decide +kernel
theorem dL_law_55 : decode cL_law 55 = .ok (.invokevirtual 9, 3) := by decide +kernel
theorem dL_law_58 : decode cL_law 58 = .ok (.iadd, 1) := by decide +kernel
theorem dL_law_59 : decode cL_law 59 = .ok (.aload_n 1, 1) := by decide +kernel
theorem dL_law_60 : decode cL_law 60 = .ok (.iconst 2, 1) := by decide +kernel
theorem dL_law_61 : decode cL_law 61 = .ok (.iconst 3, 1) := by decide +kernel
theorem dL_law_62 : decode cL_law 62 = .ok (.invokevirtual 9, 3) := by decide +kernel
theorem dL_law_65 : decode cL_law 65 = .ok (.iadd, 1) := by decide +kernel
theorem dL_law_66 : decode cL_law 66 = .ok (.aload_n 1, 1) := by decide +kernel
theorem dL_law_67 : decode cL_law 67 = .ok (.iconst 3, 1) := by decide +kernel
theorem dL_law_68 : decode cL_law 68 = .ok (.iconst 3, 1) := by decide +kernel
theorem dL_law_69 : decode cL_law 69 = .ok (.invokevirtual 9, 3) := by decide +kernel
theorem dL_law_72 : decode cL_law 72 = .ok (.iadd, 1) := by decide +kernel
theorem dL_law_73 : decode cL_law 73 = .ok (.istore 6, 2) := by decide +kernel
theorem dL_law_75 : decode cL_law 75 = .ok (.aload_n 1, 1) := by decide +kernel
theorem dL_law_76 : decode cL_law 76 = .ok (.bipush 14, 2) := by decide +kernel
theorem dL_law_78 : decode cL_law 78 = .ok (.invokevirtual 18, 3) := by decide +kernel
theorem dL_law_81 : decode cL_law 81 = .ok (.istore 7, 2) := by decide +kernel
theorem dL_law_83 : decode cL_law 83 = .ok (.aload_n 1, 1) := by decide +kernel
theorem dL_law_84 : decode cL_law 84 = .ok (.aload_n 0, 1) := by decide +kernel
theorem dL_law_85 : decode cL_law 85 = .ok (.iconst 4, 1) := by decide +kernel
theorem dL_law_86 : decode cL_law 86 = .ok (.iload 5, 2) := by decide +kernel
theorem dL_law_88 : decode cL_law 88 = .ok (.imul, 1) := by decide +kernel
theorem dL_law_89 : decode cL_law 89 = .ok (.invokestatic 54, 3) := by decide +kernel
theorem dL_law_92 : decode cL_law 92 = .ok (.istore 8, 2) := by decide +kernel
theorem dL_law_94 : decode cL_law 94 = .ok (.iload 8, 2) := by decide +kernel
theorem dL_law_96 : decode cL_law 96 = .ok (.ifCond .ge 14, 3) := by decide +kernel
theorem dL_law_99 : decode cL_law 99 = .ok (.aload_n 1, 1) := by decide +kernel
theorem dL_law_100 : decode cL_law 100 = .ok (.bipush 14, 2) := by decide +kernel
theorem dL_law_102 : decode cL_law 102 = .ok (.invokevirtual 18, 3) := by decide +kernel
theorem dL_law_105 : decode cL_law 105 = .ok (.iload 7, 2) := by decide +kernel
theorem dL_law_107 : decode cL_law 107 = .ok (.if_icmp .ne 7, 3) := by decide +kernel
theorem dL_law_110 : decode cL_law 110 = .ok (.iconst 1, 1) := by decide +kernel
theorem dL_law_111 : decode cL_law 111 = .ok (.goto 4, 3) := by decide +kernel
theorem dL_law_114 : decode cL_law 114 = .ok (.iconst 0, 1) := by decide +kernel
theorem dL_law_115 : decode cL_law 115 = .ok (.istore_n 2, 1) := by decide +kernel
theorem dL_law_116 : decode cL_law 116 = .ok (.iload_n 3, 1) := by decide +kernel
theorem dL_law_117 : decode cL_law 117 = .ok (.aload_n 1, 1) := by decide +kernel
theorem dL_law_118 : decode cL_law 118 = .ok (.iconst 0, 1) := by decide +kernel
theorem dL_law_119 : decode cL_law 119 = .ok (.iconst 3, 1) := by decide +kernel
theorem dL_law_120 : decode cL_law 120 = .ok (.invokevirtual 9, 3) := by decide +kernel
theorem dL_law_123 : decode cL_law 123 = .ok (.aload_n 1, 1) := by decide +kernel
theorem dL_law_124 : decode cL_law 124 = .ok (.iconst 1, 1) := by decide +kernel
theorem dL_law_125 : decode cL_law 125 = .ok (.iconst 3, 1) := by decide +kernel
theorem dL_law_126 : decode cL_law 126 = .ok (.invokevirtual 9, 3) := by decide +kernel
theorem dL_law_129 : decode cL_law 129 = .ok (.iadd, 1) := by decide +kernel
theorem dL_law_130 : decode cL_law 130 = .ok (.aload_n 1, 1) := by decide +kernel
theorem dL_law_131 : decode cL_law 131 = .ok (.iconst 2, 1) := by decide +kernel
theorem dL_law_132 : decode cL_law 132 = .ok (.iconst 3, 1) := by decide +kernel
theorem dL_law_133 : decode cL_law 133 = .ok (.invokevirtual 9, 3) := by decide +kernel
theorem dL_law_136 : decode cL_law 136 = .ok (.iadd, 1) := by decide +kernel
theorem dL_law_137 : decode cL_law 137 = .ok (.aload_n 1, 1) := by decide +kernel
theorem dL_law_138 : decode cL_law 138 = .ok (.iconst 3, 1) := by decide +kernel
theorem dL_law_139 : decode cL_law 139 = .ok (.iconst 3, 1) := by decide +kernel
theorem dL_law_140 : decode cL_law 140 = .ok (.invokevirtual 9, 3) := by decide +kernel
theorem dL_law_143 : decode cL_law 143 = .ok (.iadd, 1) := by decide +kernel
theorem dL_law_144 : decode cL_law 144 = .ok (.iload 6, 2) := by decide +kernel
theorem dL_law_146 : decode cL_law 146 = .ok (.isub, 1) := by decide +kernel
theorem dL_law_147 : decode cL_law 147 = .ok (.iadd, 1) := by decide +kernel
theorem dL_law_148 : decode cL_law 148 = .ok (.istore_n 3, 1) := by decide +kernel
theorem dL_law_149 : decode cL_law 149 = .ok (.aload_n 0, 1) := by decide +kernel
theorem dL_law_150 : decode cL_law 150 = .ok (.iconst 4, 1) := by decide +kernel
theorem dL_law_151 : decode cL_law 151 = .ok (.iload 5, 2) := by decide +kernel
theorem dL_law_153 : decode cL_law 153 = .ok (.imul, 1) := by decide +kernel
theorem dL_law_154 : decode cL_law 154 = .ok (.iconst 3, 1) := by decide +kernel
theorem dL_law_155 : decode cL_law 155 = .ok (.iadd, 1) := by decide +kernel
theorem dL_law_156 : decode cL_law 156 = .ok (.invokestatic 28, 3) := by decide +kernel
theorem dL_law_159 : decode cL_law 159 = .ok (.bipush 50, 2) := by decide +kernel
theorem dL_law_161 : decode cL_law 161 = .ok (.invokestatic 34, 3) := by decide +kernel
theorem dL_law_164 : decode cL_law 164 = .ok (.istore 9, 2) := by decide +kernel
theorem dL_law_166 : decode cL_law 166 = .ok (.iconst 0, 1) := by decide +kernel
theorem dL_law_167 : decode cL_law 167 = .ok (.istore 10, 2) := by decide +kernel
theorem dL_law_169 : decode cL_law 169 = .ok (.iload 10, 2) := by decide +kernel
theorem dL_law_171 : decode cL_law 171 = .ok (.iload 9, 2) := by decide +kernel
theorem dL_law_173 : decode cL_law 173 = .ok (.if_icmp .ge 277, 3) := by decide +kernel
theorem dL_law_176 : decode cL_law 176 = .ok (.iload_n 2, 1) := by decide +kernel
theorem dL_law_177 : decode cL_law 177 = .ok (.ifCond .eq 273, 3) := by decide +kernel
theorem dL_law_180 : decode cL_law 180 = .ok (.aload_n 1, 1) := by decide +kernel
theorem dL_law_181 : decode cL_law 181 = .ok (.iconst 0, 1) := by decide +kernel
theorem dL_law_182 : decode cL_law 182 = .ok (.invokevirtual 18, 3) := by decide +kernel
theorem dL_law_185 : decode cL_law 185 = .ok (.istore 11, 2) := by decide +kernel
theorem dL_law_187 : decode cL_law 187 = .ok (.aload_n 1, 1) := by decide +kernel
theorem dL_law_188 : decode cL_law 188 = .ok (.iconst 0, 1) := by decide +kernel
theorem dL_law_189 : decode cL_law 189 = .ok (.bipush 8, 2) := by decide +kernel
theorem dL_law_191 : decode cL_law 191 = .ok (.invokevirtual 9, 3) := by decide +kernel
theorem dL_law_194 : decode cL_law 194 = .ok (.aload_n 1, 1) := by decide +kernel
theorem dL_law_195 : decode cL_law 195 = .ok (.iconst 1, 1) := by decide +kernel
theorem dL_law_196 : decode cL_law 196 = .ok (.bipush 8, 2) := by decide +kernel
theorem dL_law_198 : decode cL_law 198 = .ok (.invokevirtual 9, 3) := by decide +kernel
theorem dL_law_201 : decode cL_law 201 = .ok (.iadd, 1) := by decide +kernel
theorem dL_law_202 : decode cL_law 202 = .ok (.aload_n 1, 1) := by decide +kernel
theorem dL_law_203 : decode cL_law 203 = .ok (.iconst 2, 1) := by decide +kernel
theorem dL_law_204 : decode cL_law 204 = .ok (.bipush 8, 2) := by decide +kernel
theorem dL_law_206 : decode cL_law 206 = .ok (.invokevirtual 9, 3) := by decide +kernel
theorem dL_law_209 : decode cL_law 209 = .ok (.iadd, 1) := by decide +kernel
theorem dL_law_210 : decode cL_law 210 = .ok (.aload_n 1, 1) := by decide +kernel
theorem dL_law_211 : decode cL_law 211 = .ok (.iconst 3, 1) := by decide +kernel
theorem dL_law_212 : decode cL_law 212 = .ok (.bipush 8, 2) := by decide +kernel
theorem dL_law_214 : decode cL_law 214 = .ok (.invokevirtual 9, 3) := by decide +kernel
theorem dL_law_217 : decode cL_law 217 = .ok (.iadd, 1) := by decide +kernel
theorem dL_law_218 : decode cL_law 218 = .ok (.istore 12, 2) := by decide +kernel
theorem dL_law_220 : decode cL_law 220 = .ok (.aload_n 1, 1) := by decide +kernel
theorem dL_law_221 : decode cL_law 221 = .ok (.iconst 5, 1) := by decide +kernel
theorem dL_law_222 : decode cL_law 222 = .ok (.invokevirtual 18, 3) := by decide +kernel
theorem dL_law_225 : decode cL_law 225 = .ok (.istore 13, 2) := by decide +kernel
theorem dL_law_227 : decode cL_law 227 = .ok (.aload_n 1, 1) := by decide +kernel
theorem dL_law_228 : decode cL_law 228 = .ok (.iconst 3, 1) := by decide +kernel
theorem dL_law_229 : decode cL_law 229 = .ok (.invokevirtual 18, 3) := by decide +kernel
theorem dL_law_232 : decode cL_law 232 = .ok (.istore 14, 2) := by decide +kernel
theorem dL_law_234 : decode cL_law 234 = .ok (.iconst 0, 1) := by decide +kernel
theorem dL_law_235 : decode cL_law 235 = .ok (.istore 15, 2) := by decide +kernel
theorem dL_law_237 : decode cL_law 237 = .ok (.iload 15, 2) := by decide +kernel
theorem dL_law_239 : decode cL_law 239 = .ok (.iconst 4, 1) := by decide +kernel
theorem dL_law_240 : decode cL_law 240 = .ok (.if_icmp .ge 38, 3) := by decide +kernel
theorem dL_law_243 : decode cL_law 243 = .ok (.iload_n 3, 1) := by decide +kernel
theorem dL_law_244 : decode cL_law 244 = .ok (.iload 11, 2) := by decide +kernel
theorem dL_law_246 : decode cL_law 246 = .ok (.aload_n 1, 1) := by decide +kernel
theorem dL_law_247 : decode cL_law 247 = .ok (.iload 15, 2) := by decide +kernel
theorem dL_law_249 : decode cL_law 249 = .ok (.bipush 12, 2) := by decide +kernel
theorem dL_law_251 : decode cL_law 251 = .ok (.invokevirtual 9, 3) := by decide +kernel
theorem dL_law_254 : decode cL_law 254 = .ok (.irem, 1) := by decide +kernel
theorem dL_law_255 : decode cL_law 255 = .ok (.ifCond .ne 14, 3) := by decide +kernel
theorem dL_law_258 : decode cL_law 258 = .ok (.aload_n 1, 1) := by decide +kernel
theorem dL_law_259 : decode cL_law 259 = .ok (.iload 15, 2) := by decide +kernel
theorem dL_law_261 : decode cL_law 261 = .ok (.bipush 13, 2) := by decide +kernel
theorem dL_law_263 : decode cL_law 263 = .ok (.invokevirtual 9, 3) := by decide +kernel
theorem dL_law_266 : decode cL_law 266 = .ok (.goto 4, 3) := by decide +kernel
theorem dL_law_269 : decode cL_law 269 = .ok (.iconst 0, 1) := by decide +kernel
theorem dL_law_270 : decode cL_law 270 = .ok (.iadd, 1) := by decide +kernel
theorem dL_law_271 : decode cL_law 271 = .ok (.istore_n 3, 1) := by decide +kernel
theorem dL_law_272 : decode cL_law 272 = .ok (.iinc 15 1, 3) := by decide +kernel
theorem dL_law_275 : decode cL_law 275 = .ok (.goto (-38), 3) := by decide +kernel
theorem dL_law_278 : decode cL_law 278 = .ok (.aload_n 1, 1) := by decide +kernel
theorem dL_law_279 : decode cL_law 279 = .ok (.iconst 1, 1) := by decide +kernel
theorem dL_law_280 : decode cL_law 280 = .ok (.invokevirtual 58, 3) := by decide +kernel
theorem dL_law_283 : decode cL_law 283 = .ok (.pop, 1) := by decide +kernel
theorem dL_law_284 : decode cL_law 284 = .ok (.iconst 0, 1) := by decide +kernel
theorem dL_law_285 : decode cL_law 285 = .ok (.istore 15, 2) := by decide +kernel
theorem dL_law_287 : decode cL_law 287 = .ok (.iconst 0, 1) := by decide +kernel
theorem dL_law_288 : decode cL_law 288 = .ok (.istore 16, 2) := by decide +kernel
theorem dL_law_290 : decode cL_law 290 = .ok (.iload 16, 2) := by decide +kernel
theorem dL_law_292 : decode cL_law 292 = .ok (.iconst 4, 1) := by decide +kernel
theorem dL_law_293 : decode cL_law 293 = .ok (.if_icmp .ge 38, 3) := by decide +kernel
theorem dL_law_296 : decode cL_law 296 = .ok (.iload 15, 2) := by decide +kernel
theorem dL_law_298 : decode cL_law 298 = .ok (.aload_n 1, 1) := by decide +kernel
theorem dL_law_299 : decode cL_law 299 = .ok (.iload 16, 2) := by decide +kernel
theorem dL_law_301 : decode cL_law 301 = .ok (.iconst 2, 1) := by decide +kernel
theorem dL_law_302 : decode cL_law 302 = .ok (.invokevirtual 9, 3) := by decide +kernel
theorem dL_law_305 : decode cL_law 305 = .ok (.aload_n 1, 1) := by decide +kernel
theorem dL_law_306 : decode cL_law 306 = .ok (.iload 16, 2) := by decide +kernel
theorem dL_law_308 : decode cL_law 308 = .ok (.iconst 3, 1) := by decide +kernel
theorem dL_law_309 : decode cL_law 309 = .ok (.invokevirtual 9, 3) := by decide +kernel
theorem dL_law_312 : decode cL_law 312 = .ok (.iadd, 1) := by decide +kernel
theorem dL_law_313 : decode cL_law 313 = .ok (.aload_n 1, 1) := by decide +kernel
theorem dL_law_314 : decode cL_law 314 = .ok (.iload 16, 2) := by decide +kernel
theorem dL_law_316 : decode cL_law 316 = .ok (.bipush 6, 2) := by decide +kernel
theorem dL_law_318 : decode cL_law 318 = .ok (.invokevirtual 9, 3) := by decide +kernel
theorem dL_law_321 : decode cL_law 321 = .ok (.iadd, 1) := by decide +kernel
theorem dL_law_322 : decode cL_law 322 = .ok (.iadd, 1) := by decide +kernel
theorem dL_law_323 : decode cL_law 323 = .ok (.istore 15, 2) := by decide +kernel
theorem dL_law_325 : decode cL_law 325 = .ok (.iinc 16 1, 3) := by decide +kernel
theorem dL_law_328 : decode cL_law 328 = .ok (.goto (-38), 3) := by decide +kernel
theorem dL_law_331 : decode cL_law 331 = .ok (.aload_n 1, 1) := by decide +kernel
theorem dL_law_332 : decode cL_law 332 = .ok (.iconst 0, 1) := by decide +kernel
theorem dL_law_333 : decode cL_law 333 = .ok (.bipush 8, 2) := by decide +kernel
theorem dL_law_335 : decode cL_law 335 = .ok (.invokevirtual 9, 3) := by decide +kernel
theorem dL_law_338 : decode cL_law 338 = .ok (.aload_n 1, 1) := by decide +kernel
theorem dL_law_339 : decode cL_law 339 = .ok (.iconst 1, 1) := by decide +kernel
theorem dL_law_340 : decode cL_law 340 = .ok (.bipush 8, 2) := by decide +kernel
theorem dL_law_342 : decode cL_law 342 = .ok (.invokevirtual 9, 3) := by decide +kernel
theorem dL_law_345 : decode cL_law 345 = .ok (.iadd, 1) := by decide +kernel
theorem dL_law_346 : decode cL_law 346 = .ok (.aload_n 1, 1) := by decide +kernel
theorem dL_law_347 : decode cL_law 347 = .ok (.iconst 2, 1) := by decide +kernel
theorem dL_law_348 : decode cL_law 348 = .ok (.bipush 8, 2) := by decide +kernel
theorem dL_law_350 : decode cL_law 350 = .ok (.invokevirtual 9, 3) := by decide +kernel
theorem dL_law_353 : decode cL_law 353 = .ok (.iadd, 1) := by decide +kernel
theorem dL_law_354 : decode cL_law 354 = .ok (.aload_n 1, 1) := by decide +kernel
theorem dL_law_355 : decode cL_law 355 = .ok (.iconst 3, 1) := by decide +kernel
theorem dL_law_356 : decode cL_law 356 = .ok (.bipush 8, 2) := by decide +kernel
theorem dL_law_358 : decode cL_law 358 = .ok (.invokevirtual 9, 3) := by decide +kernel
theorem dL_law_361 : decode cL_law 361 = .ok (.iadd, 1) := by decide +kernel
theorem dL_law_362 : decode cL_law 362 = .ok (.iload 12, 2) := by decide +kernel
theorem dL_law_364 : decode cL_law 364 = .ok (.isub, 1) := by decide +kernel
theorem dL_law_365 : decode cL_law 365 = .ok (.istore 12, 2) := by decide +kernel
theorem dL_law_367 : decode cL_law 367 = .ok (.aload_n 1, 1) := by decide +kernel
theorem dL_law_368 : decode cL_law 368 = .ok (.iconst 5, 1) := by decide +kernel
theorem dL_law_369 : decode cL_law 369 = .ok (.invokevirtual 18, 3) := by decide +kernel
theorem dL_law_372 : decode cL_law 372 = .ok (.iload 13, 2) := by decide +kernel
theorem dL_law_374 : decode cL_law 374 = .ok (.isub, 1) := by decide +kernel
theorem dL_law_375 : decode cL_law 375 = .ok (.istore 16, 2) := by decide +kernel
theorem dL_law_377 : decode cL_law 377 = .ok (.iload 15, 2) := by decide +kernel
theorem dL_law_379 : decode cL_law 379 = .ok (.iload_n 3, 1) := by decide +kernel
theorem dL_law_380 : decode cL_law 380 = .ok (.if_icmp .ne 62, 3) := by decide +kernel
theorem dL_law_383 : decode cL_law 383 = .ok (.aload_n 1, 1) := by decide +kernel
theorem dL_law_384 : decode cL_law 384 = .ok (.iconst 0, 1) := by decide +kernel
theorem dL_law_385 : decode cL_law 385 = .ok (.invokevirtual 18, 3) := by decide +kernel
theorem dL_law_388 : decode cL_law 388 = .ok (.iload 11, 2) := by decide +kernel
theorem dL_law_390 : decode cL_law 390 = .ok (.iconst 1, 1) := by decide +kernel
theorem dL_law_391 : decode cL_law 391 = .ok (.iadd, 1) := by decide +kernel
theorem dL_law_392 : decode cL_law 392 = .ok (.if_icmp .ne 50, 3) := by decide +kernel
theorem dL_law_395 : decode cL_law 395 = .ok (.iload 16, 2) := by decide +kernel
theorem dL_law_397 : decode cL_law 397 = .ok (.ifCond .lt 45, 3) := by decide +kernel
theorem dL_law_400 : decode cL_law 400 = .ok (.iload 16, 2) := by decide +kernel
theorem dL_law_402 : decode cL_law 402 = .ok (.iload 12, 2) := by decide +kernel
theorem dL_law_404 : decode cL_law 404 = .ok (.if_icmp .gt 38, 3) := by decide +kernel
theorem dL_law_407 : decode cL_law 407 = .ok (.aload_n 1, 1) := by decide +kernel
theorem dL_law_408 : decode cL_law 408 = .ok (.iconst 3, 1) := by decide +kernel
theorem dL_law_409 : decode cL_law 409 = .ok (.invokevirtual 18, 3) := by decide +kernel
theorem dL_law_412 : decode cL_law 412 = .ok (.iload 14, 2) := by decide +kernel
theorem dL_law_414 : decode cL_law 414 = .ok (.isub, 1) := by decide +kernel
theorem dL_law_415 : decode cL_law 415 = .ok (.iload 12, 2) := by decide +kernel
theorem dL_law_417 : decode cL_law 417 = .ok (.iload 16, 2) := by decide +kernel
theorem dL_law_419 : decode cL_law 419 = .ok (.isub, 1) := by decide +kernel
theorem dL_law_420 : decode cL_law 420 = .ok (.aload_n 1, 1) := by decide +kernel
theorem dL_law_421 : decode cL_law 421 = .ok (.bipush 7, 2) := by decide +kernel
theorem dL_law_423 : decode cL_law 423 = .ok (.invokevirtual 18, 3) := by decide +kernel
theorem dL_law_426 : decode cL_law 426 = .ok (.imul, 1) := by decide +kernel
theorem dL_law_427 : decode cL_law 427 = .ok (.if_icmp .ne 15, 3) := by decide +kernel
theorem dL_law_430 : decode cL_law 430 = .ok (.aload_n 1, 1) := by decide +kernel
theorem dL_law_431 : decode cL_law 431 = .ok (.iconst 4, 1) := by decide +kernel
theorem dL_law_432 : decode cL_law 432 = .ok (.invokevirtual 18, 3) := by decide +kernel
theorem dL_law_435 : decode cL_law 435 = .ok (.ifCond .lt 7, 3) := by decide +kernel
theorem dL_law_438 : decode cL_law 438 = .ok (.iconst 1, 1) := by decide +kernel
theorem dL_law_439 : decode cL_law 439 = .ok (.goto 4, 3) := by decide +kernel
theorem dL_law_442 : decode cL_law 442 = .ok (.iconst 0, 1) := by decide +kernel
theorem dL_law_443 : decode cL_law 443 = .ok (.istore_n 2, 1) := by decide +kernel
theorem dL_law_444 : decode cL_law 444 = .ok (.iinc 10 1, 3) := by decide +kernel
theorem dL_law_447 : decode cL_law 447 = .ok (.goto (-278), 3) := by decide +kernel
theorem dL_law_450 : decode cL_law 450 = .ok (.iconst 0, 1) := by decide +kernel
theorem dL_law_451 : decode cL_law 451 = .ok (.istore 10, 2) := by decide +kernel
theorem dL_law_453 : decode cL_law 453 = .ok (.iload 10, 2) := by decide +kernel
theorem dL_law_455 : decode cL_law 455 = .ok (.iconst 4, 1) := by decide +kernel
theorem dL_law_456 : decode cL_law 456 = .ok (.if_icmp .ge 20, 3) := by decide +kernel
theorem dL_law_459 : decode cL_law 459 = .ok (.iload_n 2, 1) := by decide +kernel
theorem dL_law_460 : decode cL_law 460 = .ok (.ifCond .eq 16, 3) := by decide +kernel
theorem dL_law_463 : decode cL_law 463 = .ok (.aload_n 1, 1) := by decide +kernel
theorem dL_law_464 : decode cL_law 464 = .ok (.iload 10, 2) := by decide +kernel
theorem dL_law_466 : decode cL_law 466 = .ok (.invokestatic 61, 3) := by decide +kernel
theorem dL_law_469 : decode cL_law 469 = .ok (.istore_n 2, 1) := by decide +kernel
theorem dL_law_470 : decode cL_law 470 = .ok (.iinc 10 1, 3) := by decide +kernel
theorem dL_law_473 : decode cL_law 473 = .ok (.goto (-20), 3) := by decide +kernel
theorem dL_law_476 : decode cL_law 476 = .ok (.iinc 5 1, 3) := by decide +kernel
theorem dL_law_479 : decode cL_law 479 = .ok (.goto (-444), 3) := by decide +kernel
theorem dL_law_482 : decode cL_law 482 = .ok (.iload_n 2, 1) := by decide +kernel
theorem dL_law_483 : decode cL_law 483 = .ok (.ireturn, 1) := by decide +kernel
end
section
/-! THE LAYER: WJ says of a frame with its world (cells, locals by place, stack) what W says for every heap that holds it; a row an instruction, a row a call -/
abbrev GG : Type := va_G × (Nat → ClassId) × (Nat → Nat)
abbrev TY (G : GG) : List (ClassId × FieldType) := [(G.2.1 0, .byte), (G.2.1 1, .char), (G.2.1 2, .int), (G.2.1 3, .int), (G.2.1 4, .boolean), (G.2.1 5, .object "SilentDrives$Drive"), (G.2.1 6, .object "SilentDrives$Station")]
/-- the links between nest mates, which are no words of a list -/
def nestL : List Cond := [.methodLinkNest "SilentDrives$Station" 30 ⟨"SilentDrives$Drive", "<init>", "()V"⟩ "SilentDrives", .methodLinkNest "SilentDrives" 33 ⟨"SilentDrives$Pad", "<init>", "()V"⟩ "SilentDrives", .methodLinkNest "SilentDrives$Station" 57 ⟨"SilentDrives", "isDrive", "(I)Z"⟩ "SilentDrives", .methodLinkNest "SilentDrives$Station" 74 ⟨"SilentDrives", "isHour", "(I)Z"⟩ "SilentDrives", .methodLinkNest "SilentDrives$Drive" 57 ⟨"SilentDrives", "isHour", "(I)Z"⟩ "SilentDrives", .methodLinkNest "SilentDrives$Station" 92 ⟨"SilentDrives", "arePassable", "(I)Z"⟩ "SilentDrives", .methodLinkNest "SilentDrives$Station" 99 ⟨"SilentDrives", "twinOf", "(I)I"⟩ "SilentDrives", .fieldLinkNest "SilentDrives$Station" 21 "SilentDrives" "FIRST_VALUES" "[I" "SilentDrives", .fieldLinkNest "SilentDrives$Station" 51 "SilentDrives" "LEAST_VALUES" "[I" "SilentDrives", .fieldLinkNest "SilentDrives$Station" 54 "SilentDrives" "MOST_VALUES" "[I" "SilentDrives"]
def NW (U : State) : Prop := (∀ w ∈ nestL, va_Nw w U) ∧ va_AO "SilentDrives$Drive" U ∧ va_AO "SilentDrives$Station" U
theorem NW.warm {s U : State} (hW : s.WarmedH U.vm) (h : NW s) : NW U := by
  refine ⟨?_, va_AO.moved hW.alike h.2.1, va_AO.moved hW.alike h.2.2⟩
  intro w hw
  have h1 := h.1 w hw
  simp only [nestL, List.mem_cons, List.not_mem_nil, or_false] at hw
  rcases hw with rfl | rfl | rfl | rfl | rfl | rfl | rfl | rfl | rfl | rfl
  · exact va_Nw.warmM hW h1
  · exact va_Nw.warmM hW h1
  · exact va_Nw.warmM hW h1
  · exact va_Nw.warmM hW h1
  · exact va_Nw.warmM hW h1
  · exact va_Nw.warmM hW h1
  · exact va_Nw.warmM hW h1
  · exact va_Nw.warmF hW h1
  · exact va_Nw.warmF hW h1
  · exact va_Nw.warmF hW h1
theorem NW.same {u U : State} (h : u.vm = U.vm) (hN : NW u) : NW U := by
  refine ⟨?_, va_AO.moved (by rw [h]; exact Vm.Alike.refl _) hN.2.1, va_AO.moved (by rw [h]; exact Vm.Alike.refl _) hN.2.2⟩
  intro w hw
  have h1 := hN.1 w hw
  simp only [nestL, List.mem_cons, List.not_mem_nil, or_false] at hw
  rcases hw with rfl | rfl | rfl | rfl | rfl | rfl | rfl | rfl | rfl | rfl <;> exact va_Nw.same rfl h h1
/-- the three static arrays -/
def vFirst : Nat → Int32 := fun k => ([60, 5, 2, 20, 50, 4, 20] : List Int32).getD k 0
def vLeast : Nat → Int32 := fun k => ([0, 0, 0, 0, 0, 1, 0] : List Int32).getD k 0
def vMost : Nat → Int32 := fun k => ([999, 99, 9, 60, 60, 20, 60] : List Int32).getD k 0
def GS1 (n : String) (t : Nat) (f : Nat → Int32) (A : Nat → Prop) (U : State) (H : Heap) : Prop := va_Z "SilentDrives" n "[I" (.ref t) A U H ∧ va_T .int t 7 (fun k => .int (f k)) A U H
/-- the script, of which nothing is written: its address G.2.2 3, its length G.2.2 4, its ints -/
def scr (G : GG) : Nat → Int32 := fun j => Int32.ofNat (G.2.2 (5 + j))
def SX (G : GG) (A : Nat → Prop) (U : State) (H : Heap) : Prop := va_X (G.2.2 3) (G.2.2 4) (scr G) U H ∧ G.2.2 3 < H.size ∧ ¬ A (G.2.2 3)
def GS (G : GG) (A : Nat → Prop) (U : State) (H : Heap) : Prop := GS1 "FIRST_VALUES" (G.2.2 0) vFirst A U H ∧ GS1 "LEAST_VALUES" (G.2.2 1) vLeast A U H ∧ GS1 "MOST_VALUES" (G.2.2 2) vMost A U H ∧ SX G A U H
theorem GS1.moved {n : String} {t : Nat} {f : Nat → Int32} {A : Nat → Prop} {u U : State} {H : Heap} (hvm : u.vm.Alike U.vm) (h : GS1 n t f A u H) : GS1 n t f A U H := ⟨va_Z.moved hvm h.1, va_T.moved hvm h.2⟩
theorem GS1.kept {n : String} {t : Nat} {f : Nat → Int32} {A : Nat → Prop} {U : State} {H H1 : Heap} (h : GS1 n t f A U H) (hq : ∀ a : Nat, a < H.size → ¬ A a → H1[a]? = H[a]?) : GS1 n t f A U H1 := ⟨va_Z.kept h.1 hq, va_T.kept h.2 hq⟩
theorem GS1.narrow {n : String} {t : Nat} {f : Nat → Int32} {A B : Nat → Prop} {U : State} {H : Heap} (h : GS1 n t f A U H) (hAB : ∀ q, B q → A q) : GS1 n t f B U H := ⟨va_Z.narrow h.1 hAB, va_T.narrow h.2 hAB⟩
theorem SX.moved {G : GG} {A : Nat → Prop} {u U : State} {H : Heap} (hvm : u.vm.Alike U.vm) (h : SX G A u H) : SX G A U H := ⟨va_X.moved hvm h.1, h.2⟩
theorem SX.kept {G : GG} {A : Nat → Prop} {U : State} {H H1 : Heap} (h : SX G A U H) (hq : ∀ a : Nat, a < H.size → ¬ A a → H1[a]? = H[a]?) : SX G A U H1 := by
  have e := hq _ h.2.1 h.2.2
  refine ⟨va_X.kept h.1 e, ?_, h.2.2⟩
  obtain ⟨x, hx⟩ : ∃ x, H[G.2.2 3]? = some x := ⟨_, Array.getElem?_eq_getElem h.2.1⟩
  rw [hx] at e
  exact (Array.getElem?_eq_some_iff.mp e).1
theorem SX.narrow {G : GG} {A B : Nat → Prop} {U : State} {H : Heap} (h : SX G A U H) (hAB : ∀ q, B q → A q) : SX G B U H := ⟨h.1, h.2.1, fun g => h.2.2 (hAB _ g)⟩
theorem GS.moved {G : GG} {A : Nat → Prop} {u U : State} {H : Heap} (hvm : u.vm.Alike U.vm) (h : GS G A u H) : GS G A U H := ⟨h.1.moved hvm, h.2.1.moved hvm, h.2.2.1.moved hvm, h.2.2.2.moved hvm⟩
theorem GS.kept {G : GG} {A : Nat → Prop} {U : State} {H H1 : Heap} (h : GS G A U H) (hq : ∀ a : Nat, a < H.size → ¬ A a → H1[a]? = H[a]?) : GS G A U H1 := ⟨h.1.kept hq, h.2.1.kept hq, h.2.2.1.kept hq, h.2.2.2.kept hq⟩
theorem GS.narrow {G : GG} {A B : Nat → Prop} {U : State} {H : Heap} (h : GS G A U H) (hAB : ∀ q, B q → A q) : GS G B U H := ⟨h.1.narrow hAB, h.2.1.narrow hAB, h.2.2.1.narrow hAB, h.2.2.2.narrow hAB⟩

/-- what a method's body knows all along -/
def Cx (p : Program) (s : State) (m : MethodId) (args : Array Value) (c : Code) (cc : ByteArray) (nL : Nat) (own : String) (G : GG) (A : Nat → Prop) : Prop :=
  p.tables.exec = Jvm.exec ∧ c.code = cc ∧ c.maxLocals = nL ∧ s.vm.findClass own = some m.cls ∧ (∀ w ∈ AW, w.before args s = true) ∧ va_K G.1 vwCl (TY G) s ∧ (∀ q, s.heap.size ≤ q → A q) ∧ NW s ∧ GS G A s s.heap
def WJ (p : Program) (l : Launch) (e : Env) (R : Room) (s : State) (m : MethodId) (args : Array Value) (below : List Frame) (meth : Method) (c : Code) (G : GG) (A : Nat → Prop) (nL cells slots : Nat) (Q : State → Prop) (w : va_W) (lv : List (Nat × Value)) (pc : Nat) (st : List Value) : Prop :=
  ∀ (H : Heap) (locs : List Loc) (ls : Array Slot), va_P G.1 vwCl w H → va_D A w → va_S A s.heap H locs → lv_has ls nL lv → W p l e R s m args below meth c H locs cells slots Q (F0 m pc ls st)
section LAYER
variable {p : Program} {l : Launch} {e : Env} {R : Room} {s : State} {m : MethodId} {args : Array Value} {below : List Frame} {meth : Method} {c : Code} {cc : ByteArray} {own : String} {G : GG} {A : Nat → Prop} {nL cells slots : Nat} {Q : State → Prop} {w : va_W} {lv : List (Nat × Value)} {pc : Nat} {st : List Value}
theorem j_iconst (C : Cx p s m args c cc nL own G A) {n : Int} {v : Int32} (d : decode cc pc = .ok (.iconst n, 1)) (hv : Int32.ofInt n = v) (K : WJ p l e R s m args below meth c G A nL cells slots Q w lv (pc + 1) (.int v :: st)) : WJ p l e R s m args below meth c G A nL cells slots Q w lv pc st := fun H locs ls hP hD hS hl => lv_iconst C.1 C.2.1 d hv (K H locs ls hP hD hS hl)
theorem j_bipush (C : Cx p s m args c cc nL own G A) {n : Int} {v : Int32} (d : decode cc pc = .ok (.bipush n, 2)) (hv : (Int8.ofInt n).toInt32 = v) (K : WJ p l e R s m args below meth c G A nL cells slots Q w lv (pc + 2) (.int v :: st)) : WJ p l e R s m args below meth c G A nL cells slots Q w lv pc st := fun H locs ls hP hD hS hl => lv_bipush C.1 C.2.1 d hv (K H locs ls hP hD hS hl)
theorem j_sipush (C : Cx p s m args c cc nL own G A) {n : Int} {v : Int32} (d : decode cc pc = .ok (.sipush n, 3)) (hv : (Int16.ofInt n).toInt32 = v) (K : WJ p l e R s m args below meth c G A nL cells slots Q w lv (pc + 3) (.int v :: st)) : WJ p l e R s m args below meth c G A nL cells slots Q w lv pc st := fun H locs ls hP hD hS hl => lv_sipush C.1 C.2.1 d hv (K H locs ls hP hD hS hl)
theorem j_lconst (C : Cx p s m args c cc nL own G A) {n : Fin 2} {v : Int64} (d : decode cc pc = .ok (.lconst n, 1)) (hv : Int64.ofNat (n : Nat) = v) (K : WJ p l e R s m args below meth c G A nL cells slots Q w lv (pc + 1) (.long v :: st)) : WJ p l e R s m args below meth c G A nL cells slots Q w lv pc st := fun H locs ls hP hD hS hl => lv_lconst C.1 C.2.1 d hv (K H locs ls hP hD hS hl)
theorem j_iadd (C : Cx p s m args c cc nL own G A) {x y : Int32} {v : Int32} (d : decode cc pc = .ok (.iadd, 1))  (hv : x + y = v) (K : WJ p l e R s m args below meth c G A nL cells slots Q w lv (pc + 1) (.int v :: st)) : WJ p l e R s m args below meth c G A nL cells slots Q w lv pc (.int y :: .int x :: st) := by
  subst hv
  exact fun H locs ls hP hD hS hl => lv_iadd C.1 C.2.1 d  (K H locs ls hP hD hS hl)
theorem j_isub (C : Cx p s m args c cc nL own G A) {x y : Int32} {v : Int32} (d : decode cc pc = .ok (.isub, 1))  (hv : x - y = v) (K : WJ p l e R s m args below meth c G A nL cells slots Q w lv (pc + 1) (.int v :: st)) : WJ p l e R s m args below meth c G A nL cells slots Q w lv pc (.int y :: .int x :: st) := by
  subst hv
  exact fun H locs ls hP hD hS hl => lv_isub C.1 C.2.1 d  (K H locs ls hP hD hS hl)
theorem j_imul (C : Cx p s m args c cc nL own G A) {x y : Int32} {v : Int32} (d : decode cc pc = .ok (.imul, 1))  (hv : x * y = v) (K : WJ p l e R s m args below meth c G A nL cells slots Q w lv (pc + 1) (.int v :: st)) : WJ p l e R s m args below meth c G A nL cells slots Q w lv pc (.int y :: .int x :: st) := by
  subst hv
  exact fun H locs ls hP hD hS hl => lv_imul C.1 C.2.1 d  (K H locs ls hP hD hS hl)
theorem j_iand (C : Cx p s m args c cc nL own G A) {x y : Int32} {v : Int32} (d : decode cc pc = .ok (.iand, 1))  (hv : x &&& y = v) (K : WJ p l e R s m args below meth c G A nL cells slots Q w lv (pc + 1) (.int v :: st)) : WJ p l e R s m args below meth c G A nL cells slots Q w lv pc (.int y :: .int x :: st) := by
  subst hv
  exact fun H locs ls hP hD hS hl => lv_iand C.1 C.2.1 d  (K H locs ls hP hD hS hl)
theorem j_ixor (C : Cx p s m args c cc nL own G A) {x y : Int32} {v : Int32} (d : decode cc pc = .ok (.ixor, 1))  (hv : x ^^^ y = v) (K : WJ p l e R s m args below meth c G A nL cells slots Q w lv (pc + 1) (.int v :: st)) : WJ p l e R s m args below meth c G A nL cells slots Q w lv pc (.int y :: .int x :: st) := by
  subst hv
  exact fun H locs ls hP hD hS hl => lv_ixor C.1 C.2.1 d  (K H locs ls hP hD hS hl)
theorem j_ladd (C : Cx p s m args c cc nL own G A) {x y : Int64} {v : Int64} (d : decode cc pc = .ok (.ladd, 1))  (hv : x + y = v) (K : WJ p l e R s m args below meth c G A nL cells slots Q w lv (pc + 1) (.long v :: st)) : WJ p l e R s m args below meth c G A nL cells slots Q w lv pc (.long y :: .long x :: st) := by
  subst hv
  exact fun H locs ls hP hD hS hl => lv_ladd C.1 C.2.1 d  (K H locs ls hP hD hS hl)
theorem j_lsub (C : Cx p s m args c cc nL own G A) {x y : Int64} {v : Int64} (d : decode cc pc = .ok (.lsub, 1))  (hv : x - y = v) (K : WJ p l e R s m args below meth c G A nL cells slots Q w lv (pc + 1) (.long v :: st)) : WJ p l e R s m args below meth c G A nL cells slots Q w lv pc (.long y :: .long x :: st) := by
  subst hv
  exact fun H locs ls hP hD hS hl => lv_lsub C.1 C.2.1 d  (K H locs ls hP hD hS hl)
theorem j_lmul (C : Cx p s m args c cc nL own G A) {x y : Int64} {v : Int64} (d : decode cc pc = .ok (.lmul, 1))  (hv : x * y = v) (K : WJ p l e R s m args below meth c G A nL cells slots Q w lv (pc + 1) (.long v :: st)) : WJ p l e R s m args below meth c G A nL cells slots Q w lv pc (.long y :: .long x :: st) := by
  subst hv
  exact fun H locs ls hP hD hS hl => lv_lmul C.1 C.2.1 d  (K H locs ls hP hD hS hl)
theorem j_land (C : Cx p s m args c cc nL own G A) {x y : Int64} {v : Int64} (d : decode cc pc = .ok (.land, 1))  (hv : x &&& y = v) (K : WJ p l e R s m args below meth c G A nL cells slots Q w lv (pc + 1) (.long v :: st)) : WJ p l e R s m args below meth c G A nL cells slots Q w lv pc (.long y :: .long x :: st) := by
  subst hv
  exact fun H locs ls hP hD hS hl => lv_land C.1 C.2.1 d  (K H locs ls hP hD hS hl)
theorem j_lor (C : Cx p s m args c cc nL own G A) {x y : Int64} {v : Int64} (d : decode cc pc = .ok (.lor, 1))  (hv : x ||| y = v) (K : WJ p l e R s m args below meth c G A nL cells slots Q w lv (pc + 1) (.long v :: st)) : WJ p l e R s m args below meth c G A nL cells slots Q w lv pc (.long y :: .long x :: st) := by
  subst hv
  exact fun H locs ls hP hD hS hl => lv_lor C.1 C.2.1 d  (K H locs ls hP hD hS hl)
theorem j_idiv (C : Cx p s m args c cc nL own G A) {x y : Int32} {v : Int32} (d : decode cc pc = .ok (.idiv, 1)) (hne : ¬ y = 0) (hv : x / y = v) (K : WJ p l e R s m args below meth c G A nL cells slots Q w lv (pc + 1) (.int v :: st)) : WJ p l e R s m args below meth c G A nL cells slots Q w lv pc (.int y :: .int x :: st) := by
  subst hv
  exact fun H locs ls hP hD hS hl => lv_idiv C.1 C.2.1 d hne (K H locs ls hP hD hS hl)
theorem j_irem (C : Cx p s m args c cc nL own G A) {x y : Int32} {v : Int32} (d : decode cc pc = .ok (.irem, 1)) (hne : ¬ y = 0) (hv : x - x / y * y = v) (K : WJ p l e R s m args below meth c G A nL cells slots Q w lv (pc + 1) (.int v :: st)) : WJ p l e R s m args below meth c G A nL cells slots Q w lv pc (.int y :: .int x :: st) := by
  subst hv
  exact fun H locs ls hP hD hS hl => lv_irem C.1 C.2.1 d hne (K H locs ls hP hD hS hl)
theorem j_ldiv (C : Cx p s m args c cc nL own G A) {x y : Int64} {v : Int64} (d : decode cc pc = .ok (.ldiv, 1)) (hne : ¬ y = 0) (hv : x / y = v) (K : WJ p l e R s m args below meth c G A nL cells slots Q w lv (pc + 1) (.long v :: st)) : WJ p l e R s m args below meth c G A nL cells slots Q w lv pc (.long y :: .long x :: st) := by
  subst hv
  exact fun H locs ls hP hD hS hl => lv_ldiv C.1 C.2.1 d hne (K H locs ls hP hD hS hl)
theorem j_lrem (C : Cx p s m args c cc nL own G A) {x y : Int64} {v : Int64} (d : decode cc pc = .ok (.lrem, 1)) (hne : ¬ y = 0) (hv : x - x / y * y = v) (K : WJ p l e R s m args below meth c G A nL cells slots Q w lv (pc + 1) (.long v :: st)) : WJ p l e R s m args below meth c G A nL cells slots Q w lv pc (.long y :: .long x :: st) := by
  subst hv
  exact fun H locs ls hP hD hS hl => lv_lrem C.1 C.2.1 d hne (K H locs ls hP hD hS hl)
theorem j_i2l (C : Cx p s m args c cc nL own G A) {x : Int32} {v : Int64} (d : decode cc pc = .ok (.i2l, 1))  (hv : x.toInt64 = v) (K : WJ p l e R s m args below meth c G A nL cells slots Q w lv (pc + 1) (.long v :: st)) : WJ p l e R s m args below meth c G A nL cells slots Q w lv pc (.int x :: st) := by
  subst hv
  exact fun H locs ls hP hD hS hl => lv_i2l C.1 C.2.1 d rfl (K H locs ls hP hD hS hl)
theorem j_l2i (C : Cx p s m args c cc nL own G A) {x : Int64} {v : Int32} (d : decode cc pc = .ok (.l2i, 1))  (hv : x.toInt32 = v) (K : WJ p l e R s m args below meth c G A nL cells slots Q w lv (pc + 1) (.int v :: st)) : WJ p l e R s m args below meth c G A nL cells slots Q w lv pc (.long x :: st) := by
  subst hv
  exact fun H locs ls hP hD hS hl => lv_l2i C.1 C.2.1 d rfl (K H locs ls hP hD hS hl)
theorem j_i2b (C : Cx p s m args c cc nL own G A) {x : Int32} {v : Int32} (d : decode cc pc = .ok (.i2b, 1))  (hv : x.toInt8.toInt32 = v) (K : WJ p l e R s m args below meth c G A nL cells slots Q w lv (pc + 1) (.int v :: st)) : WJ p l e R s m args below meth c G A nL cells slots Q w lv pc (.int x :: st) := by
  subst hv
  exact fun H locs ls hP hD hS hl => lv_i2b C.1 C.2.1 d rfl (K H locs ls hP hD hS hl)
theorem j_i2c (C : Cx p s m args c cc nL own G A) {x : Int32} {v : Int32} (d : decode cc pc = .ok (.i2c, 1))  (hv : (x.toUInt32 % 65536).toInt32 = v) (K : WJ p l e R s m args below meth c G A nL cells slots Q w lv (pc + 1) (.int v :: st)) : WJ p l e R s m args below meth c G A nL cells slots Q w lv pc (.int x :: st) := by
  subst hv
  exact fun H locs ls hP hD hS hl => lv_i2c C.1 C.2.1 d rfl (K H locs ls hP hD hS hl)
theorem j_lshl (C : Cx p s m args c cc nL own G A) {x : Int64} {y : Int32} (d : decode cc pc = .ok (.lshl, 1))  (K : WJ p l e R s m args below meth c G A nL cells slots Q w lv (pc + 1) (.long (x <<< (y.toInt64 &&& 63)) :: st)) : WJ p l e R s m args below meth c G A nL cells slots Q w lv pc (.int y :: .long x :: st) := fun H locs ls hP hD hS hl => lv_lshl C.1 C.2.1 d rfl (K H locs ls hP hD hS hl)
theorem j_lshr (C : Cx p s m args c cc nL own G A) {x : Int64} {y : Int32} (d : decode cc pc = .ok (.lshr, 1))  (K : WJ p l e R s m args below meth c G A nL cells slots Q w lv (pc + 1) (.long (x >>> (y.toInt64 &&& 63)) :: st)) : WJ p l e R s m args below meth c G A nL cells slots Q w lv pc (.int y :: .long x :: st) := fun H locs ls hP hD hS hl => lv_lshr C.1 C.2.1 d rfl (K H locs ls hP hD hS hl)
theorem j_lushr (C : Cx p s m args c cc nL own G A) {x : Int64} {y : Int32} (d : decode cc pc = .ok (.lushr, 1))  (K : WJ p l e R s m args below meth c G A nL cells slots Q w lv (pc + 1) (.long (x.toUInt64 >>> (y.toInt64.toUInt64 &&& Int64.toUInt64 63)).toInt64 :: st)) : WJ p l e R s m args below meth c G A nL cells slots Q w lv pc (.int y :: .long x :: st) := fun H locs ls hP hD hS hl => lv_lushr C.1 C.2.1 d rfl (K H locs ls hP hD hS hl)
theorem j_lcmp (C : Cx p s m args c cc nL own G A) {x y : Int64} (d : decode cc pc = .ok (.lcmp, 1))  (K : WJ p l e R s m args below meth c G A nL cells slots Q w lv (pc + 1) (.int (lg_cmp x y) :: st)) : WJ p l e R s m args below meth c G A nL cells slots Q w lv pc (.long y :: .long x :: st) := fun H locs ls hP hD hS hl => W.lcmp C.1 C.2.1 d  (K H locs ls hP hD hS hl)
theorem j_dup (C : Cx p s m args c cc nL own G A) {va : Value} (d : decode cc pc = .ok (.dup, 1)) (h1 : va.category = 1) (K : WJ p l e R s m args below meth c G A nL cells slots Q w lv (pc + 1) (va :: va :: st)) : WJ p l e R s m args below meth c G A nL cells slots Q w lv pc (va :: st) := fun H locs ls hP hD hS hl => lv_dup C.1 C.2.1 d h1 (K H locs ls hP hD hS hl)
theorem j_dup2_11 (C : Cx p s m args c cc nL own G A) {va vb : Value} (d : decode cc pc = .ok (.dup2, 1)) (h1 : va.category = 1) (h2 : vb.category = 1) (K : WJ p l e R s m args below meth c G A nL cells slots Q w lv (pc + 1) (va :: vb :: va :: vb :: st)) : WJ p l e R s m args below meth c G A nL cells slots Q w lv pc (va :: vb :: st) := fun H locs ls hP hD hS hl => lv_dup2_11 C.1 C.2.1 d h1 h2 (K H locs ls hP hD hS hl)
theorem j_dup2_2 (C : Cx p s m args c cc nL own G A) {va : Value} (d : decode cc pc = .ok (.dup2, 1)) (h1 : va.category = 2) (K : WJ p l e R s m args below meth c G A nL cells slots Q w lv (pc + 1) (va :: va :: st)) : WJ p l e R s m args below meth c G A nL cells slots Q w lv pc (va :: st) := fun H locs ls hP hD hS hl => lv_dup2_2 C.1 C.2.1 d h1 (K H locs ls hP hD hS hl)
theorem j_pop (C : Cx p s m args c cc nL own G A) {va : Value} (d : decode cc pc = .ok (.pop, 1)) (h1 : va.category = 1) (K : WJ p l e R s m args below meth c G A nL cells slots Q w lv (pc + 1) st) : WJ p l e R s m args below meth c G A nL cells slots Q w lv pc (va :: st) := fun H locs ls hP hD hS hl => lv_pop C.1 C.2.1 d h1 (K H locs ls hP hD hS hl)
theorem j_pop2_2 (C : Cx p s m args c cc nL own G A) {va : Value} (d : decode cc pc = .ok (.pop2, 1)) (h1 : va.category = 2) (K : WJ p l e R s m args below meth c G A nL cells slots Q w lv (pc + 1) st) : WJ p l e R s m args below meth c G A nL cells slots Q w lv pc (va :: st) := fun H locs ls hP hD hS hl => lv_pop2_2 C.1 C.2.1 d h1 (K H locs ls hP hD hS hl)
theorem j_dconst0 (C : Cx p s m args c cc nL own G A)  (d : decode cc pc = .ok (.dconst 0, 1))  (K : WJ p l e R s m args below meth c G A nL cells slots Q w lv (pc + 1) (.double FP.dconst0 :: st)) : WJ p l e R s m args below meth c G A nL cells slots Q w lv pc st := fun H locs ls hP hD hS hl => lv_dconst0 C.1 C.2.1 d  (K H locs ls hP hD hS hl)
theorem j_dconst1 (C : Cx p s m args c cc nL own G A)  (d : decode cc pc = .ok (.dconst 1, 1))  (K : WJ p l e R s m args below meth c G A nL cells slots Q w lv (pc + 1) (.double FP.dconst1 :: st)) : WJ p l e R s m args below meth c G A nL cells slots Q w lv pc st := fun H locs ls hP hD hS hl => lv_dconst1 C.1 C.2.1 d  (K H locs ls hP hD hS hl)
theorem j_i2d (C : Cx p s m args c cc nL own G A) {x : Int32} (d : decode cc pc = .ok (.i2d, 1))  (K : WJ p l e R s m args below meth c G A nL cells slots Q w lv (pc + 1) (.double (FP.i2d x) :: st)) : WJ p l e R s m args below meth c G A nL cells slots Q w lv pc (.int x :: st) := fun H locs ls hP hD hS hl => lv_i2d C.1 C.2.1 d  (K H locs ls hP hD hS hl)
theorem j_l2d (C : Cx p s m args c cc nL own G A) {x : Int64} (d : decode cc pc = .ok (.l2d, 1))  (K : WJ p l e R s m args below meth c G A nL cells slots Q w lv (pc + 1) (.double (FP.l2d x) :: st)) : WJ p l e R s m args below meth c G A nL cells slots Q w lv pc (.long x :: st) := fun H locs ls hP hD hS hl => lv_l2d C.1 C.2.1 d  (K H locs ls hP hD hS hl)
theorem j_d2l (C : Cx p s m args c cc nL own G A) {x : UInt64} (d : decode cc pc = .ok (.d2l, 1))  (K : WJ p l e R s m args below meth c G A nL cells slots Q w lv (pc + 1) (.long (FP.d2l x) :: st)) : WJ p l e R s m args below meth c G A nL cells slots Q w lv pc (.double x :: st) := fun H locs ls hP hD hS hl => lv_d2l C.1 C.2.1 d  (K H locs ls hP hD hS hl)
theorem j_ddiv (C : Cx p s m args c cc nL own G A) {x y : UInt64} (d : decode cc pc = .ok (.ddiv, 1)) (hn : vf_n64 (FP.ddiv x y)) (K : WJ p l e R s m args below meth c G A nL cells slots Q w lv (pc + 1) (.double (FP.ddiv x y) :: st)) : WJ p l e R s m args below meth c G A nL cells slots Q w lv pc (.double y :: .double x :: st) := fun H locs ls hP hD hS hl => lv_ddiv C.1 C.2.1 d hn (K H locs ls hP hD hS hl)
theorem j_dmul (C : Cx p s m args c cc nL own G A) {x y : UInt64} (d : decode cc pc = .ok (.dmul, 1)) (hn : vf_n64 (FP.dmul x y)) (K : WJ p l e R s m args below meth c G A nL cells slots Q w lv (pc + 1) (.double (FP.dmul x y) :: st)) : WJ p l e R s m args below meth c G A nL cells slots Q w lv pc (.double y :: .double x :: st) := fun H locs ls hP hD hS hl => lv_dmul C.1 C.2.1 d hn (K H locs ls hP hD hS hl)
theorem j_dsub (C : Cx p s m args c cc nL own G A) {x y : UInt64} (d : decode cc pc = .ok (.dsub, 1)) (hn : vf_n64 (FP.dsub x y)) (K : WJ p l e R s m args below meth c G A nL cells slots Q w lv (pc + 1) (.double (FP.dsub x y) :: st)) : WJ p l e R s m args below meth c G A nL cells slots Q w lv pc (.double y :: .double x :: st) := fun H locs ls hP hD hS hl => lv_dsub C.1 C.2.1 d hn (K H locs ls hP hD hS hl)
theorem j_d2f (C : Cx p s m args c cc nL own G A) {x : UInt64} (d : decode cc pc = .ok (.d2f, 1)) (hn : vf_n32 (FP.d2f x)) (K : WJ p l e R s m args below meth c G A nL cells slots Q w lv (pc + 1) (.float (FP.d2f x) :: st)) : WJ p l e R s m args below meth c G A nL cells slots Q w lv pc (.double x :: st) := fun H locs ls hP hD hS hl => lv_d2f C.1 C.2.1 d hn (K H locs ls hP hD hS hl)
theorem j_f2d (C : Cx p s m args c cc nL own G A) {x : UInt32} (d : decode cc pc = .ok (.f2d, 1)) (hn : vf_n64 (FP.f2d x)) (K : WJ p l e R s m args below meth c G A nL cells slots Q w lv (pc + 1) (.double (FP.f2d x) :: st)) : WJ p l e R s m args below meth c G A nL cells slots Q w lv pc (.float x :: st) := fun H locs ls hP hD hS hl => lv_f2d C.1 C.2.1 d hn (K H locs ls hP hD hS hl)
theorem j_dcmp (C : Cx p s m args c cc nL own G A) {x y : UInt64} {op : CmpOp} (d : decode cc pc = .ok (.dcmp op, 1))  (K : WJ p l e R s m args below meth c G A nL cells slots Q w lv (pc + 1) (.int (Op.cmpValue (FP.dcmp x y) op) :: st)) : WJ p l e R s m args below meth c G A nL cells slots Q w lv pc (.double y :: .double x :: st) := fun H locs ls hP hD hS hl => lv_dcmp C.1 C.2.1 d  (K H locs ls hP hD hS hl)
theorem j_fcmp (C : Cx p s m args c cc nL own G A) {x y : UInt32} {op : CmpOp} (d : decode cc pc = .ok (.fcmp op, 1))  (K : WJ p l e R s m args below meth c G A nL cells slots Q w lv (pc + 1) (.int (Op.cmpValue (FP.fcmp x y) op) :: st)) : WJ p l e R s m args below meth c G A nL cells slots Q w lv pc (.float y :: .float x :: st) := fun H locs ls hP hD hS hl => lv_fcmp C.1 C.2.1 d  (K H locs ls hP hD hS hl)
theorem j_iload_n (C : Cx p s m args c cc nL own G A) {k : Fin 4} {x : Int32} (d : decode cc pc = .ok (.iload_n k, 1)) (q : Nat) (hq : lv[q]? = some ((k : Nat), .int x)) (K : WJ p l e R s m args below meth c G A nL cells slots Q w lv (pc + 1) (.int x :: st)) : WJ p l e R s m args below meth c G A nL cells slots Q w lv pc st := fun H locs ls hP hD hS hl => lv_iload_n C.1 C.2.1 d rfl (lv_at hl q hq) (K H locs ls hP hD hS hl)
theorem j_iload (C : Cx p s m args c cc nL own G A) {k : Nat} {x : Int32} (d : decode cc pc = .ok (.iload k, 2)) (q : Nat) (hq : lv[q]? = some (k, .int x)) (K : WJ p l e R s m args below meth c G A nL cells slots Q w lv (pc + 2) (.int x :: st)) : WJ p l e R s m args below meth c G A nL cells slots Q w lv pc st := fun H locs ls hP hD hS hl => lv_iload C.1 C.2.1 d (lv_at hl q hq) (K H locs ls hP hD hS hl)
theorem j_aload_n (C : Cx p s m args c cc nL own G A) {k : Fin 4} {x : Nat} (d : decode cc pc = .ok (.aload_n k, 1)) (q : Nat) (hq : lv[q]? = some ((k : Nat), .ref x)) (K : WJ p l e R s m args below meth c G A nL cells slots Q w lv (pc + 1) (.ref x :: st)) : WJ p l e R s m args below meth c G A nL cells slots Q w lv pc st := fun H locs ls hP hD hS hl => lv_aload_n C.1 C.2.1 d rfl (lv_at hl q hq) (K H locs ls hP hD hS hl)
theorem j_aload (C : Cx p s m args c cc nL own G A) {k : Nat} {x : Nat} (d : decode cc pc = .ok (.aload k, 2)) (q : Nat) (hq : lv[q]? = some (k, .ref x)) (K : WJ p l e R s m args below meth c G A nL cells slots Q w lv (pc + 2) (.ref x :: st)) : WJ p l e R s m args below meth c G A nL cells slots Q w lv pc st := fun H locs ls hP hD hS hl => lv_aload C.1 C.2.1 d (lv_at hl q hq) (K H locs ls hP hD hS hl)
theorem j_lload_n (C : Cx p s m args c cc nL own G A) {k : Fin 4} {x : Int64} (d : decode cc pc = .ok (.lload_n k, 1)) (q : Nat) (hq : lv[q]? = some ((k : Nat), .long x)) (K : WJ p l e R s m args below meth c G A nL cells slots Q w lv (pc + 1) (.long x :: st)) : WJ p l e R s m args below meth c G A nL cells slots Q w lv pc st := fun H locs ls hP hD hS hl => lv_lload_n C.1 C.2.1 d rfl (lv_at hl q hq) (K H locs ls hP hD hS hl)
theorem j_lload (C : Cx p s m args c cc nL own G A) {k : Nat} {x : Int64} (d : decode cc pc = .ok (.lload k, 2)) (q : Nat) (hq : lv[q]? = some (k, .long x)) (K : WJ p l e R s m args below meth c G A nL cells slots Q w lv (pc + 2) (.long x :: st)) : WJ p l e R s m args below meth c G A nL cells slots Q w lv pc st := fun H locs ls hP hD hS hl => lv_lload C.1 C.2.1 d (lv_at hl q hq) (K H locs ls hP hD hS hl)
theorem j_dload_n (C : Cx p s m args c cc nL own G A) {k : Fin 4} {x : UInt64} (d : decode cc pc = .ok (.dload_n k, 1)) (q : Nat) (hq : lv[q]? = some ((k : Nat), .double x)) (K : WJ p l e R s m args below meth c G A nL cells slots Q w lv (pc + 1) (.double x :: st)) : WJ p l e R s m args below meth c G A nL cells slots Q w lv pc st := fun H locs ls hP hD hS hl => lv_dload_n C.1 C.2.1 d rfl (lv_at hl q hq) (K H locs ls hP hD hS hl)
theorem j_fload_n (C : Cx p s m args c cc nL own G A) {k : Fin 4} {x : UInt32} (d : decode cc pc = .ok (.fload_n k, 1)) (q : Nat) (hq : lv[q]? = some ((k : Nat), .float x)) (K : WJ p l e R s m args below meth c G A nL cells slots Q w lv (pc + 1) (.float x :: st)) : WJ p l e R s m args below meth c G A nL cells slots Q w lv pc st := fun H locs ls hP hD hS hl => lv_fload_n C.1 C.2.1 d rfl (lv_at hl q hq) (K H locs ls hP hD hS hl)
theorem j_istore_n (C : Cx p s m args c cc nL own G A) {k : Fin 4} {x : Int32} (lv' : List (Nat × Value)) (d : decode cc pc = .ok (.istore_n k, 1)) (hn : (k : Nat) < nL) (hl' : ((k : Nat), Value.int x) :: lv.filter (fun q => !(q.1 == (k : Nat)) && !(q.1 + 1 == (k : Nat) && q.2.category == 2)) = lv') (K : WJ p l e R s m args below meth c G A nL cells slots Q w lv' (pc + 1) st) : WJ p l e R s m args below meth c G A nL cells slots Q w lv pc (.int x :: st) := fun H locs ls hP hD hS hl => lv_istore_n C.1 C.2.1 d rfl hl hn hl' (fun ls' h2 => K H locs ls' hP hD hS h2)
theorem j_istore (C : Cx p s m args c cc nL own G A) {k : Nat} {x : Int32} (lv' : List (Nat × Value)) (d : decode cc pc = .ok (.istore k, 2)) (hn : k < nL) (hl' : (k, Value.int x) :: lv.filter (fun q => !(q.1 == k) && !(q.1 + 1 == k && q.2.category == 2)) = lv') (K : WJ p l e R s m args below meth c G A nL cells slots Q w lv' (pc + 2) st) : WJ p l e R s m args below meth c G A nL cells slots Q w lv pc (.int x :: st) := fun H locs ls hP hD hS hl => lv_istore C.1 C.2.1 d hl hn hl' (fun ls' h2 => K H locs ls' hP hD hS h2)
theorem j_astore_n (C : Cx p s m args c cc nL own G A) {k : Fin 4} {x : Nat} (lv' : List (Nat × Value)) (d : decode cc pc = .ok (.astore_n k, 1)) (hn : (k : Nat) < nL) (hl' : ((k : Nat), Value.ref x) :: lv.filter (fun q => !(q.1 == (k : Nat)) && !(q.1 + 1 == (k : Nat) && q.2.category == 2)) = lv') (K : WJ p l e R s m args below meth c G A nL cells slots Q w lv' (pc + 1) st) : WJ p l e R s m args below meth c G A nL cells slots Q w lv pc (.ref x :: st) := fun H locs ls hP hD hS hl => lv_astore_n C.1 C.2.1 d rfl hl hn hl' (fun ls' h2 => K H locs ls' hP hD hS h2)
theorem j_astore (C : Cx p s m args c cc nL own G A) {k : Nat} {x : Nat} (lv' : List (Nat × Value)) (d : decode cc pc = .ok (.astore k, 2)) (hn : k < nL) (hl' : (k, Value.ref x) :: lv.filter (fun q => !(q.1 == k) && !(q.1 + 1 == k && q.2.category == 2)) = lv') (K : WJ p l e R s m args below meth c G A nL cells slots Q w lv' (pc + 2) st) : WJ p l e R s m args below meth c G A nL cells slots Q w lv pc (.ref x :: st) := fun H locs ls hP hD hS hl => lv_astore C.1 C.2.1 d hl hn hl' (fun ls' h2 => K H locs ls' hP hD hS h2)
theorem j_lstore_n (C : Cx p s m args c cc nL own G A) {k : Fin 4} {x : Int64} (lv' : List (Nat × Value)) (d : decode cc pc = .ok (.lstore_n k, 1)) (hn : (k : Nat) + 1 < nL) (hl' : ((k : Nat), Value.long x) :: lv.filter (fun q => !(q.1 == (k : Nat)) && (!(q.1 == (k : Nat) + 1) && !(q.1 + 1 == (k : Nat) && q.2.category == 2))) = lv') (K : WJ p l e R s m args below meth c G A nL cells slots Q w lv' (pc + 1) st) : WJ p l e R s m args below meth c G A nL cells slots Q w lv pc (.long x :: st) := fun H locs ls hP hD hS hl => lv_lstore_n C.1 C.2.1 d rfl hl hn hl' (fun ls' h2 => K H locs ls' hP hD hS h2)
theorem j_lstore (C : Cx p s m args c cc nL own G A) {k : Nat} {x : Int64} (lv' : List (Nat × Value)) (d : decode cc pc = .ok (.lstore k, 2)) (hn : k + 1 < nL) (hl' : (k, Value.long x) :: lv.filter (fun q => !(q.1 == k) && (!(q.1 == k + 1) && !(q.1 + 1 == k && q.2.category == 2))) = lv') (K : WJ p l e R s m args below meth c G A nL cells slots Q w lv' (pc + 2) st) : WJ p l e R s m args below meth c G A nL cells slots Q w lv pc (.long x :: st) := fun H locs ls hP hD hS hl => lv_lstore C.1 C.2.1 d hl hn hl' (fun ls' h2 => K H locs ls' hP hD hS h2)
theorem j_dstore_n (C : Cx p s m args c cc nL own G A) {k : Fin 4} {x : UInt64} (lv' : List (Nat × Value)) (d : decode cc pc = .ok (.dstore_n k, 1)) (hn : (k : Nat) + 1 < nL) (hl' : ((k : Nat), Value.double x) :: lv.filter (fun q => !(q.1 == (k : Nat)) && (!(q.1 == (k : Nat) + 1) && !(q.1 + 1 == (k : Nat) && q.2.category == 2))) = lv') (K : WJ p l e R s m args below meth c G A nL cells slots Q w lv' (pc + 1) st) : WJ p l e R s m args below meth c G A nL cells slots Q w lv pc (.double x :: st) := fun H locs ls hP hD hS hl => lv_dstore_n C.1 C.2.1 d rfl hl hn hl' (fun ls' h2 => K H locs ls' hP hD hS h2)
theorem j_dstore (C : Cx p s m args c cc nL own G A) {k : Nat} {x : UInt64} (lv' : List (Nat × Value)) (d : decode cc pc = .ok (.dstore k, 2)) (hn : k + 1 < nL) (hl' : (k, Value.double x) :: lv.filter (fun q => !(q.1 == k) && (!(q.1 == k + 1) && !(q.1 + 1 == k && q.2.category == 2))) = lv') (K : WJ p l e R s m args below meth c G A nL cells slots Q w lv' (pc + 2) st) : WJ p l e R s m args below meth c G A nL cells slots Q w lv pc (.double x :: st) := fun H locs ls hP hD hS hl => lv_dstore C.1 C.2.1 d hl hn hl' (fun ls' h2 => K H locs ls' hP hD hS h2)
theorem j_iinc (C : Cx p s m args c cc nL own G A) {i k : Nat} {n : Int} {x v : Int32} (lv' : List (Nat × Value)) (d : decode cc pc = .ok (.iinc i n, 3)) (hk : lv[k]? = some (i, .int x)) (hv : x + Int32.ofInt n = v) (hn : i < nL) (hl' : (i, Value.int v) :: lv.filter (fun q => !(q.1 == i) && !(q.1 + 1 == i && q.2.category == 2)) = lv') (K : WJ p l e R s m args below meth c G A nL cells slots Q w lv' (pc + 3) st) : WJ p l e R s m args below meth c G A nL cells slots Q w lv pc st := fun H locs ls hP hD hS hl => lv_iinc C.1 C.2.1 d hl hk hv hn hl' (fun ls' h2 => K H locs ls' hP hD hS h2)
theorem j_if_eq (C : Cx p s m args c cc nL own G A) {x : Int32} {off : Int} {tgt : Nat} (d : decode cc pc = .ok (.ifCond .eq off, 3)) (ht : (pc : Int) + off = (tgt : Int)) (kt : x = 0 → WJ p l e R s m args below meth c G A nL cells slots Q w lv tgt st) (kf : ¬ x = 0 → WJ p l e R s m args below meth c G A nL cells slots Q w lv (pc + 3) st) : WJ p l e R s m args below meth c G A nL cells slots Q w lv pc (.int x :: st) := fun H locs ls hP hD hS hl => lv_if_eq C.1 C.2.1 d ht (fun h => kt h H locs ls hP hD hS hl) (fun h => kf h H locs ls hP hD hS hl)
theorem j_if_ne (C : Cx p s m args c cc nL own G A) {x : Int32} {off : Int} {tgt : Nat} (d : decode cc pc = .ok (.ifCond .ne off, 3)) (ht : (pc : Int) + off = (tgt : Int)) (kt : ¬ x = 0 → WJ p l e R s m args below meth c G A nL cells slots Q w lv tgt st) (kf : x = 0 → WJ p l e R s m args below meth c G A nL cells slots Q w lv (pc + 3) st) : WJ p l e R s m args below meth c G A nL cells slots Q w lv pc (.int x :: st) := fun H locs ls hP hD hS hl => lv_if_ne C.1 C.2.1 d ht (fun h => kt h H locs ls hP hD hS hl) (fun h => kf h H locs ls hP hD hS hl)
theorem j_if_lt (C : Cx p s m args c cc nL own G A) {x : Int32} {off : Int} {tgt : Nat} (d : decode cc pc = .ok (.ifCond .lt off, 3)) (ht : (pc : Int) + off = (tgt : Int)) (kt : x < 0 → WJ p l e R s m args below meth c G A nL cells slots Q w lv tgt st) (kf : ¬ x < 0 → WJ p l e R s m args below meth c G A nL cells slots Q w lv (pc + 3) st) : WJ p l e R s m args below meth c G A nL cells slots Q w lv pc (.int x :: st) := fun H locs ls hP hD hS hl => lv_if_lt C.1 C.2.1 d ht (fun h => kt h H locs ls hP hD hS hl) (fun h => kf h H locs ls hP hD hS hl)
theorem j_if_ge (C : Cx p s m args c cc nL own G A) {x : Int32} {off : Int} {tgt : Nat} (d : decode cc pc = .ok (.ifCond .ge off, 3)) (ht : (pc : Int) + off = (tgt : Int)) (kt : 0 ≤ x → WJ p l e R s m args below meth c G A nL cells slots Q w lv tgt st) (kf : ¬ 0 ≤ x → WJ p l e R s m args below meth c G A nL cells slots Q w lv (pc + 3) st) : WJ p l e R s m args below meth c G A nL cells slots Q w lv pc (.int x :: st) := fun H locs ls hP hD hS hl => lv_if_ge C.1 C.2.1 d ht (fun h => kt h H locs ls hP hD hS hl) (fun h => kf h H locs ls hP hD hS hl)
theorem j_if_gt (C : Cx p s m args c cc nL own G A) {x : Int32} {off : Int} {tgt : Nat} (d : decode cc pc = .ok (.ifCond .gt off, 3)) (ht : (pc : Int) + off = (tgt : Int)) (kt : 0 < x → WJ p l e R s m args below meth c G A nL cells slots Q w lv tgt st) (kf : ¬ 0 < x → WJ p l e R s m args below meth c G A nL cells slots Q w lv (pc + 3) st) : WJ p l e R s m args below meth c G A nL cells slots Q w lv pc (.int x :: st) := fun H locs ls hP hD hS hl => lv_if_gt C.1 C.2.1 d ht (fun h => kt h H locs ls hP hD hS hl) (fun h => kf h H locs ls hP hD hS hl)
theorem j_if_le (C : Cx p s m args c cc nL own G A) {x : Int32} {off : Int} {tgt : Nat} (d : decode cc pc = .ok (.ifCond .le off, 3)) (ht : (pc : Int) + off = (tgt : Int)) (kt : x ≤ 0 → WJ p l e R s m args below meth c G A nL cells slots Q w lv tgt st) (kf : ¬ x ≤ 0 → WJ p l e R s m args below meth c G A nL cells slots Q w lv (pc + 3) st) : WJ p l e R s m args below meth c G A nL cells slots Q w lv pc (.int x :: st) := fun H locs ls hP hD hS hl => lv_if_le C.1 C.2.1 d ht (fun h => kt h H locs ls hP hD hS hl) (fun h => kf h H locs ls hP hD hS hl)
theorem j_icmp_eq (C : Cx p s m args c cc nL own G A) {x y : Int32} {off : Int} {tgt : Nat} (d : decode cc pc = .ok (.if_icmp .eq off, 3)) (ht : (pc : Int) + off = (tgt : Int)) (kt : x = y → WJ p l e R s m args below meth c G A nL cells slots Q w lv tgt st) (kf : ¬ x = y → WJ p l e R s m args below meth c G A nL cells slots Q w lv (pc + 3) st) : WJ p l e R s m args below meth c G A nL cells slots Q w lv pc (.int y :: .int x :: st) := fun H locs ls hP hD hS hl => lv_icmp_eq C.1 C.2.1 d ht (fun h => kt h H locs ls hP hD hS hl) (fun h => kf h H locs ls hP hD hS hl)
theorem j_icmp_ne (C : Cx p s m args c cc nL own G A) {x y : Int32} {off : Int} {tgt : Nat} (d : decode cc pc = .ok (.if_icmp .ne off, 3)) (ht : (pc : Int) + off = (tgt : Int)) (kt : ¬ x = y → WJ p l e R s m args below meth c G A nL cells slots Q w lv tgt st) (kf : x = y → WJ p l e R s m args below meth c G A nL cells slots Q w lv (pc + 3) st) : WJ p l e R s m args below meth c G A nL cells slots Q w lv pc (.int y :: .int x :: st) := fun H locs ls hP hD hS hl => lv_icmp_ne C.1 C.2.1 d ht (fun h => kt h H locs ls hP hD hS hl) (fun h => kf h H locs ls hP hD hS hl)
theorem j_icmp_lt (C : Cx p s m args c cc nL own G A) {x y : Int32} {off : Int} {tgt : Nat} (d : decode cc pc = .ok (.if_icmp .lt off, 3)) (ht : (pc : Int) + off = (tgt : Int)) (kt : x < y → WJ p l e R s m args below meth c G A nL cells slots Q w lv tgt st) (kf : ¬ x < y → WJ p l e R s m args below meth c G A nL cells slots Q w lv (pc + 3) st) : WJ p l e R s m args below meth c G A nL cells slots Q w lv pc (.int y :: .int x :: st) := fun H locs ls hP hD hS hl => lv_icmp_lt C.1 C.2.1 d ht (fun h => kt h H locs ls hP hD hS hl) (fun h => kf h H locs ls hP hD hS hl)
theorem j_icmp_ge (C : Cx p s m args c cc nL own G A) {x y : Int32} {off : Int} {tgt : Nat} (d : decode cc pc = .ok (.if_icmp .ge off, 3)) (ht : (pc : Int) + off = (tgt : Int)) (kt : y ≤ x → WJ p l e R s m args below meth c G A nL cells slots Q w lv tgt st) (kf : ¬ y ≤ x → WJ p l e R s m args below meth c G A nL cells slots Q w lv (pc + 3) st) : WJ p l e R s m args below meth c G A nL cells slots Q w lv pc (.int y :: .int x :: st) := fun H locs ls hP hD hS hl => lv_icmp_ge C.1 C.2.1 d ht (fun h => kt h H locs ls hP hD hS hl) (fun h => kf h H locs ls hP hD hS hl)
theorem j_icmp_gt (C : Cx p s m args c cc nL own G A) {x y : Int32} {off : Int} {tgt : Nat} (d : decode cc pc = .ok (.if_icmp .gt off, 3)) (ht : (pc : Int) + off = (tgt : Int)) (kt : y < x → WJ p l e R s m args below meth c G A nL cells slots Q w lv tgt st) (kf : ¬ y < x → WJ p l e R s m args below meth c G A nL cells slots Q w lv (pc + 3) st) : WJ p l e R s m args below meth c G A nL cells slots Q w lv pc (.int y :: .int x :: st) := fun H locs ls hP hD hS hl => lv_icmp_gt C.1 C.2.1 d ht (fun h => kt h H locs ls hP hD hS hl) (fun h => kf h H locs ls hP hD hS hl)
theorem j_icmp_le (C : Cx p s m args c cc nL own G A) {x y : Int32} {off : Int} {tgt : Nat} (d : decode cc pc = .ok (.if_icmp .le off, 3)) (ht : (pc : Int) + off = (tgt : Int)) (kt : x ≤ y → WJ p l e R s m args below meth c G A nL cells slots Q w lv tgt st) (kf : ¬ x ≤ y → WJ p l e R s m args below meth c G A nL cells slots Q w lv (pc + 3) st) : WJ p l e R s m args below meth c G A nL cells slots Q w lv pc (.int y :: .int x :: st) := fun H locs ls hP hD hS hl => lv_icmp_le C.1 C.2.1 d ht (fun h => kt h H locs ls hP hD hS hl) (fun h => kf h H locs ls hP hD hS hl)
theorem j_goto (C : Cx p s m args c cc nL own G A) {off : Int} {tgt : Nat} (d : decode cc pc = .ok (.goto off, 3)) (ht : (pc : Int) + off = (tgt : Int)) (K : WJ p l e R s m args below meth c G A nL cells slots Q w lv tgt st) : WJ p l e R s m args below meth c G A nL cells slots Q w lv pc st := fun H locs ls hP hD hS hl => lv_goto C.1 C.2.1 d ht (K H locs ls hP hD hS hl)
theorem j_lookup (C : Cx p s m args c cc nL own G A) {dflt : Int} {ps : Array (Int × Int)} {len : Nat} {x : Int32} {off : Int} {tgt : Nat} (d : decode cc pc = .ok (.lookupswitch dflt ps, len)) (hp : (ps.toList.zip (ps.toList.drop 1)).all (fun (a, next) => a.1 < next.1) = true) (ho : Op.lookupswitch.offset ps.toList dflt x.toInt = off) (ht : (pc : Int) + off = (tgt : Int)) (K : WJ p l e R s m args below meth c G A nL cells slots Q w lv tgt st) : WJ p l e R s m args below meth c G A nL cells slots Q w lv pc (.int x :: st) := fun H locs ls hP hD hS hl => lv_lookup C.1 C.2.1 d hp ho ht (K H locs ls hP hD hS hl)
theorem j_tableIn (C : Cx p s m args c cc nL own G A) {dflt lo hi : Int} {offs : Array Int} {len : Nat} {x : Int32} {off : Int} {tgt : Nat} (d : decode cc pc = .ok (.tableswitch dflt lo hi offs, len)) (h1 : ¬ x.toInt < lo) (h2 : ¬ hi < x.toInt) (ho : offs[(x.toInt - lo).toNat]? = some off) (ht : (pc : Int) + off = (tgt : Int)) (K : WJ p l e R s m args below meth c G A nL cells slots Q w lv tgt st) : WJ p l e R s m args below meth c G A nL cells slots Q w lv pc (.int x :: st) := fun H locs ls hP hD hS hl => lv_tableIn C.1 C.2.1 d h1 h2 ho ht (K H locs ls hP hD hS hl)
theorem j_tableOut (C : Cx p s m args c cc nL own G A) {dflt lo hi : Int} {offs : Array Int} {len : Nat} {x : Int32} {tgt : Nat} (d : decode cc pc = .ok (.tableswitch dflt lo hi offs, len)) (h : x.toInt < lo ∨ hi < x.toInt) (ht : (pc : Int) + dflt = (tgt : Int)) (K : WJ p l e R s m args below meth c G A nL cells slots Q w lv tgt st) : WJ p l e R s m args below meth c G A nL cells slots Q w lv pc (.int x :: st) := fun H locs ls hP hD hS hl => lv_tableOut C.1 C.2.1 d h ht (K H locs ls hP hD hS hl)
theorem j_ldc (C : Cx p s m args c cc nL own G A) {index : Nat} {v : Int32} (hc : Jvm.Cond.constant own index v ∈ AW) (d : decode cc pc = .ok (.ldc index, 2)) (K : WJ p l e R s m args below meth c G A nL cells slots Q w lv (pc + 2) (.int v :: st)) : WJ p l e R s m args below meth c G A nL cells slots Q w lv pc st := fun H locs ls hP hD hS hl => lv_ldc C.1 C.2.1 C.2.2.2.1 (C.2.2.2.2.1 _ hc) d (K H locs ls hP hD hS hl)
theorem j_ldc2 (C : Cx p s m args c cc nL own G A) {index : Nat} {v : Int64} (hc : Jvm.Cond.constantLong own index v ∈ AW) (d : decode cc pc = .ok (.ldc2_w index, 3)) (K : WJ p l e R s m args below meth c G A nL cells slots Q w lv (pc + 3) (.long v :: st)) : WJ p l e R s m args below meth c G A nL cells slots Q w lv pc st := fun H locs ls hP hD hS hl => lv_ldc2 C.1 C.2.1 C.2.2.2.1 (C.2.2.2.2.1 _ hc) d (K H locs ls hP hD hS hl)
theorem j_ldc2d (C : Cx p s m args c cc nL own G A) {index : Nat} {v : UInt64} (hc : Jvm.Cond.constantDouble own index v ∈ AW) (d : decode cc pc = .ok (.ldc2_w index, 3)) (K : WJ p l e R s m args below meth c G A nL cells slots Q w lv (pc + 3) (.double v :: st)) : WJ p l e R s m args below meth c G A nL cells slots Q w lv pc st := fun H locs ls hP hD hS hl => lv_ldc2d C.1 C.2.1 C.2.2.2.1 (C.2.2.2.2.1 _ hc) d (K H locs ls hP hD hS hl)
theorem j_get (C : Cx p s m args c cc nL own G A) {ref Cn : String} {T : u_T} {N ci index a : Nat} {fs : List Value} (hin : ∀ w' ∈ u_ws Cn T N, w' ∈ AW) (hc : vwCl[ci]? = some (Cn, T, N)) (q0 : Nat) (he : w[q0]? = some (a, .inr (ci, fs))) (k : Nat) (hk : k < N) (hlink : Cond.fieldLink own index ref (T k).2.1 (T k).2.2.1 ∈ AW) (hsame : (T k).1 = ref) {v : Value} (hv : fs[k]? = some v) (d : decode cc pc = .ok (.getfield index, 3)) (K : WJ p l e R s m args below meth c G A nL cells slots Q w lv (pc + 3) (v :: st)) : WJ p l e R s m args below meth c G A nL cells slots Q w lv pc (.ref a :: st) := fun H locs ls hP hD hS hl => va_get C.1 C.2.1 C.2.2.2.2.1 hin C.2.2.2.1 C.2.2.2.2.2.1 hP q0 he hc k hk (C.2.2.2.2.1 _ hlink) (fun x h9 => by rw [hsame] at h9; exact h9) hv d (K H locs ls hP hD hS hl)
theorem j_put (C : Cx p s m args c cc nL own G A) {ref Cn : String} {T : u_T} {N ci index a : Nat} {fs : List Value} (hin : ∀ w' ∈ u_ws Cn T N, w' ∈ AW) (hc : vwCl[ci]? = some (Cn, T, N)) (q0 : Nat) (he : w[q0]? = some (a, .inr (ci, fs))) (k : Nat) (hk : k < N) (hlink : Cond.fieldLink own index ref (T k).2.1 (T k).2.2.1 ∈ AW) (hsame : (T k).1 = ref) (ty0 : Nat → FieldType) (hty : ∀ k, k < N → parseFieldDescriptor (T k).2.2.1 = some (ty0 k)) (hnm : ∀ a, a < N → ∀ b, b < N → a ≠ b → (T a).2.1 ≠ (T b).2.1) (hfin : (T k).2.2.2 = false) {v : Value} (hn : narrow (ty0 k) v = v) (hfit : Jvm.fits (ty0 k) v = true) (hlen : k < fs.length) (w2 : va_W) (hw : w.set q0 (a, .inr (ci, fs.set k v)) = w2) (d : decode cc pc = .ok (.putfield index, 3)) (K : WJ p l e R s m args below meth c G A nL cells slots Q w2 lv (pc + 3) st) : WJ p l e R s m args below meth c G A nL cells slots Q w lv pc (v :: .ref a :: st) := fun H locs ls hP hD hS hl => va_put C.1 C.2.1 C.2.2.2.2.1 hin ty0 hty hnm C.2.2.2.1 C.2.2.2.2.2.1 hP hD hS q0 he hc k hk (C.2.2.2.2.1 _ hlink) (fun x h9 => by rw [hsame] at h9; exact h9) hfin (hty k hk) hn hfit hlen d (fun H1 locs1 h1 h2 h3 => K H1 locs1 ls (hw ▸ h1) (hw ▸ h2) h3 hl)
theorem j_putF (C : Cx p s m args c cc nL own G A) {ref Cn : String} {T : u_T} {N ci index a : Nat} {fs : List Value} (hin : ∀ w' ∈ u_ws Cn T N, w' ∈ AW) (hc : vwCl[ci]? = some (Cn, T, N)) (q0 : Nat) (he : w[q0]? = some (a, .inr (ci, fs))) (k : Nat) (hk : k < N) (hlink : Cond.fieldLink own index ref (T k).2.1 (T k).2.2.1 ∈ AW) (hsame : (T k).1 = ref) (hinit : meth.name = "<init>") (hdecl : (T k).1 = own) (ty0 : Nat → FieldType) (hty : ∀ k, k < N → parseFieldDescriptor (T k).2.2.1 = some (ty0 k)) (hnm : ∀ a, a < N → ∀ b, b < N → a ≠ b → (T a).2.1 ≠ (T b).2.1) (hfin : (T k).2.2.2 = true) {v : Value} (hn : narrow (ty0 k) v = v) (hfit : Jvm.fits (ty0 k) v = true) (hlen : k < fs.length) (w2 : va_W) (hw : w.set q0 (a, .inr (ci, fs.set k v)) = w2) (d : decode cc pc = .ok (.putfield index, 3)) (K : WJ p l e R s m args below meth c G A nL cells slots Q w2 lv (pc + 3) st) : WJ p l e R s m args below meth c G A nL cells slots Q w lv pc (v :: .ref a :: st) := fun H locs ls hP hD hS hl => va_putF C.1 C.2.1 C.2.2.2.2.1 hin ty0 hty hnm C.2.2.2.1 C.2.2.2.2.2.1 hP hD hS q0 he hc k hk (C.2.2.2.2.1 _ hlink) (fun x h9 => by rw [hsame] at h9; exact h9) hfin hinit hdecl (hty k hk) hn hfit hlen d (fun H1 locs1 h1 h2 h3 => K H1 locs1 ls (hw ▸ h1) (hw ▸ h2) h3 hl)
theorem j_iald (C : Cx p s m args c cc nL own G A) {n a : Nat} {f : Nat → Int32} {i : Int32} (q0 : Nat) (he : w[q0]? = some (a, .inl (G.2.1 2, n, .inl f))) (hin : vp_in i n) {v : Int32} (hv : f i.toNatClampNeg = v) (d : decode cc pc = .ok (.iaload, 1)) (K : WJ p l e R s m args below meth c G A nL cells slots Q w lv (pc + 1) (.int v :: st)) : WJ p l e R s m args below meth c G A nL cells slots Q w lv pc (.int i :: .ref a :: st) := fun H locs ls hP hD hS hl => va_iald C.1 C.2.1 C.2.2.2.2.2.1 hP q0 2 he rfl hin d (by rw [hv]; exact K H locs ls hP hD hS hl)
theorem j_iast (C : Cx p s m args c cc nL own G A) {n a : Nat} {f : Nat → Int32} {i : Int32} {x : Int32} (q0 : Nat) (he : w[q0]? = some (a, .inl (G.2.1 2, n, .inl f))) (hin : vp_in i n) (w2 : va_W) (hw : w.set q0 (a, .inl (G.2.1 2, n, .inl (upd f i.toNatClampNeg x))) = w2) (d : decode cc pc = .ok (.iastore, 1)) (K : WJ p l e R s m args below meth c G A nL cells slots Q w2 lv (pc + 1) st) : WJ p l e R s m args below meth c G A nL cells slots Q w lv pc (.int x :: .int i :: .ref a :: st) := fun H locs ls hP hD hS hl => va_iast C.1 C.2.1 C.2.2.2.2.2.1 hP hD hS q0 2 he rfl hin d (fun H1 locs1 h1 h2 h3 => K H1 locs1 ls (hw ▸ h1) (hw ▸ h2) h3 hl)
theorem j_bald (C : Cx p s m args c cc nL own G A) {n a : Nat} {f : Nat → Int32} {i : Int32} (q0 : Nat) (he : w[q0]? = some (a, .inl (G.2.1 0, n, .inl f))) (hin : vp_in i n) {v : Int32} (hv : f i.toNatClampNeg = v) (d : decode cc pc = .ok (.baload, 1)) (K : WJ p l e R s m args below meth c G A nL cells slots Q w lv (pc + 1) (.int v :: st)) : WJ p l e R s m args below meth c G A nL cells slots Q w lv pc (.int i :: .ref a :: st) := fun H locs ls hP hD hS hl => va_bald C.1 C.2.1 C.2.2.2.2.2.1 hP q0 0 he rfl hin d (by rw [hv]; exact K H locs ls hP hD hS hl)
theorem j_bast (C : Cx p s m args c cc nL own G A) {n a : Nat} {f : Nat → Int32} {i : Int32} {x : Int32} (q0 : Nat) (he : w[q0]? = some (a, .inl (G.2.1 0, n, .inl f))) (hin : vp_in i n) (w2 : va_W) (hw : w.set q0 (a, .inl (G.2.1 0, n, .inl (upd f i.toNatClampNeg (vp_nar .byte x)))) = w2) (d : decode cc pc = .ok (.bastore, 1)) (K : WJ p l e R s m args below meth c G A nL cells slots Q w2 lv (pc + 1) st) : WJ p l e R s m args below meth c G A nL cells slots Q w lv pc (.int x :: .int i :: .ref a :: st) := fun H locs ls hP hD hS hl => va_bast C.1 C.2.1 C.2.2.2.2.2.1 hP hD hS q0 0 he rfl hin d (fun H1 locs1 h1 h2 h3 => K H1 locs1 ls (hw ▸ h1) (hw ▸ h2) h3 hl)
theorem j_zald (C : Cx p s m args c cc nL own G A) {n a : Nat} {f : Nat → Int32} {i : Int32} (q0 : Nat) (he : w[q0]? = some (a, .inl (G.2.1 4, n, .inl f))) (hin : vp_in i n) {v : Int32} (hv : f i.toNatClampNeg = v) (d : decode cc pc = .ok (.baload, 1)) (K : WJ p l e R s m args below meth c G A nL cells slots Q w lv (pc + 1) (.int v :: st)) : WJ p l e R s m args below meth c G A nL cells slots Q w lv pc (.int i :: .ref a :: st) := fun H locs ls hP hD hS hl => va_zald C.1 C.2.1 C.2.2.2.2.2.1 hP q0 4 he rfl hin d (by rw [hv]; exact K H locs ls hP hD hS hl)
theorem j_zast (C : Cx p s m args c cc nL own G A) {n a : Nat} {f : Nat → Int32} {i : Int32} {x : Int32} (q0 : Nat) (he : w[q0]? = some (a, .inl (G.2.1 4, n, .inl f))) (hin : vp_in i n) (w2 : va_W) (hw : w.set q0 (a, .inl (G.2.1 4, n, .inl (upd f i.toNatClampNeg (vp_nar .boolean x)))) = w2) (d : decode cc pc = .ok (.bastore, 1)) (K : WJ p l e R s m args below meth c G A nL cells slots Q w2 lv (pc + 1) st) : WJ p l e R s m args below meth c G A nL cells slots Q w lv pc (.int x :: .int i :: .ref a :: st) := fun H locs ls hP hD hS hl => va_zast C.1 C.2.1 C.2.2.2.2.2.1 hP hD hS q0 4 he rfl hin d (fun H1 locs1 h1 h2 h3 => K H1 locs1 ls (hw ▸ h1) (hw ▸ h2) h3 hl)
theorem j_cald (C : Cx p s m args c cc nL own G A) {n a : Nat} {f : Nat → Int32} {i : Int32} (q0 : Nat) (he : w[q0]? = some (a, .inl (G.2.1 1, n, .inl f))) (hin : vp_in i n) {v : Int32} (hv : f i.toNatClampNeg = v) (d : decode cc pc = .ok (.caload, 1)) (K : WJ p l e R s m args below meth c G A nL cells slots Q w lv (pc + 1) (.int v :: st)) : WJ p l e R s m args below meth c G A nL cells slots Q w lv pc (.int i :: .ref a :: st) := fun H locs ls hP hD hS hl => va_cald C.1 C.2.1 C.2.2.2.2.2.1 hP q0 1 he rfl hin d (by rw [hv]; exact K H locs ls hP hD hS hl)
theorem j_cast (C : Cx p s m args c cc nL own G A) {n a : Nat} {f : Nat → Int32} {i : Int32} {x : Int32} (q0 : Nat) (he : w[q0]? = some (a, .inl (G.2.1 1, n, .inl f))) (hin : vp_in i n) (w2 : va_W) (hw : w.set q0 (a, .inl (G.2.1 1, n, .inl (upd f i.toNatClampNeg (vp_nar .char x)))) = w2) (d : decode cc pc = .ok (.castore, 1)) (K : WJ p l e R s m args below meth c G A nL cells slots Q w2 lv (pc + 1) st) : WJ p l e R s m args below meth c G A nL cells slots Q w lv pc (.int x :: .int i :: .ref a :: st) := fun H locs ls hP hD hS hl => va_cast C.1 C.2.1 C.2.2.2.2.2.1 hP hD hS q0 1 he rfl hin d (fun H1 locs1 h1 h2 h3 => K H1 locs1 ls (hw ▸ h1) (hw ▸ h2) h3 hl)
theorem j_aaldD (C : Cx p s m args c cc nL own G A) {n a y : Nat} {f : Nat → Option Nat} {i : Int32} (q0 : Nat) (he : w[q0]? = some (a, .inl (G.2.1 5, n, .inr (.inr (.inr (.inr f)))))) (hin : vp_in i n) (hv : f i.toNatClampNeg = some y) (d : decode cc pc = .ok (.aaload, 1)) (K : WJ p l e R s m args below meth c G A nL cells slots Q w lv (pc + 1) (.ref y :: st)) : WJ p l e R s m args below meth c G A nL cells slots Q w lv pc (.int i :: .ref a :: st) := fun H locs ls hP hD hS hl => va_aldq C.1 C.2.1 C.2.2.2.2.2.1 hP q0 5 he rfl hin d (by rw [hv]; exact K H locs ls hP hD hS hl)
theorem j_aastD (C : Cx p s m args c cc nL own G A) {n a y ci N : Nat} {T : u_T} {vs : List Value} {f : Nat → Option Nat} {i : Int32} (q0 qk : Nat) (he : w[q0]? = some (a, .inl (G.2.1 5, n, .inr (.inr (.inr (.inr f)))))) (hv : w[qk]? = some (y, .inr (ci, vs))) (hc : vwCl[ci]? = some ("SilentDrives$Drive", T, N)) (hin : vp_in i n) (w2 : va_W) (hw : w.set q0 (a, .inl (G.2.1 5, n, .inr (.inr (.inr (.inr (va_up f i.toNatClampNeg (some y))))))) = w2) (d : decode cc pc = .ok (.aastore, 1)) (K : WJ p l e R s m args below meth c G A nL cells slots Q w2 lv (pc + 1) st) : WJ p l e R s m args below meth c G A nL cells slots Q w lv pc (.ref y :: .int i :: .ref a :: st) := fun H locs ls hP hD hS hl => va_astq C.1 C.2.1 C.2.2.2.2.2.1 hP hD hS q0 5 qk ci he rfl hv hc hin d (fun H1 locs1 h1 h2 h3 => K H1 locs1 ls (hw ▸ h1) (hw ▸ h2) h3 hl)
theorem j_aaldS (C : Cx p s m args c cc nL own G A) {n a y : Nat} {f : Nat → Option Nat} {i : Int32} (q0 : Nat) (he : w[q0]? = some (a, .inl (G.2.1 6, n, .inr (.inr (.inr (.inr f)))))) (hin : vp_in i n) (hv : f i.toNatClampNeg = some y) (d : decode cc pc = .ok (.aaload, 1)) (K : WJ p l e R s m args below meth c G A nL cells slots Q w lv (pc + 1) (.ref y :: st)) : WJ p l e R s m args below meth c G A nL cells slots Q w lv pc (.int i :: .ref a :: st) := fun H locs ls hP hD hS hl => va_aldq C.1 C.2.1 C.2.2.2.2.2.1 hP q0 6 he rfl hin d (by rw [hv]; exact K H locs ls hP hD hS hl)
theorem j_aastS (C : Cx p s m args c cc nL own G A) {n a y ci N : Nat} {T : u_T} {vs : List Value} {f : Nat → Option Nat} {i : Int32} (q0 qk : Nat) (he : w[q0]? = some (a, .inl (G.2.1 6, n, .inr (.inr (.inr (.inr f)))))) (hv : w[qk]? = some (y, .inr (ci, vs))) (hc : vwCl[ci]? = some ("SilentDrives$Station", T, N)) (hin : vp_in i n) (w2 : va_W) (hw : w.set q0 (a, .inl (G.2.1 6, n, .inr (.inr (.inr (.inr (va_up f i.toNatClampNeg (some y))))))) = w2) (d : decode cc pc = .ok (.aastore, 1)) (K : WJ p l e R s m args below meth c G A nL cells slots Q w2 lv (pc + 1) st) : WJ p l e R s m args below meth c G A nL cells slots Q w lv pc (.ref y :: .int i :: .ref a :: st) := fun H locs ls hP hD hS hl => va_astq C.1 C.2.1 C.2.2.2.2.2.1 hP hD hS q0 6 qk ci he rfl hv hc hin d (fun H1 locs1 h1 h2 h3 => K H1 locs1 ls (hw ▸ h1) (hw ▸ h2) h3 hl)
theorem j_slen (C : Cx p s m args c cc nL own G A) (d : decode cc pc = .ok (.arraylength, 1)) (K : WJ p l e R s m args below meth c G A nL cells slots Q w lv (pc + 1) (.int (nI (G.2.2 4)) :: st)) : WJ p l e R s m args below meth c G A nL cells slots Q w lv pc (.ref (G.2.2 3) :: st) := fun H locs ls hP hD hS hl => va_slen C.1 C.2.1 C.2.2.2.2.2.2.2.2.2.2.2.1 C.2.2.2.2.2.2.2.2.2.2.2.2.1 C.2.2.2.2.2.2.2.2.2.2.2.2.2 hS d (K H locs ls hP hD hS hl)
theorem j_sld (C : Cx p s m args c cc nL own G A) {i v : Int32} (hin : vp_in i (G.2.2 4)) (hv : scr G i.toNatClampNeg = v) (d : decode cc pc = .ok (.iaload, 1)) (K : WJ p l e R s m args below meth c G A nL cells slots Q w lv (pc + 1) (.int v :: st)) : WJ p l e R s m args below meth c G A nL cells slots Q w lv pc (.int i :: .ref (G.2.2 3) :: st) := fun H locs ls hP hD hS hl => va_sld C.1 C.2.1 C.2.2.2.2.2.2.2.2.2.2.2.1 C.2.2.2.2.2.2.2.2.2.2.2.2.1 C.2.2.2.2.2.2.2.2.2.2.2.2.2 hS hin d (by rw [hv]; exact K H locs ls hP hD hS hl)
end LAYER
end
section
theorem aw_mmin_static : Cond.static Lib.Math.min.name ∈ AW := by decide +kernel
theorem aw_math_ini : Cond.initialized "java/lang/Math" ∈ AW := by decide +kernel
theorem aw_mmin_code : Cond.code Lib.Math.min.name Lib.Math.min.code 2 (some .int) ∈ AW := by decide +kernel
/-! CONTRACTS over the layer: CtI, CtL, CtV, CtF (answers an int, a long, nothing): from the cells w to the cells w', the answer is r -/
def PreG (G : GG) (av : List Value) (w : va_W) (sz : Nat) : Array Value → State → Prop := va_Pc av (fun U => U.heap.size = sz ∧ va_P G.1 vwCl w U.heap ∧ va_K G.1 vwCl (TY G) U ∧ va_D (fun _ => True) w ∧ NW U ∧ GS G (va_A w sz) U U.heap)
theorem PreG.blind {G : GG} {av : List Value} {w : va_W} {sz : Nat} : FrameBlind (PreG G av w sz) := fun a U g mk q => by
  obtain ⟨h0, h1, h2, h3, h4, h5, h6⟩ := q
  exact ⟨h0, h1, h2, va_K.moved (u := U) (U := U.calling g mk a) (Vm.Alike.refl U.vm) h3, h4, NW.same (u := U) rfl h5, GS.moved (u := U) (Vm.Alike.refl U.vm) h6⟩
abbrev EndQ (G : GG) (A : Nat → Prop) (w' : va_W) : Unit → State → Prop := fun _ t => va_P G.1 vwCl w' t.heap ∧ va_D A w'
abbrev PostI (G : GG) (A : Nat → Prop) (r : Int32) (w' : va_W) : Array Value → State → Outcome → State → Prop := va_Qi (fun (x : Int32) (_ : Unit) => x = r) (EndQ G A w') A
abbrev PostL (G : GG) (A : Nat → Prop) (r : Int64) (w' : va_W) : Array Value → State → Outcome → State → Prop := va_Ql (fun (x : Int64) (_ : Unit) => x = r) (EndQ G A w') A
abbrev PostV (G : GG) (A : Nat → Prop) (w' : va_W) : Array Value → State → Outcome → State → Prop := va_Qv (fun (_ : Unit) => True) (EndQ G A w') A
def CtI (l : Launch) (y : MethodName) (b : ByteArray) (n : Nat) (ret : Option FieldType) (rm : Room) (G : GG) (av : List Value) (w : va_W) (r : Int32) (w' : va_W) : Prop := ∀ sz : Nat, Met l y (.code y b n ret :: AW) rm (PreG G av w sz) (PostI G (va_A w sz) r w') rm.cells rm.slots (va_A w sz)
def CtL (l : Launch) (y : MethodName) (b : ByteArray) (n : Nat) (ret : Option FieldType) (rm : Room) (G : GG) (av : List Value) (w : va_W) (r : Int64) (w' : va_W) : Prop := ∀ sz : Nat, Met l y (.code y b n ret :: AW) rm (PreG G av w sz) (PostL G (va_A w sz) r w') rm.cells rm.slots (va_A w sz)
def CtV (l : Launch) (y : MethodName) (b : ByteArray) (n : Nat) (ret : Option FieldType) (rm : Room) (G : GG) (av : List Value) (w : va_W) (w' : va_W) : Prop := ∀ sz : Nat, Met l y (.code y b n ret :: AW) rm (PreG G av w sz) (PostV G (va_A w sz) w') rm.cells rm.slots (va_A w sz)
/-- the room of a method that makes nothing, at depth d -/
abbrev RM (d : Nat) : Room := { frames := d, cells := 0, slots := 0, locals := 40 * d }
abbrev RC (d k n : Nat) : Room := { frames := d, cells := k, slots := n, locals := 40 * d }
theorem fm_of_map {α β : Type} {f : α → Option β} : ∀ {is : List α} {w : List β}, is.map f = w.map some → is.filterMap f = w
  | [], [], _ => rfl
  | [], _ :: _, h => by simp at h
  | _ :: _, [], h => by simp at h
  | i :: is, x :: w, h => by
    simp only [List.map_cons, List.cons.injEq] at h
    rw [List.filterMap_cons, h.1]
    exact congrArg (x :: ·) (fm_of_map h.2)

theorem range_map {α : Type} (w : List α) : (List.range w.length).map (fun i => w[i]?) = w.map some := by
  apply List.ext_getElem?
  intro k
  rw [List.getElem?_map, List.getElem?_map]
  by_cases h : k < w.length
  · rw [List.getElem?_range h, List.getElem?_eq_getElem h]
    simp [List.getElem?_eq_getElem h]
  · rw [List.getElem?_eq_none (by simpa using h), List.getElem?_eq_none (by simpa using h)]
    rfl
def pchk (is : List Nat) (n : Nat) : Bool := va_nd is && is.all (fun i => decide (i < n)) && (List.range n).all (fun i => is.contains i)
theorem va_nd_nodup : ∀ {l : List Nat}, va_nd l = true → l.Nodup
  | [], _ => List.nodup_nil
  | a :: l, h => by
    simp only [va_nd, Bool.and_eq_true, decide_eq_true_eq] at h
    exact List.nodup_cons.mpr ⟨h.1, va_nd_nodup h.2⟩
theorem perm_idx {α : Type} {w w' : List α} (is : List Nat) (n : Nat) (hn : w.length = n) (his : pchk is n = true) (h : is.map (fun i => w[i]?) = w'.map some) : w.Perm w' := by
  simp only [pchk, Bool.and_eq_true, List.all_eq_true, decide_eq_true_eq, List.contains_iff_mem] at his
  have hp : is.Perm (List.range n) := (List.perm_ext_iff_of_nodup (va_nd_nodup his.1.1) List.nodup_range).mpr fun a => ⟨fun ha => List.mem_range.mpr (his.1.2 a ha), fun ha => his.2 a ha⟩
  have h2 := hp.filterMap (fun i => w[i]?)
  rw [fm_of_map h, ← hn, fm_of_map (range_map w)] at h2
  exact h2.symm
abbrev fl (bs : List va_W) : va_W := bs.flatten
theorem bperm {bs bs' : List va_W} (is : List Nat) (n : Nat) (hn : bs.length = n) (his : pchk is n = true) (h : is.map (fun i => bs[i]?) = bs'.map some) : (fl bs).Perm (fl bs') := (perm_idx is n hn his h).flatten
theorem fl_one (B : va_W) : fl [B] = B := List.append_nil B
theorem fl_app (a b : List va_W) : fl a ++ fl b = fl (a ++ b) := (List.flatten_append).symm
theorem bperm2 {bs bC bR : List va_W} (is : List Nat) (n : Nat) (hn : bs.length = n) (his : pchk is n = true) (h : is.map (fun i => bs[i]?) = (bC ++ bR).map some) : (fl bs).Perm (fl bC ++ fl bR) := by
  rw [fl_app]
  exact bperm is n hn his h
theorem va_P_iff {D : va_G} {cl : List vw_C} {ws : va_W} {H : Heap} : va_P D cl ws H ↔ ∀ q ∈ ws, va_at D cl q H :=
  ⟨fun h q hq => by
    obtain ⟨k, hk⟩ := List.getElem?_of_mem hq
    exact h k q hk, fun h k q hk => h q (List.mem_of_getElem? hk)⟩
theorem va_D_iff {A : Nat → Prop} {ws : va_W} : va_D A ws ↔ (ws.map Prod.fst).Nodup ∧ ∀ q ∈ ws, A q.1 := by
  constructor
  · intro h
    refine ⟨List.pairwise_iff_getElem.mpr ?_, fun q hq => ?_⟩
    · intro i j hi hj hij e
      rw [List.length_map] at hi hj
      rw [List.getElem_map, List.getElem_map] at e
      have := h.1 i j ws[i] ws[j] (List.getElem?_eq_getElem hi) (List.getElem?_eq_getElem hj) e
      omega
    · obtain ⟨k, hk⟩ := List.getElem?_of_mem hq
      exact h.2 k q hk
  · intro h
    have h1 := List.pairwise_iff_getElem.mp h.1
    refine ⟨fun i j p q hi hj e => ?_, fun k q hk => h.2 q (List.mem_of_getElem? hk)⟩
    obtain ⟨hi1, hi2⟩ := List.getElem?_eq_some_iff.mp hi
    obtain ⟨hj1, hj2⟩ := List.getElem?_eq_some_iff.mp hj
    rcases Nat.lt_trichotomy i j with g | g | g
    · exact absurd (by rw [List.getElem_map, List.getElem_map, hi2, hj2]; exact e) (h1 i j (by rw [List.length_map]; exact hi1) (by rw [List.length_map]; exact hj1) g)
    · exact g
    · exact absurd (by rw [List.getElem_map, List.getElem_map, hi2, hj2]; exact e.symm) (h1 j i (by rw [List.length_map]; exact hj1) (by rw [List.length_map]; exact hi1) g)
theorem va_P.perm {D : va_G} {cl : List vw_C} {w w' : va_W} {H : Heap} (h : va_P D cl w H) (p : w.Perm w') : va_P D cl w' H := va_P_iff.mpr fun q hq => va_P_iff.mp h q (p.mem_iff.mpr hq)
theorem va_D.perm {A : Nat → Prop} {w w' : va_W} (h : va_D A w) (p : w.Perm w') : va_D A w' := by
  obtain ⟨h1, h2⟩ := va_D_iff.mp h
  exact va_D_iff.mpr ⟨(p.map Prod.fst).nodup_iff.mp h1, fun q hq => h2 q (p.mem_iff.mpr hq)⟩
theorem va_P.left {D : va_G} {cl : List vw_C} {a b : va_W} {H : Heap} (h : va_P D cl (a ++ b) H) : va_P D cl a H := va_P_iff.mpr fun q hq => va_P_iff.mp h q (List.mem_append_left _ hq)
theorem va_D.left {A : Nat → Prop} {a b : va_W} (h : va_D A (a ++ b)) : va_D A a := by
  obtain ⟨h1, h2⟩ := va_D_iff.mp h
  rw [List.map_append] at h1
  exact va_D_iff.mpr ⟨(List.nodup_append.mp h1).1, fun q hq => h2 q (List.mem_append_left _ hq)⟩
theorem free_left {A0 : Nat → Prop} {wc wr : va_W} {H0 H : Heap} {locs : List Loc} (hD : va_D A0 (wc ++ wr)) (hS : va_S A0 H0 H locs) (hA : ∀ q, H0.size ≤ q → A0 q) : ∀ q, va_A wc H.size q → A0 q := by
  intro q h
  rcases h with ⟨k, e, h⟩ | h
  · exact (va_D_iff.mp hD).2 (q, e) (List.mem_append_left _ (List.mem_of_getElem? h))
  · exact hA q (Nat.le_trans hS.1 h)
theorem join_left {A0 : Nat → Prop} {D : va_G} {cl : List vw_C} {wc wr w1 : va_W} {H H1 : Heap} (hP : va_P D cl (wc ++ wr) H) (hD : va_D A0 (wc ++ wr)) (hk : ∀ q : Nat, q < H.size → ¬ va_A wc H.size q → H1[q]? = H[q]?) (hF : ∀ q, va_A wc H.size q → A0 q) (hP1 : va_P D cl w1 H1) (hD1 : va_D (va_A wc H.size) w1) : va_P D cl (w1 ++ wr) H1 ∧ va_D A0 (w1 ++ wr) := by
  have hp := va_P_iff.mp hP
  obtain ⟨d1, d2⟩ := va_D_iff.mp hD
  obtain ⟨e1, e2⟩ := va_D_iff.mp hD1
  rw [List.map_append] at d1
  have apart : ∀ q ∈ wr, q.1 < H.size ∧ ¬ va_A wc H.size q.1 := by
    intro q hq
    have hl := (hp q (List.mem_append_right _ hq)).lt
    refine ⟨hl, fun h => ?_⟩
    rcases h with ⟨k, e, h⟩ | h
    · exact (List.nodup_append.mp d1).2.2 q.1 (List.mem_map.mpr ⟨(q.1, e), List.mem_of_getElem? h, rfl⟩) q.1 (List.mem_map.mpr ⟨q, hq, rfl⟩) rfl
    · exact Nat.lt_irrefl _ (Nat.lt_of_lt_of_le hl h)
  refine ⟨va_P_iff.mpr fun q hq => ?_, va_D_iff.mpr ⟨?_, fun q hq => ?_⟩⟩
  · rcases List.mem_append.mp hq with h | h
    · exact va_P_iff.mp hP1 q h
    · exact (hp q (List.mem_append_right _ h)).kept (hk q.1 (apart q h).1 (apart q h).2)
  · rw [List.map_append]
    refine List.nodup_append.mpr ⟨e1, (List.nodup_append.mp d1).2.1, fun a ha b hb e => ?_⟩
    obtain ⟨p, hp1, hp2⟩ := List.mem_map.mp ha
    obtain ⟨q, hq1, hq2⟩ := List.mem_map.mp hb
    exact (apart q hq1).2 (by rw [hq2, ← e, ← hp2]; exact e2 p hp1)
  · rcases List.mem_append.mp hq with h | h
    · exact hF q.1 (e2 q h)
    · exact d2 q (List.mem_append_right _ h)
theorem aw_g {ws : List Cond} (h : ∀ w ∈ ws, w ∈ AW) : GoodIn AW ws := fun w hw => ⟨h w hw, good_of_word (List.all_eq_true.mp AW_good w (h w hw))⟩
theorem aw_1 {y : MethodName} {b : ByteArray} {n : Nat} {ret : Option FieldType} (h : Cond.code y b n ret ∈ AW) : ∀ w ∈ (.code y b n ret :: AW), w ∈ AW := fun w hw => (List.mem_cons.mp hw).elim (fun e => e ▸ h) id
theorem gV {own Cn : String} {idx : Nat} {y : MethodName} {b : ByteArray} {n : Nat} {ret : Option FieldType} (h1 : Cond.methodLink own idx y ∈ AW) (h2 : Cond.instanceMethod y ∈ AW) (h3 : Cond.selects Cn y y ∈ AW) (h4 : Cond.initialized Cn ∈ AW) (h5 : Cond.code y b n ret ∈ AW) : GoodIn AW (wsV own idx Cn y (.code y b n ret :: AW)) := aw_g fun w hw => by
  simp only [wsV, List.cons_append, List.nil_append] at hw
  rcases List.mem_cons.mp hw with rfl | hw
  · exact h1
  rcases List.mem_cons.mp hw with rfl | hw
  · exact h2
  rcases List.mem_cons.mp hw with rfl | hw
  · exact h3
  rcases List.mem_cons.mp hw with rfl | hw
  · exact h4
  exact aw_1 h5 w hw
theorem gS {own : String} {idx : Nat} {y : MethodName} {b : ByteArray} {n : Nat} {ret : Option FieldType} (h1 : Cond.methodLink own idx y ∈ AW) (h2 : Cond.static y ∈ AW) (h4 : Cond.initialized y.cls ∈ AW) (h5 : Cond.code y b n ret ∈ AW) : GoodIn AW (va_wsS own idx y (.code y b n ret :: AW)) := aw_g fun w hw => by
  simp only [va_wsS, List.cons_append, List.nil_append] at hw
  rcases List.mem_cons.mp hw with rfl | hw
  · exact h1
  rcases List.mem_cons.mp hw with rfl | hw
  · exact h2
  rcases List.mem_cons.mp hw with rfl | hw
  · exact h4
  exact aw_1 h5 w hw
theorem ct_I {l : Launch} {y : MethodName} {b : ByteArray} {n : Nat} {ret : Option FieldType} {rm : Room} {G : GG} {av : List Value} {w : va_W} {r : Int32} {w' : va_W} (own : String) (lv0 : List (Nat × Value)) (hcls : y.cls = own) (hpl : plainName y.cls = true) (hn : (lg_sl av).length ≤ n) (hlv : lv_args 0 av = lv0)
    (K : ∀ (p : Program) (e : Env) (s : State) (m : MethodId) (args : Array Value) (below : List Frame) (meth : Method) (c : Code) (A : Nat → Prop), Cx p s m args c b n own G A → meth.sig.returnType = ret → meth.locks = false → meth.name = y.name → WJ p l e rm s m args below meth c G A n 0 0 (MQ below (PostI G A r w') args s rm.cells rm.slots A) w lv0 0 []) : CtI l y b n ret rm G av w r w' := by
  intro sz
  refine Met.ofW (cc := b) (maxL := n) (ret := ret) hpl rfl ?_
  intro p e s m args below meth c s₁ B hml hv
  obtain ⟨rfl, hsz, hP, hK, hD0, hN, hG⟩ := hv
  have hts := atoms_spec (ws := .code y b n ret :: AW) B.pre
  have hown : s.vm.findClass own = some m.cls := by rw [← hcls]; exact findClass_of_methodNamed B.named
  subst hsz
  have hD := hD0.self (sz := s.heap.size)
  have hl := lv_entry av (n := n) hn
  rw [lg_entry_eq]
  exact K p e s m _ below meth c (va_A w s.heap.size) ⟨B.exec, B.bytes, hml, hown, fun w h => hts w (List.mem_cons_of_mem _ h), hK, fun q h => Or.inr h, hN, hG⟩ B.returns B.notSynchronized (name_of_methodNamed B.named B.method).1 s.heap [] _ hP hD va_S.rf (hlv ▸ hl)
theorem ct_L {l : Launch} {y : MethodName} {b : ByteArray} {n : Nat} {ret : Option FieldType} {rm : Room} {G : GG} {av : List Value} {w : va_W} {r : Int64} {w' : va_W} (own : String) (lv0 : List (Nat × Value)) (hcls : y.cls = own) (hpl : plainName y.cls = true) (hn : (lg_sl av).length ≤ n) (hlv : lv_args 0 av = lv0)
    (K : ∀ (p : Program) (e : Env) (s : State) (m : MethodId) (args : Array Value) (below : List Frame) (meth : Method) (c : Code) (A : Nat → Prop), Cx p s m args c b n own G A → meth.sig.returnType = ret → meth.locks = false → meth.name = y.name → WJ p l e rm s m args below meth c G A n 0 0 (MQ below (PostL G A r w') args s rm.cells rm.slots A) w lv0 0 []) : CtL l y b n ret rm G av w r w' := by
  intro sz
  refine Met.ofW (cc := b) (maxL := n) (ret := ret) hpl rfl ?_
  intro p e s m args below meth c s₁ B hml hv
  obtain ⟨rfl, hsz, hP, hK, hD0, hN, hG⟩ := hv
  have hts := atoms_spec (ws := .code y b n ret :: AW) B.pre
  have hown : s.vm.findClass own = some m.cls := by rw [← hcls]; exact findClass_of_methodNamed B.named
  subst hsz
  have hD := hD0.self (sz := s.heap.size)
  have hl := lv_entry av (n := n) hn
  rw [lg_entry_eq]
  exact K p e s m _ below meth c (va_A w s.heap.size) ⟨B.exec, B.bytes, hml, hown, fun w h => hts w (List.mem_cons_of_mem _ h), hK, fun q h => Or.inr h, hN, hG⟩ B.returns B.notSynchronized (name_of_methodNamed B.named B.method).1 s.heap [] _ hP hD va_S.rf (hlv ▸ hl)
theorem ct_V {l : Launch} {y : MethodName} {b : ByteArray} {n : Nat} {ret : Option FieldType} {rm : Room} {G : GG} {av : List Value} {w : va_W}  {w' : va_W} (own : String) (lv0 : List (Nat × Value)) (hcls : y.cls = own) (hpl : plainName y.cls = true) (hn : (lg_sl av).length ≤ n) (hlv : lv_args 0 av = lv0)
    (K : ∀ (p : Program) (e : Env) (s : State) (m : MethodId) (args : Array Value) (below : List Frame) (meth : Method) (c : Code) (A : Nat → Prop), Cx p s m args c b n own G A → meth.sig.returnType = ret → meth.locks = false → meth.name = y.name → WJ p l e rm s m args below meth c G A n 0 0 (MQ below (PostV G A w') args s rm.cells rm.slots A) w lv0 0 []) : CtV l y b n ret rm G av w w' := by
  intro sz
  refine Met.ofW (cc := b) (maxL := n) (ret := ret) hpl rfl ?_
  intro p e s m args below meth c s₁ B hml hv
  obtain ⟨rfl, hsz, hP, hK, hD0, hN, hG⟩ := hv
  have hts := atoms_spec (ws := .code y b n ret :: AW) B.pre
  have hown : s.vm.findClass own = some m.cls := by rw [← hcls]; exact findClass_of_methodNamed B.named
  subst hsz
  have hD := hD0.self (sz := s.heap.size)
  have hl := lv_entry av (n := n) hn
  rw [lg_entry_eq]
  exact K p e s m _ below meth c (va_A w s.heap.size) ⟨B.exec, B.bytes, hml, hown, fun w h => hts w (List.mem_cons_of_mem _ h), hK, fun q h => Or.inr h, hN, hG⟩ B.returns B.notSynchronized (name_of_methodNamed B.named B.method).1 s.heap [] _ hP hD va_S.rf (hlv ▸ hl)
section LAYC
variable {p : Program} {l : Launch} {e : Env} {R : Room} {s : State} {m : MethodId} {args : Array Value} {below : List Frame} {meth : Method} {c : Code} {cc : ByteArray} {own : String} {G : GG} {A : Nat → Prop} {nL cells slots : Nat} {Q : State → Prop} {w : va_W} {lv : List (Nat × Value)} {pc : Nat} {st : List Value}
theorem j_iret (C : Cx p s m args c cc nL own G A) (hr : meth.sig.returnType = some .int) (hk : meth.locks = false) {v r : Int32} {w' : va_W} (hv : v = r) (hw : w = w') (d : decode cc pc = .ok (.ireturn, 1)) : WJ p l e R s m args below meth c G A nL cells slots (MQ below (PostI G A r w') args s cells slots A) w lv pc [.int v] := by
  subst hv hw
  intro H locs ls hP hD hS hl
  exact W.iret C.1 C.2.1 hr (fun t ht hW => ⟨⟨v, (), rfl, rfl, by rw [ht]; exact hP, hD⟩, hS.F ht⟩) hS.2.2 d hk
theorem j_zret (C : Cx p s m args c cc nL own G A) {ty : FieldType} (hr : meth.sig.returnType = some ty) (hk : meth.locks = false) {v r : Int32} {w' : va_W} (hn : narrow ty (.int v) = .int v) (hv : v = r) (hw : w = w') (d : decode cc pc = .ok (.ireturn, 1)) : WJ p l e R s m args below meth c G A nL cells slots (MQ below (PostI G A r w') args s cells slots A) w lv pc [.int v] := by
  subst hv hw
  intro H locs ls hP hD hS hl
  exact W.zret C.1 C.2.1 hr hn (fun t ht hW => ⟨⟨v, (), rfl, rfl, by rw [ht]; exact hP, hD⟩, hS.F ht⟩) hS.2.2 d hk
theorem j_lret (C : Cx p s m args c cc nL own G A) (hr : meth.sig.returnType = some .long) (hk : meth.locks = false) {v r : Int64} {w' : va_W} (hv : v = r) (hw : w = w') (d : decode cc pc = .ok (.lreturn, 1)) : WJ p l e R s m args below meth c G A nL cells slots (MQ below (PostL G A r w') args s cells slots A) w lv pc [.long v] := by
  subst hv hw
  intro H locs ls hP hD hS hl
  exact W.lret C.1 C.2.1 hr (fun t ht hW => ⟨⟨v, (), rfl, rfl, by rw [ht]; exact hP, hD⟩, hS.F ht⟩) hS.2.2 d hk
theorem j_vret (C : Cx p s m args c cc nL own G A) (hr : meth.sig.returnType = none) (hk : meth.locks = false) {w' : va_W} (hw : w = w') (d : decode cc pc = .ok (.return_, 1)) : WJ p l e R s m args below meth c G A nL cells slots (MQ below (PostV G A w') args s cells slots A) w lv pc [] := by
  subst hw
  intro H locs ls hP hD hS hl
  exact W.vret C.1 C.2.1 hr (fun t ht hW => ⟨⟨(), rfl, trivial, by rw [ht]; exact hP, hD⟩, hS.F ht⟩) hS.2.2 d hk
theorem j_perm (w2 : va_W) (hp : w.Perm w2) (K : WJ p l e R s m args below meth c G A nL cells slots Q w2 lv pc st) : WJ p l e R s m args below meth c G A nL cells slots Q w lv pc st := fun H locs ls hP hD hS hl => K H locs ls (hP.perm hp) (hD.perm hp) hS hl
theorem j_lv (ks : List Nat) (lv' : List (Nat × Value)) (h : lv_pick lv ks = lv') (K : WJ p l e R s m args below meth c G A nL cells slots Q w lv' pc st) : WJ p l e R s m args below meth c G A nL cells slots Q w lv pc st := fun H locs ls hP hD hS hl => K H locs ls hP hD hS (lv_sub hl ks h)
theorem j_w (w2 : va_W) (h : w = w2) (K : WJ p l e R s m args below meth c G A nL cells slots Q w2 lv pc st) : WJ p l e R s m args below meth c G A nL cells slots Q w lv pc st := h ▸ K
theorem j_widen {k n : Nat} (h1 : cells ≤ k) (h2 : slots ≤ n) (K : WJ p l e R s m args below meth c G A nL k n Q w lv pc st) : WJ p l e R s m args below meth c G A nL cells slots Q w lv pc st := fun H locs ls hP hD hS hl => W.widen h1 h2 (K H locs ls hP hD hS hl)
theorem j_callV_i (C : Cx p s m args c cc nL own G A) {y : MethodName} {idx n' : Nat} {b : ByteArray} {ret : Option FieldType} {rm : Room} {a : Nat} {As st0 : List Value} {wc wc' : va_W} {r : Int32} (M : CtI l y b n' ret rm G (.ref a :: As) wc r wc') {Cn : String} {T : u_T} {N ci : Nat} {fs : List Value} (hc : vwCl[ci]? = some (Cn, T, N)) (q0 : Nat) (he : wc[q0]? = some (a, .inr (ci, fs))) (nA : Nat) (g : GoodIn AW (wsV own idx Cn y (.code y b n' ret :: AW))) (hd : y.cls = Cn ∧ y.cls ≠ "java/lang/invoke/MethodHandle" ∧ y.cls ≠ "java/lang/invoke/VarHandle" ∧ (parseMethodDescriptor y.desc).map (fun d => d.parameters.length) = some nA) (hR : rm.frames + 1 ≤ R.frames ∧ 8 + (n' + 11) + rm.locals ≤ R.locals) (hA' : As.length = nA) (hst : st0 = As.reverse ++ .ref a :: st) (hW : (st.map fun v => v.category).sum ≤ 8) (d : decode cc pc = .ok (.invokevirtual idx, 3)) (hf : cells + rm.cells ≤ R.cells ∧ slots + rm.slots ≤ R.slots) (wr w2 : va_W) (hp : w.Perm (wc ++ wr)) (hw2 : wc' ++ wr = w2) (K : WJ p l e R s m args below meth c G A nL (cells + rm.cells) (slots + rm.slots) Q w2 lv (pc + 3) (.int r :: st)) : WJ p l e R s m args below meth c G A nL cells slots Q w lv pc st0 := by
  subst hst
  intro H locs ls hP hD hS hl
  have hP := hP.perm hp
  have hD := hD.perm hp
  have hPc := hP.left
  have hDc := hD.left
  have hFc := free_left hD hS C.2.2.2.2.2.2.1
  refine va_calli (va_runV (As := As) (rest := st) ⟨C.1, C.2.1, C.2.2.1, C.2.2.2.1, C.2.2.2.2.1⟩ (M H.size) (cwV nA C.2.2.2.2.1 g rfl rfl rfl hd hR) ⟨PreG.blind, va_recv C.2.2.2.2.2.1 hPc hc he, fun U hU hW' => ⟨rfl, by rw [hU], by rw [hU]; exact hPc, va_K.moved hW'.alike C.2.2.2.2.2.1, hDc.weaken (fun _ _ _ _ => trivial), NW.warm hW' C.2.2.2.2.2.2.2.1, by rw [hU]; exact ((GS.kept C.2.2.2.2.2.2.2.2 (fun a h1 h2 => hS.2.1 a h1 h2)).narrow hFc).moved hW'.alike⟩⟩ rfl hA' hl.1 rfl (lv_room hW) d hf) hS (fun q _ h => hFc q h) hFc (fun r' u t H1 locs1 ht hvm hw hB hz1 hk1 hS1 => ?_)
  subst hw
  obtain ⟨hP1, hD1⟩ := hB
  rw [ht] at hP1
  obtain ⟨hP2, hD2⟩ := join_left hP hD hk1 hFc hP1 hD1
  exact K H1 locs1 ls (hw2 ▸ hP2) (hw2 ▸ hD2) hS1 hl
theorem j_callV_l (C : Cx p s m args c cc nL own G A) {y : MethodName} {idx n' : Nat} {b : ByteArray} {ret : Option FieldType} {rm : Room} {a : Nat} {As st0 : List Value} {wc wc' : va_W} {r : Int64} (M : CtL l y b n' ret rm G (.ref a :: As) wc r wc') {Cn : String} {T : u_T} {N ci : Nat} {fs : List Value} (hc : vwCl[ci]? = some (Cn, T, N)) (q0 : Nat) (he : wc[q0]? = some (a, .inr (ci, fs))) (nA : Nat) (g : GoodIn AW (wsV own idx Cn y (.code y b n' ret :: AW))) (hd : y.cls = Cn ∧ y.cls ≠ "java/lang/invoke/MethodHandle" ∧ y.cls ≠ "java/lang/invoke/VarHandle" ∧ (parseMethodDescriptor y.desc).map (fun d => d.parameters.length) = some nA) (hR : rm.frames + 1 ≤ R.frames ∧ 8 + (n' + 11) + rm.locals ≤ R.locals) (hA' : As.length = nA) (hst : st0 = As.reverse ++ .ref a :: st) (hW : (st.map fun v => v.category).sum ≤ 8) (d : decode cc pc = .ok (.invokevirtual idx, 3)) (hf : cells + rm.cells ≤ R.cells ∧ slots + rm.slots ≤ R.slots) (wr w2 : va_W) (hp : w.Perm (wc ++ wr)) (hw2 : wc' ++ wr = w2) (K : WJ p l e R s m args below meth c G A nL (cells + rm.cells) (slots + rm.slots) Q w2 lv (pc + 3) (.long r :: st)) : WJ p l e R s m args below meth c G A nL cells slots Q w lv pc st0 := by
  subst hst
  intro H locs ls hP hD hS hl
  have hP := hP.perm hp
  have hD := hD.perm hp
  have hPc := hP.left
  have hDc := hD.left
  have hFc := free_left hD hS C.2.2.2.2.2.2.1
  refine va_calll (va_runV (As := As) (rest := st) ⟨C.1, C.2.1, C.2.2.1, C.2.2.2.1, C.2.2.2.2.1⟩ (M H.size) (cwV nA C.2.2.2.2.1 g rfl rfl rfl hd hR) ⟨PreG.blind, va_recv C.2.2.2.2.2.1 hPc hc he, fun U hU hW' => ⟨rfl, by rw [hU], by rw [hU]; exact hPc, va_K.moved hW'.alike C.2.2.2.2.2.1, hDc.weaken (fun _ _ _ _ => trivial), NW.warm hW' C.2.2.2.2.2.2.2.1, by rw [hU]; exact ((GS.kept C.2.2.2.2.2.2.2.2 (fun a h1 h2 => hS.2.1 a h1 h2)).narrow hFc).moved hW'.alike⟩⟩ rfl hA' hl.1 rfl (lv_room hW) d hf) hS (fun q _ h => hFc q h) hFc (fun r' u t H1 locs1 ht hvm hw hB hz1 hk1 hS1 => ?_)
  subst hw
  obtain ⟨hP1, hD1⟩ := hB
  rw [ht] at hP1
  obtain ⟨hP2, hD2⟩ := join_left hP hD hk1 hFc hP1 hD1
  exact K H1 locs1 ls (hw2 ▸ hP2) (hw2 ▸ hD2) hS1 hl
theorem j_callV_v (C : Cx p s m args c cc nL own G A) {y : MethodName} {idx n' : Nat} {b : ByteArray} {ret : Option FieldType} {rm : Room} {a : Nat} {As st0 : List Value} {wc wc' : va_W} (M : CtV l y b n' ret rm G (.ref a :: As) wc wc') {Cn : String} {T : u_T} {N ci : Nat} {fs : List Value} (hc : vwCl[ci]? = some (Cn, T, N)) (q0 : Nat) (he : wc[q0]? = some (a, .inr (ci, fs))) (nA : Nat) (g : GoodIn AW (wsV own idx Cn y (.code y b n' ret :: AW))) (hd : y.cls = Cn ∧ y.cls ≠ "java/lang/invoke/MethodHandle" ∧ y.cls ≠ "java/lang/invoke/VarHandle" ∧ (parseMethodDescriptor y.desc).map (fun d => d.parameters.length) = some nA) (hR : rm.frames + 1 ≤ R.frames ∧ 8 + (n' + 11) + rm.locals ≤ R.locals) (hA' : As.length = nA) (hst : st0 = As.reverse ++ .ref a :: st) (hW : (st.map fun v => v.category).sum ≤ 8) (d : decode cc pc = .ok (.invokevirtual idx, 3)) (hf : cells + rm.cells ≤ R.cells ∧ slots + rm.slots ≤ R.slots) (wr w2 : va_W) (hp : w.Perm (wc ++ wr)) (hw2 : wc' ++ wr = w2) (K : WJ p l e R s m args below meth c G A nL (cells + rm.cells) (slots + rm.slots) Q w2 lv (pc + 3) st) : WJ p l e R s m args below meth c G A nL cells slots Q w lv pc st0 := by
  subst hst
  intro H locs ls hP hD hS hl
  have hP := hP.perm hp
  have hD := hD.perm hp
  have hPc := hP.left
  have hDc := hD.left
  have hFc := free_left hD hS C.2.2.2.2.2.2.1
  refine va_callv (va_runV (As := As) (rest := st) ⟨C.1, C.2.1, C.2.2.1, C.2.2.2.1, C.2.2.2.2.1⟩ (M H.size) (cwV nA C.2.2.2.2.1 g rfl rfl rfl hd hR) ⟨PreG.blind, va_recv C.2.2.2.2.2.1 hPc hc he, fun U hU hW' => ⟨rfl, by rw [hU], by rw [hU]; exact hPc, va_K.moved hW'.alike C.2.2.2.2.2.1, hDc.weaken (fun _ _ _ _ => trivial), NW.warm hW' C.2.2.2.2.2.2.2.1, by rw [hU]; exact ((GS.kept C.2.2.2.2.2.2.2.2 (fun a h1 h2 => hS.2.1 a h1 h2)).narrow hFc).moved hW'.alike⟩⟩ rfl hA' hl.1 rfl (lv_room hW) d hf) hS (fun q _ h => hFc q h) hFc (fun u t H1 locs1 ht hvm hw hB hz1 hk1 hS1 => ?_)
  obtain ⟨hP1, hD1⟩ := hB
  rw [ht] at hP1
  obtain ⟨hP2, hD2⟩ := join_left hP hD hk1 hFc hP1 hD1
  exact K H1 locs1 ls (hw2 ▸ hP2) (hw2 ▸ hD2) hS1 hl
theorem j_callS_i (C : Cx p s m args c cc nL own G A) {y : MethodName} {idx n' : Nat} {b : ByteArray} {ret : Option FieldType} {rm : Room} {As st0 : List Value} {wc wc' : va_W} {r : Int32} (M : CtI l y b n' ret rm G As wc r wc') (nA : Nat) (g : GoodIn AW (va_wsS own idx y (.code y b n' ret :: AW))) (hd : y.cls ≠ "java/lang/invoke/MethodHandle" ∧ y.cls ≠ "java/lang/invoke/VarHandle" ∧ (parseMethodDescriptor y.desc).map (fun d => d.parameters.length) = some nA) (hR : rm.frames + 1 ≤ R.frames ∧ 8 + (n' + 11) + rm.locals ≤ R.locals) (hA' : As.length = nA) (hst : st0 = As.reverse ++ st) (hW : (st.map fun v => v.category).sum ≤ 8) (d : decode cc pc = .ok (.invokestatic idx, 3)) (hf : cells + rm.cells ≤ R.cells ∧ slots + rm.slots ≤ R.slots) (wr w2 : va_W) (hp : w.Perm (wc ++ wr)) (hw2 : wc' ++ wr = w2) (K : WJ p l e R s m args below meth c G A nL (cells + rm.cells) (slots + rm.slots) Q w2 lv (pc + 3) (.int r :: st)) : WJ p l e R s m args below meth c G A nL cells slots Q w lv pc st0 := by
  subst hst
  intro H locs ls hP hD hS hl
  have hP := hP.perm hp
  have hD := hD.perm hp
  have hPc := hP.left
  have hDc := hD.left
  have hFc := free_left hD hS C.2.2.2.2.2.2.1
  refine va_calli (va_runS (As := As) (rest := st) ⟨C.1, C.2.1, C.2.2.1, C.2.2.2.1, C.2.2.2.2.1⟩ (M H.size) (va_cwS nA C.2.2.2.2.1 g rfl rfl rfl hd hR) ⟨PreG.blind, fun U hU hW' => ⟨rfl, by rw [hU], by rw [hU]; exact hPc, va_K.moved hW'.alike C.2.2.2.2.2.1, hDc.weaken (fun _ _ _ _ => trivial), NW.warm hW' C.2.2.2.2.2.2.2.1, by rw [hU]; exact ((GS.kept C.2.2.2.2.2.2.2.2 (fun a h1 h2 => hS.2.1 a h1 h2)).narrow hFc).moved hW'.alike⟩⟩ rfl hA' hl.1 rfl (lv_room hW) d hf) hS (fun q _ h => hFc q h) hFc (fun r' u t H1 locs1 ht hvm hw hB hz1 hk1 hS1 => ?_)
  subst hw
  obtain ⟨hP1, hD1⟩ := hB
  rw [ht] at hP1
  obtain ⟨hP2, hD2⟩ := join_left hP hD hk1 hFc hP1 hD1
  exact K H1 locs1 ls (hw2 ▸ hP2) (hw2 ▸ hD2) hS1 hl
theorem j_pureS_i (C : Cx p s m args c cc nL own G A) {y : MethodName} {idx n' : Nat} {b : ByteArray} {ret : Option FieldType} {rm : Room} {As st0 : List Value} {r : Int32} (M : CtI l y b n' ret rm G As [] r []) (nA : Nat) (g : GoodIn AW (va_wsS own idx y (.code y b n' ret :: AW))) (hd : y.cls ≠ "java/lang/invoke/MethodHandle" ∧ y.cls ≠ "java/lang/invoke/VarHandle" ∧ (parseMethodDescriptor y.desc).map (fun d => d.parameters.length) = some nA) (hR : rm.frames + 1 ≤ R.frames ∧ 8 + (n' + 11) + rm.locals ≤ R.locals) (hA' : As.length = nA) (hst : st0 = As.reverse ++ st) (hW : (st.map fun v => v.category).sum ≤ 8) (d : decode cc pc = .ok (.invokestatic idx, 3)) (hf : cells + rm.cells ≤ R.cells ∧ slots + rm.slots ≤ R.slots) (K : WJ p l e R s m args below meth c G A nL (cells + rm.cells) (slots + rm.slots) Q w lv (pc + 3) (.int r :: st)) : WJ p l e R s m args below meth c G A nL cells slots Q w lv pc st0 := by
  subst hst
  intro H locs ls hP hD hS hl
  have hPc := hP.sub (ws' := []) [] rfl
  have hDc := hD.sub (ws' := []) [] rfl rfl
  have hFc := va_free (wc := []) hD hS C.2.2.2.2.2.2.1 [] rfl
  refine va_calli (va_runS (As := As) (rest := st) ⟨C.1, C.2.1, C.2.2.1, C.2.2.2.1, C.2.2.2.2.1⟩ (M H.size) (va_cwS nA C.2.2.2.2.1 g rfl rfl rfl hd hR) ⟨PreG.blind, fun U hU hW' => ⟨rfl, by rw [hU], by rw [hU]; exact hPc, va_K.moved hW'.alike C.2.2.2.2.2.1, hDc.weaken (fun _ _ _ _ => trivial), NW.warm hW' C.2.2.2.2.2.2.2.1, by rw [hU]; exact ((GS.kept C.2.2.2.2.2.2.2.2 (fun a h1 h2 => hS.2.1 a h1 h2)).narrow hFc).moved hW'.alike⟩⟩ rfl hA' hl.1 rfl (lv_room hW) d hf) hS (fun q _ h => hFc q h) hFc (fun r' u t H1 locs1 ht hvm hw hB hz1 hk1 hS1 => ?_)
  subst hw
  exact K H1 locs1 ls (hP.kept (fun k q hk => hk1 q.1 (hP k q hk).lt (fun h => h.elim (fun ⟨_, _, h2⟩ => by simp at h2) (fun h2 => Nat.lt_irrefl _ (Nat.lt_of_lt_of_le (hP k q hk).lt h2))))) hD hS1 hl
theorem j_callS_l (C : Cx p s m args c cc nL own G A) {y : MethodName} {idx n' : Nat} {b : ByteArray} {ret : Option FieldType} {rm : Room} {As st0 : List Value} {wc wc' : va_W} {r : Int64} (M : CtL l y b n' ret rm G As wc r wc') (nA : Nat) (g : GoodIn AW (va_wsS own idx y (.code y b n' ret :: AW))) (hd : y.cls ≠ "java/lang/invoke/MethodHandle" ∧ y.cls ≠ "java/lang/invoke/VarHandle" ∧ (parseMethodDescriptor y.desc).map (fun d => d.parameters.length) = some nA) (hR : rm.frames + 1 ≤ R.frames ∧ 8 + (n' + 11) + rm.locals ≤ R.locals) (hA' : As.length = nA) (hst : st0 = As.reverse ++ st) (hW : (st.map fun v => v.category).sum ≤ 8) (d : decode cc pc = .ok (.invokestatic idx, 3)) (hf : cells + rm.cells ≤ R.cells ∧ slots + rm.slots ≤ R.slots) (wr w2 : va_W) (hp : w.Perm (wc ++ wr)) (hw2 : wc' ++ wr = w2) (K : WJ p l e R s m args below meth c G A nL (cells + rm.cells) (slots + rm.slots) Q w2 lv (pc + 3) (.long r :: st)) : WJ p l e R s m args below meth c G A nL cells slots Q w lv pc st0 := by
  subst hst
  intro H locs ls hP hD hS hl
  have hP := hP.perm hp
  have hD := hD.perm hp
  have hPc := hP.left
  have hDc := hD.left
  have hFc := free_left hD hS C.2.2.2.2.2.2.1
  refine va_calll (va_runS (As := As) (rest := st) ⟨C.1, C.2.1, C.2.2.1, C.2.2.2.1, C.2.2.2.2.1⟩ (M H.size) (va_cwS nA C.2.2.2.2.1 g rfl rfl rfl hd hR) ⟨PreG.blind, fun U hU hW' => ⟨rfl, by rw [hU], by rw [hU]; exact hPc, va_K.moved hW'.alike C.2.2.2.2.2.1, hDc.weaken (fun _ _ _ _ => trivial), NW.warm hW' C.2.2.2.2.2.2.2.1, by rw [hU]; exact ((GS.kept C.2.2.2.2.2.2.2.2 (fun a h1 h2 => hS.2.1 a h1 h2)).narrow hFc).moved hW'.alike⟩⟩ rfl hA' hl.1 rfl (lv_room hW) d hf) hS (fun q _ h => hFc q h) hFc (fun r' u t H1 locs1 ht hvm hw hB hz1 hk1 hS1 => ?_)
  subst hw
  obtain ⟨hP1, hD1⟩ := hB
  rw [ht] at hP1
  obtain ⟨hP2, hD2⟩ := join_left hP hD hk1 hFc hP1 hD1
  exact K H1 locs1 ls (hw2 ▸ hP2) (hw2 ▸ hD2) hS1 hl
theorem j_pureS_l (C : Cx p s m args c cc nL own G A) {y : MethodName} {idx n' : Nat} {b : ByteArray} {ret : Option FieldType} {rm : Room} {As st0 : List Value} {r : Int64} (M : CtL l y b n' ret rm G As [] r []) (nA : Nat) (g : GoodIn AW (va_wsS own idx y (.code y b n' ret :: AW))) (hd : y.cls ≠ "java/lang/invoke/MethodHandle" ∧ y.cls ≠ "java/lang/invoke/VarHandle" ∧ (parseMethodDescriptor y.desc).map (fun d => d.parameters.length) = some nA) (hR : rm.frames + 1 ≤ R.frames ∧ 8 + (n' + 11) + rm.locals ≤ R.locals) (hA' : As.length = nA) (hst : st0 = As.reverse ++ st) (hW : (st.map fun v => v.category).sum ≤ 8) (d : decode cc pc = .ok (.invokestatic idx, 3)) (hf : cells + rm.cells ≤ R.cells ∧ slots + rm.slots ≤ R.slots) (K : WJ p l e R s m args below meth c G A nL (cells + rm.cells) (slots + rm.slots) Q w lv (pc + 3) (.long r :: st)) : WJ p l e R s m args below meth c G A nL cells slots Q w lv pc st0 := by
  subst hst
  intro H locs ls hP hD hS hl
  have hPc := hP.sub (ws' := []) [] rfl
  have hDc := hD.sub (ws' := []) [] rfl rfl
  have hFc := va_free (wc := []) hD hS C.2.2.2.2.2.2.1 [] rfl
  refine va_calll (va_runS (As := As) (rest := st) ⟨C.1, C.2.1, C.2.2.1, C.2.2.2.1, C.2.2.2.2.1⟩ (M H.size) (va_cwS nA C.2.2.2.2.1 g rfl rfl rfl hd hR) ⟨PreG.blind, fun U hU hW' => ⟨rfl, by rw [hU], by rw [hU]; exact hPc, va_K.moved hW'.alike C.2.2.2.2.2.1, hDc.weaken (fun _ _ _ _ => trivial), NW.warm hW' C.2.2.2.2.2.2.2.1, by rw [hU]; exact ((GS.kept C.2.2.2.2.2.2.2.2 (fun a h1 h2 => hS.2.1 a h1 h2)).narrow hFc).moved hW'.alike⟩⟩ rfl hA' hl.1 rfl (lv_room hW) d hf) hS (fun q _ h => hFc q h) hFc (fun r' u t H1 locs1 ht hvm hw hB hz1 hk1 hS1 => ?_)
  subst hw
  exact K H1 locs1 ls (hP.kept (fun k q hk => hk1 q.1 (hP k q hk).lt (fun h => h.elim (fun ⟨_, _, h2⟩ => by simp at h2) (fun h2 => Nat.lt_irrefl _ (Nat.lt_of_lt_of_le (hP k q hk).lt h2))))) hD hS1 hl
theorem j_callS_v (C : Cx p s m args c cc nL own G A) {y : MethodName} {idx n' : Nat} {b : ByteArray} {ret : Option FieldType} {rm : Room} {As st0 : List Value} {wc wc' : va_W} (M : CtV l y b n' ret rm G As wc wc') (nA : Nat) (g : GoodIn AW (va_wsS own idx y (.code y b n' ret :: AW))) (hd : y.cls ≠ "java/lang/invoke/MethodHandle" ∧ y.cls ≠ "java/lang/invoke/VarHandle" ∧ (parseMethodDescriptor y.desc).map (fun d => d.parameters.length) = some nA) (hR : rm.frames + 1 ≤ R.frames ∧ 8 + (n' + 11) + rm.locals ≤ R.locals) (hA' : As.length = nA) (hst : st0 = As.reverse ++ st) (hW : (st.map fun v => v.category).sum ≤ 8) (d : decode cc pc = .ok (.invokestatic idx, 3)) (hf : cells + rm.cells ≤ R.cells ∧ slots + rm.slots ≤ R.slots) (wr w2 : va_W) (hp : w.Perm (wc ++ wr)) (hw2 : wc' ++ wr = w2) (K : WJ p l e R s m args below meth c G A nL (cells + rm.cells) (slots + rm.slots) Q w2 lv (pc + 3) st) : WJ p l e R s m args below meth c G A nL cells slots Q w lv pc st0 := by
  subst hst
  intro H locs ls hP hD hS hl
  have hP := hP.perm hp
  have hD := hD.perm hp
  have hPc := hP.left
  have hDc := hD.left
  have hFc := free_left hD hS C.2.2.2.2.2.2.1
  refine va_callv (va_runS (As := As) (rest := st) ⟨C.1, C.2.1, C.2.2.1, C.2.2.2.1, C.2.2.2.2.1⟩ (M H.size) (va_cwS nA C.2.2.2.2.1 g rfl rfl rfl hd hR) ⟨PreG.blind, fun U hU hW' => ⟨rfl, by rw [hU], by rw [hU]; exact hPc, va_K.moved hW'.alike C.2.2.2.2.2.1, hDc.weaken (fun _ _ _ _ => trivial), NW.warm hW' C.2.2.2.2.2.2.2.1, by rw [hU]; exact ((GS.kept C.2.2.2.2.2.2.2.2 (fun a h1 h2 => hS.2.1 a h1 h2)).narrow hFc).moved hW'.alike⟩⟩ rfl hA' hl.1 rfl (lv_room hW) d hf) hS (fun q _ h => hFc q h) hFc (fun u t H1 locs1 ht hvm hw hB hz1 hk1 hS1 => ?_)
  obtain ⟨hP1, hD1⟩ := hB
  rw [ht] at hP1
  obtain ⟨hP2, hD2⟩ := join_left hP hD hk1 hFc hP1 hD1
  exact K H1 locs1 ls (hw2 ▸ hP2) (hw2 ▸ hD2) hS1 hl
theorem j_pureS_v (C : Cx p s m args c cc nL own G A) {y : MethodName} {idx n' : Nat} {b : ByteArray} {ret : Option FieldType} {rm : Room} {As st0 : List Value} (M : CtV l y b n' ret rm G As [] []) (nA : Nat) (g : GoodIn AW (va_wsS own idx y (.code y b n' ret :: AW))) (hd : y.cls ≠ "java/lang/invoke/MethodHandle" ∧ y.cls ≠ "java/lang/invoke/VarHandle" ∧ (parseMethodDescriptor y.desc).map (fun d => d.parameters.length) = some nA) (hR : rm.frames + 1 ≤ R.frames ∧ 8 + (n' + 11) + rm.locals ≤ R.locals) (hA' : As.length = nA) (hst : st0 = As.reverse ++ st) (hW : (st.map fun v => v.category).sum ≤ 8) (d : decode cc pc = .ok (.invokestatic idx, 3)) (hf : cells + rm.cells ≤ R.cells ∧ slots + rm.slots ≤ R.slots) (K : WJ p l e R s m args below meth c G A nL (cells + rm.cells) (slots + rm.slots) Q w lv (pc + 3) st) : WJ p l e R s m args below meth c G A nL cells slots Q w lv pc st0 := by
  subst hst
  intro H locs ls hP hD hS hl
  have hPc := hP.sub (ws' := []) [] rfl
  have hDc := hD.sub (ws' := []) [] rfl rfl
  have hFc := va_free (wc := []) hD hS C.2.2.2.2.2.2.1 [] rfl
  refine va_callv (va_runS (As := As) (rest := st) ⟨C.1, C.2.1, C.2.2.1, C.2.2.2.1, C.2.2.2.2.1⟩ (M H.size) (va_cwS nA C.2.2.2.2.1 g rfl rfl rfl hd hR) ⟨PreG.blind, fun U hU hW' => ⟨rfl, by rw [hU], by rw [hU]; exact hPc, va_K.moved hW'.alike C.2.2.2.2.2.1, hDc.weaken (fun _ _ _ _ => trivial), NW.warm hW' C.2.2.2.2.2.2.2.1, by rw [hU]; exact ((GS.kept C.2.2.2.2.2.2.2.2 (fun a h1 h2 => hS.2.1 a h1 h2)).narrow hFc).moved hW'.alike⟩⟩ rfl hA' hl.1 rfl (lv_room hW) d hf) hS (fun q _ h => hFc q h) hFc (fun u t H1 locs1 ht hvm hw hB hz1 hk1 hS1 => ?_)
  exact K H1 locs1 ls (hP.kept (fun k q hk => hk1 q.1 (hP k q hk).lt (fun h => h.elim (fun ⟨_, _, h2⟩ => by simp at h2) (fun h2 => Nat.lt_irrefl _ (Nat.lt_of_lt_of_le (hP k q hk).lt h2))))) hD hS1 hl
theorem j_callI_v (C : Cx p s m args c cc nL own G A) {y : MethodName} {idx n' : Nat} {b : ByteArray} {ret : Option FieldType} {rm : Room} {a : Nat} {As st0 : List Value} {wc wc' : va_W} (M : CtV l y b n' ret rm G (.ref a :: As) wc wc') (nA : Nat) (g : Cond.code y b n' ret ∈ AW) (hret : ret = none) (hini : Cond.initialized y.cls ∈ AW) (hlk : Cond.methodLink own idx y ∈ AW) (hinm : Cond.instanceMethod y ∈ AW) (hy1 : y.name = "<init>") (hd : y.cls ≠ "java/lang/invoke/MethodHandle" ∧ y.cls ≠ "java/lang/invoke/VarHandle" ∧ (parseMethodDescriptor y.desc).map (fun d => d.parameters.length) = some nA) (hR : rm.frames + 1 ≤ R.frames ∧ 8 + (n' + 11) + rm.locals ≤ R.locals) (hA' : As.length = nA) (hst : st0 = As.reverse ++ .ref a :: st) (hW : (st.map fun v => v.category).sum ≤ 8) (d : decode cc pc = .ok (.invokespecial idx, 3)) (hf : cells + rm.cells ≤ R.cells ∧ slots + rm.slots ≤ R.slots) (wr w2 : va_W) (hp : w.Perm (wc ++ wr)) (hw2 : wc' ++ wr = w2) (K : WJ p l e R s m args below meth c G A nL (cells + rm.cells) (slots + rm.slots) Q w2 lv (pc + 3) st) : WJ p l e R s m args below meth c G A nL cells slots Q w lv pc st0 := by
  subst hst
  subst hret
  intro H locs ls hP hD hS hl
  have hP := hP.perm hp
  have hD := hD.perm hp
  have hPc := hP.left
  have hDc := hD.left
  have hFc := free_left hD hS C.2.2.2.2.2.2.1
  refine va_callv (va_runI (As := As) (rest := st) ⟨C.1, C.2.1, C.2.2.1, C.2.2.2.1, C.2.2.2.2.1⟩ (M H.size) (cwI nA C.2.2.2.2.1 (aw_g (aw_1 g)) rfl rfl rfl (C.2.2.2.2.1 _ hini) (C.2.2.2.2.1 _ hlk) (C.2.2.2.2.1 _ hinm) hy1 hd hR) ⟨PreG.blind, fun U hU hW' => ⟨rfl, by rw [hU], by rw [hU]; exact hPc, va_K.moved hW'.alike C.2.2.2.2.2.1, hDc.weaken (fun _ _ _ _ => trivial), NW.warm hW' C.2.2.2.2.2.2.2.1, by rw [hU]; exact ((GS.kept C.2.2.2.2.2.2.2.2 (fun a h1 h2 => hS.2.1 a h1 h2)).narrow hFc).moved hW'.alike⟩⟩ rfl hA' hl.1 rfl (lv_room hW) d hf) hS (fun q _ h => hFc q h) hFc (fun u t H1 locs1 ht hvm hw hB hz1 hk1 hS1 => ?_)
  obtain ⟨hP1, hD1⟩ := hB
  rw [ht] at hP1
  obtain ⟨hP2, hD2⟩ := join_left hP hD hk1 hFc hP1 hD1
  exact K H1 locs1 ls (hw2 ▸ hP2) (hw2 ▸ hD2) hS1 hl
theorem j_callSN_i (C : Cx p s m args c cc nL own G A) {y : MethodName} {idx n' : Nat} {b : ByteArray} {ret : Option FieldType} {rm : Room} {As st0 : List Value} {wc wc' : va_W} {r : Int32} (M : CtI l y b n' ret rm G As wc r wc') (nA : Nat) {host : String} (g : Cond.code y b n' ret ∈ AW) (hnest : Cond.methodLinkNest own idx y host ∈ nestL) (hini : Cond.initialized y.cls ∈ AW) (hstt : Cond.static y ∈ AW) (hd : y.cls ≠ "java/lang/invoke/MethodHandle" ∧ y.cls ≠ "java/lang/invoke/VarHandle" ∧ (parseMethodDescriptor y.desc).map (fun d => d.parameters.length) = some nA) (hR : rm.frames + 1 ≤ R.frames ∧ 8 + (n' + 11) + rm.locals ≤ R.locals) (hA' : As.length = nA) (hst : st0 = As.reverse ++ st) (hW : (st.map fun v => v.category).sum ≤ 8) (d : decode cc pc = .ok (.invokestatic idx, 3)) (hf : cells + rm.cells ≤ R.cells ∧ slots + rm.slots ≤ R.slots) (wr w2 : va_W) (hp : w.Perm (wc ++ wr)) (hw2 : wc' ++ wr = w2) (K : WJ p l e R s m args below meth c G A nL (cells + rm.cells) (slots + rm.slots) Q w2 lv (pc + 3) (.int r :: st)) : WJ p l e R s m args below meth c G A nL cells slots Q w lv pc st0 := by
  subst hst
  intro H locs ls hP hD hS hl
  have hP := hP.perm hp
  have hD := hD.perm hp
  have hPc := hP.left
  have hDc := hD.left
  have hFc := free_left hD hS C.2.2.2.2.2.2.1
  refine va_calli (va_runSN (As := As) (rest := st) ⟨C.1, C.2.1, C.2.2.1, C.2.2.2.1, C.2.2.2.2.1⟩ (M H.size) ⟨va_cnB nA C.2.2.2.2.1 (aw_g (aw_1 g)) rfl rfl rfl (C.2.2.2.2.2.2.2.1.1 _ hnest) (C.2.2.2.2.1 _ hini) hd hR, C.2.2.2.2.1 _ hstt, trivial⟩ ⟨PreG.blind, fun U hU hW' => ⟨rfl, by rw [hU], by rw [hU]; exact hPc, va_K.moved hW'.alike C.2.2.2.2.2.1, hDc.weaken (fun _ _ _ _ => trivial), NW.warm hW' C.2.2.2.2.2.2.2.1, by rw [hU]; exact ((GS.kept C.2.2.2.2.2.2.2.2 (fun a h1 h2 => hS.2.1 a h1 h2)).narrow hFc).moved hW'.alike⟩⟩ rfl hA' hl.1 rfl (lv_room hW) d hf) hS (fun q _ h => hFc q h) hFc (fun r' u t H1 locs1 ht hvm hw hB hz1 hk1 hS1 => ?_)
  subst hw
  obtain ⟨hP1, hD1⟩ := hB
  rw [ht] at hP1
  obtain ⟨hP2, hD2⟩ := join_left hP hD hk1 hFc hP1 hD1
  exact K H1 locs1 ls (hw2 ▸ hP2) (hw2 ▸ hD2) hS1 hl
theorem j_pureSN_i (C : Cx p s m args c cc nL own G A) {y : MethodName} {idx n' : Nat} {b : ByteArray} {ret : Option FieldType} {rm : Room} {As st0 : List Value} {r : Int32} (M : CtI l y b n' ret rm G As [] r []) (nA : Nat) {host : String} (g : Cond.code y b n' ret ∈ AW) (hnest : Cond.methodLinkNest own idx y host ∈ nestL) (hini : Cond.initialized y.cls ∈ AW) (hstt : Cond.static y ∈ AW) (hd : y.cls ≠ "java/lang/invoke/MethodHandle" ∧ y.cls ≠ "java/lang/invoke/VarHandle" ∧ (parseMethodDescriptor y.desc).map (fun d => d.parameters.length) = some nA) (hR : rm.frames + 1 ≤ R.frames ∧ 8 + (n' + 11) + rm.locals ≤ R.locals) (hA' : As.length = nA) (hst : st0 = As.reverse ++ st) (hW : (st.map fun v => v.category).sum ≤ 8) (d : decode cc pc = .ok (.invokestatic idx, 3)) (hf : cells + rm.cells ≤ R.cells ∧ slots + rm.slots ≤ R.slots) (K : WJ p l e R s m args below meth c G A nL (cells + rm.cells) (slots + rm.slots) Q w lv (pc + 3) (.int r :: st)) : WJ p l e R s m args below meth c G A nL cells slots Q w lv pc st0 := by
  subst hst
  intro H locs ls hP hD hS hl
  have hPc := hP.sub (ws' := []) [] rfl
  have hDc := hD.sub (ws' := []) [] rfl rfl
  have hFc := va_free (wc := []) hD hS C.2.2.2.2.2.2.1 [] rfl
  refine va_calli (va_runSN (As := As) (rest := st) ⟨C.1, C.2.1, C.2.2.1, C.2.2.2.1, C.2.2.2.2.1⟩ (M H.size) ⟨va_cnB nA C.2.2.2.2.1 (aw_g (aw_1 g)) rfl rfl rfl (C.2.2.2.2.2.2.2.1.1 _ hnest) (C.2.2.2.2.1 _ hini) hd hR, C.2.2.2.2.1 _ hstt, trivial⟩ ⟨PreG.blind, fun U hU hW' => ⟨rfl, by rw [hU], by rw [hU]; exact hPc, va_K.moved hW'.alike C.2.2.2.2.2.1, hDc.weaken (fun _ _ _ _ => trivial), NW.warm hW' C.2.2.2.2.2.2.2.1, by rw [hU]; exact ((GS.kept C.2.2.2.2.2.2.2.2 (fun a h1 h2 => hS.2.1 a h1 h2)).narrow hFc).moved hW'.alike⟩⟩ rfl hA' hl.1 rfl (lv_room hW) d hf) hS (fun q _ h => hFc q h) hFc (fun r' u t H1 locs1 ht hvm hw hB hz1 hk1 hS1 => ?_)
  subst hw
  exact K H1 locs1 ls (hP.kept (fun k q hk => hk1 q.1 (hP k q hk).lt (fun h => h.elim (fun ⟨_, _, h2⟩ => by simp at h2) (fun h2 => Nat.lt_irrefl _ (Nat.lt_of_lt_of_le (hP k q hk).lt h2))))) hD hS1 hl
theorem j_callIN_v (C : Cx p s m args c cc nL own G A) {y : MethodName} {idx n' : Nat} {b : ByteArray} {ret : Option FieldType} {rm : Room} {a : Nat} {As st0 : List Value} {wc wc' : va_W} (M : CtV l y b n' ret rm G (.ref a :: As) wc wc') (nA : Nat) {host : String} (g : Cond.code y b n' ret ∈ AW) (hret : ret = none) (hnest : Cond.methodLinkNest own idx y host ∈ nestL) (hini : Cond.initialized y.cls ∈ AW) (hinm : Cond.instanceMethod y ∈ AW) (hy1 : y.name = "<init>") (hd : y.cls ≠ "java/lang/invoke/MethodHandle" ∧ y.cls ≠ "java/lang/invoke/VarHandle" ∧ (parseMethodDescriptor y.desc).map (fun d => d.parameters.length) = some nA) (hR : rm.frames + 1 ≤ R.frames ∧ 8 + (n' + 11) + rm.locals ≤ R.locals) (hA' : As.length = nA) (hst : st0 = As.reverse ++ .ref a :: st) (hW : (st.map fun v => v.category).sum ≤ 8) (d : decode cc pc = .ok (.invokespecial idx, 3)) (hf : cells + rm.cells ≤ R.cells ∧ slots + rm.slots ≤ R.slots) (wr w2 : va_W) (hp : w.Perm (wc ++ wr)) (hw2 : wc' ++ wr = w2) (K : WJ p l e R s m args below meth c G A nL (cells + rm.cells) (slots + rm.slots) Q w2 lv (pc + 3) st) : WJ p l e R s m args below meth c G A nL cells slots Q w lv pc st0 := by
  subst hst
  subst hret
  intro H locs ls hP hD hS hl
  have hP := hP.perm hp
  have hD := hD.perm hp
  have hPc := hP.left
  have hDc := hD.left
  have hFc := free_left hD hS C.2.2.2.2.2.2.1
  refine va_callv (va_runIN (As := As) (rest := st) ⟨C.1, C.2.1, C.2.2.1, C.2.2.2.1, C.2.2.2.2.1⟩ (M H.size) ⟨va_cnB nA C.2.2.2.2.1 (aw_g (aw_1 g)) rfl rfl rfl (C.2.2.2.2.2.2.2.1.1 _ hnest) (C.2.2.2.2.1 _ hini) hd hR, hy1, C.2.2.2.2.1 _ hinm⟩ ⟨PreG.blind, fun U hU hW' => ⟨rfl, by rw [hU], by rw [hU]; exact hPc, va_K.moved hW'.alike C.2.2.2.2.2.1, hDc.weaken (fun _ _ _ _ => trivial), NW.warm hW' C.2.2.2.2.2.2.2.1, by rw [hU]; exact ((GS.kept C.2.2.2.2.2.2.2.2 (fun a h1 h2 => hS.2.1 a h1 h2)).narrow hFc).moved hW'.alike⟩⟩ rfl hA' hl.1 rfl (lv_room hW) d hf) hS (fun q _ h => hFc q h) hFc (fun u t H1 locs1 ht hvm hw hB hz1 hk1 hS1 => ?_)
  obtain ⟨hP1, hD1⟩ := hB
  rw [ht] at hP1
  obtain ⟨hP2, hD2⟩ := join_left hP hD hk1 hFc hP1 hD1
  exact K H1 locs1 ls (hw2 ▸ hP2) (hw2 ▸ hD2) hS1 hl
theorem j_mmin (C : Cx p s m args c cc nL own G A) {idx : Nat} {x y : Int32} (hlink : Cond.methodLink own idx Lib.Math.min.name ∈ AW) (hf : 1 ≤ R.frames) (hlo : (st.map fun v => v.category).sum + 13 ≤ R.locals) (hcs : cells ≤ R.cells ∧ slots ≤ R.slots) (d : decode cc pc = .ok (.invokestatic idx, 3)) {v : Int32} (hv : (if y < x then y else x) = v) (K : WJ p l e R s m args below meth c G A nL cells slots Q w lv (pc + 3) (.int v :: st)) : WJ p l e R s m args below meth c G A nL cells slots Q w lv pc (.int y :: .int x :: st) := by
  subst hv
  exact fun H locs ls hP hD hS hl => va_mmin C.1 C.2.1 (C.2.2.1.trans hl.1.symm) C.2.2.2.1 (C.2.2.2.2.1 _ hlink) (C.2.2.2.2.1 _ aw_mmin_static) (C.2.2.2.2.1 _ aw_math_ini) (C.2.2.2.2.1 _ aw_mmin_code) hf hlo hcs.1 hcs.2 d (K H locs ls hP hD hS hl)
theorem j_eq {w2 : va_W} {lv2 : List (Nat × Value)} {st2 : List Value} (hw : w = w2) (hl : lv = lv2) (hs : st = st2) (K : WJ p l e R s m args below meth c G A nL cells slots Q w2 lv2 pc st2) : WJ p l e R s m args below meth c G A nL cells slots Q w lv pc st := by
  subst hw hl hs
  exact K
end LAYC
end
section
/-! THE CELLS: what a cell of each class holds, read off a record; the rows that speak of these cells -/
abbrev DO : Type := (Nat → Int32) × Int64
def b01 (x : Int32) : Int32 := if x = 0 then 0 else 1
def upd8 (f : Nat → Int8) (k : Nat) (x : Int32) : Nat → Int8 := fun j => if j = k then x.toInt8 else f j
def updC (f : Nat → UInt16) (k : Nat) (x : Int32) : Nat → UInt16 := fun j => if j = k then x.toUInt32.toUInt16 else f j
theorem imin_ex : ∃ F : Int32 → Int32 → Int32, ∀ x y, F x y = if y < x then y else x := ⟨fun x y => if y < x then y else x, fun _ _ => rfl⟩
noncomputable def imin : Int32 → Int32 → Int32 := Classical.choose imin_ex
theorem imin_eq (x y : Int32) : imin x y = if y < x then y else x := Classical.choose_spec imin_ex x y
theorem imax_ex : ∃ F : Int32 → Int32 → Int32, ∀ x y, F x y = if x < y then y else x := ⟨fun x y => if x < y then y else x, fun _ _ => rfl⟩
noncomputable def imax : Int32 → Int32 → Int32 := Classical.choose imax_ex
theorem imax_eq (x y : Int32) : imax x y = if x < y then y else x := Classical.choose_spec imax_ex x y
abbrev oD (a h : Nat) (v : DO) : Nat × va_E := (a, .inr (0, [.int (v.1 0), .int (v.1 1), .int (v.1 2), .int (v.1 3), .int (b01 (v.1 4)), .int (v.1 5), .int (v.1 6), .int (v.1 7), .int (v.1 8), .int (v.1 9), .long v.2, .ref h]))
abbrev oH (a sa : Nat) (v : Nat → Int32) : Nat × va_E := (a, .inr (1, [.ref sa, .int (v 1), .int (v 2)]))
abbrev oP (a ga : Nat) (v : Nat → Int32) : Nat × va_E := (a, .inr (2, [.ref ga, .int (v 1), .int (v 2), .int (v 3), .int (v 4), .int (v 5), .int (v 6)]))
abbrev oS (a sa da : Nat) (v : Nat → Int32) : Nat × va_E := (a, .inr (3, [.ref sa, .ref da, .int (v 2), .int (v 3), .int (v 4), .int (v 5), .int (v 6)]))
abbrev oX (a p h s u g t o : Nat) : Nat × va_E := (a, .inr (4, [.ref p, .ref h, .ref s, .ref u, .ref g, .ref t, .ref o]))
abbrev oM (a n t p s h g o : Nat) (v : Nat → Int32) : Nat × va_E := (a, .inr (5, [.ref n, .ref t, .ref p, .int (v 3), .ref s, .ref h, .ref g, .int (v 7), .int (v 8), .ref o, .int (v 10)]))
abbrev aB (G : GG) (a : Nat) (f : Nat → Int8) : Nat × va_E := (a, .inl (G.2.1 0, 100, .inl (fun j => (f j).toInt32)))
abbrev aC (G : GG) (a : Nat) (f : Nat → UInt16) : Nat × va_E := (a, .inl (G.2.1 1, 80, .inl (fun j => (f j).toUInt32.toInt32)))
abbrev aI (G : GG) (a n : Nat) (f : Nat → Int32) : Nat × va_E := (a, .inl (G.2.1 2, n, .inl f))
abbrev aJ (G : GG) (a n : Nat) (f : Nat → Int64) : Nat × va_E := (a, .inl (G.2.1 3, n, .inr (.inl f)))
abbrev aZ (G : GG) (a n : Nat) (f : Nat → Int32) : Nat × va_E := (a, .inl (G.2.1 4, n, .inl f))
abbrev aD (G : GG) (a n : Nat) (f : Nat → Option Nat) : Nat × va_E := (a, .inl (G.2.1 5, n, .inr (.inr (.inr (.inr f)))))
abbrev aS (G : GG) (a n : Nat) (f : Nat → Option Nat) : Nat × va_E := (a, .inl (G.2.1 6, n, .inr (.inr (.inr (.inr f)))))
/-- a station's value: its numbers by slot, its settings, its drives, their hours -/
abbrev StV : Type := (Nat → Int32) × (Nat → Int32) × (Nat → DO) × (Nat → Nat → Int8)
def pick4 {α : Type} (a b c d : α) : Nat → α := fun k => match k with
  | 0 => a
  | 1 => b
  | 2 => c
  | _ => d
def updF {α : Type} (f : Nat → α) (k : Nat) (x : α) : Nat → α := fun j => if j = k then x else f j
/-- four drives with their hours: A (3 + 2 * d) a drive, A (4 + 2 * d) its hours -/
def cDrs (G : GG) (A : Nat → Nat) (dv : Nat → DO) (hv : Nat → Nat → Int8) : va_W := [oD (A 3) (A 4) (dv 0), aB G (A 4) (hv 0), oD (A 5) (A 6) (dv 1), aB G (A 6) (hv 1), oD (A 7) (A 8) (dv 2), aB G (A 8) (hv 2), oD (A 9) (A 10) (dv 3), aB G (A 10) (hv 3)]
/-- a station's cells: A 0 itself, A 1 its settings, A 2 its row of drives -/
def cSt (G : GG) (A : Nat → Nat) (x : StV) : va_W := oS (A 0) (A 1) (A 2) x.1 :: aI G (A 1) 7 x.2.1 :: aD G (A 2) 4 (fun k => some (A (3 + 2 * k))) :: cDrs G A x.2.2.1 x.2.2.2
/-- the drives but the drive n -/
def cRs (G : GG) (A : Nat → Nat) (dv : Nat → DO) (hv : Nat → Nat → Int8) (n : Nat) : va_W := match n with
  | 0 => [oD (A 5) (A 6) (dv 1), aB G (A 6) (hv 1), oD (A 7) (A 8) (dv 2), aB G (A 8) (hv 2), oD (A 9) (A 10) (dv 3), aB G (A 10) (hv 3)]
  | 1 => [oD (A 3) (A 4) (dv 0), aB G (A 4) (hv 0), oD (A 7) (A 8) (dv 2), aB G (A 8) (hv 2), oD (A 9) (A 10) (dv 3), aB G (A 10) (hv 3)]
  | 2 => [oD (A 3) (A 4) (dv 0), aB G (A 4) (hv 0), oD (A 5) (A 6) (dv 1), aB G (A 6) (hv 1), oD (A 9) (A 10) (dv 3), aB G (A 10) (hv 3)]
  | _ => [oD (A 3) (A 4) (dv 0), aB G (A 4) (hv 0), oD (A 5) (A 6) (dv 1), aB G (A 6) (hv 1), oD (A 7) (A 8) (dv 2), aB G (A 8) (hv 2)]
theorem closeDrs (G : GG) (A : Nat → Nat) (dv : Nat → DO) (hv : Nat → Nat → Int8) (n : Nat) (hn : n < 4) (v : DO) (f : Nat → Int8) : (fl [[oD (A (3 + 2 * n)) (A (4 + 2 * n)) v], [aB G (A (4 + 2 * n)) f], cRs G A dv hv n]).Perm (cDrs G A (updF dv n v) (updF hv n f)) := by
  rcases (show n = 0 ∨ n = 1 ∨ n = 2 ∨ n = 3 by omega) with rfl | rfl | rfl | rfl
  · exact perm_idx [0, 1, 2, 3, 4, 5, 6, 7] 8 rfl (by decide +kernel) rfl
  · exact perm_idx [2, 3, 0, 1, 4, 5, 6, 7] 8 rfl (by decide +kernel) rfl
  · exact perm_idx [2, 3, 4, 5, 0, 1, 6, 7] 8 rfl (by decide +kernel) rfl
  · exact perm_idx [2, 3, 4, 5, 6, 7, 0, 1] 8 rfl (by decide +kernel) rfl
theorem openDrs (G : GG) (A : Nat → Nat) (dv : Nat → DO) (hv : Nat → Nat → Int8) (n : Nat) (hn : n < 4) : (cDrs G A dv hv).Perm (fl [[oD (A (3 + 2 * n)) (A (4 + 2 * n)) (dv n)], [aB G (A (4 + 2 * n)) (hv n)], cRs G A dv hv n]) := by
  rcases (show n = 0 ∨ n = 1 ∨ n = 2 ∨ n = 3 by omega) with rfl | rfl | rfl | rfl
  · exact perm_idx [0, 1, 2, 3, 4, 5, 6, 7] 8 rfl (by decide +kernel) rfl
  · exact perm_idx [2, 3, 0, 1, 4, 5, 6, 7] 8 rfl (by decide +kernel) rfl
  · exact perm_idx [4, 5, 0, 1, 2, 3, 6, 7] 8 rfl (by decide +kernel) rfl
  · exact perm_idx [6, 7, 0, 1, 2, 3, 4, 5] 8 rfl (by decide +kernel) rfl
theorem open_at {B : va_W} {bs R : List va_W} (h : B.Perm (fl bs)) : (fl (B :: R)).Perm (fl (bs ++ R)) := by
  rw [← fl_app]
  exact h.append_right _
theorem shut_at {B : va_W} {bs R : List va_W} (h : (fl bs).Perm B) : (fl (bs ++ R)).Perm (fl (B :: R)) := by
  rw [← fl_app]
  exact h.append_right _
/-- N stations in a row: the station k at the addresses AH k -/
def cMany (G : GG) (AH : Nat → Nat → Nat) (sv : Nat → StV) (N : Nat) : va_W := fl ((List.range N).map fun k => cSt G (AH k) (sv k))
def cManyR (G : GG) (AH : Nat → Nat → Nat) (sv : Nat → StV) (N n : Nat) : va_W := fl (((List.range N).erase n).map fun k => cSt G (AH k) (sv k))
theorem openMany (G : GG) (AH : Nat → Nat → Nat) (sv : Nat → StV) (N n : Nat) (hn : n < N) : (cMany G AH sv N).Perm (fl [cSt G (AH n) (sv n), cManyR G AH sv N n]) := by
  have h : (List.range N).Perm (n :: (List.range N).erase n) := List.perm_cons_erase (List.mem_range.mpr hn)
  have h2 := (h.map (fun k => cSt G (AH k) (sv k))).flatten
  have e : fl [cSt G (AH n) (sv n), cManyR G AH sv N n] = cSt G (AH n) (sv n) ++ cManyR G AH sv N n := by
    show cSt G (AH n) (sv n) ++ (cManyR G AH sv N n ++ []) = _
    rw [List.append_nil]
  rw [e]
  exact h2
theorem closeMany (G : GG) (AH : Nat → Nat → Nat) (sv : Nat → StV) (N n : Nat) (hn : n < N) (x : StV) : (fl [cSt G (AH n) x, cManyR G AH sv N n]).Perm (cMany G AH (updF sv n x) N) := by
  have h := (openMany G AH (updF sv n x) N n hn).symm
  have e1 : updF sv n x n = x := if_pos rfl
  have e2 : cManyR G AH (updF sv n x) N n = cManyR G AH sv N n := by
    unfold cManyR
    congr 1
    apply List.map_congr_left
    intro k hk
    have hne : k ≠ n := ((List.nodup_range.mem_erase_iff).mp hk).1
    rw [show updF sv n x k = sv k from if_neg hne]
  rw [e1, e2] at h
  exact h
theorem b01_0 : b01 0 = 0 := rfl
theorem b01_1 : b01 1 = 1 := rfl
theorem b01_of {x : Int32} (h : x = 0 ∨ x = 1) : b01 x = x := by rcases h with rfl | rfl <;> rfl
theorem b01_or (x : Int32) : b01 x = 0 ∨ b01 x = 1 := by unfold b01; split <;> simp
theorem nar_01 {x : Int32} (h : x = 0 ∨ x = 1) : narrow .boolean (.int x) = .int x := by rcases h with rfl | rfl <;> rfl
theorem fit_01 {x : Int32} (h : x = 0 ∨ x = 1) : Jvm.fits .boolean (.int x) = true := by rcases h with rfl | rfl <;> rfl
theorem nar_b01 (x : Int32) : narrow .boolean (.int (b01 x)) = .int (b01 x) := nar_01 (b01_or x)
theorem fit_b01 (x : Int32) : Jvm.fits .boolean (.int (b01 x)) = true := fit_01 (b01_or x)
theorem vin_lit {i : Int32} {n : Nat} (h : decide (¬ (i < 0 ∨ n ≤ i.toNatClampNeg)) = true) : vp_in i n := (of_decide_eq_true h : ¬ (i < 0 ∨ n ≤ i.toNatClampNeg))
theorem upd8_eq (f : Nat → Int8) (k : Nat) (x : Int32) : upd (fun j => (f j).toInt32) k (vp_nar .byte x) = fun j => (upd8 f k x j).toInt32 := by
  funext j
  simp only [upd, upd8, vp_nar_byte]
  split <;> rfl
theorem updC_eq (f : Nat → UInt16) (k : Nat) (x : Int32) : upd (fun j => (f j).toUInt32.toInt32) k (vp_nar .char x) = fun j => (updC f k x j).toUInt32.toInt32 := by
  funext j
  simp only [upd, updC, vp_nar_char]
  split <;> rfl
theorem nar_c (u : UInt16) : narrow .char (.int u.toUInt32.toInt32) = .int u.toUInt32.toInt32 := by
  have h := (pk_charN (q := u.toNat) u.toNat_lt).1
  have e : nI u.toNat = u.toUInt32.toInt32 := by
    apply Int32.toInt_inj.mp
    have : u.toNat < 65536 := u.toNat_lt
    rw [nI_toInt (by omega)]
    show _ = (u.toUInt32.toBitVec).toInt
    rw [BitVec.toInt_eq_toNat_of_lt (by show 2 * u.toNat < 2 ^ 32; omega)]
    rfl
  rw [← e]; exact h
theorem fit_c (u : UInt16) : Jvm.fits .char (.int u.toUInt32.toInt32) = true := by
  have h := (pk_charN (q := u.toNat) u.toNat_lt).2
  have e : nI u.toNat = u.toUInt32.toInt32 := by
    apply Int32.toInt_inj.mp
    have : u.toNat < 65536 := u.toNat_lt
    rw [nI_toInt (by omega)]
    show _ = (u.toUInt32.toBitVec).toInt
    rw [BitVec.toInt_eq_toNat_of_lt (by show 2 * u.toNat < 2 ^ 32; omega)]
    rfl
  rw [← e]; exact h
theorem fit_b8 (x : Int8) : Jvm.fits .byte (.int x.toInt32) = true := by
  have h := pk_fb x.toInt32
  rw [Int8.toInt8_toInt32] at h
  exact h
theorem arrV_congr {c : ClassId} {N : Nat} {f g : Nat → Value} (h : ∀ j, j < N → f j = g j) : arrV c N f = arrV c N g := by
  unfold arrV
  have e : (fun j : Fin N => f j.val) = fun j : Fin N => g j.val := funext fun j => h j.val j.isLt
  rw [e]
theorem va_at_i {D : va_G} {cl : List vw_C} {a n : Nat} {cA : ClassId} {f g : Nat → Int32} {H : Heap} (hfg : ∀ j, j < n → f j = g j) (h : va_at D cl (a, .inl (cA, n, .inl f)) H) : va_at D cl (a, .inl (cA, n, .inl g)) H := by
  have e : vp_cell cA (n, .inl f) = vp_cell cA (n, .inl g) := arrV_congr (f := fun j => .int (f j)) (g := fun j => .int (g j)) (fun j hj => congrArg Value.int (hfg j hj))
  show H[a]? = some (vp_cell cA (n, .inl g))
  rw [← e]
  exact h
theorem va_P_at {D : va_G} {cl : List vw_C} {ws : va_W} {H : Heap} {q0 a : Nat} {e e' : va_E} (h : va_P D cl (ws.set q0 (a, e)) H) (he : va_at D cl (a, e) H → va_at D cl (a, e') H) : va_P D cl (ws.set q0 (a, e')) H := by
  intro k q hk
  by_cases hkq : q0 = k
  · subst hkq
    by_cases hl : q0 < ws.length
    · rw [List.getElem?_set_self hl] at hk
      cases hk
      exact he (h q0 _ (List.getElem?_set_self hl))
    · rw [List.getElem?_eq_none (by rw [List.length_set]; omega)] at hk
      cases hk
  · rw [List.getElem?_set_ne hkq] at hk
    exact h k q (by rw [List.getElem?_set_ne hkq]; exact hk)
theorem aw_oi_inst : Cond.instanceMethod Lib.objectInit ∈ AW := kw_14
theorem aw_oi_code : Cond.code Lib.objectInit ⟨#[0xb1]⟩ 1 none ∈ AW := kw_15
theorem aw_ac_native : Cond.native arraycopyName ∈ AW := kw_25
theorem aw_ac_static : Cond.static arraycopyName ∈ AW := kw_24
theorem aw_ac_ini : Cond.initialized "java/lang/System" ∈ AW := kw_3
section OBJ
variable {p : Program} {l : Launch} {e : Env} {R : Room} {s : State} {m : MethodId} {args : Array Value} {below : List Frame} {meth : Method} {c : Code} {cc : ByteArray} {own : String} {G : GG} {A : Nat → Prop} {nL cells slots : Nat} {Q : State → Prop} {w : va_W} {lv : List (Nat × Value)} {pc : Nat} {st : List Value}
theorem j_top01 {x : Int32} (hx : b01 x = x) (K : WJ p l e R s m args below meth c G A nL cells slots Q w lv pc (.int (b01 x) :: st)) : WJ p l e R s m args below meth c G A nL cells slots Q w lv pc (.int x :: st) := by
  rw [hx] at K
  exact K
theorem j_bast8 (C : Cx p s m args c cc nL own G A) {a : Nat} {f : Nat → Int8} {i x : Int32} (q0 : Nat) (he : w[q0]? = some (aB G a f)) (hin : vp_in i 100) (w2 : va_W) (hw : w.set q0 (aB G a (upd8 f i.toNatClampNeg x)) = w2) (d : decode cc pc = .ok (.bastore, 1)) (K : WJ p l e R s m args below meth c G A nL cells slots Q w2 lv (pc + 1) st) : WJ p l e R s m args below meth c G A nL cells slots Q w lv pc (.int x :: .int i :: .ref a :: st) := j_bast C q0 he hin w2 (by rw [upd8_eq]; exact hw) d K
theorem j_castC (C : Cx p s m args c cc nL own G A) {a : Nat} {f : Nat → UInt16} {i x : Int32} (q0 : Nat) (he : w[q0]? = some (aC G a f)) (hin : vp_in i 80) (w2 : va_W) (hw : w.set q0 (aC G a (updC f i.toNatClampNeg x)) = w2) (d : decode cc pc = .ok (.castore, 1)) (K : WJ p l e R s m args below meth c G A nL cells slots Q w2 lv (pc + 1) st) : WJ p l e R s m args below meth c G A nL cells slots Q w lv pc (.int x :: .int i :: .ref a :: st) := j_cast C q0 he hin w2 (by rw [updC_eq]; exact hw) d K
theorem j_objinit (C : Cx p s m args c cc nL own G A) {a idx : Nat} (hl : Cond.methodLink own idx Lib.objectInit ∈ AW) (hnm2 : True = True) (hf : 1 ≤ R.frames) (hlo : 12 + 8 ≤ R.locals) (hst : (st.map fun v => v.category).sum ≤ 8) (d : decode cc pc = .ok (.invokespecial idx, 3)) (K : WJ p l e R s m args below meth c G A nL cells slots Q w lv (pc + 3) st) : WJ p l e R s m args below meth c G A nL cells slots Q w lv pc (.ref a :: st) := fun H locs ls hP hD hS hl9 => W.objInit C.1 C.2.1 C.2.2.2.1 (C.2.2.2.2.1 _ hl) (C.2.2.2.2.1 _ aw_oi_inst) (C.2.2.2.2.1 _ aw_oi_code) rfl (hl9.1.trans C.2.2.1.symm) rfl d hf (by show 2 * 0 + _ + 12 ≤ _; omega) (K H locs ls hP hD hS hl9)
theorem j_gstF (C : Cx p s m args c cc nL own G A) {index : Nat} (hl : Cond.fieldLink own index "SilentDrives" "FIRST_VALUES" "[I" ∈ AW) (d : decode cc pc = .ok (.getstatic index, 3)) (K : WJ p l e R s m args below meth c G A nL cells slots Q w lv (pc + 3) (.ref (G.2.2 0) :: st)) : WJ p l e R s m args below meth c G A nL cells slots Q w lv pc st := fun H locs ls hP hD hS hl9 => va_gets C.1 C.2.1 C.2.2.2.2.2.2.2.2.1.1 hS C.2.2.2.1 (C.2.2.2.2.1 _ hl) (fun _ h => h) d (K H locs ls hP hD hS hl9)
theorem j_gstFN (C : Cx p s m args c cc nL own G A) {index : Nat} {host : String} (hl : Cond.fieldLinkNest own index "SilentDrives" "FIRST_VALUES" "[I" host ∈ nestL) (d : decode cc pc = .ok (.getstatic index, 3)) (K : WJ p l e R s m args below meth c G A nL cells slots Q w lv (pc + 3) (.ref (G.2.2 0) :: st)) : WJ p l e R s m args below meth c G A nL cells slots Q w lv pc st := fun H locs ls hP hD hS hl9 => va_getsN C.1 C.2.1 C.2.2.2.2.2.2.2.2.1.1 hS C.2.2.2.1 (va_Nw.use rfl (C.2.2.2.2.2.2.2.1.1 _ hl)) (fun _ h => h) d (K H locs ls hP hD hS hl9)
theorem j_stiF (C : Cx p s m args c cc nL own G A) {i : Int32} (hin : vp_in i 7) {v : Int32} (hv : vFirst i.toNatClampNeg = v) (d : decode cc pc = .ok (.iaload, 1)) (K : WJ p l e R s m args below meth c G A nL cells slots Q w lv (pc + 1) (.int v :: st)) : WJ p l e R s m args below meth c G A nL cells slots Q w lv pc (.int i :: .ref (G.2.2 0) :: st) := fun H locs ls hP hD hS hl9 => va_ti C.1 C.2.1 C.2.2.2.2.2.2.2.2.1.2 hS hin (by rw [hv]) d (K H locs ls hP hD hS hl9)
theorem j_gstL (C : Cx p s m args c cc nL own G A) {index : Nat} (hl : Cond.fieldLink own index "SilentDrives" "LEAST_VALUES" "[I" ∈ AW) (d : decode cc pc = .ok (.getstatic index, 3)) (K : WJ p l e R s m args below meth c G A nL cells slots Q w lv (pc + 3) (.ref (G.2.2 1) :: st)) : WJ p l e R s m args below meth c G A nL cells slots Q w lv pc st := fun H locs ls hP hD hS hl9 => va_gets C.1 C.2.1 C.2.2.2.2.2.2.2.2.2.1.1 hS C.2.2.2.1 (C.2.2.2.2.1 _ hl) (fun _ h => h) d (K H locs ls hP hD hS hl9)
theorem j_gstLN (C : Cx p s m args c cc nL own G A) {index : Nat} {host : String} (hl : Cond.fieldLinkNest own index "SilentDrives" "LEAST_VALUES" "[I" host ∈ nestL) (d : decode cc pc = .ok (.getstatic index, 3)) (K : WJ p l e R s m args below meth c G A nL cells slots Q w lv (pc + 3) (.ref (G.2.2 1) :: st)) : WJ p l e R s m args below meth c G A nL cells slots Q w lv pc st := fun H locs ls hP hD hS hl9 => va_getsN C.1 C.2.1 C.2.2.2.2.2.2.2.2.2.1.1 hS C.2.2.2.1 (va_Nw.use rfl (C.2.2.2.2.2.2.2.1.1 _ hl)) (fun _ h => h) d (K H locs ls hP hD hS hl9)
theorem j_stiL (C : Cx p s m args c cc nL own G A) {i : Int32} (hin : vp_in i 7) {v : Int32} (hv : vLeast i.toNatClampNeg = v) (d : decode cc pc = .ok (.iaload, 1)) (K : WJ p l e R s m args below meth c G A nL cells slots Q w lv (pc + 1) (.int v :: st)) : WJ p l e R s m args below meth c G A nL cells slots Q w lv pc (.int i :: .ref (G.2.2 1) :: st) := fun H locs ls hP hD hS hl9 => va_ti C.1 C.2.1 C.2.2.2.2.2.2.2.2.2.1.2 hS hin (by rw [hv]) d (K H locs ls hP hD hS hl9)
theorem j_gstM (C : Cx p s m args c cc nL own G A) {index : Nat} (hl : Cond.fieldLink own index "SilentDrives" "MOST_VALUES" "[I" ∈ AW) (d : decode cc pc = .ok (.getstatic index, 3)) (K : WJ p l e R s m args below meth c G A nL cells slots Q w lv (pc + 3) (.ref (G.2.2 2) :: st)) : WJ p l e R s m args below meth c G A nL cells slots Q w lv pc st := fun H locs ls hP hD hS hl9 => va_gets C.1 C.2.1 C.2.2.2.2.2.2.2.2.2.2.1.1 hS C.2.2.2.1 (C.2.2.2.2.1 _ hl) (fun _ h => h) d (K H locs ls hP hD hS hl9)
theorem j_gstMN (C : Cx p s m args c cc nL own G A) {index : Nat} {host : String} (hl : Cond.fieldLinkNest own index "SilentDrives" "MOST_VALUES" "[I" host ∈ nestL) (d : decode cc pc = .ok (.getstatic index, 3)) (K : WJ p l e R s m args below meth c G A nL cells slots Q w lv (pc + 3) (.ref (G.2.2 2) :: st)) : WJ p l e R s m args below meth c G A nL cells slots Q w lv pc st := fun H locs ls hP hD hS hl9 => va_getsN C.1 C.2.1 C.2.2.2.2.2.2.2.2.2.2.1.1 hS C.2.2.2.1 (va_Nw.use rfl (C.2.2.2.2.2.2.2.1.1 _ hl)) (fun _ h => h) d (K H locs ls hP hD hS hl9)
theorem j_stiM (C : Cx p s m args c cc nL own G A) {i : Int32} (hin : vp_in i 7) {v : Int32} (hv : vMost i.toNatClampNeg = v) (d : decode cc pc = .ok (.iaload, 1)) (K : WJ p l e R s m args below meth c G A nL cells slots Q w lv (pc + 1) (.int v :: st)) : WJ p l e R s m args below meth c G A nL cells slots Q w lv pc (.int i :: .ref (G.2.2 2) :: st) := fun H locs ls hP hD hS hl9 => va_ti C.1 C.2.1 C.2.2.2.2.2.2.2.2.2.2.1.2 hS hin (by rw [hv]) d (K H locs ls hP hD hS hl9)
theorem j_copyb (C : Cx p s m args c cc nL own G A) {idx a b : Nat} {f g : Nat → Int8} (hl : Cond.methodLink own idx arraycopyName ∈ AW) (q0 q1 : Nat) (he0 : w[q0]? = some (aB G b f)) (he1 : w[q1]? = some (aB G a g)) (hR : 1 ≤ R.frames) (hlo : 8 + (nativeFrameWords "java/lang/System" "arraycopy" 5 + 11) ≤ R.locals) (hst : (st.map fun v => v.category).sum ≤ 8) (w2 : va_W) (hw : w.set q1 (aB G a f) = w2) (d : decode cc pc = .ok (.invokestatic idx, 3)) (K : WJ p l e R s m args below meth c G A nL cells slots Q w2 lv (pc + 3) st) : WJ p l e R s m args below meth c G A nL cells slots Q w lv pc (.int 100 :: .int 0 :: .ref a :: .int 0 :: .ref b :: st) := by
  subst hw
  intro H locs ls hP hD hS hl9
  refine va_copyi C.1 C.2.1 (C.2.2.1.trans hl9.1.symm) C.2.2.2.1 (C.2.2.2.2.1 _ hl) (C.2.2.2.2.1 _ aw_ac_native) (C.2.2.2.2.1 _ aw_ac_static) (C.2.2.2.2.1 _ aw_ac_ini) C.2.2.2.2.2.1 hP hD hS q0 q1 0 0 he0 he1 rfl rfl rfl (by decide) (by decide) (by decide) (by decide) (by decide) (fun i _ => fit_b8 _) hR (by omega) d (fun H1 locs1 h1 h2 h3 => K H1 locs1 ls (va_P_at h1 (fun h => va_at_i (fun j hj => (pk_cpy_in (show 0 ≤ j from Nat.zero_le _) (show j < 0 + 100 by omega)).trans (congrArg (fun j => (f j).toInt32) (show 0 + (j - 0) = j by omega))) h)) (hD.set he1) h3 hl9)
theorem j_copyI (C : Cx p s m args c cc nL own G A) {idx a b : Nat} {f g : Nat → Int32} (hl : Cond.methodLink own idx arraycopyName ∈ AW) (q0 q1 : Nat) (he0 : w[q0]? = some (aI G b 7 f)) (he1 : w[q1]? = some (aI G a 7 g)) (hR : 1 ≤ R.frames) (hlo : 8 + (nativeFrameWords "java/lang/System" "arraycopy" 5 + 11) ≤ R.locals) (hst : (st.map fun v => v.category).sum ≤ 8) (w2 : va_W) (hw : w.set q1 (aI G a 7 f) = w2) (d : decode cc pc = .ok (.invokestatic idx, 3)) (K : WJ p l e R s m args below meth c G A nL cells slots Q w2 lv (pc + 3) st) : WJ p l e R s m args below meth c G A nL cells slots Q w lv pc (.int 7 :: .int 0 :: .ref a :: .int 0 :: .ref b :: st) := by
  subst hw
  intro H locs ls hP hD hS hl9
  refine va_copyi C.1 C.2.1 (C.2.2.1.trans hl9.1.symm) C.2.2.2.1 (C.2.2.2.2.1 _ hl) (C.2.2.2.2.1 _ aw_ac_native) (C.2.2.2.2.1 _ aw_ac_static) (C.2.2.2.2.1 _ aw_ac_ini) C.2.2.2.2.2.1 hP hD hS q0 q1 2 2 he0 he1 rfl rfl rfl (by decide) (by decide) (by decide) (by decide) (by decide) (fun i _ => rfl) hR (by omega) d (fun H1 locs1 h1 h2 h3 => K H1 locs1 ls (va_P_at h1 (fun h => va_at_i (fun j hj => (pk_cpy_in (show 0 ≤ j from Nat.zero_le _) (show j < 0 + 7 by omega)).trans (congrArg f (show 0 + (j - 0) = j by omega))) h)) (hD.set he1) h3 hl9)
end OBJ
end
section
/-! THE LEAVES: static tests; a drive and its hours -/
noncomputable def f_X4_isDrive_x1 (k : Int32) : Int32 := (if k < 0 then 0 else (if 4 ≤ k then 0 else 1))
noncomputable def f_X4_isDrive_r (k : Int32) : Int32 := (f_X4_isDrive_x1 k)
set_option maxRecDepth 100000 in
set_option maxHeartbeats 4000000 in
theorem m_X4_isDrive (l : Launch) (G : GG) (k : Int32)  : CtI l yX4_isDrive cX4_isDrive 1 (some .boolean) (RM 0) G [.int k] ([]) (f_X4_isDrive_r k) ([]) := by
  refine ct_I RX4 [(0, .int k)] rfl (by decide +kernel) (Nat.le_of_ble_eq_true rfl) rfl ?_
  intro p e s m args below meth c A C hr hk hnm
  generalize hQ : (MQ below (PostI G A (f_X4_isDrive_r k) ([])) args s (RM 0).cells (RM 0).slots A) = Q
  refine j_iload_n C dX4_isDrive_0 0 rfl ?_
  have K14 : WJ p l e (RM 0) s m args below meth c G A 1 0 0 Q ([]) [(0, .int k)] 14 [.int (f_X4_isDrive_x1 k)] := by
    generalize hw0 : f_X4_isDrive_x1 k = w0
    subst hQ; subst hw0; exact j_zret C hr hk (by unfold f_X4_isDrive_x1; (repeat' split) <;> rfl) ((show f_X4_isDrive_r k = (f_X4_isDrive_x1 k) from rfl).symm) rfl dX4_isDrive_14
  refine j_if_lt (tgt := 13) C dX4_isDrive_1 (by decide) (fun c1 => ?_) (fun c1 => ?_)
  · refine j_iconst (v := 0) C dX4_isDrive_13 (by decide) ?_
    exact j_eq rfl rfl (by rw [show f_X4_isDrive_x1 k = 0 from (if_pos c1)]) K14
  · refine j_iload_n C dX4_isDrive_4 0 rfl ?_
    refine j_iconst (v := 4) C dX4_isDrive_5 (by decide) ?_
    refine j_icmp_ge (tgt := 13) C dX4_isDrive_6 (by decide) (fun c6 => ?_) (fun c6 => ?_)
    · refine j_iconst (v := 0) C dX4_isDrive_13 (by decide) ?_
      exact j_eq rfl rfl (by rw [show f_X4_isDrive_x1 k = 0 from ((if_neg c1).trans (if_pos c6))]) K14
    · refine j_iconst (v := 1) C dX4_isDrive_9 (by decide) ?_
      refine j_goto (tgt := 14) C dX4_isDrive_10 (by decide) ?_
      exact j_eq rfl rfl (by rw [show f_X4_isDrive_x1 k = 1 from ((if_neg c1).trans (if_neg c6))]) K14
noncomputable def f_X4_isHour_x1 (k : Int32) : Int32 := (if k < 0 then 0 else (if 100 ≤ k then 0 else 1))
noncomputable def f_X4_isHour_r (k : Int32) : Int32 := (f_X4_isHour_x1 k)
set_option maxRecDepth 100000 in
set_option maxHeartbeats 4000000 in
theorem m_X4_isHour (l : Launch) (G : GG) (k : Int32)  : CtI l yX4_isHour cX4_isHour 1 (some .boolean) (RM 0) G [.int k] ([]) (f_X4_isHour_r k) ([]) := by
  refine ct_I RX4 [(0, .int k)] rfl (by decide +kernel) (Nat.le_of_ble_eq_true rfl) rfl ?_
  intro p e s m args below meth c A C hr hk hnm
  generalize hQ : (MQ below (PostI G A (f_X4_isHour_r k) ([])) args s (RM 0).cells (RM 0).slots A) = Q
  refine j_iload_n C dX4_isHour_0 0 rfl ?_
  have K15 : WJ p l e (RM 0) s m args below meth c G A 1 0 0 Q ([]) [(0, .int k)] 15 [.int (f_X4_isHour_x1 k)] := by
    generalize hw0 : f_X4_isHour_x1 k = w0
    subst hQ; subst hw0; exact j_zret C hr hk (by unfold f_X4_isHour_x1; (repeat' split) <;> rfl) ((show f_X4_isHour_r k = (f_X4_isHour_x1 k) from rfl).symm) rfl dX4_isHour_15
  refine j_if_lt (tgt := 14) C dX4_isHour_1 (by decide) (fun c1 => ?_) (fun c1 => ?_)
  · refine j_iconst (v := 0) C dX4_isHour_14 (by decide) ?_
    exact j_eq rfl rfl (by rw [show f_X4_isHour_x1 k = 0 from (if_pos c1)]) K15
  · refine j_iload_n C dX4_isHour_4 0 rfl ?_
    refine j_bipush (v := 100) C dX4_isHour_5 (by decide) ?_
    refine j_icmp_ge (tgt := 14) C dX4_isHour_7 (by decide) (fun c7 => ?_) (fun c7 => ?_)
    · refine j_iconst (v := 0) C dX4_isHour_14 (by decide) ?_
      exact j_eq rfl rfl (by rw [show f_X4_isHour_x1 k = 0 from ((if_neg c1).trans (if_pos c7))]) K15
    · refine j_iconst (v := 1) C dX4_isHour_10 (by decide) ?_
      refine j_goto (tgt := 15) C dX4_isHour_11 (by decide) ?_
      exact j_eq rfl rfl (by rw [show f_X4_isHour_x1 k = 1 from ((if_neg c1).trans (if_neg c7))]) K15
noncomputable def f_X4_arePassable_x1 (k : Int32) : Int32 := (if k < 1 then 0 else (if 600 < k then 0 else 1))
noncomputable def f_X4_arePassable_r (k : Int32) : Int32 := (f_X4_arePassable_x1 k)
set_option maxRecDepth 100000 in
set_option maxHeartbeats 4000000 in
theorem m_X4_arePassable (l : Launch) (G : GG) (k : Int32)  : CtI l yX4_arePassable cX4_arePassable 1 (some .boolean) (RM 0) G [.int k] ([]) (f_X4_arePassable_r k) ([]) := by
  refine ct_I RX4 [(0, .int k)] rfl (by decide +kernel) (Nat.le_of_ble_eq_true rfl) rfl ?_
  intro p e s m args below meth c A C hr hk hnm
  generalize hQ : (MQ below (PostI G A (f_X4_arePassable_r k) ([])) args s (RM 0).cells (RM 0).slots A) = Q
  refine j_iload_n C dX4_arePassable_0 0 rfl ?_
  refine j_iconst (v := 1) C dX4_arePassable_1 (by decide) ?_
  have K17 : WJ p l e (RM 0) s m args below meth c G A 1 0 0 Q ([]) [(0, .int k)] 17 [.int (f_X4_arePassable_x1 k)] := by
    generalize hw0 : f_X4_arePassable_x1 k = w0
    subst hQ; subst hw0; exact j_zret C hr hk (by unfold f_X4_arePassable_x1; (repeat' split) <;> rfl) ((show f_X4_arePassable_r k = (f_X4_arePassable_x1 k) from rfl).symm) rfl dX4_arePassable_17
  refine j_icmp_lt (tgt := 16) C dX4_arePassable_2 (by decide) (fun c2 => ?_) (fun c2 => ?_)
  · refine j_iconst (v := 0) C dX4_arePassable_16 (by decide) ?_
    exact j_eq rfl rfl (by rw [show f_X4_arePassable_x1 k = 0 from (if_pos c2)]) K17
  · refine j_iload_n C dX4_arePassable_5 0 rfl ?_
    refine j_sipush (v := 600) C dX4_arePassable_6 (by decide) ?_
    refine j_icmp_gt (tgt := 16) C dX4_arePassable_9 (by decide) (fun c9 => ?_) (fun c9 => ?_)
    · refine j_iconst (v := 0) C dX4_arePassable_16 (by decide) ?_
      exact j_eq rfl rfl (by rw [show f_X4_arePassable_x1 k = 0 from ((if_neg c2).trans (if_pos c9))]) K17
    · refine j_iconst (v := 1) C dX4_arePassable_12 (by decide) ?_
      refine j_goto (tgt := 17) C dX4_arePassable_13 (by decide) ?_
      exact j_eq rfl rfl (by rw [show f_X4_arePassable_x1 k = 1 from ((if_neg c2).trans (if_neg c9))]) K17
noncomputable def f_X4_twinOf_x1 (k : Int32) : Int32 := (if k - k / 2 * 2 = 0 then k + 1 else k - 1)
noncomputable def f_X4_twinOf_r (k : Int32) : Int32 := (f_X4_twinOf_x1 k)
set_option maxRecDepth 100000 in
set_option maxHeartbeats 4000000 in
theorem m_X4_twinOf (l : Launch) (G : GG) (k : Int32)  : CtI l yX4_twinOf cX4_twinOf 1 (some .int) (RM 0) G [.int k] ([]) (f_X4_twinOf_r k) ([]) := by
  refine ct_I RX4 [(0, .int k)] rfl (by decide +kernel) (Nat.le_of_ble_eq_true rfl) rfl ?_
  intro p e s m args below meth c A C hr hk hnm
  generalize hQ : (MQ below (PostI G A (f_X4_twinOf_r k) ([])) args s (RM 0).cells (RM 0).slots A) = Q
  refine j_iload_n C dX4_twinOf_0 0 rfl ?_
  refine j_iconst (v := 2) C dX4_twinOf_1 (by decide) ?_
  refine j_irem C dX4_twinOf_2 (by decide) rfl ?_
  have K15 : WJ p l e (RM 0) s m args below meth c G A 1 0 0 Q ([]) [(0, .int k)] 15 [.int (f_X4_twinOf_x1 k)] := by
    generalize hw0 : f_X4_twinOf_x1 k = w0
    subst hQ; subst hw0; exact j_iret C hr hk ((show f_X4_twinOf_r k = (f_X4_twinOf_x1 k) from rfl).symm) rfl dX4_twinOf_15
  refine j_if_ne (tgt := 12) C dX4_twinOf_3 (by decide) (fun c3 => ?_) (fun c3 => ?_)
  · refine j_iload_n C dX4_twinOf_12 0 rfl ?_
    refine j_iconst (v := 1) C dX4_twinOf_13 (by decide) ?_
    refine j_isub C dX4_twinOf_14 rfl ?_
    exact j_eq rfl rfl (by rw [show f_X4_twinOf_x1 k = k - 1 from (if_neg c3)]) K15
  · refine j_iload_n C dX4_twinOf_6 0 rfl ?_
    refine j_iconst (v := 1) C dX4_twinOf_7 (by decide) ?_
    refine j_iadd C dX4_twinOf_8 rfl ?_
    refine j_goto (tgt := 15) C dX4_twinOf_9 (by decide) ?_
    exact j_eq rfl rfl (by rw [show f_X4_twinOf_x1 k = k + 1 from (if_pos c3)]) K15
theorem vin_of {k : Int32} {n : Nat} {N : Int32} (hN : N.toInt = n) (h0 : ¬ k < 0) (h1 : ¬ N ≤ k) : vp_in k n := vp_in_iff.mpr ⟨by have := Int32.not_lt.mp h0; simpa using Int32.le_iff_toInt_le.mp this, by have := Int32.not_le.mp h1; rw [Int32.lt_iff_toInt_lt, hN] at this; exact this⟩
theorem vin_hour {k : Int32} (h : ¬ f_X4_isHour_r k = 0) : vp_in k 100 := by
  unfold f_X4_isHour_r f_X4_isHour_x1 at h
  split at h
  · exact absurd rfl h
  · rename_i h0
    split at h
    · exact absurd rfl h
    · rename_i h1
      exact vin_of (N := 100) rfl h0 h1
/-- how many of the first n hours are of a kind -/
def cntH (f : Nat → Int8) (k : Int32) : Nat → Int32
  | 0 => 0
  | n + 1 => if (f n).toInt32 = k then cntH f k n + 1 else cntH f k n

noncomputable def f_X0_hourState_x2 (v : DO) (f : Nat → Int8) (k : Int32) : Int32 := (if f_X4_isHour_r k = 0 then 0 else (f k.toNatClampNeg).toInt32)
noncomputable def f_X0_hourState_r (v : DO) (f : Nat → Int8) (k : Int32) : Int32 := (f_X0_hourState_x2 v f k)
set_option maxRecDepth 100000 in
set_option maxHeartbeats 4000000 in
theorem m_X0_hourState (l : Launch) (G : GG) (a h : Nat) (v : DO) (f : Nat → Int8) (k : Int32)  : CtI l yX0_hourState cX0_hourState 2 (some .int) (RM 1) G [.ref a, .int k] ([oD a h v, aB G h f]) (f_X0_hourState_r v f k) ([oD a h v, aB G h f]) := by
  refine ct_I RX0 [(0, .ref a), (1, .int k)] rfl (by decide +kernel) (Nat.le_of_ble_eq_true rfl) rfl ?_
  intro p e s m args below meth c A C hr hk hnm
  generalize hQ : (MQ below (PostI G A (f_X0_hourState_r v f k) ([oD a h v, aB G h f])) args s (RM 1).cells (RM 1).slots A) = Q
  refine j_iload_n C dX0_hourState_0 1 rfl ?_
  refine j_pureSN_i (r := f_X4_isHour_r k) C (m_X4_isHour l G k) 1 kw_185 (List.mem_of_getElem? (i := 4) rfl) kw_1 kw_184 (by decide +kernel) ⟨(Nat.le_of_ble_eq_true rfl), (Nat.le_of_ble_eq_true rfl)⟩ rfl rfl (Nat.le_of_ble_eq_true rfl) dX0_hourState_1 ⟨(Nat.le_of_ble_eq_true rfl), (Nat.le_of_ble_eq_true rfl)⟩ ?_
  have K17 : WJ p l e (RM 1) s m args below meth c G A 2 0 0 Q ([oD a h v, aB G h f]) [(0, .ref a), (1, .int k)] 17 [.int (f_X0_hourState_x2 v f k)] := by
    generalize hw0 : f_X0_hourState_x2 v f k = w0
    subst hQ; subst hw0; exact j_iret C hr hk ((show f_X0_hourState_r v f k = (f_X0_hourState_x2 v f k) from rfl).symm) rfl dX0_hourState_17
  refine j_if_eq (tgt := 16) C dX0_hourState_4 (by decide) (fun c4 => ?_) (fun c4 => ?_)
  · refine j_iconst (v := 0) C dX0_hourState_16 (by decide) ?_
    exact j_eq rfl rfl (by rw [show f_X0_hourState_x2 v f k = 0 from (if_pos c4)]) K17
  · refine j_aload_n C dX0_hourState_7 0 rfl ?_
    refine j_get C kin0 rfl 0 rfl 11 (by decide) kw_59 rfl (v := .ref h) rfl dX0_hourState_8 ?_
    refine j_iload_n C dX0_hourState_11 1 rfl ?_
    refine j_bald C 1 rfl (vin_hour c4) (v := (f k.toNatClampNeg).toInt32) rfl dX0_hourState_12 ?_
    refine j_goto (tgt := 17) C dX0_hourState_13 (by decide) ?_
    exact j_eq rfl rfl (by rw [show f_X0_hourState_x2 v f k = (f k.toNatClampNeg).toInt32 from (if_neg c4)]) K17
noncomputable def f_X0_markHour_v2 (v : DO) (f : Nat → Int8) (k : Int32) (x : Int32) : (Nat → Int8) := (if f_X4_isHour_r k = 0 then f else upd8 f k.toNatClampNeg x.toInt8.toInt32)
noncomputable def f_X0_markHour_f (v : DO) (f : Nat → Int8) (k : Int32) (x : Int32) : (Nat → Int8) := (f_X0_markHour_v2 v f k x)
set_option maxRecDepth 100000 in
set_option maxHeartbeats 4000000 in
theorem m_X0_markHour (l : Launch) (G : GG) (a h : Nat) (v : DO) (f : Nat → Int8) (k : Int32) (x : Int32)  : CtV l yX0_markHour cX0_markHour 3 (none : Option Jvm.ClassFile.FieldType) (RM 1) G [.ref a, .int k, .int x] ([oD a h v, aB G h f]) ([oD a h v, aB G h (f_X0_markHour_f v f k x)]) := by
  refine ct_V RX0 [(0, .ref a), (1, .int k), (2, .int x)] rfl (by decide +kernel) (Nat.le_of_ble_eq_true rfl) rfl ?_
  intro p e s m args below meth c A C hr hk hnm
  generalize hQ : (MQ below (PostV G A ([oD a h v, aB G h (f_X0_markHour_f v f k x)])) args s (RM 1).cells (RM 1).slots A) = Q
  refine j_iload_n C dX0_markHour_0 1 rfl ?_
  refine j_pureSN_i (r := f_X4_isHour_r k) C (m_X4_isHour l G k) 1 kw_185 (List.mem_of_getElem? (i := 4) rfl) kw_1 kw_184 (by decide +kernel) ⟨(Nat.le_of_ble_eq_true rfl), (Nat.le_of_ble_eq_true rfl)⟩ rfl rfl (Nat.le_of_ble_eq_true rfl) dX0_markHour_1 ⟨(Nat.le_of_ble_eq_true rfl), (Nat.le_of_ble_eq_true rfl)⟩ ?_
  have K15 : WJ p l e (RM 1) s m args below meth c G A 3 0 0 Q ([oD a h v, aB G h (f_X0_markHour_v2 v f k x)]) [(0, .ref a), (1, .int k), (2, .int x)] 15 [] := by
    generalize hw0 : f_X0_markHour_v2 v f k x = w0
    subst hQ; subst hw0; exact j_vret C hr hk (by rw [show f_X0_markHour_f v f k x = (f_X0_markHour_v2 v f k x) from rfl]) dX0_markHour_15
  refine j_if_eq (tgt := 15) C dX0_markHour_4 (by decide) (fun c4 => ?_) (fun c4 => ?_)
  · exact j_eq (by rw [show f_X0_markHour_v2 v f k x = f from (if_pos c4)]) rfl rfl K15
  · refine j_aload_n C dX0_markHour_7 0 rfl ?_
    refine j_get C kin0 rfl 0 rfl 11 (by decide) kw_59 rfl (v := .ref h) rfl dX0_markHour_8 ?_
    refine j_iload_n C dX0_markHour_11 1 rfl ?_
    refine j_iload_n C dX0_markHour_12 2 rfl ?_
    refine j_i2b C dX0_markHour_13 rfl ?_
    refine j_bast8 C 1 rfl (vin_hour c4) ([oD a h v, aB G h (upd8 f k.toNatClampNeg x.toInt8.toInt32)]) rfl dX0_markHour_14 ?_
    exact j_eq (by rw [show f_X0_markHour_v2 v f k x = upd8 f k.toNatClampNeg x.toInt8.toInt32 from (if_neg c4)]) rfl rfl K15
noncomputable def f_X0_isQuietIn_x2 (v : DO) (f : Nat → Int8) (k : Int32) : Int32 := (if f_X0_hourState_r v f k = 0 then 0 else 1)
noncomputable def f_X0_isQuietIn_r (v : DO) (f : Nat → Int8) (k : Int32) : Int32 := (f_X0_isQuietIn_x2 v f k)
set_option maxRecDepth 100000 in
set_option maxHeartbeats 4000000 in
theorem m_X0_isQuietIn (l : Launch) (G : GG) (a h : Nat) (v : DO) (f : Nat → Int8) (k : Int32)  : CtI l yX0_isQuietIn cX0_isQuietIn 2 (some .boolean) (RM 2) G [.ref a, .int k] ([oD a h v, aB G h f]) (f_X0_isQuietIn_r v f k) ([oD a h v, aB G h f]) := by
  refine ct_I RX0 [(0, .ref a), (1, .int k)] rfl (by decide +kernel) (Nat.le_of_ble_eq_true rfl) rfl ?_
  intro p e s m args below meth c A C hr hk hnm
  generalize hQ : (MQ below (PostI G A (f_X0_isQuietIn_r v f k) ([oD a h v, aB G h f])) args s (RM 2).cells (RM 2).slots A) = Q
  refine j_aload_n C dX0_isQuietIn_0 0 rfl ?_
  refine j_iload_n C dX0_isQuietIn_1 1 rfl ?_
  refine j_callV_i (r := f_X0_hourState_r v f k) (wc' := [oD a h v, aB G h f]) C (m_X0_hourState l G a h v f k) rfl 0 rfl 1 (gV kw_180 kw_181 kw_182 kw_4 kw_183) (by decide +kernel) ⟨(Nat.le_of_ble_eq_true rfl), (Nat.le_of_ble_eq_true rfl)⟩ rfl rfl (Nat.le_of_ble_eq_true rfl) dX0_isQuietIn_2 ⟨(Nat.le_of_ble_eq_true rfl), (Nat.le_of_ble_eq_true rfl)⟩ [] [oD a h v, aB G h f] (perm_idx [0, 1] 2 rfl (by decide +kernel) rfl) rfl ?_
  have K13 : WJ p l e (RM 2) s m args below meth c G A 2 0 0 Q ([oD a h v, aB G h f]) [(0, .ref a), (1, .int k)] 13 [.int (f_X0_isQuietIn_x2 v f k)] := by
    generalize hw0 : f_X0_isQuietIn_x2 v f k = w0
    subst hQ; subst hw0; exact j_zret C hr hk (by unfold f_X0_isQuietIn_x2; (repeat' split) <;> rfl) ((show f_X0_isQuietIn_r v f k = (f_X0_isQuietIn_x2 v f k) from rfl).symm) rfl dX0_isQuietIn_13
  refine j_if_eq (tgt := 12) C dX0_isQuietIn_5 (by decide) (fun c5 => ?_) (fun c5 => ?_)
  · refine j_iconst (v := 0) C dX0_isQuietIn_12 (by decide) ?_
    exact j_eq rfl rfl (by rw [show f_X0_isQuietIn_x2 v f k = 0 from (if_pos c5)]) K13
  · refine j_iconst (v := 1) C dX0_isQuietIn_8 (by decide) ?_
    refine j_goto (tgt := 13) C dX0_isQuietIn_9 (by decide) ?_
    exact j_eq rfl rfl (by rw [show f_X0_isQuietIn_x2 v f k = 1 from (if_neg c5)]) K13
noncomputable def f_X0_takeStream_v1 (v : DO) (k : Int32) : DO := (if v.1 8 ≤ 0 then v else (if k - k / (v.1 8) * (v.1 8) = 0 then (upd v.1 3 ((v.1 3) + (v.1 9)), v.2) else v))
noncomputable def f_X0_takeStream_v (v : DO) (k : Int32) : DO := (f_X0_takeStream_v1 v k)
set_option maxRecDepth 100000 in
set_option maxHeartbeats 4000000 in
theorem m_X0_takeStream (l : Launch) (G : GG) (a h : Nat) (v : DO) (k : Int32)  : CtV l yX0_takeStream cX0_takeStream 2 (none : Option Jvm.ClassFile.FieldType) (RM 0) G [.ref a, .int k] ([oD a h v]) ([oD a h (f_X0_takeStream_v v k)]) := by
  refine ct_V RX0 [(0, .ref a), (1, .int k)] rfl (by decide +kernel) (Nat.le_of_ble_eq_true rfl) rfl ?_
  intro p e s m args below meth c A C hr hk hnm
  generalize hQ : (MQ below (PostV G A ([oD a h (f_X0_takeStream_v v k)])) args s (RM 0).cells (RM 0).slots A) = Q
  refine j_aload_n C dX0_takeStream_0 0 rfl ?_
  refine j_get C kin0 rfl 0 rfl 8 (by decide) kw_51 rfl (v := .int (v.1 8)) rfl dX0_takeStream_1 ?_
  have K29 : WJ p l e (RM 0) s m args below meth c G A 2 0 0 Q ([oD a h (f_X0_takeStream_v1 v k)]) [(0, .ref a), (1, .int k)] 29 [] := by
    generalize hw1 : f_X0_takeStream_v1 v k = w1
    subst hQ; subst hw1; exact j_vret C hr hk (by rw [show f_X0_takeStream_v v k = (f_X0_takeStream_v1 v k) from rfl]) dX0_takeStream_29
  refine j_if_le (tgt := 29) C dX0_takeStream_4 (by decide) (fun c4 => ?_) (fun c4 => ?_)
  · exact j_eq (by rw [show f_X0_takeStream_v1 v k = v from (if_pos c4)]) rfl rfl K29
  · refine j_iload_n C dX0_takeStream_7 1 rfl ?_
    refine j_aload_n C dX0_takeStream_8 0 rfl ?_
    refine j_get C kin0 rfl 0 rfl 8 (by decide) kw_51 rfl (v := .int (v.1 8)) rfl dX0_takeStream_9 ?_
    refine j_irem C dX0_takeStream_12 (by intro h; rw [h] at c4; exact absurd c4 (by decide)) rfl ?_
    refine j_if_ne (tgt := 29) C dX0_takeStream_13 (by decide) (fun c13 => ?_) (fun c13 => ?_)
    · exact j_eq (by rw [show f_X0_takeStream_v1 v k = v from ((if_neg c4).trans (if_neg c13))]) rfl rfl K29
    · refine j_aload_n C dX0_takeStream_16 0 rfl ?_
      refine j_dup C dX0_takeStream_17 rfl ?_
      refine j_get C kin0 rfl 0 rfl 3 (by decide) kw_38 rfl (v := .int (v.1 3)) rfl dX0_takeStream_18 ?_
      refine j_aload_n C dX0_takeStream_21 0 rfl ?_
      refine j_get C kin0 rfl 0 rfl 9 (by decide) kw_54 rfl (v := .int (v.1 9)) rfl dX0_takeStream_22 ?_
      refine j_iadd C dX0_takeStream_25 rfl ?_
      generalize hw0 : (v.1 3) + (v.1 9) = w0
      refine j_put C kin0 rfl 0 rfl 3 (by decide) kw_38 rfl tyX0 tyX0_ok nmX0 rfl rfl rfl (Nat.le_of_ble_eq_true rfl) ([oD a h (upd v.1 3 w0, v.2)]) rfl dX0_takeStream_26 ?_
      subst hw0; exact j_eq (by rw [show f_X0_takeStream_v1 v k = (upd v.1 3 ((v.1 3) + (v.1 9)), v.2) from ((if_neg c4).trans (if_pos c13))]) rfl rfl K29
noncomputable def f_X0_fillCells_v (v : DO) (k : Int32) : DO := (upd (upd (upd v.1 0 ((v.1 0) - k)) 1 ((v.1 1) + k)) 5 ((v.1 5) + k), v.2)
set_option maxRecDepth 100000 in
set_option maxHeartbeats 4000000 in
theorem m_X0_fillCells (l : Launch) (G : GG) (a h : Nat) (v : DO) (k : Int32)  : CtV l yX0_fillCells cX0_fillCells 2 (none : Option Jvm.ClassFile.FieldType) (RM 0) G [.ref a, .int k] ([oD a h v]) ([oD a h (f_X0_fillCells_v v k)]) := by
  refine ct_V RX0 [(0, .ref a), (1, .int k)] rfl (by decide +kernel) (Nat.le_of_ble_eq_true rfl) rfl ?_
  intro p e s m args below meth c A C hr hk hnm
  generalize hQ : (MQ below (PostV G A ([oD a h (f_X0_fillCells_v v k)])) args s (RM 0).cells (RM 0).slots A) = Q
  refine j_aload_n C dX0_fillCells_0 0 rfl ?_
  refine j_dup C dX0_fillCells_1 rfl ?_
  refine j_get C kin0 rfl 0 rfl 0 (by decide) kw_30 rfl (v := .int (v.1 0)) rfl dX0_fillCells_2 ?_
  refine j_iload_n C dX0_fillCells_5 1 rfl ?_
  refine j_isub C dX0_fillCells_6 rfl ?_
  generalize hw0 : (v.1 0) - k = w0
  refine j_put C kin0 rfl 0 rfl 0 (by decide) kw_30 rfl tyX0 tyX0_ok nmX0 rfl rfl rfl (Nat.le_of_ble_eq_true rfl) ([oD a h (upd v.1 0 w0, v.2)]) rfl dX0_fillCells_7 ?_
  refine j_aload_n C dX0_fillCells_10 0 rfl ?_
  refine j_dup C dX0_fillCells_11 rfl ?_
  refine j_get C kin0 rfl 0 rfl 1 (by decide) kw_33 rfl (v := .int (v.1 1)) rfl dX0_fillCells_12 ?_
  refine j_iload_n C dX0_fillCells_15 1 rfl ?_
  refine j_iadd C dX0_fillCells_16 rfl ?_
  generalize hw1 : (v.1 1) + k = w1
  refine j_put C kin0 rfl 0 rfl 1 (by decide) kw_33 rfl tyX0 tyX0_ok nmX0 rfl rfl rfl (Nat.le_of_ble_eq_true rfl) ([oD a h (upd (upd v.1 0 w0) 1 w1, v.2)]) rfl dX0_fillCells_17 ?_
  refine j_aload_n C dX0_fillCells_20 0 rfl ?_
  refine j_dup C dX0_fillCells_21 rfl ?_
  refine j_get C kin0 rfl 0 rfl 5 (by decide) kw_44 rfl (v := .int (v.1 5)) rfl dX0_fillCells_22 ?_
  refine j_iload_n C dX0_fillCells_25 1 rfl ?_
  refine j_iadd C dX0_fillCells_26 rfl ?_
  generalize hw2 : (v.1 5) + k = w2
  refine j_put C kin0 rfl 0 rfl 5 (by decide) kw_44 rfl tyX0 tyX0_ok nmX0 rfl rfl rfl (Nat.le_of_ble_eq_true rfl) ([oD a h (upd (upd (upd v.1 0 w0) 1 w1) 5 w2, v.2)]) rfl dX0_fillCells_27 ?_
  subst hQ; subst hw0 hw1 hw2; exact j_vret C hr hk (by rw [show f_X0_fillCells_v v k = (upd (upd (upd v.1 0 ((v.1 0) - k)) 1 ((v.1 1) + k)) 5 ((v.1 5) + k), v.2) from rfl]) dX0_fillCells_30
noncomputable def f_X0_takeBackFrom_v (v : DO) (t : DO) : DO := f_X0_fillCells_v v (imin (t.1 2) (v.1 0))
noncomputable def f_X0_takeBackFrom_t (v : DO) (t : DO) : DO := (upd (upd t.1 2 ((t.1 2) - (imin (t.1 2) (v.1 0)))) 1 ((t.1 1) + (imin (t.1 2) (v.1 0))), t.2)
set_option maxRecDepth 100000 in
set_option maxHeartbeats 4000000 in
theorem m_X0_takeBackFrom (l : Launch) (G : GG) (a b h g : Nat) (v : DO) (t : DO)  : CtV l yX0_takeBackFrom cX0_takeBackFrom 3 (none : Option Jvm.ClassFile.FieldType) (RM 1) G [.ref a, .ref b] ([oD a h v, oD b g t]) ([oD a h (f_X0_takeBackFrom_v v t), oD b g (f_X0_takeBackFrom_t v t)]) := by
  refine ct_V RX0 [(0, .ref a), (1, .ref b)] rfl (by decide +kernel) (Nat.le_of_ble_eq_true rfl) rfl ?_
  intro p e s m args below meth c A C hr hk hnm
  generalize hQ : (MQ below (PostV G A ([oD a h (f_X0_takeBackFrom_v v t), oD b g (f_X0_takeBackFrom_t v t)])) args s (RM 1).cells (RM 1).slots A) = Q
  refine j_aload_n C dX0_takeBackFrom_0 1 rfl ?_
  refine j_get C kin0 rfl 1 rfl 2 (by decide) kw_36 rfl (v := .int (t.1 2)) rfl dX0_takeBackFrom_1 ?_
  refine j_aload_n C dX0_takeBackFrom_4 0 rfl ?_
  refine j_get C kin0 rfl 0 rfl 0 (by decide) kw_30 rfl (v := .int (v.1 0)) rfl dX0_takeBackFrom_5 ?_
  refine j_mmin C kw_202 (Nat.le_of_ble_eq_true rfl) (Nat.le_of_ble_eq_true rfl) ⟨(Nat.le_of_ble_eq_true rfl), (Nat.le_of_ble_eq_true rfl)⟩ dX0_takeBackFrom_8 (v := imin (t.1 2) (v.1 0)) (imin_eq _ _).symm ?_
  refine j_istore_n C [(2, .int (imin (t.1 2) (v.1 0))), (0, .ref a), (1, .ref b)] dX0_takeBackFrom_11 (by decide) rfl ?_
  refine j_aload_n C dX0_takeBackFrom_12 2 rfl ?_
  refine j_dup C dX0_takeBackFrom_13 rfl ?_
  refine j_get C kin0 rfl 1 rfl 2 (by decide) kw_36 rfl (v := .int (t.1 2)) rfl dX0_takeBackFrom_14 ?_
  refine j_iload_n C dX0_takeBackFrom_17 0 rfl ?_
  refine j_isub C dX0_takeBackFrom_18 rfl ?_
  generalize hw0 : (t.1 2) - (imin (t.1 2) (v.1 0)) = w0
  refine j_put C kin0 rfl 1 rfl 2 (by decide) kw_36 rfl tyX0 tyX0_ok nmX0 rfl rfl rfl (Nat.le_of_ble_eq_true rfl) ([oD a h v, oD b g (upd t.1 2 w0, t.2)]) rfl dX0_takeBackFrom_19 ?_
  refine j_aload_n C dX0_takeBackFrom_22 2 rfl ?_
  refine j_dup C dX0_takeBackFrom_23 rfl ?_
  refine j_get C kin0 rfl 1 rfl 1 (by decide) kw_33 rfl (v := .int (t.1 1)) rfl dX0_takeBackFrom_24 ?_
  refine j_iload_n C dX0_takeBackFrom_27 0 rfl ?_
  refine j_iadd C dX0_takeBackFrom_28 rfl ?_
  generalize hw1 : (t.1 1) + (imin (t.1 2) (v.1 0)) = w1
  refine j_put C kin0 rfl 1 rfl 1 (by decide) kw_33 rfl tyX0 tyX0_ok nmX0 rfl rfl rfl (Nat.le_of_ble_eq_true rfl) ([oD a h v, oD b g (upd (upd t.1 2 w0) 1 w1, t.2)]) rfl dX0_takeBackFrom_29 ?_
  refine j_aload_n C dX0_takeBackFrom_32 1 rfl ?_
  refine j_iload_n C dX0_takeBackFrom_33 0 rfl ?_
  refine j_callV_v (wc' := [oD a h (f_X0_fillCells_v v (imin (t.1 2) (v.1 0)))]) C (m_X0_fillCells l G a h v (imin (t.1 2) (v.1 0))) rfl 0 rfl 1 (gV kw_205 kw_206 kw_344 kw_4 kw_207) (by decide +kernel) ⟨(Nat.le_of_ble_eq_true rfl), (Nat.le_of_ble_eq_true rfl)⟩ rfl rfl (Nat.le_of_ble_eq_true rfl) dX0_takeBackFrom_34 ⟨(Nat.le_of_ble_eq_true rfl), (Nat.le_of_ble_eq_true rfl)⟩ [oD b g (upd (upd t.1 2 w0) 1 w1, t.2)] [oD a h (f_X0_fillCells_v v (imin (t.1 2) (v.1 0))), oD b g (upd (upd t.1 2 w0) 1 w1, t.2)] (perm_idx [0, 1] 2 rfl (by decide +kernel) rfl) rfl ?_
  subst hQ; subst hw0 hw1; exact j_vret C hr hk (by rw [show f_X0_takeBackFrom_v v t = f_X0_fillCells_v v (imin (t.1 2) (v.1 0)) from rfl, show f_X0_takeBackFrom_t v t = (upd (upd t.1 2 ((t.1 2) - (imin (t.1 2) (v.1 0)))) 1 ((t.1 1) + (imin (t.1 2) (v.1 0))), t.2) from rfl]) dX0_takeBackFrom_37
noncomputable def f_X0_writeHeld_vq1 (v : DO) : DO := f_X0_fillCells_v (upd v.1 3 ((v.1 3) - (imin (v.1 3) (v.1 0))), v.2) (imin (v.1 3) (v.1 0))
noncomputable def f_X0_writeHeld_v (v : DO) : DO := (f_X0_writeHeld_vq1 v)
set_option maxRecDepth 100000 in
set_option maxHeartbeats 4000000 in
theorem m_X0_writeHeld (l : Launch) (G : GG) (a h : Nat) (v : DO)  : CtV l yX0_writeHeld cX0_writeHeld 2 (none : Option Jvm.ClassFile.FieldType) (RM 1) G [.ref a] ([oD a h v]) ([oD a h (f_X0_writeHeld_v v)]) := by
  refine ct_V RX0 [(0, .ref a)] rfl (by decide +kernel) (Nat.le_of_ble_eq_true rfl) rfl ?_
  intro p e s m args below meth c A C hr hk hnm
  generalize hQ : (MQ below (PostV G A ([oD a h (f_X0_writeHeld_v v)])) args s (RM 1).cells (RM 1).slots A) = Q
  refine j_aload_n C dX0_writeHeld_0 0 rfl ?_
  refine j_get C kin0 rfl 0 rfl 3 (by decide) kw_38 rfl (v := .int (v.1 3)) rfl dX0_writeHeld_1 ?_
  refine j_aload_n C dX0_writeHeld_4 0 rfl ?_
  refine j_get C kin0 rfl 0 rfl 0 (by decide) kw_30 rfl (v := .int (v.1 0)) rfl dX0_writeHeld_5 ?_
  refine j_mmin C kw_202 (Nat.le_of_ble_eq_true rfl) (Nat.le_of_ble_eq_true rfl) ⟨(Nat.le_of_ble_eq_true rfl), (Nat.le_of_ble_eq_true rfl)⟩ dX0_writeHeld_8 (v := imin (v.1 3) (v.1 0)) (imin_eq _ _).symm ?_
  refine j_istore_n C [(1, .int (imin (v.1 3) (v.1 0))), (0, .ref a)] dX0_writeHeld_11 (by decide) rfl ?_
  refine j_aload_n C dX0_writeHeld_12 1 rfl ?_
  refine j_dup C dX0_writeHeld_13 rfl ?_
  refine j_get C kin0 rfl 0 rfl 3 (by decide) kw_38 rfl (v := .int (v.1 3)) rfl dX0_writeHeld_14 ?_
  refine j_iload_n C dX0_writeHeld_17 0 rfl ?_
  refine j_isub C dX0_writeHeld_18 rfl ?_
  generalize hw0 : (v.1 3) - (imin (v.1 3) (v.1 0)) = w0
  refine j_put C kin0 rfl 0 rfl 3 (by decide) kw_38 rfl tyX0 tyX0_ok nmX0 rfl rfl rfl (Nat.le_of_ble_eq_true rfl) ([oD a h (upd v.1 3 w0, v.2)]) rfl dX0_writeHeld_19 ?_
  refine j_aload_n C dX0_writeHeld_22 1 rfl ?_
  refine j_iload_n C dX0_writeHeld_23 0 rfl ?_
  refine j_callV_v (wc' := [oD a h (f_X0_fillCells_v (upd v.1 3 w0, v.2) (imin (v.1 3) (v.1 0)))]) C (m_X0_fillCells l G a h (upd v.1 3 w0, v.2) (imin (v.1 3) (v.1 0))) rfl 0 rfl 1 (gV kw_205 kw_206 kw_344 kw_4 kw_207) (by decide +kernel) ⟨(Nat.le_of_ble_eq_true rfl), (Nat.le_of_ble_eq_true rfl)⟩ rfl rfl (Nat.le_of_ble_eq_true rfl) dX0_writeHeld_24 ⟨(Nat.le_of_ble_eq_true rfl), (Nat.le_of_ble_eq_true rfl)⟩ [] [oD a h (f_X0_fillCells_v (upd v.1 3 w0, v.2) (imin (v.1 3) (v.1 0)))] (perm_idx [0] 1 rfl (by decide +kernel) rfl) rfl ?_
  generalize hzw1 : f_X0_fillCells_v (upd v.1 3 w0, v.2) (imin (v.1 3) (v.1 0)) = w1
  have hw1 : f_X0_writeHeld_vq1 v = w1 := by subst hw0; subst hzw1; rfl
  subst hQ; subst hw0 hw1; exact j_vret C hr hk (by rw [show f_X0_writeHeld_v v = (f_X0_writeHeld_vq1 v) from rfl]) dX0_writeHeld_27
noncomputable def f_X0_lendTo_v1 (v : DO) (t : DO) (k : Int32) : DO := (if v.1 3 ≤ k then v else (upd v.1 3 ((v.1 3) - (imin ((v.1 3) - k) (t.1 0))), v.2))
noncomputable def f_X0_lendTo_v2 (v : DO) (t : DO) (k : Int32) : DO := (if v.1 3 ≤ k then t else (upd (upd t.1 0 ((t.1 0) - (imin ((v.1 3) - k) (t.1 0)))) 2 ((t.1 2) + (imin ((v.1 3) - k) (t.1 0))), t.2))
noncomputable def f_X0_lendTo_v (v : DO) (t : DO) (k : Int32) : DO := (f_X0_lendTo_v1 v t k)
noncomputable def f_X0_lendTo_t (v : DO) (t : DO) (k : Int32) : DO := (f_X0_lendTo_v2 v t k)
set_option maxRecDepth 100000 in
set_option maxHeartbeats 4000000 in
theorem m_X0_lendTo (l : Launch) (G : GG) (a b h g : Nat) (v : DO) (t : DO) (k : Int32)  : CtV l yX0_lendTo cX0_lendTo 4 (none : Option Jvm.ClassFile.FieldType) (RM 1) G [.ref a, .ref b, .int k] ([oD a h v, oD b g t]) ([oD a h (f_X0_lendTo_v v t k), oD b g (f_X0_lendTo_t v t k)]) := by
  refine ct_V RX0 [(0, .ref a), (1, .ref b), (2, .int k)] rfl (by decide +kernel) (Nat.le_of_ble_eq_true rfl) rfl ?_
  intro p e s m args below meth c A C hr hk hnm
  generalize hQ : (MQ below (PostV G A ([oD a h (f_X0_lendTo_v v t k), oD b g (f_X0_lendTo_t v t k)])) args s (RM 1).cells (RM 1).slots A) = Q
  refine j_aload_n C dX0_lendTo_0 0 rfl ?_
  refine j_get C kin0 rfl 0 rfl 3 (by decide) kw_38 rfl (v := .int (v.1 3)) rfl dX0_lendTo_1 ?_
  refine j_iload_n C dX0_lendTo_4 2 rfl ?_
  have K52 : WJ p l e (RM 1) s m args below meth c G A 4 0 0 Q ([oD a h (f_X0_lendTo_v1 v t k), oD b g (f_X0_lendTo_v2 v t k)]) [(0, .ref a), (1, .ref b), (2, .int k)] 52 [] := by
    generalize hw3 : f_X0_lendTo_v1 v t k = w3
    generalize hw4 : f_X0_lendTo_v2 v t k = w4
    subst hQ; subst hw3 hw4; exact j_vret C hr hk (by rw [show f_X0_lendTo_v v t k = (f_X0_lendTo_v1 v t k) from rfl, show f_X0_lendTo_t v t k = (f_X0_lendTo_v2 v t k) from rfl]) dX0_lendTo_52
  refine j_icmp_le (tgt := 52) C dX0_lendTo_5 (by decide) (fun c5 => ?_) (fun c5 => ?_)
  · exact j_eq (by rw [show f_X0_lendTo_v1 v t k = v from (if_pos c5), show f_X0_lendTo_v2 v t k = t from (if_pos c5)]) rfl rfl K52
  · refine j_aload_n C dX0_lendTo_8 0 rfl ?_
    refine j_get C kin0 rfl 0 rfl 3 (by decide) kw_38 rfl (v := .int (v.1 3)) rfl dX0_lendTo_9 ?_
    refine j_iload_n C dX0_lendTo_12 2 rfl ?_
    refine j_isub C dX0_lendTo_13 rfl ?_
    refine j_aload_n C dX0_lendTo_14 1 rfl ?_
    refine j_get C kin0 rfl 1 rfl 0 (by decide) kw_30 rfl (v := .int (t.1 0)) rfl dX0_lendTo_15 ?_
    refine j_mmin C kw_202 (Nat.le_of_ble_eq_true rfl) (Nat.le_of_ble_eq_true rfl) ⟨(Nat.le_of_ble_eq_true rfl), (Nat.le_of_ble_eq_true rfl)⟩ dX0_lendTo_18 (v := imin ((v.1 3) - k) (t.1 0)) (imin_eq _ _).symm ?_
    refine j_istore_n C [(3, .int (imin ((v.1 3) - k) (t.1 0))), (0, .ref a), (1, .ref b), (2, .int k)] dX0_lendTo_21 (by decide) rfl ?_
    refine j_aload_n C dX0_lendTo_22 2 rfl ?_
    refine j_dup C dX0_lendTo_23 rfl ?_
    refine j_get C kin0 rfl 1 rfl 0 (by decide) kw_30 rfl (v := .int (t.1 0)) rfl dX0_lendTo_24 ?_
    refine j_iload_n C dX0_lendTo_27 0 rfl ?_
    refine j_isub C dX0_lendTo_28 rfl ?_
    generalize hw0 : (t.1 0) - (imin ((v.1 3) - k) (t.1 0)) = w0
    refine j_put C kin0 rfl 1 rfl 0 (by decide) kw_30 rfl tyX0 tyX0_ok nmX0 rfl rfl rfl (Nat.le_of_ble_eq_true rfl) ([oD a h v, oD b g (upd t.1 0 w0, t.2)]) rfl dX0_lendTo_29 ?_
    refine j_aload_n C dX0_lendTo_32 2 rfl ?_
    refine j_dup C dX0_lendTo_33 rfl ?_
    refine j_get C kin0 rfl 1 rfl 2 (by decide) kw_36 rfl (v := .int (t.1 2)) rfl dX0_lendTo_34 ?_
    refine j_iload_n C dX0_lendTo_37 0 rfl ?_
    refine j_iadd C dX0_lendTo_38 rfl ?_
    generalize hw1 : (t.1 2) + (imin ((v.1 3) - k) (t.1 0)) = w1
    refine j_put C kin0 rfl 1 rfl 2 (by decide) kw_36 rfl tyX0 tyX0_ok nmX0 rfl rfl rfl (Nat.le_of_ble_eq_true rfl) ([oD a h v, oD b g (upd (upd t.1 0 w0) 2 w1, t.2)]) rfl dX0_lendTo_39 ?_
    refine j_aload_n C dX0_lendTo_42 1 rfl ?_
    refine j_dup C dX0_lendTo_43 rfl ?_
    refine j_get C kin0 rfl 0 rfl 3 (by decide) kw_38 rfl (v := .int (v.1 3)) rfl dX0_lendTo_44 ?_
    refine j_iload_n C dX0_lendTo_47 0 rfl ?_
    refine j_isub C dX0_lendTo_48 rfl ?_
    generalize hw2 : (v.1 3) - (imin ((v.1 3) - k) (t.1 0)) = w2
    refine j_put C kin0 rfl 0 rfl 3 (by decide) kw_38 rfl tyX0 tyX0_ok nmX0 rfl rfl rfl (Nat.le_of_ble_eq_true rfl) ([oD a h (upd v.1 3 w2, v.2), oD b g (upd (upd t.1 0 w0) 2 w1, t.2)]) rfl dX0_lendTo_49 ?_
    refine j_lv [1, 2, 3] [(0, .ref a), (1, .ref b), (2, .int k)] rfl ?_
    subst hw0 hw1 hw2; exact j_eq (by rw [show f_X0_lendTo_v1 v t k = (upd v.1 3 ((v.1 3) - (imin ((v.1 3) - k) (t.1 0))), v.2) from (if_neg c5), show f_X0_lendTo_v2 v t k = (upd (upd t.1 0 ((t.1 0) - (imin ((v.1 3) - k) (t.1 0)))) 2 ((t.1 2) + (imin ((v.1 3) - k) (t.1 0))), t.2) from (if_neg c5)]) rfl rfl K52
noncomputable def f_X0_cleanCells_v (v : DO) (k : Int32) : DO := (upd (upd (upd v.1 1 ((v.1 1) - k)) 0 ((v.1 0) + k)) 6 ((v.1 6) + 1), v.2)
set_option maxRecDepth 100000 in
set_option maxHeartbeats 4000000 in
theorem m_X0_cleanCells (l : Launch) (G : GG) (a h : Nat) (v : DO) (k : Int32)  : CtV l yX0_cleanCells cX0_cleanCells 2 (none : Option Jvm.ClassFile.FieldType) (RM 0) G [.ref a, .int k] ([oD a h v]) ([oD a h (f_X0_cleanCells_v v k)]) := by
  refine ct_V RX0 [(0, .ref a), (1, .int k)] rfl (by decide +kernel) (Nat.le_of_ble_eq_true rfl) rfl ?_
  intro p e s m args below meth c A C hr hk hnm
  generalize hQ : (MQ below (PostV G A ([oD a h (f_X0_cleanCells_v v k)])) args s (RM 0).cells (RM 0).slots A) = Q
  refine j_aload_n C dX0_cleanCells_0 0 rfl ?_
  refine j_dup C dX0_cleanCells_1 rfl ?_
  refine j_get C kin0 rfl 0 rfl 1 (by decide) kw_33 rfl (v := .int (v.1 1)) rfl dX0_cleanCells_2 ?_
  refine j_iload_n C dX0_cleanCells_5 1 rfl ?_
  refine j_isub C dX0_cleanCells_6 rfl ?_
  generalize hw0 : (v.1 1) - k = w0
  refine j_put C kin0 rfl 0 rfl 1 (by decide) kw_33 rfl tyX0 tyX0_ok nmX0 rfl rfl rfl (Nat.le_of_ble_eq_true rfl) ([oD a h (upd v.1 1 w0, v.2)]) rfl dX0_cleanCells_7 ?_
  refine j_aload_n C dX0_cleanCells_10 0 rfl ?_
  refine j_dup C dX0_cleanCells_11 rfl ?_
  refine j_get C kin0 rfl 0 rfl 0 (by decide) kw_30 rfl (v := .int (v.1 0)) rfl dX0_cleanCells_12 ?_
  refine j_iload_n C dX0_cleanCells_15 1 rfl ?_
  refine j_iadd C dX0_cleanCells_16 rfl ?_
  generalize hw1 : (v.1 0) + k = w1
  refine j_put C kin0 rfl 0 rfl 0 (by decide) kw_30 rfl tyX0 tyX0_ok nmX0 rfl rfl rfl (Nat.le_of_ble_eq_true rfl) ([oD a h (upd (upd v.1 1 w0) 0 w1, v.2)]) rfl dX0_cleanCells_17 ?_
  refine j_aload_n C dX0_cleanCells_20 0 rfl ?_
  refine j_dup C dX0_cleanCells_21 rfl ?_
  refine j_get C kin0 rfl 0 rfl 6 (by decide) kw_46 rfl (v := .int (v.1 6)) rfl dX0_cleanCells_22 ?_
  refine j_iconst (v := 1) C dX0_cleanCells_25 (by decide) ?_
  refine j_iadd C dX0_cleanCells_26 rfl ?_
  generalize hw2 : (v.1 6) + 1 = w2
  refine j_put C kin0 rfl 0 rfl 6 (by decide) kw_46 rfl tyX0 tyX0_ok nmX0 rfl rfl rfl (Nat.le_of_ble_eq_true rfl) ([oD a h (upd (upd (upd v.1 1 w0) 0 w1) 6 w2, v.2)]) rfl dX0_cleanCells_27 ?_
  subst hQ; subst hw0 hw1 hw2; exact j_vret C hr hk (by rw [show f_X0_cleanCells_v v k = (upd (upd (upd v.1 1 ((v.1 1) - k)) 0 ((v.1 0) + k)) 6 ((v.1 6) + 1), v.2) from rfl]) dX0_cleanCells_30
noncomputable def f_X0_hoursThatAre_x2 (v : DO) (f : Nat → Int8) (k : Int32) (i : Nat) : Int32 := (if (f i).toInt32 = k then (cntH f k i) + 1 else cntH f k i)
noncomputable def f_X0_hoursThatAre_r (v : DO) (f : Nat → Int8) (k : Int32) : Int32 := cntH f k 100
set_option maxRecDepth 100000 in
set_option maxHeartbeats 4000000 in
theorem m_X0_hoursThatAre (l : Launch) (G : GG) (a h : Nat) (v : DO) (f : Nat → Int8) (k : Int32)  : CtI l yX0_hoursThatAre cX0_hoursThatAre 4 (some .int) (RM 0) G [.ref a, .int k] ([oD a h v, aB G h f]) (f_X0_hoursThatAre_r v f k) ([oD a h v, aB G h f]) := by
  refine ct_I RX0 [(0, .ref a), (1, .int k)] rfl (by decide +kernel) (Nat.le_of_ble_eq_true rfl) rfl ?_
  intro p e s m args below meth c A C hr hk hnm
  generalize hQ : (MQ below (PostI G A (f_X0_hoursThatAre_r v f k) ([oD a h v, aB G h f])) args s (RM 0).cells (RM 0).slots A) = Q
  refine j_iconst (v := 0) C dX0_hoursThatAre_0 (by decide) ?_
  refine j_istore_n C [(2, .int 0), (0, .ref a), (1, .int k)] dX0_hoursThatAre_1 (by decide) rfl ?_
  refine j_iconst (v := 0) C dX0_hoursThatAre_2 (by decide) ?_
  refine j_istore_n C [(3, .int 0), (2, .int 0), (0, .ref a), (1, .int k)] dX0_hoursThatAre_3 (by decide) rfl ?_
  have L1 : ∀ (n i : Nat), i + n = 100 → WJ p l e (RM 0) s m args below meth c G A 4 0 0 Q ([oD a h v, aB G h f]) [(3, .int (nI i)), (2, .int (cntH f k i)), (0, .ref a), (1, .int k)] 4 [] := by
    intro n
    induction n with
    | zero =>
      intro i hIN
      have hN : i = 100 := by omega
      subst hN
      refine j_iload_n C dX0_hoursThatAre_4 0 rfl ?_
      refine j_bipush (v := 100) C dX0_hoursThatAre_5 (by decide) ?_
      refine j_icmp_ge (tgt := 29) C dX0_hoursThatAre_7 (by decide) (fun c7 => ?_) (fun h => absurd (by decide) h)
      refine j_iload_n C dX0_hoursThatAre_29 1 rfl ?_
      subst hQ; exact j_iret C hr hk ((show f_X0_hoursThatAre_r v f k = cntH f k 100 from rfl).symm) rfl dX0_hoursThatAre_30
    | succ n ih =>
      intro i hIN
      have hlt : i < 100 := by omega
      refine j_iload_n C dX0_hoursThatAre_4 0 rfl ?_
      refine j_bipush (v := 100) C dX0_hoursThatAre_5 (by decide) ?_
      refine j_icmp_ge (tgt := 29) C dX0_hoursThatAre_7 (by decide) (fun h => absurd h (nI_ge (b := 100) hlt (by decide))) (fun c7 => ?_)
      refine j_aload_n C dX0_hoursThatAre_10 2 rfl ?_
      refine j_get C kin0 rfl 0 rfl 11 (by decide) kw_59 rfl (v := .ref h) rfl dX0_hoursThatAre_11 ?_
      refine j_iload_n C dX0_hoursThatAre_14 0 rfl ?_
      refine j_bald C 1 rfl (vp_in_nI (by omega) (by omega)) (v := (f i).toInt32) (by rw [nI_clamp (by omega)]) dX0_hoursThatAre_15 ?_
      refine j_iload_n C dX0_hoursThatAre_16 3 rfl ?_
      have K23 : WJ p l e (RM 0) s m args below meth c G A 4 0 0 Q ([oD a h v, aB G h f]) [(2, .int (f_X0_hoursThatAre_x2 v f k i)), (3, .int (nI i)), (0, .ref a), (1, .int k)] 23 [] := by
        generalize hw0 : f_X0_hoursThatAre_x2 v f k i = w0
        refine j_iinc (v := nI (i + 1)) C [(3, .int (nI (i + 1))), (2, .int w0), (0, .ref a), (1, .int k)] dX0_hoursThatAre_23 (k := 1) rfl (nI_1 i) (by decide) rfl ?_
        refine j_goto (tgt := 4) C dX0_hoursThatAre_26 (by decide) ?_
        subst hw0; exact j_eq rfl (by rw [show cntH f k (i + 1) = (f_X0_hoursThatAre_x2 v f k i) from rfl]) rfl (ih (i + 1) (by omega))
      refine j_icmp_ne (tgt := 23) C dX0_hoursThatAre_17 (by decide) (fun c17 => ?_) (fun c17 => ?_)
      · refine j_lv [1, 0, 2, 3] [(2, .int (cntH f k i)), (3, .int (nI i)), (0, .ref a), (1, .int k)] rfl ?_
        exact j_eq rfl (by rw [show f_X0_hoursThatAre_x2 v f k i = cntH f k i from (if_neg c17)]) rfl K23
      · refine j_iinc (v := (cntH f k i) + 1) C [(2, .int ((cntH f k i) + 1)), (3, .int (nI i)), (0, .ref a), (1, .int k)] dX0_hoursThatAre_20 (k := 1) rfl rfl (by decide) rfl ?_
        exact j_eq rfl (by rw [show f_X0_hoursThatAre_x2 v f k i = (cntH f k i) + 1 from (if_pos c17)]) rfl K23
  exact j_eq rfl (by rw [show nI 0 = 0 from rfl, show cntH f k 0 = 0 from rfl]) rfl (L1 100 0 (by omega))
noncomputable def f_X0_soldHours_r (v : DO) (f : Nat → Int8) : Int32 := 100 - (f_X0_hoursThatAre_r v f 0)
set_option maxRecDepth 100000 in
set_option maxHeartbeats 4000000 in
theorem m_X0_soldHours (l : Launch) (G : GG) (a h : Nat) (v : DO) (f : Nat → Int8)  : CtI l yX0_soldHours cX0_soldHours 1 (some .int) (RM 1) G [.ref a] ([oD a h v, aB G h f]) (f_X0_soldHours_r v f) ([oD a h v, aB G h f]) := by
  refine ct_I RX0 [(0, .ref a)] rfl (by decide +kernel) (Nat.le_of_ble_eq_true rfl) rfl ?_
  intro p e s m args below meth c A C hr hk hnm
  generalize hQ : (MQ below (PostI G A (f_X0_soldHours_r v f) ([oD a h v, aB G h f])) args s (RM 1).cells (RM 1).slots A) = Q
  refine j_bipush (v := 100) C dX0_soldHours_0 (by decide) ?_
  refine j_aload_n C dX0_soldHours_2 0 rfl ?_
  refine j_iconst (v := 0) C dX0_soldHours_3 (by decide) ?_
  refine j_callV_i (r := f_X0_hoursThatAre_r v f 0) (wc' := [oD a h v, aB G h f]) C (m_X0_hoursThatAre l G a h v f 0) rfl 0 rfl 1 (gV kw_248 kw_249 kw_250 kw_4 kw_251) (by decide +kernel) ⟨(Nat.le_of_ble_eq_true rfl), (Nat.le_of_ble_eq_true rfl)⟩ rfl rfl (Nat.le_of_ble_eq_true rfl) dX0_soldHours_4 ⟨(Nat.le_of_ble_eq_true rfl), (Nat.le_of_ble_eq_true rfl)⟩ [] [oD a h v, aB G h f] (perm_idx [0, 1] 2 rfl (by decide +kernel) rfl) rfl ?_
  refine j_isub C dX0_soldHours_7 rfl ?_
  subst hQ; exact j_iret C hr hk ((show f_X0_soldHours_r v f = 100 - (f_X0_hoursThatAre_r v f 0) from rfl).symm) rfl dX0_soldHours_8
def rowA (f : Nat → Int8) : Nat → Int32
  | 0 => 0
  | i + 1 => if (f (99 - i)).toInt32 = 2 then rowA f i + 1 else rowA f i
/-- the kept hours from the latest one back up to the first one that is spoiled -/
def rowX (f : Nat → Int8) : Nat → Nat → Int32
  | 0, i => rowA f i
  | n + 1, i => if (f (99 - i)).toInt32 = 3 then rowA f i else rowX f n (i + 1)
noncomputable def f_X0_keptInARow_x2 (v : DO) (f : Nat → Int8) (i : Nat) : Int32 := (if (f (99 - i)).toInt32 = 2 then (rowA f i) + 1 else rowA f i)
set_option maxRecDepth 100000 in
set_option maxHeartbeats 4000000 in
theorem m_X0_keptInARow (l : Launch) (G : GG) (a h : Nat) (v : DO) (f : Nat → Int8)  : CtI l yX0_keptInARow cX0_keptInARow 3 (some .int) (RM 0) G [.ref a] ([oD a h v, aB G h f]) (rowX f 100 0) ([oD a h v, aB G h f]) := by
  refine ct_I RX0 [(0, .ref a)] rfl (by decide +kernel) (Nat.le_of_ble_eq_true rfl) rfl ?_
  intro p e s m args below meth c A C hr hk hnm
  generalize hQ : (MQ below (PostI G A (rowX f 100 0) ([oD a h v, aB G h f])) args s (RM 0).cells (RM 0).slots A) = Q
  refine j_iconst (v := 0) C dX0_keptInARow_0 (by decide) ?_
  refine j_istore_n C [(1, .int 0), (0, .ref a)] dX0_keptInARow_1 (by decide) rfl ?_
  refine j_bipush (v := 99) C dX0_keptInARow_2 (by decide) ?_
  refine j_istore_n C [(2, .int 99), (1, .int 0), (0, .ref a)] dX0_keptInARow_4 (by decide) rfl ?_
  have L1 : ∀ (n i : Nat), i + n = 100 → rowX f n i = rowX f 100 0 → WJ p l e (RM 0) s m args below meth c G A 3 0 0 Q ([oD a h v, aB G h f]) [(2, .int (nI (100 - i) + (-1))), (1, .int (rowA f i)), (0, .ref a)] 5 [] := by
    intro n
    induction n with
    | zero =>
      intro i hIN hx
      have hN : i = 100 := by omega
      subst hN
      refine j_eq rfl (by rw [show nI (100 - 100) + (-1) = (-1) from (by decide)]) rfl ?_
      refine j_iload_n C dX0_keptInARow_5 0 rfl ?_
      refine j_if_lt (tgt := 38) C dX0_keptInARow_6 (by decide) (fun _ => ?_) (fun h => absurd h (by decide))
      refine j_iload_n C dX0_keptInARow_38 1 rfl ?_
      subst hQ; exact j_iret C hr hk (show rowA f 100 = (rowX f 100 0) from hx) rfl dX0_keptInARow_39
    | succ n ih =>
      intro i hIN hx
      have hlt : i < 100 := by omega
      refine j_eq rfl (by rw [show nI (100 - i) + (-1) = nI (99 - i) from (by rw [show 100 - i = (99 - i) + 1 by omega, pk_m1])]) rfl ?_
      refine j_iload_n C dX0_keptInARow_5 0 rfl ?_
      refine j_if_lt (tgt := 38) C dX0_keptInARow_6 (by decide) (fun h => absurd h (nI_pos (by omega))) (fun c6 => ?_)
      refine j_aload_n C dX0_keptInARow_9 2 rfl ?_
      refine j_get C kin0 rfl 0 rfl 11 (by decide) kw_59 rfl (v := .ref h) rfl dX0_keptInARow_10 ?_
      refine j_iload_n C dX0_keptInARow_13 0 rfl ?_
      refine j_bald C 1 rfl (vp_in_nI (by omega) (by omega)) (v := (f (99 - i)).toInt32) (by rw [nI_clamp (by omega)]) dX0_keptInARow_14 ?_
      refine j_iconst (v := 3) C dX0_keptInARow_15 (by decide) ?_
      refine j_icmp_eq (tgt := 38) C dX0_keptInARow_16 (by decide) (fun c16 => ?_) (fun c16 => ?_)
      · refine j_iload_n C dX0_keptInARow_38 1 rfl ?_
        subst hQ; exact j_iret C hr hk (show rowA f i = (rowX f 100 0) from (by rw [rowX, if_pos c16] at hx; exact hx)) rfl dX0_keptInARow_39
      · refine j_aload_n C dX0_keptInARow_19 2 rfl ?_
        refine j_get C kin0 rfl 0 rfl 11 (by decide) kw_59 rfl (v := .ref h) rfl dX0_keptInARow_20 ?_
        refine j_iload_n C dX0_keptInARow_23 0 rfl ?_
        refine j_bald C 1 rfl (vp_in_nI (by omega) (by omega)) (v := (f (99 - i)).toInt32) (by rw [nI_clamp (by omega)]) dX0_keptInARow_24 ?_
        refine j_iconst (v := 2) C dX0_keptInARow_25 (by decide) ?_
        have K32 : WJ p l e (RM 0) s m args below meth c G A 3 0 0 Q ([oD a h v, aB G h f]) [(1, .int (f_X0_keptInARow_x2 v f i)), (2, .int (nI (99 - i))), (0, .ref a)] 32 [] := by
          generalize hw0 : f_X0_keptInARow_x2 v f i = w0
          refine j_iinc (v := (nI (99 - i)) + (-1)) C [(2, .int ((nI (99 - i)) + (-1))), (1, .int w0), (0, .ref a)] dX0_keptInARow_32 (k := 1) rfl rfl (by decide) rfl ?_
          refine j_goto (tgt := 5) C dX0_keptInARow_35 (by decide) ?_
          subst hw0; exact j_eq rfl (by rw [show nI (100 - (i + 1)) + (-1) = (nI (99 - i)) + (-1) from (by rw [show 100 - (i + 1) = 99 - i by omega]), show rowA f (i + 1) = (f_X0_keptInARow_x2 v f i) from rfl]) rfl (ih (i + 1) (by omega) (by rw [rowX, if_neg c16] at hx; exact hx))
        refine j_icmp_ne (tgt := 32) C dX0_keptInARow_26 (by decide) (fun c26 => ?_) (fun c26 => ?_)
        · refine j_lv [1, 0, 2] [(1, .int (rowA f i)), (2, .int (nI (99 - i))), (0, .ref a)] rfl ?_
          exact j_eq rfl (by rw [show f_X0_keptInARow_x2 v f i = rowA f i from (if_neg c26)]) rfl K32
        · refine j_iinc (v := (rowA f i) + 1) C [(1, .int ((rowA f i) + 1)), (2, .int (nI (99 - i))), (0, .ref a)] dX0_keptInARow_29 (k := 1) rfl rfl (by decide) rfl ?_
          exact j_eq rfl (by rw [show f_X0_keptInARow_x2 v f i = (rowA f i) + 1 from (if_pos c26)]) rfl K32
  exact j_eq rfl (by rw [show nI (100 - 0) + (-1) = 99 from (by decide), show rowA f 0 = 0 from rfl]) rfl (L1 100 0 (by omega) rfl)
end
section
/-! A STATION -/
theorem lt_drive {k : Int32} (h : ¬ f_X4_isDrive_r k = 0) : vp_in k 4 := by
  unfold f_X4_isDrive_r f_X4_isDrive_x1 at h
  split at h
  · exact absurd rfl h
  · rename_i h0
    split at h
    · exact absurd rfl h
    · rename_i h1
      exact vin_of (N := 4) rfl h0 h1
theorem vin_nat {k : Int32} {n : Nat} (h : vp_in k n) : k.toNatClampNeg < n := Nat.lt_of_not_le fun g => h (Or.inr g)
noncomputable def f_X3_hourOfNow_r (g : Nat → Int32) : Int32 := (g 2) / 60
set_option maxRecDepth 100000 in
set_option maxHeartbeats 4000000 in
theorem m_X3_hourOfNow (l : Launch) (G : GG) (a sa da : Nat) (g : Nat → Int32)  : CtI l yX3_hourOfNow cX3_hourOfNow 1 (some .int) (RM 0) G [.ref a] ([oS a sa da g]) (f_X3_hourOfNow_r g) ([oS a sa da g]) := by
  refine ct_I RX3 [(0, .ref a)] rfl (by decide +kernel) (Nat.le_of_ble_eq_true rfl) rfl ?_
  intro p e s m args below meth c A C hr hk hnm
  generalize hQ : (MQ below (PostI G A (f_X3_hourOfNow_r g) ([oS a sa da g])) args s (RM 0).cells (RM 0).slots A) = Q
  refine j_aload_n C dX3_hourOfNow_0 0 rfl ?_
  refine j_get C kin3 rfl 0 rfl 2 (by decide) kw_78 rfl (v := .int (g 2)) rfl dX3_hourOfNow_1 ?_
  refine j_bipush (v := 60) C dX3_hourOfNow_4 (by decide) ?_
  refine j_idiv C dX3_hourOfNow_6 (by decide) rfl ?_
  subst hQ; exact j_iret C hr hk ((show f_X3_hourOfNow_r g = (g 2) / 60 from rfl).symm) rfl dX3_hourOfNow_7
noncomputable def f_X3_settleHours_v3 (g : Nat → Int32) (s0 : Nat → Int32) (v : DO) (f : Nat → Int8) (k : Int32) (q : Int32) : (Nat → Int8) := (if f_X0_hourState_r v f (k - 1) = 1 then f_X0_markHour_f v f (k - 1) 2 else f)
noncomputable def f_X3_settleHours_v4 (g : Nat → Int32) (s0 : Nat → Int32) (v : DO) (f : Nat → Int8) (k : Int32) (q : Int32) : (Nat → Int32) := (if f_X0_hourState_r v f (k - 1) = 1 then upd g 5 ((g 5) + (s0 2)) else g)
noncomputable def f_X3_settleHours_v5 (g : Nat → Int32) (s0 : Nat → Int32) (v : DO) (f : Nat → Int8) (k : Int32) (q : Int32) : (Nat → Int32) := (if q = 0 then (f_X3_settleHours_v4 g s0 v f k q) else upd (f_X3_settleHours_v4 g s0 v f k q) 3 (((f_X3_settleHours_v4 g s0 v f k q) 3) + (s0 0)))
noncomputable def f_X3_settleHours_g (g : Nat → Int32) (s0 : Nat → Int32) (v : DO) (f : Nat → Int8) (k : Int32) (q : Int32) : (Nat → Int32) := (f_X3_settleHours_v5 g s0 v f k q)
noncomputable def f_X3_settleHours_f (g : Nat → Int32) (s0 : Nat → Int32) (v : DO) (f : Nat → Int8) (k : Int32) (q : Int32) : (Nat → Int8) := (f_X3_settleHours_v3 g s0 v f k q)
set_option maxRecDepth 100000 in
set_option maxHeartbeats 4000000 in
theorem m_X3_settleHours (l : Launch) (G : GG) (a b sa da h : Nat) (g : Nat → Int32) (s0 : Nat → Int32) (v : DO) (f : Nat → Int8) (k : Int32) (q : Int32)  : CtV l yX3_settleHours cX3_settleHours 4 (none : Option Jvm.ClassFile.FieldType) (RM 2) G [.ref a, .ref b, .int k, .int q] ([oS a sa da g, aI G sa 7 s0, oD b h v, aB G h f]) ([oS a sa da (f_X3_settleHours_g g s0 v f k q), aI G sa 7 s0, oD b h v, aB G h (f_X3_settleHours_f g s0 v f k q)]) := by
  refine ct_V RX3 [(0, .ref a), (1, .ref b), (2, .int k), (3, .int q)] rfl (by decide +kernel) (Nat.le_of_ble_eq_true rfl) rfl ?_
  intro p e s m args below meth c A C hr hk hnm
  generalize hQ : (MQ below (PostV G A ([oS a sa da (f_X3_settleHours_g g s0 v f k q), aI G sa 7 s0, oD b h v, aB G h (f_X3_settleHours_f g s0 v f k q)])) args s (RM 2).cells (RM 2).slots A) = Q
  refine j_aload_n C dX3_settleHours_0 1 rfl ?_
  refine j_iload_n C dX3_settleHours_1 2 rfl ?_
  refine j_iconst (v := 1) C dX3_settleHours_2 (by decide) ?_
  refine j_isub C dX3_settleHours_3 rfl ?_
  refine j_callV_i (r := f_X0_hourState_r v f (k - 1)) (wc' := [oD b h v, aB G h f]) C (m_X0_hourState l G b h v f (k - 1)) rfl 0 rfl 1 (gV kw_189 kw_181 kw_182 kw_4 kw_183) (by decide +kernel) ⟨(Nat.le_of_ble_eq_true rfl), (Nat.le_of_ble_eq_true rfl)⟩ rfl rfl (Nat.le_of_ble_eq_true rfl) dX3_settleHours_4 ⟨(Nat.le_of_ble_eq_true rfl), (Nat.le_of_ble_eq_true rfl)⟩ [oS a sa da g, aI G sa 7 s0] [oD b h v, aB G h f, oS a sa da g, aI G sa 7 s0] (perm_idx [2, 3, 0, 1] 4 rfl (by decide +kernel) rfl) rfl ?_
  refine j_iconst (v := 1) C dX3_settleHours_7 (by decide) ?_
  have K34 : WJ p l e (RM 2) s m args below meth c G A 4 0 0 Q ([oD b h v, aB G h (f_X3_settleHours_v3 g s0 v f k q), oS a sa da (f_X3_settleHours_v4 g s0 v f k q), aI G sa 7 s0]) [(0, .ref a), (1, .ref b), (2, .int k), (3, .int q)] 34 [] := by
    generalize hw1 : f_X3_settleHours_v3 g s0 v f k q = w1
    generalize hw2 : f_X3_settleHours_v4 g s0 v f k q = w2
    refine j_iload_n C dX3_settleHours_34 3 rfl ?_
    have K53 : WJ p l e (RM 2) s m args below meth c G A 4 0 0 Q ([oD b h v, aB G h w1, oS a sa da (f_X3_settleHours_v5 g s0 v f k q), aI G sa 7 s0]) [(0, .ref a), (1, .ref b), (2, .int k), (3, .int q)] 53 [] := by
      generalize hw4 : f_X3_settleHours_v5 g s0 v f k q = w4
      refine j_perm ([oS a sa da w4, aI G sa 7 s0, oD b h v, aB G h w1]) (perm_idx [2, 3, 0, 1] 4 rfl (by decide +kernel) rfl) ?_
      subst hQ; subst hw1 hw2 hw4; exact j_vret C hr hk (by rw [show f_X3_settleHours_g g s0 v f k q = (f_X3_settleHours_v5 g s0 v f k q) from rfl, show f_X3_settleHours_f g s0 v f k q = (f_X3_settleHours_v3 g s0 v f k q) from rfl]) dX3_settleHours_53
    refine j_if_eq (tgt := 53) C dX3_settleHours_35 (by decide) (fun c35 => ?_) (fun c35 => ?_)
    · subst hw1 hw2; exact j_eq (by rw [show f_X3_settleHours_v5 g s0 v f k q = (f_X3_settleHours_v4 g s0 v f k q) from (if_pos c35)]) rfl rfl K53
    · refine j_aload_n C dX3_settleHours_38 0 rfl ?_
      refine j_dup C dX3_settleHours_39 rfl ?_
      refine j_get C kin3 rfl 2 rfl 3 (by decide) kw_80 rfl (v := .int (w2 3)) rfl dX3_settleHours_40 ?_
      refine j_aload_n C dX3_settleHours_43 0 rfl ?_
      refine j_get C kin3 rfl 2 rfl 0 (by decide) kw_74 rfl (v := .ref sa) rfl dX3_settleHours_44 ?_
      refine j_iconst (v := 0) C dX3_settleHours_47 (by decide) ?_
      refine j_iald C 3 rfl (vin_lit rfl) (v := s0 0) rfl dX3_settleHours_48 ?_
      refine j_iadd C dX3_settleHours_49 rfl ?_
      generalize hw3 : (w2 3) + (s0 0) = w3
      refine j_put C kin3 rfl 2 rfl 3 (by decide) kw_80 rfl tyX3 tyX3_ok nmX3 rfl rfl rfl (Nat.le_of_ble_eq_true rfl) ([oD b h v, aB G h w1, oS a sa da (upd w2 3 w3), aI G sa 7 s0]) rfl dX3_settleHours_50 ?_
      subst hw1 hw2 hw3; exact j_eq (by rw [show f_X3_settleHours_v5 g s0 v f k q = upd (f_X3_settleHours_v4 g s0 v f k q) 3 (((f_X3_settleHours_v4 g s0 v f k q) 3) + (s0 0)) from (if_neg c35)]) rfl rfl K53
  refine j_icmp_ne (tgt := 34) C dX3_settleHours_8 (by decide) (fun c8 => ?_) (fun c8 => ?_)
  · exact j_eq (by rw [show f_X3_settleHours_v3 g s0 v f k q = f from (if_neg c8), show f_X3_settleHours_v4 g s0 v f k q = g from (if_neg c8)]) rfl rfl K34
  · refine j_aload_n C dX3_settleHours_11 1 rfl ?_
    refine j_iload_n C dX3_settleHours_12 2 rfl ?_
    refine j_iconst (v := 1) C dX3_settleHours_13 (by decide) ?_
    refine j_isub C dX3_settleHours_14 rfl ?_
    refine j_iconst (v := 2) C dX3_settleHours_15 (by decide) ?_
    refine j_callV_v (wc' := [oD b h v, aB G h (f_X0_markHour_f v f (k - 1) 2)]) C (m_X0_markHour l G b h v f (k - 1) 2) rfl 0 rfl 2 (gV kw_190 kw_191 kw_192 kw_4 kw_193) (by decide +kernel) ⟨(Nat.le_of_ble_eq_true rfl), (Nat.le_of_ble_eq_true rfl)⟩ rfl rfl (Nat.le_of_ble_eq_true rfl) dX3_settleHours_16 ⟨(Nat.le_of_ble_eq_true rfl), (Nat.le_of_ble_eq_true rfl)⟩ [oS a sa da g, aI G sa 7 s0] [oD b h v, aB G h (f_X0_markHour_f v f (k - 1) 2), oS a sa da g, aI G sa 7 s0] (perm_idx [0, 1, 2, 3] 4 rfl (by decide +kernel) rfl) rfl ?_
    refine j_aload_n C dX3_settleHours_19 0 rfl ?_
    refine j_dup C dX3_settleHours_20 rfl ?_
    refine j_get C kin3 rfl 2 rfl 5 (by decide) kw_84 rfl (v := .int (g 5)) rfl dX3_settleHours_21 ?_
    refine j_aload_n C dX3_settleHours_24 0 rfl ?_
    refine j_get C kin3 rfl 2 rfl 0 (by decide) kw_74 rfl (v := .ref sa) rfl dX3_settleHours_25 ?_
    refine j_iconst (v := 2) C dX3_settleHours_28 (by decide) ?_
    refine j_iald C 3 rfl (vin_lit rfl) (v := s0 2) rfl dX3_settleHours_29 ?_
    refine j_iadd C dX3_settleHours_30 rfl ?_
    generalize hw0 : (g 5) + (s0 2) = w0
    refine j_put C kin3 rfl 2 rfl 5 (by decide) kw_84 rfl tyX3 tyX3_ok nmX3 rfl rfl rfl (Nat.le_of_ble_eq_true rfl) ([oD b h v, aB G h (f_X0_markHour_f v f (k - 1) 2), oS a sa da (upd g 5 w0), aI G sa 7 s0]) rfl dX3_settleHours_31 ?_
    subst hw0; exact j_eq (by rw [show f_X3_settleHours_v3 g s0 v f k q = f_X0_markHour_f v f (k - 1) 2 from (if_pos c8), show f_X3_settleHours_v4 g s0 v f k q = upd g 5 ((g 5) + (s0 2)) from (if_pos c8)]) rfl rfl K34
noncomputable def f_X3_chargeOverrun_v2 (g : Nat → Int32) (s0 : Nat → Int32) (v : DO) (f : Nat → Int8) (k : Int32) : (Nat → Int32) := (if g 5 ≤ 0 then upd g 4 ((g 4) + (s0 1)) else upd (upd g 5 ((g 5) - 1)) 6 ((g 6) + 1))
noncomputable def f_X3_chargeOverrun_g (g : Nat → Int32) (s0 : Nat → Int32) (v : DO) (f : Nat → Int8) (k : Int32) : (Nat → Int32) := (f_X3_chargeOverrun_v2 g s0 v f k)
noncomputable def f_X3_chargeOverrun_v (g : Nat → Int32) (s0 : Nat → Int32) (v : DO) (f : Nat → Int8) (k : Int32) : DO := (upd v.1 7 ((v.1 7) + 1), v.2)
noncomputable def f_X3_chargeOverrun_f (g : Nat → Int32) (s0 : Nat → Int32) (v : DO) (f : Nat → Int8) (k : Int32) : (Nat → Int8) := f_X0_markHour_f (upd v.1 7 ((v.1 7) + 1), v.2) f k 3
set_option maxRecDepth 100000 in
set_option maxHeartbeats 4000000 in
theorem m_X3_chargeOverrun (l : Launch) (G : GG) (a b sa da h : Nat) (g : Nat → Int32) (s0 : Nat → Int32) (v : DO) (f : Nat → Int8) (k : Int32)  : CtV l yX3_chargeOverrun cX3_chargeOverrun 3 (none : Option Jvm.ClassFile.FieldType) (RM 2) G [.ref a, .ref b, .int k] ([oS a sa da g, aI G sa 7 s0, oD b h v, aB G h f]) ([oS a sa da (f_X3_chargeOverrun_g g s0 v f k), aI G sa 7 s0, oD b h (f_X3_chargeOverrun_v g s0 v f k), aB G h (f_X3_chargeOverrun_f g s0 v f k)]) := by
  refine ct_V RX3 [(0, .ref a), (1, .ref b), (2, .int k)] rfl (by decide +kernel) (Nat.le_of_ble_eq_true rfl) rfl ?_
  intro p e s m args below meth c A C hr hk hnm
  generalize hQ : (MQ below (PostV G A ([oS a sa da (f_X3_chargeOverrun_g g s0 v f k), aI G sa 7 s0, oD b h (f_X3_chargeOverrun_v g s0 v f k), aB G h (f_X3_chargeOverrun_f g s0 v f k)])) args s (RM 2).cells (RM 2).slots A) = Q
  refine j_aload_n C dX3_chargeOverrun_0 1 rfl ?_
  refine j_dup C dX3_chargeOverrun_1 rfl ?_
  refine j_get C kin0 rfl 2 rfl 7 (by decide) kw_50 rfl (v := .int (v.1 7)) rfl dX3_chargeOverrun_2 ?_
  refine j_iconst (v := 1) C dX3_chargeOverrun_5 (by decide) ?_
  refine j_iadd C dX3_chargeOverrun_6 rfl ?_
  generalize hw0 : (v.1 7) + 1 = w0
  refine j_put C kin0 rfl 2 rfl 7 (by decide) kw_50 rfl tyX0 tyX0_ok nmX0 rfl rfl rfl (Nat.le_of_ble_eq_true rfl) ([oS a sa da g, aI G sa 7 s0, oD b h (upd v.1 7 w0, v.2), aB G h f]) rfl dX3_chargeOverrun_7 ?_
  refine j_aload_n C dX3_chargeOverrun_10 1 rfl ?_
  refine j_iload_n C dX3_chargeOverrun_11 2 rfl ?_
  refine j_iconst (v := 3) C dX3_chargeOverrun_12 (by decide) ?_
  refine j_callV_v (wc' := [oD b h (upd v.1 7 w0, v.2), aB G h (f_X0_markHour_f (upd v.1 7 w0, v.2) f k 3)]) C (m_X0_markHour l G b h (upd v.1 7 w0, v.2) f k 3) rfl 0 rfl 2 (gV kw_190 kw_191 kw_192 kw_4 kw_193) (by decide +kernel) ⟨(Nat.le_of_ble_eq_true rfl), (Nat.le_of_ble_eq_true rfl)⟩ rfl rfl (Nat.le_of_ble_eq_true rfl) dX3_chargeOverrun_13 ⟨(Nat.le_of_ble_eq_true rfl), (Nat.le_of_ble_eq_true rfl)⟩ [oS a sa da g, aI G sa 7 s0] [oD b h (upd v.1 7 w0, v.2), aB G h (f_X0_markHour_f (upd v.1 7 w0, v.2) f k 3), oS a sa da g, aI G sa 7 s0] (perm_idx [2, 3, 0, 1] 4 rfl (by decide +kernel) rfl) rfl ?_
  refine j_aload_n C dX3_chargeOverrun_16 0 rfl ?_
  refine j_get C kin3 rfl 2 rfl 5 (by decide) kw_84 rfl (v := .int (g 5)) rfl dX3_chargeOverrun_17 ?_
  have K61 : WJ p l e (RM 2) s m args below meth c G A 3 0 0 Q ([oD b h (upd v.1 7 w0, v.2), aB G h (f_X0_markHour_f (upd v.1 7 w0, v.2) f k 3), oS a sa da (f_X3_chargeOverrun_v2 g s0 v f k), aI G sa 7 s0]) [(0, .ref a), (1, .ref b), (2, .int k)] 61 [] := by
    generalize hw4 : f_X3_chargeOverrun_v2 g s0 v f k = w4
    refine j_perm ([oS a sa da w4, aI G sa 7 s0, oD b h (upd v.1 7 w0, v.2), aB G h (f_X0_markHour_f (upd v.1 7 w0, v.2) f k 3)]) (perm_idx [2, 3, 0, 1] 4 rfl (by decide +kernel) rfl) ?_
    subst hQ; subst hw0 hw4; exact j_vret C hr hk (by rw [show f_X3_chargeOverrun_g g s0 v f k = (f_X3_chargeOverrun_v2 g s0 v f k) from rfl, show f_X3_chargeOverrun_v g s0 v f k = (upd v.1 7 ((v.1 7) + 1), v.2) from rfl, show f_X3_chargeOverrun_f g s0 v f k = f_X0_markHour_f (upd v.1 7 ((v.1 7) + 1), v.2) f k 3 from rfl]) dX3_chargeOverrun_61
  refine j_if_le (tgt := 46) C dX3_chargeOverrun_20 (by decide) (fun c20 => ?_) (fun c20 => ?_)
  · refine j_aload_n C dX3_chargeOverrun_46 0 rfl ?_
    refine j_dup C dX3_chargeOverrun_47 rfl ?_
    refine j_get C kin3 rfl 2 rfl 4 (by decide) kw_82 rfl (v := .int (g 4)) rfl dX3_chargeOverrun_48 ?_
    refine j_aload_n C dX3_chargeOverrun_51 0 rfl ?_
    refine j_get C kin3 rfl 2 rfl 0 (by decide) kw_74 rfl (v := .ref sa) rfl dX3_chargeOverrun_52 ?_
    refine j_iconst (v := 1) C dX3_chargeOverrun_55 (by decide) ?_
    refine j_iald C 3 rfl (vin_lit rfl) (v := s0 1) rfl dX3_chargeOverrun_56 ?_
    refine j_iadd C dX3_chargeOverrun_57 rfl ?_
    generalize hw1 : (g 4) + (s0 1) = w1
    refine j_put C kin3 rfl 2 rfl 4 (by decide) kw_82 rfl tyX3 tyX3_ok nmX3 rfl rfl rfl (Nat.le_of_ble_eq_true rfl) ([oD b h (upd v.1 7 w0, v.2), aB G h (f_X0_markHour_f (upd v.1 7 w0, v.2) f k 3), oS a sa da (upd g 4 w1), aI G sa 7 s0]) rfl dX3_chargeOverrun_58 ?_
    subst hw0 hw1; exact j_eq (by rw [show f_X3_chargeOverrun_v2 g s0 v f k = upd g 4 ((g 4) + (s0 1)) from (if_pos c20)]) rfl rfl K61
  · refine j_aload_n C dX3_chargeOverrun_23 0 rfl ?_
    refine j_dup C dX3_chargeOverrun_24 rfl ?_
    refine j_get C kin3 rfl 2 rfl 5 (by decide) kw_84 rfl (v := .int (g 5)) rfl dX3_chargeOverrun_25 ?_
    refine j_iconst (v := 1) C dX3_chargeOverrun_28 (by decide) ?_
    refine j_isub C dX3_chargeOverrun_29 rfl ?_
    generalize hw2 : (g 5) - 1 = w2
    refine j_put C kin3 rfl 2 rfl 5 (by decide) kw_84 rfl tyX3 tyX3_ok nmX3 rfl rfl rfl (Nat.le_of_ble_eq_true rfl) ([oD b h (upd v.1 7 w0, v.2), aB G h (f_X0_markHour_f (upd v.1 7 w0, v.2) f k 3), oS a sa da (upd g 5 w2), aI G sa 7 s0]) rfl dX3_chargeOverrun_30 ?_
    refine j_aload_n C dX3_chargeOverrun_33 0 rfl ?_
    refine j_dup C dX3_chargeOverrun_34 rfl ?_
    refine j_get C kin3 rfl 2 rfl 6 (by decide) kw_86 rfl (v := .int (g 6)) rfl dX3_chargeOverrun_35 ?_
    refine j_iconst (v := 1) C dX3_chargeOverrun_38 (by decide) ?_
    refine j_iadd C dX3_chargeOverrun_39 rfl ?_
    generalize hw3 : (g 6) + 1 = w3
    refine j_put C kin3 rfl 2 rfl 6 (by decide) kw_86 rfl tyX3 tyX3_ok nmX3 rfl rfl rfl (Nat.le_of_ble_eq_true rfl) ([oD b h (upd v.1 7 w0, v.2), aB G h (f_X0_markHour_f (upd v.1 7 w0, v.2) f k 3), oS a sa da (upd (upd g 5 w2) 6 w3), aI G sa 7 s0]) rfl dX3_chargeOverrun_40 ?_
    refine j_goto (tgt := 61) C dX3_chargeOverrun_43 (by decide) ?_
    subst hw0 hw2 hw3; exact j_eq (by rw [show f_X3_chargeOverrun_v2 g s0 v f k = upd (upd g 5 ((g 5) - 1)) 6 ((g 6) + 1) from (if_neg c20)]) rfl rfl K61
noncomputable def f_X3_cleanUp_x1 (g : Nat → Int32) (s0 : Nat → Int32) (v : DO) (q : Int32) : Int32 := (if q = 0 then (if b01 (v.1 4) = 0 then (if s0 3 ≤ v.1 0 then 0 else 1) else 1) else (if v.1 3 ≤ s0 6 then 0 else 1))
noncomputable def f_X3_cleanUp_x2 (g : Nat → Int32) (s0 : Nat → Int32) (v : DO) (q : Int32) : Int32 := (if (f_X3_cleanUp_x1 g s0 v q) = 0 then 0 else (if v.1 1 ≤ 0 then 0 else 1))
noncomputable def f_X3_cleanUp_v4 (g : Nat → Int32) (s0 : Nat → Int32) (v : DO) (q : Int32) : DO := (if (f_X3_cleanUp_x2 g s0 v q) = 0 then v else f_X0_cleanCells_v v (imin (s0 5) (v.1 1)))
noncomputable def f_X3_cleanUp_x5 (g : Nat → Int32) (s0 : Nat → Int32) (v : DO) (q : Int32) : Int32 := (if (f_X3_cleanUp_x2 g s0 v q) = 0 then 0 else (if q = 0 then (if s0 4 ≤ (f_X3_cleanUp_v4 g s0 v q).1 0 then 0 else (if (f_X3_cleanUp_v4 g s0 v q).1 1 ≤ 0 then 0 else 1)) else 0))
noncomputable def f_X3_cleanUp_v (g : Nat → Int32) (s0 : Nat → Int32) (v : DO) (q : Int32) : DO := (upd (f_X3_cleanUp_v4 g s0 v q).1 4 (f_X3_cleanUp_x5 g s0 v q), (f_X3_cleanUp_v4 g s0 v q).2)
noncomputable def f_X3_cleanUp_r (g : Nat → Int32) (s0 : Nat → Int32) (v : DO) (q : Int32) : Int32 := (f_X3_cleanUp_x2 g s0 v q)
set_option maxRecDepth 100000 in
set_option maxHeartbeats 4000000 in
theorem m_X3_cleanUp (l : Launch) (G : GG) (a b sa da h : Nat) (g : Nat → Int32) (s0 : Nat → Int32) (v : DO) (q : Int32)  : CtI l yX3_cleanUp cX3_cleanUp 5 (some .boolean) (RM 1) G [.ref a, .ref b, .int q] ([oS a sa da g, aI G sa 7 s0, oD b h v]) (f_X3_cleanUp_r g s0 v q) ([oS a sa da g, aI G sa 7 s0, oD b h (f_X3_cleanUp_v g s0 v q)]) := by
  refine ct_I RX3 [(0, .ref a), (1, .ref b), (2, .int q)] rfl (by decide +kernel) (Nat.le_of_ble_eq_true rfl) rfl ?_
  intro p e s m args below meth c A C hr hk hnm
  generalize hQ : (MQ below (PostI G A (f_X3_cleanUp_r g s0 v q) ([oS a sa da g, aI G sa 7 s0, oD b h (f_X3_cleanUp_v g s0 v q)])) args s (RM 1).cells (RM 1).slots A) = Q
  refine j_iload_n C dX3_cleanUp_0 2 rfl ?_
  have K51 : WJ p l e (RM 1) s m args below meth c G A 5 0 0 Q ([oS a sa da g, aI G sa 7 s0, oD b h v]) [(0, .ref a), (1, .ref b), (2, .int q)] 51 [.int (f_X3_cleanUp_x1 g s0 v q)] := by
    generalize hw0 : f_X3_cleanUp_x1 g s0 v q = w0
    refine j_istore_n C [(3, .int w0), (0, .ref a), (1, .ref b), (2, .int q)] dX3_cleanUp_51 (by decide) rfl ?_
    refine j_iload_n C dX3_cleanUp_52 0 rfl ?_
    have K68 : WJ p l e (RM 1) s m args below meth c G A 5 0 0 Q ([oS a sa da g, aI G sa 7 s0, oD b h v]) [(3, .int w0), (0, .ref a), (1, .ref b), (2, .int q)] 68 [.int (f_X3_cleanUp_x2 g s0 v q)] := by
      generalize hw1 : f_X3_cleanUp_x2 g s0 v q = w1
      refine j_istore C [(4, .int w1), (3, .int w0), (0, .ref a), (1, .ref b), (2, .int q)] dX3_cleanUp_68 (by decide) rfl ?_
      refine j_iload C dX3_cleanUp_70 0 rfl ?_
      have K92 : WJ p l e (RM 1) s m args below meth c G A 5 0 0 Q ([oS a sa da g, aI G sa 7 s0, oD b h (f_X3_cleanUp_v4 g s0 v q)]) [(4, .int w1), (3, .int w0), (0, .ref a), (1, .ref b), (2, .int q)] 92 [] := by
        generalize hw2 : f_X3_cleanUp_v4 g s0 v q = w2
        refine j_aload_n C dX3_cleanUp_92 3 rfl ?_
        refine j_iload C dX3_cleanUp_93 0 rfl ?_
        have K127 : WJ p l e (RM 1) s m args below meth c G A 5 0 0 Q ([oS a sa da g, aI G sa 7 s0, oD b h w2]) [(4, .int w1), (3, .int w0), (0, .ref a), (1, .ref b), (2, .int q)] 127 [.int (f_X3_cleanUp_x5 g s0 v q), .ref b] := by
          generalize hw3 : f_X3_cleanUp_x5 g s0 v q = w3
          refine j_top01 (by subst hw0 hw1 hw2 hw3; exact b01_of (by unfold f_X3_cleanUp_x5; (repeat' split) <;> decide)) ?_
          refine j_put C kin0 rfl 2 rfl 4 (by decide) kw_43 rfl tyX0 tyX0_ok nmX0 rfl (nar_b01 _) (fit_b01 _) (Nat.le_of_ble_eq_true rfl) ([oS a sa da g, aI G sa 7 s0, oD b h (upd w2.1 4 w3, w2.2)]) rfl dX3_cleanUp_127 ?_
          refine j_iload C dX3_cleanUp_130 0 rfl ?_
          subst hQ; subst hw0 hw1 hw2 hw3; exact j_zret C hr hk (by unfold f_X3_cleanUp_x2; (repeat' split) <;> rfl) ((show f_X3_cleanUp_r g s0 v q = (f_X3_cleanUp_x2 g s0 v q) from rfl).symm) (by rw [show f_X3_cleanUp_v g s0 v q = (upd (f_X3_cleanUp_v4 g s0 v q).1 4 (f_X3_cleanUp_x5 g s0 v q), (f_X3_cleanUp_v4 g s0 v q).2) from rfl]) dX3_cleanUp_132
        refine j_if_eq (tgt := 126) C dX3_cleanUp_95 (by decide) (fun c95 => ?_) (fun c95 => ?_)
        · refine j_iconst (v := 0) C dX3_cleanUp_126 (by decide) ?_
          subst hw0 hw1 hw2; exact j_eq rfl rfl (by rw [show f_X3_cleanUp_x5 g s0 v q = 0 from (if_pos c95)]) K127
        · refine j_iload_n C dX3_cleanUp_98 4 rfl ?_
          refine j_if_ne (tgt := 126) C dX3_cleanUp_99 (by decide) (fun c99 => ?_) (fun c99 => ?_)
          · refine j_iconst (v := 0) C dX3_cleanUp_126 (by decide) ?_
            subst hw0 hw1 hw2; exact j_eq rfl rfl (by rw [show f_X3_cleanUp_x5 g s0 v q = 0 from ((if_neg c95).trans (if_neg c99))]) K127
          · refine j_aload_n C dX3_cleanUp_102 3 rfl ?_
            refine j_get C kin0 rfl 2 rfl 0 (by decide) kw_32 rfl (v := .int (w2.1 0)) rfl dX3_cleanUp_103 ?_
            refine j_aload_n C dX3_cleanUp_106 2 rfl ?_
            refine j_get C kin3 rfl 0 rfl 0 (by decide) kw_74 rfl (v := .ref sa) rfl dX3_cleanUp_107 ?_
            refine j_iconst (v := 4) C dX3_cleanUp_110 (by decide) ?_
            refine j_iald C 1 rfl (vin_lit rfl) (v := s0 4) rfl dX3_cleanUp_111 ?_
            refine j_icmp_ge (tgt := 126) C dX3_cleanUp_112 (by decide) (fun c112 => ?_) (fun c112 => ?_)
            · refine j_iconst (v := 0) C dX3_cleanUp_126 (by decide) ?_
              subst hw0 hw1 hw2; exact j_eq rfl rfl (by rw [show f_X3_cleanUp_x5 g s0 v q = 0 from ((if_neg c95).trans ((if_pos c99).trans (if_pos c112)))]) K127
            · refine j_aload_n C dX3_cleanUp_115 3 rfl ?_
              refine j_get C kin0 rfl 2 rfl 1 (by decide) kw_35 rfl (v := .int (w2.1 1)) rfl dX3_cleanUp_116 ?_
              refine j_if_le (tgt := 126) C dX3_cleanUp_119 (by decide) (fun c119 => ?_) (fun c119 => ?_)
              · refine j_iconst (v := 0) C dX3_cleanUp_126 (by decide) ?_
                subst hw0 hw1 hw2; exact j_eq rfl rfl (by rw [show f_X3_cleanUp_x5 g s0 v q = 0 from ((if_neg c95).trans ((if_pos c99).trans ((if_neg c112).trans (if_pos c119))))]) K127
              · refine j_iconst (v := 1) C dX3_cleanUp_122 (by decide) ?_
                refine j_goto (tgt := 127) C dX3_cleanUp_123 (by decide) ?_
                subst hw0 hw1 hw2; exact j_eq rfl rfl (by rw [show f_X3_cleanUp_x5 g s0 v q = 1 from ((if_neg c95).trans ((if_pos c99).trans ((if_neg c112).trans (if_neg c119))))]) K127
      refine j_if_eq (tgt := 92) C dX3_cleanUp_72 (by decide) (fun c72 => ?_) (fun c72 => ?_)
      · subst hw0 hw1; exact j_eq (by rw [show f_X3_cleanUp_v4 g s0 v q = v from (if_pos c72)]) rfl rfl K92
      · refine j_aload_n C dX3_cleanUp_75 3 rfl ?_
        refine j_aload_n C dX3_cleanUp_76 2 rfl ?_
        refine j_get C kin3 rfl 0 rfl 0 (by decide) kw_74 rfl (v := .ref sa) rfl dX3_cleanUp_77 ?_
        refine j_iconst (v := 5) C dX3_cleanUp_80 (by decide) ?_
        refine j_iald C 1 rfl (vin_lit rfl) (v := s0 5) rfl dX3_cleanUp_81 ?_
        refine j_aload_n C dX3_cleanUp_82 3 rfl ?_
        refine j_get C kin0 rfl 2 rfl 1 (by decide) kw_35 rfl (v := .int (v.1 1)) rfl dX3_cleanUp_83 ?_
        refine j_mmin C kw_219 (Nat.le_of_ble_eq_true rfl) (Nat.le_of_ble_eq_true rfl) ⟨(Nat.le_of_ble_eq_true rfl), (Nat.le_of_ble_eq_true rfl)⟩ dX3_cleanUp_86 (v := imin (s0 5) (v.1 1)) (imin_eq _ _).symm ?_
        refine j_callV_v (wc' := [oD b h (f_X0_cleanCells_v v (imin (s0 5) (v.1 1)))]) C (m_X0_cleanCells l G b h v (imin (s0 5) (v.1 1))) rfl 0 rfl 1 (gV kw_220 kw_221 kw_222 kw_4 kw_223) (by decide +kernel) ⟨(Nat.le_of_ble_eq_true rfl), (Nat.le_of_ble_eq_true rfl)⟩ rfl rfl (Nat.le_of_ble_eq_true rfl) dX3_cleanUp_89 ⟨(Nat.le_of_ble_eq_true rfl), (Nat.le_of_ble_eq_true rfl)⟩ [oS a sa da g, aI G sa 7 s0] [oD b h (f_X0_cleanCells_v v (imin (s0 5) (v.1 1))), oS a sa da g, aI G sa 7 s0] (perm_idx [2, 0, 1] 3 rfl (by decide +kernel) rfl) rfl ?_
        refine j_perm ([oS a sa da g, aI G sa 7 s0, oD b h (f_X0_cleanCells_v v (imin (s0 5) (v.1 1)))]) (perm_idx [1, 2, 0] 3 rfl (by decide +kernel) rfl) ?_
        subst hw0 hw1; exact j_eq (by rw [show f_X3_cleanUp_v4 g s0 v q = f_X0_cleanCells_v v (imin (s0 5) (v.1 1)) from (if_neg c72)]) rfl rfl K92
    refine j_if_eq (tgt := 67) C dX3_cleanUp_53 (by decide) (fun c53 => ?_) (fun c53 => ?_)
    · refine j_iconst (v := 0) C dX3_cleanUp_67 (by decide) ?_
      subst hw0; exact j_eq rfl rfl (by rw [show f_X3_cleanUp_x2 g s0 v q = 0 from (if_pos c53)]) K68
    · refine j_aload_n C dX3_cleanUp_56 2 rfl ?_
      refine j_get C kin0 rfl 2 rfl 1 (by decide) kw_35 rfl (v := .int (v.1 1)) rfl dX3_cleanUp_57 ?_
      refine j_if_le (tgt := 67) C dX3_cleanUp_60 (by decide) (fun c60 => ?_) (fun c60 => ?_)
      · refine j_iconst (v := 0) C dX3_cleanUp_67 (by decide) ?_
        subst hw0; exact j_eq rfl rfl (by rw [show f_X3_cleanUp_x2 g s0 v q = 0 from ((if_neg c53).trans (if_pos c60))]) K68
      · refine j_iconst (v := 1) C dX3_cleanUp_63 (by decide) ?_
        refine j_goto (tgt := 68) C dX3_cleanUp_64 (by decide) ?_
        subst hw0; exact j_eq rfl rfl (by rw [show f_X3_cleanUp_x2 g s0 v q = 1 from ((if_neg c53).trans (if_neg c60))]) K68
  refine j_if_eq (tgt := 26) C dX3_cleanUp_1 (by decide) (fun c1 => ?_) (fun c1 => ?_)
  · refine j_aload_n C dX3_cleanUp_26 1 rfl ?_
    refine j_get C kin0 rfl 2 rfl 4 (by decide) kw_43 rfl (v := .int (b01 (v.1 4))) rfl dX3_cleanUp_27 ?_
    refine j_if_ne (tgt := 46) C dX3_cleanUp_30 (by decide) (fun c30 => ?_) (fun c30 => ?_)
    · refine j_iconst (v := 1) C dX3_cleanUp_46 (by decide) ?_
      refine j_goto (tgt := 51) C dX3_cleanUp_47 (by decide) ?_
      exact j_eq rfl rfl (by rw [show f_X3_cleanUp_x1 g s0 v q = 1 from ((if_pos c1).trans (if_neg c30))]) K51
    · refine j_aload_n C dX3_cleanUp_33 1 rfl ?_
      refine j_get C kin0 rfl 2 rfl 0 (by decide) kw_32 rfl (v := .int (v.1 0)) rfl dX3_cleanUp_34 ?_
      refine j_aload_n C dX3_cleanUp_37 0 rfl ?_
      refine j_get C kin3 rfl 0 rfl 0 (by decide) kw_74 rfl (v := .ref sa) rfl dX3_cleanUp_38 ?_
      refine j_iconst (v := 3) C dX3_cleanUp_41 (by decide) ?_
      refine j_iald C 1 rfl (vin_lit rfl) (v := s0 3) rfl dX3_cleanUp_42 ?_
      refine j_icmp_ge (tgt := 50) C dX3_cleanUp_43 (by decide) (fun c43 => ?_) (fun c43 => ?_)
      · refine j_iconst (v := 0) C dX3_cleanUp_50 (by decide) ?_
        exact j_eq rfl rfl (by rw [show f_X3_cleanUp_x1 g s0 v q = 0 from ((if_pos c1).trans ((if_pos c30).trans (if_pos c43)))]) K51
      · refine j_iconst (v := 1) C dX3_cleanUp_46 (by decide) ?_
        refine j_goto (tgt := 51) C dX3_cleanUp_47 (by decide) ?_
        exact j_eq rfl rfl (by rw [show f_X3_cleanUp_x1 g s0 v q = 1 from ((if_pos c1).trans ((if_pos c30).trans (if_neg c43)))]) K51
  · refine j_aload_n C dX3_cleanUp_4 1 rfl ?_
    refine j_get C kin0 rfl 2 rfl 3 (by decide) kw_39 rfl (v := .int (v.1 3)) rfl dX3_cleanUp_5 ?_
    refine j_aload_n C dX3_cleanUp_8 0 rfl ?_
    refine j_get C kin3 rfl 0 rfl 0 (by decide) kw_74 rfl (v := .ref sa) rfl dX3_cleanUp_9 ?_
    refine j_bipush (v := 6) C dX3_cleanUp_12 (by decide) ?_
    refine j_iald C 1 rfl (vin_lit rfl) (v := s0 6) rfl dX3_cleanUp_14 ?_
    refine j_icmp_le (tgt := 22) C dX3_cleanUp_15 (by decide) (fun c15 => ?_) (fun c15 => ?_)
    · refine j_iconst (v := 0) C dX3_cleanUp_22 (by decide) ?_
      refine j_goto (tgt := 51) C dX3_cleanUp_23 (by decide) ?_
      exact j_eq rfl rfl (by rw [show f_X3_cleanUp_x1 g s0 v q = 0 from ((if_neg c1).trans (if_pos c15))]) K51
    · refine j_iconst (v := 1) C dX3_cleanUp_18 (by decide) ?_
      refine j_goto (tgt := 51) C dX3_cleanUp_19 (by decide) ?_
      exact j_eq rfl rfl (by rw [show f_X3_cleanUp_x1 g s0 v q = 1 from ((if_neg c1).trans (if_neg c15))]) K51
theorem f_X3_passMinuteOf_gq3_ex : ∃ F : (Nat → Int32) → (Nat → Int32) → DO → (Nat → Int8) → DO → (Nat → Int8) → (Nat → Int32), ∀ (g : Nat → Int32) (s0 : Nat → Int32) (v : DO) (f : Nat → Int8) (tv : DO) (tf : Nat → Int8), F g s0 v f tv tf = f_X3_settleHours_g g s0 v f (f_X3_hourOfNow_r g) (f_X0_isQuietIn_r v f (f_X3_hourOfNow_r g)) := ⟨fun g s0 v f tv tf => f_X3_settleHours_g g s0 v f (f_X3_hourOfNow_r g) (f_X0_isQuietIn_r v f (f_X3_hourOfNow_r g)), fun _ _ _ _ _ _ => rfl⟩
noncomputable def f_X3_passMinuteOf_gq3 : (Nat → Int32) → (Nat → Int32) → DO → (Nat → Int8) → DO → (Nat → Int8) → (Nat → Int32) := Classical.choose f_X3_passMinuteOf_gq3_ex
theorem f_X3_passMinuteOf_gq3_eq (g : Nat → Int32) (s0 : Nat → Int32) (v : DO) (f : Nat → Int8) (tv : DO) (tf : Nat → Int8) : f_X3_passMinuteOf_gq3 g s0 v f tv tf = f_X3_settleHours_g g s0 v f (f_X3_hourOfNow_r g) (f_X0_isQuietIn_r v f (f_X3_hourOfNow_r g)) := Classical.choose_spec f_X3_passMinuteOf_gq3_ex g s0 v f tv tf
theorem f_X3_passMinuteOf_fq3_ex : ∃ F : (Nat → Int32) → (Nat → Int32) → DO → (Nat → Int8) → DO → (Nat → Int8) → (Nat → Int8), ∀ (g : Nat → Int32) (s0 : Nat → Int32) (v : DO) (f : Nat → Int8) (tv : DO) (tf : Nat → Int8), F g s0 v f tv tf = f_X3_settleHours_f g s0 v f (f_X3_hourOfNow_r g) (f_X0_isQuietIn_r v f (f_X3_hourOfNow_r g)) := ⟨fun g s0 v f tv tf => f_X3_settleHours_f g s0 v f (f_X3_hourOfNow_r g) (f_X0_isQuietIn_r v f (f_X3_hourOfNow_r g)), fun _ _ _ _ _ _ => rfl⟩
noncomputable def f_X3_passMinuteOf_fq3 : (Nat → Int32) → (Nat → Int32) → DO → (Nat → Int8) → DO → (Nat → Int8) → (Nat → Int8) := Classical.choose f_X3_passMinuteOf_fq3_ex
theorem f_X3_passMinuteOf_fq3_eq (g : Nat → Int32) (s0 : Nat → Int32) (v : DO) (f : Nat → Int8) (tv : DO) (tf : Nat → Int8) : f_X3_passMinuteOf_fq3 g s0 v f tv tf = f_X3_settleHours_f g s0 v f (f_X3_hourOfNow_r g) (f_X0_isQuietIn_r v f (f_X3_hourOfNow_r g)) := Classical.choose_spec f_X3_passMinuteOf_fq3_ex g s0 v f tv tf
theorem f_X3_passMinuteOf_v4_ex : ∃ F : (Nat → Int32) → (Nat → Int32) → DO → (Nat → Int8) → DO → (Nat → Int8) → (Nat → Int32), ∀ (g : Nat → Int32) (s0 : Nat → Int32) (v : DO) (f : Nat → Int8) (tv : DO) (tf : Nat → Int8), F g s0 v f tv tf = (if (g 2) - (g 2) / 60 * 60 = 0 then (f_X3_passMinuteOf_gq3 g s0 v f tv tf) else g) := ⟨fun g s0 v f tv tf => (if (g 2) - (g 2) / 60 * 60 = 0 then (f_X3_passMinuteOf_gq3 g s0 v f tv tf) else g), fun _ _ _ _ _ _ => rfl⟩
noncomputable def f_X3_passMinuteOf_v4 : (Nat → Int32) → (Nat → Int32) → DO → (Nat → Int8) → DO → (Nat → Int8) → (Nat → Int32) := Classical.choose f_X3_passMinuteOf_v4_ex
theorem f_X3_passMinuteOf_v4_eq (g : Nat → Int32) (s0 : Nat → Int32) (v : DO) (f : Nat → Int8) (tv : DO) (tf : Nat → Int8) : f_X3_passMinuteOf_v4 g s0 v f tv tf = (if (g 2) - (g 2) / 60 * 60 = 0 then (f_X3_passMinuteOf_gq3 g s0 v f tv tf) else g) := Classical.choose_spec f_X3_passMinuteOf_v4_ex g s0 v f tv tf
theorem f_X3_passMinuteOf_v5_ex : ∃ F : (Nat → Int32) → (Nat → Int32) → DO → (Nat → Int8) → DO → (Nat → Int8) → (Nat → Int8), ∀ (g : Nat → Int32) (s0 : Nat → Int32) (v : DO) (f : Nat → Int8) (tv : DO) (tf : Nat → Int8), F g s0 v f tv tf = (if (g 2) - (g 2) / 60 * 60 = 0 then (f_X3_passMinuteOf_fq3 g s0 v f tv tf) else f) := ⟨fun g s0 v f tv tf => (if (g 2) - (g 2) / 60 * 60 = 0 then (f_X3_passMinuteOf_fq3 g s0 v f tv tf) else f), fun _ _ _ _ _ _ => rfl⟩
noncomputable def f_X3_passMinuteOf_v5 : (Nat → Int32) → (Nat → Int32) → DO → (Nat → Int8) → DO → (Nat → Int8) → (Nat → Int8) := Classical.choose f_X3_passMinuteOf_v5_ex
theorem f_X3_passMinuteOf_v5_eq (g : Nat → Int32) (s0 : Nat → Int32) (v : DO) (f : Nat → Int8) (tv : DO) (tf : Nat → Int8) : f_X3_passMinuteOf_v5 g s0 v f tv tf = (if (g 2) - (g 2) / 60 * 60 = 0 then (f_X3_passMinuteOf_fq3 g s0 v f tv tf) else f) := Classical.choose_spec f_X3_passMinuteOf_v5_ex g s0 v f tv tf
theorem f_X3_passMinuteOf_vq6_ex : ∃ F : (Nat → Int32) → (Nat → Int32) → DO → (Nat → Int8) → DO → (Nat → Int8) → DO, ∀ (g : Nat → Int32) (s0 : Nat → Int32) (v : DO) (f : Nat → Int8) (tv : DO) (tf : Nat → Int8), F g s0 v f tv tf = f_X0_takeStream_v v ((f_X3_passMinuteOf_v4 g s0 v f tv tf) 2) := ⟨fun g s0 v f tv tf => f_X0_takeStream_v v ((f_X3_passMinuteOf_v4 g s0 v f tv tf) 2), fun _ _ _ _ _ _ => rfl⟩
noncomputable def f_X3_passMinuteOf_vq6 : (Nat → Int32) → (Nat → Int32) → DO → (Nat → Int8) → DO → (Nat → Int8) → DO := Classical.choose f_X3_passMinuteOf_vq6_ex
theorem f_X3_passMinuteOf_vq6_eq (g : Nat → Int32) (s0 : Nat → Int32) (v : DO) (f : Nat → Int8) (tv : DO) (tf : Nat → Int8) : f_X3_passMinuteOf_vq6 g s0 v f tv tf = f_X0_takeStream_v v ((f_X3_passMinuteOf_v4 g s0 v f tv tf) 2) := Classical.choose_spec f_X3_passMinuteOf_vq6_ex g s0 v f tv tf
theorem f_X3_passMinuteOf_vq7_ex : ∃ F : (Nat → Int32) → (Nat → Int32) → DO → (Nat → Int8) → DO → (Nat → Int8) → DO, ∀ (g : Nat → Int32) (s0 : Nat → Int32) (v : DO) (f : Nat → Int8) (tv : DO) (tf : Nat → Int8), F g s0 v f tv tf = f_X0_takeBackFrom_v (f_X3_passMinuteOf_vq6 g s0 v f tv tf) tv := ⟨fun g s0 v f tv tf => f_X0_takeBackFrom_v (f_X3_passMinuteOf_vq6 g s0 v f tv tf) tv, fun _ _ _ _ _ _ => rfl⟩
noncomputable def f_X3_passMinuteOf_vq7 : (Nat → Int32) → (Nat → Int32) → DO → (Nat → Int8) → DO → (Nat → Int8) → DO := Classical.choose f_X3_passMinuteOf_vq7_ex
theorem f_X3_passMinuteOf_vq7_eq (g : Nat → Int32) (s0 : Nat → Int32) (v : DO) (f : Nat → Int8) (tv : DO) (tf : Nat → Int8) : f_X3_passMinuteOf_vq7 g s0 v f tv tf = f_X0_takeBackFrom_v (f_X3_passMinuteOf_vq6 g s0 v f tv tf) tv := Classical.choose_spec f_X3_passMinuteOf_vq7_ex g s0 v f tv tf
theorem f_X3_passMinuteOf_tq7_ex : ∃ F : (Nat → Int32) → (Nat → Int32) → DO → (Nat → Int8) → DO → (Nat → Int8) → DO, ∀ (g : Nat → Int32) (s0 : Nat → Int32) (v : DO) (f : Nat → Int8) (tv : DO) (tf : Nat → Int8), F g s0 v f tv tf = f_X0_takeBackFrom_t (f_X3_passMinuteOf_vq6 g s0 v f tv tf) tv := ⟨fun g s0 v f tv tf => f_X0_takeBackFrom_t (f_X3_passMinuteOf_vq6 g s0 v f tv tf) tv, fun _ _ _ _ _ _ => rfl⟩
noncomputable def f_X3_passMinuteOf_tq7 : (Nat → Int32) → (Nat → Int32) → DO → (Nat → Int8) → DO → (Nat → Int8) → DO := Classical.choose f_X3_passMinuteOf_tq7_ex
theorem f_X3_passMinuteOf_tq7_eq (g : Nat → Int32) (s0 : Nat → Int32) (v : DO) (f : Nat → Int8) (tv : DO) (tf : Nat → Int8) : f_X3_passMinuteOf_tq7 g s0 v f tv tf = f_X0_takeBackFrom_t (f_X3_passMinuteOf_vq6 g s0 v f tv tf) tv := Classical.choose_spec f_X3_passMinuteOf_tq7_ex g s0 v f tv tf
theorem f_X3_passMinuteOf_v8_ex : ∃ F : (Nat → Int32) → (Nat → Int32) → DO → (Nat → Int8) → DO → (Nat → Int8) → DO, ∀ (g : Nat → Int32) (s0 : Nat → Int32) (v : DO) (f : Nat → Int8) (tv : DO) (tf : Nat → Int8), F g s0 v f tv tf = (if f_X0_isQuietIn_r v f (f_X3_hourOfNow_r g) = 0 then (f_X3_passMinuteOf_vq7 g s0 v f tv tf) else (f_X3_passMinuteOf_vq6 g s0 v f tv tf)) := ⟨fun g s0 v f tv tf => (if f_X0_isQuietIn_r v f (f_X3_hourOfNow_r g) = 0 then (f_X3_passMinuteOf_vq7 g s0 v f tv tf) else (f_X3_passMinuteOf_vq6 g s0 v f tv tf)), fun _ _ _ _ _ _ => rfl⟩
noncomputable def f_X3_passMinuteOf_v8 : (Nat → Int32) → (Nat → Int32) → DO → (Nat → Int8) → DO → (Nat → Int8) → DO := Classical.choose f_X3_passMinuteOf_v8_ex
theorem f_X3_passMinuteOf_v8_eq (g : Nat → Int32) (s0 : Nat → Int32) (v : DO) (f : Nat → Int8) (tv : DO) (tf : Nat → Int8) : f_X3_passMinuteOf_v8 g s0 v f tv tf = (if f_X0_isQuietIn_r v f (f_X3_hourOfNow_r g) = 0 then (f_X3_passMinuteOf_vq7 g s0 v f tv tf) else (f_X3_passMinuteOf_vq6 g s0 v f tv tf)) := Classical.choose_spec f_X3_passMinuteOf_v8_ex g s0 v f tv tf
theorem f_X3_passMinuteOf_v9_ex : ∃ F : (Nat → Int32) → (Nat → Int32) → DO → (Nat → Int8) → DO → (Nat → Int8) → DO, ∀ (g : Nat → Int32) (s0 : Nat → Int32) (v : DO) (f : Nat → Int8) (tv : DO) (tf : Nat → Int8), F g s0 v f tv tf = (if f_X0_isQuietIn_r v f (f_X3_hourOfNow_r g) = 0 then (f_X3_passMinuteOf_tq7 g s0 v f tv tf) else tv) := ⟨fun g s0 v f tv tf => (if f_X0_isQuietIn_r v f (f_X3_hourOfNow_r g) = 0 then (f_X3_passMinuteOf_tq7 g s0 v f tv tf) else tv), fun _ _ _ _ _ _ => rfl⟩
noncomputable def f_X3_passMinuteOf_v9 : (Nat → Int32) → (Nat → Int32) → DO → (Nat → Int8) → DO → (Nat → Int8) → DO := Classical.choose f_X3_passMinuteOf_v9_ex
theorem f_X3_passMinuteOf_v9_eq (g : Nat → Int32) (s0 : Nat → Int32) (v : DO) (f : Nat → Int8) (tv : DO) (tf : Nat → Int8) : f_X3_passMinuteOf_v9 g s0 v f tv tf = (if f_X0_isQuietIn_r v f (f_X3_hourOfNow_r g) = 0 then (f_X3_passMinuteOf_tq7 g s0 v f tv tf) else tv) := Classical.choose_spec f_X3_passMinuteOf_v9_ex g s0 v f tv tf
theorem f_X3_passMinuteOf_rq11_ex : ∃ F : (Nat → Int32) → (Nat → Int32) → DO → (Nat → Int8) → DO → (Nat → Int8) → Int32, ∀ (g : Nat → Int32) (s0 : Nat → Int32) (v : DO) (f : Nat → Int8) (tv : DO) (tf : Nat → Int8), F g s0 v f tv tf = f_X0_isQuietIn_r (f_X3_passMinuteOf_v9 g s0 v f tv tf) tf (f_X3_hourOfNow_r g) := ⟨fun g s0 v f tv tf => f_X0_isQuietIn_r (f_X3_passMinuteOf_v9 g s0 v f tv tf) tf (f_X3_hourOfNow_r g), fun _ _ _ _ _ _ => rfl⟩
noncomputable def f_X3_passMinuteOf_rq11 : (Nat → Int32) → (Nat → Int32) → DO → (Nat → Int8) → DO → (Nat → Int8) → Int32 := Classical.choose f_X3_passMinuteOf_rq11_ex
theorem f_X3_passMinuteOf_rq11_eq (g : Nat → Int32) (s0 : Nat → Int32) (v : DO) (f : Nat → Int8) (tv : DO) (tf : Nat → Int8) : f_X3_passMinuteOf_rq11 g s0 v f tv tf = f_X0_isQuietIn_r (f_X3_passMinuteOf_v9 g s0 v f tv tf) tf (f_X3_hourOfNow_r g) := Classical.choose_spec f_X3_passMinuteOf_rq11_ex g s0 v f tv tf
theorem f_X3_passMinuteOf_vq12_ex : ∃ F : (Nat → Int32) → (Nat → Int32) → DO → (Nat → Int8) → DO → (Nat → Int8) → DO, ∀ (g : Nat → Int32) (s0 : Nat → Int32) (v : DO) (f : Nat → Int8) (tv : DO) (tf : Nat → Int8), F g s0 v f tv tf = f_X0_lendTo_v (f_X0_writeHeld_v (f_X3_passMinuteOf_v8 g s0 v f tv tf)) (f_X3_passMinuteOf_v9 g s0 v f tv tf) (s0 6) := ⟨fun g s0 v f tv tf => f_X0_lendTo_v (f_X0_writeHeld_v (f_X3_passMinuteOf_v8 g s0 v f tv tf)) (f_X3_passMinuteOf_v9 g s0 v f tv tf) (s0 6), fun _ _ _ _ _ _ => rfl⟩
noncomputable def f_X3_passMinuteOf_vq12 : (Nat → Int32) → (Nat → Int32) → DO → (Nat → Int8) → DO → (Nat → Int8) → DO := Classical.choose f_X3_passMinuteOf_vq12_ex
theorem f_X3_passMinuteOf_vq12_eq (g : Nat → Int32) (s0 : Nat → Int32) (v : DO) (f : Nat → Int8) (tv : DO) (tf : Nat → Int8) : f_X3_passMinuteOf_vq12 g s0 v f tv tf = f_X0_lendTo_v (f_X0_writeHeld_v (f_X3_passMinuteOf_v8 g s0 v f tv tf)) (f_X3_passMinuteOf_v9 g s0 v f tv tf) (s0 6) := Classical.choose_spec f_X3_passMinuteOf_vq12_ex g s0 v f tv tf
theorem f_X3_passMinuteOf_tq12_ex : ∃ F : (Nat → Int32) → (Nat → Int32) → DO → (Nat → Int8) → DO → (Nat → Int8) → DO, ∀ (g : Nat → Int32) (s0 : Nat → Int32) (v : DO) (f : Nat → Int8) (tv : DO) (tf : Nat → Int8), F g s0 v f tv tf = f_X0_lendTo_t (f_X0_writeHeld_v (f_X3_passMinuteOf_v8 g s0 v f tv tf)) (f_X3_passMinuteOf_v9 g s0 v f tv tf) (s0 6) := ⟨fun g s0 v f tv tf => f_X0_lendTo_t (f_X0_writeHeld_v (f_X3_passMinuteOf_v8 g s0 v f tv tf)) (f_X3_passMinuteOf_v9 g s0 v f tv tf) (s0 6), fun _ _ _ _ _ _ => rfl⟩
noncomputable def f_X3_passMinuteOf_tq12 : (Nat → Int32) → (Nat → Int32) → DO → (Nat → Int8) → DO → (Nat → Int8) → DO := Classical.choose f_X3_passMinuteOf_tq12_ex
theorem f_X3_passMinuteOf_tq12_eq (g : Nat → Int32) (s0 : Nat → Int32) (v : DO) (f : Nat → Int8) (tv : DO) (tf : Nat → Int8) : f_X3_passMinuteOf_tq12 g s0 v f tv tf = f_X0_lendTo_t (f_X0_writeHeld_v (f_X3_passMinuteOf_v8 g s0 v f tv tf)) (f_X3_passMinuteOf_v9 g s0 v f tv tf) (s0 6) := Classical.choose_spec f_X3_passMinuteOf_tq12_ex g s0 v f tv tf
theorem f_X3_passMinuteOf_v13_ex : ∃ F : (Nat → Int32) → (Nat → Int32) → DO → (Nat → Int8) → DO → (Nat → Int8) → DO, ∀ (g : Nat → Int32) (s0 : Nat → Int32) (v : DO) (f : Nat → Int8) (tv : DO) (tf : Nat → Int8), F g s0 v f tv tf = (if f_X0_isQuietIn_r v f (f_X3_hourOfNow_r g) = 0 then f_X0_writeHeld_v (f_X3_passMinuteOf_v8 g s0 v f tv tf) else (if (f_X3_passMinuteOf_rq11 g s0 v f tv tf) = 0 then (f_X3_passMinuteOf_vq12 g s0 v f tv tf) else f_X0_writeHeld_v (f_X3_passMinuteOf_v8 g s0 v f tv tf))) := ⟨fun g s0 v f tv tf => (if f_X0_isQuietIn_r v f (f_X3_hourOfNow_r g) = 0 then f_X0_writeHeld_v (f_X3_passMinuteOf_v8 g s0 v f tv tf) else (if (f_X3_passMinuteOf_rq11 g s0 v f tv tf) = 0 then (f_X3_passMinuteOf_vq12 g s0 v f tv tf) else f_X0_writeHeld_v (f_X3_passMinuteOf_v8 g s0 v f tv tf))), fun _ _ _ _ _ _ => rfl⟩
noncomputable def f_X3_passMinuteOf_v13 : (Nat → Int32) → (Nat → Int32) → DO → (Nat → Int8) → DO → (Nat → Int8) → DO := Classical.choose f_X3_passMinuteOf_v13_ex
theorem f_X3_passMinuteOf_v13_eq (g : Nat → Int32) (s0 : Nat → Int32) (v : DO) (f : Nat → Int8) (tv : DO) (tf : Nat → Int8) : f_X3_passMinuteOf_v13 g s0 v f tv tf = (if f_X0_isQuietIn_r v f (f_X3_hourOfNow_r g) = 0 then f_X0_writeHeld_v (f_X3_passMinuteOf_v8 g s0 v f tv tf) else (if (f_X3_passMinuteOf_rq11 g s0 v f tv tf) = 0 then (f_X3_passMinuteOf_vq12 g s0 v f tv tf) else f_X0_writeHeld_v (f_X3_passMinuteOf_v8 g s0 v f tv tf))) := Classical.choose_spec f_X3_passMinuteOf_v13_ex g s0 v f tv tf
theorem f_X3_passMinuteOf_v14_ex : ∃ F : (Nat → Int32) → (Nat → Int32) → DO → (Nat → Int8) → DO → (Nat → Int8) → DO, ∀ (g : Nat → Int32) (s0 : Nat → Int32) (v : DO) (f : Nat → Int8) (tv : DO) (tf : Nat → Int8), F g s0 v f tv tf = (if f_X0_isQuietIn_r v f (f_X3_hourOfNow_r g) = 0 then (f_X3_passMinuteOf_v9 g s0 v f tv tf) else (if (f_X3_passMinuteOf_rq11 g s0 v f tv tf) = 0 then (f_X3_passMinuteOf_tq12 g s0 v f tv tf) else (f_X3_passMinuteOf_v9 g s0 v f tv tf))) := ⟨fun g s0 v f tv tf => (if f_X0_isQuietIn_r v f (f_X3_hourOfNow_r g) = 0 then (f_X3_passMinuteOf_v9 g s0 v f tv tf) else (if (f_X3_passMinuteOf_rq11 g s0 v f tv tf) = 0 then (f_X3_passMinuteOf_tq12 g s0 v f tv tf) else (f_X3_passMinuteOf_v9 g s0 v f tv tf))), fun _ _ _ _ _ _ => rfl⟩
noncomputable def f_X3_passMinuteOf_v14 : (Nat → Int32) → (Nat → Int32) → DO → (Nat → Int8) → DO → (Nat → Int8) → DO := Classical.choose f_X3_passMinuteOf_v14_ex
theorem f_X3_passMinuteOf_v14_eq (g : Nat → Int32) (s0 : Nat → Int32) (v : DO) (f : Nat → Int8) (tv : DO) (tf : Nat → Int8) : f_X3_passMinuteOf_v14 g s0 v f tv tf = (if f_X0_isQuietIn_r v f (f_X3_hourOfNow_r g) = 0 then (f_X3_passMinuteOf_v9 g s0 v f tv tf) else (if (f_X3_passMinuteOf_rq11 g s0 v f tv tf) = 0 then (f_X3_passMinuteOf_tq12 g s0 v f tv tf) else (f_X3_passMinuteOf_v9 g s0 v f tv tf))) := Classical.choose_spec f_X3_passMinuteOf_v14_ex g s0 v f tv tf
theorem f_X3_passMinuteOf_rq15_ex : ∃ F : (Nat → Int32) → (Nat → Int32) → DO → (Nat → Int8) → DO → (Nat → Int8) → Int32, ∀ (g : Nat → Int32) (s0 : Nat → Int32) (v : DO) (f : Nat → Int8) (tv : DO) (tf : Nat → Int8), F g s0 v f tv tf = f_X3_cleanUp_r (f_X3_passMinuteOf_v4 g s0 v f tv tf) s0 (f_X3_passMinuteOf_v13 g s0 v f tv tf) (f_X0_isQuietIn_r v f (f_X3_hourOfNow_r g)) := ⟨fun g s0 v f tv tf => f_X3_cleanUp_r (f_X3_passMinuteOf_v4 g s0 v f tv tf) s0 (f_X3_passMinuteOf_v13 g s0 v f tv tf) (f_X0_isQuietIn_r v f (f_X3_hourOfNow_r g)), fun _ _ _ _ _ _ => rfl⟩
noncomputable def f_X3_passMinuteOf_rq15 : (Nat → Int32) → (Nat → Int32) → DO → (Nat → Int8) → DO → (Nat → Int8) → Int32 := Classical.choose f_X3_passMinuteOf_rq15_ex
theorem f_X3_passMinuteOf_rq15_eq (g : Nat → Int32) (s0 : Nat → Int32) (v : DO) (f : Nat → Int8) (tv : DO) (tf : Nat → Int8) : f_X3_passMinuteOf_rq15 g s0 v f tv tf = f_X3_cleanUp_r (f_X3_passMinuteOf_v4 g s0 v f tv tf) s0 (f_X3_passMinuteOf_v13 g s0 v f tv tf) (f_X0_isQuietIn_r v f (f_X3_hourOfNow_r g)) := Classical.choose_spec f_X3_passMinuteOf_rq15_ex g s0 v f tv tf
theorem f_X3_passMinuteOf_vq15_ex : ∃ F : (Nat → Int32) → (Nat → Int32) → DO → (Nat → Int8) → DO → (Nat → Int8) → DO, ∀ (g : Nat → Int32) (s0 : Nat → Int32) (v : DO) (f : Nat → Int8) (tv : DO) (tf : Nat → Int8), F g s0 v f tv tf = f_X3_cleanUp_v (f_X3_passMinuteOf_v4 g s0 v f tv tf) s0 (f_X3_passMinuteOf_v13 g s0 v f tv tf) (f_X0_isQuietIn_r v f (f_X3_hourOfNow_r g)) := ⟨fun g s0 v f tv tf => f_X3_cleanUp_v (f_X3_passMinuteOf_v4 g s0 v f tv tf) s0 (f_X3_passMinuteOf_v13 g s0 v f tv tf) (f_X0_isQuietIn_r v f (f_X3_hourOfNow_r g)), fun _ _ _ _ _ _ => rfl⟩
noncomputable def f_X3_passMinuteOf_vq15 : (Nat → Int32) → (Nat → Int32) → DO → (Nat → Int8) → DO → (Nat → Int8) → DO := Classical.choose f_X3_passMinuteOf_vq15_ex
theorem f_X3_passMinuteOf_vq15_eq (g : Nat → Int32) (s0 : Nat → Int32) (v : DO) (f : Nat → Int8) (tv : DO) (tf : Nat → Int8) : f_X3_passMinuteOf_vq15 g s0 v f tv tf = f_X3_cleanUp_v (f_X3_passMinuteOf_v4 g s0 v f tv tf) s0 (f_X3_passMinuteOf_v13 g s0 v f tv tf) (f_X0_isQuietIn_r v f (f_X3_hourOfNow_r g)) := Classical.choose_spec f_X3_passMinuteOf_vq15_ex g s0 v f tv tf
theorem f_X3_passMinuteOf_gq16_ex : ∃ F : (Nat → Int32) → (Nat → Int32) → DO → (Nat → Int8) → DO → (Nat → Int8) → (Nat → Int32), ∀ (g : Nat → Int32) (s0 : Nat → Int32) (v : DO) (f : Nat → Int8) (tv : DO) (tf : Nat → Int8), F g s0 v f tv tf = f_X3_chargeOverrun_g (f_X3_passMinuteOf_v4 g s0 v f tv tf) s0 (f_X3_passMinuteOf_vq15 g s0 v f tv tf) (f_X3_passMinuteOf_v5 g s0 v f tv tf) (f_X3_hourOfNow_r g) := ⟨fun g s0 v f tv tf => f_X3_chargeOverrun_g (f_X3_passMinuteOf_v4 g s0 v f tv tf) s0 (f_X3_passMinuteOf_vq15 g s0 v f tv tf) (f_X3_passMinuteOf_v5 g s0 v f tv tf) (f_X3_hourOfNow_r g), fun _ _ _ _ _ _ => rfl⟩
noncomputable def f_X3_passMinuteOf_gq16 : (Nat → Int32) → (Nat → Int32) → DO → (Nat → Int8) → DO → (Nat → Int8) → (Nat → Int32) := Classical.choose f_X3_passMinuteOf_gq16_ex
theorem f_X3_passMinuteOf_gq16_eq (g : Nat → Int32) (s0 : Nat → Int32) (v : DO) (f : Nat → Int8) (tv : DO) (tf : Nat → Int8) : f_X3_passMinuteOf_gq16 g s0 v f tv tf = f_X3_chargeOverrun_g (f_X3_passMinuteOf_v4 g s0 v f tv tf) s0 (f_X3_passMinuteOf_vq15 g s0 v f tv tf) (f_X3_passMinuteOf_v5 g s0 v f tv tf) (f_X3_hourOfNow_r g) := Classical.choose_spec f_X3_passMinuteOf_gq16_ex g s0 v f tv tf
theorem f_X3_passMinuteOf_vq16_ex : ∃ F : (Nat → Int32) → (Nat → Int32) → DO → (Nat → Int8) → DO → (Nat → Int8) → DO, ∀ (g : Nat → Int32) (s0 : Nat → Int32) (v : DO) (f : Nat → Int8) (tv : DO) (tf : Nat → Int8), F g s0 v f tv tf = f_X3_chargeOverrun_v (f_X3_passMinuteOf_v4 g s0 v f tv tf) s0 (f_X3_passMinuteOf_vq15 g s0 v f tv tf) (f_X3_passMinuteOf_v5 g s0 v f tv tf) (f_X3_hourOfNow_r g) := ⟨fun g s0 v f tv tf => f_X3_chargeOverrun_v (f_X3_passMinuteOf_v4 g s0 v f tv tf) s0 (f_X3_passMinuteOf_vq15 g s0 v f tv tf) (f_X3_passMinuteOf_v5 g s0 v f tv tf) (f_X3_hourOfNow_r g), fun _ _ _ _ _ _ => rfl⟩
noncomputable def f_X3_passMinuteOf_vq16 : (Nat → Int32) → (Nat → Int32) → DO → (Nat → Int8) → DO → (Nat → Int8) → DO := Classical.choose f_X3_passMinuteOf_vq16_ex
theorem f_X3_passMinuteOf_vq16_eq (g : Nat → Int32) (s0 : Nat → Int32) (v : DO) (f : Nat → Int8) (tv : DO) (tf : Nat → Int8) : f_X3_passMinuteOf_vq16 g s0 v f tv tf = f_X3_chargeOverrun_v (f_X3_passMinuteOf_v4 g s0 v f tv tf) s0 (f_X3_passMinuteOf_vq15 g s0 v f tv tf) (f_X3_passMinuteOf_v5 g s0 v f tv tf) (f_X3_hourOfNow_r g) := Classical.choose_spec f_X3_passMinuteOf_vq16_ex g s0 v f tv tf
theorem f_X3_passMinuteOf_fq16_ex : ∃ F : (Nat → Int32) → (Nat → Int32) → DO → (Nat → Int8) → DO → (Nat → Int8) → (Nat → Int8), ∀ (g : Nat → Int32) (s0 : Nat → Int32) (v : DO) (f : Nat → Int8) (tv : DO) (tf : Nat → Int8), F g s0 v f tv tf = f_X3_chargeOverrun_f (f_X3_passMinuteOf_v4 g s0 v f tv tf) s0 (f_X3_passMinuteOf_vq15 g s0 v f tv tf) (f_X3_passMinuteOf_v5 g s0 v f tv tf) (f_X3_hourOfNow_r g) := ⟨fun g s0 v f tv tf => f_X3_chargeOverrun_f (f_X3_passMinuteOf_v4 g s0 v f tv tf) s0 (f_X3_passMinuteOf_vq15 g s0 v f tv tf) (f_X3_passMinuteOf_v5 g s0 v f tv tf) (f_X3_hourOfNow_r g), fun _ _ _ _ _ _ => rfl⟩
noncomputable def f_X3_passMinuteOf_fq16 : (Nat → Int32) → (Nat → Int32) → DO → (Nat → Int8) → DO → (Nat → Int8) → (Nat → Int8) := Classical.choose f_X3_passMinuteOf_fq16_ex
theorem f_X3_passMinuteOf_fq16_eq (g : Nat → Int32) (s0 : Nat → Int32) (v : DO) (f : Nat → Int8) (tv : DO) (tf : Nat → Int8) : f_X3_passMinuteOf_fq16 g s0 v f tv tf = f_X3_chargeOverrun_f (f_X3_passMinuteOf_v4 g s0 v f tv tf) s0 (f_X3_passMinuteOf_vq15 g s0 v f tv tf) (f_X3_passMinuteOf_v5 g s0 v f tv tf) (f_X3_hourOfNow_r g) := Classical.choose_spec f_X3_passMinuteOf_fq16_ex g s0 v f tv tf
theorem f_X3_passMinuteOf_v17_ex : ∃ F : (Nat → Int32) → (Nat → Int32) → DO → (Nat → Int8) → DO → (Nat → Int8) → (Nat → Int32), ∀ (g : Nat → Int32) (s0 : Nat → Int32) (v : DO) (f : Nat → Int8) (tv : DO) (tf : Nat → Int8), F g s0 v f tv tf = (if (f_X3_passMinuteOf_rq15 g s0 v f tv tf) = 0 then (f_X3_passMinuteOf_v4 g s0 v f tv tf) else (if f_X0_isQuietIn_r v f (f_X3_hourOfNow_r g) = 0 then (f_X3_passMinuteOf_v4 g s0 v f tv tf) else (f_X3_passMinuteOf_gq16 g s0 v f tv tf))) := ⟨fun g s0 v f tv tf => (if (f_X3_passMinuteOf_rq15 g s0 v f tv tf) = 0 then (f_X3_passMinuteOf_v4 g s0 v f tv tf) else (if f_X0_isQuietIn_r v f (f_X3_hourOfNow_r g) = 0 then (f_X3_passMinuteOf_v4 g s0 v f tv tf) else (f_X3_passMinuteOf_gq16 g s0 v f tv tf))), fun _ _ _ _ _ _ => rfl⟩
noncomputable def f_X3_passMinuteOf_v17 : (Nat → Int32) → (Nat → Int32) → DO → (Nat → Int8) → DO → (Nat → Int8) → (Nat → Int32) := Classical.choose f_X3_passMinuteOf_v17_ex
theorem f_X3_passMinuteOf_v17_eq (g : Nat → Int32) (s0 : Nat → Int32) (v : DO) (f : Nat → Int8) (tv : DO) (tf : Nat → Int8) : f_X3_passMinuteOf_v17 g s0 v f tv tf = (if (f_X3_passMinuteOf_rq15 g s0 v f tv tf) = 0 then (f_X3_passMinuteOf_v4 g s0 v f tv tf) else (if f_X0_isQuietIn_r v f (f_X3_hourOfNow_r g) = 0 then (f_X3_passMinuteOf_v4 g s0 v f tv tf) else (f_X3_passMinuteOf_gq16 g s0 v f tv tf))) := Classical.choose_spec f_X3_passMinuteOf_v17_ex g s0 v f tv tf
theorem f_X3_passMinuteOf_v18_ex : ∃ F : (Nat → Int32) → (Nat → Int32) → DO → (Nat → Int8) → DO → (Nat → Int8) → DO, ∀ (g : Nat → Int32) (s0 : Nat → Int32) (v : DO) (f : Nat → Int8) (tv : DO) (tf : Nat → Int8), F g s0 v f tv tf = (if (f_X3_passMinuteOf_rq15 g s0 v f tv tf) = 0 then (f_X3_passMinuteOf_vq15 g s0 v f tv tf) else (if f_X0_isQuietIn_r v f (f_X3_hourOfNow_r g) = 0 then (f_X3_passMinuteOf_vq15 g s0 v f tv tf) else (f_X3_passMinuteOf_vq16 g s0 v f tv tf))) := ⟨fun g s0 v f tv tf => (if (f_X3_passMinuteOf_rq15 g s0 v f tv tf) = 0 then (f_X3_passMinuteOf_vq15 g s0 v f tv tf) else (if f_X0_isQuietIn_r v f (f_X3_hourOfNow_r g) = 0 then (f_X3_passMinuteOf_vq15 g s0 v f tv tf) else (f_X3_passMinuteOf_vq16 g s0 v f tv tf))), fun _ _ _ _ _ _ => rfl⟩
noncomputable def f_X3_passMinuteOf_v18 : (Nat → Int32) → (Nat → Int32) → DO → (Nat → Int8) → DO → (Nat → Int8) → DO := Classical.choose f_X3_passMinuteOf_v18_ex
theorem f_X3_passMinuteOf_v18_eq (g : Nat → Int32) (s0 : Nat → Int32) (v : DO) (f : Nat → Int8) (tv : DO) (tf : Nat → Int8) : f_X3_passMinuteOf_v18 g s0 v f tv tf = (if (f_X3_passMinuteOf_rq15 g s0 v f tv tf) = 0 then (f_X3_passMinuteOf_vq15 g s0 v f tv tf) else (if f_X0_isQuietIn_r v f (f_X3_hourOfNow_r g) = 0 then (f_X3_passMinuteOf_vq15 g s0 v f tv tf) else (f_X3_passMinuteOf_vq16 g s0 v f tv tf))) := Classical.choose_spec f_X3_passMinuteOf_v18_ex g s0 v f tv tf
theorem f_X3_passMinuteOf_v19_ex : ∃ F : (Nat → Int32) → (Nat → Int32) → DO → (Nat → Int8) → DO → (Nat → Int8) → (Nat → Int8), ∀ (g : Nat → Int32) (s0 : Nat → Int32) (v : DO) (f : Nat → Int8) (tv : DO) (tf : Nat → Int8), F g s0 v f tv tf = (if (f_X3_passMinuteOf_rq15 g s0 v f tv tf) = 0 then (f_X3_passMinuteOf_v5 g s0 v f tv tf) else (if f_X0_isQuietIn_r v f (f_X3_hourOfNow_r g) = 0 then (f_X3_passMinuteOf_v5 g s0 v f tv tf) else (f_X3_passMinuteOf_fq16 g s0 v f tv tf))) := ⟨fun g s0 v f tv tf => (if (f_X3_passMinuteOf_rq15 g s0 v f tv tf) = 0 then (f_X3_passMinuteOf_v5 g s0 v f tv tf) else (if f_X0_isQuietIn_r v f (f_X3_hourOfNow_r g) = 0 then (f_X3_passMinuteOf_v5 g s0 v f tv tf) else (f_X3_passMinuteOf_fq16 g s0 v f tv tf))), fun _ _ _ _ _ _ => rfl⟩
noncomputable def f_X3_passMinuteOf_v19 : (Nat → Int32) → (Nat → Int32) → DO → (Nat → Int8) → DO → (Nat → Int8) → (Nat → Int8) := Classical.choose f_X3_passMinuteOf_v19_ex
theorem f_X3_passMinuteOf_v19_eq (g : Nat → Int32) (s0 : Nat → Int32) (v : DO) (f : Nat → Int8) (tv : DO) (tf : Nat → Int8) : f_X3_passMinuteOf_v19 g s0 v f tv tf = (if (f_X3_passMinuteOf_rq15 g s0 v f tv tf) = 0 then (f_X3_passMinuteOf_v5 g s0 v f tv tf) else (if f_X0_isQuietIn_r v f (f_X3_hourOfNow_r g) = 0 then (f_X3_passMinuteOf_v5 g s0 v f tv tf) else (f_X3_passMinuteOf_fq16 g s0 v f tv tf))) := Classical.choose_spec f_X3_passMinuteOf_v19_ex g s0 v f tv tf
theorem f_X3_passMinuteOf_x20_ex : ∃ F : (Nat → Int32) → (Nat → Int32) → DO → (Nat → Int8) → DO → (Nat → Int8) → Int32, ∀ (g : Nat → Int32) (s0 : Nat → Int32) (v : DO) (f : Nat → Int8) (tv : DO) (tf : Nat → Int8), F g s0 v f tv tf = (if (f_X3_passMinuteOf_rq15 g s0 v f tv tf) = 0 then 0 else (if f_X0_isQuietIn_r v f (f_X3_hourOfNow_r g) = 0 then 0 else 1)) := ⟨fun g s0 v f tv tf => (if (f_X3_passMinuteOf_rq15 g s0 v f tv tf) = 0 then 0 else (if f_X0_isQuietIn_r v f (f_X3_hourOfNow_r g) = 0 then 0 else 1)), fun _ _ _ _ _ _ => rfl⟩
noncomputable def f_X3_passMinuteOf_x20 : (Nat → Int32) → (Nat → Int32) → DO → (Nat → Int8) → DO → (Nat → Int8) → Int32 := Classical.choose f_X3_passMinuteOf_x20_ex
theorem f_X3_passMinuteOf_x20_eq (g : Nat → Int32) (s0 : Nat → Int32) (v : DO) (f : Nat → Int8) (tv : DO) (tf : Nat → Int8) : f_X3_passMinuteOf_x20 g s0 v f tv tf = (if (f_X3_passMinuteOf_rq15 g s0 v f tv tf) = 0 then 0 else (if f_X0_isQuietIn_r v f (f_X3_hourOfNow_r g) = 0 then 0 else 1)) := Classical.choose_spec f_X3_passMinuteOf_x20_ex g s0 v f tv tf
theorem f_X3_passMinuteOf_g_ex : ∃ F : (Nat → Int32) → (Nat → Int32) → DO → (Nat → Int8) → DO → (Nat → Int8) → (Nat → Int32), ∀ (g : Nat → Int32) (s0 : Nat → Int32) (v : DO) (f : Nat → Int8) (tv : DO) (tf : Nat → Int8), F g s0 v f tv tf = (f_X3_passMinuteOf_v17 g s0 v f tv tf) := ⟨fun g s0 v f tv tf => (f_X3_passMinuteOf_v17 g s0 v f tv tf), fun _ _ _ _ _ _ => rfl⟩
noncomputable def f_X3_passMinuteOf_g : (Nat → Int32) → (Nat → Int32) → DO → (Nat → Int8) → DO → (Nat → Int8) → (Nat → Int32) := Classical.choose f_X3_passMinuteOf_g_ex
theorem f_X3_passMinuteOf_g_eq (g : Nat → Int32) (s0 : Nat → Int32) (v : DO) (f : Nat → Int8) (tv : DO) (tf : Nat → Int8) : f_X3_passMinuteOf_g g s0 v f tv tf = (f_X3_passMinuteOf_v17 g s0 v f tv tf) := Classical.choose_spec f_X3_passMinuteOf_g_ex g s0 v f tv tf
theorem f_X3_passMinuteOf_v_ex : ∃ F : (Nat → Int32) → (Nat → Int32) → DO → (Nat → Int8) → DO → (Nat → Int8) → DO, ∀ (g : Nat → Int32) (s0 : Nat → Int32) (v : DO) (f : Nat → Int8) (tv : DO) (tf : Nat → Int8), F g s0 v f tv tf = ((f_X3_passMinuteOf_v18 g s0 v f tv tf).1, ((f_X3_passMinuteOf_v18 g s0 v f tv tf).2 + (((f_X3_passMinuteOf_v18 g s0 v f tv tf).1 3).toInt64))) := ⟨fun g s0 v f tv tf => ((f_X3_passMinuteOf_v18 g s0 v f tv tf).1, ((f_X3_passMinuteOf_v18 g s0 v f tv tf).2 + (((f_X3_passMinuteOf_v18 g s0 v f tv tf).1 3).toInt64))), fun _ _ _ _ _ _ => rfl⟩
noncomputable def f_X3_passMinuteOf_v : (Nat → Int32) → (Nat → Int32) → DO → (Nat → Int8) → DO → (Nat → Int8) → DO := Classical.choose f_X3_passMinuteOf_v_ex
theorem f_X3_passMinuteOf_v_eq (g : Nat → Int32) (s0 : Nat → Int32) (v : DO) (f : Nat → Int8) (tv : DO) (tf : Nat → Int8) : f_X3_passMinuteOf_v g s0 v f tv tf = ((f_X3_passMinuteOf_v18 g s0 v f tv tf).1, ((f_X3_passMinuteOf_v18 g s0 v f tv tf).2 + (((f_X3_passMinuteOf_v18 g s0 v f tv tf).1 3).toInt64))) := Classical.choose_spec f_X3_passMinuteOf_v_ex g s0 v f tv tf
theorem f_X3_passMinuteOf_f_ex : ∃ F : (Nat → Int32) → (Nat → Int32) → DO → (Nat → Int8) → DO → (Nat → Int8) → (Nat → Int8), ∀ (g : Nat → Int32) (s0 : Nat → Int32) (v : DO) (f : Nat → Int8) (tv : DO) (tf : Nat → Int8), F g s0 v f tv tf = (f_X3_passMinuteOf_v19 g s0 v f tv tf) := ⟨fun g s0 v f tv tf => (f_X3_passMinuteOf_v19 g s0 v f tv tf), fun _ _ _ _ _ _ => rfl⟩
noncomputable def f_X3_passMinuteOf_f : (Nat → Int32) → (Nat → Int32) → DO → (Nat → Int8) → DO → (Nat → Int8) → (Nat → Int8) := Classical.choose f_X3_passMinuteOf_f_ex
theorem f_X3_passMinuteOf_f_eq (g : Nat → Int32) (s0 : Nat → Int32) (v : DO) (f : Nat → Int8) (tv : DO) (tf : Nat → Int8) : f_X3_passMinuteOf_f g s0 v f tv tf = (f_X3_passMinuteOf_v19 g s0 v f tv tf) := Classical.choose_spec f_X3_passMinuteOf_f_ex g s0 v f tv tf
theorem f_X3_passMinuteOf_tv_ex : ∃ F : (Nat → Int32) → (Nat → Int32) → DO → (Nat → Int8) → DO → (Nat → Int8) → DO, ∀ (g : Nat → Int32) (s0 : Nat → Int32) (v : DO) (f : Nat → Int8) (tv : DO) (tf : Nat → Int8), F g s0 v f tv tf = (f_X3_passMinuteOf_v14 g s0 v f tv tf) := ⟨fun g s0 v f tv tf => (f_X3_passMinuteOf_v14 g s0 v f tv tf), fun _ _ _ _ _ _ => rfl⟩
noncomputable def f_X3_passMinuteOf_tv : (Nat → Int32) → (Nat → Int32) → DO → (Nat → Int8) → DO → (Nat → Int8) → DO := Classical.choose f_X3_passMinuteOf_tv_ex
theorem f_X3_passMinuteOf_tv_eq (g : Nat → Int32) (s0 : Nat → Int32) (v : DO) (f : Nat → Int8) (tv : DO) (tf : Nat → Int8) : f_X3_passMinuteOf_tv g s0 v f tv tf = (f_X3_passMinuteOf_v14 g s0 v f tv tf) := Classical.choose_spec f_X3_passMinuteOf_tv_ex g s0 v f tv tf
theorem f_X3_passMinuteOf_r_ex : ∃ F : (Nat → Int32) → (Nat → Int32) → DO → (Nat → Int8) → DO → (Nat → Int8) → Int32, ∀ (g : Nat → Int32) (s0 : Nat → Int32) (v : DO) (f : Nat → Int8) (tv : DO) (tf : Nat → Int8), F g s0 v f tv tf = (f_X3_passMinuteOf_x20 g s0 v f tv tf) := ⟨fun g s0 v f tv tf => (f_X3_passMinuteOf_x20 g s0 v f tv tf), fun _ _ _ _ _ _ => rfl⟩
noncomputable def f_X3_passMinuteOf_r : (Nat → Int32) → (Nat → Int32) → DO → (Nat → Int8) → DO → (Nat → Int8) → Int32 := Classical.choose f_X3_passMinuteOf_r_ex
theorem f_X3_passMinuteOf_r_eq (g : Nat → Int32) (s0 : Nat → Int32) (v : DO) (f : Nat → Int8) (tv : DO) (tf : Nat → Int8) : f_X3_passMinuteOf_r g s0 v f tv tf = (f_X3_passMinuteOf_x20 g s0 v f tv tf) := Classical.choose_spec f_X3_passMinuteOf_r_ex g s0 v f tv tf
set_option maxRecDepth 100000 in
set_option maxHeartbeats 4000000 in
theorem m_X3_passMinuteOf (l : Launch) (G : GG) (a b t sa da h k : Nat) (g : Nat → Int32) (s0 : Nat → Int32) (v : DO) (f : Nat → Int8) (tv : DO) (tf : Nat → Int8)  : CtI l yX3_passMinuteOf cX3_passMinuteOf 6 (some .boolean) (RM 3) G [.ref a, .ref b, .ref t] ([oS a sa da g, aI G sa 7 s0, oD b h v, aB G h f, oD t k tv, aB G k tf]) (f_X3_passMinuteOf_r g s0 v f tv tf) ([oS a sa da (f_X3_passMinuteOf_g g s0 v f tv tf), aI G sa 7 s0, oD b h (f_X3_passMinuteOf_v g s0 v f tv tf), aB G h (f_X3_passMinuteOf_f g s0 v f tv tf), oD t k (f_X3_passMinuteOf_tv g s0 v f tv tf), aB G k tf]) := by
  refine ct_I RX3 [(0, .ref a), (1, .ref b), (2, .ref t)] rfl (by decide +kernel) (Nat.le_of_ble_eq_true rfl) rfl ?_
  intro p e s m args below meth c A C hr hk hnm
  generalize hQ : (MQ below (PostI G A (f_X3_passMinuteOf_r g s0 v f tv tf) ([oS a sa da (f_X3_passMinuteOf_g g s0 v f tv tf), aI G sa 7 s0, oD b h (f_X3_passMinuteOf_v g s0 v f tv tf), aB G h (f_X3_passMinuteOf_f g s0 v f tv tf), oD t k (f_X3_passMinuteOf_tv g s0 v f tv tf), aB G k tf])) args s (RM 3).cells (RM 3).slots A) = Q
  refine j_aload_n C dX3_passMinuteOf_0 0 rfl ?_
  refine j_callV_i (r := f_X3_hourOfNow_r g) (wc' := [oS a sa da g]) C (m_X3_hourOfNow l G a sa da g) rfl 0 rfl 0 (gV kw_172 kw_173 kw_174 kw_2 kw_175) (by decide +kernel) ⟨(Nat.le_of_ble_eq_true rfl), (Nat.le_of_ble_eq_true rfl)⟩ rfl rfl (Nat.le_of_ble_eq_true rfl) dX3_passMinuteOf_1 ⟨(Nat.le_of_ble_eq_true rfl), (Nat.le_of_ble_eq_true rfl)⟩ [aI G sa 7 s0, oD b h v, aB G h f, oD t k tv, aB G k tf] [oS a sa da g, aI G sa 7 s0, oD b h v, aB G h f, oD t k tv, aB G k tf] (perm_idx [0, 1, 2, 3, 4, 5] 6 rfl (by decide +kernel) rfl) rfl ?_
  refine j_istore_n C [(3, .int (f_X3_hourOfNow_r g)), (0, .ref a), (1, .ref b), (2, .ref t)] dX3_passMinuteOf_4 (by decide) rfl ?_
  refine j_aload_n C dX3_passMinuteOf_5 2 rfl ?_
  refine j_iload_n C dX3_passMinuteOf_6 0 rfl ?_
  refine j_callV_i (r := f_X0_isQuietIn_r v f (f_X3_hourOfNow_r g)) (wc' := [oD b h v, aB G h f]) C (m_X0_isQuietIn l G b h v f (f_X3_hourOfNow_r g)) rfl 0 rfl 1 (gV kw_176 kw_177 kw_178 kw_4 kw_179) (by decide +kernel) ⟨(Nat.le_of_ble_eq_true rfl), (Nat.le_of_ble_eq_true rfl)⟩ rfl rfl (Nat.le_of_ble_eq_true rfl) dX3_passMinuteOf_7 ⟨(Nat.le_of_ble_eq_true rfl), (Nat.le_of_ble_eq_true rfl)⟩ [oS a sa da g, aI G sa 7 s0, oD t k tv, aB G k tf] [oD b h v, aB G h f, oS a sa da g, aI G sa 7 s0, oD t k tv, aB G k tf] (perm_idx [2, 3, 0, 1, 4, 5] 6 rfl (by decide +kernel) rfl) rfl ?_
  refine j_istore C [(4, .int (f_X0_isQuietIn_r v f (f_X3_hourOfNow_r g))), (3, .int (f_X3_hourOfNow_r g)), (0, .ref a), (1, .ref b), (2, .ref t)] dX3_passMinuteOf_10 (by decide) rfl ?_
  refine j_aload_n C dX3_passMinuteOf_12 2 rfl ?_
  refine j_get C kin3 rfl 2 rfl 2 (by decide) kw_78 rfl (v := .int (g 2)) rfl dX3_passMinuteOf_13 ?_
  refine j_bipush (v := 60) C dX3_passMinuteOf_16 (by decide) ?_
  refine j_irem C dX3_passMinuteOf_18 (by decide) rfl ?_
  have K30 : WJ p l e (RM 3) s m args below meth c G A 6 0 0 Q ([oS a sa da (f_X3_passMinuteOf_v4 g s0 v f tv tf), aI G sa 7 s0, oD b h v, aB G h (f_X3_passMinuteOf_v5 g s0 v f tv tf), oD t k tv, aB G k tf]) [(4, .int (f_X0_isQuietIn_r v f (f_X3_hourOfNow_r g))), (3, .int (f_X3_hourOfNow_r g)), (0, .ref a), (1, .ref b), (2, .ref t)] 30 [] := by
    generalize hw2 : f_X3_passMinuteOf_v4 g s0 v f tv tf = w2
    generalize hw3 : f_X3_passMinuteOf_v5 g s0 v f tv tf = w3
    refine j_aload_n C dX3_passMinuteOf_30 3 rfl ?_
    refine j_aload_n C dX3_passMinuteOf_31 2 rfl ?_
    refine j_get C kin3 rfl 0 rfl 2 (by decide) kw_78 rfl (v := .int (w2 2)) rfl dX3_passMinuteOf_32 ?_
    refine j_callV_v (wc' := [oD b h (f_X0_takeStream_v v (w2 2))]) C (m_X0_takeStream l G b h v (w2 2)) rfl 0 rfl 1 (gV kw_194 kw_195 kw_196 kw_4 kw_197) (by decide +kernel) ⟨(Nat.le_of_ble_eq_true rfl), (Nat.le_of_ble_eq_true rfl)⟩ rfl rfl (Nat.le_of_ble_eq_true rfl) dX3_passMinuteOf_35 ⟨(Nat.le_of_ble_eq_true rfl), (Nat.le_of_ble_eq_true rfl)⟩ [oS a sa da w2, aI G sa 7 s0, aB G h w3, oD t k tv, aB G k tf] [oD b h (f_X0_takeStream_v v (w2 2)), oS a sa da w2, aI G sa 7 s0, aB G h w3, oD t k tv, aB G k tf] (perm_idx [2, 0, 1, 3, 4, 5] 6 rfl (by decide +kernel) rfl) rfl ?_
    generalize hzw4 : f_X0_takeStream_v v (w2 2) = w4
    have hw4 : f_X3_passMinuteOf_vq6 g s0 v f tv tf = w4 := by subst hw2 hw3; subst hzw4; exact (f_X3_passMinuteOf_vq6_eq g s0 v f tv tf)
    refine j_iload C dX3_passMinuteOf_38 0 rfl ?_
    have K48 : WJ p l e (RM 3) s m args below meth c G A 6 0 0 Q ([oD b h (f_X3_passMinuteOf_v8 g s0 v f tv tf), oD t k (f_X3_passMinuteOf_v9 g s0 v f tv tf), oS a sa da w2, aI G sa 7 s0, aB G h w3, aB G k tf]) [(4, .int (f_X0_isQuietIn_r v f (f_X3_hourOfNow_r g))), (3, .int (f_X3_hourOfNow_r g)), (0, .ref a), (1, .ref b), (2, .ref t)] 48 [] := by
      generalize hw7 : f_X3_passMinuteOf_v8 g s0 v f tv tf = w7
      generalize hw8 : f_X3_passMinuteOf_v9 g s0 v f tv tf = w8
      refine j_aload_n C dX3_passMinuteOf_48 3 rfl ?_
      refine j_callV_v (wc' := [oD b h (f_X0_writeHeld_v w7)]) C (m_X0_writeHeld l G b h w7) rfl 0 rfl 0 (gV kw_208 kw_209 kw_210 kw_4 kw_211) (by decide +kernel) ⟨(Nat.le_of_ble_eq_true rfl), (Nat.le_of_ble_eq_true rfl)⟩ rfl rfl (Nat.le_of_ble_eq_true rfl) dX3_passMinuteOf_49 ⟨(Nat.le_of_ble_eq_true rfl), (Nat.le_of_ble_eq_true rfl)⟩ [oD t k w8, oS a sa da w2, aI G sa 7 s0, aB G h w3, aB G k tf] [oD b h (f_X0_writeHeld_v w7), oD t k w8, oS a sa da w2, aI G sa 7 s0, aB G h w3, aB G k tf] (perm_idx [0, 1, 2, 3, 4, 5] 6 rfl (by decide +kernel) rfl) rfl ?_
      refine j_iload C dX3_passMinuteOf_52 0 rfl ?_
      have K77 : WJ p l e (RM 3) s m args below meth c G A 6 0 0 Q ([oD b h (f_X3_passMinuteOf_v13 g s0 v f tv tf), oD t k (f_X3_passMinuteOf_v14 g s0 v f tv tf), oS a sa da w2, aI G sa 7 s0, aB G h w3, aB G k tf]) [(4, .int (f_X0_isQuietIn_r v f (f_X3_hourOfNow_r g))), (3, .int (f_X3_hourOfNow_r g)), (0, .ref a), (1, .ref b), (2, .ref t)] 77 [] := by
        generalize hw12 : f_X3_passMinuteOf_v13 g s0 v f tv tf = w12
        generalize hw13 : f_X3_passMinuteOf_v14 g s0 v f tv tf = w13
        refine j_aload_n C dX3_passMinuteOf_77 2 rfl ?_
        refine j_aload_n C dX3_passMinuteOf_78 3 rfl ?_
        refine j_iload C dX3_passMinuteOf_79 0 rfl ?_
        refine j_callV_i (r := f_X3_cleanUp_r w2 s0 w12 (f_X0_isQuietIn_r v f (f_X3_hourOfNow_r g))) (wc' := [oS a sa da w2, aI G sa 7 s0, oD b h (f_X3_cleanUp_v w2 s0 w12 (f_X0_isQuietIn_r v f (f_X3_hourOfNow_r g)))]) C (m_X3_cleanUp l G a b sa da h w2 s0 w12 (f_X0_isQuietIn_r v f (f_X3_hourOfNow_r g))) rfl 0 rfl 2 (gV kw_216 kw_217 kw_345 kw_2 kw_218) (by decide +kernel) ⟨(Nat.le_of_ble_eq_true rfl), (Nat.le_of_ble_eq_true rfl)⟩ rfl rfl (Nat.le_of_ble_eq_true rfl) dX3_passMinuteOf_81 ⟨(Nat.le_of_ble_eq_true rfl), (Nat.le_of_ble_eq_true rfl)⟩ [oD t k w13, aB G h w3, aB G k tf] [oS a sa da w2, aI G sa 7 s0, oD b h (f_X3_cleanUp_v w2 s0 w12 (f_X0_isQuietIn_r v f (f_X3_hourOfNow_r g))), oD t k w13, aB G h w3, aB G k tf] (perm_idx [2, 3, 0, 1, 4, 5] 6 rfl (by decide +kernel) rfl) rfl ?_
        generalize hzw14 : f_X3_cleanUp_r w2 s0 w12 (f_X0_isQuietIn_r v f (f_X3_hourOfNow_r g)) = w14
        have hw14 : f_X3_passMinuteOf_rq15 g s0 v f tv tf = w14 := by subst hw2 hw3 hw4 hw7 hw8 hw12 hw13; subst hzw14; exact (f_X3_passMinuteOf_rq15_eq g s0 v f tv tf)
        generalize hzw15 : f_X3_cleanUp_v w2 s0 w12 (f_X0_isQuietIn_r v f (f_X3_hourOfNow_r g)) = w15
        have hw15 : f_X3_passMinuteOf_vq15 g s0 v f tv tf = w15 := by subst hw2 hw3 hw4 hw7 hw8 hw12 hw13 hw14; subst hzw15; exact (f_X3_passMinuteOf_vq15_eq g s0 v f tv tf)
        refine j_istore C [(5, .int w14), (4, .int (f_X0_isQuietIn_r v f (f_X3_hourOfNow_r g))), (3, .int (f_X3_hourOfNow_r g)), (0, .ref a), (1, .ref b), (2, .ref t)] dX3_passMinuteOf_84 (by decide) rfl ?_
        refine j_iload C dX3_passMinuteOf_86 0 rfl ?_
        have K102 : WJ p l e (RM 3) s m args below meth c G A 6 0 0 Q ([oS a sa da (f_X3_passMinuteOf_v17 g s0 v f tv tf), aI G sa 7 s0, oD b h (f_X3_passMinuteOf_v18 g s0 v f tv tf), oD t k w13, aB G h (f_X3_passMinuteOf_v19 g s0 v f tv tf), aB G k tf]) [(5, .int w14), (4, .int (f_X0_isQuietIn_r v f (f_X3_hourOfNow_r g))), (3, .int (f_X3_hourOfNow_r g)), (0, .ref a), (1, .ref b), (2, .ref t)] 102 [] := by
          generalize hw19 : f_X3_passMinuteOf_v17 g s0 v f tv tf = w19
          generalize hw20 : f_X3_passMinuteOf_v18 g s0 v f tv tf = w20
          generalize hw21 : f_X3_passMinuteOf_v19 g s0 v f tv tf = w21
          refine j_aload_n C dX3_passMinuteOf_102 4 rfl ?_
          refine j_dup C dX3_passMinuteOf_103 rfl ?_
          refine j_get C kin0 rfl 2 rfl 10 (by decide) kw_58 rfl (v := .long w20.2) rfl dX3_passMinuteOf_104 ?_
          refine j_aload_n C dX3_passMinuteOf_107 4 rfl ?_
          refine j_get C kin0 rfl 2 rfl 3 (by decide) kw_39 rfl (v := .int (w20.1 3)) rfl dX3_passMinuteOf_108 ?_
          refine j_i2l C dX3_passMinuteOf_111 rfl ?_
          refine j_ladd C dX3_passMinuteOf_112 rfl ?_
          generalize hw22 : w20.2 + ((w20.1 3).toInt64) = w22
          refine j_put C kin0 rfl 2 rfl 10 (by decide) kw_58 rfl tyX0 tyX0_ok nmX0 rfl rfl rfl (Nat.le_of_ble_eq_true rfl) ([oS a sa da w19, aI G sa 7 s0, oD b h (w20.1, w22), oD t k w13, aB G h w21, aB G k tf]) rfl dX3_passMinuteOf_113 ?_
          refine j_iload C dX3_passMinuteOf_116 0 rfl ?_
          have K131 : WJ p l e (RM 3) s m args below meth c G A 6 0 0 Q ([oS a sa da w19, aI G sa 7 s0, oD b h (w20.1, w22), oD t k w13, aB G h w21, aB G k tf]) [(5, .int w14), (4, .int (f_X0_isQuietIn_r v f (f_X3_hourOfNow_r g))), (3, .int (f_X3_hourOfNow_r g)), (0, .ref a), (1, .ref b), (2, .ref t)] 131 [.int (f_X3_passMinuteOf_x20 g s0 v f tv tf)] := by
            generalize hw23 : f_X3_passMinuteOf_x20 g s0 v f tv tf = w23
            refine j_perm ([oS a sa da w19, aI G sa 7 s0, oD b h (w20.1, w22), aB G h w21, oD t k w13, aB G k tf]) (perm_idx [0, 1, 2, 4, 3, 5] 6 rfl (by decide +kernel) rfl) ?_
            subst hQ; subst hw2 hw3 hw4 hw7 hw8 hw12 hw13 hw14 hw15 hw19 hw20 hw21 hw22 hw23; exact j_zret C hr hk (by rw [f_X3_passMinuteOf_x20_eq]; (repeat' split) <;> rfl) ((show f_X3_passMinuteOf_r g s0 v f tv tf = (f_X3_passMinuteOf_x20 g s0 v f tv tf) from (f_X3_passMinuteOf_r_eq g s0 v f tv tf)).symm) (by rw [show f_X3_passMinuteOf_g g s0 v f tv tf = (f_X3_passMinuteOf_v17 g s0 v f tv tf) from (f_X3_passMinuteOf_g_eq g s0 v f tv tf), show f_X3_passMinuteOf_v g s0 v f tv tf = ((f_X3_passMinuteOf_v18 g s0 v f tv tf).1, ((f_X3_passMinuteOf_v18 g s0 v f tv tf).2 + (((f_X3_passMinuteOf_v18 g s0 v f tv tf).1 3).toInt64))) from (f_X3_passMinuteOf_v_eq g s0 v f tv tf), show f_X3_passMinuteOf_f g s0 v f tv tf = (f_X3_passMinuteOf_v19 g s0 v f tv tf) from (f_X3_passMinuteOf_f_eq g s0 v f tv tf), show f_X3_passMinuteOf_tv g s0 v f tv tf = (f_X3_passMinuteOf_v14 g s0 v f tv tf) from (f_X3_passMinuteOf_tv_eq g s0 v f tv tf)]) dX3_passMinuteOf_131
          refine j_if_eq (tgt := 130) C dX3_passMinuteOf_118 (by decide) (fun c118 => ?_) (fun c118 => ?_)
          · refine j_iconst (v := 0) C dX3_passMinuteOf_130 (by decide) ?_
            subst hw2 hw3 hw4 hw7 hw8 hw12 hw13 hw14 hw15 hw19 hw20 hw21 hw22; exact j_eq rfl rfl (by rw [show f_X3_passMinuteOf_x20 g s0 v f tv tf = 0 from ((f_X3_passMinuteOf_x20_eq g s0 v f tv tf).trans (if_pos c118))]) K131
          · refine j_iload C dX3_passMinuteOf_121 1 rfl ?_
            refine j_if_eq (tgt := 130) C dX3_passMinuteOf_123 (by decide) (fun c123 => ?_) (fun c123 => ?_)
            · refine j_iconst (v := 0) C dX3_passMinuteOf_130 (by decide) ?_
              subst hw2 hw3 hw4 hw7 hw8 hw12 hw13 hw14 hw15 hw19 hw20 hw21 hw22; exact j_eq rfl rfl (by rw [show f_X3_passMinuteOf_x20 g s0 v f tv tf = 0 from ((f_X3_passMinuteOf_x20_eq g s0 v f tv tf).trans ((if_neg c118).trans (if_pos c123)))]) K131
            · refine j_iconst (v := 1) C dX3_passMinuteOf_126 (by decide) ?_
              refine j_goto (tgt := 131) C dX3_passMinuteOf_127 (by decide) ?_
              subst hw2 hw3 hw4 hw7 hw8 hw12 hw13 hw14 hw15 hw19 hw20 hw21 hw22; exact j_eq rfl rfl (by rw [show f_X3_passMinuteOf_x20 g s0 v f tv tf = 1 from ((f_X3_passMinuteOf_x20_eq g s0 v f tv tf).trans ((if_neg c118).trans (if_neg c123)))]) K131
        refine j_if_eq (tgt := 102) C dX3_passMinuteOf_88 (by decide) (fun c88 => ?_) (fun c88 => ?_)
        · subst hw2 hw3 hw4 hw7 hw8 hw12 hw13 hw14 hw15; exact j_eq (by rw [show f_X3_passMinuteOf_v17 g s0 v f tv tf = (f_X3_passMinuteOf_v4 g s0 v f tv tf) from ((f_X3_passMinuteOf_v17_eq g s0 v f tv tf).trans (if_pos c88)), show f_X3_passMinuteOf_v18 g s0 v f tv tf = (f_X3_passMinuteOf_vq15 g s0 v f tv tf) from ((f_X3_passMinuteOf_v18_eq g s0 v f tv tf).trans (if_pos c88)), show f_X3_passMinuteOf_v19 g s0 v f tv tf = (f_X3_passMinuteOf_v5 g s0 v f tv tf) from ((f_X3_passMinuteOf_v19_eq g s0 v f tv tf).trans (if_pos c88))]) rfl rfl K102
        · refine j_iload C dX3_passMinuteOf_91 1 rfl ?_
          refine j_if_eq (tgt := 102) C dX3_passMinuteOf_93 (by decide) (fun c93 => ?_) (fun c93 => ?_)
          · subst hw2 hw3 hw4 hw7 hw8 hw12 hw13 hw14 hw15; exact j_eq (by rw [show f_X3_passMinuteOf_v17 g s0 v f tv tf = (f_X3_passMinuteOf_v4 g s0 v f tv tf) from ((f_X3_passMinuteOf_v17_eq g s0 v f tv tf).trans ((if_neg c88).trans (if_pos c93))), show f_X3_passMinuteOf_v18 g s0 v f tv tf = (f_X3_passMinuteOf_vq15 g s0 v f tv tf) from ((f_X3_passMinuteOf_v18_eq g s0 v f tv tf).trans ((if_neg c88).trans (if_pos c93))), show f_X3_passMinuteOf_v19 g s0 v f tv tf = (f_X3_passMinuteOf_v5 g s0 v f tv tf) from ((f_X3_passMinuteOf_v19_eq g s0 v f tv tf).trans ((if_neg c88).trans (if_pos c93)))]) rfl rfl K102
          · refine j_aload_n C dX3_passMinuteOf_96 3 rfl ?_
            refine j_aload_n C dX3_passMinuteOf_97 4 rfl ?_
            refine j_iload_n C dX3_passMinuteOf_98 2 rfl ?_
            refine j_callV_v (wc' := [oS a sa da (f_X3_chargeOverrun_g w2 s0 w15 w3 (f_X3_hourOfNow_r g)), aI G sa 7 s0, oD b h (f_X3_chargeOverrun_v w2 s0 w15 w3 (f_X3_hourOfNow_r g)), aB G h (f_X3_chargeOverrun_f w2 s0 w15 w3 (f_X3_hourOfNow_r g))]) C (m_X3_chargeOverrun l G a b sa da h w2 s0 w15 w3 (f_X3_hourOfNow_r g)) rfl 0 rfl 2 (gV kw_224 kw_225 kw_346 kw_2 kw_226) (by decide +kernel) ⟨(Nat.le_of_ble_eq_true rfl), (Nat.le_of_ble_eq_true rfl)⟩ rfl rfl (Nat.le_of_ble_eq_true rfl) dX3_passMinuteOf_99 ⟨(Nat.le_of_ble_eq_true rfl), (Nat.le_of_ble_eq_true rfl)⟩ [oD t k w13, aB G k tf] [oS a sa da (f_X3_chargeOverrun_g w2 s0 w15 w3 (f_X3_hourOfNow_r g)), aI G sa 7 s0, oD b h (f_X3_chargeOverrun_v w2 s0 w15 w3 (f_X3_hourOfNow_r g)), aB G h (f_X3_chargeOverrun_f w2 s0 w15 w3 (f_X3_hourOfNow_r g)), oD t k w13, aB G k tf] (perm_idx [0, 1, 2, 4, 3, 5] 6 rfl (by decide +kernel) rfl) rfl ?_
            generalize hzw16 : f_X3_chargeOverrun_g w2 s0 w15 w3 (f_X3_hourOfNow_r g) = w16
            have hw16 : f_X3_passMinuteOf_gq16 g s0 v f tv tf = w16 := by subst hw2 hw3 hw4 hw7 hw8 hw12 hw13 hw14 hw15; subst hzw16; exact (f_X3_passMinuteOf_gq16_eq g s0 v f tv tf)
            generalize hzw17 : f_X3_chargeOverrun_v w2 s0 w15 w3 (f_X3_hourOfNow_r g) = w17
            have hw17 : f_X3_passMinuteOf_vq16 g s0 v f tv tf = w17 := by subst hw2 hw3 hw4 hw7 hw8 hw12 hw13 hw14 hw15 hw16; subst hzw17; exact (f_X3_passMinuteOf_vq16_eq g s0 v f tv tf)
            generalize hzw18 : f_X3_chargeOverrun_f w2 s0 w15 w3 (f_X3_hourOfNow_r g) = w18
            have hw18 : f_X3_passMinuteOf_fq16 g s0 v f tv tf = w18 := by subst hw2 hw3 hw4 hw7 hw8 hw12 hw13 hw14 hw15 hw16 hw17; subst hzw18; exact (f_X3_passMinuteOf_fq16_eq g s0 v f tv tf)
            refine j_perm ([oS a sa da w16, aI G sa 7 s0, oD b h w17, oD t k w13, aB G h w18, aB G k tf]) (perm_idx [0, 1, 2, 4, 3, 5] 6 rfl (by decide +kernel) rfl) ?_
            subst hw2 hw3 hw4 hw7 hw8 hw12 hw13 hw14 hw15 hw16 hw17 hw18; exact j_eq (by rw [show f_X3_passMinuteOf_v17 g s0 v f tv tf = (f_X3_passMinuteOf_gq16 g s0 v f tv tf) from ((f_X3_passMinuteOf_v17_eq g s0 v f tv tf).trans ((if_neg c88).trans (if_neg c93))), show f_X3_passMinuteOf_v18 g s0 v f tv tf = (f_X3_passMinuteOf_vq16 g s0 v f tv tf) from ((f_X3_passMinuteOf_v18_eq g s0 v f tv tf).trans ((if_neg c88).trans (if_neg c93))), show f_X3_passMinuteOf_v19 g s0 v f tv tf = (f_X3_passMinuteOf_fq16 g s0 v f tv tf) from ((f_X3_passMinuteOf_v19_eq g s0 v f tv tf).trans ((if_neg c88).trans (if_neg c93)))]) rfl rfl K102
      refine j_if_eq (tgt := 77) C dX3_passMinuteOf_54 (by decide) (fun c54 => ?_) (fun c54 => ?_)
      · subst hw2 hw3 hw4 hw7 hw8; exact j_eq (by rw [show f_X3_passMinuteOf_v13 g s0 v f tv tf = f_X0_writeHeld_v (f_X3_passMinuteOf_v8 g s0 v f tv tf) from ((f_X3_passMinuteOf_v13_eq g s0 v f tv tf).trans (if_pos c54)), show f_X3_passMinuteOf_v14 g s0 v f tv tf = (f_X3_passMinuteOf_v9 g s0 v f tv tf) from ((f_X3_passMinuteOf_v14_eq g s0 v f tv tf).trans (if_pos c54))]) rfl rfl K77
      · refine j_aload_n C dX3_passMinuteOf_57 4 rfl ?_
        refine j_iload_n C dX3_passMinuteOf_58 1 rfl ?_
        refine j_callV_i (r := f_X0_isQuietIn_r w8 tf (f_X3_hourOfNow_r g)) (wc' := [oD t k w8, aB G k tf]) C (m_X0_isQuietIn l G t k w8 tf (f_X3_hourOfNow_r g)) rfl 0 rfl 1 (gV kw_176 kw_177 kw_178 kw_4 kw_179) (by decide +kernel) ⟨(Nat.le_of_ble_eq_true rfl), (Nat.le_of_ble_eq_true rfl)⟩ rfl rfl (Nat.le_of_ble_eq_true rfl) dX3_passMinuteOf_59 ⟨(Nat.le_of_ble_eq_true rfl), (Nat.le_of_ble_eq_true rfl)⟩ [oD b h (f_X0_writeHeld_v w7), oS a sa da w2, aI G sa 7 s0, aB G h w3] [oD t k w8, aB G k tf, oD b h (f_X0_writeHeld_v w7), oS a sa da w2, aI G sa 7 s0, aB G h w3] (perm_idx [1, 5, 0, 2, 3, 4] 6 rfl (by decide +kernel) rfl) rfl ?_
        generalize hzw9 : f_X0_isQuietIn_r w8 tf (f_X3_hourOfNow_r g) = w9
        have hw9 : f_X3_passMinuteOf_rq11 g s0 v f tv tf = w9 := by subst hw2 hw3 hw4 hw7 hw8; subst hzw9; exact (f_X3_passMinuteOf_rq11_eq g s0 v f tv tf)
        refine j_if_ne (tgt := 77) C dX3_passMinuteOf_62 (by decide) (fun c62 => ?_) (fun c62 => ?_)
        · refine j_perm ([oD b h (f_X0_writeHeld_v w7), oD t k w8, oS a sa da w2, aI G sa 7 s0, aB G h w3, aB G k tf]) (perm_idx [2, 0, 3, 4, 5, 1] 6 rfl (by decide +kernel) rfl) ?_
          subst hw2 hw3 hw4 hw7 hw8 hw9; exact j_eq (by rw [show f_X3_passMinuteOf_v13 g s0 v f tv tf = f_X0_writeHeld_v (f_X3_passMinuteOf_v8 g s0 v f tv tf) from ((f_X3_passMinuteOf_v13_eq g s0 v f tv tf).trans ((if_neg c54).trans (if_neg c62))), show f_X3_passMinuteOf_v14 g s0 v f tv tf = (f_X3_passMinuteOf_v9 g s0 v f tv tf) from ((f_X3_passMinuteOf_v14_eq g s0 v f tv tf).trans ((if_neg c54).trans (if_neg c62)))]) rfl rfl K77
        · refine j_aload_n C dX3_passMinuteOf_65 3 rfl ?_
          refine j_aload_n C dX3_passMinuteOf_66 4 rfl ?_
          refine j_aload_n C dX3_passMinuteOf_67 2 rfl ?_
          refine j_get C kin3 rfl 3 rfl 0 (by decide) kw_74 rfl (v := .ref sa) rfl dX3_passMinuteOf_68 ?_
          refine j_bipush (v := 6) C dX3_passMinuteOf_71 (by decide) ?_
          refine j_iald C 4 rfl (vin_lit rfl) (v := s0 6) rfl dX3_passMinuteOf_73 ?_
          refine j_callV_v (wc' := [oD b h (f_X0_lendTo_v (f_X0_writeHeld_v w7) w8 (s0 6)), oD t k (f_X0_lendTo_t (f_X0_writeHeld_v w7) w8 (s0 6))]) C (m_X0_lendTo l G b t h k (f_X0_writeHeld_v w7) w8 (s0 6)) rfl 0 rfl 2 (gV kw_212 kw_213 kw_214 kw_4 kw_215) (by decide +kernel) ⟨(Nat.le_of_ble_eq_true rfl), (Nat.le_of_ble_eq_true rfl)⟩ rfl rfl (Nat.le_of_ble_eq_true rfl) dX3_passMinuteOf_74 ⟨(Nat.le_of_ble_eq_true rfl), (Nat.le_of_ble_eq_true rfl)⟩ [aB G k tf, oS a sa da w2, aI G sa 7 s0, aB G h w3] [oD b h (f_X0_lendTo_v (f_X0_writeHeld_v w7) w8 (s0 6)), oD t k (f_X0_lendTo_t (f_X0_writeHeld_v w7) w8 (s0 6)), aB G k tf, oS a sa da w2, aI G sa 7 s0, aB G h w3] (perm_idx [2, 0, 1, 3, 4, 5] 6 rfl (by decide +kernel) rfl) rfl ?_
          generalize hzw10 : f_X0_lendTo_v (f_X0_writeHeld_v w7) w8 (s0 6) = w10
          have hw10 : f_X3_passMinuteOf_vq12 g s0 v f tv tf = w10 := by subst hw2 hw3 hw4 hw7 hw8 hw9; subst hzw10; exact (f_X3_passMinuteOf_vq12_eq g s0 v f tv tf)
          generalize hzw11 : f_X0_lendTo_t (f_X0_writeHeld_v w7) w8 (s0 6) = w11
          have hw11 : f_X3_passMinuteOf_tq12 g s0 v f tv tf = w11 := by subst hw2 hw3 hw4 hw7 hw8 hw9 hw10; subst hzw11; exact (f_X3_passMinuteOf_tq12_eq g s0 v f tv tf)
          refine j_perm ([oD b h w10, oD t k w11, oS a sa da w2, aI G sa 7 s0, aB G h w3, aB G k tf]) (perm_idx [0, 1, 3, 4, 5, 2] 6 rfl (by decide +kernel) rfl) ?_
          subst hw2 hw3 hw4 hw7 hw8 hw9 hw10 hw11; exact j_eq (by rw [show f_X3_passMinuteOf_v13 g s0 v f tv tf = (f_X3_passMinuteOf_vq12 g s0 v f tv tf) from ((f_X3_passMinuteOf_v13_eq g s0 v f tv tf).trans ((if_neg c54).trans (if_pos c62))), show f_X3_passMinuteOf_v14 g s0 v f tv tf = (f_X3_passMinuteOf_tq12 g s0 v f tv tf) from ((f_X3_passMinuteOf_v14_eq g s0 v f tv tf).trans ((if_neg c54).trans (if_pos c62)))]) rfl rfl K77
    refine j_if_ne (tgt := 48) C dX3_passMinuteOf_40 (by decide) (fun c40 => ?_) (fun c40 => ?_)
    · refine j_perm ([oD b h w4, oD t k tv, oS a sa da w2, aI G sa 7 s0, aB G h w3, aB G k tf]) (perm_idx [0, 4, 1, 2, 3, 5] 6 rfl (by decide +kernel) rfl) ?_
      subst hw2 hw3 hw4; exact j_eq (by rw [show f_X3_passMinuteOf_v8 g s0 v f tv tf = (f_X3_passMinuteOf_vq6 g s0 v f tv tf) from ((f_X3_passMinuteOf_v8_eq g s0 v f tv tf).trans (if_neg c40)), show f_X3_passMinuteOf_v9 g s0 v f tv tf = tv from ((f_X3_passMinuteOf_v9_eq g s0 v f tv tf).trans (if_neg c40))]) rfl rfl K48
    · refine j_aload_n C dX3_passMinuteOf_43 3 rfl ?_
      refine j_aload_n C dX3_passMinuteOf_44 4 rfl ?_
      refine j_callV_v (wc' := [oD b h (f_X0_takeBackFrom_v w4 tv), oD t k (f_X0_takeBackFrom_t w4 tv)]) C (m_X0_takeBackFrom l G b t h k w4 tv) rfl 0 rfl 1 (gV kw_198 kw_199 kw_200 kw_4 kw_201) (by decide +kernel) ⟨(Nat.le_of_ble_eq_true rfl), (Nat.le_of_ble_eq_true rfl)⟩ rfl rfl (Nat.le_of_ble_eq_true rfl) dX3_passMinuteOf_45 ⟨(Nat.le_of_ble_eq_true rfl), (Nat.le_of_ble_eq_true rfl)⟩ [oS a sa da w2, aI G sa 7 s0, aB G h w3, aB G k tf] [oD b h (f_X0_takeBackFrom_v w4 tv), oD t k (f_X0_takeBackFrom_t w4 tv), oS a sa da w2, aI G sa 7 s0, aB G h w3, aB G k tf] (perm_idx [0, 4, 1, 2, 3, 5] 6 rfl (by decide +kernel) rfl) rfl ?_
      generalize hzw5 : f_X0_takeBackFrom_v w4 tv = w5
      have hw5 : f_X3_passMinuteOf_vq7 g s0 v f tv tf = w5 := by subst hw2 hw3 hw4; subst hzw5; exact (f_X3_passMinuteOf_vq7_eq g s0 v f tv tf)
      generalize hzw6 : f_X0_takeBackFrom_t w4 tv = w6
      have hw6 : f_X3_passMinuteOf_tq7 g s0 v f tv tf = w6 := by subst hw2 hw3 hw4 hw5; subst hzw6; exact (f_X3_passMinuteOf_tq7_eq g s0 v f tv tf)
      subst hw2 hw3 hw4 hw5 hw6; exact j_eq (by rw [show f_X3_passMinuteOf_v8 g s0 v f tv tf = (f_X3_passMinuteOf_vq7 g s0 v f tv tf) from ((f_X3_passMinuteOf_v8_eq g s0 v f tv tf).trans (if_pos c40)), show f_X3_passMinuteOf_v9 g s0 v f tv tf = (f_X3_passMinuteOf_tq7 g s0 v f tv tf) from ((f_X3_passMinuteOf_v9_eq g s0 v f tv tf).trans (if_pos c40))]) rfl rfl K48
  refine j_if_ne (tgt := 30) C dX3_passMinuteOf_19 (by decide) (fun c19 => ?_) (fun c19 => ?_)
  · refine j_perm ([oS a sa da g, aI G sa 7 s0, oD b h v, aB G h f, oD t k tv, aB G k tf]) (perm_idx [2, 3, 0, 1, 4, 5] 6 rfl (by decide +kernel) rfl) ?_
    exact j_eq (by rw [show f_X3_passMinuteOf_v4 g s0 v f tv tf = g from ((f_X3_passMinuteOf_v4_eq g s0 v f tv tf).trans (if_neg c19)), show f_X3_passMinuteOf_v5 g s0 v f tv tf = f from ((f_X3_passMinuteOf_v5_eq g s0 v f tv tf).trans (if_neg c19))]) rfl rfl K30
  · refine j_aload_n C dX3_passMinuteOf_22 2 rfl ?_
    refine j_aload_n C dX3_passMinuteOf_23 3 rfl ?_
    refine j_iload_n C dX3_passMinuteOf_24 1 rfl ?_
    refine j_iload C dX3_passMinuteOf_25 0 rfl ?_
    refine j_callV_v (wc' := [oS a sa da (f_X3_settleHours_g g s0 v f (f_X3_hourOfNow_r g) (f_X0_isQuietIn_r v f (f_X3_hourOfNow_r g))), aI G sa 7 s0, oD b h v, aB G h (f_X3_settleHours_f g s0 v f (f_X3_hourOfNow_r g) (f_X0_isQuietIn_r v f (f_X3_hourOfNow_r g)))]) C (m_X3_settleHours l G a b sa da h g s0 v f (f_X3_hourOfNow_r g) (f_X0_isQuietIn_r v f (f_X3_hourOfNow_r g))) rfl 0 rfl 3 (gV kw_186 kw_187 kw_343 kw_2 kw_188) (by decide +kernel) ⟨(Nat.le_of_ble_eq_true rfl), (Nat.le_of_ble_eq_true rfl)⟩ rfl rfl (Nat.le_of_ble_eq_true rfl) dX3_passMinuteOf_27 ⟨(Nat.le_of_ble_eq_true rfl), (Nat.le_of_ble_eq_true rfl)⟩ [oD t k tv, aB G k tf] [oS a sa da (f_X3_settleHours_g g s0 v f (f_X3_hourOfNow_r g) (f_X0_isQuietIn_r v f (f_X3_hourOfNow_r g))), aI G sa 7 s0, oD b h v, aB G h (f_X3_settleHours_f g s0 v f (f_X3_hourOfNow_r g) (f_X0_isQuietIn_r v f (f_X3_hourOfNow_r g))), oD t k tv, aB G k tf] (perm_idx [2, 3, 0, 1, 4, 5] 6 rfl (by decide +kernel) rfl) rfl ?_
    generalize hzw0 : f_X3_settleHours_g g s0 v f (f_X3_hourOfNow_r g) (f_X0_isQuietIn_r v f (f_X3_hourOfNow_r g)) = w0
    have hw0 : f_X3_passMinuteOf_gq3 g s0 v f tv tf = w0 := by subst hzw0; exact (f_X3_passMinuteOf_gq3_eq g s0 v f tv tf)
    generalize hzw1 : f_X3_settleHours_f g s0 v f (f_X3_hourOfNow_r g) (f_X0_isQuietIn_r v f (f_X3_hourOfNow_r g)) = w1
    have hw1 : f_X3_passMinuteOf_fq3 g s0 v f tv tf = w1 := by subst hw0; subst hzw1; exact (f_X3_passMinuteOf_fq3_eq g s0 v f tv tf)
    subst hw0 hw1; exact j_eq (by rw [show f_X3_passMinuteOf_v4 g s0 v f tv tf = (f_X3_passMinuteOf_gq3 g s0 v f tv tf) from ((f_X3_passMinuteOf_v4_eq g s0 v f tv tf).trans (if_pos c19)), show f_X3_passMinuteOf_v5 g s0 v f tv tf = (f_X3_passMinuteOf_fq3 g s0 v f tv tf) from ((f_X3_passMinuteOf_v5_eq g s0 v f tv tf).trans (if_pos c19))]) rfl rfl K30
end
section
/-! A MINUTE OF A STATION, AND MINUTES -/
theorem vin_lt {k : Int32} {n : Nat} {N : Int32} (hN : N.toInt = n) (h0 : ¬ k < 0) (h1 : k < N) : vp_in k n := vin_of hN h0 (Int32.not_le.mpr h1)
theorem le_cl (k : Int32) (hk : k.toNatClampNeg < 2 ^ 31) : k ≤ nI k.toNatClampNeg := by
  rw [Int32.le_iff_toInt_le, nI_toInt hk]
  show k.toInt ≤ ((k.toInt.toNat : Nat) : Int)
  omega
theorem cl_31 (k : Int32) : k.toNatClampNeg < 2 ^ 31 := by
  have := Int32.toInt_lt k
  show k.toInt.toNat < 2 ^ 31
  omega
theorem nle_cl {k : Int32} {i : Nat} (hi : i < k.toNatClampNeg) : ¬ k ≤ nI i := by
  have h := cl_31 k
  rw [Int32.le_iff_toInt_le, nI_toInt (by omega)]
  have : i < k.toInt.toNat := hi
  omega
theorem m_X4_twinOf_0 (l : Launch) (G : GG) : CtI l yX4_twinOf cX4_twinOf 1 (some .int) (RM 0) G [.int 0] [] 1 [] := by
  have h := m_X4_twinOf l G 0
  rw [show f_X4_twinOf_r 0 = 1 by decide] at h
  exact h
theorem m_X4_twinOf_1 (l : Launch) (G : GG) : CtI l yX4_twinOf cX4_twinOf 1 (some .int) (RM 0) G [.int 1] [] 0 [] := by
  have h := m_X4_twinOf l G 1
  rw [show f_X4_twinOf_r 1 = 0 by decide] at h
  exact h
theorem m_X4_twinOf_2 (l : Launch) (G : GG) : CtI l yX4_twinOf cX4_twinOf 1 (some .int) (RM 0) G [.int 2] [] 3 [] := by
  have h := m_X4_twinOf l G 2
  rw [show f_X4_twinOf_r 2 = 3 by decide] at h
  exact h
theorem m_X4_twinOf_3 (l : Launch) (G : GG) : CtI l yX4_twinOf cX4_twinOf 1 (some .int) (RM 0) G [.int 3] [] 2 [] := by
  have h := m_X4_twinOf l G 3
  rw [show f_X4_twinOf_r 3 = 2 by decide] at h
  exact h
theorem f_X3_passOneMinute_rq2_ex : ∃ F : StV → Int32, ∀ (x : StV), F x = f_X3_passMinuteOf_r x.1 x.2.1 (x.2.2.1 0) (x.2.2.2 0) (x.2.2.1 1) (x.2.2.2 1) := ⟨fun x => f_X3_passMinuteOf_r x.1 x.2.1 (x.2.2.1 0) (x.2.2.2 0) (x.2.2.1 1) (x.2.2.2 1), fun _ => rfl⟩
noncomputable def f_X3_passOneMinute_rq2 : StV → Int32 := Classical.choose f_X3_passOneMinute_rq2_ex
theorem f_X3_passOneMinute_rq2_eq (x : StV) : f_X3_passOneMinute_rq2 x = f_X3_passMinuteOf_r x.1 x.2.1 (x.2.2.1 0) (x.2.2.2 0) (x.2.2.1 1) (x.2.2.2 1) := Classical.choose_spec f_X3_passOneMinute_rq2_ex x
theorem f_X3_passOneMinute_gq2_ex : ∃ F : StV → (Nat → Int32), ∀ (x : StV), F x = f_X3_passMinuteOf_g x.1 x.2.1 (x.2.2.1 0) (x.2.2.2 0) (x.2.2.1 1) (x.2.2.2 1) := ⟨fun x => f_X3_passMinuteOf_g x.1 x.2.1 (x.2.2.1 0) (x.2.2.2 0) (x.2.2.1 1) (x.2.2.2 1), fun _ => rfl⟩
noncomputable def f_X3_passOneMinute_gq2 : StV → (Nat → Int32) := Classical.choose f_X3_passOneMinute_gq2_ex
theorem f_X3_passOneMinute_gq2_eq (x : StV) : f_X3_passOneMinute_gq2 x = f_X3_passMinuteOf_g x.1 x.2.1 (x.2.2.1 0) (x.2.2.2 0) (x.2.2.1 1) (x.2.2.2 1) := Classical.choose_spec f_X3_passOneMinute_gq2_ex x
theorem f_X3_passOneMinute_vq2_ex : ∃ F : StV → DO, ∀ (x : StV), F x = f_X3_passMinuteOf_v x.1 x.2.1 (x.2.2.1 0) (x.2.2.2 0) (x.2.2.1 1) (x.2.2.2 1) := ⟨fun x => f_X3_passMinuteOf_v x.1 x.2.1 (x.2.2.1 0) (x.2.2.2 0) (x.2.2.1 1) (x.2.2.2 1), fun _ => rfl⟩
noncomputable def f_X3_passOneMinute_vq2 : StV → DO := Classical.choose f_X3_passOneMinute_vq2_ex
theorem f_X3_passOneMinute_vq2_eq (x : StV) : f_X3_passOneMinute_vq2 x = f_X3_passMinuteOf_v x.1 x.2.1 (x.2.2.1 0) (x.2.2.2 0) (x.2.2.1 1) (x.2.2.2 1) := Classical.choose_spec f_X3_passOneMinute_vq2_ex x
theorem f_X3_passOneMinute_fq2_ex : ∃ F : StV → (Nat → Int8), ∀ (x : StV), F x = f_X3_passMinuteOf_f x.1 x.2.1 (x.2.2.1 0) (x.2.2.2 0) (x.2.2.1 1) (x.2.2.2 1) := ⟨fun x => f_X3_passMinuteOf_f x.1 x.2.1 (x.2.2.1 0) (x.2.2.2 0) (x.2.2.1 1) (x.2.2.2 1), fun _ => rfl⟩
noncomputable def f_X3_passOneMinute_fq2 : StV → (Nat → Int8) := Classical.choose f_X3_passOneMinute_fq2_ex
theorem f_X3_passOneMinute_fq2_eq (x : StV) : f_X3_passOneMinute_fq2 x = f_X3_passMinuteOf_f x.1 x.2.1 (x.2.2.1 0) (x.2.2.2 0) (x.2.2.1 1) (x.2.2.2 1) := Classical.choose_spec f_X3_passOneMinute_fq2_ex x
theorem f_X3_passOneMinute_tvq2_ex : ∃ F : StV → DO, ∀ (x : StV), F x = f_X3_passMinuteOf_tv x.1 x.2.1 (x.2.2.1 0) (x.2.2.2 0) (x.2.2.1 1) (x.2.2.2 1) := ⟨fun x => f_X3_passMinuteOf_tv x.1 x.2.1 (x.2.2.1 0) (x.2.2.2 0) (x.2.2.1 1) (x.2.2.2 1), fun _ => rfl⟩
noncomputable def f_X3_passOneMinute_tvq2 : StV → DO := Classical.choose f_X3_passOneMinute_tvq2_ex
theorem f_X3_passOneMinute_tvq2_eq (x : StV) : f_X3_passOneMinute_tvq2 x = f_X3_passMinuteOf_tv x.1 x.2.1 (x.2.2.1 0) (x.2.2.2 0) (x.2.2.1 1) (x.2.2.2 1) := Classical.choose_spec f_X3_passOneMinute_tvq2_ex x
theorem f_X3_passOneMinute_x3_ex : ∃ F : StV → Int32, ∀ (x : StV), F x = (if (f_X3_passOneMinute_rq2 x) = 0 then 0 else 1) := ⟨fun x => (if (f_X3_passOneMinute_rq2 x) = 0 then 0 else 1), fun _ => rfl⟩
noncomputable def f_X3_passOneMinute_x3 : StV → Int32 := Classical.choose f_X3_passOneMinute_x3_ex
theorem f_X3_passOneMinute_x3_eq (x : StV) : f_X3_passOneMinute_x3 x = (if (f_X3_passOneMinute_rq2 x) = 0 then 0 else 1) := Classical.choose_spec f_X3_passOneMinute_x3_ex x
theorem f_X3_passOneMinute_rq5_ex : ∃ F : StV → Int32, ∀ (x : StV), F x = f_X3_passMinuteOf_r (f_X3_passOneMinute_gq2 x) x.2.1 (f_X3_passOneMinute_tvq2 x) (x.2.2.2 1) (f_X3_passOneMinute_vq2 x) (f_X3_passOneMinute_fq2 x) := ⟨fun x => f_X3_passMinuteOf_r (f_X3_passOneMinute_gq2 x) x.2.1 (f_X3_passOneMinute_tvq2 x) (x.2.2.2 1) (f_X3_passOneMinute_vq2 x) (f_X3_passOneMinute_fq2 x), fun _ => rfl⟩
noncomputable def f_X3_passOneMinute_rq5 : StV → Int32 := Classical.choose f_X3_passOneMinute_rq5_ex
theorem f_X3_passOneMinute_rq5_eq (x : StV) : f_X3_passOneMinute_rq5 x = f_X3_passMinuteOf_r (f_X3_passOneMinute_gq2 x) x.2.1 (f_X3_passOneMinute_tvq2 x) (x.2.2.2 1) (f_X3_passOneMinute_vq2 x) (f_X3_passOneMinute_fq2 x) := Classical.choose_spec f_X3_passOneMinute_rq5_ex x
theorem f_X3_passOneMinute_gq5_ex : ∃ F : StV → (Nat → Int32), ∀ (x : StV), F x = f_X3_passMinuteOf_g (f_X3_passOneMinute_gq2 x) x.2.1 (f_X3_passOneMinute_tvq2 x) (x.2.2.2 1) (f_X3_passOneMinute_vq2 x) (f_X3_passOneMinute_fq2 x) := ⟨fun x => f_X3_passMinuteOf_g (f_X3_passOneMinute_gq2 x) x.2.1 (f_X3_passOneMinute_tvq2 x) (x.2.2.2 1) (f_X3_passOneMinute_vq2 x) (f_X3_passOneMinute_fq2 x), fun _ => rfl⟩
noncomputable def f_X3_passOneMinute_gq5 : StV → (Nat → Int32) := Classical.choose f_X3_passOneMinute_gq5_ex
theorem f_X3_passOneMinute_gq5_eq (x : StV) : f_X3_passOneMinute_gq5 x = f_X3_passMinuteOf_g (f_X3_passOneMinute_gq2 x) x.2.1 (f_X3_passOneMinute_tvq2 x) (x.2.2.2 1) (f_X3_passOneMinute_vq2 x) (f_X3_passOneMinute_fq2 x) := Classical.choose_spec f_X3_passOneMinute_gq5_ex x
theorem f_X3_passOneMinute_vq5_ex : ∃ F : StV → DO, ∀ (x : StV), F x = f_X3_passMinuteOf_v (f_X3_passOneMinute_gq2 x) x.2.1 (f_X3_passOneMinute_tvq2 x) (x.2.2.2 1) (f_X3_passOneMinute_vq2 x) (f_X3_passOneMinute_fq2 x) := ⟨fun x => f_X3_passMinuteOf_v (f_X3_passOneMinute_gq2 x) x.2.1 (f_X3_passOneMinute_tvq2 x) (x.2.2.2 1) (f_X3_passOneMinute_vq2 x) (f_X3_passOneMinute_fq2 x), fun _ => rfl⟩
noncomputable def f_X3_passOneMinute_vq5 : StV → DO := Classical.choose f_X3_passOneMinute_vq5_ex
theorem f_X3_passOneMinute_vq5_eq (x : StV) : f_X3_passOneMinute_vq5 x = f_X3_passMinuteOf_v (f_X3_passOneMinute_gq2 x) x.2.1 (f_X3_passOneMinute_tvq2 x) (x.2.2.2 1) (f_X3_passOneMinute_vq2 x) (f_X3_passOneMinute_fq2 x) := Classical.choose_spec f_X3_passOneMinute_vq5_ex x
theorem f_X3_passOneMinute_fq5_ex : ∃ F : StV → (Nat → Int8), ∀ (x : StV), F x = f_X3_passMinuteOf_f (f_X3_passOneMinute_gq2 x) x.2.1 (f_X3_passOneMinute_tvq2 x) (x.2.2.2 1) (f_X3_passOneMinute_vq2 x) (f_X3_passOneMinute_fq2 x) := ⟨fun x => f_X3_passMinuteOf_f (f_X3_passOneMinute_gq2 x) x.2.1 (f_X3_passOneMinute_tvq2 x) (x.2.2.2 1) (f_X3_passOneMinute_vq2 x) (f_X3_passOneMinute_fq2 x), fun _ => rfl⟩
noncomputable def f_X3_passOneMinute_fq5 : StV → (Nat → Int8) := Classical.choose f_X3_passOneMinute_fq5_ex
theorem f_X3_passOneMinute_fq5_eq (x : StV) : f_X3_passOneMinute_fq5 x = f_X3_passMinuteOf_f (f_X3_passOneMinute_gq2 x) x.2.1 (f_X3_passOneMinute_tvq2 x) (x.2.2.2 1) (f_X3_passOneMinute_vq2 x) (f_X3_passOneMinute_fq2 x) := Classical.choose_spec f_X3_passOneMinute_fq5_ex x
theorem f_X3_passOneMinute_tvq5_ex : ∃ F : StV → DO, ∀ (x : StV), F x = f_X3_passMinuteOf_tv (f_X3_passOneMinute_gq2 x) x.2.1 (f_X3_passOneMinute_tvq2 x) (x.2.2.2 1) (f_X3_passOneMinute_vq2 x) (f_X3_passOneMinute_fq2 x) := ⟨fun x => f_X3_passMinuteOf_tv (f_X3_passOneMinute_gq2 x) x.2.1 (f_X3_passOneMinute_tvq2 x) (x.2.2.2 1) (f_X3_passOneMinute_vq2 x) (f_X3_passOneMinute_fq2 x), fun _ => rfl⟩
noncomputable def f_X3_passOneMinute_tvq5 : StV → DO := Classical.choose f_X3_passOneMinute_tvq5_ex
theorem f_X3_passOneMinute_tvq5_eq (x : StV) : f_X3_passOneMinute_tvq5 x = f_X3_passMinuteOf_tv (f_X3_passOneMinute_gq2 x) x.2.1 (f_X3_passOneMinute_tvq2 x) (x.2.2.2 1) (f_X3_passOneMinute_vq2 x) (f_X3_passOneMinute_fq2 x) := Classical.choose_spec f_X3_passOneMinute_tvq5_ex x
theorem f_X3_passOneMinute_x6_ex : ∃ F : StV → Int32, ∀ (x : StV), F x = (if (f_X3_passOneMinute_rq5 x) = 0 then (f_X3_passOneMinute_x3 x) else 1) := ⟨fun x => (if (f_X3_passOneMinute_rq5 x) = 0 then (f_X3_passOneMinute_x3 x) else 1), fun _ => rfl⟩
noncomputable def f_X3_passOneMinute_x6 : StV → Int32 := Classical.choose f_X3_passOneMinute_x6_ex
theorem f_X3_passOneMinute_x6_eq (x : StV) : f_X3_passOneMinute_x6 x = (if (f_X3_passOneMinute_rq5 x) = 0 then (f_X3_passOneMinute_x3 x) else 1) := Classical.choose_spec f_X3_passOneMinute_x6_ex x
theorem f_X3_passOneMinute_rq8_ex : ∃ F : StV → Int32, ∀ (x : StV), F x = f_X3_passMinuteOf_r (f_X3_passOneMinute_gq5 x) x.2.1 (x.2.2.1 2) (x.2.2.2 2) (x.2.2.1 3) (x.2.2.2 3) := ⟨fun x => f_X3_passMinuteOf_r (f_X3_passOneMinute_gq5 x) x.2.1 (x.2.2.1 2) (x.2.2.2 2) (x.2.2.1 3) (x.2.2.2 3), fun _ => rfl⟩
noncomputable def f_X3_passOneMinute_rq8 : StV → Int32 := Classical.choose f_X3_passOneMinute_rq8_ex
theorem f_X3_passOneMinute_rq8_eq (x : StV) : f_X3_passOneMinute_rq8 x = f_X3_passMinuteOf_r (f_X3_passOneMinute_gq5 x) x.2.1 (x.2.2.1 2) (x.2.2.2 2) (x.2.2.1 3) (x.2.2.2 3) := Classical.choose_spec f_X3_passOneMinute_rq8_ex x
theorem f_X3_passOneMinute_gq8_ex : ∃ F : StV → (Nat → Int32), ∀ (x : StV), F x = f_X3_passMinuteOf_g (f_X3_passOneMinute_gq5 x) x.2.1 (x.2.2.1 2) (x.2.2.2 2) (x.2.2.1 3) (x.2.2.2 3) := ⟨fun x => f_X3_passMinuteOf_g (f_X3_passOneMinute_gq5 x) x.2.1 (x.2.2.1 2) (x.2.2.2 2) (x.2.2.1 3) (x.2.2.2 3), fun _ => rfl⟩
noncomputable def f_X3_passOneMinute_gq8 : StV → (Nat → Int32) := Classical.choose f_X3_passOneMinute_gq8_ex
theorem f_X3_passOneMinute_gq8_eq (x : StV) : f_X3_passOneMinute_gq8 x = f_X3_passMinuteOf_g (f_X3_passOneMinute_gq5 x) x.2.1 (x.2.2.1 2) (x.2.2.2 2) (x.2.2.1 3) (x.2.2.2 3) := Classical.choose_spec f_X3_passOneMinute_gq8_ex x
theorem f_X3_passOneMinute_vq8_ex : ∃ F : StV → DO, ∀ (x : StV), F x = f_X3_passMinuteOf_v (f_X3_passOneMinute_gq5 x) x.2.1 (x.2.2.1 2) (x.2.2.2 2) (x.2.2.1 3) (x.2.2.2 3) := ⟨fun x => f_X3_passMinuteOf_v (f_X3_passOneMinute_gq5 x) x.2.1 (x.2.2.1 2) (x.2.2.2 2) (x.2.2.1 3) (x.2.2.2 3), fun _ => rfl⟩
noncomputable def f_X3_passOneMinute_vq8 : StV → DO := Classical.choose f_X3_passOneMinute_vq8_ex
theorem f_X3_passOneMinute_vq8_eq (x : StV) : f_X3_passOneMinute_vq8 x = f_X3_passMinuteOf_v (f_X3_passOneMinute_gq5 x) x.2.1 (x.2.2.1 2) (x.2.2.2 2) (x.2.2.1 3) (x.2.2.2 3) := Classical.choose_spec f_X3_passOneMinute_vq8_ex x
theorem f_X3_passOneMinute_fq8_ex : ∃ F : StV → (Nat → Int8), ∀ (x : StV), F x = f_X3_passMinuteOf_f (f_X3_passOneMinute_gq5 x) x.2.1 (x.2.2.1 2) (x.2.2.2 2) (x.2.2.1 3) (x.2.2.2 3) := ⟨fun x => f_X3_passMinuteOf_f (f_X3_passOneMinute_gq5 x) x.2.1 (x.2.2.1 2) (x.2.2.2 2) (x.2.2.1 3) (x.2.2.2 3), fun _ => rfl⟩
noncomputable def f_X3_passOneMinute_fq8 : StV → (Nat → Int8) := Classical.choose f_X3_passOneMinute_fq8_ex
theorem f_X3_passOneMinute_fq8_eq (x : StV) : f_X3_passOneMinute_fq8 x = f_X3_passMinuteOf_f (f_X3_passOneMinute_gq5 x) x.2.1 (x.2.2.1 2) (x.2.2.2 2) (x.2.2.1 3) (x.2.2.2 3) := Classical.choose_spec f_X3_passOneMinute_fq8_ex x
theorem f_X3_passOneMinute_tvq8_ex : ∃ F : StV → DO, ∀ (x : StV), F x = f_X3_passMinuteOf_tv (f_X3_passOneMinute_gq5 x) x.2.1 (x.2.2.1 2) (x.2.2.2 2) (x.2.2.1 3) (x.2.2.2 3) := ⟨fun x => f_X3_passMinuteOf_tv (f_X3_passOneMinute_gq5 x) x.2.1 (x.2.2.1 2) (x.2.2.2 2) (x.2.2.1 3) (x.2.2.2 3), fun _ => rfl⟩
noncomputable def f_X3_passOneMinute_tvq8 : StV → DO := Classical.choose f_X3_passOneMinute_tvq8_ex
theorem f_X3_passOneMinute_tvq8_eq (x : StV) : f_X3_passOneMinute_tvq8 x = f_X3_passMinuteOf_tv (f_X3_passOneMinute_gq5 x) x.2.1 (x.2.2.1 2) (x.2.2.2 2) (x.2.2.1 3) (x.2.2.2 3) := Classical.choose_spec f_X3_passOneMinute_tvq8_ex x
theorem f_X3_passOneMinute_x9_ex : ∃ F : StV → Int32, ∀ (x : StV), F x = (if (f_X3_passOneMinute_rq8 x) = 0 then (f_X3_passOneMinute_x6 x) else 1) := ⟨fun x => (if (f_X3_passOneMinute_rq8 x) = 0 then (f_X3_passOneMinute_x6 x) else 1), fun _ => rfl⟩
noncomputable def f_X3_passOneMinute_x9 : StV → Int32 := Classical.choose f_X3_passOneMinute_x9_ex
theorem f_X3_passOneMinute_x9_eq (x : StV) : f_X3_passOneMinute_x9 x = (if (f_X3_passOneMinute_rq8 x) = 0 then (f_X3_passOneMinute_x6 x) else 1) := Classical.choose_spec f_X3_passOneMinute_x9_ex x
theorem f_X3_passOneMinute_rq11_ex : ∃ F : StV → Int32, ∀ (x : StV), F x = f_X3_passMinuteOf_r (f_X3_passOneMinute_gq8 x) x.2.1 (f_X3_passOneMinute_tvq8 x) (x.2.2.2 3) (f_X3_passOneMinute_vq8 x) (f_X3_passOneMinute_fq8 x) := ⟨fun x => f_X3_passMinuteOf_r (f_X3_passOneMinute_gq8 x) x.2.1 (f_X3_passOneMinute_tvq8 x) (x.2.2.2 3) (f_X3_passOneMinute_vq8 x) (f_X3_passOneMinute_fq8 x), fun _ => rfl⟩
noncomputable def f_X3_passOneMinute_rq11 : StV → Int32 := Classical.choose f_X3_passOneMinute_rq11_ex
theorem f_X3_passOneMinute_rq11_eq (x : StV) : f_X3_passOneMinute_rq11 x = f_X3_passMinuteOf_r (f_X3_passOneMinute_gq8 x) x.2.1 (f_X3_passOneMinute_tvq8 x) (x.2.2.2 3) (f_X3_passOneMinute_vq8 x) (f_X3_passOneMinute_fq8 x) := Classical.choose_spec f_X3_passOneMinute_rq11_ex x
theorem f_X3_passOneMinute_gq11_ex : ∃ F : StV → (Nat → Int32), ∀ (x : StV), F x = f_X3_passMinuteOf_g (f_X3_passOneMinute_gq8 x) x.2.1 (f_X3_passOneMinute_tvq8 x) (x.2.2.2 3) (f_X3_passOneMinute_vq8 x) (f_X3_passOneMinute_fq8 x) := ⟨fun x => f_X3_passMinuteOf_g (f_X3_passOneMinute_gq8 x) x.2.1 (f_X3_passOneMinute_tvq8 x) (x.2.2.2 3) (f_X3_passOneMinute_vq8 x) (f_X3_passOneMinute_fq8 x), fun _ => rfl⟩
noncomputable def f_X3_passOneMinute_gq11 : StV → (Nat → Int32) := Classical.choose f_X3_passOneMinute_gq11_ex
theorem f_X3_passOneMinute_gq11_eq (x : StV) : f_X3_passOneMinute_gq11 x = f_X3_passMinuteOf_g (f_X3_passOneMinute_gq8 x) x.2.1 (f_X3_passOneMinute_tvq8 x) (x.2.2.2 3) (f_X3_passOneMinute_vq8 x) (f_X3_passOneMinute_fq8 x) := Classical.choose_spec f_X3_passOneMinute_gq11_ex x
theorem f_X3_passOneMinute_vq11_ex : ∃ F : StV → DO, ∀ (x : StV), F x = f_X3_passMinuteOf_v (f_X3_passOneMinute_gq8 x) x.2.1 (f_X3_passOneMinute_tvq8 x) (x.2.2.2 3) (f_X3_passOneMinute_vq8 x) (f_X3_passOneMinute_fq8 x) := ⟨fun x => f_X3_passMinuteOf_v (f_X3_passOneMinute_gq8 x) x.2.1 (f_X3_passOneMinute_tvq8 x) (x.2.2.2 3) (f_X3_passOneMinute_vq8 x) (f_X3_passOneMinute_fq8 x), fun _ => rfl⟩
noncomputable def f_X3_passOneMinute_vq11 : StV → DO := Classical.choose f_X3_passOneMinute_vq11_ex
theorem f_X3_passOneMinute_vq11_eq (x : StV) : f_X3_passOneMinute_vq11 x = f_X3_passMinuteOf_v (f_X3_passOneMinute_gq8 x) x.2.1 (f_X3_passOneMinute_tvq8 x) (x.2.2.2 3) (f_X3_passOneMinute_vq8 x) (f_X3_passOneMinute_fq8 x) := Classical.choose_spec f_X3_passOneMinute_vq11_ex x
theorem f_X3_passOneMinute_fq11_ex : ∃ F : StV → (Nat → Int8), ∀ (x : StV), F x = f_X3_passMinuteOf_f (f_X3_passOneMinute_gq8 x) x.2.1 (f_X3_passOneMinute_tvq8 x) (x.2.2.2 3) (f_X3_passOneMinute_vq8 x) (f_X3_passOneMinute_fq8 x) := ⟨fun x => f_X3_passMinuteOf_f (f_X3_passOneMinute_gq8 x) x.2.1 (f_X3_passOneMinute_tvq8 x) (x.2.2.2 3) (f_X3_passOneMinute_vq8 x) (f_X3_passOneMinute_fq8 x), fun _ => rfl⟩
noncomputable def f_X3_passOneMinute_fq11 : StV → (Nat → Int8) := Classical.choose f_X3_passOneMinute_fq11_ex
theorem f_X3_passOneMinute_fq11_eq (x : StV) : f_X3_passOneMinute_fq11 x = f_X3_passMinuteOf_f (f_X3_passOneMinute_gq8 x) x.2.1 (f_X3_passOneMinute_tvq8 x) (x.2.2.2 3) (f_X3_passOneMinute_vq8 x) (f_X3_passOneMinute_fq8 x) := Classical.choose_spec f_X3_passOneMinute_fq11_ex x
theorem f_X3_passOneMinute_tvq11_ex : ∃ F : StV → DO, ∀ (x : StV), F x = f_X3_passMinuteOf_tv (f_X3_passOneMinute_gq8 x) x.2.1 (f_X3_passOneMinute_tvq8 x) (x.2.2.2 3) (f_X3_passOneMinute_vq8 x) (f_X3_passOneMinute_fq8 x) := ⟨fun x => f_X3_passMinuteOf_tv (f_X3_passOneMinute_gq8 x) x.2.1 (f_X3_passOneMinute_tvq8 x) (x.2.2.2 3) (f_X3_passOneMinute_vq8 x) (f_X3_passOneMinute_fq8 x), fun _ => rfl⟩
noncomputable def f_X3_passOneMinute_tvq11 : StV → DO := Classical.choose f_X3_passOneMinute_tvq11_ex
theorem f_X3_passOneMinute_tvq11_eq (x : StV) : f_X3_passOneMinute_tvq11 x = f_X3_passMinuteOf_tv (f_X3_passOneMinute_gq8 x) x.2.1 (f_X3_passOneMinute_tvq8 x) (x.2.2.2 3) (f_X3_passOneMinute_vq8 x) (f_X3_passOneMinute_fq8 x) := Classical.choose_spec f_X3_passOneMinute_tvq11_ex x
theorem f_X3_passOneMinute_x12_ex : ∃ F : StV → Int32, ∀ (x : StV), F x = (if (f_X3_passOneMinute_rq11 x) = 0 then (f_X3_passOneMinute_x9 x) else 1) := ⟨fun x => (if (f_X3_passOneMinute_rq11 x) = 0 then (f_X3_passOneMinute_x9 x) else 1), fun _ => rfl⟩
noncomputable def f_X3_passOneMinute_x12 : StV → Int32 := Classical.choose f_X3_passOneMinute_x12_ex
theorem f_X3_passOneMinute_x12_eq (x : StV) : f_X3_passOneMinute_x12 x = (if (f_X3_passOneMinute_rq11 x) = 0 then (f_X3_passOneMinute_x9 x) else 1) := Classical.choose_spec f_X3_passOneMinute_x12_ex x
theorem f_X3_passOneMinute_g_ex : ∃ F : StV → (Nat → Int32), ∀ (x : StV), F x = upd (f_X3_passOneMinute_gq11 x) 2 (((f_X3_passOneMinute_gq11 x) 2) + 1) := ⟨fun x => upd (f_X3_passOneMinute_gq11 x) 2 (((f_X3_passOneMinute_gq11 x) 2) + 1), fun _ => rfl⟩
noncomputable def f_X3_passOneMinute_g : StV → (Nat → Int32) := Classical.choose f_X3_passOneMinute_g_ex
theorem f_X3_passOneMinute_g_eq (x : StV) : f_X3_passOneMinute_g x = upd (f_X3_passOneMinute_gq11 x) 2 (((f_X3_passOneMinute_gq11 x) 2) + 1) := Classical.choose_spec f_X3_passOneMinute_g_ex x
theorem f_X3_passOneMinute_v0_ex : ∃ F : StV → DO, ∀ (x : StV), F x = (f_X3_passOneMinute_tvq5 x) := ⟨fun x => (f_X3_passOneMinute_tvq5 x), fun _ => rfl⟩
noncomputable def f_X3_passOneMinute_v0 : StV → DO := Classical.choose f_X3_passOneMinute_v0_ex
theorem f_X3_passOneMinute_v0_eq (x : StV) : f_X3_passOneMinute_v0 x = (f_X3_passOneMinute_tvq5 x) := Classical.choose_spec f_X3_passOneMinute_v0_ex x
theorem f_X3_passOneMinute_f0_ex : ∃ F : StV → (Nat → Int8), ∀ (x : StV), F x = (f_X3_passOneMinute_fq2 x) := ⟨fun x => (f_X3_passOneMinute_fq2 x), fun _ => rfl⟩
noncomputable def f_X3_passOneMinute_f0 : StV → (Nat → Int8) := Classical.choose f_X3_passOneMinute_f0_ex
theorem f_X3_passOneMinute_f0_eq (x : StV) : f_X3_passOneMinute_f0 x = (f_X3_passOneMinute_fq2 x) := Classical.choose_spec f_X3_passOneMinute_f0_ex x
theorem f_X3_passOneMinute_v1_ex : ∃ F : StV → DO, ∀ (x : StV), F x = (f_X3_passOneMinute_vq5 x) := ⟨fun x => (f_X3_passOneMinute_vq5 x), fun _ => rfl⟩
noncomputable def f_X3_passOneMinute_v1 : StV → DO := Classical.choose f_X3_passOneMinute_v1_ex
theorem f_X3_passOneMinute_v1_eq (x : StV) : f_X3_passOneMinute_v1 x = (f_X3_passOneMinute_vq5 x) := Classical.choose_spec f_X3_passOneMinute_v1_ex x
theorem f_X3_passOneMinute_f1_ex : ∃ F : StV → (Nat → Int8), ∀ (x : StV), F x = (f_X3_passOneMinute_fq5 x) := ⟨fun x => (f_X3_passOneMinute_fq5 x), fun _ => rfl⟩
noncomputable def f_X3_passOneMinute_f1 : StV → (Nat → Int8) := Classical.choose f_X3_passOneMinute_f1_ex
theorem f_X3_passOneMinute_f1_eq (x : StV) : f_X3_passOneMinute_f1 x = (f_X3_passOneMinute_fq5 x) := Classical.choose_spec f_X3_passOneMinute_f1_ex x
theorem f_X3_passOneMinute_v2_ex : ∃ F : StV → DO, ∀ (x : StV), F x = (f_X3_passOneMinute_tvq11 x) := ⟨fun x => (f_X3_passOneMinute_tvq11 x), fun _ => rfl⟩
noncomputable def f_X3_passOneMinute_v2 : StV → DO := Classical.choose f_X3_passOneMinute_v2_ex
theorem f_X3_passOneMinute_v2_eq (x : StV) : f_X3_passOneMinute_v2 x = (f_X3_passOneMinute_tvq11 x) := Classical.choose_spec f_X3_passOneMinute_v2_ex x
theorem f_X3_passOneMinute_f2_ex : ∃ F : StV → (Nat → Int8), ∀ (x : StV), F x = (f_X3_passOneMinute_fq8 x) := ⟨fun x => (f_X3_passOneMinute_fq8 x), fun _ => rfl⟩
noncomputable def f_X3_passOneMinute_f2 : StV → (Nat → Int8) := Classical.choose f_X3_passOneMinute_f2_ex
theorem f_X3_passOneMinute_f2_eq (x : StV) : f_X3_passOneMinute_f2 x = (f_X3_passOneMinute_fq8 x) := Classical.choose_spec f_X3_passOneMinute_f2_ex x
theorem f_X3_passOneMinute_v3_ex : ∃ F : StV → DO, ∀ (x : StV), F x = (f_X3_passOneMinute_vq11 x) := ⟨fun x => (f_X3_passOneMinute_vq11 x), fun _ => rfl⟩
noncomputable def f_X3_passOneMinute_v3 : StV → DO := Classical.choose f_X3_passOneMinute_v3_ex
theorem f_X3_passOneMinute_v3_eq (x : StV) : f_X3_passOneMinute_v3 x = (f_X3_passOneMinute_vq11 x) := Classical.choose_spec f_X3_passOneMinute_v3_ex x
theorem f_X3_passOneMinute_f3_ex : ∃ F : StV → (Nat → Int8), ∀ (x : StV), F x = (f_X3_passOneMinute_fq11 x) := ⟨fun x => (f_X3_passOneMinute_fq11 x), fun _ => rfl⟩
noncomputable def f_X3_passOneMinute_f3 : StV → (Nat → Int8) := Classical.choose f_X3_passOneMinute_f3_ex
theorem f_X3_passOneMinute_f3_eq (x : StV) : f_X3_passOneMinute_f3 x = (f_X3_passOneMinute_fq11 x) := Classical.choose_spec f_X3_passOneMinute_f3_ex x
theorem f_X3_passOneMinute_r_ex : ∃ F : StV → Int32, ∀ (x : StV), F x = (f_X3_passOneMinute_x12 x) := ⟨fun x => (f_X3_passOneMinute_x12 x), fun _ => rfl⟩
noncomputable def f_X3_passOneMinute_r : StV → Int32 := Classical.choose f_X3_passOneMinute_r_ex
theorem f_X3_passOneMinute_r_eq (x : StV) : f_X3_passOneMinute_r x = (f_X3_passOneMinute_x12 x) := Classical.choose_spec f_X3_passOneMinute_r_ex x
set_option maxRecDepth 100000 in
set_option maxHeartbeats 4000000 in
theorem m_X3_passOneMinute (l : Launch) (G : GG) (ad : Nat → Nat) (x : StV)  : CtI l yX3_passOneMinute cX3_passOneMinute 3 (some .boolean) (RM 4) G [.ref (ad 0)] (cSt G ad x) (f_X3_passOneMinute_r x) (cSt G ad (f_X3_passOneMinute_g x, x.2.1, pick4 (f_X3_passOneMinute_v0 x) (f_X3_passOneMinute_v1 x) (f_X3_passOneMinute_v2 x) (f_X3_passOneMinute_v3 x), pick4 (f_X3_passOneMinute_f0 x) (f_X3_passOneMinute_f1 x) (f_X3_passOneMinute_f2 x) (f_X3_passOneMinute_f3 x))) := by
  refine ct_I RX3 [(0, .ref (ad 0))] rfl (by decide +kernel) (Nat.le_of_ble_eq_true rfl) rfl ?_
  intro p e s m args below meth c A C hr hk hnm
  generalize hQ : (MQ below (PostI G A (f_X3_passOneMinute_r x) (cSt G ad (f_X3_passOneMinute_g x, x.2.1, pick4 (f_X3_passOneMinute_v0 x) (f_X3_passOneMinute_v1 x) (f_X3_passOneMinute_v2 x) (f_X3_passOneMinute_v3 x), pick4 (f_X3_passOneMinute_f0 x) (f_X3_passOneMinute_f1 x) (f_X3_passOneMinute_f2 x) (f_X3_passOneMinute_f3 x)))) args s (RM 4).cells (RM 4).slots A) = Q
  refine j_w ([oS (ad 0) (ad 1) (ad 2) x.1, aI G (ad 1) 7 x.2.1, aD G (ad 2) 4 (fun k => some (ad (3 + 2 * k))), oD (ad 3) (ad 4) (x.2.2.1 0), aB G (ad 4) (x.2.2.2 0), oD (ad 5) (ad 6) (x.2.2.1 1), aB G (ad 6) (x.2.2.2 1), oD (ad 7) (ad 8) (x.2.2.1 2), aB G (ad 8) (x.2.2.2 2), oD (ad 9) (ad 10) (x.2.2.1 3), aB G (ad 10) (x.2.2.2 3)]) rfl ?_
  refine j_iconst (v := 0) C dX3_passOneMinute_0 (by decide) ?_
  refine j_istore_n C [(1, .int 0), (0, .ref (ad 0))] dX3_passOneMinute_1 (by decide) rfl ?_
  refine j_iconst (v := 0) C dX3_passOneMinute_2 (by decide) ?_
  refine j_istore_n C [(2, .int 0), (1, .int 0), (0, .ref (ad 0))] dX3_passOneMinute_3 (by decide) rfl ?_
  refine j_iload_n C dX3_passOneMinute_4 0 rfl ?_
  refine j_iconst (v := 4) C dX3_passOneMinute_5 (by decide) ?_
  refine j_icmp_ge (tgt := 39) C dX3_passOneMinute_6 (by decide) (fun h => absurd h (by decide)) (fun _ => ?_)
  refine j_aload_n C dX3_passOneMinute_9 2 rfl ?_
  refine j_aload_n C dX3_passOneMinute_10 2 rfl ?_
  refine j_get C kin3 rfl 0 rfl 1 (by decide) kw_76 rfl (v := .ref (ad 2)) rfl dX3_passOneMinute_11 ?_
  refine j_iload_n C dX3_passOneMinute_14 0 rfl ?_
  refine j_aaldD C 2 rfl (vin_lit rfl) (y := ad 3) rfl dX3_passOneMinute_15 ?_
  refine j_aload_n C dX3_passOneMinute_16 2 rfl ?_
  refine j_get C kin3 rfl 0 rfl 1 (by decide) kw_76 rfl (v := .ref (ad 2)) rfl dX3_passOneMinute_17 ?_
  refine j_iload_n C dX3_passOneMinute_20 0 rfl ?_
  refine j_pureSN_i (r := 1) C (m_X4_twinOf_0 l G) 1 kw_168 (List.mem_of_getElem? (i := 6) rfl) kw_1 kw_167 (by decide +kernel) ⟨(Nat.le_of_ble_eq_true rfl), (Nat.le_of_ble_eq_true rfl)⟩ rfl rfl (Nat.le_of_ble_eq_true rfl) dX3_passOneMinute_21 ⟨(Nat.le_of_ble_eq_true rfl), (Nat.le_of_ble_eq_true rfl)⟩ ?_
  refine j_aaldD C 2 rfl (vin_lit rfl) (y := ad 5) rfl dX3_passOneMinute_24 ?_
  refine j_callV_i (r := f_X3_passMinuteOf_r x.1 x.2.1 (x.2.2.1 0) (x.2.2.2 0) (x.2.2.1 1) (x.2.2.2 1)) (wc' := [oS (ad 0) (ad 1) (ad 2) (f_X3_passMinuteOf_g x.1 x.2.1 (x.2.2.1 0) (x.2.2.2 0) (x.2.2.1 1) (x.2.2.2 1)), aI G (ad 1) 7 x.2.1, oD (ad 3) (ad 4) (f_X3_passMinuteOf_v x.1 x.2.1 (x.2.2.1 0) (x.2.2.2 0) (x.2.2.1 1) (x.2.2.2 1)), aB G (ad 4) (f_X3_passMinuteOf_f x.1 x.2.1 (x.2.2.1 0) (x.2.2.2 0) (x.2.2.1 1) (x.2.2.2 1)), oD (ad 5) (ad 6) (f_X3_passMinuteOf_tv x.1 x.2.1 (x.2.2.1 0) (x.2.2.2 0) (x.2.2.1 1) (x.2.2.2 1)), aB G (ad 6) (x.2.2.2 1)]) C (m_X3_passMinuteOf l G (ad 0) (ad 3) (ad 5) (ad 1) (ad 2) (ad 4) (ad 6) x.1 x.2.1 (x.2.2.1 0) (x.2.2.2 0) (x.2.2.1 1) (x.2.2.2 1)) rfl 0 rfl 2 (gV kw_169 kw_170 kw_342 kw_2 kw_171) (by decide +kernel) ⟨(Nat.le_of_ble_eq_true rfl), (Nat.le_of_ble_eq_true rfl)⟩ rfl rfl (Nat.le_of_ble_eq_true rfl) dX3_passOneMinute_25 ⟨(Nat.le_of_ble_eq_true rfl), (Nat.le_of_ble_eq_true rfl)⟩ [aD G (ad 2) 4 (fun k => some (ad (3 + 2 * k))), oD (ad 7) (ad 8) (x.2.2.1 2), aB G (ad 8) (x.2.2.2 2), oD (ad 9) (ad 10) (x.2.2.1 3), aB G (ad 10) (x.2.2.2 3)] [oS (ad 0) (ad 1) (ad 2) (f_X3_passMinuteOf_g x.1 x.2.1 (x.2.2.1 0) (x.2.2.2 0) (x.2.2.1 1) (x.2.2.2 1)), aI G (ad 1) 7 x.2.1, oD (ad 3) (ad 4) (f_X3_passMinuteOf_v x.1 x.2.1 (x.2.2.1 0) (x.2.2.2 0) (x.2.2.1 1) (x.2.2.2 1)), aB G (ad 4) (f_X3_passMinuteOf_f x.1 x.2.1 (x.2.2.1 0) (x.2.2.2 0) (x.2.2.1 1) (x.2.2.2 1)), oD (ad 5) (ad 6) (f_X3_passMinuteOf_tv x.1 x.2.1 (x.2.2.1 0) (x.2.2.2 0) (x.2.2.1 1) (x.2.2.2 1)), aB G (ad 6) (x.2.2.2 1), aD G (ad 2) 4 (fun k => some (ad (3 + 2 * k))), oD (ad 7) (ad 8) (x.2.2.1 2), aB G (ad 8) (x.2.2.2 2), oD (ad 9) (ad 10) (x.2.2.1 3), aB G (ad 10) (x.2.2.2 3)] (perm_idx [0, 1, 3, 4, 5, 6, 2, 7, 8, 9, 10] 11 rfl (by decide +kernel) rfl) rfl ?_
  generalize hzw0 : f_X3_passMinuteOf_r x.1 x.2.1 (x.2.2.1 0) (x.2.2.2 0) (x.2.2.1 1) (x.2.2.2 1) = w0
  have hw0 : f_X3_passOneMinute_rq2 x = w0 := by subst hzw0; exact (f_X3_passOneMinute_rq2_eq x)
  generalize hzw1 : f_X3_passMinuteOf_g x.1 x.2.1 (x.2.2.1 0) (x.2.2.2 0) (x.2.2.1 1) (x.2.2.2 1) = w1
  have hw1 : f_X3_passOneMinute_gq2 x = w1 := by subst hw0; subst hzw1; exact (f_X3_passOneMinute_gq2_eq x)
  generalize hzw2 : f_X3_passMinuteOf_v x.1 x.2.1 (x.2.2.1 0) (x.2.2.2 0) (x.2.2.1 1) (x.2.2.2 1) = w2
  have hw2 : f_X3_passOneMinute_vq2 x = w2 := by subst hw0 hw1; subst hzw2; exact (f_X3_passOneMinute_vq2_eq x)
  generalize hzw3 : f_X3_passMinuteOf_f x.1 x.2.1 (x.2.2.1 0) (x.2.2.2 0) (x.2.2.1 1) (x.2.2.2 1) = w3
  have hw3 : f_X3_passOneMinute_fq2 x = w3 := by subst hw0 hw1 hw2; subst hzw3; exact (f_X3_passOneMinute_fq2_eq x)
  generalize hzw4 : f_X3_passMinuteOf_tv x.1 x.2.1 (x.2.2.1 0) (x.2.2.2 0) (x.2.2.1 1) (x.2.2.2 1) = w4
  have hw4 : f_X3_passOneMinute_tvq2 x = w4 := by subst hw0 hw1 hw2 hw3; subst hzw4; exact (f_X3_passOneMinute_tvq2_eq x)
  have K33 : WJ p l e (RM 4) s m args below meth c G A 3 0 0 Q ([oS (ad 0) (ad 1) (ad 2) w1, aI G (ad 1) 7 x.2.1, oD (ad 3) (ad 4) w2, aB G (ad 4) w3, oD (ad 5) (ad 6) w4, aB G (ad 6) (x.2.2.2 1), aD G (ad 2) 4 (fun k => some (ad (3 + 2 * k))), oD (ad 7) (ad 8) (x.2.2.1 2), aB G (ad 8) (x.2.2.2 2), oD (ad 9) (ad 10) (x.2.2.1 3), aB G (ad 10) (x.2.2.2 3)]) [(2, .int 0), (1, .int (f_X3_passOneMinute_x3 x)), (0, .ref (ad 0))] 33 [] := by
    generalize hw5 : f_X3_passOneMinute_x3 x = w5
    refine j_iinc (v := 1) C [(2, .int 1), (1, .int w5), (0, .ref (ad 0))] dX3_passOneMinute_33 (k := 0) rfl (by decide) (by decide) rfl ?_
    refine j_goto (tgt := 4) C dX3_passOneMinute_36 (by decide) ?_
    refine j_iload_n C dX3_passOneMinute_4 0 rfl ?_
    refine j_iconst (v := 4) C dX3_passOneMinute_5 (by decide) ?_
    refine j_icmp_ge (tgt := 39) C dX3_passOneMinute_6 (by decide) (fun h => absurd h (by decide)) (fun _ => ?_)
    refine j_aload_n C dX3_passOneMinute_9 2 rfl ?_
    refine j_aload_n C dX3_passOneMinute_10 2 rfl ?_
    refine j_get C kin3 rfl 0 rfl 1 (by decide) kw_76 rfl (v := .ref (ad 2)) rfl dX3_passOneMinute_11 ?_
    refine j_iload_n C dX3_passOneMinute_14 0 rfl ?_
    refine j_aaldD C 6 rfl (vin_lit rfl) (y := ad 5) rfl dX3_passOneMinute_15 ?_
    refine j_aload_n C dX3_passOneMinute_16 2 rfl ?_
    refine j_get C kin3 rfl 0 rfl 1 (by decide) kw_76 rfl (v := .ref (ad 2)) rfl dX3_passOneMinute_17 ?_
    refine j_iload_n C dX3_passOneMinute_20 0 rfl ?_
    refine j_pureSN_i (r := 0) C (m_X4_twinOf_1 l G) 1 kw_168 (List.mem_of_getElem? (i := 6) rfl) kw_1 kw_167 (by decide +kernel) ⟨(Nat.le_of_ble_eq_true rfl), (Nat.le_of_ble_eq_true rfl)⟩ rfl rfl (Nat.le_of_ble_eq_true rfl) dX3_passOneMinute_21 ⟨(Nat.le_of_ble_eq_true rfl), (Nat.le_of_ble_eq_true rfl)⟩ ?_
    refine j_aaldD C 6 rfl (vin_lit rfl) (y := ad 3) rfl dX3_passOneMinute_24 ?_
    refine j_callV_i (r := f_X3_passMinuteOf_r w1 x.2.1 w4 (x.2.2.2 1) w2 w3) (wc' := [oS (ad 0) (ad 1) (ad 2) (f_X3_passMinuteOf_g w1 x.2.1 w4 (x.2.2.2 1) w2 w3), aI G (ad 1) 7 x.2.1, oD (ad 5) (ad 6) (f_X3_passMinuteOf_v w1 x.2.1 w4 (x.2.2.2 1) w2 w3), aB G (ad 6) (f_X3_passMinuteOf_f w1 x.2.1 w4 (x.2.2.2 1) w2 w3), oD (ad 3) (ad 4) (f_X3_passMinuteOf_tv w1 x.2.1 w4 (x.2.2.2 1) w2 w3), aB G (ad 4) w3]) C (m_X3_passMinuteOf l G (ad 0) (ad 5) (ad 3) (ad 1) (ad 2) (ad 6) (ad 4) w1 x.2.1 w4 (x.2.2.2 1) w2 w3) rfl 0 rfl 2 (gV kw_169 kw_170 kw_342 kw_2 kw_171) (by decide +kernel) ⟨(Nat.le_of_ble_eq_true rfl), (Nat.le_of_ble_eq_true rfl)⟩ rfl rfl (Nat.le_of_ble_eq_true rfl) dX3_passOneMinute_25 ⟨(Nat.le_of_ble_eq_true rfl), (Nat.le_of_ble_eq_true rfl)⟩ [aD G (ad 2) 4 (fun k => some (ad (3 + 2 * k))), oD (ad 7) (ad 8) (x.2.2.1 2), aB G (ad 8) (x.2.2.2 2), oD (ad 9) (ad 10) (x.2.2.1 3), aB G (ad 10) (x.2.2.2 3)] [oS (ad 0) (ad 1) (ad 2) (f_X3_passMinuteOf_g w1 x.2.1 w4 (x.2.2.2 1) w2 w3), aI G (ad 1) 7 x.2.1, oD (ad 5) (ad 6) (f_X3_passMinuteOf_v w1 x.2.1 w4 (x.2.2.2 1) w2 w3), aB G (ad 6) (f_X3_passMinuteOf_f w1 x.2.1 w4 (x.2.2.2 1) w2 w3), oD (ad 3) (ad 4) (f_X3_passMinuteOf_tv w1 x.2.1 w4 (x.2.2.2 1) w2 w3), aB G (ad 4) w3, aD G (ad 2) 4 (fun k => some (ad (3 + 2 * k))), oD (ad 7) (ad 8) (x.2.2.1 2), aB G (ad 8) (x.2.2.2 2), oD (ad 9) (ad 10) (x.2.2.1 3), aB G (ad 10) (x.2.2.2 3)] (perm_idx [0, 1, 4, 5, 2, 3, 6, 7, 8, 9, 10] 11 rfl (by decide +kernel) rfl) rfl ?_
    generalize hzw6 : f_X3_passMinuteOf_r w1 x.2.1 w4 (x.2.2.2 1) w2 w3 = w6
    have hw6 : f_X3_passOneMinute_rq5 x = w6 := by subst hw0 hw1 hw2 hw3 hw4 hw5; subst hzw6; exact (f_X3_passOneMinute_rq5_eq x)
    generalize hzw7 : f_X3_passMinuteOf_g w1 x.2.1 w4 (x.2.2.2 1) w2 w3 = w7
    have hw7 : f_X3_passOneMinute_gq5 x = w7 := by subst hw0 hw1 hw2 hw3 hw4 hw5 hw6; subst hzw7; exact (f_X3_passOneMinute_gq5_eq x)
    generalize hzw8 : f_X3_passMinuteOf_v w1 x.2.1 w4 (x.2.2.2 1) w2 w3 = w8
    have hw8 : f_X3_passOneMinute_vq5 x = w8 := by subst hw0 hw1 hw2 hw3 hw4 hw5 hw6 hw7; subst hzw8; exact (f_X3_passOneMinute_vq5_eq x)
    generalize hzw9 : f_X3_passMinuteOf_f w1 x.2.1 w4 (x.2.2.2 1) w2 w3 = w9
    have hw9 : f_X3_passOneMinute_fq5 x = w9 := by subst hw0 hw1 hw2 hw3 hw4 hw5 hw6 hw7 hw8; subst hzw9; exact (f_X3_passOneMinute_fq5_eq x)
    generalize hzw10 : f_X3_passMinuteOf_tv w1 x.2.1 w4 (x.2.2.2 1) w2 w3 = w10
    have hw10 : f_X3_passOneMinute_tvq5 x = w10 := by subst hw0 hw1 hw2 hw3 hw4 hw5 hw6 hw7 hw8 hw9; subst hzw10; exact (f_X3_passOneMinute_tvq5_eq x)
    have K33_1 : WJ p l e (RM 4) s m args below meth c G A 3 0 0 Q ([oS (ad 0) (ad 1) (ad 2) w7, aI G (ad 1) 7 x.2.1, oD (ad 5) (ad 6) w8, aB G (ad 6) w9, oD (ad 3) (ad 4) w10, aB G (ad 4) w3, aD G (ad 2) 4 (fun k => some (ad (3 + 2 * k))), oD (ad 7) (ad 8) (x.2.2.1 2), aB G (ad 8) (x.2.2.2 2), oD (ad 9) (ad 10) (x.2.2.1 3), aB G (ad 10) (x.2.2.2 3)]) [(2, .int 1), (1, .int (f_X3_passOneMinute_x6 x)), (0, .ref (ad 0))] 33 [] := by
      generalize hw11 : f_X3_passOneMinute_x6 x = w11
      refine j_iinc (v := 2) C [(2, .int 2), (1, .int w11), (0, .ref (ad 0))] dX3_passOneMinute_33 (k := 0) rfl (by decide) (by decide) rfl ?_
      refine j_goto (tgt := 4) C dX3_passOneMinute_36 (by decide) ?_
      refine j_iload_n C dX3_passOneMinute_4 0 rfl ?_
      refine j_iconst (v := 4) C dX3_passOneMinute_5 (by decide) ?_
      refine j_icmp_ge (tgt := 39) C dX3_passOneMinute_6 (by decide) (fun h => absurd h (by decide)) (fun _ => ?_)
      refine j_aload_n C dX3_passOneMinute_9 2 rfl ?_
      refine j_aload_n C dX3_passOneMinute_10 2 rfl ?_
      refine j_get C kin3 rfl 0 rfl 1 (by decide) kw_76 rfl (v := .ref (ad 2)) rfl dX3_passOneMinute_11 ?_
      refine j_iload_n C dX3_passOneMinute_14 0 rfl ?_
      refine j_aaldD C 6 rfl (vin_lit rfl) (y := ad 7) rfl dX3_passOneMinute_15 ?_
      refine j_aload_n C dX3_passOneMinute_16 2 rfl ?_
      refine j_get C kin3 rfl 0 rfl 1 (by decide) kw_76 rfl (v := .ref (ad 2)) rfl dX3_passOneMinute_17 ?_
      refine j_iload_n C dX3_passOneMinute_20 0 rfl ?_
      refine j_pureSN_i (r := 3) C (m_X4_twinOf_2 l G) 1 kw_168 (List.mem_of_getElem? (i := 6) rfl) kw_1 kw_167 (by decide +kernel) ⟨(Nat.le_of_ble_eq_true rfl), (Nat.le_of_ble_eq_true rfl)⟩ rfl rfl (Nat.le_of_ble_eq_true rfl) dX3_passOneMinute_21 ⟨(Nat.le_of_ble_eq_true rfl), (Nat.le_of_ble_eq_true rfl)⟩ ?_
      refine j_aaldD C 6 rfl (vin_lit rfl) (y := ad 9) rfl dX3_passOneMinute_24 ?_
      refine j_callV_i (r := f_X3_passMinuteOf_r w7 x.2.1 (x.2.2.1 2) (x.2.2.2 2) (x.2.2.1 3) (x.2.2.2 3)) (wc' := [oS (ad 0) (ad 1) (ad 2) (f_X3_passMinuteOf_g w7 x.2.1 (x.2.2.1 2) (x.2.2.2 2) (x.2.2.1 3) (x.2.2.2 3)), aI G (ad 1) 7 x.2.1, oD (ad 7) (ad 8) (f_X3_passMinuteOf_v w7 x.2.1 (x.2.2.1 2) (x.2.2.2 2) (x.2.2.1 3) (x.2.2.2 3)), aB G (ad 8) (f_X3_passMinuteOf_f w7 x.2.1 (x.2.2.1 2) (x.2.2.2 2) (x.2.2.1 3) (x.2.2.2 3)), oD (ad 9) (ad 10) (f_X3_passMinuteOf_tv w7 x.2.1 (x.2.2.1 2) (x.2.2.2 2) (x.2.2.1 3) (x.2.2.2 3)), aB G (ad 10) (x.2.2.2 3)]) C (m_X3_passMinuteOf l G (ad 0) (ad 7) (ad 9) (ad 1) (ad 2) (ad 8) (ad 10) w7 x.2.1 (x.2.2.1 2) (x.2.2.2 2) (x.2.2.1 3) (x.2.2.2 3)) rfl 0 rfl 2 (gV kw_169 kw_170 kw_342 kw_2 kw_171) (by decide +kernel) ⟨(Nat.le_of_ble_eq_true rfl), (Nat.le_of_ble_eq_true rfl)⟩ rfl rfl (Nat.le_of_ble_eq_true rfl) dX3_passOneMinute_25 ⟨(Nat.le_of_ble_eq_true rfl), (Nat.le_of_ble_eq_true rfl)⟩ [oD (ad 5) (ad 6) w8, aB G (ad 6) w9, oD (ad 3) (ad 4) w10, aB G (ad 4) w3, aD G (ad 2) 4 (fun k => some (ad (3 + 2 * k)))] [oS (ad 0) (ad 1) (ad 2) (f_X3_passMinuteOf_g w7 x.2.1 (x.2.2.1 2) (x.2.2.2 2) (x.2.2.1 3) (x.2.2.2 3)), aI G (ad 1) 7 x.2.1, oD (ad 7) (ad 8) (f_X3_passMinuteOf_v w7 x.2.1 (x.2.2.1 2) (x.2.2.2 2) (x.2.2.1 3) (x.2.2.2 3)), aB G (ad 8) (f_X3_passMinuteOf_f w7 x.2.1 (x.2.2.1 2) (x.2.2.2 2) (x.2.2.1 3) (x.2.2.2 3)), oD (ad 9) (ad 10) (f_X3_passMinuteOf_tv w7 x.2.1 (x.2.2.1 2) (x.2.2.2 2) (x.2.2.1 3) (x.2.2.2 3)), aB G (ad 10) (x.2.2.2 3), oD (ad 5) (ad 6) w8, aB G (ad 6) w9, oD (ad 3) (ad 4) w10, aB G (ad 4) w3, aD G (ad 2) 4 (fun k => some (ad (3 + 2 * k)))] (perm_idx [0, 1, 7, 8, 9, 10, 2, 3, 4, 5, 6] 11 rfl (by decide +kernel) rfl) rfl ?_
      generalize hzw12 : f_X3_passMinuteOf_r w7 x.2.1 (x.2.2.1 2) (x.2.2.2 2) (x.2.2.1 3) (x.2.2.2 3) = w12
      have hw12 : f_X3_passOneMinute_rq8 x = w12 := by subst hw0 hw1 hw2 hw3 hw4 hw5 hw6 hw7 hw8 hw9 hw10 hw11; subst hzw12; exact (f_X3_passOneMinute_rq8_eq x)
      generalize hzw13 : f_X3_passMinuteOf_g w7 x.2.1 (x.2.2.1 2) (x.2.2.2 2) (x.2.2.1 3) (x.2.2.2 3) = w13
      have hw13 : f_X3_passOneMinute_gq8 x = w13 := by subst hw0 hw1 hw2 hw3 hw4 hw5 hw6 hw7 hw8 hw9 hw10 hw11 hw12; subst hzw13; exact (f_X3_passOneMinute_gq8_eq x)
      generalize hzw14 : f_X3_passMinuteOf_v w7 x.2.1 (x.2.2.1 2) (x.2.2.2 2) (x.2.2.1 3) (x.2.2.2 3) = w14
      have hw14 : f_X3_passOneMinute_vq8 x = w14 := by subst hw0 hw1 hw2 hw3 hw4 hw5 hw6 hw7 hw8 hw9 hw10 hw11 hw12 hw13; subst hzw14; exact (f_X3_passOneMinute_vq8_eq x)
      generalize hzw15 : f_X3_passMinuteOf_f w7 x.2.1 (x.2.2.1 2) (x.2.2.2 2) (x.2.2.1 3) (x.2.2.2 3) = w15
      have hw15 : f_X3_passOneMinute_fq8 x = w15 := by subst hw0 hw1 hw2 hw3 hw4 hw5 hw6 hw7 hw8 hw9 hw10 hw11 hw12 hw13 hw14; subst hzw15; exact (f_X3_passOneMinute_fq8_eq x)
      generalize hzw16 : f_X3_passMinuteOf_tv w7 x.2.1 (x.2.2.1 2) (x.2.2.2 2) (x.2.2.1 3) (x.2.2.2 3) = w16
      have hw16 : f_X3_passOneMinute_tvq8 x = w16 := by subst hw0 hw1 hw2 hw3 hw4 hw5 hw6 hw7 hw8 hw9 hw10 hw11 hw12 hw13 hw14 hw15; subst hzw16; exact (f_X3_passOneMinute_tvq8_eq x)
      have K33_2 : WJ p l e (RM 4) s m args below meth c G A 3 0 0 Q ([oS (ad 0) (ad 1) (ad 2) w13, aI G (ad 1) 7 x.2.1, oD (ad 7) (ad 8) w14, aB G (ad 8) w15, oD (ad 9) (ad 10) w16, aB G (ad 10) (x.2.2.2 3), oD (ad 5) (ad 6) w8, aB G (ad 6) w9, oD (ad 3) (ad 4) w10, aB G (ad 4) w3, aD G (ad 2) 4 (fun k => some (ad (3 + 2 * k)))]) [(2, .int 2), (1, .int (f_X3_passOneMinute_x9 x)), (0, .ref (ad 0))] 33 [] := by
        generalize hw17 : f_X3_passOneMinute_x9 x = w17
        refine j_iinc (v := 3) C [(2, .int 3), (1, .int w17), (0, .ref (ad 0))] dX3_passOneMinute_33 (k := 0) rfl (by decide) (by decide) rfl ?_
        refine j_goto (tgt := 4) C dX3_passOneMinute_36 (by decide) ?_
        refine j_iload_n C dX3_passOneMinute_4 0 rfl ?_
        refine j_iconst (v := 4) C dX3_passOneMinute_5 (by decide) ?_
        refine j_icmp_ge (tgt := 39) C dX3_passOneMinute_6 (by decide) (fun h => absurd h (by decide)) (fun _ => ?_)
        refine j_aload_n C dX3_passOneMinute_9 2 rfl ?_
        refine j_aload_n C dX3_passOneMinute_10 2 rfl ?_
        refine j_get C kin3 rfl 0 rfl 1 (by decide) kw_76 rfl (v := .ref (ad 2)) rfl dX3_passOneMinute_11 ?_
        refine j_iload_n C dX3_passOneMinute_14 0 rfl ?_
        refine j_aaldD C 10 rfl (vin_lit rfl) (y := ad 9) rfl dX3_passOneMinute_15 ?_
        refine j_aload_n C dX3_passOneMinute_16 2 rfl ?_
        refine j_get C kin3 rfl 0 rfl 1 (by decide) kw_76 rfl (v := .ref (ad 2)) rfl dX3_passOneMinute_17 ?_
        refine j_iload_n C dX3_passOneMinute_20 0 rfl ?_
        refine j_pureSN_i (r := 2) C (m_X4_twinOf_3 l G) 1 kw_168 (List.mem_of_getElem? (i := 6) rfl) kw_1 kw_167 (by decide +kernel) ⟨(Nat.le_of_ble_eq_true rfl), (Nat.le_of_ble_eq_true rfl)⟩ rfl rfl (Nat.le_of_ble_eq_true rfl) dX3_passOneMinute_21 ⟨(Nat.le_of_ble_eq_true rfl), (Nat.le_of_ble_eq_true rfl)⟩ ?_
        refine j_aaldD C 10 rfl (vin_lit rfl) (y := ad 7) rfl dX3_passOneMinute_24 ?_
        refine j_callV_i (r := f_X3_passMinuteOf_r w13 x.2.1 w16 (x.2.2.2 3) w14 w15) (wc' := [oS (ad 0) (ad 1) (ad 2) (f_X3_passMinuteOf_g w13 x.2.1 w16 (x.2.2.2 3) w14 w15), aI G (ad 1) 7 x.2.1, oD (ad 9) (ad 10) (f_X3_passMinuteOf_v w13 x.2.1 w16 (x.2.2.2 3) w14 w15), aB G (ad 10) (f_X3_passMinuteOf_f w13 x.2.1 w16 (x.2.2.2 3) w14 w15), oD (ad 7) (ad 8) (f_X3_passMinuteOf_tv w13 x.2.1 w16 (x.2.2.2 3) w14 w15), aB G (ad 8) w15]) C (m_X3_passMinuteOf l G (ad 0) (ad 9) (ad 7) (ad 1) (ad 2) (ad 10) (ad 8) w13 x.2.1 w16 (x.2.2.2 3) w14 w15) rfl 0 rfl 2 (gV kw_169 kw_170 kw_342 kw_2 kw_171) (by decide +kernel) ⟨(Nat.le_of_ble_eq_true rfl), (Nat.le_of_ble_eq_true rfl)⟩ rfl rfl (Nat.le_of_ble_eq_true rfl) dX3_passOneMinute_25 ⟨(Nat.le_of_ble_eq_true rfl), (Nat.le_of_ble_eq_true rfl)⟩ [oD (ad 5) (ad 6) w8, aB G (ad 6) w9, oD (ad 3) (ad 4) w10, aB G (ad 4) w3, aD G (ad 2) 4 (fun k => some (ad (3 + 2 * k)))] [oS (ad 0) (ad 1) (ad 2) (f_X3_passMinuteOf_g w13 x.2.1 w16 (x.2.2.2 3) w14 w15), aI G (ad 1) 7 x.2.1, oD (ad 9) (ad 10) (f_X3_passMinuteOf_v w13 x.2.1 w16 (x.2.2.2 3) w14 w15), aB G (ad 10) (f_X3_passMinuteOf_f w13 x.2.1 w16 (x.2.2.2 3) w14 w15), oD (ad 7) (ad 8) (f_X3_passMinuteOf_tv w13 x.2.1 w16 (x.2.2.2 3) w14 w15), aB G (ad 8) w15, oD (ad 5) (ad 6) w8, aB G (ad 6) w9, oD (ad 3) (ad 4) w10, aB G (ad 4) w3, aD G (ad 2) 4 (fun k => some (ad (3 + 2 * k)))] (perm_idx [0, 1, 4, 5, 2, 3, 6, 7, 8, 9, 10] 11 rfl (by decide +kernel) rfl) rfl ?_
        generalize hzw18 : f_X3_passMinuteOf_r w13 x.2.1 w16 (x.2.2.2 3) w14 w15 = w18
        have hw18 : f_X3_passOneMinute_rq11 x = w18 := by subst hw0 hw1 hw2 hw3 hw4 hw5 hw6 hw7 hw8 hw9 hw10 hw11 hw12 hw13 hw14 hw15 hw16 hw17; subst hzw18; exact (f_X3_passOneMinute_rq11_eq x)
        generalize hzw19 : f_X3_passMinuteOf_g w13 x.2.1 w16 (x.2.2.2 3) w14 w15 = w19
        have hw19 : f_X3_passOneMinute_gq11 x = w19 := by subst hw0 hw1 hw2 hw3 hw4 hw5 hw6 hw7 hw8 hw9 hw10 hw11 hw12 hw13 hw14 hw15 hw16 hw17 hw18; subst hzw19; exact (f_X3_passOneMinute_gq11_eq x)
        generalize hzw20 : f_X3_passMinuteOf_v w13 x.2.1 w16 (x.2.2.2 3) w14 w15 = w20
        have hw20 : f_X3_passOneMinute_vq11 x = w20 := by subst hw0 hw1 hw2 hw3 hw4 hw5 hw6 hw7 hw8 hw9 hw10 hw11 hw12 hw13 hw14 hw15 hw16 hw17 hw18 hw19; subst hzw20; exact (f_X3_passOneMinute_vq11_eq x)
        generalize hzw21 : f_X3_passMinuteOf_f w13 x.2.1 w16 (x.2.2.2 3) w14 w15 = w21
        have hw21 : f_X3_passOneMinute_fq11 x = w21 := by subst hw0 hw1 hw2 hw3 hw4 hw5 hw6 hw7 hw8 hw9 hw10 hw11 hw12 hw13 hw14 hw15 hw16 hw17 hw18 hw19 hw20; subst hzw21; exact (f_X3_passOneMinute_fq11_eq x)
        generalize hzw22 : f_X3_passMinuteOf_tv w13 x.2.1 w16 (x.2.2.2 3) w14 w15 = w22
        have hw22 : f_X3_passOneMinute_tvq11 x = w22 := by subst hw0 hw1 hw2 hw3 hw4 hw5 hw6 hw7 hw8 hw9 hw10 hw11 hw12 hw13 hw14 hw15 hw16 hw17 hw18 hw19 hw20 hw21; subst hzw22; exact (f_X3_passOneMinute_tvq11_eq x)
        have K33_3 : WJ p l e (RM 4) s m args below meth c G A 3 0 0 Q ([oS (ad 0) (ad 1) (ad 2) w19, aI G (ad 1) 7 x.2.1, oD (ad 9) (ad 10) w20, aB G (ad 10) w21, oD (ad 7) (ad 8) w22, aB G (ad 8) w15, oD (ad 5) (ad 6) w8, aB G (ad 6) w9, oD (ad 3) (ad 4) w10, aB G (ad 4) w3, aD G (ad 2) 4 (fun k => some (ad (3 + 2 * k)))]) [(2, .int 3), (1, .int (f_X3_passOneMinute_x12 x)), (0, .ref (ad 0))] 33 [] := by
          generalize hw23 : f_X3_passOneMinute_x12 x = w23
          refine j_iinc (v := 4) C [(2, .int 4), (1, .int w23), (0, .ref (ad 0))] dX3_passOneMinute_33 (k := 0) rfl (by decide) (by decide) rfl ?_
          refine j_goto (tgt := 4) C dX3_passOneMinute_36 (by decide) ?_
          refine j_iload_n C dX3_passOneMinute_4 0 rfl ?_
          refine j_iconst (v := 4) C dX3_passOneMinute_5 (by decide) ?_
          refine j_icmp_ge (tgt := 39) C dX3_passOneMinute_6 (by decide) (fun _ => ?_) (fun h => absurd h (by decide))
          refine j_aload_n C dX3_passOneMinute_39 2 rfl ?_
          refine j_dup C dX3_passOneMinute_40 rfl ?_
          refine j_get C kin3 rfl 0 rfl 2 (by decide) kw_78 rfl (v := .int (w19 2)) rfl dX3_passOneMinute_41 ?_
          refine j_iconst (v := 1) C dX3_passOneMinute_44 (by decide) ?_
          refine j_iadd C dX3_passOneMinute_45 rfl ?_
          generalize hw24 : (w19 2) + 1 = w24
          refine j_put C kin3 rfl 0 rfl 2 (by decide) kw_78 rfl tyX3 tyX3_ok nmX3 rfl rfl rfl (Nat.le_of_ble_eq_true rfl) ([oS (ad 0) (ad 1) (ad 2) (upd w19 2 w24), aI G (ad 1) 7 x.2.1, oD (ad 9) (ad 10) w20, aB G (ad 10) w21, oD (ad 7) (ad 8) w22, aB G (ad 8) w15, oD (ad 5) (ad 6) w8, aB G (ad 6) w9, oD (ad 3) (ad 4) w10, aB G (ad 4) w3, aD G (ad 2) 4 (fun k => some (ad (3 + 2 * k)))]) rfl dX3_passOneMinute_46 ?_
          refine j_iload_n C dX3_passOneMinute_49 1 rfl ?_
          refine j_perm ([oS (ad 0) (ad 1) (ad 2) (upd w19 2 w24), aI G (ad 1) 7 x.2.1, aD G (ad 2) 4 (fun k => some (ad (3 + 2 * k))), oD (ad 3) (ad 4) w10, aB G (ad 4) w3, oD (ad 5) (ad 6) w8, aB G (ad 6) w9, oD (ad 7) (ad 8) w22, aB G (ad 8) w15, oD (ad 9) (ad 10) w20, aB G (ad 10) w21]) (perm_idx [0, 1, 10, 8, 9, 6, 7, 4, 5, 2, 3] 11 rfl (by decide +kernel) rfl) ?_
          subst hQ; subst hw0 hw1 hw2 hw3 hw4 hw5 hw6 hw7 hw8 hw9 hw10 hw11 hw12 hw13 hw14 hw15 hw16 hw17 hw18 hw19 hw20 hw21 hw22 hw23 hw24; exact j_zret C hr hk (nar_01 (by rw [f_X3_passOneMinute_x12_eq, f_X3_passOneMinute_x9_eq, f_X3_passOneMinute_x6_eq, f_X3_passOneMinute_x3_eq]; (repeat' split) <;> decide)) ((show f_X3_passOneMinute_r x = (f_X3_passOneMinute_x12 x) from (f_X3_passOneMinute_r_eq x)).symm) (by rw [show f_X3_passOneMinute_g x = upd (f_X3_passOneMinute_gq11 x) 2 (((f_X3_passOneMinute_gq11 x) 2) + 1) from (f_X3_passOneMinute_g_eq x), show f_X3_passOneMinute_v0 x = (f_X3_passOneMinute_tvq5 x) from (f_X3_passOneMinute_v0_eq x), show f_X3_passOneMinute_f0 x = (f_X3_passOneMinute_fq2 x) from (f_X3_passOneMinute_f0_eq x), show f_X3_passOneMinute_v1 x = (f_X3_passOneMinute_vq5 x) from (f_X3_passOneMinute_v1_eq x), show f_X3_passOneMinute_f1 x = (f_X3_passOneMinute_fq5 x) from (f_X3_passOneMinute_f1_eq x), show f_X3_passOneMinute_v2 x = (f_X3_passOneMinute_tvq11 x) from (f_X3_passOneMinute_v2_eq x), show f_X3_passOneMinute_f2 x = (f_X3_passOneMinute_fq8 x) from (f_X3_passOneMinute_f2_eq x), show f_X3_passOneMinute_v3 x = (f_X3_passOneMinute_vq11 x) from (f_X3_passOneMinute_v3_eq x), show f_X3_passOneMinute_f3 x = (f_X3_passOneMinute_fq11 x) from (f_X3_passOneMinute_f3_eq x)]; rfl) dX3_passOneMinute_50
        refine j_if_eq (tgt := 33) C dX3_passOneMinute_28 (by decide) (fun c28_4 => ?_) (fun c28_4 => ?_)
        · subst hw0 hw1 hw2 hw3 hw4 hw5 hw6 hw7 hw8 hw9 hw10 hw11 hw12 hw13 hw14 hw15 hw16 hw17 hw18 hw19 hw20 hw21 hw22; exact j_eq rfl (by rw [show f_X3_passOneMinute_x12 x = (f_X3_passOneMinute_x9 x) from ((f_X3_passOneMinute_x12_eq x).trans (if_pos c28_4))]) rfl K33_3
        · refine j_iconst (v := 1) C dX3_passOneMinute_31 (by decide) ?_
          refine j_istore_n C [(1, .int 1), (2, .int 3), (0, .ref (ad 0))] dX3_passOneMinute_32 (by decide) rfl ?_
          refine j_lv [1, 0, 2] [(2, .int 3), (1, .int 1), (0, .ref (ad 0))] rfl ?_
          subst hw0 hw1 hw2 hw3 hw4 hw5 hw6 hw7 hw8 hw9 hw10 hw11 hw12 hw13 hw14 hw15 hw16 hw17 hw18 hw19 hw20 hw21 hw22; exact j_eq rfl (by rw [show f_X3_passOneMinute_x12 x = 1 from ((f_X3_passOneMinute_x12_eq x).trans (if_neg c28_4))]) rfl K33_3
      refine j_if_eq (tgt := 33) C dX3_passOneMinute_28 (by decide) (fun c28_3 => ?_) (fun c28_3 => ?_)
      · subst hw0 hw1 hw2 hw3 hw4 hw5 hw6 hw7 hw8 hw9 hw10 hw11 hw12 hw13 hw14 hw15 hw16; exact j_eq rfl (by rw [show f_X3_passOneMinute_x9 x = (f_X3_passOneMinute_x6 x) from ((f_X3_passOneMinute_x9_eq x).trans (if_pos c28_3))]) rfl K33_2
      · refine j_iconst (v := 1) C dX3_passOneMinute_31 (by decide) ?_
        refine j_istore_n C [(1, .int 1), (2, .int 2), (0, .ref (ad 0))] dX3_passOneMinute_32 (by decide) rfl ?_
        refine j_lv [1, 0, 2] [(2, .int 2), (1, .int 1), (0, .ref (ad 0))] rfl ?_
        subst hw0 hw1 hw2 hw3 hw4 hw5 hw6 hw7 hw8 hw9 hw10 hw11 hw12 hw13 hw14 hw15 hw16; exact j_eq rfl (by rw [show f_X3_passOneMinute_x9 x = 1 from ((f_X3_passOneMinute_x9_eq x).trans (if_neg c28_3))]) rfl K33_2
    refine j_if_eq (tgt := 33) C dX3_passOneMinute_28 (by decide) (fun c28_2 => ?_) (fun c28_2 => ?_)
    · subst hw0 hw1 hw2 hw3 hw4 hw5 hw6 hw7 hw8 hw9 hw10; exact j_eq rfl (by rw [show f_X3_passOneMinute_x6 x = (f_X3_passOneMinute_x3 x) from ((f_X3_passOneMinute_x6_eq x).trans (if_pos c28_2))]) rfl K33_1
    · refine j_iconst (v := 1) C dX3_passOneMinute_31 (by decide) ?_
      refine j_istore_n C [(1, .int 1), (2, .int 1), (0, .ref (ad 0))] dX3_passOneMinute_32 (by decide) rfl ?_
      refine j_lv [1, 0, 2] [(2, .int 1), (1, .int 1), (0, .ref (ad 0))] rfl ?_
      subst hw0 hw1 hw2 hw3 hw4 hw5 hw6 hw7 hw8 hw9 hw10; exact j_eq rfl (by rw [show f_X3_passOneMinute_x6 x = 1 from ((f_X3_passOneMinute_x6_eq x).trans (if_neg c28_2))]) rfl K33_1
  refine j_if_eq (tgt := 33) C dX3_passOneMinute_28 (by decide) (fun c28 => ?_) (fun c28 => ?_)
  · subst hw0 hw1 hw2 hw3 hw4; exact j_eq rfl (by rw [show f_X3_passOneMinute_x3 x = 0 from ((f_X3_passOneMinute_x3_eq x).trans (if_pos c28))]) rfl K33
  · refine j_iconst (v := 1) C dX3_passOneMinute_31 (by decide) ?_
    refine j_istore_n C [(1, .int 1), (2, .int 0), (0, .ref (ad 0))] dX3_passOneMinute_32 (by decide) rfl ?_
    refine j_lv [1, 0, 2] [(2, .int 0), (1, .int 1), (0, .ref (ad 0))] rfl ?_
    subst hw0 hw1 hw2 hw3 hw4; exact j_eq rfl (by rw [show f_X3_passOneMinute_x3 x = 1 from ((f_X3_passOneMinute_x3_eq x).trans (if_neg c28))]) rfl K33
/-- a minute of a station -/
noncomputable def passOne (x : StV) : StV := (f_X3_passOneMinute_g x, x.2.1, pick4 (f_X3_passOneMinute_v0 x) (f_X3_passOneMinute_v1 x) (f_X3_passOneMinute_v2 x) (f_X3_passOneMinute_v3 x), pick4 (f_X3_passOneMinute_f0 x) (f_X3_passOneMinute_f1 x) (f_X3_passOneMinute_f2 x) (f_X3_passOneMinute_f3 x))
noncomputable def passOneR (x : StV) : Int32 := f_X3_passOneMinute_r x
theorem m_passOne (l : Launch) (G : GG) (ad : Nat → Nat) (x : StV) : CtI l yX3_passOneMinute cX3_passOneMinute 3 (some .boolean) (RM 4) G [.ref (ad 0)] (cSt G ad x) (passOneR x) (cSt G ad (passOne x)) := m_X3_passOneMinute l G ad x
noncomputable def passN (x : StV) : Nat → StV
  | 0 => x
  | n + 1 => passOne (passN x n)
noncomputable def f_X3_passMinutes_r (x : StV) (k : Int32) : Int32 := if f_X4_arePassable_r k = 0 then -2 else (passN x k.toNatClampNeg).1 2
noncomputable def f_X3_passMinutes_x (x : StV) (k : Int32) : StV := if f_X4_arePassable_r k = 0 then x else passN x k.toNatClampNeg
set_option maxRecDepth 100000 in
set_option maxHeartbeats 4000000 in
theorem m_X3_passMinutes (l : Launch) (G : GG) (ad : Nat → Nat) (x : StV) (k : Int32)  : CtI l yX3_passMinutes cX3_passMinutes 3 (some .int) (RM 5) G [.ref (ad 0), .int k] (cSt G ad x) (f_X3_passMinutes_r x k) (cSt G ad (f_X3_passMinutes_x x k)) := by
  refine ct_I RX3 [(0, .ref (ad 0)), (1, .int k)] rfl (by decide +kernel) (Nat.le_of_ble_eq_true rfl) rfl ?_
  intro p e s m args below meth c A C hr hk hnm
  generalize hQ : (MQ below (PostI G A (f_X3_passMinutes_r x k) (cSt G ad (f_X3_passMinutes_x x k))) args s (RM 5).cells (RM 5).slots A) = Q
  refine j_w (fl [cSt G ad x]) (fl_one _).symm ?_
  refine j_iload_n C dX3_passMinutes_0 1 rfl ?_
  refine j_pureSN_i (r := f_X4_arePassable_r k) C (m_X4_arePassable l G k) 1 kw_162 (List.mem_of_getElem? (i := 5) rfl) kw_1 kw_161 (by decide +kernel) ⟨(Nat.le_of_ble_eq_true rfl), (Nat.le_of_ble_eq_true rfl)⟩ rfl rfl (Nat.le_of_ble_eq_true rfl) dX3_passMinutes_1 ⟨(Nat.le_of_ble_eq_true rfl), (Nat.le_of_ble_eq_true rfl)⟩ ?_
  refine j_if_ne (tgt := 10) C dX3_passMinutes_4 (by decide) (fun c4 => ?_) (fun c4 => ?_)
  · refine j_iconst (v := 0) C dX3_passMinutes_10 (by decide) ?_
    refine j_istore_n C [(2, .int 0), (0, .ref (ad 0)), (1, .int k)] dX3_passMinutes_11 (by decide) rfl ?_
    have L2 : ∀ (n i : Nat), i + n = k.toNatClampNeg → WJ p l e (RM 5) s m args below meth c G A 3 0 0 Q (fl [cSt G ad (passN x i)]) [(2, .int (nI i)), (0, .ref (ad 0)), (1, .int k)] 12 [] := by
      intro n
      induction n with
      | zero =>
        intro i hIN
        have hN : i = k.toNatClampNeg := by omega
        subst hN
        refine j_iload_n C dX3_passMinutes_12 0 rfl ?_
        refine j_iload_n C dX3_passMinutes_13 2 rfl ?_
        refine j_icmp_ge (tgt := 28) C dX3_passMinutes_14 (by decide) (fun c14 => ?_) (fun h => absurd (le_cl k (cl_31 k)) h)
        refine j_aload_n C dX3_passMinutes_28 1 rfl ?_
        refine j_w (fl [[oS (ad 0) (ad 1) (ad 2) ((passN x k.toNatClampNeg).1)], [aI G (ad 1) 7 ((passN x k.toNatClampNeg).2.1)], [aD G (ad 2) 4 (fun k => some (ad (3 + 2 * k)))], cDrs G ad (passN x k.toNatClampNeg).2.2.1 (passN x k.toNatClampNeg).2.2.2]) rfl ?_
        refine j_get C kin3 rfl 0 rfl 2 (by decide) kw_78 rfl (v := .int (((passN x k.toNatClampNeg).1) 2)) rfl dX3_passMinutes_29 ?_
        refine j_w (fl [cSt G ad (passN x k.toNatClampNeg)]) rfl ?_
        refine j_w (cSt G ad (passN x k.toNatClampNeg)) (fl_one _) ?_
        subst hQ; exact j_iret C hr hk (show ((passN x k.toNatClampNeg).1) 2 = (f_X3_passMinutes_r x k) from (if_neg c4).symm) (by rw [show (f_X3_passMinutes_x x k) = (passN x k.toNatClampNeg) from (if_neg c4)]) dX3_passMinutes_32
      | succ n ih =>
        intro i hIN
        have hlt : i < k.toNatClampNeg := by omega
        refine j_iload_n C dX3_passMinutes_12 0 rfl ?_
        refine j_iload_n C dX3_passMinutes_13 2 rfl ?_
        refine j_icmp_ge (tgt := 28) C dX3_passMinutes_14 (by decide) (fun h => absurd h (nle_cl hlt)) (fun c14 => ?_)
        refine j_aload_n C dX3_passMinutes_17 1 rfl ?_
        refine j_callV_i (r := passOneR (passN x i)) (wc' := cSt G ad (passOne (passN x i))) C (m_passOne l G ad (passN x i)) rfl 0 rfl 0 (gV kw_163 kw_164 kw_165 kw_2 kw_166) (by decide +kernel) ⟨(Nat.le_of_ble_eq_true rfl), (Nat.le_of_ble_eq_true rfl)⟩ rfl rfl (Nat.le_of_ble_eq_true rfl) dX3_passMinutes_18 ⟨(Nat.le_of_ble_eq_true rfl), (Nat.le_of_ble_eq_true rfl)⟩ (fl []) (fl [cSt G ad (passOne (passN x i))]) (bperm (bs' := [cSt G ad (passN x i)]) [0] 1 rfl (by decide +kernel) rfl) rfl ?_
        refine j_pop C dX3_passMinutes_21 rfl ?_
        refine j_iinc (v := nI (i + 1)) C [(2, .int (nI (i + 1))), (0, .ref (ad 0)), (1, .int k)] dX3_passMinutes_22 (k := 0) rfl (nI_1 i) (by decide) rfl ?_
        refine j_goto (tgt := 12) C dX3_passMinutes_25 (by decide) ?_
        exact j_eq (by rw [show (passN x (i + 1)) = passOne (passN x i) from rfl]) rfl rfl (ih (i + 1) (by omega))
    exact j_eq (by rw [show (passN x 0) = x from rfl]) (by rw [show nI 0 = 0 from rfl]) rfl (L2 k.toNatClampNeg 0 (by omega))
  · refine j_bipush (v := (-2)) C dX3_passMinutes_7 (by decide) ?_
    refine j_w (cSt G ad x) (fl_one _) ?_
    subst hQ; exact j_iret C hr hk (show (-2) = (f_X3_passMinutes_r x k) from (if_pos c4).symm) (by rw [show (f_X3_passMinutes_x x k) = x from (if_pos c4)]) dX3_passMinutes_9
end
section
/-! THE CHANGES OF A STATION -/
noncomputable def f_X3_changeSetting_x (x : StV) (k : Int32) (y : Int32) : StV := (if k < 0 then x else (if k < 7 then (if y < vLeast k.toNatClampNeg then x else (if y ≤ vMost k.toNatClampNeg then (x.1, upd x.2.1 k.toNatClampNeg y, x.2.2.1, x.2.2.2) else x)) else x))
noncomputable def f_X3_changeSetting_r (x : StV) (k : Int32) (y : Int32) : Int32 := (if k < 0 then (-2) else (if k < 7 then (if y < vLeast k.toNatClampNeg then (-2) else (if y ≤ vMost k.toNatClampNeg then x.2.1 k.toNatClampNeg else (-2))) else (-2)))
set_option maxRecDepth 100000 in
set_option maxHeartbeats 4000000 in
theorem m_X3_changeSetting (l : Launch) (G : GG) (ad : Nat → Nat) (x : StV) (k : Int32) (y : Int32)  : CtI l yX3_changeSetting cX3_changeSetting 4 (some .int) (RM 0) G [.ref (ad 0), .int k, .int y] (cSt G ad x) (f_X3_changeSetting_r x k y) (cSt G ad (f_X3_changeSetting_x x k y)) := by
  refine ct_I RX3 [(0, .ref (ad 0)), (1, .int k), (2, .int y)] rfl (by decide +kernel) (Nat.le_of_ble_eq_true rfl) rfl ?_
  intro p e s m args below meth c A C hr hk hnm
  generalize hQ : (MQ below (PostI G A (f_X3_changeSetting_r x k y) (cSt G ad (f_X3_changeSetting_x x k y))) args s (RM 0).cells (RM 0).slots A) = Q
  refine j_w (fl [cSt G ad x]) (fl_one _).symm ?_
  refine j_iload_n C dX3_changeSetting_0 1 rfl ?_
  refine j_if_lt (tgt := 10) C dX3_changeSetting_1 (by decide) (fun c1 => ?_) (fun c1 => ?_)
  · refine j_bipush (v := (-2)) C dX3_changeSetting_10 (by decide) ?_
    refine j_w (cSt G ad x) (fl_one _) ?_
    subst hQ; exact j_iret C hr hk ((show f_X3_changeSetting_r x k y = (-2) from (if_pos c1)).symm) (by rw [show f_X3_changeSetting_x x k y = x from (if_pos c1)]) dX3_changeSetting_12
  · refine j_iload_n C dX3_changeSetting_4 1 rfl ?_
    refine j_bipush (v := 7) C dX3_changeSetting_5 (by decide) ?_
    refine j_icmp_lt (tgt := 13) C dX3_changeSetting_7 (by decide) (fun c7 => ?_) (fun c7 => ?_)
    · refine j_iload_n C dX3_changeSetting_13 2 rfl ?_
      refine j_gstLN C (List.mem_of_getElem? (i := 8) rfl) dX3_changeSetting_14 ?_
      refine j_iload_n C dX3_changeSetting_17 1 rfl ?_
      refine j_stiL C (vin_lt (N := 7) rfl c1 c7) (v := vLeast k.toNatClampNeg) rfl dX3_changeSetting_18 ?_
      refine j_icmp_lt (tgt := 31) C dX3_changeSetting_19 (by decide) (fun c19 => ?_) (fun c19 => ?_)
      · refine j_bipush (v := (-2)) C dX3_changeSetting_31 (by decide) ?_
        refine j_w (cSt G ad x) (fl_one _) ?_
        subst hQ; exact j_iret C hr hk ((show f_X3_changeSetting_r x k y = (-2) from ((if_neg c1).trans ((if_pos c7).trans (if_pos c19)))).symm) (by rw [show f_X3_changeSetting_x x k y = x from ((if_neg c1).trans ((if_pos c7).trans (if_pos c19)))]) dX3_changeSetting_33
      · refine j_iload_n C dX3_changeSetting_22 2 rfl ?_
        refine j_gstMN C (List.mem_of_getElem? (i := 9) rfl) dX3_changeSetting_23 ?_
        refine j_iload_n C dX3_changeSetting_26 1 rfl ?_
        refine j_stiM C (vin_lt (N := 7) rfl c1 c7) (v := vMost k.toNatClampNeg) rfl dX3_changeSetting_27 ?_
        refine j_icmp_le (tgt := 34) C dX3_changeSetting_28 (by decide) (fun c28 => ?_) (fun c28 => ?_)
        · refine j_aload_n C dX3_changeSetting_34 0 rfl ?_
          refine j_w (fl [[oS (ad 0) (ad 1) (ad 2) x.1], [aI G (ad 1) 7 x.2.1], [aD G (ad 2) 4 (fun k => some (ad (3 + 2 * k)))], cDrs G ad x.2.2.1 x.2.2.2]) rfl ?_
          refine j_get C kin3 rfl 0 rfl 0 (by decide) kw_74 rfl (v := .ref (ad 1)) rfl dX3_changeSetting_35 ?_
          refine j_iload_n C dX3_changeSetting_38 1 rfl ?_
          refine j_iald C 1 rfl (vin_lt (N := 7) rfl c1 c7) (v := x.2.1 k.toNatClampNeg) rfl dX3_changeSetting_39 ?_
          refine j_istore_n C [(3, .int (x.2.1 k.toNatClampNeg)), (0, .ref (ad 0)), (1, .int k), (2, .int y)] dX3_changeSetting_40 (by decide) rfl ?_
          refine j_aload_n C dX3_changeSetting_41 1 rfl ?_
          refine j_get C kin3 rfl 0 rfl 0 (by decide) kw_74 rfl (v := .ref (ad 1)) rfl dX3_changeSetting_42 ?_
          refine j_iload_n C dX3_changeSetting_45 2 rfl ?_
          refine j_iload_n C dX3_changeSetting_46 3 rfl ?_
          refine j_iast C 1 rfl (vin_lt (N := 7) rfl c1 c7) (fl [[oS (ad 0) (ad 1) (ad 2) x.1], [aI G (ad 1) 7 (upd x.2.1 k.toNatClampNeg y)], [aD G (ad 2) 4 (fun k => some (ad (3 + 2 * k)))], cDrs G ad x.2.2.1 x.2.2.2]) rfl dX3_changeSetting_47 ?_
          refine j_iload_n C dX3_changeSetting_48 0 rfl ?_
          refine j_w (fl [cSt G ad (x.1, upd x.2.1 k.toNatClampNeg y, x.2.2.1, x.2.2.2)]) rfl ?_
          refine j_w (cSt G ad (x.1, upd x.2.1 k.toNatClampNeg y, x.2.2.1, x.2.2.2)) (fl_one _) ?_
          subst hQ; exact j_iret C hr hk ((show f_X3_changeSetting_r x k y = x.2.1 k.toNatClampNeg from ((if_neg c1).trans ((if_pos c7).trans ((if_neg c19).trans (if_pos c28))))).symm) (by rw [show f_X3_changeSetting_x x k y = (x.1, upd x.2.1 k.toNatClampNeg y, x.2.2.1, x.2.2.2) from ((if_neg c1).trans ((if_pos c7).trans ((if_neg c19).trans (if_pos c28))))]) dX3_changeSetting_49
        · refine j_bipush (v := (-2)) C dX3_changeSetting_31 (by decide) ?_
          refine j_w (cSt G ad x) (fl_one _) ?_
          subst hQ; exact j_iret C hr hk ((show f_X3_changeSetting_r x k y = (-2) from ((if_neg c1).trans ((if_pos c7).trans ((if_neg c19).trans (if_neg c28))))).symm) (by rw [show f_X3_changeSetting_x x k y = x from ((if_neg c1).trans ((if_pos c7).trans ((if_neg c19).trans (if_neg c28))))]) dX3_changeSetting_33
    · refine j_bipush (v := (-2)) C dX3_changeSetting_10 (by decide) ?_
      refine j_w (cSt G ad x) (fl_one _) ?_
      subst hQ; exact j_iret C hr hk ((show f_X3_changeSetting_r x k y = (-2) from ((if_neg c1).trans (if_neg c7))).symm) (by rw [show f_X3_changeSetting_x x k y = x from ((if_neg c1).trans (if_neg c7))]) dX3_changeSetting_12
noncomputable def f_X3_changeStream_x (x : StV) (k : Int32) (y : Int32) (z : Int32) : StV := (if f_X4_isDrive_r k = 0 then x else (if y < 1 then x else (if 60 < y then x else (if z < 0 then x else (if z ≤ 20 then (x.1, x.2.1, (updF x.2.2.1 k.toNatClampNeg (upd (upd ((x.2.2.1 k.toNatClampNeg).1) 8 y) 9 z, (x.2.2.1 k.toNatClampNeg).2)), (updF x.2.2.2 k.toNatClampNeg (x.2.2.2 k.toNatClampNeg))) else x)))))
noncomputable def f_X3_changeStream_r (x : StV) (k : Int32) (y : Int32) (z : Int32) : Int32 := (if f_X4_isDrive_r k = 0 then (-1) else (if y < 1 then (-2) else (if 60 < y then (-2) else (if z < 0 then (-2) else (if z ≤ 20 then (x.2.2.1 k.toNatClampNeg).1 9 else (-2))))))
set_option maxRecDepth 100000 in
set_option maxHeartbeats 4000000 in
theorem m_X3_changeStream (l : Launch) (G : GG) (ad : Nat → Nat) (x : StV) (k : Int32) (y : Int32) (z : Int32)  : CtI l yX3_changeStream cX3_changeStream 5 (some .int) (RM 1) G [.ref (ad 0), .int k, .int y, .int z] (cSt G ad x) (f_X3_changeStream_r x k y z) (cSt G ad (f_X3_changeStream_x x k y z)) := by
  refine ct_I RX3 [(0, .ref (ad 0)), (1, .int k), (2, .int y), (3, .int z)] rfl (by decide +kernel) (Nat.le_of_ble_eq_true rfl) rfl ?_
  intro p e s m args below meth c A C hr hk hnm
  generalize hQ : (MQ below (PostI G A (f_X3_changeStream_r x k y z) (cSt G ad (f_X3_changeStream_x x k y z))) args s (RM 1).cells (RM 1).slots A) = Q
  refine j_w (fl [cSt G ad x]) (fl_one _).symm ?_
  refine j_iload_n C dX3_changeStream_0 1 rfl ?_
  refine j_pureSN_i (r := f_X4_isDrive_r k) C (m_X4_isDrive l G k) 1 kw_241 (List.mem_of_getElem? (i := 2) rfl) kw_1 kw_240 (by decide +kernel) ⟨(Nat.le_of_ble_eq_true rfl), (Nat.le_of_ble_eq_true rfl)⟩ rfl rfl (Nat.le_of_ble_eq_true rfl) dX3_changeStream_1 ⟨(Nat.le_of_ble_eq_true rfl), (Nat.le_of_ble_eq_true rfl)⟩ ?_
  refine j_if_ne (tgt := 9) C dX3_changeStream_4 (by decide) (fun c4 => ?_) (fun c4 => ?_)
  · refine j_iload_n C dX3_changeStream_9 2 rfl ?_
    refine j_iconst (v := 1) C dX3_changeStream_10 (by decide) ?_
    refine j_icmp_lt (tgt := 30) C dX3_changeStream_11 (by decide) (fun c11 => ?_) (fun c11 => ?_)
    · refine j_bipush (v := (-2)) C dX3_changeStream_30 (by decide) ?_
      refine j_w (cSt G ad x) (fl_one _) ?_
      subst hQ; exact j_iret C hr hk ((show f_X3_changeStream_r x k y z = (-2) from ((if_neg c4).trans (if_pos c11))).symm) (by rw [show f_X3_changeStream_x x k y z = x from ((if_neg c4).trans (if_pos c11))]) dX3_changeStream_32
    · refine j_iload_n C dX3_changeStream_14 2 rfl ?_
      refine j_bipush (v := 60) C dX3_changeStream_15 (by decide) ?_
      refine j_icmp_gt (tgt := 30) C dX3_changeStream_17 (by decide) (fun c17 => ?_) (fun c17 => ?_)
      · refine j_bipush (v := (-2)) C dX3_changeStream_30 (by decide) ?_
        refine j_w (cSt G ad x) (fl_one _) ?_
        subst hQ; exact j_iret C hr hk ((show f_X3_changeStream_r x k y z = (-2) from ((if_neg c4).trans ((if_neg c11).trans (if_pos c17)))).symm) (by rw [show f_X3_changeStream_x x k y z = x from ((if_neg c4).trans ((if_neg c11).trans (if_pos c17)))]) dX3_changeStream_32
      · refine j_iload_n C dX3_changeStream_20 3 rfl ?_
        refine j_if_lt (tgt := 30) C dX3_changeStream_21 (by decide) (fun c21 => ?_) (fun c21 => ?_)
        · refine j_bipush (v := (-2)) C dX3_changeStream_30 (by decide) ?_
          refine j_w (cSt G ad x) (fl_one _) ?_
          subst hQ; exact j_iret C hr hk ((show f_X3_changeStream_r x k y z = (-2) from ((if_neg c4).trans ((if_neg c11).trans ((if_neg c17).trans (if_pos c21))))).symm) (by rw [show f_X3_changeStream_x x k y z = x from ((if_neg c4).trans ((if_neg c11).trans ((if_neg c17).trans (if_pos c21))))]) dX3_changeStream_32
        · refine j_iload_n C dX3_changeStream_24 3 rfl ?_
          refine j_bipush (v := 20) C dX3_changeStream_25 (by decide) ?_
          refine j_icmp_le (tgt := 33) C dX3_changeStream_27 (by decide) (fun c27 => ?_) (fun c27 => ?_)
          · refine j_aload_n C dX3_changeStream_33 0 rfl ?_
            refine j_w (fl [[oS (ad 0) (ad 1) (ad 2) x.1], [aI G (ad 1) 7 x.2.1], [aD G (ad 2) 4 (fun k => some (ad (3 + 2 * k)))], cDrs G ad x.2.2.1 x.2.2.2]) rfl ?_
            refine j_get C kin3 rfl 0 rfl 1 (by decide) kw_76 rfl (v := .ref (ad 2)) rfl dX3_changeStream_34 ?_
            refine j_iload_n C dX3_changeStream_37 1 rfl ?_
            refine j_perm (fl [cDrs G ad x.2.2.1 x.2.2.2, [oS (ad 0) (ad 1) (ad 2) x.1], [aI G (ad 1) 7 x.2.1], [aD G (ad 2) 4 (fun k => some (ad (3 + 2 * k)))]]) (bperm [3, 0, 1, 2] 4 rfl (by decide +kernel) rfl) ?_
            refine j_perm (fl [[oD (ad (3 + 2 * k.toNatClampNeg)) (ad (4 + 2 * k.toNatClampNeg)) (x.2.2.1 k.toNatClampNeg)], [aB G (ad (4 + 2 * k.toNatClampNeg)) (x.2.2.2 k.toNatClampNeg)], cRs G ad x.2.2.1 x.2.2.2 k.toNatClampNeg, [oS (ad 0) (ad 1) (ad 2) x.1], [aI G (ad 1) 7 x.2.1], [aD G (ad 2) 4 (fun k => some (ad (3 + 2 * k)))]]) (open_at (openDrs G ad x.2.2.1 x.2.2.2 k.toNatClampNeg (vin_nat (lt_drive c4)))) ?_
            refine j_perm (fl [[oD (ad (3 + 2 * k.toNatClampNeg)) (ad (4 + 2 * k.toNatClampNeg)) (x.2.2.1 k.toNatClampNeg)], [aB G (ad (4 + 2 * k.toNatClampNeg)) (x.2.2.2 k.toNatClampNeg)], [oS (ad 0) (ad 1) (ad 2) x.1], [aI G (ad 1) 7 x.2.1], [aD G (ad 2) 4 (fun k => some (ad (3 + 2 * k)))], cRs G ad x.2.2.1 x.2.2.2 k.toNatClampNeg]) (bperm [0, 1, 3, 4, 5, 2] 6 rfl (by decide +kernel) rfl) ?_
            refine j_aaldD C 4 rfl (lt_drive c4) (y := ad (3 + 2 * k.toNatClampNeg)) rfl dX3_changeStream_38 ?_
            refine j_get C kin0 rfl 0 rfl 9 (by decide) kw_55 rfl (v := .int ((x.2.2.1 k.toNatClampNeg).1 9)) rfl dX3_changeStream_39 ?_
            refine j_istore C [(4, .int ((x.2.2.1 k.toNatClampNeg).1 9)), (0, .ref (ad 0)), (1, .int k), (2, .int y), (3, .int z)] dX3_changeStream_42 (by decide) rfl ?_
            refine j_aload_n C dX3_changeStream_44 1 rfl ?_
            refine j_get C kin3 rfl 2 rfl 1 (by decide) kw_76 rfl (v := .ref (ad 2)) rfl dX3_changeStream_45 ?_
            refine j_iload_n C dX3_changeStream_48 2 rfl ?_
            refine j_aaldD C 4 rfl (lt_drive c4) (y := ad (3 + 2 * k.toNatClampNeg)) rfl dX3_changeStream_49 ?_
            refine j_iload_n C dX3_changeStream_50 3 rfl ?_
            refine j_put C kin0 rfl 0 rfl 8 (by decide) kw_52 rfl tyX0 tyX0_ok nmX0 rfl rfl rfl (Nat.le_of_ble_eq_true rfl) (fl [[oD (ad (3 + 2 * k.toNatClampNeg)) (ad (4 + 2 * k.toNatClampNeg)) (upd ((x.2.2.1 k.toNatClampNeg).1) 8 y, (x.2.2.1 k.toNatClampNeg).2)], [aB G (ad (4 + 2 * k.toNatClampNeg)) (x.2.2.2 k.toNatClampNeg)], [oS (ad 0) (ad 1) (ad 2) x.1], [aI G (ad 1) 7 x.2.1], [aD G (ad 2) 4 (fun k => some (ad (3 + 2 * k)))], cRs G ad x.2.2.1 x.2.2.2 k.toNatClampNeg]) rfl dX3_changeStream_51 ?_
            refine j_aload_n C dX3_changeStream_54 1 rfl ?_
            refine j_get C kin3 rfl 2 rfl 1 (by decide) kw_76 rfl (v := .ref (ad 2)) rfl dX3_changeStream_55 ?_
            refine j_iload_n C dX3_changeStream_58 2 rfl ?_
            refine j_aaldD C 4 rfl (lt_drive c4) (y := ad (3 + 2 * k.toNatClampNeg)) rfl dX3_changeStream_59 ?_
            refine j_iload_n C dX3_changeStream_60 4 rfl ?_
            refine j_put C kin0 rfl 0 rfl 9 (by decide) kw_55 rfl tyX0 tyX0_ok nmX0 rfl rfl rfl (Nat.le_of_ble_eq_true rfl) (fl [[oD (ad (3 + 2 * k.toNatClampNeg)) (ad (4 + 2 * k.toNatClampNeg)) (upd (upd ((x.2.2.1 k.toNatClampNeg).1) 8 y) 9 z, (x.2.2.1 k.toNatClampNeg).2)], [aB G (ad (4 + 2 * k.toNatClampNeg)) (x.2.2.2 k.toNatClampNeg)], [oS (ad 0) (ad 1) (ad 2) x.1], [aI G (ad 1) 7 x.2.1], [aD G (ad 2) 4 (fun k => some (ad (3 + 2 * k)))], cRs G ad x.2.2.1 x.2.2.2 k.toNatClampNeg]) rfl dX3_changeStream_61 ?_
            refine j_iload C dX3_changeStream_64 0 rfl ?_
            refine j_perm (fl [[oD (ad (3 + 2 * k.toNatClampNeg)) (ad (4 + 2 * k.toNatClampNeg)) (upd (upd ((x.2.2.1 k.toNatClampNeg).1) 8 y) 9 z, (x.2.2.1 k.toNatClampNeg).2)], [aB G (ad (4 + 2 * k.toNatClampNeg)) (x.2.2.2 k.toNatClampNeg)], cRs G ad x.2.2.1 x.2.2.2 k.toNatClampNeg, [oS (ad 0) (ad 1) (ad 2) x.1], [aI G (ad 1) 7 x.2.1], [aD G (ad 2) 4 (fun k => some (ad (3 + 2 * k)))]]) (bperm [0, 1, 5, 2, 3, 4] 6 rfl (by decide +kernel) rfl) ?_
            refine j_perm (fl [cDrs G ad (updF x.2.2.1 k.toNatClampNeg (upd (upd ((x.2.2.1 k.toNatClampNeg).1) 8 y) 9 z, (x.2.2.1 k.toNatClampNeg).2)) (updF x.2.2.2 k.toNatClampNeg (x.2.2.2 k.toNatClampNeg)), [oS (ad 0) (ad 1) (ad 2) x.1], [aI G (ad 1) 7 x.2.1], [aD G (ad 2) 4 (fun k => some (ad (3 + 2 * k)))]]) (shut_at (bs := [[oD (ad (3 + 2 * k.toNatClampNeg)) (ad (4 + 2 * k.toNatClampNeg)) (upd (upd ((x.2.2.1 k.toNatClampNeg).1) 8 y) 9 z, (x.2.2.1 k.toNatClampNeg).2)], [aB G (ad (4 + 2 * k.toNatClampNeg)) (x.2.2.2 k.toNatClampNeg)], cRs G ad x.2.2.1 x.2.2.2 k.toNatClampNeg]) (closeDrs G ad x.2.2.1 x.2.2.2 k.toNatClampNeg (vin_nat (lt_drive c4)) _ _)) ?_
            refine j_perm (fl [[oS (ad 0) (ad 1) (ad 2) x.1], [aI G (ad 1) 7 x.2.1], [aD G (ad 2) 4 (fun k => some (ad (3 + 2 * k)))], cDrs G ad (updF x.2.2.1 k.toNatClampNeg (upd (upd ((x.2.2.1 k.toNatClampNeg).1) 8 y) 9 z, (x.2.2.1 k.toNatClampNeg).2)) (updF x.2.2.2 k.toNatClampNeg (x.2.2.2 k.toNatClampNeg))]) (bperm [1, 2, 3, 0] 4 rfl (by decide +kernel) rfl) ?_
            refine j_w (fl [cSt G ad (x.1, x.2.1, (updF x.2.2.1 k.toNatClampNeg (upd (upd ((x.2.2.1 k.toNatClampNeg).1) 8 y) 9 z, (x.2.2.1 k.toNatClampNeg).2)), (updF x.2.2.2 k.toNatClampNeg (x.2.2.2 k.toNatClampNeg)))]) rfl ?_
            refine j_w (cSt G ad (x.1, x.2.1, (updF x.2.2.1 k.toNatClampNeg (upd (upd ((x.2.2.1 k.toNatClampNeg).1) 8 y) 9 z, (x.2.2.1 k.toNatClampNeg).2)), (updF x.2.2.2 k.toNatClampNeg (x.2.2.2 k.toNatClampNeg)))) (fl_one _) ?_
            subst hQ; exact j_iret C hr hk ((show f_X3_changeStream_r x k y z = (x.2.2.1 k.toNatClampNeg).1 9 from ((if_neg c4).trans ((if_neg c11).trans ((if_neg c17).trans ((if_neg c21).trans (if_pos c27)))))).symm) (by rw [show f_X3_changeStream_x x k y z = (x.1, x.2.1, (updF x.2.2.1 k.toNatClampNeg (upd (upd ((x.2.2.1 k.toNatClampNeg).1) 8 y) 9 z, (x.2.2.1 k.toNatClampNeg).2)), (updF x.2.2.2 k.toNatClampNeg (x.2.2.2 k.toNatClampNeg))) from ((if_neg c4).trans ((if_neg c11).trans ((if_neg c17).trans ((if_neg c21).trans (if_pos c27)))))]) dX3_changeStream_66
          · refine j_bipush (v := (-2)) C dX3_changeStream_30 (by decide) ?_
            refine j_w (cSt G ad x) (fl_one _) ?_
            subst hQ; exact j_iret C hr hk ((show f_X3_changeStream_r x k y z = (-2) from ((if_neg c4).trans ((if_neg c11).trans ((if_neg c17).trans ((if_neg c21).trans (if_neg c27)))))).symm) (by rw [show f_X3_changeStream_x x k y z = x from ((if_neg c4).trans ((if_neg c11).trans ((if_neg c17).trans ((if_neg c21).trans (if_neg c27)))))]) dX3_changeStream_32
  · refine j_iconst (v := (-1)) C dX3_changeStream_7 (by decide) ?_
    refine j_w (cSt G ad x) (fl_one _) ?_
    subst hQ; exact j_iret C hr hk ((show f_X3_changeStream_r x k y z = (-1) from (if_pos c4)).symm) (by rw [show f_X3_changeStream_x x k y z = x from (if_pos c4)]) dX3_changeStream_8
noncomputable def f_X3_bringUnits_x (x : StV) (k : Int32) (y : Int32) : StV := (if f_X4_isDrive_r k = 0 then x else (if y < 1 then x else (if y ≤ 200 then (if (x.2.2.1 k.toNatClampNeg).1 3 ≤ 9999 - y then (x.1, x.2.1, (updF x.2.2.1 k.toNatClampNeg (upd ((x.2.2.1 k.toNatClampNeg).1) 3 (((x.2.2.1 k.toNatClampNeg).1 3) + y), (x.2.2.1 k.toNatClampNeg).2)), (updF x.2.2.2 k.toNatClampNeg (x.2.2.2 k.toNatClampNeg))) else x) else x)))
noncomputable def f_X3_bringUnits_r (x : StV) (k : Int32) (y : Int32) : Int32 := (if f_X4_isDrive_r k = 0 then (-1) else (if y < 1 then (-2) else (if y ≤ 200 then (if (x.2.2.1 k.toNatClampNeg).1 3 ≤ 9999 - y then (((x.2.2.1 k.toNatClampNeg).1 3) + y) else (-4)) else (-2))))
set_option maxRecDepth 100000 in
set_option maxHeartbeats 4000000 in
theorem m_X3_bringUnits (l : Launch) (G : GG) (ad : Nat → Nat) (x : StV) (k : Int32) (y : Int32)  : CtI l yX3_bringUnits cX3_bringUnits 3 (some .int) (RM 1) G [.ref (ad 0), .int k, .int y] (cSt G ad x) (f_X3_bringUnits_r x k y) (cSt G ad (f_X3_bringUnits_x x k y)) := by
  refine ct_I RX3 [(0, .ref (ad 0)), (1, .int k), (2, .int y)] rfl (by decide +kernel) (Nat.le_of_ble_eq_true rfl) rfl ?_
  intro p e s m args below meth c A C hr hk hnm
  generalize hQ : (MQ below (PostI G A (f_X3_bringUnits_r x k y) (cSt G ad (f_X3_bringUnits_x x k y))) args s (RM 1).cells (RM 1).slots A) = Q
  refine j_w (fl [cSt G ad x]) (fl_one _).symm ?_
  refine j_iload_n C dX3_bringUnits_0 1 rfl ?_
  refine j_pureSN_i (r := f_X4_isDrive_r k) C (m_X4_isDrive l G k) 1 kw_241 (List.mem_of_getElem? (i := 2) rfl) kw_1 kw_240 (by decide +kernel) ⟨(Nat.le_of_ble_eq_true rfl), (Nat.le_of_ble_eq_true rfl)⟩ rfl rfl (Nat.le_of_ble_eq_true rfl) dX3_bringUnits_1 ⟨(Nat.le_of_ble_eq_true rfl), (Nat.le_of_ble_eq_true rfl)⟩ ?_
  refine j_if_ne (tgt := 9) C dX3_bringUnits_4 (by decide) (fun c4 => ?_) (fun c4 => ?_)
  · refine j_iload_n C dX3_bringUnits_9 2 rfl ?_
    refine j_iconst (v := 1) C dX3_bringUnits_10 (by decide) ?_
    refine j_icmp_lt (tgt := 21) C dX3_bringUnits_11 (by decide) (fun c11 => ?_) (fun c11 => ?_)
    · refine j_bipush (v := (-2)) C dX3_bringUnits_21 (by decide) ?_
      refine j_w (cSt G ad x) (fl_one _) ?_
      subst hQ; exact j_iret C hr hk ((show f_X3_bringUnits_r x k y = (-2) from ((if_neg c4).trans (if_pos c11))).symm) (by rw [show f_X3_bringUnits_x x k y = x from ((if_neg c4).trans (if_pos c11))]) dX3_bringUnits_23
    · refine j_iload_n C dX3_bringUnits_14 2 rfl ?_
      refine j_sipush (v := 200) C dX3_bringUnits_15 (by decide) ?_
      refine j_icmp_le (tgt := 24) C dX3_bringUnits_18 (by decide) (fun c18 => ?_) (fun c18 => ?_)
      · refine j_aload_n C dX3_bringUnits_24 0 rfl ?_
        refine j_w (fl [[oS (ad 0) (ad 1) (ad 2) x.1], [aI G (ad 1) 7 x.2.1], [aD G (ad 2) 4 (fun k => some (ad (3 + 2 * k)))], cDrs G ad x.2.2.1 x.2.2.2]) rfl ?_
        refine j_get C kin3 rfl 0 rfl 1 (by decide) kw_76 rfl (v := .ref (ad 2)) rfl dX3_bringUnits_25 ?_
        refine j_iload_n C dX3_bringUnits_28 1 rfl ?_
        refine j_perm (fl [cDrs G ad x.2.2.1 x.2.2.2, [oS (ad 0) (ad 1) (ad 2) x.1], [aI G (ad 1) 7 x.2.1], [aD G (ad 2) 4 (fun k => some (ad (3 + 2 * k)))]]) (bperm [3, 0, 1, 2] 4 rfl (by decide +kernel) rfl) ?_
        refine j_perm (fl [[oD (ad (3 + 2 * k.toNatClampNeg)) (ad (4 + 2 * k.toNatClampNeg)) (x.2.2.1 k.toNatClampNeg)], [aB G (ad (4 + 2 * k.toNatClampNeg)) (x.2.2.2 k.toNatClampNeg)], cRs G ad x.2.2.1 x.2.2.2 k.toNatClampNeg, [oS (ad 0) (ad 1) (ad 2) x.1], [aI G (ad 1) 7 x.2.1], [aD G (ad 2) 4 (fun k => some (ad (3 + 2 * k)))]]) (open_at (openDrs G ad x.2.2.1 x.2.2.2 k.toNatClampNeg (vin_nat (lt_drive c4)))) ?_
        refine j_perm (fl [[oD (ad (3 + 2 * k.toNatClampNeg)) (ad (4 + 2 * k.toNatClampNeg)) (x.2.2.1 k.toNatClampNeg)], [aB G (ad (4 + 2 * k.toNatClampNeg)) (x.2.2.2 k.toNatClampNeg)], [oS (ad 0) (ad 1) (ad 2) x.1], [aI G (ad 1) 7 x.2.1], [aD G (ad 2) 4 (fun k => some (ad (3 + 2 * k)))], cRs G ad x.2.2.1 x.2.2.2 k.toNatClampNeg]) (bperm [0, 1, 3, 4, 5, 2] 6 rfl (by decide +kernel) rfl) ?_
        refine j_aaldD C 4 rfl (lt_drive c4) (y := ad (3 + 2 * k.toNatClampNeg)) rfl dX3_bringUnits_29 ?_
        refine j_get C kin0 rfl 0 rfl 3 (by decide) kw_39 rfl (v := .int ((x.2.2.1 k.toNatClampNeg).1 3)) rfl dX3_bringUnits_30 ?_
        refine j_sipush (v := 9999) C dX3_bringUnits_33 (by decide) ?_
        refine j_iload_n C dX3_bringUnits_36 2 rfl ?_
        refine j_isub C dX3_bringUnits_37 rfl ?_
        refine j_icmp_le (tgt := 44) C dX3_bringUnits_38 (by decide) (fun c38 => ?_) (fun c38 => ?_)
        · refine j_aload_n C dX3_bringUnits_44 0 rfl ?_
          refine j_get C kin3 rfl 2 rfl 1 (by decide) kw_76 rfl (v := .ref (ad 2)) rfl dX3_bringUnits_45 ?_
          refine j_iload_n C dX3_bringUnits_48 1 rfl ?_
          refine j_aaldD C 4 rfl (lt_drive c4) (y := ad (3 + 2 * k.toNatClampNeg)) rfl dX3_bringUnits_49 ?_
          refine j_dup C dX3_bringUnits_50 rfl ?_
          refine j_get C kin0 rfl 0 rfl 3 (by decide) kw_39 rfl (v := .int ((x.2.2.1 k.toNatClampNeg).1 3)) rfl dX3_bringUnits_51 ?_
          refine j_iload_n C dX3_bringUnits_54 2 rfl ?_
          refine j_iadd C dX3_bringUnits_55 rfl ?_
          generalize hw0 : ((x.2.2.1 k.toNatClampNeg).1 3) + y = w0
          refine j_put C kin0 rfl 0 rfl 3 (by decide) kw_39 rfl tyX0 tyX0_ok nmX0 rfl rfl rfl (Nat.le_of_ble_eq_true rfl) (fl [[oD (ad (3 + 2 * k.toNatClampNeg)) (ad (4 + 2 * k.toNatClampNeg)) (upd ((x.2.2.1 k.toNatClampNeg).1) 3 w0, (x.2.2.1 k.toNatClampNeg).2)], [aB G (ad (4 + 2 * k.toNatClampNeg)) (x.2.2.2 k.toNatClampNeg)], [oS (ad 0) (ad 1) (ad 2) x.1], [aI G (ad 1) 7 x.2.1], [aD G (ad 2) 4 (fun k => some (ad (3 + 2 * k)))], cRs G ad x.2.2.1 x.2.2.2 k.toNatClampNeg]) rfl dX3_bringUnits_56 ?_
          refine j_aload_n C dX3_bringUnits_59 0 rfl ?_
          refine j_get C kin3 rfl 2 rfl 1 (by decide) kw_76 rfl (v := .ref (ad 2)) rfl dX3_bringUnits_60 ?_
          refine j_iload_n C dX3_bringUnits_63 1 rfl ?_
          refine j_aaldD C 4 rfl (lt_drive c4) (y := ad (3 + 2 * k.toNatClampNeg)) rfl dX3_bringUnits_64 ?_
          refine j_get C kin0 rfl 0 rfl 3 (by decide) kw_39 rfl (v := .int w0) rfl dX3_bringUnits_65 ?_
          refine j_perm (fl [[oD (ad (3 + 2 * k.toNatClampNeg)) (ad (4 + 2 * k.toNatClampNeg)) (upd ((x.2.2.1 k.toNatClampNeg).1) 3 w0, (x.2.2.1 k.toNatClampNeg).2)], [aB G (ad (4 + 2 * k.toNatClampNeg)) (x.2.2.2 k.toNatClampNeg)], cRs G ad x.2.2.1 x.2.2.2 k.toNatClampNeg, [oS (ad 0) (ad 1) (ad 2) x.1], [aI G (ad 1) 7 x.2.1], [aD G (ad 2) 4 (fun k => some (ad (3 + 2 * k)))]]) (bperm [0, 1, 5, 2, 3, 4] 6 rfl (by decide +kernel) rfl) ?_
          refine j_perm (fl [cDrs G ad (updF x.2.2.1 k.toNatClampNeg (upd ((x.2.2.1 k.toNatClampNeg).1) 3 w0, (x.2.2.1 k.toNatClampNeg).2)) (updF x.2.2.2 k.toNatClampNeg (x.2.2.2 k.toNatClampNeg)), [oS (ad 0) (ad 1) (ad 2) x.1], [aI G (ad 1) 7 x.2.1], [aD G (ad 2) 4 (fun k => some (ad (3 + 2 * k)))]]) (shut_at (bs := [[oD (ad (3 + 2 * k.toNatClampNeg)) (ad (4 + 2 * k.toNatClampNeg)) (upd ((x.2.2.1 k.toNatClampNeg).1) 3 w0, (x.2.2.1 k.toNatClampNeg).2)], [aB G (ad (4 + 2 * k.toNatClampNeg)) (x.2.2.2 k.toNatClampNeg)], cRs G ad x.2.2.1 x.2.2.2 k.toNatClampNeg]) (closeDrs G ad x.2.2.1 x.2.2.2 k.toNatClampNeg (vin_nat (lt_drive c4)) _ _)) ?_
          refine j_perm (fl [[oS (ad 0) (ad 1) (ad 2) x.1], [aI G (ad 1) 7 x.2.1], [aD G (ad 2) 4 (fun k => some (ad (3 + 2 * k)))], cDrs G ad (updF x.2.2.1 k.toNatClampNeg (upd ((x.2.2.1 k.toNatClampNeg).1) 3 w0, (x.2.2.1 k.toNatClampNeg).2)) (updF x.2.2.2 k.toNatClampNeg (x.2.2.2 k.toNatClampNeg))]) (bperm [1, 2, 3, 0] 4 rfl (by decide +kernel) rfl) ?_
          refine j_w (fl [cSt G ad (x.1, x.2.1, (updF x.2.2.1 k.toNatClampNeg (upd ((x.2.2.1 k.toNatClampNeg).1) 3 w0, (x.2.2.1 k.toNatClampNeg).2)), (updF x.2.2.2 k.toNatClampNeg (x.2.2.2 k.toNatClampNeg)))]) rfl ?_
          refine j_w (cSt G ad (x.1, x.2.1, (updF x.2.2.1 k.toNatClampNeg (upd ((x.2.2.1 k.toNatClampNeg).1) 3 w0, (x.2.2.1 k.toNatClampNeg).2)), (updF x.2.2.2 k.toNatClampNeg (x.2.2.2 k.toNatClampNeg)))) (fl_one _) ?_
          subst hQ; subst hw0; exact j_iret C hr hk ((show f_X3_bringUnits_r x k y = (((x.2.2.1 k.toNatClampNeg).1 3) + y) from ((if_neg c4).trans ((if_neg c11).trans ((if_pos c18).trans (if_pos c38))))).symm) (by rw [show f_X3_bringUnits_x x k y = (x.1, x.2.1, (updF x.2.2.1 k.toNatClampNeg (upd ((x.2.2.1 k.toNatClampNeg).1) 3 (((x.2.2.1 k.toNatClampNeg).1 3) + y), (x.2.2.1 k.toNatClampNeg).2)), (updF x.2.2.2 k.toNatClampNeg (x.2.2.2 k.toNatClampNeg))) from ((if_neg c4).trans ((if_neg c11).trans ((if_pos c18).trans (if_pos c38))))]) dX3_bringUnits_68
        · refine j_bipush (v := (-4)) C dX3_bringUnits_41 (by decide) ?_
          refine j_perm (fl [[oD (ad (3 + 2 * k.toNatClampNeg)) (ad (4 + 2 * k.toNatClampNeg)) (x.2.2.1 k.toNatClampNeg)], [aB G (ad (4 + 2 * k.toNatClampNeg)) (x.2.2.2 k.toNatClampNeg)], cRs G ad x.2.2.1 x.2.2.2 k.toNatClampNeg, [oS (ad 0) (ad 1) (ad 2) x.1], [aI G (ad 1) 7 x.2.1], [aD G (ad 2) 4 (fun k => some (ad (3 + 2 * k)))]]) (bperm [0, 1, 5, 2, 3, 4] 6 rfl (by decide +kernel) rfl) ?_
          refine j_perm (fl [cDrs G ad x.2.2.1 x.2.2.2, [oS (ad 0) (ad 1) (ad 2) x.1], [aI G (ad 1) 7 x.2.1], [aD G (ad 2) 4 (fun k => some (ad (3 + 2 * k)))]]) (shut_at (bs := [[oD (ad (3 + 2 * k.toNatClampNeg)) (ad (4 + 2 * k.toNatClampNeg)) (x.2.2.1 k.toNatClampNeg)], [aB G (ad (4 + 2 * k.toNatClampNeg)) (x.2.2.2 k.toNatClampNeg)], cRs G ad x.2.2.1 x.2.2.2 k.toNatClampNeg]) (openDrs G ad x.2.2.1 x.2.2.2 k.toNatClampNeg (vin_nat (lt_drive c4))).symm) ?_
          refine j_perm (fl [[oS (ad 0) (ad 1) (ad 2) x.1], [aI G (ad 1) 7 x.2.1], [aD G (ad 2) 4 (fun k => some (ad (3 + 2 * k)))], cDrs G ad x.2.2.1 x.2.2.2]) (bperm [1, 2, 3, 0] 4 rfl (by decide +kernel) rfl) ?_
          refine j_w (fl [cSt G ad x]) rfl ?_
          refine j_w (cSt G ad x) (fl_one _) ?_
          subst hQ; exact j_iret C hr hk ((show f_X3_bringUnits_r x k y = (-4) from ((if_neg c4).trans ((if_neg c11).trans ((if_pos c18).trans (if_neg c38))))).symm) (by rw [show f_X3_bringUnits_x x k y = x from ((if_neg c4).trans ((if_neg c11).trans ((if_pos c18).trans (if_neg c38))))]) dX3_bringUnits_43
      · refine j_bipush (v := (-2)) C dX3_bringUnits_21 (by decide) ?_
        refine j_w (cSt G ad x) (fl_one _) ?_
        subst hQ; exact j_iret C hr hk ((show f_X3_bringUnits_r x k y = (-2) from ((if_neg c4).trans ((if_neg c11).trans (if_neg c18)))).symm) (by rw [show f_X3_bringUnits_x x k y = x from ((if_neg c4).trans ((if_neg c11).trans (if_neg c18)))]) dX3_bringUnits_23
  · refine j_iconst (v := (-1)) C dX3_bringUnits_7 (by decide) ?_
    refine j_w (cSt G ad x) (fl_one _) ?_
    subst hQ; exact j_iret C hr hk ((show f_X3_bringUnits_r x k y = (-1) from (if_pos c4)).symm) (by rw [show f_X3_bringUnits_x x k y = x from (if_pos c4)]) dX3_bringUnits_8
noncomputable def f_X3_changeHour_rq4 (x : StV) (k : Int32) (y : Int32) (z : Int32) (u : Int32) : Int32 := f_X0_hourState_r (x.2.2.1 k.toNatClampNeg) (x.2.2.2 k.toNatClampNeg) y
noncomputable def f_X3_changeHour_fq5 (x : StV) (k : Int32) (y : Int32) (z : Int32) (u : Int32) : (Nat → Int8) := f_X0_markHour_f (x.2.2.1 k.toNatClampNeg) (x.2.2.2 k.toNatClampNeg) y u
noncomputable def f_X3_changeHour_rq6 (x : StV) (k : Int32) (y : Int32) (z : Int32) (u : Int32) : Int32 := f_X0_soldHours_r (x.2.2.1 k.toNatClampNeg) (f_X3_changeHour_fq5 x k y z u)
noncomputable def f_X3_changeHour_x (x : StV) (k : Int32) (y : Int32) (z : Int32) (u : Int32) : StV := (if f_X4_isDrive_r k = 0 then x else (if f_X4_isHour_r y = 0 then x else (if y ≤ f_X3_hourOfNow_r x.1 then x else (if (f_X3_changeHour_rq4 x k y z u) = z then (x.1, x.2.1, (updF x.2.2.1 k.toNatClampNeg (x.2.2.1 k.toNatClampNeg)), (updF x.2.2.2 k.toNatClampNeg (f_X3_changeHour_fq5 x k y z u))) else x))))
noncomputable def f_X3_changeHour_r (x : StV) (k : Int32) (y : Int32) (z : Int32) (u : Int32) : Int32 := (if f_X4_isDrive_r k = 0 then (-1) else (if f_X4_isHour_r y = 0 then (-2) else (if y ≤ f_X3_hourOfNow_r x.1 then (-5) else (if (f_X3_changeHour_rq4 x k y z u) = z then (f_X3_changeHour_rq6 x k y z u) else (-5)))))
set_option maxRecDepth 100000 in
set_option maxHeartbeats 4000000 in
theorem m_X3_changeHour (l : Launch) (G : GG) (ad : Nat → Nat) (x : StV) (k : Int32) (y : Int32) (z : Int32) (u : Int32)  : CtI l yX3_changeHour cX3_changeHour 5 (some .int) (RM 2) G [.ref (ad 0), .int k, .int y, .int z, .int u] (cSt G ad x) (f_X3_changeHour_r x k y z u) (cSt G ad (f_X3_changeHour_x x k y z u)) := by
  refine ct_I RX3 [(0, .ref (ad 0)), (1, .int k), (2, .int y), (3, .int z), (4, .int u)] rfl (by decide +kernel) (Nat.le_of_ble_eq_true rfl) rfl ?_
  intro p e s m args below meth c A C hr hk hnm
  generalize hQ : (MQ below (PostI G A (f_X3_changeHour_r x k y z u) (cSt G ad (f_X3_changeHour_x x k y z u))) args s (RM 2).cells (RM 2).slots A) = Q
  refine j_w (fl [cSt G ad x]) (fl_one _).symm ?_
  refine j_iload_n C dX3_changeHour_0 1 rfl ?_
  refine j_pureSN_i (r := f_X4_isDrive_r k) C (m_X4_isDrive l G k) 1 kw_241 (List.mem_of_getElem? (i := 2) rfl) kw_1 kw_240 (by decide +kernel) ⟨(Nat.le_of_ble_eq_true rfl), (Nat.le_of_ble_eq_true rfl)⟩ rfl rfl (Nat.le_of_ble_eq_true rfl) dX3_changeHour_1 ⟨(Nat.le_of_ble_eq_true rfl), (Nat.le_of_ble_eq_true rfl)⟩ ?_
  refine j_if_ne (tgt := 9) C dX3_changeHour_4 (by decide) (fun c4 => ?_) (fun c4 => ?_)
  · refine j_iload_n C dX3_changeHour_9 2 rfl ?_
    refine j_pureSN_i (r := f_X4_isHour_r y) C (m_X4_isHour l G y) 1 kw_185 (List.mem_of_getElem? (i := 3) rfl) kw_1 kw_184 (by decide +kernel) ⟨(Nat.le_of_ble_eq_true rfl), (Nat.le_of_ble_eq_true rfl)⟩ rfl rfl (Nat.le_of_ble_eq_true rfl) dX3_changeHour_10 ⟨(Nat.le_of_ble_eq_true rfl), (Nat.le_of_ble_eq_true rfl)⟩ ?_
    refine j_if_ne (tgt := 19) C dX3_changeHour_13 (by decide) (fun c13 => ?_) (fun c13 => ?_)
    · refine j_iload_n C dX3_changeHour_19 2 rfl ?_
      refine j_aload_n C dX3_changeHour_20 0 rfl ?_
      refine j_w (fl [[oS (ad 0) (ad 1) (ad 2) x.1], [aI G (ad 1) 7 x.2.1], [aD G (ad 2) 4 (fun k => some (ad (3 + 2 * k)))], cDrs G ad x.2.2.1 x.2.2.2]) rfl ?_
      refine j_callV_i (r := f_X3_hourOfNow_r x.1) (wc' := [oS (ad 0) (ad 1) (ad 2) x.1]) C (m_X3_hourOfNow l G (ad 0) (ad 1) (ad 2) x.1) rfl 0 rfl 0 (gV kw_172 kw_173 kw_174 kw_2 kw_175) (by decide +kernel) ⟨(Nat.le_of_ble_eq_true rfl), (Nat.le_of_ble_eq_true rfl)⟩ rfl rfl (Nat.le_of_ble_eq_true rfl) dX3_changeHour_21 ⟨(Nat.le_of_ble_eq_true rfl), (Nat.le_of_ble_eq_true rfl)⟩ (fl [[aI G (ad 1) 7 x.2.1], [aD G (ad 2) 4 (fun k => some (ad (3 + 2 * k)))], cDrs G ad x.2.2.1 x.2.2.2]) (fl [[oS (ad 0) (ad 1) (ad 2) x.1], [aI G (ad 1) 7 x.2.1], [aD G (ad 2) 4 (fun k => some (ad (3 + 2 * k)))], cDrs G ad x.2.2.1 x.2.2.2]) (bperm (bs' := [[oS (ad 0) (ad 1) (ad 2) x.1], [aI G (ad 1) 7 x.2.1], [aD G (ad 2) 4 (fun k => some (ad (3 + 2 * k)))], cDrs G ad x.2.2.1 x.2.2.2]) [0, 1, 2, 3] 4 rfl (by decide +kernel) rfl) rfl ?_
      refine j_icmp_le (tgt := 41) C dX3_changeHour_24 (by decide) (fun c24 => ?_) (fun c24 => ?_)
      · refine j_bipush (v := (-5)) C dX3_changeHour_41 (by decide) ?_
        refine j_w (fl [cSt G ad x]) rfl ?_
        refine j_w (cSt G ad x) (fl_one _) ?_
        subst hQ; exact j_iret C hr hk ((show f_X3_changeHour_r x k y z u = (-5) from ((if_neg c4).trans ((if_neg c13).trans (if_pos c24)))).symm) (by rw [show f_X3_changeHour_x x k y z u = x from ((if_neg c4).trans ((if_neg c13).trans (if_pos c24)))]) dX3_changeHour_43
      · refine j_aload_n C dX3_changeHour_27 0 rfl ?_
        refine j_get C kin3 rfl 0 rfl 1 (by decide) kw_76 rfl (v := .ref (ad 2)) rfl dX3_changeHour_28 ?_
        refine j_iload_n C dX3_changeHour_31 1 rfl ?_
        refine j_perm (fl [cDrs G ad x.2.2.1 x.2.2.2, [oS (ad 0) (ad 1) (ad 2) x.1], [aI G (ad 1) 7 x.2.1], [aD G (ad 2) 4 (fun k => some (ad (3 + 2 * k)))]]) (bperm [3, 0, 1, 2] 4 rfl (by decide +kernel) rfl) ?_
        refine j_perm (fl [[oD (ad (3 + 2 * k.toNatClampNeg)) (ad (4 + 2 * k.toNatClampNeg)) (x.2.2.1 k.toNatClampNeg)], [aB G (ad (4 + 2 * k.toNatClampNeg)) (x.2.2.2 k.toNatClampNeg)], cRs G ad x.2.2.1 x.2.2.2 k.toNatClampNeg, [oS (ad 0) (ad 1) (ad 2) x.1], [aI G (ad 1) 7 x.2.1], [aD G (ad 2) 4 (fun k => some (ad (3 + 2 * k)))]]) (open_at (openDrs G ad x.2.2.1 x.2.2.2 k.toNatClampNeg (vin_nat (lt_drive c4)))) ?_
        refine j_perm (fl [[oD (ad (3 + 2 * k.toNatClampNeg)) (ad (4 + 2 * k.toNatClampNeg)) (x.2.2.1 k.toNatClampNeg)], [aB G (ad (4 + 2 * k.toNatClampNeg)) (x.2.2.2 k.toNatClampNeg)], [oS (ad 0) (ad 1) (ad 2) x.1], [aI G (ad 1) 7 x.2.1], [aD G (ad 2) 4 (fun k => some (ad (3 + 2 * k)))], cRs G ad x.2.2.1 x.2.2.2 k.toNatClampNeg]) (bperm [0, 1, 3, 4, 5, 2] 6 rfl (by decide +kernel) rfl) ?_
        refine j_aaldD C 4 rfl (lt_drive c4) (y := ad (3 + 2 * k.toNatClampNeg)) rfl dX3_changeHour_32 ?_
        refine j_iload_n C dX3_changeHour_33 2 rfl ?_
        refine j_callV_i (r := f_X0_hourState_r (x.2.2.1 k.toNatClampNeg) (x.2.2.2 k.toNatClampNeg) y) (wc' := [oD (ad (3 + 2 * k.toNatClampNeg)) (ad (4 + 2 * k.toNatClampNeg)) (x.2.2.1 k.toNatClampNeg), aB G (ad (4 + 2 * k.toNatClampNeg)) (x.2.2.2 k.toNatClampNeg)]) C (m_X0_hourState l G (ad (3 + 2 * k.toNatClampNeg)) (ad (4 + 2 * k.toNatClampNeg)) (x.2.2.1 k.toNatClampNeg) (x.2.2.2 k.toNatClampNeg) y) rfl 0 rfl 1 (gV kw_189 kw_181 kw_182 kw_4 kw_183) (by decide +kernel) ⟨(Nat.le_of_ble_eq_true rfl), (Nat.le_of_ble_eq_true rfl)⟩ rfl rfl (Nat.le_of_ble_eq_true rfl) dX3_changeHour_34 ⟨(Nat.le_of_ble_eq_true rfl), (Nat.le_of_ble_eq_true rfl)⟩ (fl [[oS (ad 0) (ad 1) (ad 2) x.1], [aI G (ad 1) 7 x.2.1], [aD G (ad 2) 4 (fun k => some (ad (3 + 2 * k)))], cRs G ad x.2.2.1 x.2.2.2 k.toNatClampNeg]) (fl [[oD (ad (3 + 2 * k.toNatClampNeg)) (ad (4 + 2 * k.toNatClampNeg)) (x.2.2.1 k.toNatClampNeg)], [aB G (ad (4 + 2 * k.toNatClampNeg)) (x.2.2.2 k.toNatClampNeg)], [oS (ad 0) (ad 1) (ad 2) x.1], [aI G (ad 1) 7 x.2.1], [aD G (ad 2) 4 (fun k => some (ad (3 + 2 * k)))], cRs G ad x.2.2.1 x.2.2.2 k.toNatClampNeg]) (bperm (bs' := [[oD (ad (3 + 2 * k.toNatClampNeg)) (ad (4 + 2 * k.toNatClampNeg)) (x.2.2.1 k.toNatClampNeg)], [aB G (ad (4 + 2 * k.toNatClampNeg)) (x.2.2.2 k.toNatClampNeg)], [oS (ad 0) (ad 1) (ad 2) x.1], [aI G (ad 1) 7 x.2.1], [aD G (ad 2) 4 (fun k => some (ad (3 + 2 * k)))], cRs G ad x.2.2.1 x.2.2.2 k.toNatClampNeg]) [0, 1, 2, 3, 4, 5] 6 rfl (by decide +kernel) rfl) rfl ?_
        generalize hzw0 : f_X0_hourState_r (x.2.2.1 k.toNatClampNeg) (x.2.2.2 k.toNatClampNeg) y = w0
        have hw0 : f_X3_changeHour_rq4 x k y z u = w0 := by subst hzw0; rfl
        refine j_iload_n C dX3_changeHour_37 3 rfl ?_
        refine j_icmp_eq (tgt := 44) C dX3_changeHour_38 (by decide) (fun c38 => ?_) (fun c38 => ?_)
        · refine j_aload_n C dX3_changeHour_44 0 rfl ?_
          refine j_get C kin3 rfl 2 rfl 1 (by decide) kw_76 rfl (v := .ref (ad 2)) rfl dX3_changeHour_45 ?_
          refine j_iload_n C dX3_changeHour_48 1 rfl ?_
          refine j_aaldD C 4 rfl (lt_drive c4) (y := ad (3 + 2 * k.toNatClampNeg)) rfl dX3_changeHour_49 ?_
          refine j_iload_n C dX3_changeHour_50 2 rfl ?_
          refine j_iload C dX3_changeHour_51 4 rfl ?_
          refine j_callV_v (wc' := [oD (ad (3 + 2 * k.toNatClampNeg)) (ad (4 + 2 * k.toNatClampNeg)) (x.2.2.1 k.toNatClampNeg), aB G (ad (4 + 2 * k.toNatClampNeg)) (f_X0_markHour_f (x.2.2.1 k.toNatClampNeg) (x.2.2.2 k.toNatClampNeg) y u)]) C (m_X0_markHour l G (ad (3 + 2 * k.toNatClampNeg)) (ad (4 + 2 * k.toNatClampNeg)) (x.2.2.1 k.toNatClampNeg) (x.2.2.2 k.toNatClampNeg) y u) rfl 0 rfl 2 (gV kw_190 kw_191 kw_192 kw_4 kw_193) (by decide +kernel) ⟨(Nat.le_of_ble_eq_true rfl), (Nat.le_of_ble_eq_true rfl)⟩ rfl rfl (Nat.le_of_ble_eq_true rfl) dX3_changeHour_53 ⟨(Nat.le_of_ble_eq_true rfl), (Nat.le_of_ble_eq_true rfl)⟩ (fl [[oS (ad 0) (ad 1) (ad 2) x.1], [aI G (ad 1) 7 x.2.1], [aD G (ad 2) 4 (fun k => some (ad (3 + 2 * k)))], cRs G ad x.2.2.1 x.2.2.2 k.toNatClampNeg]) (fl [[oD (ad (3 + 2 * k.toNatClampNeg)) (ad (4 + 2 * k.toNatClampNeg)) (x.2.2.1 k.toNatClampNeg)], [aB G (ad (4 + 2 * k.toNatClampNeg)) (f_X0_markHour_f (x.2.2.1 k.toNatClampNeg) (x.2.2.2 k.toNatClampNeg) y u)], [oS (ad 0) (ad 1) (ad 2) x.1], [aI G (ad 1) 7 x.2.1], [aD G (ad 2) 4 (fun k => some (ad (3 + 2 * k)))], cRs G ad x.2.2.1 x.2.2.2 k.toNatClampNeg]) (bperm (bs' := [[oD (ad (3 + 2 * k.toNatClampNeg)) (ad (4 + 2 * k.toNatClampNeg)) (x.2.2.1 k.toNatClampNeg)], [aB G (ad (4 + 2 * k.toNatClampNeg)) (x.2.2.2 k.toNatClampNeg)], [oS (ad 0) (ad 1) (ad 2) x.1], [aI G (ad 1) 7 x.2.1], [aD G (ad 2) 4 (fun k => some (ad (3 + 2 * k)))], cRs G ad x.2.2.1 x.2.2.2 k.toNatClampNeg]) [0, 1, 2, 3, 4, 5] 6 rfl (by decide +kernel) rfl) rfl ?_
          generalize hzw1 : f_X0_markHour_f (x.2.2.1 k.toNatClampNeg) (x.2.2.2 k.toNatClampNeg) y u = w1
          have hw1 : f_X3_changeHour_fq5 x k y z u = w1 := by subst hw0; subst hzw1; rfl
          refine j_aload_n C dX3_changeHour_56 0 rfl ?_
          refine j_get C kin3 rfl 2 rfl 1 (by decide) kw_76 rfl (v := .ref (ad 2)) rfl dX3_changeHour_57 ?_
          refine j_iload_n C dX3_changeHour_60 1 rfl ?_
          refine j_aaldD C 4 rfl (lt_drive c4) (y := ad (3 + 2 * k.toNatClampNeg)) rfl dX3_changeHour_61 ?_
          refine j_callV_i (r := f_X0_soldHours_r (x.2.2.1 k.toNatClampNeg) w1) (wc' := [oD (ad (3 + 2 * k.toNatClampNeg)) (ad (4 + 2 * k.toNatClampNeg)) (x.2.2.1 k.toNatClampNeg), aB G (ad (4 + 2 * k.toNatClampNeg)) w1]) C (m_X0_soldHours l G (ad (3 + 2 * k.toNatClampNeg)) (ad (4 + 2 * k.toNatClampNeg)) (x.2.2.1 k.toNatClampNeg) w1) rfl 0 rfl 0 (gV kw_309 kw_245 kw_246 kw_4 kw_247) (by decide +kernel) ⟨(Nat.le_of_ble_eq_true rfl), (Nat.le_of_ble_eq_true rfl)⟩ rfl rfl (Nat.le_of_ble_eq_true rfl) dX3_changeHour_62 ⟨(Nat.le_of_ble_eq_true rfl), (Nat.le_of_ble_eq_true rfl)⟩ (fl [[oS (ad 0) (ad 1) (ad 2) x.1], [aI G (ad 1) 7 x.2.1], [aD G (ad 2) 4 (fun k => some (ad (3 + 2 * k)))], cRs G ad x.2.2.1 x.2.2.2 k.toNatClampNeg]) (fl [[oD (ad (3 + 2 * k.toNatClampNeg)) (ad (4 + 2 * k.toNatClampNeg)) (x.2.2.1 k.toNatClampNeg)], [aB G (ad (4 + 2 * k.toNatClampNeg)) w1], [oS (ad 0) (ad 1) (ad 2) x.1], [aI G (ad 1) 7 x.2.1], [aD G (ad 2) 4 (fun k => some (ad (3 + 2 * k)))], cRs G ad x.2.2.1 x.2.2.2 k.toNatClampNeg]) (bperm (bs' := [[oD (ad (3 + 2 * k.toNatClampNeg)) (ad (4 + 2 * k.toNatClampNeg)) (x.2.2.1 k.toNatClampNeg)], [aB G (ad (4 + 2 * k.toNatClampNeg)) w1], [oS (ad 0) (ad 1) (ad 2) x.1], [aI G (ad 1) 7 x.2.1], [aD G (ad 2) 4 (fun k => some (ad (3 + 2 * k)))], cRs G ad x.2.2.1 x.2.2.2 k.toNatClampNeg]) [0, 1, 2, 3, 4, 5] 6 rfl (by decide +kernel) rfl) rfl ?_
          generalize hzw2 : f_X0_soldHours_r (x.2.2.1 k.toNatClampNeg) w1 = w2
          have hw2 : f_X3_changeHour_rq6 x k y z u = w2 := by subst hw0 hw1; subst hzw2; rfl
          refine j_perm (fl [[oD (ad (3 + 2 * k.toNatClampNeg)) (ad (4 + 2 * k.toNatClampNeg)) (x.2.2.1 k.toNatClampNeg)], [aB G (ad (4 + 2 * k.toNatClampNeg)) w1], cRs G ad x.2.2.1 x.2.2.2 k.toNatClampNeg, [oS (ad 0) (ad 1) (ad 2) x.1], [aI G (ad 1) 7 x.2.1], [aD G (ad 2) 4 (fun k => some (ad (3 + 2 * k)))]]) (bperm [0, 1, 5, 2, 3, 4] 6 rfl (by decide +kernel) rfl) ?_
          refine j_perm (fl [cDrs G ad (updF x.2.2.1 k.toNatClampNeg (x.2.2.1 k.toNatClampNeg)) (updF x.2.2.2 k.toNatClampNeg w1), [oS (ad 0) (ad 1) (ad 2) x.1], [aI G (ad 1) 7 x.2.1], [aD G (ad 2) 4 (fun k => some (ad (3 + 2 * k)))]]) (shut_at (bs := [[oD (ad (3 + 2 * k.toNatClampNeg)) (ad (4 + 2 * k.toNatClampNeg)) (x.2.2.1 k.toNatClampNeg)], [aB G (ad (4 + 2 * k.toNatClampNeg)) w1], cRs G ad x.2.2.1 x.2.2.2 k.toNatClampNeg]) (closeDrs G ad x.2.2.1 x.2.2.2 k.toNatClampNeg (vin_nat (lt_drive c4)) _ _)) ?_
          refine j_perm (fl [[oS (ad 0) (ad 1) (ad 2) x.1], [aI G (ad 1) 7 x.2.1], [aD G (ad 2) 4 (fun k => some (ad (3 + 2 * k)))], cDrs G ad (updF x.2.2.1 k.toNatClampNeg (x.2.2.1 k.toNatClampNeg)) (updF x.2.2.2 k.toNatClampNeg w1)]) (bperm [1, 2, 3, 0] 4 rfl (by decide +kernel) rfl) ?_
          refine j_w (fl [cSt G ad (x.1, x.2.1, (updF x.2.2.1 k.toNatClampNeg (x.2.2.1 k.toNatClampNeg)), (updF x.2.2.2 k.toNatClampNeg w1))]) rfl ?_
          refine j_w (cSt G ad (x.1, x.2.1, (updF x.2.2.1 k.toNatClampNeg (x.2.2.1 k.toNatClampNeg)), (updF x.2.2.2 k.toNatClampNeg w1))) (fl_one _) ?_
          subst hQ; subst hw0 hw1 hw2; exact j_iret C hr hk ((show f_X3_changeHour_r x k y z u = (f_X3_changeHour_rq6 x k y z u) from ((if_neg c4).trans ((if_neg c13).trans ((if_neg c24).trans (if_pos c38))))).symm) (by rw [show f_X3_changeHour_x x k y z u = (x.1, x.2.1, (updF x.2.2.1 k.toNatClampNeg (x.2.2.1 k.toNatClampNeg)), (updF x.2.2.2 k.toNatClampNeg (f_X3_changeHour_fq5 x k y z u))) from ((if_neg c4).trans ((if_neg c13).trans ((if_neg c24).trans (if_pos c38))))]) dX3_changeHour_65
        · refine j_bipush (v := (-5)) C dX3_changeHour_41 (by decide) ?_
          refine j_perm (fl [[oD (ad (3 + 2 * k.toNatClampNeg)) (ad (4 + 2 * k.toNatClampNeg)) (x.2.2.1 k.toNatClampNeg)], [aB G (ad (4 + 2 * k.toNatClampNeg)) (x.2.2.2 k.toNatClampNeg)], cRs G ad x.2.2.1 x.2.2.2 k.toNatClampNeg, [oS (ad 0) (ad 1) (ad 2) x.1], [aI G (ad 1) 7 x.2.1], [aD G (ad 2) 4 (fun k => some (ad (3 + 2 * k)))]]) (bperm [0, 1, 5, 2, 3, 4] 6 rfl (by decide +kernel) rfl) ?_
          refine j_perm (fl [cDrs G ad x.2.2.1 x.2.2.2, [oS (ad 0) (ad 1) (ad 2) x.1], [aI G (ad 1) 7 x.2.1], [aD G (ad 2) 4 (fun k => some (ad (3 + 2 * k)))]]) (shut_at (bs := [[oD (ad (3 + 2 * k.toNatClampNeg)) (ad (4 + 2 * k.toNatClampNeg)) (x.2.2.1 k.toNatClampNeg)], [aB G (ad (4 + 2 * k.toNatClampNeg)) (x.2.2.2 k.toNatClampNeg)], cRs G ad x.2.2.1 x.2.2.2 k.toNatClampNeg]) (openDrs G ad x.2.2.1 x.2.2.2 k.toNatClampNeg (vin_nat (lt_drive c4))).symm) ?_
          refine j_perm (fl [[oS (ad 0) (ad 1) (ad 2) x.1], [aI G (ad 1) 7 x.2.1], [aD G (ad 2) 4 (fun k => some (ad (3 + 2 * k)))], cDrs G ad x.2.2.1 x.2.2.2]) (bperm [1, 2, 3, 0] 4 rfl (by decide +kernel) rfl) ?_
          refine j_w (fl [cSt G ad x]) rfl ?_
          refine j_w (cSt G ad x) (fl_one _) ?_
          subst hQ; subst hw0; exact j_iret C hr hk ((show f_X3_changeHour_r x k y z u = (-5) from ((if_neg c4).trans ((if_neg c13).trans ((if_neg c24).trans (if_neg c38))))).symm) (by rw [show f_X3_changeHour_x x k y z u = x from ((if_neg c4).trans ((if_neg c13).trans ((if_neg c24).trans (if_neg c38))))]) dX3_changeHour_43
    · refine j_bipush (v := (-2)) C dX3_changeHour_16 (by decide) ?_
      refine j_w (cSt G ad x) (fl_one _) ?_
      subst hQ; exact j_iret C hr hk ((show f_X3_changeHour_r x k y z u = (-2) from ((if_neg c4).trans (if_pos c13))).symm) (by rw [show f_X3_changeHour_x x k y z u = x from ((if_neg c4).trans (if_pos c13))]) dX3_changeHour_18
  · refine j_iconst (v := (-1)) C dX3_changeHour_7 (by decide) ?_
    refine j_w (cSt G ad x) (fl_one _) ?_
    subst hQ; exact j_iret C hr hk ((show f_X3_changeHour_r x k y z u = (-1) from (if_pos c4)).symm) (by rw [show f_X3_changeHour_x x k y z u = x from (if_pos c4)]) dX3_changeHour_8
noncomputable def f_X3_sellHour_x (x : StV) (k : Int32) (y : Int32) : StV := f_X3_changeHour_x x k y 0 1
noncomputable def f_X3_sellHour_r (x : StV) (k : Int32) (y : Int32) : Int32 := f_X3_changeHour_r x k y 0 1
set_option maxRecDepth 100000 in
set_option maxHeartbeats 4000000 in
theorem m_X3_sellHour (l : Launch) (G : GG) (ad : Nat → Nat) (x : StV) (k : Int32) (y : Int32)  : CtI l yX3_sellHour cX3_sellHour 3 (some .int) (RM 3) G [.ref (ad 0), .int k, .int y] (cSt G ad x) (f_X3_sellHour_r x k y) (cSt G ad (f_X3_sellHour_x x k y)) := by
  refine ct_I RX3 [(0, .ref (ad 0)), (1, .int k), (2, .int y)] rfl (by decide +kernel) (Nat.le_of_ble_eq_true rfl) rfl ?_
  intro p e s m args below meth c A C hr hk hnm
  generalize hQ : (MQ below (PostI G A (f_X3_sellHour_r x k y) (cSt G ad (f_X3_sellHour_x x k y))) args s (RM 3).cells (RM 3).slots A) = Q
  refine j_w (fl [cSt G ad x]) (fl_one _).symm ?_
  refine j_aload_n C dX3_sellHour_0 0 rfl ?_
  refine j_iload_n C dX3_sellHour_1 1 rfl ?_
  refine j_iload_n C dX3_sellHour_2 2 rfl ?_
  refine j_iconst (v := 0) C dX3_sellHour_3 (by decide) ?_
  refine j_iconst (v := 1) C dX3_sellHour_4 (by decide) ?_
  refine j_callV_i (r := f_X3_changeHour_r x k y 0 1) (wc' := cSt G ad (f_X3_changeHour_x x k y 0 1)) C (m_X3_changeHour l G ad x k y 0 1) rfl 0 rfl 4 (gV kw_306 kw_307 kw_348 kw_2 kw_308) (by decide +kernel) ⟨(Nat.le_of_ble_eq_true rfl), (Nat.le_of_ble_eq_true rfl)⟩ rfl rfl (Nat.le_of_ble_eq_true rfl) dX3_sellHour_5 ⟨(Nat.le_of_ble_eq_true rfl), (Nat.le_of_ble_eq_true rfl)⟩ (fl []) (fl [cSt G ad (f_X3_changeHour_x x k y 0 1)]) (bperm (bs' := [cSt G ad x]) [0] 1 rfl (by decide +kernel) rfl) rfl ?_
  refine j_w (cSt G ad (f_X3_changeHour_x x k y 0 1)) (fl_one _) ?_
  subst hQ; exact j_iret C hr hk ((show f_X3_sellHour_r x k y = f_X3_changeHour_r x k y 0 1 from rfl).symm) (by rw [show f_X3_sellHour_x x k y = f_X3_changeHour_x x k y 0 1 from rfl]) dX3_sellHour_8
noncomputable def f_X3_takeHourBack_x (x : StV) (k : Int32) (y : Int32) : StV := f_X3_changeHour_x x k y 1 0
noncomputable def f_X3_takeHourBack_r (x : StV) (k : Int32) (y : Int32) : Int32 := f_X3_changeHour_r x k y 1 0
set_option maxRecDepth 100000 in
set_option maxHeartbeats 4000000 in
theorem m_X3_takeHourBack (l : Launch) (G : GG) (ad : Nat → Nat) (x : StV) (k : Int32) (y : Int32)  : CtI l yX3_takeHourBack cX3_takeHourBack 3 (some .int) (RM 3) G [.ref (ad 0), .int k, .int y] (cSt G ad x) (f_X3_takeHourBack_r x k y) (cSt G ad (f_X3_takeHourBack_x x k y)) := by
  refine ct_I RX3 [(0, .ref (ad 0)), (1, .int k), (2, .int y)] rfl (by decide +kernel) (Nat.le_of_ble_eq_true rfl) rfl ?_
  intro p e s m args below meth c A C hr hk hnm
  generalize hQ : (MQ below (PostI G A (f_X3_takeHourBack_r x k y) (cSt G ad (f_X3_takeHourBack_x x k y))) args s (RM 3).cells (RM 3).slots A) = Q
  refine j_w (fl [cSt G ad x]) (fl_one _).symm ?_
  refine j_aload_n C dX3_takeHourBack_0 0 rfl ?_
  refine j_iload_n C dX3_takeHourBack_1 1 rfl ?_
  refine j_iload_n C dX3_takeHourBack_2 2 rfl ?_
  refine j_iconst (v := 1) C dX3_takeHourBack_3 (by decide) ?_
  refine j_iconst (v := 0) C dX3_takeHourBack_4 (by decide) ?_
  refine j_callV_i (r := f_X3_changeHour_r x k y 1 0) (wc' := cSt G ad (f_X3_changeHour_x x k y 1 0)) C (m_X3_changeHour l G ad x k y 1 0) rfl 0 rfl 4 (gV kw_306 kw_307 kw_348 kw_2 kw_308) (by decide +kernel) ⟨(Nat.le_of_ble_eq_true rfl), (Nat.le_of_ble_eq_true rfl)⟩ rfl rfl (Nat.le_of_ble_eq_true rfl) dX3_takeHourBack_5 ⟨(Nat.le_of_ble_eq_true rfl), (Nat.le_of_ble_eq_true rfl)⟩ (fl []) (fl [cSt G ad (f_X3_changeHour_x x k y 1 0)]) (bperm (bs' := [cSt G ad x]) [0] 1 rfl (by decide +kernel) rfl) rfl ?_
  refine j_w (cSt G ad (f_X3_changeHour_x x k y 1 0)) (fl_one _) ?_
  subst hQ; exact j_iret C hr hk ((show f_X3_takeHourBack_r x k y = f_X3_changeHour_r x k y 1 0 from rfl).symm) (by rw [show f_X3_takeHourBack_x x k y = f_X3_changeHour_x x k y 1 0 from rfl]) dX3_takeHourBack_8
end
section
/-! COPIES -/
set_option maxRecDepth 100000 in
set_option maxHeartbeats 4000000 in
theorem m_X0_copyFrom (l : Launch) (G : GG) (a b h g : Nat) (v : DO) (f : Nat → Int8) (o : DO) (q : Nat → Int8)  : CtV l yX0_copyFrom cX0_copyFrom 2 (none : Option Jvm.ClassFile.FieldType) (RM 1) G [.ref a, .ref b] ([oD a h v, aB G h f, oD b g o, aB G g q]) ([oD a h o, aB G h q, oD b g o, aB G g q]) := by
  refine ct_V RX0 [(0, .ref a), (1, .ref b)] rfl (by decide +kernel) (Nat.le_of_ble_eq_true rfl) rfl ?_
  intro p e s m args below meth c A C hr hk hnm
  generalize hQ : (MQ below (PostV G A ([oD a h o, aB G h q, oD b g o, aB G g q])) args s (RM 1).cells (RM 1).slots A) = Q
  refine j_aload_n C dX0_copyFrom_0 0 rfl ?_
  refine j_aload_n C dX0_copyFrom_1 1 rfl ?_
  refine j_get C kin0 rfl 2 rfl 0 (by decide) kw_30 rfl (v := .int (o.1 0)) rfl dX0_copyFrom_2 ?_
  refine j_put C kin0 rfl 0 rfl 0 (by decide) kw_30 rfl tyX0 tyX0_ok nmX0 rfl rfl rfl (Nat.le_of_ble_eq_true rfl) ([oD a h (upd v.1 0 (o.1 0), v.2), aB G h f, oD b g o, aB G g q]) rfl dX0_copyFrom_5 ?_
  refine j_aload_n C dX0_copyFrom_8 0 rfl ?_
  refine j_aload_n C dX0_copyFrom_9 1 rfl ?_
  refine j_get C kin0 rfl 2 rfl 1 (by decide) kw_33 rfl (v := .int (o.1 1)) rfl dX0_copyFrom_10 ?_
  refine j_put C kin0 rfl 0 rfl 1 (by decide) kw_33 rfl tyX0 tyX0_ok nmX0 rfl rfl rfl (Nat.le_of_ble_eq_true rfl) ([oD a h (upd (upd v.1 0 (o.1 0)) 1 (o.1 1), v.2), aB G h f, oD b g o, aB G g q]) rfl dX0_copyFrom_13 ?_
  refine j_aload_n C dX0_copyFrom_16 0 rfl ?_
  refine j_aload_n C dX0_copyFrom_17 1 rfl ?_
  refine j_get C kin0 rfl 2 rfl 2 (by decide) kw_36 rfl (v := .int (o.1 2)) rfl dX0_copyFrom_18 ?_
  refine j_put C kin0 rfl 0 rfl 2 (by decide) kw_36 rfl tyX0 tyX0_ok nmX0 rfl rfl rfl (Nat.le_of_ble_eq_true rfl) ([oD a h (upd (upd (upd v.1 0 (o.1 0)) 1 (o.1 1)) 2 (o.1 2), v.2), aB G h f, oD b g o, aB G g q]) rfl dX0_copyFrom_21 ?_
  refine j_aload_n C dX0_copyFrom_24 0 rfl ?_
  refine j_aload_n C dX0_copyFrom_25 1 rfl ?_
  refine j_get C kin0 rfl 2 rfl 3 (by decide) kw_38 rfl (v := .int (o.1 3)) rfl dX0_copyFrom_26 ?_
  refine j_put C kin0 rfl 0 rfl 3 (by decide) kw_38 rfl tyX0 tyX0_ok nmX0 rfl rfl rfl (Nat.le_of_ble_eq_true rfl) ([oD a h (upd (upd (upd (upd v.1 0 (o.1 0)) 1 (o.1 1)) 2 (o.1 2)) 3 (o.1 3), v.2), aB G h f, oD b g o, aB G g q]) rfl dX0_copyFrom_29 ?_
  refine j_aload_n C dX0_copyFrom_32 0 rfl ?_
  refine j_aload_n C dX0_copyFrom_33 1 rfl ?_
  refine j_get C kin0 rfl 2 rfl 4 (by decide) kw_41 rfl (v := .int (b01 (o.1 4))) rfl dX0_copyFrom_34 ?_
  refine j_put C kin0 rfl 0 rfl 4 (by decide) kw_41 rfl tyX0 tyX0_ok nmX0 rfl (nar_b01 _) (fit_b01 _) (Nat.le_of_ble_eq_true rfl) ([oD a h (upd (upd (upd (upd (upd v.1 0 (o.1 0)) 1 (o.1 1)) 2 (o.1 2)) 3 (o.1 3)) 4 (o.1 4), v.2), aB G h f, oD b g o, aB G g q]) rfl dX0_copyFrom_37 ?_
  refine j_aload_n C dX0_copyFrom_40 0 rfl ?_
  refine j_aload_n C dX0_copyFrom_41 1 rfl ?_
  refine j_get C kin0 rfl 2 rfl 5 (by decide) kw_44 rfl (v := .int (o.1 5)) rfl dX0_copyFrom_42 ?_
  refine j_put C kin0 rfl 0 rfl 5 (by decide) kw_44 rfl tyX0 tyX0_ok nmX0 rfl rfl rfl (Nat.le_of_ble_eq_true rfl) ([oD a h (upd (upd (upd (upd (upd (upd v.1 0 (o.1 0)) 1 (o.1 1)) 2 (o.1 2)) 3 (o.1 3)) 4 (o.1 4)) 5 (o.1 5), v.2), aB G h f, oD b g o, aB G g q]) rfl dX0_copyFrom_45 ?_
  refine j_aload_n C dX0_copyFrom_48 0 rfl ?_
  refine j_aload_n C dX0_copyFrom_49 1 rfl ?_
  refine j_get C kin0 rfl 2 rfl 6 (by decide) kw_46 rfl (v := .int (o.1 6)) rfl dX0_copyFrom_50 ?_
  refine j_put C kin0 rfl 0 rfl 6 (by decide) kw_46 rfl tyX0 tyX0_ok nmX0 rfl rfl rfl (Nat.le_of_ble_eq_true rfl) ([oD a h (upd (upd (upd (upd (upd (upd (upd v.1 0 (o.1 0)) 1 (o.1 1)) 2 (o.1 2)) 3 (o.1 3)) 4 (o.1 4)) 5 (o.1 5)) 6 (o.1 6), v.2), aB G h f, oD b g o, aB G g q]) rfl dX0_copyFrom_53 ?_
  refine j_aload_n C dX0_copyFrom_56 0 rfl ?_
  refine j_aload_n C dX0_copyFrom_57 1 rfl ?_
  refine j_get C kin0 rfl 2 rfl 7 (by decide) kw_48 rfl (v := .int (o.1 7)) rfl dX0_copyFrom_58 ?_
  refine j_put C kin0 rfl 0 rfl 7 (by decide) kw_48 rfl tyX0 tyX0_ok nmX0 rfl rfl rfl (Nat.le_of_ble_eq_true rfl) ([oD a h (upd (upd (upd (upd (upd (upd (upd (upd v.1 0 (o.1 0)) 1 (o.1 1)) 2 (o.1 2)) 3 (o.1 3)) 4 (o.1 4)) 5 (o.1 5)) 6 (o.1 6)) 7 (o.1 7), v.2), aB G h f, oD b g o, aB G g q]) rfl dX0_copyFrom_61 ?_
  refine j_aload_n C dX0_copyFrom_64 0 rfl ?_
  refine j_aload_n C dX0_copyFrom_65 1 rfl ?_
  refine j_get C kin0 rfl 2 rfl 8 (by decide) kw_51 rfl (v := .int (o.1 8)) rfl dX0_copyFrom_66 ?_
  refine j_put C kin0 rfl 0 rfl 8 (by decide) kw_51 rfl tyX0 tyX0_ok nmX0 rfl rfl rfl (Nat.le_of_ble_eq_true rfl) ([oD a h (upd (upd (upd (upd (upd (upd (upd (upd (upd v.1 0 (o.1 0)) 1 (o.1 1)) 2 (o.1 2)) 3 (o.1 3)) 4 (o.1 4)) 5 (o.1 5)) 6 (o.1 6)) 7 (o.1 7)) 8 (o.1 8), v.2), aB G h f, oD b g o, aB G g q]) rfl dX0_copyFrom_69 ?_
  refine j_aload_n C dX0_copyFrom_72 0 rfl ?_
  refine j_aload_n C dX0_copyFrom_73 1 rfl ?_
  refine j_get C kin0 rfl 2 rfl 9 (by decide) kw_54 rfl (v := .int (o.1 9)) rfl dX0_copyFrom_74 ?_
  refine j_put C kin0 rfl 0 rfl 9 (by decide) kw_54 rfl tyX0 tyX0_ok nmX0 rfl rfl rfl (Nat.le_of_ble_eq_true rfl) ([oD a h (upd (upd (upd (upd (upd (upd (upd (upd (upd (upd v.1 0 (o.1 0)) 1 (o.1 1)) 2 (o.1 2)) 3 (o.1 3)) 4 (o.1 4)) 5 (o.1 5)) 6 (o.1 6)) 7 (o.1 7)) 8 (o.1 8)) 9 (o.1 9), v.2), aB G h f, oD b g o, aB G g q]) rfl dX0_copyFrom_77 ?_
  refine j_aload_n C dX0_copyFrom_80 0 rfl ?_
  refine j_aload_n C dX0_copyFrom_81 1 rfl ?_
  refine j_get C kin0 rfl 2 rfl 10 (by decide) kw_57 rfl (v := .long o.2) rfl dX0_copyFrom_82 ?_
  refine j_put C kin0 rfl 0 rfl 10 (by decide) kw_57 rfl tyX0 tyX0_ok nmX0 rfl rfl rfl (Nat.le_of_ble_eq_true rfl) ([oD a h (upd (upd (upd (upd (upd (upd (upd (upd (upd (upd v.1 0 (o.1 0)) 1 (o.1 1)) 2 (o.1 2)) 3 (o.1 3)) 4 (o.1 4)) 5 (o.1 5)) 6 (o.1 6)) 7 (o.1 7)) 8 (o.1 8)) 9 (o.1 9), o.2), aB G h f, oD b g o, aB G g q]) rfl dX0_copyFrom_85 ?_
  refine j_aload_n C dX0_copyFrom_88 1 rfl ?_
  refine j_get C kin0 rfl 2 rfl 11 (by decide) kw_59 rfl (v := .ref g) rfl dX0_copyFrom_89 ?_
  refine j_iconst (v := 0) C dX0_copyFrom_92 (by decide) ?_
  refine j_aload_n C dX0_copyFrom_93 0 rfl ?_
  refine j_get C kin0 rfl 0 rfl 11 (by decide) kw_59 rfl (v := .ref h) rfl dX0_copyFrom_94 ?_
  refine j_iconst (v := 0) C dX0_copyFrom_97 (by decide) ?_
  refine j_bipush (v := 100) C dX0_copyFrom_98 (by decide) ?_
  refine j_copyb C kw_156 3 1 rfl rfl (Nat.le_of_ble_eq_true rfl) (Nat.le_of_ble_eq_true rfl) (Nat.le_of_ble_eq_true rfl) ([oD a h (upd (upd (upd (upd (upd (upd (upd (upd (upd (upd v.1 0 (o.1 0)) 1 (o.1 1)) 2 (o.1 2)) 3 (o.1 3)) 4 (o.1 4)) 5 (o.1 5)) 6 (o.1 6)) 7 (o.1 7)) 8 (o.1 8)) 9 (o.1 9), o.2), aB G h q, oD b g o, aB G g q]) rfl dX0_copyFrom_100 ?_
  subst hQ; exact j_vret C hr hk rfl dX0_copyFrom_103
set_option maxRecDepth 100000 in
set_option maxHeartbeats 4000000 in
theorem m_X3_copyFrom (l : Launch) (G : GG) (ad bd : Nat → Nat) (x : StV) (y : StV)  : CtV l yX3_copyFrom cX3_copyFrom 3 (none : Option Jvm.ClassFile.FieldType) (RM 2) G [.ref (ad 0), .ref (bd 0)] (fl [cSt G ad x, cSt G bd y]) (fl [cSt G ad y, cSt G bd y]) := by
  refine ct_V RX3 [(0, .ref (ad 0)), (1, .ref (bd 0))] rfl (by decide +kernel) (Nat.le_of_ble_eq_true rfl) rfl ?_
  intro p e s m args below meth c A C hr hk hnm
  generalize hQ : (MQ below (PostV G A (fl [cSt G ad y, cSt G bd y])) args s (RM 2).cells (RM 2).slots A) = Q
  refine j_w ([oS (ad 0) (ad 1) (ad 2) x.1, aI G (ad 1) 7 x.2.1, aD G (ad 2) 4 (fun k => some (ad (3 + 2 * k))), oD (ad 3) (ad 4) (x.2.2.1 0), aB G (ad 4) (x.2.2.2 0), oD (ad 5) (ad 6) (x.2.2.1 1), aB G (ad 6) (x.2.2.2 1), oD (ad 7) (ad 8) (x.2.2.1 2), aB G (ad 8) (x.2.2.2 2), oD (ad 9) (ad 10) (x.2.2.1 3), aB G (ad 10) (x.2.2.2 3), oS (bd 0) (bd 1) (bd 2) y.1, aI G (bd 1) 7 y.2.1, aD G (bd 2) 4 (fun k => some (bd (3 + 2 * k))), oD (bd 3) (bd 4) (y.2.2.1 0), aB G (bd 4) (y.2.2.2 0), oD (bd 5) (bd 6) (y.2.2.1 1), aB G (bd 6) (y.2.2.2 1), oD (bd 7) (bd 8) (y.2.2.1 2), aB G (bd 8) (y.2.2.2 2), oD (bd 9) (bd 10) (y.2.2.1 3), aB G (bd 10) (y.2.2.2 3)]) rfl ?_
  refine j_aload_n C dX3_copyFrom_0 1 rfl ?_
  refine j_get C kin3 rfl 11 rfl 0 (by decide) kw_74 rfl (v := .ref (bd 1)) rfl dX3_copyFrom_1 ?_
  refine j_iconst (v := 0) C dX3_copyFrom_4 (by decide) ?_
  refine j_aload_n C dX3_copyFrom_5 0 rfl ?_
  refine j_get C kin3 rfl 0 rfl 0 (by decide) kw_74 rfl (v := .ref (ad 1)) rfl dX3_copyFrom_6 ?_
  refine j_iconst (v := 0) C dX3_copyFrom_9 (by decide) ?_
  refine j_bipush (v := 7) C dX3_copyFrom_10 (by decide) ?_
  refine j_copyI C kw_23 12 1 rfl rfl (Nat.le_of_ble_eq_true rfl) (Nat.le_of_ble_eq_true rfl) (Nat.le_of_ble_eq_true rfl) ([oS (ad 0) (ad 1) (ad 2) x.1, aI G (ad 1) 7 y.2.1, aD G (ad 2) 4 (fun k => some (ad (3 + 2 * k))), oD (ad 3) (ad 4) (x.2.2.1 0), aB G (ad 4) (x.2.2.2 0), oD (ad 5) (ad 6) (x.2.2.1 1), aB G (ad 6) (x.2.2.2 1), oD (ad 7) (ad 8) (x.2.2.1 2), aB G (ad 8) (x.2.2.2 2), oD (ad 9) (ad 10) (x.2.2.1 3), aB G (ad 10) (x.2.2.2 3), oS (bd 0) (bd 1) (bd 2) y.1, aI G (bd 1) 7 y.2.1, aD G (bd 2) 4 (fun k => some (bd (3 + 2 * k))), oD (bd 3) (bd 4) (y.2.2.1 0), aB G (bd 4) (y.2.2.2 0), oD (bd 5) (bd 6) (y.2.2.1 1), aB G (bd 6) (y.2.2.2 1), oD (bd 7) (bd 8) (y.2.2.1 2), aB G (bd 8) (y.2.2.2 2), oD (bd 9) (bd 10) (y.2.2.1 3), aB G (bd 10) (y.2.2.2 3)]) rfl dX3_copyFrom_12 ?_
  refine j_iconst (v := 0) C dX3_copyFrom_15 (by decide) ?_
  refine j_istore_n C [(2, .int 0), (0, .ref (ad 0)), (1, .ref (bd 0))] dX3_copyFrom_16 (by decide) rfl ?_
  refine j_iload_n C dX3_copyFrom_17 0 rfl ?_
  refine j_iconst (v := 4) C dX3_copyFrom_18 (by decide) ?_
  refine j_icmp_ge (tgt := 43) C dX3_copyFrom_19 (by decide) (fun h => absurd h (by decide)) (fun _ => ?_)
  refine j_aload_n C dX3_copyFrom_22 1 rfl ?_
  refine j_get C kin3 rfl 0 rfl 1 (by decide) kw_76 rfl (v := .ref (ad 2)) rfl dX3_copyFrom_23 ?_
  refine j_iload_n C dX3_copyFrom_26 0 rfl ?_
  refine j_aaldD C 2 rfl (vin_lit rfl) (y := ad 3) rfl dX3_copyFrom_27 ?_
  refine j_aload_n C dX3_copyFrom_28 2 rfl ?_
  refine j_get C kin3 rfl 11 rfl 1 (by decide) kw_76 rfl (v := .ref (bd 2)) rfl dX3_copyFrom_29 ?_
  refine j_iload_n C dX3_copyFrom_32 0 rfl ?_
  refine j_aaldD C 13 rfl (vin_lit rfl) (y := bd 3) rfl dX3_copyFrom_33 ?_
  refine j_callV_v (wc' := [oD (ad 3) (ad 4) (y.2.2.1 0), aB G (ad 4) (y.2.2.2 0), oD (bd 3) (bd 4) (y.2.2.1 0), aB G (bd 4) (y.2.2.2 0)]) C (m_X0_copyFrom l G (ad 3) (bd 3) (ad 4) (bd 4) (x.2.2.1 0) (x.2.2.2 0) (y.2.2.1 0) (y.2.2.2 0)) rfl 0 rfl 1 (gV kw_152 kw_153 kw_154 kw_4 kw_155) (by decide +kernel) ⟨(Nat.le_of_ble_eq_true rfl), (Nat.le_of_ble_eq_true rfl)⟩ rfl rfl (Nat.le_of_ble_eq_true rfl) dX3_copyFrom_34 ⟨(Nat.le_of_ble_eq_true rfl), (Nat.le_of_ble_eq_true rfl)⟩ [oS (ad 0) (ad 1) (ad 2) x.1, aI G (ad 1) 7 y.2.1, aD G (ad 2) 4 (fun k => some (ad (3 + 2 * k))), oD (ad 5) (ad 6) (x.2.2.1 1), aB G (ad 6) (x.2.2.2 1), oD (ad 7) (ad 8) (x.2.2.1 2), aB G (ad 8) (x.2.2.2 2), oD (ad 9) (ad 10) (x.2.2.1 3), aB G (ad 10) (x.2.2.2 3), oS (bd 0) (bd 1) (bd 2) y.1, aI G (bd 1) 7 y.2.1, aD G (bd 2) 4 (fun k => some (bd (3 + 2 * k))), oD (bd 5) (bd 6) (y.2.2.1 1), aB G (bd 6) (y.2.2.2 1), oD (bd 7) (bd 8) (y.2.2.1 2), aB G (bd 8) (y.2.2.2 2), oD (bd 9) (bd 10) (y.2.2.1 3), aB G (bd 10) (y.2.2.2 3)] [oD (ad 3) (ad 4) (y.2.2.1 0), aB G (ad 4) (y.2.2.2 0), oD (bd 3) (bd 4) (y.2.2.1 0), aB G (bd 4) (y.2.2.2 0), oS (ad 0) (ad 1) (ad 2) x.1, aI G (ad 1) 7 y.2.1, aD G (ad 2) 4 (fun k => some (ad (3 + 2 * k))), oD (ad 5) (ad 6) (x.2.2.1 1), aB G (ad 6) (x.2.2.2 1), oD (ad 7) (ad 8) (x.2.2.1 2), aB G (ad 8) (x.2.2.2 2), oD (ad 9) (ad 10) (x.2.2.1 3), aB G (ad 10) (x.2.2.2 3), oS (bd 0) (bd 1) (bd 2) y.1, aI G (bd 1) 7 y.2.1, aD G (bd 2) 4 (fun k => some (bd (3 + 2 * k))), oD (bd 5) (bd 6) (y.2.2.1 1), aB G (bd 6) (y.2.2.2 1), oD (bd 7) (bd 8) (y.2.2.1 2), aB G (bd 8) (y.2.2.2 2), oD (bd 9) (bd 10) (y.2.2.1 3), aB G (bd 10) (y.2.2.2 3)] (perm_idx [3, 4, 14, 15, 0, 1, 2, 5, 6, 7, 8, 9, 10, 11, 12, 13, 16, 17, 18, 19, 20, 21] 22 rfl (by decide +kernel) rfl) rfl ?_
  refine j_iinc (v := 1) C [(2, .int 1), (0, .ref (ad 0)), (1, .ref (bd 0))] dX3_copyFrom_37 (k := 0) rfl (by decide) (by decide) rfl ?_
  refine j_goto (tgt := 17) C dX3_copyFrom_40 (by decide) ?_
  refine j_iload_n C dX3_copyFrom_17 0 rfl ?_
  refine j_iconst (v := 4) C dX3_copyFrom_18 (by decide) ?_
  refine j_icmp_ge (tgt := 43) C dX3_copyFrom_19 (by decide) (fun h => absurd h (by decide)) (fun _ => ?_)
  refine j_aload_n C dX3_copyFrom_22 1 rfl ?_
  refine j_get C kin3 rfl 4 rfl 1 (by decide) kw_76 rfl (v := .ref (ad 2)) rfl dX3_copyFrom_23 ?_
  refine j_iload_n C dX3_copyFrom_26 0 rfl ?_
  refine j_aaldD C 6 rfl (vin_lit rfl) (y := ad 5) rfl dX3_copyFrom_27 ?_
  refine j_aload_n C dX3_copyFrom_28 2 rfl ?_
  refine j_get C kin3 rfl 13 rfl 1 (by decide) kw_76 rfl (v := .ref (bd 2)) rfl dX3_copyFrom_29 ?_
  refine j_iload_n C dX3_copyFrom_32 0 rfl ?_
  refine j_aaldD C 15 rfl (vin_lit rfl) (y := bd 5) rfl dX3_copyFrom_33 ?_
  refine j_callV_v (wc' := [oD (ad 5) (ad 6) (y.2.2.1 1), aB G (ad 6) (y.2.2.2 1), oD (bd 5) (bd 6) (y.2.2.1 1), aB G (bd 6) (y.2.2.2 1)]) C (m_X0_copyFrom l G (ad 5) (bd 5) (ad 6) (bd 6) (x.2.2.1 1) (x.2.2.2 1) (y.2.2.1 1) (y.2.2.2 1)) rfl 0 rfl 1 (gV kw_152 kw_153 kw_154 kw_4 kw_155) (by decide +kernel) ⟨(Nat.le_of_ble_eq_true rfl), (Nat.le_of_ble_eq_true rfl)⟩ rfl rfl (Nat.le_of_ble_eq_true rfl) dX3_copyFrom_34 ⟨(Nat.le_of_ble_eq_true rfl), (Nat.le_of_ble_eq_true rfl)⟩ [oD (ad 3) (ad 4) (y.2.2.1 0), aB G (ad 4) (y.2.2.2 0), oD (bd 3) (bd 4) (y.2.2.1 0), aB G (bd 4) (y.2.2.2 0), oS (ad 0) (ad 1) (ad 2) x.1, aI G (ad 1) 7 y.2.1, aD G (ad 2) 4 (fun k => some (ad (3 + 2 * k))), oD (ad 7) (ad 8) (x.2.2.1 2), aB G (ad 8) (x.2.2.2 2), oD (ad 9) (ad 10) (x.2.2.1 3), aB G (ad 10) (x.2.2.2 3), oS (bd 0) (bd 1) (bd 2) y.1, aI G (bd 1) 7 y.2.1, aD G (bd 2) 4 (fun k => some (bd (3 + 2 * k))), oD (bd 7) (bd 8) (y.2.2.1 2), aB G (bd 8) (y.2.2.2 2), oD (bd 9) (bd 10) (y.2.2.1 3), aB G (bd 10) (y.2.2.2 3)] [oD (ad 5) (ad 6) (y.2.2.1 1), aB G (ad 6) (y.2.2.2 1), oD (bd 5) (bd 6) (y.2.2.1 1), aB G (bd 6) (y.2.2.2 1), oD (ad 3) (ad 4) (y.2.2.1 0), aB G (ad 4) (y.2.2.2 0), oD (bd 3) (bd 4) (y.2.2.1 0), aB G (bd 4) (y.2.2.2 0), oS (ad 0) (ad 1) (ad 2) x.1, aI G (ad 1) 7 y.2.1, aD G (ad 2) 4 (fun k => some (ad (3 + 2 * k))), oD (ad 7) (ad 8) (x.2.2.1 2), aB G (ad 8) (x.2.2.2 2), oD (ad 9) (ad 10) (x.2.2.1 3), aB G (ad 10) (x.2.2.2 3), oS (bd 0) (bd 1) (bd 2) y.1, aI G (bd 1) 7 y.2.1, aD G (bd 2) 4 (fun k => some (bd (3 + 2 * k))), oD (bd 7) (bd 8) (y.2.2.1 2), aB G (bd 8) (y.2.2.2 2), oD (bd 9) (bd 10) (y.2.2.1 3), aB G (bd 10) (y.2.2.2 3)] (perm_idx [7, 8, 16, 17, 0, 1, 2, 3, 4, 5, 6, 9, 10, 11, 12, 13, 14, 15, 18, 19, 20, 21] 22 rfl (by decide +kernel) rfl) rfl ?_
  refine j_iinc (v := 2) C [(2, .int 2), (0, .ref (ad 0)), (1, .ref (bd 0))] dX3_copyFrom_37 (k := 0) rfl (by decide) (by decide) rfl ?_
  refine j_goto (tgt := 17) C dX3_copyFrom_40 (by decide) ?_
  refine j_iload_n C dX3_copyFrom_17 0 rfl ?_
  refine j_iconst (v := 4) C dX3_copyFrom_18 (by decide) ?_
  refine j_icmp_ge (tgt := 43) C dX3_copyFrom_19 (by decide) (fun h => absurd h (by decide)) (fun _ => ?_)
  refine j_aload_n C dX3_copyFrom_22 1 rfl ?_
  refine j_get C kin3 rfl 8 rfl 1 (by decide) kw_76 rfl (v := .ref (ad 2)) rfl dX3_copyFrom_23 ?_
  refine j_iload_n C dX3_copyFrom_26 0 rfl ?_
  refine j_aaldD C 10 rfl (vin_lit rfl) (y := ad 7) rfl dX3_copyFrom_27 ?_
  refine j_aload_n C dX3_copyFrom_28 2 rfl ?_
  refine j_get C kin3 rfl 15 rfl 1 (by decide) kw_76 rfl (v := .ref (bd 2)) rfl dX3_copyFrom_29 ?_
  refine j_iload_n C dX3_copyFrom_32 0 rfl ?_
  refine j_aaldD C 17 rfl (vin_lit rfl) (y := bd 7) rfl dX3_copyFrom_33 ?_
  refine j_callV_v (wc' := [oD (ad 7) (ad 8) (y.2.2.1 2), aB G (ad 8) (y.2.2.2 2), oD (bd 7) (bd 8) (y.2.2.1 2), aB G (bd 8) (y.2.2.2 2)]) C (m_X0_copyFrom l G (ad 7) (bd 7) (ad 8) (bd 8) (x.2.2.1 2) (x.2.2.2 2) (y.2.2.1 2) (y.2.2.2 2)) rfl 0 rfl 1 (gV kw_152 kw_153 kw_154 kw_4 kw_155) (by decide +kernel) ⟨(Nat.le_of_ble_eq_true rfl), (Nat.le_of_ble_eq_true rfl)⟩ rfl rfl (Nat.le_of_ble_eq_true rfl) dX3_copyFrom_34 ⟨(Nat.le_of_ble_eq_true rfl), (Nat.le_of_ble_eq_true rfl)⟩ [oD (ad 5) (ad 6) (y.2.2.1 1), aB G (ad 6) (y.2.2.2 1), oD (bd 5) (bd 6) (y.2.2.1 1), aB G (bd 6) (y.2.2.2 1), oD (ad 3) (ad 4) (y.2.2.1 0), aB G (ad 4) (y.2.2.2 0), oD (bd 3) (bd 4) (y.2.2.1 0), aB G (bd 4) (y.2.2.2 0), oS (ad 0) (ad 1) (ad 2) x.1, aI G (ad 1) 7 y.2.1, aD G (ad 2) 4 (fun k => some (ad (3 + 2 * k))), oD (ad 9) (ad 10) (x.2.2.1 3), aB G (ad 10) (x.2.2.2 3), oS (bd 0) (bd 1) (bd 2) y.1, aI G (bd 1) 7 y.2.1, aD G (bd 2) 4 (fun k => some (bd (3 + 2 * k))), oD (bd 9) (bd 10) (y.2.2.1 3), aB G (bd 10) (y.2.2.2 3)] [oD (ad 7) (ad 8) (y.2.2.1 2), aB G (ad 8) (y.2.2.2 2), oD (bd 7) (bd 8) (y.2.2.1 2), aB G (bd 8) (y.2.2.2 2), oD (ad 5) (ad 6) (y.2.2.1 1), aB G (ad 6) (y.2.2.2 1), oD (bd 5) (bd 6) (y.2.2.1 1), aB G (bd 6) (y.2.2.2 1), oD (ad 3) (ad 4) (y.2.2.1 0), aB G (ad 4) (y.2.2.2 0), oD (bd 3) (bd 4) (y.2.2.1 0), aB G (bd 4) (y.2.2.2 0), oS (ad 0) (ad 1) (ad 2) x.1, aI G (ad 1) 7 y.2.1, aD G (ad 2) 4 (fun k => some (ad (3 + 2 * k))), oD (ad 9) (ad 10) (x.2.2.1 3), aB G (ad 10) (x.2.2.2 3), oS (bd 0) (bd 1) (bd 2) y.1, aI G (bd 1) 7 y.2.1, aD G (bd 2) 4 (fun k => some (bd (3 + 2 * k))), oD (bd 9) (bd 10) (y.2.2.1 3), aB G (bd 10) (y.2.2.2 3)] (perm_idx [11, 12, 18, 19, 0, 1, 2, 3, 4, 5, 6, 7, 8, 9, 10, 13, 14, 15, 16, 17, 20, 21] 22 rfl (by decide +kernel) rfl) rfl ?_
  refine j_iinc (v := 3) C [(2, .int 3), (0, .ref (ad 0)), (1, .ref (bd 0))] dX3_copyFrom_37 (k := 0) rfl (by decide) (by decide) rfl ?_
  refine j_goto (tgt := 17) C dX3_copyFrom_40 (by decide) ?_
  refine j_iload_n C dX3_copyFrom_17 0 rfl ?_
  refine j_iconst (v := 4) C dX3_copyFrom_18 (by decide) ?_
  refine j_icmp_ge (tgt := 43) C dX3_copyFrom_19 (by decide) (fun h => absurd h (by decide)) (fun _ => ?_)
  refine j_aload_n C dX3_copyFrom_22 1 rfl ?_
  refine j_get C kin3 rfl 12 rfl 1 (by decide) kw_76 rfl (v := .ref (ad 2)) rfl dX3_copyFrom_23 ?_
  refine j_iload_n C dX3_copyFrom_26 0 rfl ?_
  refine j_aaldD C 14 rfl (vin_lit rfl) (y := ad 9) rfl dX3_copyFrom_27 ?_
  refine j_aload_n C dX3_copyFrom_28 2 rfl ?_
  refine j_get C kin3 rfl 17 rfl 1 (by decide) kw_76 rfl (v := .ref (bd 2)) rfl dX3_copyFrom_29 ?_
  refine j_iload_n C dX3_copyFrom_32 0 rfl ?_
  refine j_aaldD C 19 rfl (vin_lit rfl) (y := bd 9) rfl dX3_copyFrom_33 ?_
  refine j_callV_v (wc' := [oD (ad 9) (ad 10) (y.2.2.1 3), aB G (ad 10) (y.2.2.2 3), oD (bd 9) (bd 10) (y.2.2.1 3), aB G (bd 10) (y.2.2.2 3)]) C (m_X0_copyFrom l G (ad 9) (bd 9) (ad 10) (bd 10) (x.2.2.1 3) (x.2.2.2 3) (y.2.2.1 3) (y.2.2.2 3)) rfl 0 rfl 1 (gV kw_152 kw_153 kw_154 kw_4 kw_155) (by decide +kernel) ⟨(Nat.le_of_ble_eq_true rfl), (Nat.le_of_ble_eq_true rfl)⟩ rfl rfl (Nat.le_of_ble_eq_true rfl) dX3_copyFrom_34 ⟨(Nat.le_of_ble_eq_true rfl), (Nat.le_of_ble_eq_true rfl)⟩ [oD (ad 7) (ad 8) (y.2.2.1 2), aB G (ad 8) (y.2.2.2 2), oD (bd 7) (bd 8) (y.2.2.1 2), aB G (bd 8) (y.2.2.2 2), oD (ad 5) (ad 6) (y.2.2.1 1), aB G (ad 6) (y.2.2.2 1), oD (bd 5) (bd 6) (y.2.2.1 1), aB G (bd 6) (y.2.2.2 1), oD (ad 3) (ad 4) (y.2.2.1 0), aB G (ad 4) (y.2.2.2 0), oD (bd 3) (bd 4) (y.2.2.1 0), aB G (bd 4) (y.2.2.2 0), oS (ad 0) (ad 1) (ad 2) x.1, aI G (ad 1) 7 y.2.1, aD G (ad 2) 4 (fun k => some (ad (3 + 2 * k))), oS (bd 0) (bd 1) (bd 2) y.1, aI G (bd 1) 7 y.2.1, aD G (bd 2) 4 (fun k => some (bd (3 + 2 * k)))] [oD (ad 9) (ad 10) (y.2.2.1 3), aB G (ad 10) (y.2.2.2 3), oD (bd 9) (bd 10) (y.2.2.1 3), aB G (bd 10) (y.2.2.2 3), oD (ad 7) (ad 8) (y.2.2.1 2), aB G (ad 8) (y.2.2.2 2), oD (bd 7) (bd 8) (y.2.2.1 2), aB G (bd 8) (y.2.2.2 2), oD (ad 5) (ad 6) (y.2.2.1 1), aB G (ad 6) (y.2.2.2 1), oD (bd 5) (bd 6) (y.2.2.1 1), aB G (bd 6) (y.2.2.2 1), oD (ad 3) (ad 4) (y.2.2.1 0), aB G (ad 4) (y.2.2.2 0), oD (bd 3) (bd 4) (y.2.2.1 0), aB G (bd 4) (y.2.2.2 0), oS (ad 0) (ad 1) (ad 2) x.1, aI G (ad 1) 7 y.2.1, aD G (ad 2) 4 (fun k => some (ad (3 + 2 * k))), oS (bd 0) (bd 1) (bd 2) y.1, aI G (bd 1) 7 y.2.1, aD G (bd 2) 4 (fun k => some (bd (3 + 2 * k)))] (perm_idx [15, 16, 20, 21, 0, 1, 2, 3, 4, 5, 6, 7, 8, 9, 10, 11, 12, 13, 14, 17, 18, 19] 22 rfl (by decide +kernel) rfl) rfl ?_
  refine j_iinc (v := 4) C [(2, .int 4), (0, .ref (ad 0)), (1, .ref (bd 0))] dX3_copyFrom_37 (k := 0) rfl (by decide) (by decide) rfl ?_
  refine j_goto (tgt := 17) C dX3_copyFrom_40 (by decide) ?_
  refine j_iload_n C dX3_copyFrom_17 0 rfl ?_
  refine j_iconst (v := 4) C dX3_copyFrom_18 (by decide) ?_
  refine j_icmp_ge (tgt := 43) C dX3_copyFrom_19 (by decide) (fun _ => ?_) (fun h => absurd h (by decide))
  refine j_aload_n C dX3_copyFrom_43 1 rfl ?_
  refine j_aload_n C dX3_copyFrom_44 2 rfl ?_
  refine j_get C kin3 rfl 19 rfl 2 (by decide) kw_78 rfl (v := .int (y.1 2)) rfl dX3_copyFrom_45 ?_
  refine j_put C kin3 rfl 16 rfl 2 (by decide) kw_78 rfl tyX3 tyX3_ok nmX3 rfl rfl rfl (Nat.le_of_ble_eq_true rfl) ([oD (ad 9) (ad 10) (y.2.2.1 3), aB G (ad 10) (y.2.2.2 3), oD (bd 9) (bd 10) (y.2.2.1 3), aB G (bd 10) (y.2.2.2 3), oD (ad 7) (ad 8) (y.2.2.1 2), aB G (ad 8) (y.2.2.2 2), oD (bd 7) (bd 8) (y.2.2.1 2), aB G (bd 8) (y.2.2.2 2), oD (ad 5) (ad 6) (y.2.2.1 1), aB G (ad 6) (y.2.2.2 1), oD (bd 5) (bd 6) (y.2.2.1 1), aB G (bd 6) (y.2.2.2 1), oD (ad 3) (ad 4) (y.2.2.1 0), aB G (ad 4) (y.2.2.2 0), oD (bd 3) (bd 4) (y.2.2.1 0), aB G (bd 4) (y.2.2.2 0), oS (ad 0) (ad 1) (ad 2) (upd x.1 2 (y.1 2)), aI G (ad 1) 7 y.2.1, aD G (ad 2) 4 (fun k => some (ad (3 + 2 * k))), oS (bd 0) (bd 1) (bd 2) y.1, aI G (bd 1) 7 y.2.1, aD G (bd 2) 4 (fun k => some (bd (3 + 2 * k)))]) rfl dX3_copyFrom_48 ?_
  refine j_aload_n C dX3_copyFrom_51 1 rfl ?_
  refine j_aload_n C dX3_copyFrom_52 2 rfl ?_
  refine j_get C kin3 rfl 19 rfl 3 (by decide) kw_80 rfl (v := .int (y.1 3)) rfl dX3_copyFrom_53 ?_
  refine j_put C kin3 rfl 16 rfl 3 (by decide) kw_80 rfl tyX3 tyX3_ok nmX3 rfl rfl rfl (Nat.le_of_ble_eq_true rfl) ([oD (ad 9) (ad 10) (y.2.2.1 3), aB G (ad 10) (y.2.2.2 3), oD (bd 9) (bd 10) (y.2.2.1 3), aB G (bd 10) (y.2.2.2 3), oD (ad 7) (ad 8) (y.2.2.1 2), aB G (ad 8) (y.2.2.2 2), oD (bd 7) (bd 8) (y.2.2.1 2), aB G (bd 8) (y.2.2.2 2), oD (ad 5) (ad 6) (y.2.2.1 1), aB G (ad 6) (y.2.2.2 1), oD (bd 5) (bd 6) (y.2.2.1 1), aB G (bd 6) (y.2.2.2 1), oD (ad 3) (ad 4) (y.2.2.1 0), aB G (ad 4) (y.2.2.2 0), oD (bd 3) (bd 4) (y.2.2.1 0), aB G (bd 4) (y.2.2.2 0), oS (ad 0) (ad 1) (ad 2) (upd (upd x.1 2 (y.1 2)) 3 (y.1 3)), aI G (ad 1) 7 y.2.1, aD G (ad 2) 4 (fun k => some (ad (3 + 2 * k))), oS (bd 0) (bd 1) (bd 2) y.1, aI G (bd 1) 7 y.2.1, aD G (bd 2) 4 (fun k => some (bd (3 + 2 * k)))]) rfl dX3_copyFrom_56 ?_
  refine j_aload_n C dX3_copyFrom_59 1 rfl ?_
  refine j_aload_n C dX3_copyFrom_60 2 rfl ?_
  refine j_get C kin3 rfl 19 rfl 4 (by decide) kw_82 rfl (v := .int (y.1 4)) rfl dX3_copyFrom_61 ?_
  refine j_put C kin3 rfl 16 rfl 4 (by decide) kw_82 rfl tyX3 tyX3_ok nmX3 rfl rfl rfl (Nat.le_of_ble_eq_true rfl) ([oD (ad 9) (ad 10) (y.2.2.1 3), aB G (ad 10) (y.2.2.2 3), oD (bd 9) (bd 10) (y.2.2.1 3), aB G (bd 10) (y.2.2.2 3), oD (ad 7) (ad 8) (y.2.2.1 2), aB G (ad 8) (y.2.2.2 2), oD (bd 7) (bd 8) (y.2.2.1 2), aB G (bd 8) (y.2.2.2 2), oD (ad 5) (ad 6) (y.2.2.1 1), aB G (ad 6) (y.2.2.2 1), oD (bd 5) (bd 6) (y.2.2.1 1), aB G (bd 6) (y.2.2.2 1), oD (ad 3) (ad 4) (y.2.2.1 0), aB G (ad 4) (y.2.2.2 0), oD (bd 3) (bd 4) (y.2.2.1 0), aB G (bd 4) (y.2.2.2 0), oS (ad 0) (ad 1) (ad 2) (upd (upd (upd x.1 2 (y.1 2)) 3 (y.1 3)) 4 (y.1 4)), aI G (ad 1) 7 y.2.1, aD G (ad 2) 4 (fun k => some (ad (3 + 2 * k))), oS (bd 0) (bd 1) (bd 2) y.1, aI G (bd 1) 7 y.2.1, aD G (bd 2) 4 (fun k => some (bd (3 + 2 * k)))]) rfl dX3_copyFrom_64 ?_
  refine j_aload_n C dX3_copyFrom_67 1 rfl ?_
  refine j_aload_n C dX3_copyFrom_68 2 rfl ?_
  refine j_get C kin3 rfl 19 rfl 5 (by decide) kw_84 rfl (v := .int (y.1 5)) rfl dX3_copyFrom_69 ?_
  refine j_put C kin3 rfl 16 rfl 5 (by decide) kw_84 rfl tyX3 tyX3_ok nmX3 rfl rfl rfl (Nat.le_of_ble_eq_true rfl) ([oD (ad 9) (ad 10) (y.2.2.1 3), aB G (ad 10) (y.2.2.2 3), oD (bd 9) (bd 10) (y.2.2.1 3), aB G (bd 10) (y.2.2.2 3), oD (ad 7) (ad 8) (y.2.2.1 2), aB G (ad 8) (y.2.2.2 2), oD (bd 7) (bd 8) (y.2.2.1 2), aB G (bd 8) (y.2.2.2 2), oD (ad 5) (ad 6) (y.2.2.1 1), aB G (ad 6) (y.2.2.2 1), oD (bd 5) (bd 6) (y.2.2.1 1), aB G (bd 6) (y.2.2.2 1), oD (ad 3) (ad 4) (y.2.2.1 0), aB G (ad 4) (y.2.2.2 0), oD (bd 3) (bd 4) (y.2.2.1 0), aB G (bd 4) (y.2.2.2 0), oS (ad 0) (ad 1) (ad 2) (upd (upd (upd (upd x.1 2 (y.1 2)) 3 (y.1 3)) 4 (y.1 4)) 5 (y.1 5)), aI G (ad 1) 7 y.2.1, aD G (ad 2) 4 (fun k => some (ad (3 + 2 * k))), oS (bd 0) (bd 1) (bd 2) y.1, aI G (bd 1) 7 y.2.1, aD G (bd 2) 4 (fun k => some (bd (3 + 2 * k)))]) rfl dX3_copyFrom_72 ?_
  refine j_aload_n C dX3_copyFrom_75 1 rfl ?_
  refine j_aload_n C dX3_copyFrom_76 2 rfl ?_
  refine j_get C kin3 rfl 19 rfl 6 (by decide) kw_86 rfl (v := .int (y.1 6)) rfl dX3_copyFrom_77 ?_
  refine j_put C kin3 rfl 16 rfl 6 (by decide) kw_86 rfl tyX3 tyX3_ok nmX3 rfl rfl rfl (Nat.le_of_ble_eq_true rfl) ([oD (ad 9) (ad 10) (y.2.2.1 3), aB G (ad 10) (y.2.2.2 3), oD (bd 9) (bd 10) (y.2.2.1 3), aB G (bd 10) (y.2.2.2 3), oD (ad 7) (ad 8) (y.2.2.1 2), aB G (ad 8) (y.2.2.2 2), oD (bd 7) (bd 8) (y.2.2.1 2), aB G (bd 8) (y.2.2.2 2), oD (ad 5) (ad 6) (y.2.2.1 1), aB G (ad 6) (y.2.2.2 1), oD (bd 5) (bd 6) (y.2.2.1 1), aB G (bd 6) (y.2.2.2 1), oD (ad 3) (ad 4) (y.2.2.1 0), aB G (ad 4) (y.2.2.2 0), oD (bd 3) (bd 4) (y.2.2.1 0), aB G (bd 4) (y.2.2.2 0), oS (ad 0) (ad 1) (ad 2) (upd (upd (upd (upd (upd x.1 2 (y.1 2)) 3 (y.1 3)) 4 (y.1 4)) 5 (y.1 5)) 6 (y.1 6)), aI G (ad 1) 7 y.2.1, aD G (ad 2) 4 (fun k => some (ad (3 + 2 * k))), oS (bd 0) (bd 1) (bd 2) y.1, aI G (bd 1) 7 y.2.1, aD G (bd 2) 4 (fun k => some (bd (3 + 2 * k)))]) rfl dX3_copyFrom_80 ?_
  refine j_perm ([oS (ad 0) (ad 1) (ad 2) (upd (upd (upd (upd (upd x.1 2 (y.1 2)) 3 (y.1 3)) 4 (y.1 4)) 5 (y.1 5)) 6 (y.1 6)), aI G (ad 1) 7 y.2.1, aD G (ad 2) 4 (fun k => some (ad (3 + 2 * k))), oD (ad 3) (ad 4) (y.2.2.1 0), aB G (ad 4) (y.2.2.2 0), oD (ad 5) (ad 6) (y.2.2.1 1), aB G (ad 6) (y.2.2.2 1), oD (ad 7) (ad 8) (y.2.2.1 2), aB G (ad 8) (y.2.2.2 2), oD (ad 9) (ad 10) (y.2.2.1 3), aB G (ad 10) (y.2.2.2 3), oS (bd 0) (bd 1) (bd 2) y.1, aI G (bd 1) 7 y.2.1, aD G (bd 2) 4 (fun k => some (bd (3 + 2 * k))), oD (bd 3) (bd 4) (y.2.2.1 0), aB G (bd 4) (y.2.2.2 0), oD (bd 5) (bd 6) (y.2.2.1 1), aB G (bd 6) (y.2.2.2 1), oD (bd 7) (bd 8) (y.2.2.1 2), aB G (bd 8) (y.2.2.2 2), oD (bd 9) (bd 10) (y.2.2.1 3), aB G (bd 10) (y.2.2.2 3)]) (perm_idx [16, 17, 18, 12, 13, 8, 9, 4, 5, 0, 1, 19, 20, 21, 14, 15, 10, 11, 6, 7, 2, 3] 22 rfl (by decide +kernel) rfl) ?_
  subst hQ; exact j_vret C hr hk rfl dX3_copyFrom_83
end
section
/-! THE HISTORY -/
noncomputable def f_X1_prepare_sv (h : Nat → Int32) (sv : Nat → StV) (xp : StV) : (Nat → StV) := updF sv ((h 1).toNatClampNeg) xp
set_option maxRecDepth 100000 in
set_option maxHeartbeats 4000000 in
theorem m_X1_prepare (l : Launch) (G : GG) (a ha : Nat) (AP : Nat → Nat) (AH : Nat → Nat → Nat) (h : Nat → Int32) (sv : Nat → StV) (xp : StV) (h7 : vp_in (h 1) 7) : CtV l yX1_prepare cX1_prepare 2 (none : Option Jvm.ClassFile.FieldType) (RM 3) G [.ref a, .ref (AP 0)] (fl [[oH a ha h], [aS G ha 7 (fun k => some (AH k 0))], cMany G AH sv 7, cSt G AP xp]) (fl [[oH a ha h], [aS G ha 7 (fun k => some (AH k 0))], cMany G AH (f_X1_prepare_sv h sv xp) 7, cSt G AP xp]) := by
  refine ct_V RX1 [(0, .ref a), (1, .ref (AP 0))] rfl (by decide +kernel) (Nat.le_of_ble_eq_true rfl) rfl ?_
  intro p e s m args below meth c A C hr hk hnm
  generalize hQ : (MQ below (PostV G A (fl [[oH a ha h], [aS G ha 7 (fun k => some (AH k 0))], cMany G AH (f_X1_prepare_sv h sv xp) 7, cSt G AP xp])) args s (RM 3).cells (RM 3).slots A) = Q
  refine j_aload_n C dX1_prepare_0 0 rfl ?_
  refine j_get C kin1 rfl 0 rfl 0 (by decide) kw_103 rfl (v := .ref ha) rfl dX1_prepare_1 ?_
  refine j_aload_n C dX1_prepare_4 0 rfl ?_
  refine j_get C kin1 rfl 0 rfl 1 (by decide) kw_104 rfl (v := .int (h 1)) rfl dX1_prepare_5 ?_
  refine j_perm (fl [cMany G AH sv 7, [oH a ha h], [aS G ha 7 (fun k => some (AH k 0))], cSt G AP xp]) (bperm [2, 0, 1, 3] 4 rfl (by decide +kernel) rfl) ?_
  refine j_perm (fl [cSt G (AH ((h 1).toNatClampNeg)) (sv ((h 1).toNatClampNeg)), cManyR G AH sv 7 ((h 1).toNatClampNeg), [oH a ha h], [aS G ha 7 (fun k => some (AH k 0))], cSt G AP xp]) (open_at (openMany G AH sv 7 ((h 1).toNatClampNeg) (vin_nat h7))) ?_
  refine j_perm (fl [[oH a ha h], [aS G ha 7 (fun k => some (AH k 0))], cSt G (AH ((h 1).toNatClampNeg)) (sv ((h 1).toNatClampNeg)), cManyR G AH sv 7 ((h 1).toNatClampNeg), cSt G AP xp]) (bperm [2, 3, 0, 1, 4] 5 rfl (by decide +kernel) rfl) ?_
  refine j_aaldS C 1 rfl h7 (y := AH ((h 1).toNatClampNeg) 0) rfl dX1_prepare_8 ?_
  refine j_aload_n C dX1_prepare_9 1 rfl ?_
  refine j_callV_v (wc' := fl [cSt G (AH ((h 1).toNatClampNeg)) xp, cSt G AP xp]) C (m_X3_copyFrom l G (AH ((h 1).toNatClampNeg)) AP (sv ((h 1).toNatClampNeg)) xp) rfl 0 rfl 1 (gV kw_148 kw_149 kw_150 kw_2 kw_151) (by decide +kernel) ⟨(Nat.le_of_ble_eq_true rfl), (Nat.le_of_ble_eq_true rfl)⟩ rfl rfl (Nat.le_of_ble_eq_true rfl) dX1_prepare_10 ⟨(Nat.le_of_ble_eq_true rfl), (Nat.le_of_ble_eq_true rfl)⟩ (fl [[oH a ha h], [aS G ha 7 (fun k => some (AH k 0))], cManyR G AH sv 7 ((h 1).toNatClampNeg)]) (fl [cSt G (AH ((h 1).toNatClampNeg)) xp, cSt G AP xp, [oH a ha h], [aS G ha 7 (fun k => some (AH k 0))], cManyR G AH sv 7 ((h 1).toNatClampNeg)]) (bperm2 (bC := [cSt G (AH ((h 1).toNatClampNeg)) (sv ((h 1).toNatClampNeg)), cSt G AP xp]) (bR := [[oH a ha h], [aS G ha 7 (fun k => some (AH k 0))], cManyR G AH sv 7 ((h 1).toNatClampNeg)]) [2, 4, 0, 1, 3] 5 rfl (by decide +kernel) rfl) (fl_app _ _) ?_
  refine j_perm (fl [cSt G (AH ((h 1).toNatClampNeg)) xp, cManyR G AH sv 7 ((h 1).toNatClampNeg), cSt G AP xp, [oH a ha h], [aS G ha 7 (fun k => some (AH k 0))]]) (bperm [0, 4, 1, 2, 3] 5 rfl (by decide +kernel) rfl) ?_
  refine j_perm (fl [cMany G AH (updF sv ((h 1).toNatClampNeg) xp) 7, cSt G AP xp, [oH a ha h], [aS G ha 7 (fun k => some (AH k 0))]]) (shut_at (bs := [cSt G (AH ((h 1).toNatClampNeg)) xp, cManyR G AH sv 7 ((h 1).toNatClampNeg)]) (closeMany G AH sv 7 ((h 1).toNatClampNeg) (vin_nat h7) _)) ?_
  refine j_perm (fl [[oH a ha h], [aS G ha 7 (fun k => some (AH k 0))], cMany G AH (updF sv ((h 1).toNatClampNeg) xp) 7, cSt G AP xp]) (bperm [2, 3, 0, 1] 4 rfl (by decide +kernel) rfl) ?_
  subst hQ; exact j_vret C hr hk (by rw [show f_X1_prepare_sv h sv xp = updF sv ((h 1).toNatClampNeg) xp from rfl]) dX1_prepare_13
noncomputable def f_X1_keepPrepared_x1 (h : Nat → Int32) : Int32 := (if 6 ≤ h 1 then 0 else (h 1) + 1)
noncomputable def f_X1_keepPrepared_h (h : Nat → Int32) : (Nat → Int32) := upd (upd h 1 (f_X1_keepPrepared_x1 h)) 2 (imin ((h 2) + 1) 6)
set_option maxRecDepth 100000 in
set_option maxHeartbeats 4000000 in
theorem m_X1_keepPrepared (l : Launch) (G : GG) (a ha : Nat) (h : Nat → Int32)  : CtV l yX1_keepPrepared cX1_keepPrepared 1 (none : Option Jvm.ClassFile.FieldType) (RM 1) G [.ref a] ([oH a ha h]) ([oH a ha (f_X1_keepPrepared_h h)]) := by
  refine ct_V RX1 [(0, .ref a)] rfl (by decide +kernel) (Nat.le_of_ble_eq_true rfl) rfl ?_
  intro p e s m args below meth c A C hr hk hnm
  generalize hQ : (MQ below (PostV G A ([oH a ha (f_X1_keepPrepared_h h)])) args s (RM 1).cells (RM 1).slots A) = Q
  refine j_aload_n C dX1_keepPrepared_0 0 rfl ?_
  refine j_aload_n C dX1_keepPrepared_1 0 rfl ?_
  refine j_get C kin1 rfl 0 rfl 1 (by decide) kw_104 rfl (v := .int (h 1)) rfl dX1_keepPrepared_2 ?_
  refine j_bipush (v := 6) C dX1_keepPrepared_5 (by decide) ?_
  have K20 : WJ p l e (RM 1) s m args below meth c G A 1 0 0 Q ([oH a ha h]) [(0, .ref a)] 20 [.int (f_X1_keepPrepared_x1 h), .ref a] := by
    generalize hw0 : f_X1_keepPrepared_x1 h = w0
    refine j_put C kin1 rfl 0 rfl 1 (by decide) kw_104 rfl tyX1 tyX1_ok nmX1 rfl rfl rfl (Nat.le_of_ble_eq_true rfl) ([oH a ha (upd h 1 w0)]) rfl dX1_keepPrepared_20 ?_
    refine j_aload_n C dX1_keepPrepared_23 0 rfl ?_
    refine j_aload_n C dX1_keepPrepared_24 0 rfl ?_
    refine j_get C kin1 rfl 0 rfl 2 (by decide) kw_105 rfl (v := .int (h 2)) rfl dX1_keepPrepared_25 ?_
    refine j_iconst (v := 1) C dX1_keepPrepared_28 (by decide) ?_
    refine j_iadd C dX1_keepPrepared_29 rfl ?_
    refine j_bipush (v := 6) C dX1_keepPrepared_30 (by decide) ?_
    refine j_mmin C kw_234 (Nat.le_of_ble_eq_true rfl) (Nat.le_of_ble_eq_true rfl) ⟨(Nat.le_of_ble_eq_true rfl), (Nat.le_of_ble_eq_true rfl)⟩ dX1_keepPrepared_32 (v := imin ((h 2) + 1) 6) (imin_eq _ _).symm ?_
    generalize hw1 : imin ((h 2) + 1) 6 = w1
    refine j_put C kin1 rfl 0 rfl 2 (by decide) kw_105 rfl tyX1 tyX1_ok nmX1 rfl rfl rfl (Nat.le_of_ble_eq_true rfl) ([oH a ha (upd (upd h 1 w0) 2 w1)]) rfl dX1_keepPrepared_35 ?_
    subst hQ; subst hw0 hw1; exact j_vret C hr hk (by rw [show f_X1_keepPrepared_h h = upd (upd h 1 (f_X1_keepPrepared_x1 h)) 2 (imin ((h 2) + 1) 6) from rfl]) dX1_keepPrepared_38
  refine j_icmp_ge (tgt := 19) C dX1_keepPrepared_7 (by decide) (fun c7 => ?_) (fun c7 => ?_)
  · refine j_iconst (v := 0) C dX1_keepPrepared_19 (by decide) ?_
    exact j_eq rfl rfl (by rw [show f_X1_keepPrepared_x1 h = 0 from (if_pos c7)]) K20
  · refine j_aload_n C dX1_keepPrepared_10 0 rfl ?_
    refine j_get C kin1 rfl 0 rfl 1 (by decide) kw_104 rfl (v := .int (h 1)) rfl dX1_keepPrepared_11 ?_
    refine j_iconst (v := 1) C dX1_keepPrepared_14 (by decide) ?_
    refine j_iadd C dX1_keepPrepared_15 rfl ?_
    refine j_goto (tgt := 20) C dX1_keepPrepared_16 (by decide) ?_
    exact j_eq rfl rfl (by rw [show f_X1_keepPrepared_x1 h = (h 1) + 1 from (if_neg c7)]) K20
end
section
/-! THE FACE, WITHOUT LOOPS OF ITS OWN -/
noncomputable def f_X4_recorded_v2 (h : Nat → Int32) (k : Int32) : (Nat → Int32) := (if k < 0 then h else f_X1_keepPrepared_h h)
noncomputable def f_X4_recorded_h (h : Nat → Int32) (k : Int32) : (Nat → Int32) := (f_X4_recorded_v2 h k)
noncomputable def f_X4_recorded_r (h : Nat → Int32) (k : Int32) : Int32 := k
set_option maxRecDepth 100000 in
set_option maxHeartbeats 4000000 in
theorem m_X4_recorded (l : Launch) (G : GG) (a hi sl su pa ha : Nat) (AP AT AU : Nat → Nat) (h : Nat → Int32) (k : Int32)  : CtI l yX4_recorded cX4_recorded 2 (some .int) (RM 2) G [.ref a, .int k] ([oX a (AP 0) hi sl su pa (AT 0) (AU 0), oH hi ha h]) (f_X4_recorded_r h k) ([oX a (AP 0) hi sl su pa (AT 0) (AU 0), oH hi ha (f_X4_recorded_h h k)]) := by
  refine ct_I RX4 [(0, .ref a), (1, .int k)] rfl (by decide +kernel) (Nat.le_of_ble_eq_true rfl) rfl ?_
  intro p e s m args below meth c A C hr hk hnm
  generalize hQ : (MQ below (PostI G A (f_X4_recorded_r h k) ([oX a (AP 0) hi sl su pa (AT 0) (AU 0), oH hi ha (f_X4_recorded_h h k)])) args s (RM 2).cells (RM 2).slots A) = Q
  refine j_iload_n C dX4_recorded_0 1 rfl ?_
  have K11 : WJ p l e (RM 2) s m args below meth c G A 2 0 0 Q ([oX a (AP 0) hi sl su pa (AT 0) (AU 0), oH hi ha (f_X4_recorded_v2 h k)]) [(0, .ref a), (1, .int k)] 11 [] := by
    generalize hw0 : f_X4_recorded_v2 h k = w0
    refine j_iload_n C dX4_recorded_11 1 rfl ?_
    subst hQ; subst hw0; exact j_iret C hr hk ((show f_X4_recorded_r h k = k from rfl).symm) (by rw [show f_X4_recorded_h h k = (f_X4_recorded_v2 h k) from rfl]) dX4_recorded_12
  refine j_if_lt (tgt := 11) C dX4_recorded_1 (by decide) (fun c1 => ?_) (fun c1 => ?_)
  · exact j_eq (by rw [show f_X4_recorded_v2 h k = h from (if_pos c1)]) rfl rfl K11
  · refine j_aload_n C dX4_recorded_4 0 rfl ?_
    refine j_get C kin4 rfl 0 rfl 1 (by decide) kw_127 rfl (v := .ref hi) rfl dX4_recorded_5 ?_
    refine j_callV_v (wc' := [oH hi ha (f_X1_keepPrepared_h h)]) C (m_X1_keepPrepared l G hi ha h) rfl 0 rfl 0 (gV kw_230 kw_231 kw_232 kw_5 kw_233) (by decide +kernel) ⟨(Nat.le_of_ble_eq_true rfl), (Nat.le_of_ble_eq_true rfl)⟩ rfl rfl (Nat.le_of_ble_eq_true rfl) dX4_recorded_8 ⟨(Nat.le_of_ble_eq_true rfl), (Nat.le_of_ble_eq_true rfl)⟩ [oX a (AP 0) hi sl su pa (AT 0) (AU 0)] [oH hi ha (f_X1_keepPrepared_h h), oX a (AP 0) hi sl su pa (AT 0) (AU 0)] (perm_idx [1, 0] 2 rfl (by decide +kernel) rfl) rfl ?_
    refine j_perm ([oX a (AP 0) hi sl su pa (AT 0) (AU 0), oH hi ha (f_X1_keepPrepared_h h)]) (perm_idx [1, 0] 2 rfl (by decide +kernel) rfl) ?_
    exact j_eq (by rw [show f_X4_recorded_v2 h k = f_X1_keepPrepared_h h from (if_neg c1)]) rfl rfl K11
noncomputable def f_X4_set_h (h : Nat → Int32) (sv : Nat → StV) (xp : StV) (k : Int32) (y : Int32) : (Nat → Int32) := f_X4_recorded_h h (f_X3_changeSetting_r xp k y)
noncomputable def f_X4_set_sv (h : Nat → Int32) (sv : Nat → StV) (xp : StV) (k : Int32) (y : Int32) : (Nat → StV) := f_X1_prepare_sv h sv xp
noncomputable def f_X4_set_xp (h : Nat → Int32) (sv : Nat → StV) (xp : StV) (k : Int32) (y : Int32) : StV := f_X3_changeSetting_x xp k y
noncomputable def f_X4_set_r (h : Nat → Int32) (sv : Nat → StV) (xp : StV) (k : Int32) (y : Int32) : Int32 := f_X4_recorded_r h (f_X3_changeSetting_r xp k y)
set_option maxRecDepth 100000 in
set_option maxHeartbeats 4000000 in
theorem m_X4_set (l : Launch) (G : GG) (a hi sl su pa ha : Nat) (AP AT AU : Nat → Nat) (AH : Nat → Nat → Nat) (h : Nat → Int32) (sv : Nat → StV) (xp : StV) (k : Int32) (y : Int32) (h7 : vp_in (h 1) 7) : CtI l yX4_set cX4_set 3 (some .int) (RM 4) G [.ref a, .int k, .int y] (fl [[oX a (AP 0) hi sl su pa (AT 0) (AU 0)], [oH hi ha h], [aS G ha 7 (fun k => some (AH k 0))], cMany G AH sv 7, cSt G AP xp]) (f_X4_set_r h sv xp k y) (fl [[oX a (AP 0) hi sl su pa (AT 0) (AU 0)], [oH hi ha (f_X4_set_h h sv xp k y)], [aS G ha 7 (fun k => some (AH k 0))], cMany G AH (f_X4_set_sv h sv xp k y) 7, cSt G AP (f_X4_set_xp h sv xp k y)]) := by
  refine ct_I RX4 [(0, .ref a), (1, .int k), (2, .int y)] rfl (by decide +kernel) (Nat.le_of_ble_eq_true rfl) rfl ?_
  intro p e s m args below meth c A C hr hk hnm
  generalize hQ : (MQ below (PostI G A (f_X4_set_r h sv xp k y) (fl [[oX a (AP 0) hi sl su pa (AT 0) (AU 0)], [oH hi ha (f_X4_set_h h sv xp k y)], [aS G ha 7 (fun k => some (AH k 0))], cMany G AH (f_X4_set_sv h sv xp k y) 7, cSt G AP (f_X4_set_xp h sv xp k y)])) args s (RM 4).cells (RM 4).slots A) = Q
  refine j_aload_n C dX4_set_0 0 rfl ?_
  refine j_get C kin4 rfl 0 rfl 1 (by decide) kw_127 rfl (v := .ref hi) rfl dX4_set_1 ?_
  refine j_aload_n C dX4_set_4 0 rfl ?_
  refine j_get C kin4 rfl 0 rfl 0 (by decide) kw_126 rfl (v := .ref (AP 0)) rfl dX4_set_5 ?_
  refine j_callV_v (wc' := fl [[oH hi ha h], [aS G ha 7 (fun k => some (AH k 0))], cMany G AH (f_X1_prepare_sv h sv xp) 7, cSt G AP xp]) C (m_X1_prepare l G hi ha AP AH h sv xp h7) rfl 0 rfl 1 (gV kw_144 kw_145 kw_146 kw_5 kw_147) (by decide +kernel) ⟨(Nat.le_of_ble_eq_true rfl), (Nat.le_of_ble_eq_true rfl)⟩ rfl rfl (Nat.le_of_ble_eq_true rfl) dX4_set_8 ⟨(Nat.le_of_ble_eq_true rfl), (Nat.le_of_ble_eq_true rfl)⟩ (fl [[oX a (AP 0) hi sl su pa (AT 0) (AU 0)]]) (fl [[oH hi ha h], [aS G ha 7 (fun k => some (AH k 0))], cMany G AH (f_X1_prepare_sv h sv xp) 7, cSt G AP xp, [oX a (AP 0) hi sl su pa (AT 0) (AU 0)]]) (bperm2 (bC := [[oH hi ha h], [aS G ha 7 (fun k => some (AH k 0))], cMany G AH sv 7, cSt G AP xp]) (bR := [[oX a (AP 0) hi sl su pa (AT 0) (AU 0)]]) [1, 2, 3, 4, 0] 5 rfl (by decide +kernel) rfl) (fl_app _ _) ?_
  refine j_perm (fl [[oH hi ha h], [aS G ha 7 (fun k => some (AH k 0))], [oX a (AP 0) hi sl su pa (AT 0) (AU 0)], cMany G AH (f_X1_prepare_sv h sv xp) 7, cSt G AP xp]) (bperm [0, 1, 4, 2, 3] 5 rfl (by decide +kernel) rfl) ?_
  refine j_aload_n C dX4_set_11 0 rfl ?_
  refine j_aload_n C dX4_set_12 0 rfl ?_
  refine j_get C kin4 rfl 2 rfl 0 (by decide) kw_126 rfl (v := .ref (AP 0)) rfl dX4_set_13 ?_
  refine j_iload_n C dX4_set_16 1 rfl ?_
  refine j_iload_n C dX4_set_17 2 rfl ?_
  refine j_callV_i (r := f_X3_changeSetting_r xp k y) (wc' := cSt G AP (f_X3_changeSetting_x xp k y)) C (m_X3_changeSetting l G AP xp k y) rfl 0 rfl 2 (gV kw_330 kw_331 kw_332 kw_2 kw_333) (by decide +kernel) ⟨(Nat.le_of_ble_eq_true rfl), (Nat.le_of_ble_eq_true rfl)⟩ rfl rfl (Nat.le_of_ble_eq_true rfl) dX4_set_18 ⟨(Nat.le_of_ble_eq_true rfl), (Nat.le_of_ble_eq_true rfl)⟩ (fl [[oH hi ha h], [aS G ha 7 (fun k => some (AH k 0))], [oX a (AP 0) hi sl su pa (AT 0) (AU 0)], cMany G AH (f_X1_prepare_sv h sv xp) 7]) (fl [cSt G AP (f_X3_changeSetting_x xp k y), [oH hi ha h], [aS G ha 7 (fun k => some (AH k 0))], [oX a (AP 0) hi sl su pa (AT 0) (AU 0)], cMany G AH (f_X1_prepare_sv h sv xp) 7]) (bperm (bs' := [cSt G AP xp, [oH hi ha h], [aS G ha 7 (fun k => some (AH k 0))], [oX a (AP 0) hi sl su pa (AT 0) (AU 0)], cMany G AH (f_X1_prepare_sv h sv xp) 7]) [4, 0, 1, 2, 3] 5 rfl (by decide +kernel) rfl) rfl ?_
  refine j_perm (fl [[oH hi ha h], [aS G ha 7 (fun k => some (AH k 0))], [oX a (AP 0) hi sl su pa (AT 0) (AU 0)], cSt G AP (f_X3_changeSetting_x xp k y), cMany G AH (f_X1_prepare_sv h sv xp) 7]) (bperm [1, 2, 3, 0, 4] 5 rfl (by decide +kernel) rfl) ?_
  refine j_callV_i (r := f_X4_recorded_r h (f_X3_changeSetting_r xp k y)) (wc' := [oX a (AP 0) hi sl su pa (AT 0) (AU 0), oH hi ha (f_X4_recorded_h h (f_X3_changeSetting_r xp k y))]) C (m_X4_recorded l G a hi sl su pa ha AP AT AU h (f_X3_changeSetting_r xp k y)) rfl 0 rfl 1 (gV kw_227 kw_228 kw_347 kw_1 kw_229) (by decide +kernel) ⟨(Nat.le_of_ble_eq_true rfl), (Nat.le_of_ble_eq_true rfl)⟩ rfl rfl (Nat.le_of_ble_eq_true rfl) dX4_set_21 ⟨(Nat.le_of_ble_eq_true rfl), (Nat.le_of_ble_eq_true rfl)⟩ (fl [[aS G ha 7 (fun k => some (AH k 0))], cSt G AP (f_X3_changeSetting_x xp k y), cMany G AH (f_X1_prepare_sv h sv xp) 7]) (fl [[oX a (AP 0) hi sl su pa (AT 0) (AU 0)], [oH hi ha (f_X4_recorded_h h (f_X3_changeSetting_r xp k y))], [aS G ha 7 (fun k => some (AH k 0))], cSt G AP (f_X3_changeSetting_x xp k y), cMany G AH (f_X1_prepare_sv h sv xp) 7]) (bperm (bs' := [[oX a (AP 0) hi sl su pa (AT 0) (AU 0)], [oH hi ha h], [aS G ha 7 (fun k => some (AH k 0))], cSt G AP (f_X3_changeSetting_x xp k y), cMany G AH (f_X1_prepare_sv h sv xp) 7]) [2, 0, 1, 3, 4] 5 rfl (by decide +kernel) rfl) rfl ?_
  refine j_perm (fl [[oX a (AP 0) hi sl su pa (AT 0) (AU 0)], [oH hi ha (f_X4_recorded_h h (f_X3_changeSetting_r xp k y))], [aS G ha 7 (fun k => some (AH k 0))], cMany G AH (f_X1_prepare_sv h sv xp) 7, cSt G AP (f_X3_changeSetting_x xp k y)]) (bperm [0, 1, 2, 4, 3] 5 rfl (by decide +kernel) rfl) ?_
  subst hQ; exact j_iret C hr hk ((show f_X4_set_r h sv xp k y = f_X4_recorded_r h (f_X3_changeSetting_r xp k y) from rfl).symm) (by rw [show f_X4_set_h h sv xp k y = f_X4_recorded_h h (f_X3_changeSetting_r xp k y) from rfl, show f_X4_set_sv h sv xp k y = f_X1_prepare_sv h sv xp from rfl, show f_X4_set_xp h sv xp k y = f_X3_changeSetting_x xp k y from rfl]) dX4_set_24
noncomputable def f_X4_stream_h (h : Nat → Int32) (sv : Nat → StV) (xp : StV) (k : Int32) (y : Int32) (z : Int32) : (Nat → Int32) := f_X4_recorded_h h (f_X3_changeStream_r xp k y z)
noncomputable def f_X4_stream_sv (h : Nat → Int32) (sv : Nat → StV) (xp : StV) (k : Int32) (y : Int32) (z : Int32) : (Nat → StV) := f_X1_prepare_sv h sv xp
noncomputable def f_X4_stream_xp (h : Nat → Int32) (sv : Nat → StV) (xp : StV) (k : Int32) (y : Int32) (z : Int32) : StV := f_X3_changeStream_x xp k y z
noncomputable def f_X4_stream_r (h : Nat → Int32) (sv : Nat → StV) (xp : StV) (k : Int32) (y : Int32) (z : Int32) : Int32 := f_X4_recorded_r h (f_X3_changeStream_r xp k y z)
set_option maxRecDepth 100000 in
set_option maxHeartbeats 4000000 in
theorem m_X4_stream (l : Launch) (G : GG) (a hi sl su pa ha : Nat) (AP AT AU : Nat → Nat) (AH : Nat → Nat → Nat) (h : Nat → Int32) (sv : Nat → StV) (xp : StV) (k : Int32) (y : Int32) (z : Int32) (h7 : vp_in (h 1) 7) : CtI l yX4_stream cX4_stream 4 (some .int) (RM 4) G [.ref a, .int k, .int y, .int z] (fl [[oX a (AP 0) hi sl su pa (AT 0) (AU 0)], [oH hi ha h], [aS G ha 7 (fun k => some (AH k 0))], cMany G AH sv 7, cSt G AP xp]) (f_X4_stream_r h sv xp k y z) (fl [[oX a (AP 0) hi sl su pa (AT 0) (AU 0)], [oH hi ha (f_X4_stream_h h sv xp k y z)], [aS G ha 7 (fun k => some (AH k 0))], cMany G AH (f_X4_stream_sv h sv xp k y z) 7, cSt G AP (f_X4_stream_xp h sv xp k y z)]) := by
  refine ct_I RX4 [(0, .ref a), (1, .int k), (2, .int y), (3, .int z)] rfl (by decide +kernel) (Nat.le_of_ble_eq_true rfl) rfl ?_
  intro p e s m args below meth c A C hr hk hnm
  generalize hQ : (MQ below (PostI G A (f_X4_stream_r h sv xp k y z) (fl [[oX a (AP 0) hi sl su pa (AT 0) (AU 0)], [oH hi ha (f_X4_stream_h h sv xp k y z)], [aS G ha 7 (fun k => some (AH k 0))], cMany G AH (f_X4_stream_sv h sv xp k y z) 7, cSt G AP (f_X4_stream_xp h sv xp k y z)])) args s (RM 4).cells (RM 4).slots A) = Q
  refine j_aload_n C dX4_stream_0 0 rfl ?_
  refine j_get C kin4 rfl 0 rfl 1 (by decide) kw_127 rfl (v := .ref hi) rfl dX4_stream_1 ?_
  refine j_aload_n C dX4_stream_4 0 rfl ?_
  refine j_get C kin4 rfl 0 rfl 0 (by decide) kw_126 rfl (v := .ref (AP 0)) rfl dX4_stream_5 ?_
  refine j_callV_v (wc' := fl [[oH hi ha h], [aS G ha 7 (fun k => some (AH k 0))], cMany G AH (f_X1_prepare_sv h sv xp) 7, cSt G AP xp]) C (m_X1_prepare l G hi ha AP AH h sv xp h7) rfl 0 rfl 1 (gV kw_144 kw_145 kw_146 kw_5 kw_147) (by decide +kernel) ⟨(Nat.le_of_ble_eq_true rfl), (Nat.le_of_ble_eq_true rfl)⟩ rfl rfl (Nat.le_of_ble_eq_true rfl) dX4_stream_8 ⟨(Nat.le_of_ble_eq_true rfl), (Nat.le_of_ble_eq_true rfl)⟩ (fl [[oX a (AP 0) hi sl su pa (AT 0) (AU 0)]]) (fl [[oH hi ha h], [aS G ha 7 (fun k => some (AH k 0))], cMany G AH (f_X1_prepare_sv h sv xp) 7, cSt G AP xp, [oX a (AP 0) hi sl su pa (AT 0) (AU 0)]]) (bperm2 (bC := [[oH hi ha h], [aS G ha 7 (fun k => some (AH k 0))], cMany G AH sv 7, cSt G AP xp]) (bR := [[oX a (AP 0) hi sl su pa (AT 0) (AU 0)]]) [1, 2, 3, 4, 0] 5 rfl (by decide +kernel) rfl) (fl_app _ _) ?_
  refine j_perm (fl [[oH hi ha h], [aS G ha 7 (fun k => some (AH k 0))], [oX a (AP 0) hi sl su pa (AT 0) (AU 0)], cMany G AH (f_X1_prepare_sv h sv xp) 7, cSt G AP xp]) (bperm [0, 1, 4, 2, 3] 5 rfl (by decide +kernel) rfl) ?_
  refine j_aload_n C dX4_stream_11 0 rfl ?_
  refine j_aload_n C dX4_stream_12 0 rfl ?_
  refine j_get C kin4 rfl 2 rfl 0 (by decide) kw_126 rfl (v := .ref (AP 0)) rfl dX4_stream_13 ?_
  refine j_iload_n C dX4_stream_16 1 rfl ?_
  refine j_iload_n C dX4_stream_17 2 rfl ?_
  refine j_iload_n C dX4_stream_18 3 rfl ?_
  refine j_callV_i (r := f_X3_changeStream_r xp k y z) (wc' := cSt G AP (f_X3_changeStream_x xp k y z)) C (m_X3_changeStream l G AP xp k y z) rfl 0 rfl 3 (gV kw_322 kw_323 kw_324 kw_2 kw_325) (by decide +kernel) ⟨(Nat.le_of_ble_eq_true rfl), (Nat.le_of_ble_eq_true rfl)⟩ rfl rfl (Nat.le_of_ble_eq_true rfl) dX4_stream_19 ⟨(Nat.le_of_ble_eq_true rfl), (Nat.le_of_ble_eq_true rfl)⟩ (fl [[oH hi ha h], [aS G ha 7 (fun k => some (AH k 0))], [oX a (AP 0) hi sl su pa (AT 0) (AU 0)], cMany G AH (f_X1_prepare_sv h sv xp) 7]) (fl [cSt G AP (f_X3_changeStream_x xp k y z), [oH hi ha h], [aS G ha 7 (fun k => some (AH k 0))], [oX a (AP 0) hi sl su pa (AT 0) (AU 0)], cMany G AH (f_X1_prepare_sv h sv xp) 7]) (bperm (bs' := [cSt G AP xp, [oH hi ha h], [aS G ha 7 (fun k => some (AH k 0))], [oX a (AP 0) hi sl su pa (AT 0) (AU 0)], cMany G AH (f_X1_prepare_sv h sv xp) 7]) [4, 0, 1, 2, 3] 5 rfl (by decide +kernel) rfl) rfl ?_
  refine j_perm (fl [[oH hi ha h], [aS G ha 7 (fun k => some (AH k 0))], [oX a (AP 0) hi sl su pa (AT 0) (AU 0)], cSt G AP (f_X3_changeStream_x xp k y z), cMany G AH (f_X1_prepare_sv h sv xp) 7]) (bperm [1, 2, 3, 0, 4] 5 rfl (by decide +kernel) rfl) ?_
  refine j_callV_i (r := f_X4_recorded_r h (f_X3_changeStream_r xp k y z)) (wc' := [oX a (AP 0) hi sl su pa (AT 0) (AU 0), oH hi ha (f_X4_recorded_h h (f_X3_changeStream_r xp k y z))]) C (m_X4_recorded l G a hi sl su pa ha AP AT AU h (f_X3_changeStream_r xp k y z)) rfl 0 rfl 1 (gV kw_227 kw_228 kw_347 kw_1 kw_229) (by decide +kernel) ⟨(Nat.le_of_ble_eq_true rfl), (Nat.le_of_ble_eq_true rfl)⟩ rfl rfl (Nat.le_of_ble_eq_true rfl) dX4_stream_22 ⟨(Nat.le_of_ble_eq_true rfl), (Nat.le_of_ble_eq_true rfl)⟩ (fl [[aS G ha 7 (fun k => some (AH k 0))], cSt G AP (f_X3_changeStream_x xp k y z), cMany G AH (f_X1_prepare_sv h sv xp) 7]) (fl [[oX a (AP 0) hi sl su pa (AT 0) (AU 0)], [oH hi ha (f_X4_recorded_h h (f_X3_changeStream_r xp k y z))], [aS G ha 7 (fun k => some (AH k 0))], cSt G AP (f_X3_changeStream_x xp k y z), cMany G AH (f_X1_prepare_sv h sv xp) 7]) (bperm (bs' := [[oX a (AP 0) hi sl su pa (AT 0) (AU 0)], [oH hi ha h], [aS G ha 7 (fun k => some (AH k 0))], cSt G AP (f_X3_changeStream_x xp k y z), cMany G AH (f_X1_prepare_sv h sv xp) 7]) [2, 0, 1, 3, 4] 5 rfl (by decide +kernel) rfl) rfl ?_
  refine j_perm (fl [[oX a (AP 0) hi sl su pa (AT 0) (AU 0)], [oH hi ha (f_X4_recorded_h h (f_X3_changeStream_r xp k y z))], [aS G ha 7 (fun k => some (AH k 0))], cMany G AH (f_X1_prepare_sv h sv xp) 7, cSt G AP (f_X3_changeStream_x xp k y z)]) (bperm [0, 1, 2, 4, 3] 5 rfl (by decide +kernel) rfl) ?_
  subst hQ; exact j_iret C hr hk ((show f_X4_stream_r h sv xp k y z = f_X4_recorded_r h (f_X3_changeStream_r xp k y z) from rfl).symm) (by rw [show f_X4_stream_h h sv xp k y z = f_X4_recorded_h h (f_X3_changeStream_r xp k y z) from rfl, show f_X4_stream_sv h sv xp k y z = f_X1_prepare_sv h sv xp from rfl, show f_X4_stream_xp h sv xp k y z = f_X3_changeStream_x xp k y z from rfl]) dX4_stream_25
noncomputable def f_X4_write_h (h : Nat → Int32) (sv : Nat → StV) (xp : StV) (k : Int32) (y : Int32) : (Nat → Int32) := f_X4_recorded_h h (f_X3_bringUnits_r xp k y)
noncomputable def f_X4_write_sv (h : Nat → Int32) (sv : Nat → StV) (xp : StV) (k : Int32) (y : Int32) : (Nat → StV) := f_X1_prepare_sv h sv xp
noncomputable def f_X4_write_xp (h : Nat → Int32) (sv : Nat → StV) (xp : StV) (k : Int32) (y : Int32) : StV := f_X3_bringUnits_x xp k y
noncomputable def f_X4_write_r (h : Nat → Int32) (sv : Nat → StV) (xp : StV) (k : Int32) (y : Int32) : Int32 := f_X4_recorded_r h (f_X3_bringUnits_r xp k y)
set_option maxRecDepth 100000 in
set_option maxHeartbeats 4000000 in
theorem m_X4_write (l : Launch) (G : GG) (a hi sl su pa ha : Nat) (AP AT AU : Nat → Nat) (AH : Nat → Nat → Nat) (h : Nat → Int32) (sv : Nat → StV) (xp : StV) (k : Int32) (y : Int32) (h7 : vp_in (h 1) 7) : CtI l yX4_write cX4_write 3 (some .int) (RM 4) G [.ref a, .int k, .int y] (fl [[oX a (AP 0) hi sl su pa (AT 0) (AU 0)], [oH hi ha h], [aS G ha 7 (fun k => some (AH k 0))], cMany G AH sv 7, cSt G AP xp]) (f_X4_write_r h sv xp k y) (fl [[oX a (AP 0) hi sl su pa (AT 0) (AU 0)], [oH hi ha (f_X4_write_h h sv xp k y)], [aS G ha 7 (fun k => some (AH k 0))], cMany G AH (f_X4_write_sv h sv xp k y) 7, cSt G AP (f_X4_write_xp h sv xp k y)]) := by
  refine ct_I RX4 [(0, .ref a), (1, .int k), (2, .int y)] rfl (by decide +kernel) (Nat.le_of_ble_eq_true rfl) rfl ?_
  intro p e s m args below meth c A C hr hk hnm
  generalize hQ : (MQ below (PostI G A (f_X4_write_r h sv xp k y) (fl [[oX a (AP 0) hi sl su pa (AT 0) (AU 0)], [oH hi ha (f_X4_write_h h sv xp k y)], [aS G ha 7 (fun k => some (AH k 0))], cMany G AH (f_X4_write_sv h sv xp k y) 7, cSt G AP (f_X4_write_xp h sv xp k y)])) args s (RM 4).cells (RM 4).slots A) = Q
  refine j_aload_n C dX4_write_0 0 rfl ?_
  refine j_get C kin4 rfl 0 rfl 1 (by decide) kw_127 rfl (v := .ref hi) rfl dX4_write_1 ?_
  refine j_aload_n C dX4_write_4 0 rfl ?_
  refine j_get C kin4 rfl 0 rfl 0 (by decide) kw_126 rfl (v := .ref (AP 0)) rfl dX4_write_5 ?_
  refine j_callV_v (wc' := fl [[oH hi ha h], [aS G ha 7 (fun k => some (AH k 0))], cMany G AH (f_X1_prepare_sv h sv xp) 7, cSt G AP xp]) C (m_X1_prepare l G hi ha AP AH h sv xp h7) rfl 0 rfl 1 (gV kw_144 kw_145 kw_146 kw_5 kw_147) (by decide +kernel) ⟨(Nat.le_of_ble_eq_true rfl), (Nat.le_of_ble_eq_true rfl)⟩ rfl rfl (Nat.le_of_ble_eq_true rfl) dX4_write_8 ⟨(Nat.le_of_ble_eq_true rfl), (Nat.le_of_ble_eq_true rfl)⟩ (fl [[oX a (AP 0) hi sl su pa (AT 0) (AU 0)]]) (fl [[oH hi ha h], [aS G ha 7 (fun k => some (AH k 0))], cMany G AH (f_X1_prepare_sv h sv xp) 7, cSt G AP xp, [oX a (AP 0) hi sl su pa (AT 0) (AU 0)]]) (bperm2 (bC := [[oH hi ha h], [aS G ha 7 (fun k => some (AH k 0))], cMany G AH sv 7, cSt G AP xp]) (bR := [[oX a (AP 0) hi sl su pa (AT 0) (AU 0)]]) [1, 2, 3, 4, 0] 5 rfl (by decide +kernel) rfl) (fl_app _ _) ?_
  refine j_perm (fl [[oH hi ha h], [aS G ha 7 (fun k => some (AH k 0))], [oX a (AP 0) hi sl su pa (AT 0) (AU 0)], cMany G AH (f_X1_prepare_sv h sv xp) 7, cSt G AP xp]) (bperm [0, 1, 4, 2, 3] 5 rfl (by decide +kernel) rfl) ?_
  refine j_aload_n C dX4_write_11 0 rfl ?_
  refine j_aload_n C dX4_write_12 0 rfl ?_
  refine j_get C kin4 rfl 2 rfl 0 (by decide) kw_126 rfl (v := .ref (AP 0)) rfl dX4_write_13 ?_
  refine j_iload_n C dX4_write_16 1 rfl ?_
  refine j_iload_n C dX4_write_17 2 rfl ?_
  refine j_callV_i (r := f_X3_bringUnits_r xp k y) (wc' := cSt G AP (f_X3_bringUnits_x xp k y)) C (m_X3_bringUnits l G AP xp k y) rfl 0 rfl 2 (gV kw_338 kw_339 kw_340 kw_2 kw_341) (by decide +kernel) ⟨(Nat.le_of_ble_eq_true rfl), (Nat.le_of_ble_eq_true rfl)⟩ rfl rfl (Nat.le_of_ble_eq_true rfl) dX4_write_18 ⟨(Nat.le_of_ble_eq_true rfl), (Nat.le_of_ble_eq_true rfl)⟩ (fl [[oH hi ha h], [aS G ha 7 (fun k => some (AH k 0))], [oX a (AP 0) hi sl su pa (AT 0) (AU 0)], cMany G AH (f_X1_prepare_sv h sv xp) 7]) (fl [cSt G AP (f_X3_bringUnits_x xp k y), [oH hi ha h], [aS G ha 7 (fun k => some (AH k 0))], [oX a (AP 0) hi sl su pa (AT 0) (AU 0)], cMany G AH (f_X1_prepare_sv h sv xp) 7]) (bperm (bs' := [cSt G AP xp, [oH hi ha h], [aS G ha 7 (fun k => some (AH k 0))], [oX a (AP 0) hi sl su pa (AT 0) (AU 0)], cMany G AH (f_X1_prepare_sv h sv xp) 7]) [4, 0, 1, 2, 3] 5 rfl (by decide +kernel) rfl) rfl ?_
  refine j_perm (fl [[oH hi ha h], [aS G ha 7 (fun k => some (AH k 0))], [oX a (AP 0) hi sl su pa (AT 0) (AU 0)], cSt G AP (f_X3_bringUnits_x xp k y), cMany G AH (f_X1_prepare_sv h sv xp) 7]) (bperm [1, 2, 3, 0, 4] 5 rfl (by decide +kernel) rfl) ?_
  refine j_callV_i (r := f_X4_recorded_r h (f_X3_bringUnits_r xp k y)) (wc' := [oX a (AP 0) hi sl su pa (AT 0) (AU 0), oH hi ha (f_X4_recorded_h h (f_X3_bringUnits_r xp k y))]) C (m_X4_recorded l G a hi sl su pa ha AP AT AU h (f_X3_bringUnits_r xp k y)) rfl 0 rfl 1 (gV kw_227 kw_228 kw_347 kw_1 kw_229) (by decide +kernel) ⟨(Nat.le_of_ble_eq_true rfl), (Nat.le_of_ble_eq_true rfl)⟩ rfl rfl (Nat.le_of_ble_eq_true rfl) dX4_write_21 ⟨(Nat.le_of_ble_eq_true rfl), (Nat.le_of_ble_eq_true rfl)⟩ (fl [[aS G ha 7 (fun k => some (AH k 0))], cSt G AP (f_X3_bringUnits_x xp k y), cMany G AH (f_X1_prepare_sv h sv xp) 7]) (fl [[oX a (AP 0) hi sl su pa (AT 0) (AU 0)], [oH hi ha (f_X4_recorded_h h (f_X3_bringUnits_r xp k y))], [aS G ha 7 (fun k => some (AH k 0))], cSt G AP (f_X3_bringUnits_x xp k y), cMany G AH (f_X1_prepare_sv h sv xp) 7]) (bperm (bs' := [[oX a (AP 0) hi sl su pa (AT 0) (AU 0)], [oH hi ha h], [aS G ha 7 (fun k => some (AH k 0))], cSt G AP (f_X3_bringUnits_x xp k y), cMany G AH (f_X1_prepare_sv h sv xp) 7]) [2, 0, 1, 3, 4] 5 rfl (by decide +kernel) rfl) rfl ?_
  refine j_perm (fl [[oX a (AP 0) hi sl su pa (AT 0) (AU 0)], [oH hi ha (f_X4_recorded_h h (f_X3_bringUnits_r xp k y))], [aS G ha 7 (fun k => some (AH k 0))], cMany G AH (f_X1_prepare_sv h sv xp) 7, cSt G AP (f_X3_bringUnits_x xp k y)]) (bperm [0, 1, 2, 4, 3] 5 rfl (by decide +kernel) rfl) ?_
  subst hQ; exact j_iret C hr hk ((show f_X4_write_r h sv xp k y = f_X4_recorded_r h (f_X3_bringUnits_r xp k y) from rfl).symm) (by rw [show f_X4_write_h h sv xp k y = f_X4_recorded_h h (f_X3_bringUnits_r xp k y) from rfl, show f_X4_write_sv h sv xp k y = f_X1_prepare_sv h sv xp from rfl, show f_X4_write_xp h sv xp k y = f_X3_bringUnits_x xp k y from rfl]) dX4_write_24
noncomputable def f_X4_sell_h (h : Nat → Int32) (sv : Nat → StV) (xp : StV) (k : Int32) (y : Int32) : (Nat → Int32) := f_X4_recorded_h h (f_X3_sellHour_r xp k y)
noncomputable def f_X4_sell_sv (h : Nat → Int32) (sv : Nat → StV) (xp : StV) (k : Int32) (y : Int32) : (Nat → StV) := f_X1_prepare_sv h sv xp
noncomputable def f_X4_sell_xp (h : Nat → Int32) (sv : Nat → StV) (xp : StV) (k : Int32) (y : Int32) : StV := f_X3_sellHour_x xp k y
noncomputable def f_X4_sell_r (h : Nat → Int32) (sv : Nat → StV) (xp : StV) (k : Int32) (y : Int32) : Int32 := f_X4_recorded_r h (f_X3_sellHour_r xp k y)
set_option maxRecDepth 100000 in
set_option maxHeartbeats 4000000 in
theorem m_X4_sell (l : Launch) (G : GG) (a hi sl su pa ha : Nat) (AP AT AU : Nat → Nat) (AH : Nat → Nat → Nat) (h : Nat → Int32) (sv : Nat → StV) (xp : StV) (k : Int32) (y : Int32) (h7 : vp_in (h 1) 7) : CtI l yX4_sell cX4_sell 3 (some .int) (RM 4) G [.ref a, .int k, .int y] (fl [[oX a (AP 0) hi sl su pa (AT 0) (AU 0)], [oH hi ha h], [aS G ha 7 (fun k => some (AH k 0))], cMany G AH sv 7, cSt G AP xp]) (f_X4_sell_r h sv xp k y) (fl [[oX a (AP 0) hi sl su pa (AT 0) (AU 0)], [oH hi ha (f_X4_sell_h h sv xp k y)], [aS G ha 7 (fun k => some (AH k 0))], cMany G AH (f_X4_sell_sv h sv xp k y) 7, cSt G AP (f_X4_sell_xp h sv xp k y)]) := by
  refine ct_I RX4 [(0, .ref a), (1, .int k), (2, .int y)] rfl (by decide +kernel) (Nat.le_of_ble_eq_true rfl) rfl ?_
  intro p e s m args below meth c A C hr hk hnm
  generalize hQ : (MQ below (PostI G A (f_X4_sell_r h sv xp k y) (fl [[oX a (AP 0) hi sl su pa (AT 0) (AU 0)], [oH hi ha (f_X4_sell_h h sv xp k y)], [aS G ha 7 (fun k => some (AH k 0))], cMany G AH (f_X4_sell_sv h sv xp k y) 7, cSt G AP (f_X4_sell_xp h sv xp k y)])) args s (RM 4).cells (RM 4).slots A) = Q
  refine j_aload_n C dX4_sell_0 0 rfl ?_
  refine j_get C kin4 rfl 0 rfl 1 (by decide) kw_127 rfl (v := .ref hi) rfl dX4_sell_1 ?_
  refine j_aload_n C dX4_sell_4 0 rfl ?_
  refine j_get C kin4 rfl 0 rfl 0 (by decide) kw_126 rfl (v := .ref (AP 0)) rfl dX4_sell_5 ?_
  refine j_callV_v (wc' := fl [[oH hi ha h], [aS G ha 7 (fun k => some (AH k 0))], cMany G AH (f_X1_prepare_sv h sv xp) 7, cSt G AP xp]) C (m_X1_prepare l G hi ha AP AH h sv xp h7) rfl 0 rfl 1 (gV kw_144 kw_145 kw_146 kw_5 kw_147) (by decide +kernel) ⟨(Nat.le_of_ble_eq_true rfl), (Nat.le_of_ble_eq_true rfl)⟩ rfl rfl (Nat.le_of_ble_eq_true rfl) dX4_sell_8 ⟨(Nat.le_of_ble_eq_true rfl), (Nat.le_of_ble_eq_true rfl)⟩ (fl [[oX a (AP 0) hi sl su pa (AT 0) (AU 0)]]) (fl [[oH hi ha h], [aS G ha 7 (fun k => some (AH k 0))], cMany G AH (f_X1_prepare_sv h sv xp) 7, cSt G AP xp, [oX a (AP 0) hi sl su pa (AT 0) (AU 0)]]) (bperm2 (bC := [[oH hi ha h], [aS G ha 7 (fun k => some (AH k 0))], cMany G AH sv 7, cSt G AP xp]) (bR := [[oX a (AP 0) hi sl su pa (AT 0) (AU 0)]]) [1, 2, 3, 4, 0] 5 rfl (by decide +kernel) rfl) (fl_app _ _) ?_
  refine j_perm (fl [[oH hi ha h], [aS G ha 7 (fun k => some (AH k 0))], [oX a (AP 0) hi sl su pa (AT 0) (AU 0)], cMany G AH (f_X1_prepare_sv h sv xp) 7, cSt G AP xp]) (bperm [0, 1, 4, 2, 3] 5 rfl (by decide +kernel) rfl) ?_
  refine j_aload_n C dX4_sell_11 0 rfl ?_
  refine j_aload_n C dX4_sell_12 0 rfl ?_
  refine j_get C kin4 rfl 2 rfl 0 (by decide) kw_126 rfl (v := .ref (AP 0)) rfl dX4_sell_13 ?_
  refine j_iload_n C dX4_sell_16 1 rfl ?_
  refine j_iload_n C dX4_sell_17 2 rfl ?_
  refine j_callV_i (r := f_X3_sellHour_r xp k y) (wc' := cSt G AP (f_X3_sellHour_x xp k y)) C (m_X3_sellHour l G AP xp k y) rfl 0 rfl 2 (gV kw_302 kw_303 kw_304 kw_2 kw_305) (by decide +kernel) ⟨(Nat.le_of_ble_eq_true rfl), (Nat.le_of_ble_eq_true rfl)⟩ rfl rfl (Nat.le_of_ble_eq_true rfl) dX4_sell_18 ⟨(Nat.le_of_ble_eq_true rfl), (Nat.le_of_ble_eq_true rfl)⟩ (fl [[oH hi ha h], [aS G ha 7 (fun k => some (AH k 0))], [oX a (AP 0) hi sl su pa (AT 0) (AU 0)], cMany G AH (f_X1_prepare_sv h sv xp) 7]) (fl [cSt G AP (f_X3_sellHour_x xp k y), [oH hi ha h], [aS G ha 7 (fun k => some (AH k 0))], [oX a (AP 0) hi sl su pa (AT 0) (AU 0)], cMany G AH (f_X1_prepare_sv h sv xp) 7]) (bperm (bs' := [cSt G AP xp, [oH hi ha h], [aS G ha 7 (fun k => some (AH k 0))], [oX a (AP 0) hi sl su pa (AT 0) (AU 0)], cMany G AH (f_X1_prepare_sv h sv xp) 7]) [4, 0, 1, 2, 3] 5 rfl (by decide +kernel) rfl) rfl ?_
  refine j_perm (fl [[oH hi ha h], [aS G ha 7 (fun k => some (AH k 0))], [oX a (AP 0) hi sl su pa (AT 0) (AU 0)], cSt G AP (f_X3_sellHour_x xp k y), cMany G AH (f_X1_prepare_sv h sv xp) 7]) (bperm [1, 2, 3, 0, 4] 5 rfl (by decide +kernel) rfl) ?_
  refine j_callV_i (r := f_X4_recorded_r h (f_X3_sellHour_r xp k y)) (wc' := [oX a (AP 0) hi sl su pa (AT 0) (AU 0), oH hi ha (f_X4_recorded_h h (f_X3_sellHour_r xp k y))]) C (m_X4_recorded l G a hi sl su pa ha AP AT AU h (f_X3_sellHour_r xp k y)) rfl 0 rfl 1 (gV kw_227 kw_228 kw_347 kw_1 kw_229) (by decide +kernel) ⟨(Nat.le_of_ble_eq_true rfl), (Nat.le_of_ble_eq_true rfl)⟩ rfl rfl (Nat.le_of_ble_eq_true rfl) dX4_sell_21 ⟨(Nat.le_of_ble_eq_true rfl), (Nat.le_of_ble_eq_true rfl)⟩ (fl [[aS G ha 7 (fun k => some (AH k 0))], cSt G AP (f_X3_sellHour_x xp k y), cMany G AH (f_X1_prepare_sv h sv xp) 7]) (fl [[oX a (AP 0) hi sl su pa (AT 0) (AU 0)], [oH hi ha (f_X4_recorded_h h (f_X3_sellHour_r xp k y))], [aS G ha 7 (fun k => some (AH k 0))], cSt G AP (f_X3_sellHour_x xp k y), cMany G AH (f_X1_prepare_sv h sv xp) 7]) (bperm (bs' := [[oX a (AP 0) hi sl su pa (AT 0) (AU 0)], [oH hi ha h], [aS G ha 7 (fun k => some (AH k 0))], cSt G AP (f_X3_sellHour_x xp k y), cMany G AH (f_X1_prepare_sv h sv xp) 7]) [2, 0, 1, 3, 4] 5 rfl (by decide +kernel) rfl) rfl ?_
  refine j_perm (fl [[oX a (AP 0) hi sl su pa (AT 0) (AU 0)], [oH hi ha (f_X4_recorded_h h (f_X3_sellHour_r xp k y))], [aS G ha 7 (fun k => some (AH k 0))], cMany G AH (f_X1_prepare_sv h sv xp) 7, cSt G AP (f_X3_sellHour_x xp k y)]) (bperm [0, 1, 2, 4, 3] 5 rfl (by decide +kernel) rfl) ?_
  subst hQ; exact j_iret C hr hk ((show f_X4_sell_r h sv xp k y = f_X4_recorded_r h (f_X3_sellHour_r xp k y) from rfl).symm) (by rw [show f_X4_sell_h h sv xp k y = f_X4_recorded_h h (f_X3_sellHour_r xp k y) from rfl, show f_X4_sell_sv h sv xp k y = f_X1_prepare_sv h sv xp from rfl, show f_X4_sell_xp h sv xp k y = f_X3_sellHour_x xp k y from rfl]) dX4_sell_24
noncomputable def f_X4_giveBack_h (h : Nat → Int32) (sv : Nat → StV) (xp : StV) (k : Int32) (y : Int32) : (Nat → Int32) := f_X4_recorded_h h (f_X3_takeHourBack_r xp k y)
noncomputable def f_X4_giveBack_sv (h : Nat → Int32) (sv : Nat → StV) (xp : StV) (k : Int32) (y : Int32) : (Nat → StV) := f_X1_prepare_sv h sv xp
noncomputable def f_X4_giveBack_xp (h : Nat → Int32) (sv : Nat → StV) (xp : StV) (k : Int32) (y : Int32) : StV := f_X3_takeHourBack_x xp k y
noncomputable def f_X4_giveBack_r (h : Nat → Int32) (sv : Nat → StV) (xp : StV) (k : Int32) (y : Int32) : Int32 := f_X4_recorded_r h (f_X3_takeHourBack_r xp k y)
set_option maxRecDepth 100000 in
set_option maxHeartbeats 4000000 in
theorem m_X4_giveBack (l : Launch) (G : GG) (a hi sl su pa ha : Nat) (AP AT AU : Nat → Nat) (AH : Nat → Nat → Nat) (h : Nat → Int32) (sv : Nat → StV) (xp : StV) (k : Int32) (y : Int32) (h7 : vp_in (h 1) 7) : CtI l yX4_giveBack cX4_giveBack 3 (some .int) (RM 4) G [.ref a, .int k, .int y] (fl [[oX a (AP 0) hi sl su pa (AT 0) (AU 0)], [oH hi ha h], [aS G ha 7 (fun k => some (AH k 0))], cMany G AH sv 7, cSt G AP xp]) (f_X4_giveBack_r h sv xp k y) (fl [[oX a (AP 0) hi sl su pa (AT 0) (AU 0)], [oH hi ha (f_X4_giveBack_h h sv xp k y)], [aS G ha 7 (fun k => some (AH k 0))], cMany G AH (f_X4_giveBack_sv h sv xp k y) 7, cSt G AP (f_X4_giveBack_xp h sv xp k y)]) := by
  refine ct_I RX4 [(0, .ref a), (1, .int k), (2, .int y)] rfl (by decide +kernel) (Nat.le_of_ble_eq_true rfl) rfl ?_
  intro p e s m args below meth c A C hr hk hnm
  generalize hQ : (MQ below (PostI G A (f_X4_giveBack_r h sv xp k y) (fl [[oX a (AP 0) hi sl su pa (AT 0) (AU 0)], [oH hi ha (f_X4_giveBack_h h sv xp k y)], [aS G ha 7 (fun k => some (AH k 0))], cMany G AH (f_X4_giveBack_sv h sv xp k y) 7, cSt G AP (f_X4_giveBack_xp h sv xp k y)])) args s (RM 4).cells (RM 4).slots A) = Q
  refine j_aload_n C dX4_giveBack_0 0 rfl ?_
  refine j_get C kin4 rfl 0 rfl 1 (by decide) kw_127 rfl (v := .ref hi) rfl dX4_giveBack_1 ?_
  refine j_aload_n C dX4_giveBack_4 0 rfl ?_
  refine j_get C kin4 rfl 0 rfl 0 (by decide) kw_126 rfl (v := .ref (AP 0)) rfl dX4_giveBack_5 ?_
  refine j_callV_v (wc' := fl [[oH hi ha h], [aS G ha 7 (fun k => some (AH k 0))], cMany G AH (f_X1_prepare_sv h sv xp) 7, cSt G AP xp]) C (m_X1_prepare l G hi ha AP AH h sv xp h7) rfl 0 rfl 1 (gV kw_144 kw_145 kw_146 kw_5 kw_147) (by decide +kernel) ⟨(Nat.le_of_ble_eq_true rfl), (Nat.le_of_ble_eq_true rfl)⟩ rfl rfl (Nat.le_of_ble_eq_true rfl) dX4_giveBack_8 ⟨(Nat.le_of_ble_eq_true rfl), (Nat.le_of_ble_eq_true rfl)⟩ (fl [[oX a (AP 0) hi sl su pa (AT 0) (AU 0)]]) (fl [[oH hi ha h], [aS G ha 7 (fun k => some (AH k 0))], cMany G AH (f_X1_prepare_sv h sv xp) 7, cSt G AP xp, [oX a (AP 0) hi sl su pa (AT 0) (AU 0)]]) (bperm2 (bC := [[oH hi ha h], [aS G ha 7 (fun k => some (AH k 0))], cMany G AH sv 7, cSt G AP xp]) (bR := [[oX a (AP 0) hi sl su pa (AT 0) (AU 0)]]) [1, 2, 3, 4, 0] 5 rfl (by decide +kernel) rfl) (fl_app _ _) ?_
  refine j_perm (fl [[oH hi ha h], [aS G ha 7 (fun k => some (AH k 0))], [oX a (AP 0) hi sl su pa (AT 0) (AU 0)], cMany G AH (f_X1_prepare_sv h sv xp) 7, cSt G AP xp]) (bperm [0, 1, 4, 2, 3] 5 rfl (by decide +kernel) rfl) ?_
  refine j_aload_n C dX4_giveBack_11 0 rfl ?_
  refine j_aload_n C dX4_giveBack_12 0 rfl ?_
  refine j_get C kin4 rfl 2 rfl 0 (by decide) kw_126 rfl (v := .ref (AP 0)) rfl dX4_giveBack_13 ?_
  refine j_iload_n C dX4_giveBack_16 1 rfl ?_
  refine j_iload_n C dX4_giveBack_17 2 rfl ?_
  refine j_callV_i (r := f_X3_takeHourBack_r xp k y) (wc' := cSt G AP (f_X3_takeHourBack_x xp k y)) C (m_X3_takeHourBack l G AP xp k y) rfl 0 rfl 2 (gV kw_314 kw_315 kw_316 kw_2 kw_317) (by decide +kernel) ⟨(Nat.le_of_ble_eq_true rfl), (Nat.le_of_ble_eq_true rfl)⟩ rfl rfl (Nat.le_of_ble_eq_true rfl) dX4_giveBack_18 ⟨(Nat.le_of_ble_eq_true rfl), (Nat.le_of_ble_eq_true rfl)⟩ (fl [[oH hi ha h], [aS G ha 7 (fun k => some (AH k 0))], [oX a (AP 0) hi sl su pa (AT 0) (AU 0)], cMany G AH (f_X1_prepare_sv h sv xp) 7]) (fl [cSt G AP (f_X3_takeHourBack_x xp k y), [oH hi ha h], [aS G ha 7 (fun k => some (AH k 0))], [oX a (AP 0) hi sl su pa (AT 0) (AU 0)], cMany G AH (f_X1_prepare_sv h sv xp) 7]) (bperm (bs' := [cSt G AP xp, [oH hi ha h], [aS G ha 7 (fun k => some (AH k 0))], [oX a (AP 0) hi sl su pa (AT 0) (AU 0)], cMany G AH (f_X1_prepare_sv h sv xp) 7]) [4, 0, 1, 2, 3] 5 rfl (by decide +kernel) rfl) rfl ?_
  refine j_perm (fl [[oH hi ha h], [aS G ha 7 (fun k => some (AH k 0))], [oX a (AP 0) hi sl su pa (AT 0) (AU 0)], cSt G AP (f_X3_takeHourBack_x xp k y), cMany G AH (f_X1_prepare_sv h sv xp) 7]) (bperm [1, 2, 3, 0, 4] 5 rfl (by decide +kernel) rfl) ?_
  refine j_callV_i (r := f_X4_recorded_r h (f_X3_takeHourBack_r xp k y)) (wc' := [oX a (AP 0) hi sl su pa (AT 0) (AU 0), oH hi ha (f_X4_recorded_h h (f_X3_takeHourBack_r xp k y))]) C (m_X4_recorded l G a hi sl su pa ha AP AT AU h (f_X3_takeHourBack_r xp k y)) rfl 0 rfl 1 (gV kw_227 kw_228 kw_347 kw_1 kw_229) (by decide +kernel) ⟨(Nat.le_of_ble_eq_true rfl), (Nat.le_of_ble_eq_true rfl)⟩ rfl rfl (Nat.le_of_ble_eq_true rfl) dX4_giveBack_21 ⟨(Nat.le_of_ble_eq_true rfl), (Nat.le_of_ble_eq_true rfl)⟩ (fl [[aS G ha 7 (fun k => some (AH k 0))], cSt G AP (f_X3_takeHourBack_x xp k y), cMany G AH (f_X1_prepare_sv h sv xp) 7]) (fl [[oX a (AP 0) hi sl su pa (AT 0) (AU 0)], [oH hi ha (f_X4_recorded_h h (f_X3_takeHourBack_r xp k y))], [aS G ha 7 (fun k => some (AH k 0))], cSt G AP (f_X3_takeHourBack_x xp k y), cMany G AH (f_X1_prepare_sv h sv xp) 7]) (bperm (bs' := [[oX a (AP 0) hi sl su pa (AT 0) (AU 0)], [oH hi ha h], [aS G ha 7 (fun k => some (AH k 0))], cSt G AP (f_X3_takeHourBack_x xp k y), cMany G AH (f_X1_prepare_sv h sv xp) 7]) [2, 0, 1, 3, 4] 5 rfl (by decide +kernel) rfl) rfl ?_
  refine j_perm (fl [[oX a (AP 0) hi sl su pa (AT 0) (AU 0)], [oH hi ha (f_X4_recorded_h h (f_X3_takeHourBack_r xp k y))], [aS G ha 7 (fun k => some (AH k 0))], cMany G AH (f_X1_prepare_sv h sv xp) 7, cSt G AP (f_X3_takeHourBack_x xp k y)]) (bperm [0, 1, 2, 4, 3] 5 rfl (by decide +kernel) rfl) ?_
  subst hQ; exact j_iret C hr hk ((show f_X4_giveBack_r h sv xp k y = f_X4_recorded_r h (f_X3_takeHourBack_r xp k y) from rfl).symm) (by rw [show f_X4_giveBack_h h sv xp k y = f_X4_recorded_h h (f_X3_takeHourBack_r xp k y) from rfl, show f_X4_giveBack_sv h sv xp k y = f_X1_prepare_sv h sv xp from rfl, show f_X4_giveBack_xp h sv xp k y = f_X3_takeHourBack_x xp k y from rfl]) dX4_giveBack_24
noncomputable def f_X4_pass_h (h : Nat → Int32) (sv : Nat → StV) (xp : StV) (k : Int32) : (Nat → Int32) := f_X4_recorded_h h (f_X3_passMinutes_r xp k)
noncomputable def f_X4_pass_sv (h : Nat → Int32) (sv : Nat → StV) (xp : StV) (k : Int32) : (Nat → StV) := f_X1_prepare_sv h sv xp
noncomputable def f_X4_pass_xp (h : Nat → Int32) (sv : Nat → StV) (xp : StV) (k : Int32) : StV := f_X3_passMinutes_x xp k
noncomputable def f_X4_pass_r (h : Nat → Int32) (sv : Nat → StV) (xp : StV) (k : Int32) : Int32 := f_X4_recorded_r h (f_X3_passMinutes_r xp k)
set_option maxRecDepth 100000 in
set_option maxHeartbeats 4000000 in
theorem m_X4_pass (l : Launch) (G : GG) (a hi sl su pa ha : Nat) (AP AT AU : Nat → Nat) (AH : Nat → Nat → Nat) (h : Nat → Int32) (sv : Nat → StV) (xp : StV) (k : Int32) (h7 : vp_in (h 1) 7) : CtI l yX4_pass cX4_pass 2 (some .int) (RM 6) G [.ref a, .int k] (fl [[oX a (AP 0) hi sl su pa (AT 0) (AU 0)], [oH hi ha h], [aS G ha 7 (fun k => some (AH k 0))], cMany G AH sv 7, cSt G AP xp]) (f_X4_pass_r h sv xp k) (fl [[oX a (AP 0) hi sl su pa (AT 0) (AU 0)], [oH hi ha (f_X4_pass_h h sv xp k)], [aS G ha 7 (fun k => some (AH k 0))], cMany G AH (f_X4_pass_sv h sv xp k) 7, cSt G AP (f_X4_pass_xp h sv xp k)]) := by
  refine ct_I RX4 [(0, .ref a), (1, .int k)] rfl (by decide +kernel) (Nat.le_of_ble_eq_true rfl) rfl ?_
  intro p e s m args below meth c A C hr hk hnm
  generalize hQ : (MQ below (PostI G A (f_X4_pass_r h sv xp k) (fl [[oX a (AP 0) hi sl su pa (AT 0) (AU 0)], [oH hi ha (f_X4_pass_h h sv xp k)], [aS G ha 7 (fun k => some (AH k 0))], cMany G AH (f_X4_pass_sv h sv xp k) 7, cSt G AP (f_X4_pass_xp h sv xp k)])) args s (RM 6).cells (RM 6).slots A) = Q
  refine j_aload_n C dX4_pass_0 0 rfl ?_
  refine j_get C kin4 rfl 0 rfl 1 (by decide) kw_127 rfl (v := .ref hi) rfl dX4_pass_1 ?_
  refine j_aload_n C dX4_pass_4 0 rfl ?_
  refine j_get C kin4 rfl 0 rfl 0 (by decide) kw_126 rfl (v := .ref (AP 0)) rfl dX4_pass_5 ?_
  refine j_callV_v (wc' := fl [[oH hi ha h], [aS G ha 7 (fun k => some (AH k 0))], cMany G AH (f_X1_prepare_sv h sv xp) 7, cSt G AP xp]) C (m_X1_prepare l G hi ha AP AH h sv xp h7) rfl 0 rfl 1 (gV kw_144 kw_145 kw_146 kw_5 kw_147) (by decide +kernel) ⟨(Nat.le_of_ble_eq_true rfl), (Nat.le_of_ble_eq_true rfl)⟩ rfl rfl (Nat.le_of_ble_eq_true rfl) dX4_pass_8 ⟨(Nat.le_of_ble_eq_true rfl), (Nat.le_of_ble_eq_true rfl)⟩ (fl [[oX a (AP 0) hi sl su pa (AT 0) (AU 0)]]) (fl [[oH hi ha h], [aS G ha 7 (fun k => some (AH k 0))], cMany G AH (f_X1_prepare_sv h sv xp) 7, cSt G AP xp, [oX a (AP 0) hi sl su pa (AT 0) (AU 0)]]) (bperm2 (bC := [[oH hi ha h], [aS G ha 7 (fun k => some (AH k 0))], cMany G AH sv 7, cSt G AP xp]) (bR := [[oX a (AP 0) hi sl su pa (AT 0) (AU 0)]]) [1, 2, 3, 4, 0] 5 rfl (by decide +kernel) rfl) (fl_app _ _) ?_
  refine j_perm (fl [[oH hi ha h], [aS G ha 7 (fun k => some (AH k 0))], [oX a (AP 0) hi sl su pa (AT 0) (AU 0)], cMany G AH (f_X1_prepare_sv h sv xp) 7, cSt G AP xp]) (bperm [0, 1, 4, 2, 3] 5 rfl (by decide +kernel) rfl) ?_
  refine j_aload_n C dX4_pass_11 0 rfl ?_
  refine j_aload_n C dX4_pass_12 0 rfl ?_
  refine j_get C kin4 rfl 2 rfl 0 (by decide) kw_126 rfl (v := .ref (AP 0)) rfl dX4_pass_13 ?_
  refine j_iload_n C dX4_pass_16 1 rfl ?_
  refine j_callV_i (r := f_X3_passMinutes_r xp k) (wc' := cSt G AP (f_X3_passMinutes_x xp k)) C (m_X3_passMinutes l G AP xp k) rfl 0 rfl 1 (gV kw_157 kw_158 kw_159 kw_2 kw_160) (by decide +kernel) ⟨(Nat.le_of_ble_eq_true rfl), (Nat.le_of_ble_eq_true rfl)⟩ rfl rfl (Nat.le_of_ble_eq_true rfl) dX4_pass_17 ⟨(Nat.le_of_ble_eq_true rfl), (Nat.le_of_ble_eq_true rfl)⟩ (fl [[oH hi ha h], [aS G ha 7 (fun k => some (AH k 0))], [oX a (AP 0) hi sl su pa (AT 0) (AU 0)], cMany G AH (f_X1_prepare_sv h sv xp) 7]) (fl [cSt G AP (f_X3_passMinutes_x xp k), [oH hi ha h], [aS G ha 7 (fun k => some (AH k 0))], [oX a (AP 0) hi sl su pa (AT 0) (AU 0)], cMany G AH (f_X1_prepare_sv h sv xp) 7]) (bperm (bs' := [cSt G AP xp, [oH hi ha h], [aS G ha 7 (fun k => some (AH k 0))], [oX a (AP 0) hi sl su pa (AT 0) (AU 0)], cMany G AH (f_X1_prepare_sv h sv xp) 7]) [4, 0, 1, 2, 3] 5 rfl (by decide +kernel) rfl) rfl ?_
  refine j_perm (fl [[oH hi ha h], [aS G ha 7 (fun k => some (AH k 0))], [oX a (AP 0) hi sl su pa (AT 0) (AU 0)], cSt G AP (f_X3_passMinutes_x xp k), cMany G AH (f_X1_prepare_sv h sv xp) 7]) (bperm [1, 2, 3, 0, 4] 5 rfl (by decide +kernel) rfl) ?_
  refine j_callV_i (r := f_X4_recorded_r h (f_X3_passMinutes_r xp k)) (wc' := [oX a (AP 0) hi sl su pa (AT 0) (AU 0), oH hi ha (f_X4_recorded_h h (f_X3_passMinutes_r xp k))]) C (m_X4_recorded l G a hi sl su pa ha AP AT AU h (f_X3_passMinutes_r xp k)) rfl 0 rfl 1 (gV kw_227 kw_228 kw_347 kw_1 kw_229) (by decide +kernel) ⟨(Nat.le_of_ble_eq_true rfl), (Nat.le_of_ble_eq_true rfl)⟩ rfl rfl (Nat.le_of_ble_eq_true rfl) dX4_pass_20 ⟨(Nat.le_of_ble_eq_true rfl), (Nat.le_of_ble_eq_true rfl)⟩ (fl [[aS G ha 7 (fun k => some (AH k 0))], cSt G AP (f_X3_passMinutes_x xp k), cMany G AH (f_X1_prepare_sv h sv xp) 7]) (fl [[oX a (AP 0) hi sl su pa (AT 0) (AU 0)], [oH hi ha (f_X4_recorded_h h (f_X3_passMinutes_r xp k))], [aS G ha 7 (fun k => some (AH k 0))], cSt G AP (f_X3_passMinutes_x xp k), cMany G AH (f_X1_prepare_sv h sv xp) 7]) (bperm (bs' := [[oX a (AP 0) hi sl su pa (AT 0) (AU 0)], [oH hi ha h], [aS G ha 7 (fun k => some (AH k 0))], cSt G AP (f_X3_passMinutes_x xp k), cMany G AH (f_X1_prepare_sv h sv xp) 7]) [2, 0, 1, 3, 4] 5 rfl (by decide +kernel) rfl) rfl ?_
  refine j_perm (fl [[oX a (AP 0) hi sl su pa (AT 0) (AU 0)], [oH hi ha (f_X4_recorded_h h (f_X3_passMinutes_r xp k))], [aS G ha 7 (fun k => some (AH k 0))], cMany G AH (f_X1_prepare_sv h sv xp) 7, cSt G AP (f_X3_passMinutes_x xp k)]) (bperm [0, 1, 2, 4, 3] 5 rfl (by decide +kernel) rfl) ?_
  subst hQ; exact j_iret C hr hk ((show f_X4_pass_r h sv xp k = f_X4_recorded_r h (f_X3_passMinutes_r xp k) from rfl).symm) (by rw [show f_X4_pass_h h sv xp k = f_X4_recorded_h h (f_X3_passMinutes_r xp k) from rfl, show f_X4_pass_sv h sv xp k = f_X1_prepare_sv h sv xp from rfl, show f_X4_pass_xp h sv xp k = f_X3_passMinutes_x xp k from rfl]) dX4_pass_23
noncomputable def f_X4_ofDrive_rq3 (xp : StV) (k : Int32) (y : Int32) : Int32 := f_X0_isQuietIn_r (xp.2.2.1 k.toNatClampNeg) (xp.2.2.2 k.toNatClampNeg) (f_X3_hourOfNow_r xp.1)
noncomputable def f_X4_ofDrive_x4 (xp : StV) (k : Int32) (y : Int32) : Int32 := (if (f_X4_ofDrive_rq3 xp k y) = 0 then 0 else 1)
noncomputable def f_X4_ofDrive_x5 (xp : StV) (k : Int32) (y : Int32) : Int32 := (if b01 ((xp.2.2.1 k.toNatClampNeg).1 4) = 0 then 0 else 1)
noncomputable def f_X4_ofDrive_rq6 (xp : StV) (k : Int32) (y : Int32) : Int32 := f_X0_soldHours_r (xp.2.2.1 k.toNatClampNeg) (xp.2.2.2 k.toNatClampNeg)
noncomputable def f_X4_ofDrive_rq7 (xp : StV) (k : Int32) (y : Int32) : Int32 := f_X0_hoursThatAre_r (xp.2.2.1 k.toNatClampNeg) (xp.2.2.2 k.toNatClampNeg) 2
noncomputable def f_X4_ofDrive_rq8 (xp : StV) (k : Int32) (y : Int32) : Int32 := f_X0_hoursThatAre_r (xp.2.2.1 k.toNatClampNeg) (xp.2.2.2 k.toNatClampNeg) 3
noncomputable def f_X4_ofDrive_r (xp : StV) (k : Int32) (y : Int32) : Int32 := (if f_X4_isDrive_r k = 0 then (-1) else (if y = 0 then (xp.2.2.1 k.toNatClampNeg).1 0 else (if y = 1 then (xp.2.2.1 k.toNatClampNeg).1 1 else (if y = 2 then (xp.2.2.1 k.toNatClampNeg).1 2 else (if y = 3 then (xp.2.2.1 k.toNatClampNeg).1 3 else (if y = 4 then (f_X4_ofDrive_x4 xp k y) else (if y = 5 then (f_X4_ofDrive_x5 xp k y) else (if y = 6 then (xp.2.2.1 k.toNatClampNeg).1 5 else (if y = 7 then (xp.2.2.1 k.toNatClampNeg).1 6 else (if y = 8 then (xp.2.2.1 k.toNatClampNeg).1 7 else (if y = 9 then (f_X4_ofDrive_rq6 xp k y) else (if y = 10 then (f_X4_ofDrive_rq7 xp k y) else (if y = 11 then (f_X4_ofDrive_rq8 xp k y) else (if y = 12 then (xp.2.2.1 k.toNatClampNeg).1 8 else (if y = 13 then (xp.2.2.1 k.toNatClampNeg).1 9 else (-2))))))))))))))))
set_option maxRecDepth 100000 in
set_option maxHeartbeats 4000000 in
theorem m_X4_ofDrive (l : Launch) (G : GG) (a hi sl su pa : Nat) (AP AT AU : Nat → Nat) (xp : StV) (k : Int32) (y : Int32)  : CtI l yX4_ofDrive cX4_ofDrive 4 (some .int) (RM 4) G [.ref a, .int k, .int y] (fl [[oX a (AP 0) hi sl su pa (AT 0) (AU 0)], cSt G AP xp]) (f_X4_ofDrive_r xp k y) (fl [[oX a (AP 0) hi sl su pa (AT 0) (AU 0)], cSt G AP xp]) := by
  refine ct_I RX4 [(0, .ref a), (1, .int k), (2, .int y)] rfl (by decide +kernel) (Nat.le_of_ble_eq_true rfl) rfl ?_
  intro p e s m args below meth c A C hr hk hnm
  generalize hQ : (MQ below (PostI G A (f_X4_ofDrive_r xp k y) (fl [[oX a (AP 0) hi sl su pa (AT 0) (AU 0)], cSt G AP xp])) args s (RM 4).cells (RM 4).slots A) = Q
  refine j_iload_n C dX4_ofDrive_0 1 rfl ?_
  refine j_pureS_i (r := f_X4_isDrive_r k) C (m_X4_isDrive l G k) 1 (gS kw_239 kw_240 kw_1 kw_241) (by decide +kernel) ⟨(Nat.le_of_ble_eq_true rfl), (Nat.le_of_ble_eq_true rfl)⟩ rfl rfl (Nat.le_of_ble_eq_true rfl) dX4_ofDrive_1 ⟨(Nat.le_of_ble_eq_true rfl), (Nat.le_of_ble_eq_true rfl)⟩ ?_
  refine j_if_ne (tgt := 9) C dX4_ofDrive_4 (by decide) (fun c4 => ?_) (fun c4 => ?_)
  · refine j_aload_n C dX4_ofDrive_9 0 rfl ?_
    refine j_get C kin4 rfl 0 rfl 0 (by decide) kw_126 rfl (v := .ref (AP 0)) rfl dX4_ofDrive_10 ?_
    refine j_perm (fl [cSt G AP xp, [oX a (AP 0) hi sl su pa (AT 0) (AU 0)]]) (bperm [1, 0] 2 rfl (by decide +kernel) rfl) ?_
    refine j_w (fl [[oS (AP 0) (AP 1) (AP 2) xp.1], [aI G (AP 1) 7 xp.2.1], [aD G (AP 2) 4 (fun k => some (AP (3 + 2 * k)))], cDrs G AP xp.2.2.1 xp.2.2.2, [oX a (AP 0) hi sl su pa (AT 0) (AU 0)]]) rfl ?_
    refine j_perm (fl [[oS (AP 0) (AP 1) (AP 2) xp.1], [aI G (AP 1) 7 xp.2.1], [aD G (AP 2) 4 (fun k => some (AP (3 + 2 * k)))], [oX a (AP 0) hi sl su pa (AT 0) (AU 0)], cDrs G AP xp.2.2.1 xp.2.2.2]) (bperm [0, 1, 2, 4, 3] 5 rfl (by decide +kernel) rfl) ?_
    refine j_get C kin3 rfl 0 rfl 1 (by decide) kw_77 rfl (v := .ref (AP 2)) rfl dX4_ofDrive_13 ?_
    refine j_iload_n C dX4_ofDrive_16 1 rfl ?_
    refine j_perm (fl [cDrs G AP xp.2.2.1 xp.2.2.2, [oS (AP 0) (AP 1) (AP 2) xp.1], [aI G (AP 1) 7 xp.2.1], [aD G (AP 2) 4 (fun k => some (AP (3 + 2 * k)))], [oX a (AP 0) hi sl su pa (AT 0) (AU 0)]]) (bperm [4, 0, 1, 2, 3] 5 rfl (by decide +kernel) rfl) ?_
    refine j_perm (fl [[oD (AP (3 + 2 * k.toNatClampNeg)) (AP (4 + 2 * k.toNatClampNeg)) (xp.2.2.1 k.toNatClampNeg)], [aB G (AP (4 + 2 * k.toNatClampNeg)) (xp.2.2.2 k.toNatClampNeg)], cRs G AP xp.2.2.1 xp.2.2.2 k.toNatClampNeg, [oS (AP 0) (AP 1) (AP 2) xp.1], [aI G (AP 1) 7 xp.2.1], [aD G (AP 2) 4 (fun k => some (AP (3 + 2 * k)))], [oX a (AP 0) hi sl su pa (AT 0) (AU 0)]]) (open_at (openDrs G AP xp.2.2.1 xp.2.2.2 k.toNatClampNeg (vin_nat (lt_drive c4)))) ?_
    refine j_perm (fl [[oD (AP (3 + 2 * k.toNatClampNeg)) (AP (4 + 2 * k.toNatClampNeg)) (xp.2.2.1 k.toNatClampNeg)], [aB G (AP (4 + 2 * k.toNatClampNeg)) (xp.2.2.2 k.toNatClampNeg)], [oS (AP 0) (AP 1) (AP 2) xp.1], [aI G (AP 1) 7 xp.2.1], [aD G (AP 2) 4 (fun k => some (AP (3 + 2 * k)))], [oX a (AP 0) hi sl su pa (AT 0) (AU 0)], cRs G AP xp.2.2.1 xp.2.2.2 k.toNatClampNeg]) (bperm [0, 1, 3, 4, 5, 6, 2] 7 rfl (by decide +kernel) rfl) ?_
    refine j_aaldD C 4 rfl (lt_drive c4) (y := AP (3 + 2 * k.toNatClampNeg)) rfl dX4_ofDrive_17 ?_
    refine j_astore_n C [(3, .ref (AP (3 + 2 * k.toNatClampNeg))), (0, .ref a), (1, .int k), (2, .int y)] dX4_ofDrive_18 (by decide) rfl ?_
    refine j_iload_n C dX4_ofDrive_19 3 rfl ?_
    by_cases c20_0 : y = 0
    · refine j_tableIn (tgt := 92) C dX4_ofDrive_20 (by rw [c20_0] <;> decide) (by rw [c20_0] <;> decide) (by rw [c20_0] <;> rfl) (by decide) ?_
      refine j_aload_n C dX4_ofDrive_92 0 rfl ?_
      refine j_get C kin0 rfl 0 rfl 0 (by decide) kw_31 rfl (v := .int ((xp.2.2.1 k.toNatClampNeg).1 0)) rfl dX4_ofDrive_93 ?_
      refine j_perm (fl [[oD (AP (3 + 2 * k.toNatClampNeg)) (AP (4 + 2 * k.toNatClampNeg)) (xp.2.2.1 k.toNatClampNeg)], [aB G (AP (4 + 2 * k.toNatClampNeg)) (xp.2.2.2 k.toNatClampNeg)], cRs G AP xp.2.2.1 xp.2.2.2 k.toNatClampNeg, [oS (AP 0) (AP 1) (AP 2) xp.1], [aI G (AP 1) 7 xp.2.1], [aD G (AP 2) 4 (fun k => some (AP (3 + 2 * k)))], [oX a (AP 0) hi sl su pa (AT 0) (AU 0)]]) (bperm [0, 1, 6, 2, 3, 4, 5] 7 rfl (by decide +kernel) rfl) ?_
      refine j_perm (fl [cDrs G AP xp.2.2.1 xp.2.2.2, [oS (AP 0) (AP 1) (AP 2) xp.1], [aI G (AP 1) 7 xp.2.1], [aD G (AP 2) 4 (fun k => some (AP (3 + 2 * k)))], [oX a (AP 0) hi sl su pa (AT 0) (AU 0)]]) (shut_at (bs := [[oD (AP (3 + 2 * k.toNatClampNeg)) (AP (4 + 2 * k.toNatClampNeg)) (xp.2.2.1 k.toNatClampNeg)], [aB G (AP (4 + 2 * k.toNatClampNeg)) (xp.2.2.2 k.toNatClampNeg)], cRs G AP xp.2.2.1 xp.2.2.2 k.toNatClampNeg]) (openDrs G AP xp.2.2.1 xp.2.2.2 k.toNatClampNeg (vin_nat (lt_drive c4))).symm) ?_
      refine j_perm (fl [[oS (AP 0) (AP 1) (AP 2) xp.1], [aI G (AP 1) 7 xp.2.1], [aD G (AP 2) 4 (fun k => some (AP (3 + 2 * k)))], cDrs G AP xp.2.2.1 xp.2.2.2, [oX a (AP 0) hi sl su pa (AT 0) (AU 0)]]) (bperm [1, 2, 3, 0, 4] 5 rfl (by decide +kernel) rfl) ?_
      refine j_w (fl [cSt G AP xp, [oX a (AP 0) hi sl su pa (AT 0) (AU 0)]]) rfl ?_
      refine j_perm (fl [[oX a (AP 0) hi sl su pa (AT 0) (AU 0)], cSt G AP xp]) (bperm [1, 0] 2 rfl (by decide +kernel) rfl) ?_
      subst hQ; exact j_iret C hr hk ((show f_X4_ofDrive_r xp k y = (xp.2.2.1 k.toNatClampNeg).1 0 from ((if_neg c4).trans (if_pos c20_0))).symm) rfl dX4_ofDrive_96
    · by_cases c20_1 : y = 1
      · refine j_tableIn (tgt := 97) C dX4_ofDrive_20 (by rw [c20_1] <;> decide) (by rw [c20_1] <;> decide) (by rw [c20_1] <;> rfl) (by decide) ?_
        refine j_aload_n C dX4_ofDrive_97 0 rfl ?_
        refine j_get C kin0 rfl 0 rfl 1 (by decide) kw_34 rfl (v := .int ((xp.2.2.1 k.toNatClampNeg).1 1)) rfl dX4_ofDrive_98 ?_
        refine j_perm (fl [[oD (AP (3 + 2 * k.toNatClampNeg)) (AP (4 + 2 * k.toNatClampNeg)) (xp.2.2.1 k.toNatClampNeg)], [aB G (AP (4 + 2 * k.toNatClampNeg)) (xp.2.2.2 k.toNatClampNeg)], cRs G AP xp.2.2.1 xp.2.2.2 k.toNatClampNeg, [oS (AP 0) (AP 1) (AP 2) xp.1], [aI G (AP 1) 7 xp.2.1], [aD G (AP 2) 4 (fun k => some (AP (3 + 2 * k)))], [oX a (AP 0) hi sl su pa (AT 0) (AU 0)]]) (bperm [0, 1, 6, 2, 3, 4, 5] 7 rfl (by decide +kernel) rfl) ?_
        refine j_perm (fl [cDrs G AP xp.2.2.1 xp.2.2.2, [oS (AP 0) (AP 1) (AP 2) xp.1], [aI G (AP 1) 7 xp.2.1], [aD G (AP 2) 4 (fun k => some (AP (3 + 2 * k)))], [oX a (AP 0) hi sl su pa (AT 0) (AU 0)]]) (shut_at (bs := [[oD (AP (3 + 2 * k.toNatClampNeg)) (AP (4 + 2 * k.toNatClampNeg)) (xp.2.2.1 k.toNatClampNeg)], [aB G (AP (4 + 2 * k.toNatClampNeg)) (xp.2.2.2 k.toNatClampNeg)], cRs G AP xp.2.2.1 xp.2.2.2 k.toNatClampNeg]) (openDrs G AP xp.2.2.1 xp.2.2.2 k.toNatClampNeg (vin_nat (lt_drive c4))).symm) ?_
        refine j_perm (fl [[oS (AP 0) (AP 1) (AP 2) xp.1], [aI G (AP 1) 7 xp.2.1], [aD G (AP 2) 4 (fun k => some (AP (3 + 2 * k)))], cDrs G AP xp.2.2.1 xp.2.2.2, [oX a (AP 0) hi sl su pa (AT 0) (AU 0)]]) (bperm [1, 2, 3, 0, 4] 5 rfl (by decide +kernel) rfl) ?_
        refine j_w (fl [cSt G AP xp, [oX a (AP 0) hi sl su pa (AT 0) (AU 0)]]) rfl ?_
        refine j_perm (fl [[oX a (AP 0) hi sl su pa (AT 0) (AU 0)], cSt G AP xp]) (bperm [1, 0] 2 rfl (by decide +kernel) rfl) ?_
        subst hQ; exact j_iret C hr hk ((show f_X4_ofDrive_r xp k y = (xp.2.2.1 k.toNatClampNeg).1 1 from ((if_neg c4).trans ((if_neg c20_0).trans (if_pos c20_1)))).symm) rfl dX4_ofDrive_101
      · by_cases c20_2 : y = 2
        · refine j_tableIn (tgt := 102) C dX4_ofDrive_20 (by rw [c20_2] <;> decide) (by rw [c20_2] <;> decide) (by rw [c20_2] <;> rfl) (by decide) ?_
          refine j_aload_n C dX4_ofDrive_102 0 rfl ?_
          refine j_get C kin0 rfl 0 rfl 2 (by decide) kw_37 rfl (v := .int ((xp.2.2.1 k.toNatClampNeg).1 2)) rfl dX4_ofDrive_103 ?_
          refine j_perm (fl [[oD (AP (3 + 2 * k.toNatClampNeg)) (AP (4 + 2 * k.toNatClampNeg)) (xp.2.2.1 k.toNatClampNeg)], [aB G (AP (4 + 2 * k.toNatClampNeg)) (xp.2.2.2 k.toNatClampNeg)], cRs G AP xp.2.2.1 xp.2.2.2 k.toNatClampNeg, [oS (AP 0) (AP 1) (AP 2) xp.1], [aI G (AP 1) 7 xp.2.1], [aD G (AP 2) 4 (fun k => some (AP (3 + 2 * k)))], [oX a (AP 0) hi sl su pa (AT 0) (AU 0)]]) (bperm [0, 1, 6, 2, 3, 4, 5] 7 rfl (by decide +kernel) rfl) ?_
          refine j_perm (fl [cDrs G AP xp.2.2.1 xp.2.2.2, [oS (AP 0) (AP 1) (AP 2) xp.1], [aI G (AP 1) 7 xp.2.1], [aD G (AP 2) 4 (fun k => some (AP (3 + 2 * k)))], [oX a (AP 0) hi sl su pa (AT 0) (AU 0)]]) (shut_at (bs := [[oD (AP (3 + 2 * k.toNatClampNeg)) (AP (4 + 2 * k.toNatClampNeg)) (xp.2.2.1 k.toNatClampNeg)], [aB G (AP (4 + 2 * k.toNatClampNeg)) (xp.2.2.2 k.toNatClampNeg)], cRs G AP xp.2.2.1 xp.2.2.2 k.toNatClampNeg]) (openDrs G AP xp.2.2.1 xp.2.2.2 k.toNatClampNeg (vin_nat (lt_drive c4))).symm) ?_
          refine j_perm (fl [[oS (AP 0) (AP 1) (AP 2) xp.1], [aI G (AP 1) 7 xp.2.1], [aD G (AP 2) 4 (fun k => some (AP (3 + 2 * k)))], cDrs G AP xp.2.2.1 xp.2.2.2, [oX a (AP 0) hi sl su pa (AT 0) (AU 0)]]) (bperm [1, 2, 3, 0, 4] 5 rfl (by decide +kernel) rfl) ?_
          refine j_w (fl [cSt G AP xp, [oX a (AP 0) hi sl su pa (AT 0) (AU 0)]]) rfl ?_
          refine j_perm (fl [[oX a (AP 0) hi sl su pa (AT 0) (AU 0)], cSt G AP xp]) (bperm [1, 0] 2 rfl (by decide +kernel) rfl) ?_
          subst hQ; exact j_iret C hr hk ((show f_X4_ofDrive_r xp k y = (xp.2.2.1 k.toNatClampNeg).1 2 from ((if_neg c4).trans ((if_neg c20_0).trans ((if_neg c20_1).trans (if_pos c20_2))))).symm) rfl dX4_ofDrive_106
        · by_cases c20_3 : y = 3
          · refine j_tableIn (tgt := 107) C dX4_ofDrive_20 (by rw [c20_3] <;> decide) (by rw [c20_3] <;> decide) (by rw [c20_3] <;> rfl) (by decide) ?_
            refine j_aload_n C dX4_ofDrive_107 0 rfl ?_
            refine j_get C kin0 rfl 0 rfl 3 (by decide) kw_40 rfl (v := .int ((xp.2.2.1 k.toNatClampNeg).1 3)) rfl dX4_ofDrive_108 ?_
            refine j_perm (fl [[oD (AP (3 + 2 * k.toNatClampNeg)) (AP (4 + 2 * k.toNatClampNeg)) (xp.2.2.1 k.toNatClampNeg)], [aB G (AP (4 + 2 * k.toNatClampNeg)) (xp.2.2.2 k.toNatClampNeg)], cRs G AP xp.2.2.1 xp.2.2.2 k.toNatClampNeg, [oS (AP 0) (AP 1) (AP 2) xp.1], [aI G (AP 1) 7 xp.2.1], [aD G (AP 2) 4 (fun k => some (AP (3 + 2 * k)))], [oX a (AP 0) hi sl su pa (AT 0) (AU 0)]]) (bperm [0, 1, 6, 2, 3, 4, 5] 7 rfl (by decide +kernel) rfl) ?_
            refine j_perm (fl [cDrs G AP xp.2.2.1 xp.2.2.2, [oS (AP 0) (AP 1) (AP 2) xp.1], [aI G (AP 1) 7 xp.2.1], [aD G (AP 2) 4 (fun k => some (AP (3 + 2 * k)))], [oX a (AP 0) hi sl su pa (AT 0) (AU 0)]]) (shut_at (bs := [[oD (AP (3 + 2 * k.toNatClampNeg)) (AP (4 + 2 * k.toNatClampNeg)) (xp.2.2.1 k.toNatClampNeg)], [aB G (AP (4 + 2 * k.toNatClampNeg)) (xp.2.2.2 k.toNatClampNeg)], cRs G AP xp.2.2.1 xp.2.2.2 k.toNatClampNeg]) (openDrs G AP xp.2.2.1 xp.2.2.2 k.toNatClampNeg (vin_nat (lt_drive c4))).symm) ?_
            refine j_perm (fl [[oS (AP 0) (AP 1) (AP 2) xp.1], [aI G (AP 1) 7 xp.2.1], [aD G (AP 2) 4 (fun k => some (AP (3 + 2 * k)))], cDrs G AP xp.2.2.1 xp.2.2.2, [oX a (AP 0) hi sl su pa (AT 0) (AU 0)]]) (bperm [1, 2, 3, 0, 4] 5 rfl (by decide +kernel) rfl) ?_
            refine j_w (fl [cSt G AP xp, [oX a (AP 0) hi sl su pa (AT 0) (AU 0)]]) rfl ?_
            refine j_perm (fl [[oX a (AP 0) hi sl su pa (AT 0) (AU 0)], cSt G AP xp]) (bperm [1, 0] 2 rfl (by decide +kernel) rfl) ?_
            subst hQ; exact j_iret C hr hk ((show f_X4_ofDrive_r xp k y = (xp.2.2.1 k.toNatClampNeg).1 3 from ((if_neg c4).trans ((if_neg c20_0).trans ((if_neg c20_1).trans ((if_neg c20_2).trans (if_pos c20_3)))))).symm) rfl dX4_ofDrive_111
          · by_cases c20_4 : y = 4
            · refine j_tableIn (tgt := 112) C dX4_ofDrive_20 (by rw [c20_4] <;> decide) (by rw [c20_4] <;> decide) (by rw [c20_4] <;> rfl) (by decide) ?_
              refine j_aload_n C dX4_ofDrive_112 0 rfl ?_
              refine j_aload_n C dX4_ofDrive_113 1 rfl ?_
              refine j_get C kin4 rfl 5 rfl 0 (by decide) kw_126 rfl (v := .ref (AP 0)) rfl dX4_ofDrive_114 ?_
              refine j_callV_i (r := f_X3_hourOfNow_r xp.1) (wc' := [oS (AP 0) (AP 1) (AP 2) xp.1]) C (m_X3_hourOfNow l G (AP 0) (AP 1) (AP 2) xp.1) rfl 0 rfl 0 (gV kw_242 kw_173 kw_174 kw_2 kw_175) (by decide +kernel) ⟨(Nat.le_of_ble_eq_true rfl), (Nat.le_of_ble_eq_true rfl)⟩ rfl rfl (Nat.le_of_ble_eq_true rfl) dX4_ofDrive_117 ⟨(Nat.le_of_ble_eq_true rfl), (Nat.le_of_ble_eq_true rfl)⟩ (fl [[oD (AP (3 + 2 * k.toNatClampNeg)) (AP (4 + 2 * k.toNatClampNeg)) (xp.2.2.1 k.toNatClampNeg)], [aB G (AP (4 + 2 * k.toNatClampNeg)) (xp.2.2.2 k.toNatClampNeg)], [aI G (AP 1) 7 xp.2.1], [aD G (AP 2) 4 (fun k => some (AP (3 + 2 * k)))], [oX a (AP 0) hi sl su pa (AT 0) (AU 0)], cRs G AP xp.2.2.1 xp.2.2.2 k.toNatClampNeg]) (fl [[oS (AP 0) (AP 1) (AP 2) xp.1], [oD (AP (3 + 2 * k.toNatClampNeg)) (AP (4 + 2 * k.toNatClampNeg)) (xp.2.2.1 k.toNatClampNeg)], [aB G (AP (4 + 2 * k.toNatClampNeg)) (xp.2.2.2 k.toNatClampNeg)], [aI G (AP 1) 7 xp.2.1], [aD G (AP 2) 4 (fun k => some (AP (3 + 2 * k)))], [oX a (AP 0) hi sl su pa (AT 0) (AU 0)], cRs G AP xp.2.2.1 xp.2.2.2 k.toNatClampNeg]) (bperm (bs' := [[oS (AP 0) (AP 1) (AP 2) xp.1], [oD (AP (3 + 2 * k.toNatClampNeg)) (AP (4 + 2 * k.toNatClampNeg)) (xp.2.2.1 k.toNatClampNeg)], [aB G (AP (4 + 2 * k.toNatClampNeg)) (xp.2.2.2 k.toNatClampNeg)], [aI G (AP 1) 7 xp.2.1], [aD G (AP 2) 4 (fun k => some (AP (3 + 2 * k)))], [oX a (AP 0) hi sl su pa (AT 0) (AU 0)], cRs G AP xp.2.2.1 xp.2.2.2 k.toNatClampNeg]) [2, 0, 1, 3, 4, 5, 6] 7 rfl (by decide +kernel) rfl) rfl ?_
              refine j_callV_i (r := f_X0_isQuietIn_r (xp.2.2.1 k.toNatClampNeg) (xp.2.2.2 k.toNatClampNeg) (f_X3_hourOfNow_r xp.1)) (wc' := [oD (AP (3 + 2 * k.toNatClampNeg)) (AP (4 + 2 * k.toNatClampNeg)) (xp.2.2.1 k.toNatClampNeg), aB G (AP (4 + 2 * k.toNatClampNeg)) (xp.2.2.2 k.toNatClampNeg)]) C (m_X0_isQuietIn l G (AP (3 + 2 * k.toNatClampNeg)) (AP (4 + 2 * k.toNatClampNeg)) (xp.2.2.1 k.toNatClampNeg) (xp.2.2.2 k.toNatClampNeg) (f_X3_hourOfNow_r xp.1)) rfl 0 rfl 1 (gV kw_243 kw_177 kw_178 kw_4 kw_179) (by decide +kernel) ⟨(Nat.le_of_ble_eq_true rfl), (Nat.le_of_ble_eq_true rfl)⟩ rfl rfl (Nat.le_of_ble_eq_true rfl) dX4_ofDrive_120 ⟨(Nat.le_of_ble_eq_true rfl), (Nat.le_of_ble_eq_true rfl)⟩ (fl [[oS (AP 0) (AP 1) (AP 2) xp.1], [aI G (AP 1) 7 xp.2.1], [aD G (AP 2) 4 (fun k => some (AP (3 + 2 * k)))], [oX a (AP 0) hi sl su pa (AT 0) (AU 0)], cRs G AP xp.2.2.1 xp.2.2.2 k.toNatClampNeg]) (fl [[oD (AP (3 + 2 * k.toNatClampNeg)) (AP (4 + 2 * k.toNatClampNeg)) (xp.2.2.1 k.toNatClampNeg)], [aB G (AP (4 + 2 * k.toNatClampNeg)) (xp.2.2.2 k.toNatClampNeg)], [oS (AP 0) (AP 1) (AP 2) xp.1], [aI G (AP 1) 7 xp.2.1], [aD G (AP 2) 4 (fun k => some (AP (3 + 2 * k)))], [oX a (AP 0) hi sl su pa (AT 0) (AU 0)], cRs G AP xp.2.2.1 xp.2.2.2 k.toNatClampNeg]) (bperm (bs' := [[oD (AP (3 + 2 * k.toNatClampNeg)) (AP (4 + 2 * k.toNatClampNeg)) (xp.2.2.1 k.toNatClampNeg)], [aB G (AP (4 + 2 * k.toNatClampNeg)) (xp.2.2.2 k.toNatClampNeg)], [oS (AP 0) (AP 1) (AP 2) xp.1], [aI G (AP 1) 7 xp.2.1], [aD G (AP 2) 4 (fun k => some (AP (3 + 2 * k)))], [oX a (AP 0) hi sl su pa (AT 0) (AU 0)], cRs G AP xp.2.2.1 xp.2.2.2 k.toNatClampNeg]) [1, 2, 0, 3, 4, 5, 6] 7 rfl (by decide +kernel) rfl) rfl ?_
              generalize hzw0 : f_X0_isQuietIn_r (xp.2.2.1 k.toNatClampNeg) (xp.2.2.2 k.toNatClampNeg) (f_X3_hourOfNow_r xp.1) = w0
              have hw0 : f_X4_ofDrive_rq3 xp k y = w0 := by subst hzw0; rfl
              have K131 : WJ p l e (RM 4) s m args below meth c G A 4 0 0 Q (fl [[oX a (AP 0) hi sl su pa (AT 0) (AU 0)], cSt G AP xp]) [(3, .ref (AP (3 + 2 * k.toNatClampNeg))), (0, .ref a), (1, .int k), (2, .int y)] 131 [.int (f_X4_ofDrive_x4 xp k y)] := by
                generalize hw1 : f_X4_ofDrive_x4 xp k y = w1
                subst hQ; subst hw0 hw1; exact j_iret C hr hk ((show f_X4_ofDrive_r xp k y = (f_X4_ofDrive_x4 xp k y) from ((if_neg c4).trans ((if_neg c20_0).trans ((if_neg c20_1).trans ((if_neg c20_2).trans ((if_neg c20_3).trans (if_pos c20_4))))))).symm) rfl dX4_ofDrive_131
              refine j_if_eq (tgt := 130) C dX4_ofDrive_123 (by decide) (fun c123 => ?_) (fun c123 => ?_)
              · refine j_iconst (v := 0) C dX4_ofDrive_130 (by decide) ?_
                refine j_perm (fl [[oD (AP (3 + 2 * k.toNatClampNeg)) (AP (4 + 2 * k.toNatClampNeg)) (xp.2.2.1 k.toNatClampNeg)], [aB G (AP (4 + 2 * k.toNatClampNeg)) (xp.2.2.2 k.toNatClampNeg)], cRs G AP xp.2.2.1 xp.2.2.2 k.toNatClampNeg, [oS (AP 0) (AP 1) (AP 2) xp.1], [aI G (AP 1) 7 xp.2.1], [aD G (AP 2) 4 (fun k => some (AP (3 + 2 * k)))], [oX a (AP 0) hi sl su pa (AT 0) (AU 0)]]) (bperm [0, 1, 6, 2, 3, 4, 5] 7 rfl (by decide +kernel) rfl) ?_
                refine j_perm (fl [cDrs G AP xp.2.2.1 xp.2.2.2, [oS (AP 0) (AP 1) (AP 2) xp.1], [aI G (AP 1) 7 xp.2.1], [aD G (AP 2) 4 (fun k => some (AP (3 + 2 * k)))], [oX a (AP 0) hi sl su pa (AT 0) (AU 0)]]) (shut_at (bs := [[oD (AP (3 + 2 * k.toNatClampNeg)) (AP (4 + 2 * k.toNatClampNeg)) (xp.2.2.1 k.toNatClampNeg)], [aB G (AP (4 + 2 * k.toNatClampNeg)) (xp.2.2.2 k.toNatClampNeg)], cRs G AP xp.2.2.1 xp.2.2.2 k.toNatClampNeg]) (openDrs G AP xp.2.2.1 xp.2.2.2 k.toNatClampNeg (vin_nat (lt_drive c4))).symm) ?_
                refine j_perm (fl [[oS (AP 0) (AP 1) (AP 2) xp.1], [aI G (AP 1) 7 xp.2.1], [aD G (AP 2) 4 (fun k => some (AP (3 + 2 * k)))], cDrs G AP xp.2.2.1 xp.2.2.2, [oX a (AP 0) hi sl su pa (AT 0) (AU 0)]]) (bperm [1, 2, 3, 0, 4] 5 rfl (by decide +kernel) rfl) ?_
                refine j_w (fl [cSt G AP xp, [oX a (AP 0) hi sl su pa (AT 0) (AU 0)]]) rfl ?_
                refine j_perm (fl [[oX a (AP 0) hi sl su pa (AT 0) (AU 0)], cSt G AP xp]) (bperm [1, 0] 2 rfl (by decide +kernel) rfl) ?_
                subst hw0; exact j_eq rfl rfl (by rw [show f_X4_ofDrive_x4 xp k y = 0 from (if_pos c123)]) K131
              · refine j_iconst (v := 1) C dX4_ofDrive_126 (by decide) ?_
                refine j_goto (tgt := 131) C dX4_ofDrive_127 (by decide) ?_
                refine j_perm (fl [[oD (AP (3 + 2 * k.toNatClampNeg)) (AP (4 + 2 * k.toNatClampNeg)) (xp.2.2.1 k.toNatClampNeg)], [aB G (AP (4 + 2 * k.toNatClampNeg)) (xp.2.2.2 k.toNatClampNeg)], cRs G AP xp.2.2.1 xp.2.2.2 k.toNatClampNeg, [oS (AP 0) (AP 1) (AP 2) xp.1], [aI G (AP 1) 7 xp.2.1], [aD G (AP 2) 4 (fun k => some (AP (3 + 2 * k)))], [oX a (AP 0) hi sl su pa (AT 0) (AU 0)]]) (bperm [0, 1, 6, 2, 3, 4, 5] 7 rfl (by decide +kernel) rfl) ?_
                refine j_perm (fl [cDrs G AP xp.2.2.1 xp.2.2.2, [oS (AP 0) (AP 1) (AP 2) xp.1], [aI G (AP 1) 7 xp.2.1], [aD G (AP 2) 4 (fun k => some (AP (3 + 2 * k)))], [oX a (AP 0) hi sl su pa (AT 0) (AU 0)]]) (shut_at (bs := [[oD (AP (3 + 2 * k.toNatClampNeg)) (AP (4 + 2 * k.toNatClampNeg)) (xp.2.2.1 k.toNatClampNeg)], [aB G (AP (4 + 2 * k.toNatClampNeg)) (xp.2.2.2 k.toNatClampNeg)], cRs G AP xp.2.2.1 xp.2.2.2 k.toNatClampNeg]) (openDrs G AP xp.2.2.1 xp.2.2.2 k.toNatClampNeg (vin_nat (lt_drive c4))).symm) ?_
                refine j_perm (fl [[oS (AP 0) (AP 1) (AP 2) xp.1], [aI G (AP 1) 7 xp.2.1], [aD G (AP 2) 4 (fun k => some (AP (3 + 2 * k)))], cDrs G AP xp.2.2.1 xp.2.2.2, [oX a (AP 0) hi sl su pa (AT 0) (AU 0)]]) (bperm [1, 2, 3, 0, 4] 5 rfl (by decide +kernel) rfl) ?_
                refine j_w (fl [cSt G AP xp, [oX a (AP 0) hi sl su pa (AT 0) (AU 0)]]) rfl ?_
                refine j_perm (fl [[oX a (AP 0) hi sl su pa (AT 0) (AU 0)], cSt G AP xp]) (bperm [1, 0] 2 rfl (by decide +kernel) rfl) ?_
                subst hw0; exact j_eq rfl rfl (by rw [show f_X4_ofDrive_x4 xp k y = 1 from (if_neg c123)]) K131
            · by_cases c20_5 : y = 5
              · refine j_tableIn (tgt := 132) C dX4_ofDrive_20 (by rw [c20_5] <;> decide) (by rw [c20_5] <;> decide) (by rw [c20_5] <;> rfl) (by decide) ?_
                refine j_aload_n C dX4_ofDrive_132 0 rfl ?_
                refine j_get C kin0 rfl 0 rfl 4 (by decide) kw_42 rfl (v := .int (b01 ((xp.2.2.1 k.toNatClampNeg).1 4))) rfl dX4_ofDrive_133 ?_
                have K144 : WJ p l e (RM 4) s m args below meth c G A 4 0 0 Q (fl [[oX a (AP 0) hi sl su pa (AT 0) (AU 0)], cSt G AP xp]) [(3, .ref (AP (3 + 2 * k.toNatClampNeg))), (0, .ref a), (1, .int k), (2, .int y)] 144 [.int (f_X4_ofDrive_x5 xp k y)] := by
                  generalize hw2 : f_X4_ofDrive_x5 xp k y = w2
                  subst hQ; subst hw2; exact j_iret C hr hk ((show f_X4_ofDrive_r xp k y = (f_X4_ofDrive_x5 xp k y) from ((if_neg c4).trans ((if_neg c20_0).trans ((if_neg c20_1).trans ((if_neg c20_2).trans ((if_neg c20_3).trans ((if_neg c20_4).trans (if_pos c20_5)))))))).symm) rfl dX4_ofDrive_144
                refine j_if_eq (tgt := 143) C dX4_ofDrive_136 (by decide) (fun c136 => ?_) (fun c136 => ?_)
                · refine j_iconst (v := 0) C dX4_ofDrive_143 (by decide) ?_
                  refine j_perm (fl [[oD (AP (3 + 2 * k.toNatClampNeg)) (AP (4 + 2 * k.toNatClampNeg)) (xp.2.2.1 k.toNatClampNeg)], [aB G (AP (4 + 2 * k.toNatClampNeg)) (xp.2.2.2 k.toNatClampNeg)], cRs G AP xp.2.2.1 xp.2.2.2 k.toNatClampNeg, [oS (AP 0) (AP 1) (AP 2) xp.1], [aI G (AP 1) 7 xp.2.1], [aD G (AP 2) 4 (fun k => some (AP (3 + 2 * k)))], [oX a (AP 0) hi sl su pa (AT 0) (AU 0)]]) (bperm [0, 1, 6, 2, 3, 4, 5] 7 rfl (by decide +kernel) rfl) ?_
                  refine j_perm (fl [cDrs G AP xp.2.2.1 xp.2.2.2, [oS (AP 0) (AP 1) (AP 2) xp.1], [aI G (AP 1) 7 xp.2.1], [aD G (AP 2) 4 (fun k => some (AP (3 + 2 * k)))], [oX a (AP 0) hi sl su pa (AT 0) (AU 0)]]) (shut_at (bs := [[oD (AP (3 + 2 * k.toNatClampNeg)) (AP (4 + 2 * k.toNatClampNeg)) (xp.2.2.1 k.toNatClampNeg)], [aB G (AP (4 + 2 * k.toNatClampNeg)) (xp.2.2.2 k.toNatClampNeg)], cRs G AP xp.2.2.1 xp.2.2.2 k.toNatClampNeg]) (openDrs G AP xp.2.2.1 xp.2.2.2 k.toNatClampNeg (vin_nat (lt_drive c4))).symm) ?_
                  refine j_perm (fl [[oS (AP 0) (AP 1) (AP 2) xp.1], [aI G (AP 1) 7 xp.2.1], [aD G (AP 2) 4 (fun k => some (AP (3 + 2 * k)))], cDrs G AP xp.2.2.1 xp.2.2.2, [oX a (AP 0) hi sl su pa (AT 0) (AU 0)]]) (bperm [1, 2, 3, 0, 4] 5 rfl (by decide +kernel) rfl) ?_
                  refine j_w (fl [cSt G AP xp, [oX a (AP 0) hi sl su pa (AT 0) (AU 0)]]) rfl ?_
                  refine j_perm (fl [[oX a (AP 0) hi sl su pa (AT 0) (AU 0)], cSt G AP xp]) (bperm [1, 0] 2 rfl (by decide +kernel) rfl) ?_
                  exact j_eq rfl rfl (by rw [show f_X4_ofDrive_x5 xp k y = 0 from (if_pos c136)]) K144
                · refine j_iconst (v := 1) C dX4_ofDrive_139 (by decide) ?_
                  refine j_goto (tgt := 144) C dX4_ofDrive_140 (by decide) ?_
                  refine j_perm (fl [[oD (AP (3 + 2 * k.toNatClampNeg)) (AP (4 + 2 * k.toNatClampNeg)) (xp.2.2.1 k.toNatClampNeg)], [aB G (AP (4 + 2 * k.toNatClampNeg)) (xp.2.2.2 k.toNatClampNeg)], cRs G AP xp.2.2.1 xp.2.2.2 k.toNatClampNeg, [oS (AP 0) (AP 1) (AP 2) xp.1], [aI G (AP 1) 7 xp.2.1], [aD G (AP 2) 4 (fun k => some (AP (3 + 2 * k)))], [oX a (AP 0) hi sl su pa (AT 0) (AU 0)]]) (bperm [0, 1, 6, 2, 3, 4, 5] 7 rfl (by decide +kernel) rfl) ?_
                  refine j_perm (fl [cDrs G AP xp.2.2.1 xp.2.2.2, [oS (AP 0) (AP 1) (AP 2) xp.1], [aI G (AP 1) 7 xp.2.1], [aD G (AP 2) 4 (fun k => some (AP (3 + 2 * k)))], [oX a (AP 0) hi sl su pa (AT 0) (AU 0)]]) (shut_at (bs := [[oD (AP (3 + 2 * k.toNatClampNeg)) (AP (4 + 2 * k.toNatClampNeg)) (xp.2.2.1 k.toNatClampNeg)], [aB G (AP (4 + 2 * k.toNatClampNeg)) (xp.2.2.2 k.toNatClampNeg)], cRs G AP xp.2.2.1 xp.2.2.2 k.toNatClampNeg]) (openDrs G AP xp.2.2.1 xp.2.2.2 k.toNatClampNeg (vin_nat (lt_drive c4))).symm) ?_
                  refine j_perm (fl [[oS (AP 0) (AP 1) (AP 2) xp.1], [aI G (AP 1) 7 xp.2.1], [aD G (AP 2) 4 (fun k => some (AP (3 + 2 * k)))], cDrs G AP xp.2.2.1 xp.2.2.2, [oX a (AP 0) hi sl su pa (AT 0) (AU 0)]]) (bperm [1, 2, 3, 0, 4] 5 rfl (by decide +kernel) rfl) ?_
                  refine j_w (fl [cSt G AP xp, [oX a (AP 0) hi sl su pa (AT 0) (AU 0)]]) rfl ?_
                  refine j_perm (fl [[oX a (AP 0) hi sl su pa (AT 0) (AU 0)], cSt G AP xp]) (bperm [1, 0] 2 rfl (by decide +kernel) rfl) ?_
                  exact j_eq rfl rfl (by rw [show f_X4_ofDrive_x5 xp k y = 1 from (if_neg c136)]) K144
              · by_cases c20_6 : y = 6
                · refine j_tableIn (tgt := 145) C dX4_ofDrive_20 (by rw [c20_6] <;> decide) (by rw [c20_6] <;> decide) (by rw [c20_6] <;> rfl) (by decide) ?_
                  refine j_aload_n C dX4_ofDrive_145 0 rfl ?_
                  refine j_get C kin0 rfl 0 rfl 5 (by decide) kw_45 rfl (v := .int ((xp.2.2.1 k.toNatClampNeg).1 5)) rfl dX4_ofDrive_146 ?_
                  refine j_perm (fl [[oD (AP (3 + 2 * k.toNatClampNeg)) (AP (4 + 2 * k.toNatClampNeg)) (xp.2.2.1 k.toNatClampNeg)], [aB G (AP (4 + 2 * k.toNatClampNeg)) (xp.2.2.2 k.toNatClampNeg)], cRs G AP xp.2.2.1 xp.2.2.2 k.toNatClampNeg, [oS (AP 0) (AP 1) (AP 2) xp.1], [aI G (AP 1) 7 xp.2.1], [aD G (AP 2) 4 (fun k => some (AP (3 + 2 * k)))], [oX a (AP 0) hi sl su pa (AT 0) (AU 0)]]) (bperm [0, 1, 6, 2, 3, 4, 5] 7 rfl (by decide +kernel) rfl) ?_
                  refine j_perm (fl [cDrs G AP xp.2.2.1 xp.2.2.2, [oS (AP 0) (AP 1) (AP 2) xp.1], [aI G (AP 1) 7 xp.2.1], [aD G (AP 2) 4 (fun k => some (AP (3 + 2 * k)))], [oX a (AP 0) hi sl su pa (AT 0) (AU 0)]]) (shut_at (bs := [[oD (AP (3 + 2 * k.toNatClampNeg)) (AP (4 + 2 * k.toNatClampNeg)) (xp.2.2.1 k.toNatClampNeg)], [aB G (AP (4 + 2 * k.toNatClampNeg)) (xp.2.2.2 k.toNatClampNeg)], cRs G AP xp.2.2.1 xp.2.2.2 k.toNatClampNeg]) (openDrs G AP xp.2.2.1 xp.2.2.2 k.toNatClampNeg (vin_nat (lt_drive c4))).symm) ?_
                  refine j_perm (fl [[oS (AP 0) (AP 1) (AP 2) xp.1], [aI G (AP 1) 7 xp.2.1], [aD G (AP 2) 4 (fun k => some (AP (3 + 2 * k)))], cDrs G AP xp.2.2.1 xp.2.2.2, [oX a (AP 0) hi sl su pa (AT 0) (AU 0)]]) (bperm [1, 2, 3, 0, 4] 5 rfl (by decide +kernel) rfl) ?_
                  refine j_w (fl [cSt G AP xp, [oX a (AP 0) hi sl su pa (AT 0) (AU 0)]]) rfl ?_
                  refine j_perm (fl [[oX a (AP 0) hi sl su pa (AT 0) (AU 0)], cSt G AP xp]) (bperm [1, 0] 2 rfl (by decide +kernel) rfl) ?_
                  subst hQ; exact j_iret C hr hk ((show f_X4_ofDrive_r xp k y = (xp.2.2.1 k.toNatClampNeg).1 5 from ((if_neg c4).trans ((if_neg c20_0).trans ((if_neg c20_1).trans ((if_neg c20_2).trans ((if_neg c20_3).trans ((if_neg c20_4).trans ((if_neg c20_5).trans (if_pos c20_6))))))))).symm) rfl dX4_ofDrive_149
                · by_cases c20_7 : y = 7
                  · refine j_tableIn (tgt := 150) C dX4_ofDrive_20 (by rw [c20_7] <;> decide) (by rw [c20_7] <;> decide) (by rw [c20_7] <;> rfl) (by decide) ?_
                    refine j_aload_n C dX4_ofDrive_150 0 rfl ?_
                    refine j_get C kin0 rfl 0 rfl 6 (by decide) kw_47 rfl (v := .int ((xp.2.2.1 k.toNatClampNeg).1 6)) rfl dX4_ofDrive_151 ?_
                    refine j_perm (fl [[oD (AP (3 + 2 * k.toNatClampNeg)) (AP (4 + 2 * k.toNatClampNeg)) (xp.2.2.1 k.toNatClampNeg)], [aB G (AP (4 + 2 * k.toNatClampNeg)) (xp.2.2.2 k.toNatClampNeg)], cRs G AP xp.2.2.1 xp.2.2.2 k.toNatClampNeg, [oS (AP 0) (AP 1) (AP 2) xp.1], [aI G (AP 1) 7 xp.2.1], [aD G (AP 2) 4 (fun k => some (AP (3 + 2 * k)))], [oX a (AP 0) hi sl su pa (AT 0) (AU 0)]]) (bperm [0, 1, 6, 2, 3, 4, 5] 7 rfl (by decide +kernel) rfl) ?_
                    refine j_perm (fl [cDrs G AP xp.2.2.1 xp.2.2.2, [oS (AP 0) (AP 1) (AP 2) xp.1], [aI G (AP 1) 7 xp.2.1], [aD G (AP 2) 4 (fun k => some (AP (3 + 2 * k)))], [oX a (AP 0) hi sl su pa (AT 0) (AU 0)]]) (shut_at (bs := [[oD (AP (3 + 2 * k.toNatClampNeg)) (AP (4 + 2 * k.toNatClampNeg)) (xp.2.2.1 k.toNatClampNeg)], [aB G (AP (4 + 2 * k.toNatClampNeg)) (xp.2.2.2 k.toNatClampNeg)], cRs G AP xp.2.2.1 xp.2.2.2 k.toNatClampNeg]) (openDrs G AP xp.2.2.1 xp.2.2.2 k.toNatClampNeg (vin_nat (lt_drive c4))).symm) ?_
                    refine j_perm (fl [[oS (AP 0) (AP 1) (AP 2) xp.1], [aI G (AP 1) 7 xp.2.1], [aD G (AP 2) 4 (fun k => some (AP (3 + 2 * k)))], cDrs G AP xp.2.2.1 xp.2.2.2, [oX a (AP 0) hi sl su pa (AT 0) (AU 0)]]) (bperm [1, 2, 3, 0, 4] 5 rfl (by decide +kernel) rfl) ?_
                    refine j_w (fl [cSt G AP xp, [oX a (AP 0) hi sl su pa (AT 0) (AU 0)]]) rfl ?_
                    refine j_perm (fl [[oX a (AP 0) hi sl su pa (AT 0) (AU 0)], cSt G AP xp]) (bperm [1, 0] 2 rfl (by decide +kernel) rfl) ?_
                    subst hQ; exact j_iret C hr hk ((show f_X4_ofDrive_r xp k y = (xp.2.2.1 k.toNatClampNeg).1 6 from ((if_neg c4).trans ((if_neg c20_0).trans ((if_neg c20_1).trans ((if_neg c20_2).trans ((if_neg c20_3).trans ((if_neg c20_4).trans ((if_neg c20_5).trans ((if_neg c20_6).trans (if_pos c20_7)))))))))).symm) rfl dX4_ofDrive_154
                  · by_cases c20_8 : y = 8
                    · refine j_tableIn (tgt := 155) C dX4_ofDrive_20 (by rw [c20_8] <;> decide) (by rw [c20_8] <;> decide) (by rw [c20_8] <;> rfl) (by decide) ?_
                      refine j_aload_n C dX4_ofDrive_155 0 rfl ?_
                      refine j_get C kin0 rfl 0 rfl 7 (by decide) kw_49 rfl (v := .int ((xp.2.2.1 k.toNatClampNeg).1 7)) rfl dX4_ofDrive_156 ?_
                      refine j_perm (fl [[oD (AP (3 + 2 * k.toNatClampNeg)) (AP (4 + 2 * k.toNatClampNeg)) (xp.2.2.1 k.toNatClampNeg)], [aB G (AP (4 + 2 * k.toNatClampNeg)) (xp.2.2.2 k.toNatClampNeg)], cRs G AP xp.2.2.1 xp.2.2.2 k.toNatClampNeg, [oS (AP 0) (AP 1) (AP 2) xp.1], [aI G (AP 1) 7 xp.2.1], [aD G (AP 2) 4 (fun k => some (AP (3 + 2 * k)))], [oX a (AP 0) hi sl su pa (AT 0) (AU 0)]]) (bperm [0, 1, 6, 2, 3, 4, 5] 7 rfl (by decide +kernel) rfl) ?_
                      refine j_perm (fl [cDrs G AP xp.2.2.1 xp.2.2.2, [oS (AP 0) (AP 1) (AP 2) xp.1], [aI G (AP 1) 7 xp.2.1], [aD G (AP 2) 4 (fun k => some (AP (3 + 2 * k)))], [oX a (AP 0) hi sl su pa (AT 0) (AU 0)]]) (shut_at (bs := [[oD (AP (3 + 2 * k.toNatClampNeg)) (AP (4 + 2 * k.toNatClampNeg)) (xp.2.2.1 k.toNatClampNeg)], [aB G (AP (4 + 2 * k.toNatClampNeg)) (xp.2.2.2 k.toNatClampNeg)], cRs G AP xp.2.2.1 xp.2.2.2 k.toNatClampNeg]) (openDrs G AP xp.2.2.1 xp.2.2.2 k.toNatClampNeg (vin_nat (lt_drive c4))).symm) ?_
                      refine j_perm (fl [[oS (AP 0) (AP 1) (AP 2) xp.1], [aI G (AP 1) 7 xp.2.1], [aD G (AP 2) 4 (fun k => some (AP (3 + 2 * k)))], cDrs G AP xp.2.2.1 xp.2.2.2, [oX a (AP 0) hi sl su pa (AT 0) (AU 0)]]) (bperm [1, 2, 3, 0, 4] 5 rfl (by decide +kernel) rfl) ?_
                      refine j_w (fl [cSt G AP xp, [oX a (AP 0) hi sl su pa (AT 0) (AU 0)]]) rfl ?_
                      refine j_perm (fl [[oX a (AP 0) hi sl su pa (AT 0) (AU 0)], cSt G AP xp]) (bperm [1, 0] 2 rfl (by decide +kernel) rfl) ?_
                      subst hQ; exact j_iret C hr hk ((show f_X4_ofDrive_r xp k y = (xp.2.2.1 k.toNatClampNeg).1 7 from ((if_neg c4).trans ((if_neg c20_0).trans ((if_neg c20_1).trans ((if_neg c20_2).trans ((if_neg c20_3).trans ((if_neg c20_4).trans ((if_neg c20_5).trans ((if_neg c20_6).trans ((if_neg c20_7).trans (if_pos c20_8))))))))))).symm) rfl dX4_ofDrive_159
                    · by_cases c20_9 : y = 9
                      · refine j_tableIn (tgt := 160) C dX4_ofDrive_20 (by rw [c20_9] <;> decide) (by rw [c20_9] <;> decide) (by rw [c20_9] <;> rfl) (by decide) ?_
                        refine j_aload_n C dX4_ofDrive_160 0 rfl ?_
                        refine j_callV_i (r := f_X0_soldHours_r (xp.2.2.1 k.toNatClampNeg) (xp.2.2.2 k.toNatClampNeg)) (wc' := [oD (AP (3 + 2 * k.toNatClampNeg)) (AP (4 + 2 * k.toNatClampNeg)) (xp.2.2.1 k.toNatClampNeg), aB G (AP (4 + 2 * k.toNatClampNeg)) (xp.2.2.2 k.toNatClampNeg)]) C (m_X0_soldHours l G (AP (3 + 2 * k.toNatClampNeg)) (AP (4 + 2 * k.toNatClampNeg)) (xp.2.2.1 k.toNatClampNeg) (xp.2.2.2 k.toNatClampNeg)) rfl 0 rfl 0 (gV kw_244 kw_245 kw_246 kw_4 kw_247) (by decide +kernel) ⟨(Nat.le_of_ble_eq_true rfl), (Nat.le_of_ble_eq_true rfl)⟩ rfl rfl (Nat.le_of_ble_eq_true rfl) dX4_ofDrive_161 ⟨(Nat.le_of_ble_eq_true rfl), (Nat.le_of_ble_eq_true rfl)⟩ (fl [[oS (AP 0) (AP 1) (AP 2) xp.1], [aI G (AP 1) 7 xp.2.1], [aD G (AP 2) 4 (fun k => some (AP (3 + 2 * k)))], [oX a (AP 0) hi sl su pa (AT 0) (AU 0)], cRs G AP xp.2.2.1 xp.2.2.2 k.toNatClampNeg]) (fl [[oD (AP (3 + 2 * k.toNatClampNeg)) (AP (4 + 2 * k.toNatClampNeg)) (xp.2.2.1 k.toNatClampNeg)], [aB G (AP (4 + 2 * k.toNatClampNeg)) (xp.2.2.2 k.toNatClampNeg)], [oS (AP 0) (AP 1) (AP 2) xp.1], [aI G (AP 1) 7 xp.2.1], [aD G (AP 2) 4 (fun k => some (AP (3 + 2 * k)))], [oX a (AP 0) hi sl su pa (AT 0) (AU 0)], cRs G AP xp.2.2.1 xp.2.2.2 k.toNatClampNeg]) (bperm (bs' := [[oD (AP (3 + 2 * k.toNatClampNeg)) (AP (4 + 2 * k.toNatClampNeg)) (xp.2.2.1 k.toNatClampNeg)], [aB G (AP (4 + 2 * k.toNatClampNeg)) (xp.2.2.2 k.toNatClampNeg)], [oS (AP 0) (AP 1) (AP 2) xp.1], [aI G (AP 1) 7 xp.2.1], [aD G (AP 2) 4 (fun k => some (AP (3 + 2 * k)))], [oX a (AP 0) hi sl su pa (AT 0) (AU 0)], cRs G AP xp.2.2.1 xp.2.2.2 k.toNatClampNeg]) [0, 1, 2, 3, 4, 5, 6] 7 rfl (by decide +kernel) rfl) rfl ?_
                        generalize hzw3 : f_X0_soldHours_r (xp.2.2.1 k.toNatClampNeg) (xp.2.2.2 k.toNatClampNeg) = w3
                        have hw3 : f_X4_ofDrive_rq6 xp k y = w3 := by subst hzw3; rfl
                        refine j_perm (fl [[oD (AP (3 + 2 * k.toNatClampNeg)) (AP (4 + 2 * k.toNatClampNeg)) (xp.2.2.1 k.toNatClampNeg)], [aB G (AP (4 + 2 * k.toNatClampNeg)) (xp.2.2.2 k.toNatClampNeg)], cRs G AP xp.2.2.1 xp.2.2.2 k.toNatClampNeg, [oS (AP 0) (AP 1) (AP 2) xp.1], [aI G (AP 1) 7 xp.2.1], [aD G (AP 2) 4 (fun k => some (AP (3 + 2 * k)))], [oX a (AP 0) hi sl su pa (AT 0) (AU 0)]]) (bperm [0, 1, 6, 2, 3, 4, 5] 7 rfl (by decide +kernel) rfl) ?_
                        refine j_perm (fl [cDrs G AP xp.2.2.1 xp.2.2.2, [oS (AP 0) (AP 1) (AP 2) xp.1], [aI G (AP 1) 7 xp.2.1], [aD G (AP 2) 4 (fun k => some (AP (3 + 2 * k)))], [oX a (AP 0) hi sl su pa (AT 0) (AU 0)]]) (shut_at (bs := [[oD (AP (3 + 2 * k.toNatClampNeg)) (AP (4 + 2 * k.toNatClampNeg)) (xp.2.2.1 k.toNatClampNeg)], [aB G (AP (4 + 2 * k.toNatClampNeg)) (xp.2.2.2 k.toNatClampNeg)], cRs G AP xp.2.2.1 xp.2.2.2 k.toNatClampNeg]) (openDrs G AP xp.2.2.1 xp.2.2.2 k.toNatClampNeg (vin_nat (lt_drive c4))).symm) ?_
                        refine j_perm (fl [[oS (AP 0) (AP 1) (AP 2) xp.1], [aI G (AP 1) 7 xp.2.1], [aD G (AP 2) 4 (fun k => some (AP (3 + 2 * k)))], cDrs G AP xp.2.2.1 xp.2.2.2, [oX a (AP 0) hi sl su pa (AT 0) (AU 0)]]) (bperm [1, 2, 3, 0, 4] 5 rfl (by decide +kernel) rfl) ?_
                        refine j_w (fl [cSt G AP xp, [oX a (AP 0) hi sl su pa (AT 0) (AU 0)]]) rfl ?_
                        refine j_perm (fl [[oX a (AP 0) hi sl su pa (AT 0) (AU 0)], cSt G AP xp]) (bperm [1, 0] 2 rfl (by decide +kernel) rfl) ?_
                        subst hQ; subst hw3; exact j_iret C hr hk ((show f_X4_ofDrive_r xp k y = (f_X4_ofDrive_rq6 xp k y) from ((if_neg c4).trans ((if_neg c20_0).trans ((if_neg c20_1).trans ((if_neg c20_2).trans ((if_neg c20_3).trans ((if_neg c20_4).trans ((if_neg c20_5).trans ((if_neg c20_6).trans ((if_neg c20_7).trans ((if_neg c20_8).trans (if_pos c20_9)))))))))))).symm) rfl dX4_ofDrive_164
                      · by_cases c20_10 : y = 10
                        · refine j_tableIn (tgt := 165) C dX4_ofDrive_20 (by rw [c20_10] <;> decide) (by rw [c20_10] <;> decide) (by rw [c20_10] <;> rfl) (by decide) ?_
                          refine j_aload_n C dX4_ofDrive_165 0 rfl ?_
                          refine j_iconst (v := 2) C dX4_ofDrive_166 (by decide) ?_
                          refine j_callV_i (r := f_X0_hoursThatAre_r (xp.2.2.1 k.toNatClampNeg) (xp.2.2.2 k.toNatClampNeg) 2) (wc' := [oD (AP (3 + 2 * k.toNatClampNeg)) (AP (4 + 2 * k.toNatClampNeg)) (xp.2.2.1 k.toNatClampNeg), aB G (AP (4 + 2 * k.toNatClampNeg)) (xp.2.2.2 k.toNatClampNeg)]) C (m_X0_hoursThatAre l G (AP (3 + 2 * k.toNatClampNeg)) (AP (4 + 2 * k.toNatClampNeg)) (xp.2.2.1 k.toNatClampNeg) (xp.2.2.2 k.toNatClampNeg) 2) rfl 0 rfl 1 (gV kw_252 kw_249 kw_250 kw_4 kw_251) (by decide +kernel) ⟨(Nat.le_of_ble_eq_true rfl), (Nat.le_of_ble_eq_true rfl)⟩ rfl rfl (Nat.le_of_ble_eq_true rfl) dX4_ofDrive_167 ⟨(Nat.le_of_ble_eq_true rfl), (Nat.le_of_ble_eq_true rfl)⟩ (fl [[oS (AP 0) (AP 1) (AP 2) xp.1], [aI G (AP 1) 7 xp.2.1], [aD G (AP 2) 4 (fun k => some (AP (3 + 2 * k)))], [oX a (AP 0) hi sl su pa (AT 0) (AU 0)], cRs G AP xp.2.2.1 xp.2.2.2 k.toNatClampNeg]) (fl [[oD (AP (3 + 2 * k.toNatClampNeg)) (AP (4 + 2 * k.toNatClampNeg)) (xp.2.2.1 k.toNatClampNeg)], [aB G (AP (4 + 2 * k.toNatClampNeg)) (xp.2.2.2 k.toNatClampNeg)], [oS (AP 0) (AP 1) (AP 2) xp.1], [aI G (AP 1) 7 xp.2.1], [aD G (AP 2) 4 (fun k => some (AP (3 + 2 * k)))], [oX a (AP 0) hi sl su pa (AT 0) (AU 0)], cRs G AP xp.2.2.1 xp.2.2.2 k.toNatClampNeg]) (bperm (bs' := [[oD (AP (3 + 2 * k.toNatClampNeg)) (AP (4 + 2 * k.toNatClampNeg)) (xp.2.2.1 k.toNatClampNeg)], [aB G (AP (4 + 2 * k.toNatClampNeg)) (xp.2.2.2 k.toNatClampNeg)], [oS (AP 0) (AP 1) (AP 2) xp.1], [aI G (AP 1) 7 xp.2.1], [aD G (AP 2) 4 (fun k => some (AP (3 + 2 * k)))], [oX a (AP 0) hi sl su pa (AT 0) (AU 0)], cRs G AP xp.2.2.1 xp.2.2.2 k.toNatClampNeg]) [0, 1, 2, 3, 4, 5, 6] 7 rfl (by decide +kernel) rfl) rfl ?_
                          generalize hzw4 : f_X0_hoursThatAre_r (xp.2.2.1 k.toNatClampNeg) (xp.2.2.2 k.toNatClampNeg) 2 = w4
                          have hw4 : f_X4_ofDrive_rq7 xp k y = w4 := by subst hzw4; rfl
                          refine j_perm (fl [[oD (AP (3 + 2 * k.toNatClampNeg)) (AP (4 + 2 * k.toNatClampNeg)) (xp.2.2.1 k.toNatClampNeg)], [aB G (AP (4 + 2 * k.toNatClampNeg)) (xp.2.2.2 k.toNatClampNeg)], cRs G AP xp.2.2.1 xp.2.2.2 k.toNatClampNeg, [oS (AP 0) (AP 1) (AP 2) xp.1], [aI G (AP 1) 7 xp.2.1], [aD G (AP 2) 4 (fun k => some (AP (3 + 2 * k)))], [oX a (AP 0) hi sl su pa (AT 0) (AU 0)]]) (bperm [0, 1, 6, 2, 3, 4, 5] 7 rfl (by decide +kernel) rfl) ?_
                          refine j_perm (fl [cDrs G AP xp.2.2.1 xp.2.2.2, [oS (AP 0) (AP 1) (AP 2) xp.1], [aI G (AP 1) 7 xp.2.1], [aD G (AP 2) 4 (fun k => some (AP (3 + 2 * k)))], [oX a (AP 0) hi sl su pa (AT 0) (AU 0)]]) (shut_at (bs := [[oD (AP (3 + 2 * k.toNatClampNeg)) (AP (4 + 2 * k.toNatClampNeg)) (xp.2.2.1 k.toNatClampNeg)], [aB G (AP (4 + 2 * k.toNatClampNeg)) (xp.2.2.2 k.toNatClampNeg)], cRs G AP xp.2.2.1 xp.2.2.2 k.toNatClampNeg]) (openDrs G AP xp.2.2.1 xp.2.2.2 k.toNatClampNeg (vin_nat (lt_drive c4))).symm) ?_
                          refine j_perm (fl [[oS (AP 0) (AP 1) (AP 2) xp.1], [aI G (AP 1) 7 xp.2.1], [aD G (AP 2) 4 (fun k => some (AP (3 + 2 * k)))], cDrs G AP xp.2.2.1 xp.2.2.2, [oX a (AP 0) hi sl su pa (AT 0) (AU 0)]]) (bperm [1, 2, 3, 0, 4] 5 rfl (by decide +kernel) rfl) ?_
                          refine j_w (fl [cSt G AP xp, [oX a (AP 0) hi sl su pa (AT 0) (AU 0)]]) rfl ?_
                          refine j_perm (fl [[oX a (AP 0) hi sl su pa (AT 0) (AU 0)], cSt G AP xp]) (bperm [1, 0] 2 rfl (by decide +kernel) rfl) ?_
                          subst hQ; subst hw4; exact j_iret C hr hk ((show f_X4_ofDrive_r xp k y = (f_X4_ofDrive_rq7 xp k y) from ((if_neg c4).trans ((if_neg c20_0).trans ((if_neg c20_1).trans ((if_neg c20_2).trans ((if_neg c20_3).trans ((if_neg c20_4).trans ((if_neg c20_5).trans ((if_neg c20_6).trans ((if_neg c20_7).trans ((if_neg c20_8).trans ((if_neg c20_9).trans (if_pos c20_10))))))))))))).symm) rfl dX4_ofDrive_170
                        · by_cases c20_11 : y = 11
                          · refine j_tableIn (tgt := 171) C dX4_ofDrive_20 (by rw [c20_11] <;> decide) (by rw [c20_11] <;> decide) (by rw [c20_11] <;> rfl) (by decide) ?_
                            refine j_aload_n C dX4_ofDrive_171 0 rfl ?_
                            refine j_iconst (v := 3) C dX4_ofDrive_172 (by decide) ?_
                            refine j_callV_i (r := f_X0_hoursThatAre_r (xp.2.2.1 k.toNatClampNeg) (xp.2.2.2 k.toNatClampNeg) 3) (wc' := [oD (AP (3 + 2 * k.toNatClampNeg)) (AP (4 + 2 * k.toNatClampNeg)) (xp.2.2.1 k.toNatClampNeg), aB G (AP (4 + 2 * k.toNatClampNeg)) (xp.2.2.2 k.toNatClampNeg)]) C (m_X0_hoursThatAre l G (AP (3 + 2 * k.toNatClampNeg)) (AP (4 + 2 * k.toNatClampNeg)) (xp.2.2.1 k.toNatClampNeg) (xp.2.2.2 k.toNatClampNeg) 3) rfl 0 rfl 1 (gV kw_252 kw_249 kw_250 kw_4 kw_251) (by decide +kernel) ⟨(Nat.le_of_ble_eq_true rfl), (Nat.le_of_ble_eq_true rfl)⟩ rfl rfl (Nat.le_of_ble_eq_true rfl) dX4_ofDrive_173 ⟨(Nat.le_of_ble_eq_true rfl), (Nat.le_of_ble_eq_true rfl)⟩ (fl [[oS (AP 0) (AP 1) (AP 2) xp.1], [aI G (AP 1) 7 xp.2.1], [aD G (AP 2) 4 (fun k => some (AP (3 + 2 * k)))], [oX a (AP 0) hi sl su pa (AT 0) (AU 0)], cRs G AP xp.2.2.1 xp.2.2.2 k.toNatClampNeg]) (fl [[oD (AP (3 + 2 * k.toNatClampNeg)) (AP (4 + 2 * k.toNatClampNeg)) (xp.2.2.1 k.toNatClampNeg)], [aB G (AP (4 + 2 * k.toNatClampNeg)) (xp.2.2.2 k.toNatClampNeg)], [oS (AP 0) (AP 1) (AP 2) xp.1], [aI G (AP 1) 7 xp.2.1], [aD G (AP 2) 4 (fun k => some (AP (3 + 2 * k)))], [oX a (AP 0) hi sl su pa (AT 0) (AU 0)], cRs G AP xp.2.2.1 xp.2.2.2 k.toNatClampNeg]) (bperm (bs' := [[oD (AP (3 + 2 * k.toNatClampNeg)) (AP (4 + 2 * k.toNatClampNeg)) (xp.2.2.1 k.toNatClampNeg)], [aB G (AP (4 + 2 * k.toNatClampNeg)) (xp.2.2.2 k.toNatClampNeg)], [oS (AP 0) (AP 1) (AP 2) xp.1], [aI G (AP 1) 7 xp.2.1], [aD G (AP 2) 4 (fun k => some (AP (3 + 2 * k)))], [oX a (AP 0) hi sl su pa (AT 0) (AU 0)], cRs G AP xp.2.2.1 xp.2.2.2 k.toNatClampNeg]) [0, 1, 2, 3, 4, 5, 6] 7 rfl (by decide +kernel) rfl) rfl ?_
                            generalize hzw5 : f_X0_hoursThatAre_r (xp.2.2.1 k.toNatClampNeg) (xp.2.2.2 k.toNatClampNeg) 3 = w5
                            have hw5 : f_X4_ofDrive_rq8 xp k y = w5 := by subst hzw5; rfl
                            refine j_perm (fl [[oD (AP (3 + 2 * k.toNatClampNeg)) (AP (4 + 2 * k.toNatClampNeg)) (xp.2.2.1 k.toNatClampNeg)], [aB G (AP (4 + 2 * k.toNatClampNeg)) (xp.2.2.2 k.toNatClampNeg)], cRs G AP xp.2.2.1 xp.2.2.2 k.toNatClampNeg, [oS (AP 0) (AP 1) (AP 2) xp.1], [aI G (AP 1) 7 xp.2.1], [aD G (AP 2) 4 (fun k => some (AP (3 + 2 * k)))], [oX a (AP 0) hi sl su pa (AT 0) (AU 0)]]) (bperm [0, 1, 6, 2, 3, 4, 5] 7 rfl (by decide +kernel) rfl) ?_
                            refine j_perm (fl [cDrs G AP xp.2.2.1 xp.2.2.2, [oS (AP 0) (AP 1) (AP 2) xp.1], [aI G (AP 1) 7 xp.2.1], [aD G (AP 2) 4 (fun k => some (AP (3 + 2 * k)))], [oX a (AP 0) hi sl su pa (AT 0) (AU 0)]]) (shut_at (bs := [[oD (AP (3 + 2 * k.toNatClampNeg)) (AP (4 + 2 * k.toNatClampNeg)) (xp.2.2.1 k.toNatClampNeg)], [aB G (AP (4 + 2 * k.toNatClampNeg)) (xp.2.2.2 k.toNatClampNeg)], cRs G AP xp.2.2.1 xp.2.2.2 k.toNatClampNeg]) (openDrs G AP xp.2.2.1 xp.2.2.2 k.toNatClampNeg (vin_nat (lt_drive c4))).symm) ?_
                            refine j_perm (fl [[oS (AP 0) (AP 1) (AP 2) xp.1], [aI G (AP 1) 7 xp.2.1], [aD G (AP 2) 4 (fun k => some (AP (3 + 2 * k)))], cDrs G AP xp.2.2.1 xp.2.2.2, [oX a (AP 0) hi sl su pa (AT 0) (AU 0)]]) (bperm [1, 2, 3, 0, 4] 5 rfl (by decide +kernel) rfl) ?_
                            refine j_w (fl [cSt G AP xp, [oX a (AP 0) hi sl su pa (AT 0) (AU 0)]]) rfl ?_
                            refine j_perm (fl [[oX a (AP 0) hi sl su pa (AT 0) (AU 0)], cSt G AP xp]) (bperm [1, 0] 2 rfl (by decide +kernel) rfl) ?_
                            subst hQ; subst hw5; exact j_iret C hr hk ((show f_X4_ofDrive_r xp k y = (f_X4_ofDrive_rq8 xp k y) from ((if_neg c4).trans ((if_neg c20_0).trans ((if_neg c20_1).trans ((if_neg c20_2).trans ((if_neg c20_3).trans ((if_neg c20_4).trans ((if_neg c20_5).trans ((if_neg c20_6).trans ((if_neg c20_7).trans ((if_neg c20_8).trans ((if_neg c20_9).trans ((if_neg c20_10).trans (if_pos c20_11)))))))))))))).symm) rfl dX4_ofDrive_176
                          · by_cases c20_12 : y = 12
                            · refine j_tableIn (tgt := 177) C dX4_ofDrive_20 (by rw [c20_12] <;> decide) (by rw [c20_12] <;> decide) (by rw [c20_12] <;> rfl) (by decide) ?_
                              refine j_aload_n C dX4_ofDrive_177 0 rfl ?_
                              refine j_get C kin0 rfl 0 rfl 8 (by decide) kw_53 rfl (v := .int ((xp.2.2.1 k.toNatClampNeg).1 8)) rfl dX4_ofDrive_178 ?_
                              refine j_perm (fl [[oD (AP (3 + 2 * k.toNatClampNeg)) (AP (4 + 2 * k.toNatClampNeg)) (xp.2.2.1 k.toNatClampNeg)], [aB G (AP (4 + 2 * k.toNatClampNeg)) (xp.2.2.2 k.toNatClampNeg)], cRs G AP xp.2.2.1 xp.2.2.2 k.toNatClampNeg, [oS (AP 0) (AP 1) (AP 2) xp.1], [aI G (AP 1) 7 xp.2.1], [aD G (AP 2) 4 (fun k => some (AP (3 + 2 * k)))], [oX a (AP 0) hi sl su pa (AT 0) (AU 0)]]) (bperm [0, 1, 6, 2, 3, 4, 5] 7 rfl (by decide +kernel) rfl) ?_
                              refine j_perm (fl [cDrs G AP xp.2.2.1 xp.2.2.2, [oS (AP 0) (AP 1) (AP 2) xp.1], [aI G (AP 1) 7 xp.2.1], [aD G (AP 2) 4 (fun k => some (AP (3 + 2 * k)))], [oX a (AP 0) hi sl su pa (AT 0) (AU 0)]]) (shut_at (bs := [[oD (AP (3 + 2 * k.toNatClampNeg)) (AP (4 + 2 * k.toNatClampNeg)) (xp.2.2.1 k.toNatClampNeg)], [aB G (AP (4 + 2 * k.toNatClampNeg)) (xp.2.2.2 k.toNatClampNeg)], cRs G AP xp.2.2.1 xp.2.2.2 k.toNatClampNeg]) (openDrs G AP xp.2.2.1 xp.2.2.2 k.toNatClampNeg (vin_nat (lt_drive c4))).symm) ?_
                              refine j_perm (fl [[oS (AP 0) (AP 1) (AP 2) xp.1], [aI G (AP 1) 7 xp.2.1], [aD G (AP 2) 4 (fun k => some (AP (3 + 2 * k)))], cDrs G AP xp.2.2.1 xp.2.2.2, [oX a (AP 0) hi sl su pa (AT 0) (AU 0)]]) (bperm [1, 2, 3, 0, 4] 5 rfl (by decide +kernel) rfl) ?_
                              refine j_w (fl [cSt G AP xp, [oX a (AP 0) hi sl su pa (AT 0) (AU 0)]]) rfl ?_
                              refine j_perm (fl [[oX a (AP 0) hi sl su pa (AT 0) (AU 0)], cSt G AP xp]) (bperm [1, 0] 2 rfl (by decide +kernel) rfl) ?_
                              subst hQ; exact j_iret C hr hk ((show f_X4_ofDrive_r xp k y = (xp.2.2.1 k.toNatClampNeg).1 8 from ((if_neg c4).trans ((if_neg c20_0).trans ((if_neg c20_1).trans ((if_neg c20_2).trans ((if_neg c20_3).trans ((if_neg c20_4).trans ((if_neg c20_5).trans ((if_neg c20_6).trans ((if_neg c20_7).trans ((if_neg c20_8).trans ((if_neg c20_9).trans ((if_neg c20_10).trans ((if_neg c20_11).trans (if_pos c20_12))))))))))))))).symm) rfl dX4_ofDrive_181
                            · by_cases c20_13 : y = 13
                              · refine j_tableIn (tgt := 182) C dX4_ofDrive_20 (by rw [c20_13] <;> decide) (by rw [c20_13] <;> decide) (by rw [c20_13] <;> rfl) (by decide) ?_
                                refine j_aload_n C dX4_ofDrive_182 0 rfl ?_
                                refine j_get C kin0 rfl 0 rfl 9 (by decide) kw_56 rfl (v := .int ((xp.2.2.1 k.toNatClampNeg).1 9)) rfl dX4_ofDrive_183 ?_
                                refine j_perm (fl [[oD (AP (3 + 2 * k.toNatClampNeg)) (AP (4 + 2 * k.toNatClampNeg)) (xp.2.2.1 k.toNatClampNeg)], [aB G (AP (4 + 2 * k.toNatClampNeg)) (xp.2.2.2 k.toNatClampNeg)], cRs G AP xp.2.2.1 xp.2.2.2 k.toNatClampNeg, [oS (AP 0) (AP 1) (AP 2) xp.1], [aI G (AP 1) 7 xp.2.1], [aD G (AP 2) 4 (fun k => some (AP (3 + 2 * k)))], [oX a (AP 0) hi sl su pa (AT 0) (AU 0)]]) (bperm [0, 1, 6, 2, 3, 4, 5] 7 rfl (by decide +kernel) rfl) ?_
                                refine j_perm (fl [cDrs G AP xp.2.2.1 xp.2.2.2, [oS (AP 0) (AP 1) (AP 2) xp.1], [aI G (AP 1) 7 xp.2.1], [aD G (AP 2) 4 (fun k => some (AP (3 + 2 * k)))], [oX a (AP 0) hi sl su pa (AT 0) (AU 0)]]) (shut_at (bs := [[oD (AP (3 + 2 * k.toNatClampNeg)) (AP (4 + 2 * k.toNatClampNeg)) (xp.2.2.1 k.toNatClampNeg)], [aB G (AP (4 + 2 * k.toNatClampNeg)) (xp.2.2.2 k.toNatClampNeg)], cRs G AP xp.2.2.1 xp.2.2.2 k.toNatClampNeg]) (openDrs G AP xp.2.2.1 xp.2.2.2 k.toNatClampNeg (vin_nat (lt_drive c4))).symm) ?_
                                refine j_perm (fl [[oS (AP 0) (AP 1) (AP 2) xp.1], [aI G (AP 1) 7 xp.2.1], [aD G (AP 2) 4 (fun k => some (AP (3 + 2 * k)))], cDrs G AP xp.2.2.1 xp.2.2.2, [oX a (AP 0) hi sl su pa (AT 0) (AU 0)]]) (bperm [1, 2, 3, 0, 4] 5 rfl (by decide +kernel) rfl) ?_
                                refine j_w (fl [cSt G AP xp, [oX a (AP 0) hi sl su pa (AT 0) (AU 0)]]) rfl ?_
                                refine j_perm (fl [[oX a (AP 0) hi sl su pa (AT 0) (AU 0)], cSt G AP xp]) (bperm [1, 0] 2 rfl (by decide +kernel) rfl) ?_
                                subst hQ; exact j_iret C hr hk ((show f_X4_ofDrive_r xp k y = (xp.2.2.1 k.toNatClampNeg).1 9 from ((if_neg c4).trans ((if_neg c20_0).trans ((if_neg c20_1).trans ((if_neg c20_2).trans ((if_neg c20_3).trans ((if_neg c20_4).trans ((if_neg c20_5).trans ((if_neg c20_6).trans ((if_neg c20_7).trans ((if_neg c20_8).trans ((if_neg c20_9).trans ((if_neg c20_10).trans ((if_neg c20_11).trans ((if_neg c20_12).trans (if_pos c20_13)))))))))))))))).symm) rfl dX4_ofDrive_186
                              · have n20_0 : (y).toInt ≠ 0 := fun h => c20_0 (Int32.toInt_inj.mp h)
                                have n20_1 : (y).toInt ≠ 1 := fun h => c20_1 (Int32.toInt_inj.mp h)
                                have n20_2 : (y).toInt ≠ 2 := fun h => c20_2 (Int32.toInt_inj.mp h)
                                have n20_3 : (y).toInt ≠ 3 := fun h => c20_3 (Int32.toInt_inj.mp h)
                                have n20_4 : (y).toInt ≠ 4 := fun h => c20_4 (Int32.toInt_inj.mp h)
                                have n20_5 : (y).toInt ≠ 5 := fun h => c20_5 (Int32.toInt_inj.mp h)
                                have n20_6 : (y).toInt ≠ 6 := fun h => c20_6 (Int32.toInt_inj.mp h)
                                have n20_7 : (y).toInt ≠ 7 := fun h => c20_7 (Int32.toInt_inj.mp h)
                                have n20_8 : (y).toInt ≠ 8 := fun h => c20_8 (Int32.toInt_inj.mp h)
                                have n20_9 : (y).toInt ≠ 9 := fun h => c20_9 (Int32.toInt_inj.mp h)
                                have n20_10 : (y).toInt ≠ 10 := fun h => c20_10 (Int32.toInt_inj.mp h)
                                have n20_11 : (y).toInt ≠ 11 := fun h => c20_11 (Int32.toInt_inj.mp h)
                                have n20_12 : (y).toInt ≠ 12 := fun h => c20_12 (Int32.toInt_inj.mp h)
                                have n20_13 : (y).toInt ≠ 13 := fun h => c20_13 (Int32.toInt_inj.mp h)
                                refine j_tableOut (tgt := 187) C dX4_ofDrive_20 (by omega) (by decide) ?_
                                refine j_bipush (v := (-2)) C dX4_ofDrive_187 (by decide) ?_
                                refine j_perm (fl [[oD (AP (3 + 2 * k.toNatClampNeg)) (AP (4 + 2 * k.toNatClampNeg)) (xp.2.2.1 k.toNatClampNeg)], [aB G (AP (4 + 2 * k.toNatClampNeg)) (xp.2.2.2 k.toNatClampNeg)], cRs G AP xp.2.2.1 xp.2.2.2 k.toNatClampNeg, [oS (AP 0) (AP 1) (AP 2) xp.1], [aI G (AP 1) 7 xp.2.1], [aD G (AP 2) 4 (fun k => some (AP (3 + 2 * k)))], [oX a (AP 0) hi sl su pa (AT 0) (AU 0)]]) (bperm [0, 1, 6, 2, 3, 4, 5] 7 rfl (by decide +kernel) rfl) ?_
                                refine j_perm (fl [cDrs G AP xp.2.2.1 xp.2.2.2, [oS (AP 0) (AP 1) (AP 2) xp.1], [aI G (AP 1) 7 xp.2.1], [aD G (AP 2) 4 (fun k => some (AP (3 + 2 * k)))], [oX a (AP 0) hi sl su pa (AT 0) (AU 0)]]) (shut_at (bs := [[oD (AP (3 + 2 * k.toNatClampNeg)) (AP (4 + 2 * k.toNatClampNeg)) (xp.2.2.1 k.toNatClampNeg)], [aB G (AP (4 + 2 * k.toNatClampNeg)) (xp.2.2.2 k.toNatClampNeg)], cRs G AP xp.2.2.1 xp.2.2.2 k.toNatClampNeg]) (openDrs G AP xp.2.2.1 xp.2.2.2 k.toNatClampNeg (vin_nat (lt_drive c4))).symm) ?_
                                refine j_perm (fl [[oS (AP 0) (AP 1) (AP 2) xp.1], [aI G (AP 1) 7 xp.2.1], [aD G (AP 2) 4 (fun k => some (AP (3 + 2 * k)))], cDrs G AP xp.2.2.1 xp.2.2.2, [oX a (AP 0) hi sl su pa (AT 0) (AU 0)]]) (bperm [1, 2, 3, 0, 4] 5 rfl (by decide +kernel) rfl) ?_
                                refine j_w (fl [cSt G AP xp, [oX a (AP 0) hi sl su pa (AT 0) (AU 0)]]) rfl ?_
                                refine j_perm (fl [[oX a (AP 0) hi sl su pa (AT 0) (AU 0)], cSt G AP xp]) (bperm [1, 0] 2 rfl (by decide +kernel) rfl) ?_
                                subst hQ; exact j_iret C hr hk ((show f_X4_ofDrive_r xp k y = (-2) from ((if_neg c4).trans ((if_neg c20_0).trans ((if_neg c20_1).trans ((if_neg c20_2).trans ((if_neg c20_3).trans ((if_neg c20_4).trans ((if_neg c20_5).trans ((if_neg c20_6).trans ((if_neg c20_7).trans ((if_neg c20_8).trans ((if_neg c20_9).trans ((if_neg c20_10).trans ((if_neg c20_11).trans ((if_neg c20_12).trans (if_neg c20_13)))))))))))))))).symm) rfl dX4_ofDrive_189
  · refine j_iconst (v := (-1)) C dX4_ofDrive_7 (by decide) ?_
    subst hQ; exact j_iret C hr hk ((show f_X4_ofDrive_r xp k y = (-1) from (if_pos c4)).symm) rfl dX4_ofDrive_8
noncomputable def f_X4_hour_rq3 (xp : StV) (k : Int32) (y : Int32) : Int32 := f_X0_hourState_r (xp.2.2.1 k.toNatClampNeg) (xp.2.2.2 k.toNatClampNeg) y
noncomputable def f_X4_hour_x4 (xp : StV) (k : Int32) (y : Int32) : Int32 := (if f_X4_isHour_r y = 0 then (-2) else (f_X4_hour_rq3 xp k y))
noncomputable def f_X4_hour_r (xp : StV) (k : Int32) (y : Int32) : Int32 := (if f_X4_isDrive_r k = 0 then (-1) else (f_X4_hour_x4 xp k y))
set_option maxRecDepth 100000 in
set_option maxHeartbeats 4000000 in
theorem m_X4_hour (l : Launch) (G : GG) (a hi sl su pa : Nat) (AP AT AU : Nat → Nat) (xp : StV) (k : Int32) (y : Int32)  : CtI l yX4_hour cX4_hour 3 (some .int) (RM 4) G [.ref a, .int k, .int y] (fl [[oX a (AP 0) hi sl su pa (AT 0) (AU 0)], cSt G AP xp]) (f_X4_hour_r xp k y) (fl [[oX a (AP 0) hi sl su pa (AT 0) (AU 0)], cSt G AP xp]) := by
  refine ct_I RX4 [(0, .ref a), (1, .int k), (2, .int y)] rfl (by decide +kernel) (Nat.le_of_ble_eq_true rfl) rfl ?_
  intro p e s m args below meth c A C hr hk hnm
  generalize hQ : (MQ below (PostI G A (f_X4_hour_r xp k y) (fl [[oX a (AP 0) hi sl su pa (AT 0) (AU 0)], cSt G AP xp])) args s (RM 4).cells (RM 4).slots A) = Q
  refine j_iload_n C dX4_hour_0 1 rfl ?_
  refine j_pureS_i (r := f_X4_isDrive_r k) C (m_X4_isDrive l G k) 1 (gS kw_239 kw_240 kw_1 kw_241) (by decide +kernel) ⟨(Nat.le_of_ble_eq_true rfl), (Nat.le_of_ble_eq_true rfl)⟩ rfl rfl (Nat.le_of_ble_eq_true rfl) dX4_hour_1 ⟨(Nat.le_of_ble_eq_true rfl), (Nat.le_of_ble_eq_true rfl)⟩ ?_
  refine j_if_ne (tgt := 9) C dX4_hour_4 (by decide) (fun c4 => ?_) (fun c4 => ?_)
  · refine j_iload_n C dX4_hour_9 2 rfl ?_
    refine j_pureS_i (r := f_X4_isHour_r y) C (m_X4_isHour l G y) 1 (gS kw_272 kw_184 kw_1 kw_185) (by decide +kernel) ⟨(Nat.le_of_ble_eq_true rfl), (Nat.le_of_ble_eq_true rfl)⟩ rfl rfl (Nat.le_of_ble_eq_true rfl) dX4_hour_10 ⟨(Nat.le_of_ble_eq_true rfl), (Nat.le_of_ble_eq_true rfl)⟩ ?_
    have K34 : WJ p l e (RM 4) s m args below meth c G A 3 0 0 Q (fl [[oX a (AP 0) hi sl su pa (AT 0) (AU 0)], cSt G AP xp]) [(0, .ref a), (1, .int k), (2, .int y)] 34 [.int (f_X4_hour_x4 xp k y)] := by
      generalize hw1 : f_X4_hour_x4 xp k y = w1
      subst hQ; subst hw1; exact j_iret C hr hk ((show f_X4_hour_r xp k y = (f_X4_hour_x4 xp k y) from (if_neg c4)).symm) rfl dX4_hour_34
    refine j_if_eq (tgt := 32) C dX4_hour_13 (by decide) (fun c13 => ?_) (fun c13 => ?_)
    · refine j_bipush (v := (-2)) C dX4_hour_32 (by decide) ?_
      exact j_eq rfl rfl (by rw [show f_X4_hour_x4 xp k y = (-2) from (if_pos c13)]) K34
    · refine j_aload_n C dX4_hour_16 0 rfl ?_
      refine j_get C kin4 rfl 0 rfl 0 (by decide) kw_126 rfl (v := .ref (AP 0)) rfl dX4_hour_17 ?_
      refine j_perm (fl [cSt G AP xp, [oX a (AP 0) hi sl su pa (AT 0) (AU 0)]]) (bperm [1, 0] 2 rfl (by decide +kernel) rfl) ?_
      refine j_w (fl [[oS (AP 0) (AP 1) (AP 2) xp.1], [aI G (AP 1) 7 xp.2.1], [aD G (AP 2) 4 (fun k => some (AP (3 + 2 * k)))], cDrs G AP xp.2.2.1 xp.2.2.2, [oX a (AP 0) hi sl su pa (AT 0) (AU 0)]]) rfl ?_
      refine j_perm (fl [[oS (AP 0) (AP 1) (AP 2) xp.1], [aI G (AP 1) 7 xp.2.1], [aD G (AP 2) 4 (fun k => some (AP (3 + 2 * k)))], [oX a (AP 0) hi sl su pa (AT 0) (AU 0)], cDrs G AP xp.2.2.1 xp.2.2.2]) (bperm [0, 1, 2, 4, 3] 5 rfl (by decide +kernel) rfl) ?_
      refine j_get C kin3 rfl 0 rfl 1 (by decide) kw_77 rfl (v := .ref (AP 2)) rfl dX4_hour_20 ?_
      refine j_iload_n C dX4_hour_23 1 rfl ?_
      refine j_perm (fl [cDrs G AP xp.2.2.1 xp.2.2.2, [oS (AP 0) (AP 1) (AP 2) xp.1], [aI G (AP 1) 7 xp.2.1], [aD G (AP 2) 4 (fun k => some (AP (3 + 2 * k)))], [oX a (AP 0) hi sl su pa (AT 0) (AU 0)]]) (bperm [4, 0, 1, 2, 3] 5 rfl (by decide +kernel) rfl) ?_
      refine j_perm (fl [[oD (AP (3 + 2 * k.toNatClampNeg)) (AP (4 + 2 * k.toNatClampNeg)) (xp.2.2.1 k.toNatClampNeg)], [aB G (AP (4 + 2 * k.toNatClampNeg)) (xp.2.2.2 k.toNatClampNeg)], cRs G AP xp.2.2.1 xp.2.2.2 k.toNatClampNeg, [oS (AP 0) (AP 1) (AP 2) xp.1], [aI G (AP 1) 7 xp.2.1], [aD G (AP 2) 4 (fun k => some (AP (3 + 2 * k)))], [oX a (AP 0) hi sl su pa (AT 0) (AU 0)]]) (open_at (openDrs G AP xp.2.2.1 xp.2.2.2 k.toNatClampNeg (vin_nat (lt_drive c4)))) ?_
      refine j_perm (fl [[oD (AP (3 + 2 * k.toNatClampNeg)) (AP (4 + 2 * k.toNatClampNeg)) (xp.2.2.1 k.toNatClampNeg)], [aB G (AP (4 + 2 * k.toNatClampNeg)) (xp.2.2.2 k.toNatClampNeg)], [oS (AP 0) (AP 1) (AP 2) xp.1], [aI G (AP 1) 7 xp.2.1], [aD G (AP 2) 4 (fun k => some (AP (3 + 2 * k)))], [oX a (AP 0) hi sl su pa (AT 0) (AU 0)], cRs G AP xp.2.2.1 xp.2.2.2 k.toNatClampNeg]) (bperm [0, 1, 3, 4, 5, 6, 2] 7 rfl (by decide +kernel) rfl) ?_
      refine j_aaldD C 4 rfl (lt_drive c4) (y := AP (3 + 2 * k.toNatClampNeg)) rfl dX4_hour_24 ?_
      refine j_iload_n C dX4_hour_25 2 rfl ?_
      refine j_callV_i (r := f_X0_hourState_r (xp.2.2.1 k.toNatClampNeg) (xp.2.2.2 k.toNatClampNeg) y) (wc' := [oD (AP (3 + 2 * k.toNatClampNeg)) (AP (4 + 2 * k.toNatClampNeg)) (xp.2.2.1 k.toNatClampNeg), aB G (AP (4 + 2 * k.toNatClampNeg)) (xp.2.2.2 k.toNatClampNeg)]) C (m_X0_hourState l G (AP (3 + 2 * k.toNatClampNeg)) (AP (4 + 2 * k.toNatClampNeg)) (xp.2.2.1 k.toNatClampNeg) (xp.2.2.2 k.toNatClampNeg) y) rfl 0 rfl 1 (gV kw_273 kw_181 kw_182 kw_4 kw_183) (by decide +kernel) ⟨(Nat.le_of_ble_eq_true rfl), (Nat.le_of_ble_eq_true rfl)⟩ rfl rfl (Nat.le_of_ble_eq_true rfl) dX4_hour_26 ⟨(Nat.le_of_ble_eq_true rfl), (Nat.le_of_ble_eq_true rfl)⟩ (fl [[oS (AP 0) (AP 1) (AP 2) xp.1], [aI G (AP 1) 7 xp.2.1], [aD G (AP 2) 4 (fun k => some (AP (3 + 2 * k)))], [oX a (AP 0) hi sl su pa (AT 0) (AU 0)], cRs G AP xp.2.2.1 xp.2.2.2 k.toNatClampNeg]) (fl [[oD (AP (3 + 2 * k.toNatClampNeg)) (AP (4 + 2 * k.toNatClampNeg)) (xp.2.2.1 k.toNatClampNeg)], [aB G (AP (4 + 2 * k.toNatClampNeg)) (xp.2.2.2 k.toNatClampNeg)], [oS (AP 0) (AP 1) (AP 2) xp.1], [aI G (AP 1) 7 xp.2.1], [aD G (AP 2) 4 (fun k => some (AP (3 + 2 * k)))], [oX a (AP 0) hi sl su pa (AT 0) (AU 0)], cRs G AP xp.2.2.1 xp.2.2.2 k.toNatClampNeg]) (bperm (bs' := [[oD (AP (3 + 2 * k.toNatClampNeg)) (AP (4 + 2 * k.toNatClampNeg)) (xp.2.2.1 k.toNatClampNeg)], [aB G (AP (4 + 2 * k.toNatClampNeg)) (xp.2.2.2 k.toNatClampNeg)], [oS (AP 0) (AP 1) (AP 2) xp.1], [aI G (AP 1) 7 xp.2.1], [aD G (AP 2) 4 (fun k => some (AP (3 + 2 * k)))], [oX a (AP 0) hi sl su pa (AT 0) (AU 0)], cRs G AP xp.2.2.1 xp.2.2.2 k.toNatClampNeg]) [0, 1, 2, 3, 4, 5, 6] 7 rfl (by decide +kernel) rfl) rfl ?_
      generalize hzw0 : f_X0_hourState_r (xp.2.2.1 k.toNatClampNeg) (xp.2.2.2 k.toNatClampNeg) y = w0
      have hw0 : f_X4_hour_rq3 xp k y = w0 := by subst hzw0; rfl
      refine j_goto (tgt := 34) C dX4_hour_29 (by decide) ?_
      refine j_perm (fl [[oD (AP (3 + 2 * k.toNatClampNeg)) (AP (4 + 2 * k.toNatClampNeg)) (xp.2.2.1 k.toNatClampNeg)], [aB G (AP (4 + 2 * k.toNatClampNeg)) (xp.2.2.2 k.toNatClampNeg)], cRs G AP xp.2.2.1 xp.2.2.2 k.toNatClampNeg, [oS (AP 0) (AP 1) (AP 2) xp.1], [aI G (AP 1) 7 xp.2.1], [aD G (AP 2) 4 (fun k => some (AP (3 + 2 * k)))], [oX a (AP 0) hi sl su pa (AT 0) (AU 0)]]) (bperm [0, 1, 6, 2, 3, 4, 5] 7 rfl (by decide +kernel) rfl) ?_
      refine j_perm (fl [cDrs G AP xp.2.2.1 xp.2.2.2, [oS (AP 0) (AP 1) (AP 2) xp.1], [aI G (AP 1) 7 xp.2.1], [aD G (AP 2) 4 (fun k => some (AP (3 + 2 * k)))], [oX a (AP 0) hi sl su pa (AT 0) (AU 0)]]) (shut_at (bs := [[oD (AP (3 + 2 * k.toNatClampNeg)) (AP (4 + 2 * k.toNatClampNeg)) (xp.2.2.1 k.toNatClampNeg)], [aB G (AP (4 + 2 * k.toNatClampNeg)) (xp.2.2.2 k.toNatClampNeg)], cRs G AP xp.2.2.1 xp.2.2.2 k.toNatClampNeg]) (openDrs G AP xp.2.2.1 xp.2.2.2 k.toNatClampNeg (vin_nat (lt_drive c4))).symm) ?_
      refine j_perm (fl [[oS (AP 0) (AP 1) (AP 2) xp.1], [aI G (AP 1) 7 xp.2.1], [aD G (AP 2) 4 (fun k => some (AP (3 + 2 * k)))], cDrs G AP xp.2.2.1 xp.2.2.2, [oX a (AP 0) hi sl su pa (AT 0) (AU 0)]]) (bperm [1, 2, 3, 0, 4] 5 rfl (by decide +kernel) rfl) ?_
      refine j_w (fl [cSt G AP xp, [oX a (AP 0) hi sl su pa (AT 0) (AU 0)]]) rfl ?_
      refine j_perm (fl [[oX a (AP 0) hi sl su pa (AT 0) (AU 0)], cSt G AP xp]) (bperm [1, 0] 2 rfl (by decide +kernel) rfl) ?_
      subst hw0; exact j_eq rfl rfl (by rw [show f_X4_hour_x4 xp k y = (f_X4_hour_rq3 xp k y) from (if_neg c13)]) K34
  · refine j_iconst (v := (-1)) C dX4_hour_7 (by decide) ?_
    subst hQ; exact j_iret C hr hk ((show f_X4_hour_r xp k y = (-1) from (if_pos c4)).symm) rfl dX4_hour_8
noncomputable def f_X4_streak_x3 (xp : StV) (k : Int32) : Int32 := (if f_X4_isDrive_r k = 0 then (-1) else rowX (xp.2.2.2 k.toNatClampNeg) 100 0)
noncomputable def f_X4_streak_r (xp : StV) (k : Int32) : Int32 := (f_X4_streak_x3 xp k)
set_option maxRecDepth 100000 in
set_option maxHeartbeats 4000000 in
theorem m_X4_streak (l : Launch) (G : GG) (a hi sl su pa : Nat) (AP AT AU : Nat → Nat) (xp : StV) (k : Int32)  : CtI l yX4_streak cX4_streak 2 (some .int) (RM 4) G [.ref a, .int k] (fl [[oX a (AP 0) hi sl su pa (AT 0) (AU 0)], cSt G AP xp]) (f_X4_streak_r xp k) (fl [[oX a (AP 0) hi sl su pa (AT 0) (AU 0)], cSt G AP xp]) := by
  refine ct_I RX4 [(0, .ref a), (1, .int k)] rfl (by decide +kernel) (Nat.le_of_ble_eq_true rfl) rfl ?_
  intro p e s m args below meth c A C hr hk hnm
  generalize hQ : (MQ below (PostI G A (f_X4_streak_r xp k) (fl [[oX a (AP 0) hi sl su pa (AT 0) (AU 0)], cSt G AP xp])) args s (RM 4).cells (RM 4).slots A) = Q
  refine j_iload_n C dX4_streak_0 1 rfl ?_
  refine j_pureS_i (r := f_X4_isDrive_r k) C (m_X4_isDrive l G k) 1 (gS kw_239 kw_240 kw_1 kw_241) (by decide +kernel) ⟨(Nat.le_of_ble_eq_true rfl), (Nat.le_of_ble_eq_true rfl)⟩ rfl rfl (Nat.le_of_ble_eq_true rfl) dX4_streak_1 ⟨(Nat.le_of_ble_eq_true rfl), (Nat.le_of_ble_eq_true rfl)⟩ ?_
  have K23 : WJ p l e (RM 4) s m args below meth c G A 2 0 0 Q (fl [[oX a (AP 0) hi sl su pa (AT 0) (AU 0)], cSt G AP xp]) [(0, .ref a), (1, .int k)] 23 [.int (f_X4_streak_x3 xp k)] := by
    generalize hw0 : f_X4_streak_x3 xp k = w0
    subst hQ; subst hw0; exact j_iret C hr hk ((show f_X4_streak_r xp k = (f_X4_streak_x3 xp k) from rfl).symm) rfl dX4_streak_23
  refine j_if_eq (tgt := 22) C dX4_streak_4 (by decide) (fun c4 => ?_) (fun c4 => ?_)
  · refine j_iconst (v := (-1)) C dX4_streak_22 (by decide) ?_
    exact j_eq rfl rfl (by rw [show f_X4_streak_x3 xp k = (-1) from (if_pos c4)]) K23
  · refine j_aload_n C dX4_streak_7 0 rfl ?_
    refine j_get C kin4 rfl 0 rfl 0 (by decide) kw_126 rfl (v := .ref (AP 0)) rfl dX4_streak_8 ?_
    refine j_perm (fl [cSt G AP xp, [oX a (AP 0) hi sl su pa (AT 0) (AU 0)]]) (bperm [1, 0] 2 rfl (by decide +kernel) rfl) ?_
    refine j_w (fl [[oS (AP 0) (AP 1) (AP 2) xp.1], [aI G (AP 1) 7 xp.2.1], [aD G (AP 2) 4 (fun k => some (AP (3 + 2 * k)))], cDrs G AP xp.2.2.1 xp.2.2.2, [oX a (AP 0) hi sl su pa (AT 0) (AU 0)]]) rfl ?_
    refine j_perm (fl [[oS (AP 0) (AP 1) (AP 2) xp.1], [aI G (AP 1) 7 xp.2.1], [aD G (AP 2) 4 (fun k => some (AP (3 + 2 * k)))], [oX a (AP 0) hi sl su pa (AT 0) (AU 0)], cDrs G AP xp.2.2.1 xp.2.2.2]) (bperm [0, 1, 2, 4, 3] 5 rfl (by decide +kernel) rfl) ?_
    refine j_get C kin3 rfl 0 rfl 1 (by decide) kw_77 rfl (v := .ref (AP 2)) rfl dX4_streak_11 ?_
    refine j_iload_n C dX4_streak_14 1 rfl ?_
    refine j_perm (fl [cDrs G AP xp.2.2.1 xp.2.2.2, [oS (AP 0) (AP 1) (AP 2) xp.1], [aI G (AP 1) 7 xp.2.1], [aD G (AP 2) 4 (fun k => some (AP (3 + 2 * k)))], [oX a (AP 0) hi sl su pa (AT 0) (AU 0)]]) (bperm [4, 0, 1, 2, 3] 5 rfl (by decide +kernel) rfl) ?_
    refine j_perm (fl [[oD (AP (3 + 2 * k.toNatClampNeg)) (AP (4 + 2 * k.toNatClampNeg)) (xp.2.2.1 k.toNatClampNeg)], [aB G (AP (4 + 2 * k.toNatClampNeg)) (xp.2.2.2 k.toNatClampNeg)], cRs G AP xp.2.2.1 xp.2.2.2 k.toNatClampNeg, [oS (AP 0) (AP 1) (AP 2) xp.1], [aI G (AP 1) 7 xp.2.1], [aD G (AP 2) 4 (fun k => some (AP (3 + 2 * k)))], [oX a (AP 0) hi sl su pa (AT 0) (AU 0)]]) (open_at (openDrs G AP xp.2.2.1 xp.2.2.2 k.toNatClampNeg (vin_nat (lt_drive c4)))) ?_
    refine j_perm (fl [[oD (AP (3 + 2 * k.toNatClampNeg)) (AP (4 + 2 * k.toNatClampNeg)) (xp.2.2.1 k.toNatClampNeg)], [aB G (AP (4 + 2 * k.toNatClampNeg)) (xp.2.2.2 k.toNatClampNeg)], [oS (AP 0) (AP 1) (AP 2) xp.1], [aI G (AP 1) 7 xp.2.1], [aD G (AP 2) 4 (fun k => some (AP (3 + 2 * k)))], [oX a (AP 0) hi sl su pa (AT 0) (AU 0)], cRs G AP xp.2.2.1 xp.2.2.2 k.toNatClampNeg]) (bperm [0, 1, 3, 4, 5, 6, 2] 7 rfl (by decide +kernel) rfl) ?_
    refine j_aaldD C 4 rfl (lt_drive c4) (y := AP (3 + 2 * k.toNatClampNeg)) rfl dX4_streak_15 ?_
    refine j_callV_i (r := rowX (xp.2.2.2 k.toNatClampNeg) 100 0) (wc' := [oD (AP (3 + 2 * k.toNatClampNeg)) (AP (4 + 2 * k.toNatClampNeg)) (xp.2.2.1 k.toNatClampNeg), aB G (AP (4 + 2 * k.toNatClampNeg)) (xp.2.2.2 k.toNatClampNeg)]) C (m_X0_keptInARow l G (AP (3 + 2 * k.toNatClampNeg)) (AP (4 + 2 * k.toNatClampNeg)) (xp.2.2.1 k.toNatClampNeg) (xp.2.2.2 k.toNatClampNeg)) rfl 0 rfl 0 (gV kw_278 kw_279 kw_280 kw_4 kw_281) (by decide +kernel) ⟨(Nat.le_of_ble_eq_true rfl), (Nat.le_of_ble_eq_true rfl)⟩ rfl rfl (Nat.le_of_ble_eq_true rfl) dX4_streak_16 ⟨(Nat.le_of_ble_eq_true rfl), (Nat.le_of_ble_eq_true rfl)⟩ (fl [[oS (AP 0) (AP 1) (AP 2) xp.1], [aI G (AP 1) 7 xp.2.1], [aD G (AP 2) 4 (fun k => some (AP (3 + 2 * k)))], [oX a (AP 0) hi sl su pa (AT 0) (AU 0)], cRs G AP xp.2.2.1 xp.2.2.2 k.toNatClampNeg]) (fl [[oD (AP (3 + 2 * k.toNatClampNeg)) (AP (4 + 2 * k.toNatClampNeg)) (xp.2.2.1 k.toNatClampNeg)], [aB G (AP (4 + 2 * k.toNatClampNeg)) (xp.2.2.2 k.toNatClampNeg)], [oS (AP 0) (AP 1) (AP 2) xp.1], [aI G (AP 1) 7 xp.2.1], [aD G (AP 2) 4 (fun k => some (AP (3 + 2 * k)))], [oX a (AP 0) hi sl su pa (AT 0) (AU 0)], cRs G AP xp.2.2.1 xp.2.2.2 k.toNatClampNeg]) (bperm (bs' := [[oD (AP (3 + 2 * k.toNatClampNeg)) (AP (4 + 2 * k.toNatClampNeg)) (xp.2.2.1 k.toNatClampNeg)], [aB G (AP (4 + 2 * k.toNatClampNeg)) (xp.2.2.2 k.toNatClampNeg)], [oS (AP 0) (AP 1) (AP 2) xp.1], [aI G (AP 1) 7 xp.2.1], [aD G (AP 2) 4 (fun k => some (AP (3 + 2 * k)))], [oX a (AP 0) hi sl su pa (AT 0) (AU 0)], cRs G AP xp.2.2.1 xp.2.2.2 k.toNatClampNeg]) [0, 1, 2, 3, 4, 5, 6] 7 rfl (by decide +kernel) rfl) rfl ?_
    refine j_goto (tgt := 23) C dX4_streak_19 (by decide) ?_
    refine j_perm (fl [[oD (AP (3 + 2 * k.toNatClampNeg)) (AP (4 + 2 * k.toNatClampNeg)) (xp.2.2.1 k.toNatClampNeg)], [aB G (AP (4 + 2 * k.toNatClampNeg)) (xp.2.2.2 k.toNatClampNeg)], cRs G AP xp.2.2.1 xp.2.2.2 k.toNatClampNeg, [oS (AP 0) (AP 1) (AP 2) xp.1], [aI G (AP 1) 7 xp.2.1], [aD G (AP 2) 4 (fun k => some (AP (3 + 2 * k)))], [oX a (AP 0) hi sl su pa (AT 0) (AU 0)]]) (bperm [0, 1, 6, 2, 3, 4, 5] 7 rfl (by decide +kernel) rfl) ?_
    refine j_perm (fl [cDrs G AP xp.2.2.1 xp.2.2.2, [oS (AP 0) (AP 1) (AP 2) xp.1], [aI G (AP 1) 7 xp.2.1], [aD G (AP 2) 4 (fun k => some (AP (3 + 2 * k)))], [oX a (AP 0) hi sl su pa (AT 0) (AU 0)]]) (shut_at (bs := [[oD (AP (3 + 2 * k.toNatClampNeg)) (AP (4 + 2 * k.toNatClampNeg)) (xp.2.2.1 k.toNatClampNeg)], [aB G (AP (4 + 2 * k.toNatClampNeg)) (xp.2.2.2 k.toNatClampNeg)], cRs G AP xp.2.2.1 xp.2.2.2 k.toNatClampNeg]) (openDrs G AP xp.2.2.1 xp.2.2.2 k.toNatClampNeg (vin_nat (lt_drive c4))).symm) ?_
    refine j_perm (fl [[oS (AP 0) (AP 1) (AP 2) xp.1], [aI G (AP 1) 7 xp.2.1], [aD G (AP 2) 4 (fun k => some (AP (3 + 2 * k)))], cDrs G AP xp.2.2.1 xp.2.2.2, [oX a (AP 0) hi sl su pa (AT 0) (AU 0)]]) (bperm [1, 2, 3, 0, 4] 5 rfl (by decide +kernel) rfl) ?_
    refine j_w (fl [cSt G AP xp, [oX a (AP 0) hi sl su pa (AT 0) (AU 0)]]) rfl ?_
    refine j_perm (fl [[oX a (AP 0) hi sl su pa (AT 0) (AU 0)], cSt G AP xp]) (bperm [1, 0] 2 rfl (by decide +kernel) rfl) ?_
    exact j_eq rfl rfl (by rw [show f_X4_streak_x3 xp k = rowX (xp.2.2.2 k.toNatClampNeg) 100 0 from (if_neg c4)]) K23
end
section
/-! THE FACE, SECOND HALF -/
theorem vin_m6 {k : Int32} (h0 : ¬ k < 6) (h1 : ¬ 13 ≤ k) : vp_in (k - 6) 7 := by
  have g0 : ¬ k < 0 := fun h => h0 (Int32.lt_trans h (by decide))
  obtain ⟨j, hj, rfl⟩ := vp_in_of (vin_of (n := 13) (N := 13) rfl g0 h1) (by decide)
  rcases (show j = 0 ∨ j = 1 ∨ j = 2 ∨ j = 3 ∨ j = 4 ∨ j = 5 ∨ j = 6 ∨ j = 7 ∨ j = 8 ∨ j = 9 ∨ j = 10 ∨ j = 11 ∨ j = 12 by omega) with rfl | rfl | rfl | rfl | rfl | rfl | rfl | rfl | rfl | rfl | rfl | rfl | rfl <;> first | exact vin_lit (by decide) | exact absurd (by decide) h0
noncomputable def f_X4_count_r (h : Nat → Int32) (xp : StV) (v : Nat → Int32) (k : Int32) : Int32 := (if k < 6 then (if k = 0 then xp.1 2 else (if k = 1 then f_X3_hourOfNow_r xp.1 else (if k = 2 then xp.1 3 else (if k = 3 then xp.1 4 else (if k = 4 then xp.1 5 else (if k = 5 then xp.1 6 else (if k = 13 then v 1 else (if k = 14 then h 2 else (-2))))))))) else (if 13 ≤ k then (if k = 0 then xp.1 2 else (if k = 1 then f_X3_hourOfNow_r xp.1 else (if k = 2 then xp.1 3 else (if k = 3 then xp.1 4 else (if k = 4 then xp.1 5 else (if k = 5 then xp.1 6 else (if k = 13 then v 1 else (if k = 14 then h 2 else (-2))))))))) else xp.2.1 (k - 6).toNatClampNeg))
set_option maxRecDepth 100000 in
set_option maxHeartbeats 4000000 in
theorem m_X4_count (l : Launch) (G : GG) (a hi sl su pa ha ga : Nat) (AP AT AU : Nat → Nat) (h : Nat → Int32) (xp : StV) (v : Nat → Int32) (k : Int32)  : CtI l yX4_count cX4_count 2 (some .int) (RM 1) G [.ref a, .int k] (fl [[oX a (AP 0) hi sl su pa (AT 0) (AU 0)], [oH hi ha h], cSt G AP xp, [oP pa ga v]]) (f_X4_count_r h xp v k) (fl [[oX a (AP 0) hi sl su pa (AT 0) (AU 0)], [oH hi ha h], cSt G AP xp, [oP pa ga v]]) := by
  refine ct_I RX4 [(0, .ref a), (1, .int k)] rfl (by decide +kernel) (Nat.le_of_ble_eq_true rfl) rfl ?_
  intro p e s m args below meth c A C hr hk hnm
  generalize hQ : (MQ below (PostI G A (f_X4_count_r h xp v k) (fl [[oX a (AP 0) hi sl su pa (AT 0) (AU 0)], [oH hi ha h], cSt G AP xp, [oP pa ga v]])) args s (RM 1).cells (RM 1).slots A) = Q
  refine j_perm (fl [[oX a (AP 0) hi sl su pa (AT 0) (AU 0)], [oH hi ha h], [oP pa ga v], cSt G AP xp]) (bperm [0, 1, 3, 2] 4 rfl (by decide +kernel) rfl) ?_
  refine j_iload_n C dX4_count_0 1 rfl ?_
  refine j_bipush (v := 6) C dX4_count_1 (by decide) ?_
  refine j_icmp_lt (tgt := 25) C dX4_count_3 (by decide) (fun c3 => ?_) (fun c3 => ?_)
  · refine j_iload_n C dX4_count_25 1 rfl ?_
    by_cases c26_0 : k = 0
    · refine j_tableIn (tgt := 100) C dX4_count_26 (by rw [c26_0] <;> decide) (by rw [c26_0] <;> decide) (by rw [c26_0] <;> rfl) (by decide) ?_
      refine j_aload_n C dX4_count_100 0 rfl ?_
      refine j_get C kin4 rfl 0 rfl 0 (by decide) kw_126 rfl (v := .ref (AP 0)) rfl dX4_count_101 ?_
      refine j_perm (fl [cSt G AP xp, [oX a (AP 0) hi sl su pa (AT 0) (AU 0)], [oH hi ha h], [oP pa ga v]]) (bperm [3, 0, 1, 2] 4 rfl (by decide +kernel) rfl) ?_
      refine j_w (fl [[oS (AP 0) (AP 1) (AP 2) xp.1], [aI G (AP 1) 7 xp.2.1], [aD G (AP 2) 4 (fun k => some (AP (3 + 2 * k)))], cDrs G AP xp.2.2.1 xp.2.2.2, [oX a (AP 0) hi sl su pa (AT 0) (AU 0)], [oH hi ha h], [oP pa ga v]]) rfl ?_
      refine j_perm (fl [[oS (AP 0) (AP 1) (AP 2) xp.1], [aI G (AP 1) 7 xp.2.1], [aD G (AP 2) 4 (fun k => some (AP (3 + 2 * k)))], [oX a (AP 0) hi sl su pa (AT 0) (AU 0)], [oH hi ha h], [oP pa ga v], cDrs G AP xp.2.2.1 xp.2.2.2]) (bperm [0, 1, 2, 4, 5, 6, 3] 7 rfl (by decide +kernel) rfl) ?_
      refine j_get C kin3 rfl 0 rfl 2 (by decide) kw_79 rfl (v := .int (xp.1 2)) rfl dX4_count_104 ?_
      refine j_perm (fl [[oS (AP 0) (AP 1) (AP 2) xp.1], [aI G (AP 1) 7 xp.2.1], [aD G (AP 2) 4 (fun k => some (AP (3 + 2 * k)))], cDrs G AP xp.2.2.1 xp.2.2.2, [oX a (AP 0) hi sl su pa (AT 0) (AU 0)], [oH hi ha h], [oP pa ga v]]) (bperm [0, 1, 2, 6, 3, 4, 5] 7 rfl (by decide +kernel) rfl) ?_
      refine j_w (fl [cSt G AP xp, [oX a (AP 0) hi sl su pa (AT 0) (AU 0)], [oH hi ha h], [oP pa ga v]]) rfl ?_
      refine j_perm (fl [[oX a (AP 0) hi sl su pa (AT 0) (AU 0)], [oH hi ha h], cSt G AP xp, [oP pa ga v]]) (bperm [1, 2, 0, 3] 4 rfl (by decide +kernel) rfl) ?_
      subst hQ; exact j_iret C hr hk ((show f_X4_count_r h xp v k = xp.1 2 from ((if_pos c3).trans (if_pos c26_0))).symm) rfl dX4_count_107
    · by_cases c26_1 : k = 1
      · refine j_tableIn (tgt := 108) C dX4_count_26 (by rw [c26_1] <;> decide) (by rw [c26_1] <;> decide) (by rw [c26_1] <;> rfl) (by decide) ?_
        refine j_aload_n C dX4_count_108 0 rfl ?_
        refine j_get C kin4 rfl 0 rfl 0 (by decide) kw_126 rfl (v := .ref (AP 0)) rfl dX4_count_109 ?_
        refine j_perm (fl [cSt G AP xp, [oX a (AP 0) hi sl su pa (AT 0) (AU 0)], [oH hi ha h], [oP pa ga v]]) (bperm [3, 0, 1, 2] 4 rfl (by decide +kernel) rfl) ?_
        refine j_w (fl [[oS (AP 0) (AP 1) (AP 2) xp.1], [aI G (AP 1) 7 xp.2.1], [aD G (AP 2) 4 (fun k => some (AP (3 + 2 * k)))], cDrs G AP xp.2.2.1 xp.2.2.2, [oX a (AP 0) hi sl su pa (AT 0) (AU 0)], [oH hi ha h], [oP pa ga v]]) rfl ?_
        refine j_perm (fl [[oS (AP 0) (AP 1) (AP 2) xp.1], [aI G (AP 1) 7 xp.2.1], [aD G (AP 2) 4 (fun k => some (AP (3 + 2 * k)))], [oX a (AP 0) hi sl su pa (AT 0) (AU 0)], [oH hi ha h], [oP pa ga v], cDrs G AP xp.2.2.1 xp.2.2.2]) (bperm [0, 1, 2, 4, 5, 6, 3] 7 rfl (by decide +kernel) rfl) ?_
        refine j_callV_i (r := f_X3_hourOfNow_r xp.1) (wc' := [oS (AP 0) (AP 1) (AP 2) xp.1]) C (m_X3_hourOfNow l G (AP 0) (AP 1) (AP 2) xp.1) rfl 0 rfl 0 (gV kw_242 kw_173 kw_174 kw_2 kw_175) (by decide +kernel) ⟨(Nat.le_of_ble_eq_true rfl), (Nat.le_of_ble_eq_true rfl)⟩ rfl rfl (Nat.le_of_ble_eq_true rfl) dX4_count_112 ⟨(Nat.le_of_ble_eq_true rfl), (Nat.le_of_ble_eq_true rfl)⟩ (fl [[aI G (AP 1) 7 xp.2.1], [aD G (AP 2) 4 (fun k => some (AP (3 + 2 * k)))], [oX a (AP 0) hi sl su pa (AT 0) (AU 0)], [oH hi ha h], [oP pa ga v], cDrs G AP xp.2.2.1 xp.2.2.2]) (fl [[oS (AP 0) (AP 1) (AP 2) xp.1], [aI G (AP 1) 7 xp.2.1], [aD G (AP 2) 4 (fun k => some (AP (3 + 2 * k)))], [oX a (AP 0) hi sl su pa (AT 0) (AU 0)], [oH hi ha h], [oP pa ga v], cDrs G AP xp.2.2.1 xp.2.2.2]) (bperm (bs' := [[oS (AP 0) (AP 1) (AP 2) xp.1], [aI G (AP 1) 7 xp.2.1], [aD G (AP 2) 4 (fun k => some (AP (3 + 2 * k)))], [oX a (AP 0) hi sl su pa (AT 0) (AU 0)], [oH hi ha h], [oP pa ga v], cDrs G AP xp.2.2.1 xp.2.2.2]) [0, 1, 2, 3, 4, 5, 6] 7 rfl (by decide +kernel) rfl) rfl ?_
        refine j_perm (fl [[oS (AP 0) (AP 1) (AP 2) xp.1], [aI G (AP 1) 7 xp.2.1], [aD G (AP 2) 4 (fun k => some (AP (3 + 2 * k)))], cDrs G AP xp.2.2.1 xp.2.2.2, [oX a (AP 0) hi sl su pa (AT 0) (AU 0)], [oH hi ha h], [oP pa ga v]]) (bperm [0, 1, 2, 6, 3, 4, 5] 7 rfl (by decide +kernel) rfl) ?_
        refine j_w (fl [cSt G AP xp, [oX a (AP 0) hi sl su pa (AT 0) (AU 0)], [oH hi ha h], [oP pa ga v]]) rfl ?_
        refine j_perm (fl [[oX a (AP 0) hi sl su pa (AT 0) (AU 0)], [oH hi ha h], cSt G AP xp, [oP pa ga v]]) (bperm [1, 2, 0, 3] 4 rfl (by decide +kernel) rfl) ?_
        subst hQ; exact j_iret C hr hk ((show f_X4_count_r h xp v k = f_X3_hourOfNow_r xp.1 from ((if_pos c3).trans ((if_neg c26_0).trans (if_pos c26_1)))).symm) rfl dX4_count_115
      · by_cases c26_2 : k = 2
        · refine j_tableIn (tgt := 116) C dX4_count_26 (by rw [c26_2] <;> decide) (by rw [c26_2] <;> decide) (by rw [c26_2] <;> rfl) (by decide) ?_
          refine j_aload_n C dX4_count_116 0 rfl ?_
          refine j_get C kin4 rfl 0 rfl 0 (by decide) kw_126 rfl (v := .ref (AP 0)) rfl dX4_count_117 ?_
          refine j_perm (fl [cSt G AP xp, [oX a (AP 0) hi sl su pa (AT 0) (AU 0)], [oH hi ha h], [oP pa ga v]]) (bperm [3, 0, 1, 2] 4 rfl (by decide +kernel) rfl) ?_
          refine j_w (fl [[oS (AP 0) (AP 1) (AP 2) xp.1], [aI G (AP 1) 7 xp.2.1], [aD G (AP 2) 4 (fun k => some (AP (3 + 2 * k)))], cDrs G AP xp.2.2.1 xp.2.2.2, [oX a (AP 0) hi sl su pa (AT 0) (AU 0)], [oH hi ha h], [oP pa ga v]]) rfl ?_
          refine j_perm (fl [[oS (AP 0) (AP 1) (AP 2) xp.1], [aI G (AP 1) 7 xp.2.1], [aD G (AP 2) 4 (fun k => some (AP (3 + 2 * k)))], [oX a (AP 0) hi sl su pa (AT 0) (AU 0)], [oH hi ha h], [oP pa ga v], cDrs G AP xp.2.2.1 xp.2.2.2]) (bperm [0, 1, 2, 4, 5, 6, 3] 7 rfl (by decide +kernel) rfl) ?_
          refine j_get C kin3 rfl 0 rfl 3 (by decide) kw_81 rfl (v := .int (xp.1 3)) rfl dX4_count_120 ?_
          refine j_perm (fl [[oS (AP 0) (AP 1) (AP 2) xp.1], [aI G (AP 1) 7 xp.2.1], [aD G (AP 2) 4 (fun k => some (AP (3 + 2 * k)))], cDrs G AP xp.2.2.1 xp.2.2.2, [oX a (AP 0) hi sl su pa (AT 0) (AU 0)], [oH hi ha h], [oP pa ga v]]) (bperm [0, 1, 2, 6, 3, 4, 5] 7 rfl (by decide +kernel) rfl) ?_
          refine j_w (fl [cSt G AP xp, [oX a (AP 0) hi sl su pa (AT 0) (AU 0)], [oH hi ha h], [oP pa ga v]]) rfl ?_
          refine j_perm (fl [[oX a (AP 0) hi sl su pa (AT 0) (AU 0)], [oH hi ha h], cSt G AP xp, [oP pa ga v]]) (bperm [1, 2, 0, 3] 4 rfl (by decide +kernel) rfl) ?_
          subst hQ; exact j_iret C hr hk ((show f_X4_count_r h xp v k = xp.1 3 from ((if_pos c3).trans ((if_neg c26_0).trans ((if_neg c26_1).trans (if_pos c26_2))))).symm) rfl dX4_count_123
        · by_cases c26_3 : k = 3
          · refine j_tableIn (tgt := 124) C dX4_count_26 (by rw [c26_3] <;> decide) (by rw [c26_3] <;> decide) (by rw [c26_3] <;> rfl) (by decide) ?_
            refine j_aload_n C dX4_count_124 0 rfl ?_
            refine j_get C kin4 rfl 0 rfl 0 (by decide) kw_126 rfl (v := .ref (AP 0)) rfl dX4_count_125 ?_
            refine j_perm (fl [cSt G AP xp, [oX a (AP 0) hi sl su pa (AT 0) (AU 0)], [oH hi ha h], [oP pa ga v]]) (bperm [3, 0, 1, 2] 4 rfl (by decide +kernel) rfl) ?_
            refine j_w (fl [[oS (AP 0) (AP 1) (AP 2) xp.1], [aI G (AP 1) 7 xp.2.1], [aD G (AP 2) 4 (fun k => some (AP (3 + 2 * k)))], cDrs G AP xp.2.2.1 xp.2.2.2, [oX a (AP 0) hi sl su pa (AT 0) (AU 0)], [oH hi ha h], [oP pa ga v]]) rfl ?_
            refine j_perm (fl [[oS (AP 0) (AP 1) (AP 2) xp.1], [aI G (AP 1) 7 xp.2.1], [aD G (AP 2) 4 (fun k => some (AP (3 + 2 * k)))], [oX a (AP 0) hi sl su pa (AT 0) (AU 0)], [oH hi ha h], [oP pa ga v], cDrs G AP xp.2.2.1 xp.2.2.2]) (bperm [0, 1, 2, 4, 5, 6, 3] 7 rfl (by decide +kernel) rfl) ?_
            refine j_get C kin3 rfl 0 rfl 4 (by decide) kw_83 rfl (v := .int (xp.1 4)) rfl dX4_count_128 ?_
            refine j_perm (fl [[oS (AP 0) (AP 1) (AP 2) xp.1], [aI G (AP 1) 7 xp.2.1], [aD G (AP 2) 4 (fun k => some (AP (3 + 2 * k)))], cDrs G AP xp.2.2.1 xp.2.2.2, [oX a (AP 0) hi sl su pa (AT 0) (AU 0)], [oH hi ha h], [oP pa ga v]]) (bperm [0, 1, 2, 6, 3, 4, 5] 7 rfl (by decide +kernel) rfl) ?_
            refine j_w (fl [cSt G AP xp, [oX a (AP 0) hi sl su pa (AT 0) (AU 0)], [oH hi ha h], [oP pa ga v]]) rfl ?_
            refine j_perm (fl [[oX a (AP 0) hi sl su pa (AT 0) (AU 0)], [oH hi ha h], cSt G AP xp, [oP pa ga v]]) (bperm [1, 2, 0, 3] 4 rfl (by decide +kernel) rfl) ?_
            subst hQ; exact j_iret C hr hk ((show f_X4_count_r h xp v k = xp.1 4 from ((if_pos c3).trans ((if_neg c26_0).trans ((if_neg c26_1).trans ((if_neg c26_2).trans (if_pos c26_3)))))).symm) rfl dX4_count_131
          · by_cases c26_4 : k = 4
            · refine j_tableIn (tgt := 132) C dX4_count_26 (by rw [c26_4] <;> decide) (by rw [c26_4] <;> decide) (by rw [c26_4] <;> rfl) (by decide) ?_
              refine j_aload_n C dX4_count_132 0 rfl ?_
              refine j_get C kin4 rfl 0 rfl 0 (by decide) kw_126 rfl (v := .ref (AP 0)) rfl dX4_count_133 ?_
              refine j_perm (fl [cSt G AP xp, [oX a (AP 0) hi sl su pa (AT 0) (AU 0)], [oH hi ha h], [oP pa ga v]]) (bperm [3, 0, 1, 2] 4 rfl (by decide +kernel) rfl) ?_
              refine j_w (fl [[oS (AP 0) (AP 1) (AP 2) xp.1], [aI G (AP 1) 7 xp.2.1], [aD G (AP 2) 4 (fun k => some (AP (3 + 2 * k)))], cDrs G AP xp.2.2.1 xp.2.2.2, [oX a (AP 0) hi sl su pa (AT 0) (AU 0)], [oH hi ha h], [oP pa ga v]]) rfl ?_
              refine j_perm (fl [[oS (AP 0) (AP 1) (AP 2) xp.1], [aI G (AP 1) 7 xp.2.1], [aD G (AP 2) 4 (fun k => some (AP (3 + 2 * k)))], [oX a (AP 0) hi sl su pa (AT 0) (AU 0)], [oH hi ha h], [oP pa ga v], cDrs G AP xp.2.2.1 xp.2.2.2]) (bperm [0, 1, 2, 4, 5, 6, 3] 7 rfl (by decide +kernel) rfl) ?_
              refine j_get C kin3 rfl 0 rfl 5 (by decide) kw_85 rfl (v := .int (xp.1 5)) rfl dX4_count_136 ?_
              refine j_perm (fl [[oS (AP 0) (AP 1) (AP 2) xp.1], [aI G (AP 1) 7 xp.2.1], [aD G (AP 2) 4 (fun k => some (AP (3 + 2 * k)))], cDrs G AP xp.2.2.1 xp.2.2.2, [oX a (AP 0) hi sl su pa (AT 0) (AU 0)], [oH hi ha h], [oP pa ga v]]) (bperm [0, 1, 2, 6, 3, 4, 5] 7 rfl (by decide +kernel) rfl) ?_
              refine j_w (fl [cSt G AP xp, [oX a (AP 0) hi sl su pa (AT 0) (AU 0)], [oH hi ha h], [oP pa ga v]]) rfl ?_
              refine j_perm (fl [[oX a (AP 0) hi sl su pa (AT 0) (AU 0)], [oH hi ha h], cSt G AP xp, [oP pa ga v]]) (bperm [1, 2, 0, 3] 4 rfl (by decide +kernel) rfl) ?_
              subst hQ; exact j_iret C hr hk ((show f_X4_count_r h xp v k = xp.1 5 from ((if_pos c3).trans ((if_neg c26_0).trans ((if_neg c26_1).trans ((if_neg c26_2).trans ((if_neg c26_3).trans (if_pos c26_4))))))).symm) rfl dX4_count_139
            · by_cases c26_5 : k = 5
              · refine j_tableIn (tgt := 140) C dX4_count_26 (by rw [c26_5] <;> decide) (by rw [c26_5] <;> decide) (by rw [c26_5] <;> rfl) (by decide) ?_
                refine j_aload_n C dX4_count_140 0 rfl ?_
                refine j_get C kin4 rfl 0 rfl 0 (by decide) kw_126 rfl (v := .ref (AP 0)) rfl dX4_count_141 ?_
                refine j_perm (fl [cSt G AP xp, [oX a (AP 0) hi sl su pa (AT 0) (AU 0)], [oH hi ha h], [oP pa ga v]]) (bperm [3, 0, 1, 2] 4 rfl (by decide +kernel) rfl) ?_
                refine j_w (fl [[oS (AP 0) (AP 1) (AP 2) xp.1], [aI G (AP 1) 7 xp.2.1], [aD G (AP 2) 4 (fun k => some (AP (3 + 2 * k)))], cDrs G AP xp.2.2.1 xp.2.2.2, [oX a (AP 0) hi sl su pa (AT 0) (AU 0)], [oH hi ha h], [oP pa ga v]]) rfl ?_
                refine j_perm (fl [[oS (AP 0) (AP 1) (AP 2) xp.1], [aI G (AP 1) 7 xp.2.1], [aD G (AP 2) 4 (fun k => some (AP (3 + 2 * k)))], [oX a (AP 0) hi sl su pa (AT 0) (AU 0)], [oH hi ha h], [oP pa ga v], cDrs G AP xp.2.2.1 xp.2.2.2]) (bperm [0, 1, 2, 4, 5, 6, 3] 7 rfl (by decide +kernel) rfl) ?_
                refine j_get C kin3 rfl 0 rfl 6 (by decide) kw_87 rfl (v := .int (xp.1 6)) rfl dX4_count_144 ?_
                refine j_perm (fl [[oS (AP 0) (AP 1) (AP 2) xp.1], [aI G (AP 1) 7 xp.2.1], [aD G (AP 2) 4 (fun k => some (AP (3 + 2 * k)))], cDrs G AP xp.2.2.1 xp.2.2.2, [oX a (AP 0) hi sl su pa (AT 0) (AU 0)], [oH hi ha h], [oP pa ga v]]) (bperm [0, 1, 2, 6, 3, 4, 5] 7 rfl (by decide +kernel) rfl) ?_
                refine j_w (fl [cSt G AP xp, [oX a (AP 0) hi sl su pa (AT 0) (AU 0)], [oH hi ha h], [oP pa ga v]]) rfl ?_
                refine j_perm (fl [[oX a (AP 0) hi sl su pa (AT 0) (AU 0)], [oH hi ha h], cSt G AP xp, [oP pa ga v]]) (bperm [1, 2, 0, 3] 4 rfl (by decide +kernel) rfl) ?_
                subst hQ; exact j_iret C hr hk ((show f_X4_count_r h xp v k = xp.1 6 from ((if_pos c3).trans ((if_neg c26_0).trans ((if_neg c26_1).trans ((if_neg c26_2).trans ((if_neg c26_3).trans ((if_neg c26_4).trans (if_pos c26_5)))))))).symm) rfl dX4_count_147
              · by_cases c26_13 : k = 13
                · refine j_tableIn (tgt := 148) C dX4_count_26 (by rw [c26_13] <;> decide) (by rw [c26_13] <;> decide) (by rw [c26_13] <;> rfl) (by decide) ?_
                  refine j_aload_n C dX4_count_148 0 rfl ?_
                  refine j_get C kin4 rfl 0 rfl 4 (by decide) kw_130 rfl (v := .ref pa) rfl dX4_count_149 ?_
                  refine j_get C kin2 rfl 2 rfl 1 (by decide) kw_116 rfl (v := .int (v 1)) rfl dX4_count_152 ?_
                  refine j_perm (fl [[oX a (AP 0) hi sl su pa (AT 0) (AU 0)], [oH hi ha h], cSt G AP xp, [oP pa ga v]]) (bperm [0, 1, 3, 2] 4 rfl (by decide +kernel) rfl) ?_
                  subst hQ; exact j_iret C hr hk ((show f_X4_count_r h xp v k = v 1 from ((if_pos c3).trans ((if_neg c26_0).trans ((if_neg c26_1).trans ((if_neg c26_2).trans ((if_neg c26_3).trans ((if_neg c26_4).trans ((if_neg c26_5).trans (if_pos c26_13))))))))).symm) rfl dX4_count_155
                · by_cases c26_14 : k = 14
                  · refine j_tableIn (tgt := 156) C dX4_count_26 (by rw [c26_14] <;> decide) (by rw [c26_14] <;> decide) (by rw [c26_14] <;> rfl) (by decide) ?_
                    refine j_aload_n C dX4_count_156 0 rfl ?_
                    refine j_get C kin4 rfl 0 rfl 1 (by decide) kw_127 rfl (v := .ref hi) rfl dX4_count_157 ?_
                    refine j_get C kin1 rfl 1 rfl 2 (by decide) kw_106 rfl (v := .int (h 2)) rfl dX4_count_160 ?_
                    refine j_perm (fl [[oX a (AP 0) hi sl su pa (AT 0) (AU 0)], [oH hi ha h], cSt G AP xp, [oP pa ga v]]) (bperm [0, 1, 3, 2] 4 rfl (by decide +kernel) rfl) ?_
                    subst hQ; exact j_iret C hr hk ((show f_X4_count_r h xp v k = h 2 from ((if_pos c3).trans ((if_neg c26_0).trans ((if_neg c26_1).trans ((if_neg c26_2).trans ((if_neg c26_3).trans ((if_neg c26_4).trans ((if_neg c26_5).trans ((if_neg c26_13).trans (if_pos c26_14)))))))))).symm) rfl dX4_count_163
                  · have n26_0 : (k).toInt ≠ 0 := fun h => c26_0 (Int32.toInt_inj.mp h)
                    have n26_1 : (k).toInt ≠ 1 := fun h => c26_1 (Int32.toInt_inj.mp h)
                    have n26_2 : (k).toInt ≠ 2 := fun h => c26_2 (Int32.toInt_inj.mp h)
                    have n26_3 : (k).toInt ≠ 3 := fun h => c26_3 (Int32.toInt_inj.mp h)
                    have n26_4 : (k).toInt ≠ 4 := fun h => c26_4 (Int32.toInt_inj.mp h)
                    have n26_5 : (k).toInt ≠ 5 := fun h => c26_5 (Int32.toInt_inj.mp h)
                    have n26_13 : (k).toInt ≠ 13 := fun h => c26_13 (Int32.toInt_inj.mp h)
                    have n26_14 : (k).toInt ≠ 14 := fun h => c26_14 (Int32.toInt_inj.mp h)
                    by_cases hz26 : (k).toInt < 0 ∨ 14 < (k).toInt
                    · refine j_tableOut (tgt := 164) C dX4_count_26 hz26 (by decide) ?_
                      refine j_bipush (v := (-2)) C dX4_count_164 (by decide) ?_
                      refine j_perm (fl [[oX a (AP 0) hi sl su pa (AT 0) (AU 0)], [oH hi ha h], cSt G AP xp, [oP pa ga v]]) (bperm [0, 1, 3, 2] 4 rfl (by decide +kernel) rfl) ?_
                      subst hQ; exact j_iret C hr hk ((show f_X4_count_r h xp v k = (-2) from ((if_pos c3).trans ((if_neg c26_0).trans ((if_neg c26_1).trans ((if_neg c26_2).trans ((if_neg c26_3).trans ((if_neg c26_4).trans ((if_neg c26_5).trans ((if_neg c26_13).trans (if_neg c26_14)))))))))).symm) rfl dX4_count_166
                    · refine j_tableIn (off := 138) (tgt := 164) C dX4_count_26 (by omega) (by omega) (by have hm : (k).toInt = 6 ∨ (k).toInt = 7 ∨ (k).toInt = 8 ∨ (k).toInt = 9 ∨ (k).toInt = 10 ∨ (k).toInt = 11 ∨ (k).toInt = 12 := (by omega); rcases hm with hm | hm | hm | hm | hm | hm | hm <;> (rw [hm]; try rfl)) (by decide) ?_
                      refine j_bipush (v := (-2)) C dX4_count_164 (by decide) ?_
                      refine j_perm (fl [[oX a (AP 0) hi sl su pa (AT 0) (AU 0)], [oH hi ha h], cSt G AP xp, [oP pa ga v]]) (bperm [0, 1, 3, 2] 4 rfl (by decide +kernel) rfl) ?_
                      subst hQ; exact j_iret C hr hk ((show f_X4_count_r h xp v k = (-2) from ((if_pos c3).trans ((if_neg c26_0).trans ((if_neg c26_1).trans ((if_neg c26_2).trans ((if_neg c26_3).trans ((if_neg c26_4).trans ((if_neg c26_5).trans ((if_neg c26_13).trans (if_neg c26_14)))))))))).symm) rfl dX4_count_166
  · refine j_iload_n C dX4_count_6 1 rfl ?_
    refine j_bipush (v := 13) C dX4_count_7 (by decide) ?_
    refine j_icmp_ge (tgt := 25) C dX4_count_9 (by decide) (fun c9 => ?_) (fun c9 => ?_)
    · refine j_iload_n C dX4_count_25 1 rfl ?_
      by_cases c26_0 : k = 0
      · refine j_tableIn (tgt := 100) C dX4_count_26 (by rw [c26_0] <;> decide) (by rw [c26_0] <;> decide) (by rw [c26_0] <;> rfl) (by decide) ?_
        refine j_aload_n C dX4_count_100 0 rfl ?_
        refine j_get C kin4 rfl 0 rfl 0 (by decide) kw_126 rfl (v := .ref (AP 0)) rfl dX4_count_101 ?_
        refine j_perm (fl [cSt G AP xp, [oX a (AP 0) hi sl su pa (AT 0) (AU 0)], [oH hi ha h], [oP pa ga v]]) (bperm [3, 0, 1, 2] 4 rfl (by decide +kernel) rfl) ?_
        refine j_w (fl [[oS (AP 0) (AP 1) (AP 2) xp.1], [aI G (AP 1) 7 xp.2.1], [aD G (AP 2) 4 (fun k => some (AP (3 + 2 * k)))], cDrs G AP xp.2.2.1 xp.2.2.2, [oX a (AP 0) hi sl su pa (AT 0) (AU 0)], [oH hi ha h], [oP pa ga v]]) rfl ?_
        refine j_perm (fl [[oS (AP 0) (AP 1) (AP 2) xp.1], [aI G (AP 1) 7 xp.2.1], [aD G (AP 2) 4 (fun k => some (AP (3 + 2 * k)))], [oX a (AP 0) hi sl su pa (AT 0) (AU 0)], [oH hi ha h], [oP pa ga v], cDrs G AP xp.2.2.1 xp.2.2.2]) (bperm [0, 1, 2, 4, 5, 6, 3] 7 rfl (by decide +kernel) rfl) ?_
        refine j_get C kin3 rfl 0 rfl 2 (by decide) kw_79 rfl (v := .int (xp.1 2)) rfl dX4_count_104 ?_
        refine j_perm (fl [[oS (AP 0) (AP 1) (AP 2) xp.1], [aI G (AP 1) 7 xp.2.1], [aD G (AP 2) 4 (fun k => some (AP (3 + 2 * k)))], cDrs G AP xp.2.2.1 xp.2.2.2, [oX a (AP 0) hi sl su pa (AT 0) (AU 0)], [oH hi ha h], [oP pa ga v]]) (bperm [0, 1, 2, 6, 3, 4, 5] 7 rfl (by decide +kernel) rfl) ?_
        refine j_w (fl [cSt G AP xp, [oX a (AP 0) hi sl su pa (AT 0) (AU 0)], [oH hi ha h], [oP pa ga v]]) rfl ?_
        refine j_perm (fl [[oX a (AP 0) hi sl su pa (AT 0) (AU 0)], [oH hi ha h], cSt G AP xp, [oP pa ga v]]) (bperm [1, 2, 0, 3] 4 rfl (by decide +kernel) rfl) ?_
        subst hQ; exact j_iret C hr hk ((show f_X4_count_r h xp v k = xp.1 2 from ((if_neg c3).trans ((if_pos c9).trans (if_pos c26_0)))).symm) rfl dX4_count_107
      · by_cases c26_1 : k = 1
        · refine j_tableIn (tgt := 108) C dX4_count_26 (by rw [c26_1] <;> decide) (by rw [c26_1] <;> decide) (by rw [c26_1] <;> rfl) (by decide) ?_
          refine j_aload_n C dX4_count_108 0 rfl ?_
          refine j_get C kin4 rfl 0 rfl 0 (by decide) kw_126 rfl (v := .ref (AP 0)) rfl dX4_count_109 ?_
          refine j_perm (fl [cSt G AP xp, [oX a (AP 0) hi sl su pa (AT 0) (AU 0)], [oH hi ha h], [oP pa ga v]]) (bperm [3, 0, 1, 2] 4 rfl (by decide +kernel) rfl) ?_
          refine j_w (fl [[oS (AP 0) (AP 1) (AP 2) xp.1], [aI G (AP 1) 7 xp.2.1], [aD G (AP 2) 4 (fun k => some (AP (3 + 2 * k)))], cDrs G AP xp.2.2.1 xp.2.2.2, [oX a (AP 0) hi sl su pa (AT 0) (AU 0)], [oH hi ha h], [oP pa ga v]]) rfl ?_
          refine j_perm (fl [[oS (AP 0) (AP 1) (AP 2) xp.1], [aI G (AP 1) 7 xp.2.1], [aD G (AP 2) 4 (fun k => some (AP (3 + 2 * k)))], [oX a (AP 0) hi sl su pa (AT 0) (AU 0)], [oH hi ha h], [oP pa ga v], cDrs G AP xp.2.2.1 xp.2.2.2]) (bperm [0, 1, 2, 4, 5, 6, 3] 7 rfl (by decide +kernel) rfl) ?_
          refine j_callV_i (r := f_X3_hourOfNow_r xp.1) (wc' := [oS (AP 0) (AP 1) (AP 2) xp.1]) C (m_X3_hourOfNow l G (AP 0) (AP 1) (AP 2) xp.1) rfl 0 rfl 0 (gV kw_242 kw_173 kw_174 kw_2 kw_175) (by decide +kernel) ⟨(Nat.le_of_ble_eq_true rfl), (Nat.le_of_ble_eq_true rfl)⟩ rfl rfl (Nat.le_of_ble_eq_true rfl) dX4_count_112 ⟨(Nat.le_of_ble_eq_true rfl), (Nat.le_of_ble_eq_true rfl)⟩ (fl [[aI G (AP 1) 7 xp.2.1], [aD G (AP 2) 4 (fun k => some (AP (3 + 2 * k)))], [oX a (AP 0) hi sl su pa (AT 0) (AU 0)], [oH hi ha h], [oP pa ga v], cDrs G AP xp.2.2.1 xp.2.2.2]) (fl [[oS (AP 0) (AP 1) (AP 2) xp.1], [aI G (AP 1) 7 xp.2.1], [aD G (AP 2) 4 (fun k => some (AP (3 + 2 * k)))], [oX a (AP 0) hi sl su pa (AT 0) (AU 0)], [oH hi ha h], [oP pa ga v], cDrs G AP xp.2.2.1 xp.2.2.2]) (bperm (bs' := [[oS (AP 0) (AP 1) (AP 2) xp.1], [aI G (AP 1) 7 xp.2.1], [aD G (AP 2) 4 (fun k => some (AP (3 + 2 * k)))], [oX a (AP 0) hi sl su pa (AT 0) (AU 0)], [oH hi ha h], [oP pa ga v], cDrs G AP xp.2.2.1 xp.2.2.2]) [0, 1, 2, 3, 4, 5, 6] 7 rfl (by decide +kernel) rfl) rfl ?_
          refine j_perm (fl [[oS (AP 0) (AP 1) (AP 2) xp.1], [aI G (AP 1) 7 xp.2.1], [aD G (AP 2) 4 (fun k => some (AP (3 + 2 * k)))], cDrs G AP xp.2.2.1 xp.2.2.2, [oX a (AP 0) hi sl su pa (AT 0) (AU 0)], [oH hi ha h], [oP pa ga v]]) (bperm [0, 1, 2, 6, 3, 4, 5] 7 rfl (by decide +kernel) rfl) ?_
          refine j_w (fl [cSt G AP xp, [oX a (AP 0) hi sl su pa (AT 0) (AU 0)], [oH hi ha h], [oP pa ga v]]) rfl ?_
          refine j_perm (fl [[oX a (AP 0) hi sl su pa (AT 0) (AU 0)], [oH hi ha h], cSt G AP xp, [oP pa ga v]]) (bperm [1, 2, 0, 3] 4 rfl (by decide +kernel) rfl) ?_
          subst hQ; exact j_iret C hr hk ((show f_X4_count_r h xp v k = f_X3_hourOfNow_r xp.1 from ((if_neg c3).trans ((if_pos c9).trans ((if_neg c26_0).trans (if_pos c26_1))))).symm) rfl dX4_count_115
        · by_cases c26_2 : k = 2
          · refine j_tableIn (tgt := 116) C dX4_count_26 (by rw [c26_2] <;> decide) (by rw [c26_2] <;> decide) (by rw [c26_2] <;> rfl) (by decide) ?_
            refine j_aload_n C dX4_count_116 0 rfl ?_
            refine j_get C kin4 rfl 0 rfl 0 (by decide) kw_126 rfl (v := .ref (AP 0)) rfl dX4_count_117 ?_
            refine j_perm (fl [cSt G AP xp, [oX a (AP 0) hi sl su pa (AT 0) (AU 0)], [oH hi ha h], [oP pa ga v]]) (bperm [3, 0, 1, 2] 4 rfl (by decide +kernel) rfl) ?_
            refine j_w (fl [[oS (AP 0) (AP 1) (AP 2) xp.1], [aI G (AP 1) 7 xp.2.1], [aD G (AP 2) 4 (fun k => some (AP (3 + 2 * k)))], cDrs G AP xp.2.2.1 xp.2.2.2, [oX a (AP 0) hi sl su pa (AT 0) (AU 0)], [oH hi ha h], [oP pa ga v]]) rfl ?_
            refine j_perm (fl [[oS (AP 0) (AP 1) (AP 2) xp.1], [aI G (AP 1) 7 xp.2.1], [aD G (AP 2) 4 (fun k => some (AP (3 + 2 * k)))], [oX a (AP 0) hi sl su pa (AT 0) (AU 0)], [oH hi ha h], [oP pa ga v], cDrs G AP xp.2.2.1 xp.2.2.2]) (bperm [0, 1, 2, 4, 5, 6, 3] 7 rfl (by decide +kernel) rfl) ?_
            refine j_get C kin3 rfl 0 rfl 3 (by decide) kw_81 rfl (v := .int (xp.1 3)) rfl dX4_count_120 ?_
            refine j_perm (fl [[oS (AP 0) (AP 1) (AP 2) xp.1], [aI G (AP 1) 7 xp.2.1], [aD G (AP 2) 4 (fun k => some (AP (3 + 2 * k)))], cDrs G AP xp.2.2.1 xp.2.2.2, [oX a (AP 0) hi sl su pa (AT 0) (AU 0)], [oH hi ha h], [oP pa ga v]]) (bperm [0, 1, 2, 6, 3, 4, 5] 7 rfl (by decide +kernel) rfl) ?_
            refine j_w (fl [cSt G AP xp, [oX a (AP 0) hi sl su pa (AT 0) (AU 0)], [oH hi ha h], [oP pa ga v]]) rfl ?_
            refine j_perm (fl [[oX a (AP 0) hi sl su pa (AT 0) (AU 0)], [oH hi ha h], cSt G AP xp, [oP pa ga v]]) (bperm [1, 2, 0, 3] 4 rfl (by decide +kernel) rfl) ?_
            subst hQ; exact j_iret C hr hk ((show f_X4_count_r h xp v k = xp.1 3 from ((if_neg c3).trans ((if_pos c9).trans ((if_neg c26_0).trans ((if_neg c26_1).trans (if_pos c26_2)))))).symm) rfl dX4_count_123
          · by_cases c26_3 : k = 3
            · refine j_tableIn (tgt := 124) C dX4_count_26 (by rw [c26_3] <;> decide) (by rw [c26_3] <;> decide) (by rw [c26_3] <;> rfl) (by decide) ?_
              refine j_aload_n C dX4_count_124 0 rfl ?_
              refine j_get C kin4 rfl 0 rfl 0 (by decide) kw_126 rfl (v := .ref (AP 0)) rfl dX4_count_125 ?_
              refine j_perm (fl [cSt G AP xp, [oX a (AP 0) hi sl su pa (AT 0) (AU 0)], [oH hi ha h], [oP pa ga v]]) (bperm [3, 0, 1, 2] 4 rfl (by decide +kernel) rfl) ?_
              refine j_w (fl [[oS (AP 0) (AP 1) (AP 2) xp.1], [aI G (AP 1) 7 xp.2.1], [aD G (AP 2) 4 (fun k => some (AP (3 + 2 * k)))], cDrs G AP xp.2.2.1 xp.2.2.2, [oX a (AP 0) hi sl su pa (AT 0) (AU 0)], [oH hi ha h], [oP pa ga v]]) rfl ?_
              refine j_perm (fl [[oS (AP 0) (AP 1) (AP 2) xp.1], [aI G (AP 1) 7 xp.2.1], [aD G (AP 2) 4 (fun k => some (AP (3 + 2 * k)))], [oX a (AP 0) hi sl su pa (AT 0) (AU 0)], [oH hi ha h], [oP pa ga v], cDrs G AP xp.2.2.1 xp.2.2.2]) (bperm [0, 1, 2, 4, 5, 6, 3] 7 rfl (by decide +kernel) rfl) ?_
              refine j_get C kin3 rfl 0 rfl 4 (by decide) kw_83 rfl (v := .int (xp.1 4)) rfl dX4_count_128 ?_
              refine j_perm (fl [[oS (AP 0) (AP 1) (AP 2) xp.1], [aI G (AP 1) 7 xp.2.1], [aD G (AP 2) 4 (fun k => some (AP (3 + 2 * k)))], cDrs G AP xp.2.2.1 xp.2.2.2, [oX a (AP 0) hi sl su pa (AT 0) (AU 0)], [oH hi ha h], [oP pa ga v]]) (bperm [0, 1, 2, 6, 3, 4, 5] 7 rfl (by decide +kernel) rfl) ?_
              refine j_w (fl [cSt G AP xp, [oX a (AP 0) hi sl su pa (AT 0) (AU 0)], [oH hi ha h], [oP pa ga v]]) rfl ?_
              refine j_perm (fl [[oX a (AP 0) hi sl su pa (AT 0) (AU 0)], [oH hi ha h], cSt G AP xp, [oP pa ga v]]) (bperm [1, 2, 0, 3] 4 rfl (by decide +kernel) rfl) ?_
              subst hQ; exact j_iret C hr hk ((show f_X4_count_r h xp v k = xp.1 4 from ((if_neg c3).trans ((if_pos c9).trans ((if_neg c26_0).trans ((if_neg c26_1).trans ((if_neg c26_2).trans (if_pos c26_3))))))).symm) rfl dX4_count_131
            · by_cases c26_4 : k = 4
              · refine j_tableIn (tgt := 132) C dX4_count_26 (by rw [c26_4] <;> decide) (by rw [c26_4] <;> decide) (by rw [c26_4] <;> rfl) (by decide) ?_
                refine j_aload_n C dX4_count_132 0 rfl ?_
                refine j_get C kin4 rfl 0 rfl 0 (by decide) kw_126 rfl (v := .ref (AP 0)) rfl dX4_count_133 ?_
                refine j_perm (fl [cSt G AP xp, [oX a (AP 0) hi sl su pa (AT 0) (AU 0)], [oH hi ha h], [oP pa ga v]]) (bperm [3, 0, 1, 2] 4 rfl (by decide +kernel) rfl) ?_
                refine j_w (fl [[oS (AP 0) (AP 1) (AP 2) xp.1], [aI G (AP 1) 7 xp.2.1], [aD G (AP 2) 4 (fun k => some (AP (3 + 2 * k)))], cDrs G AP xp.2.2.1 xp.2.2.2, [oX a (AP 0) hi sl su pa (AT 0) (AU 0)], [oH hi ha h], [oP pa ga v]]) rfl ?_
                refine j_perm (fl [[oS (AP 0) (AP 1) (AP 2) xp.1], [aI G (AP 1) 7 xp.2.1], [aD G (AP 2) 4 (fun k => some (AP (3 + 2 * k)))], [oX a (AP 0) hi sl su pa (AT 0) (AU 0)], [oH hi ha h], [oP pa ga v], cDrs G AP xp.2.2.1 xp.2.2.2]) (bperm [0, 1, 2, 4, 5, 6, 3] 7 rfl (by decide +kernel) rfl) ?_
                refine j_get C kin3 rfl 0 rfl 5 (by decide) kw_85 rfl (v := .int (xp.1 5)) rfl dX4_count_136 ?_
                refine j_perm (fl [[oS (AP 0) (AP 1) (AP 2) xp.1], [aI G (AP 1) 7 xp.2.1], [aD G (AP 2) 4 (fun k => some (AP (3 + 2 * k)))], cDrs G AP xp.2.2.1 xp.2.2.2, [oX a (AP 0) hi sl su pa (AT 0) (AU 0)], [oH hi ha h], [oP pa ga v]]) (bperm [0, 1, 2, 6, 3, 4, 5] 7 rfl (by decide +kernel) rfl) ?_
                refine j_w (fl [cSt G AP xp, [oX a (AP 0) hi sl su pa (AT 0) (AU 0)], [oH hi ha h], [oP pa ga v]]) rfl ?_
                refine j_perm (fl [[oX a (AP 0) hi sl su pa (AT 0) (AU 0)], [oH hi ha h], cSt G AP xp, [oP pa ga v]]) (bperm [1, 2, 0, 3] 4 rfl (by decide +kernel) rfl) ?_
                subst hQ; exact j_iret C hr hk ((show f_X4_count_r h xp v k = xp.1 5 from ((if_neg c3).trans ((if_pos c9).trans ((if_neg c26_0).trans ((if_neg c26_1).trans ((if_neg c26_2).trans ((if_neg c26_3).trans (if_pos c26_4)))))))).symm) rfl dX4_count_139
              · by_cases c26_5 : k = 5
                · refine j_tableIn (tgt := 140) C dX4_count_26 (by rw [c26_5] <;> decide) (by rw [c26_5] <;> decide) (by rw [c26_5] <;> rfl) (by decide) ?_
                  refine j_aload_n C dX4_count_140 0 rfl ?_
                  refine j_get C kin4 rfl 0 rfl 0 (by decide) kw_126 rfl (v := .ref (AP 0)) rfl dX4_count_141 ?_
                  refine j_perm (fl [cSt G AP xp, [oX a (AP 0) hi sl su pa (AT 0) (AU 0)], [oH hi ha h], [oP pa ga v]]) (bperm [3, 0, 1, 2] 4 rfl (by decide +kernel) rfl) ?_
                  refine j_w (fl [[oS (AP 0) (AP 1) (AP 2) xp.1], [aI G (AP 1) 7 xp.2.1], [aD G (AP 2) 4 (fun k => some (AP (3 + 2 * k)))], cDrs G AP xp.2.2.1 xp.2.2.2, [oX a (AP 0) hi sl su pa (AT 0) (AU 0)], [oH hi ha h], [oP pa ga v]]) rfl ?_
                  refine j_perm (fl [[oS (AP 0) (AP 1) (AP 2) xp.1], [aI G (AP 1) 7 xp.2.1], [aD G (AP 2) 4 (fun k => some (AP (3 + 2 * k)))], [oX a (AP 0) hi sl su pa (AT 0) (AU 0)], [oH hi ha h], [oP pa ga v], cDrs G AP xp.2.2.1 xp.2.2.2]) (bperm [0, 1, 2, 4, 5, 6, 3] 7 rfl (by decide +kernel) rfl) ?_
                  refine j_get C kin3 rfl 0 rfl 6 (by decide) kw_87 rfl (v := .int (xp.1 6)) rfl dX4_count_144 ?_
                  refine j_perm (fl [[oS (AP 0) (AP 1) (AP 2) xp.1], [aI G (AP 1) 7 xp.2.1], [aD G (AP 2) 4 (fun k => some (AP (3 + 2 * k)))], cDrs G AP xp.2.2.1 xp.2.2.2, [oX a (AP 0) hi sl su pa (AT 0) (AU 0)], [oH hi ha h], [oP pa ga v]]) (bperm [0, 1, 2, 6, 3, 4, 5] 7 rfl (by decide +kernel) rfl) ?_
                  refine j_w (fl [cSt G AP xp, [oX a (AP 0) hi sl su pa (AT 0) (AU 0)], [oH hi ha h], [oP pa ga v]]) rfl ?_
                  refine j_perm (fl [[oX a (AP 0) hi sl su pa (AT 0) (AU 0)], [oH hi ha h], cSt G AP xp, [oP pa ga v]]) (bperm [1, 2, 0, 3] 4 rfl (by decide +kernel) rfl) ?_
                  subst hQ; exact j_iret C hr hk ((show f_X4_count_r h xp v k = xp.1 6 from ((if_neg c3).trans ((if_pos c9).trans ((if_neg c26_0).trans ((if_neg c26_1).trans ((if_neg c26_2).trans ((if_neg c26_3).trans ((if_neg c26_4).trans (if_pos c26_5))))))))).symm) rfl dX4_count_147
                · by_cases c26_13 : k = 13
                  · refine j_tableIn (tgt := 148) C dX4_count_26 (by rw [c26_13] <;> decide) (by rw [c26_13] <;> decide) (by rw [c26_13] <;> rfl) (by decide) ?_
                    refine j_aload_n C dX4_count_148 0 rfl ?_
                    refine j_get C kin4 rfl 0 rfl 4 (by decide) kw_130 rfl (v := .ref pa) rfl dX4_count_149 ?_
                    refine j_get C kin2 rfl 2 rfl 1 (by decide) kw_116 rfl (v := .int (v 1)) rfl dX4_count_152 ?_
                    refine j_perm (fl [[oX a (AP 0) hi sl su pa (AT 0) (AU 0)], [oH hi ha h], cSt G AP xp, [oP pa ga v]]) (bperm [0, 1, 3, 2] 4 rfl (by decide +kernel) rfl) ?_
                    subst hQ; exact j_iret C hr hk ((show f_X4_count_r h xp v k = v 1 from ((if_neg c3).trans ((if_pos c9).trans ((if_neg c26_0).trans ((if_neg c26_1).trans ((if_neg c26_2).trans ((if_neg c26_3).trans ((if_neg c26_4).trans ((if_neg c26_5).trans (if_pos c26_13)))))))))).symm) rfl dX4_count_155
                  · by_cases c26_14 : k = 14
                    · refine j_tableIn (tgt := 156) C dX4_count_26 (by rw [c26_14] <;> decide) (by rw [c26_14] <;> decide) (by rw [c26_14] <;> rfl) (by decide) ?_
                      refine j_aload_n C dX4_count_156 0 rfl ?_
                      refine j_get C kin4 rfl 0 rfl 1 (by decide) kw_127 rfl (v := .ref hi) rfl dX4_count_157 ?_
                      refine j_get C kin1 rfl 1 rfl 2 (by decide) kw_106 rfl (v := .int (h 2)) rfl dX4_count_160 ?_
                      refine j_perm (fl [[oX a (AP 0) hi sl su pa (AT 0) (AU 0)], [oH hi ha h], cSt G AP xp, [oP pa ga v]]) (bperm [0, 1, 3, 2] 4 rfl (by decide +kernel) rfl) ?_
                      subst hQ; exact j_iret C hr hk ((show f_X4_count_r h xp v k = h 2 from ((if_neg c3).trans ((if_pos c9).trans ((if_neg c26_0).trans ((if_neg c26_1).trans ((if_neg c26_2).trans ((if_neg c26_3).trans ((if_neg c26_4).trans ((if_neg c26_5).trans ((if_neg c26_13).trans (if_pos c26_14))))))))))).symm) rfl dX4_count_163
                    · have n26_0 : (k).toInt ≠ 0 := fun h => c26_0 (Int32.toInt_inj.mp h)
                      have n26_1 : (k).toInt ≠ 1 := fun h => c26_1 (Int32.toInt_inj.mp h)
                      have n26_2 : (k).toInt ≠ 2 := fun h => c26_2 (Int32.toInt_inj.mp h)
                      have n26_3 : (k).toInt ≠ 3 := fun h => c26_3 (Int32.toInt_inj.mp h)
                      have n26_4 : (k).toInt ≠ 4 := fun h => c26_4 (Int32.toInt_inj.mp h)
                      have n26_5 : (k).toInt ≠ 5 := fun h => c26_5 (Int32.toInt_inj.mp h)
                      have n26_13 : (k).toInt ≠ 13 := fun h => c26_13 (Int32.toInt_inj.mp h)
                      have n26_14 : (k).toInt ≠ 14 := fun h => c26_14 (Int32.toInt_inj.mp h)
                      by_cases hz26 : (k).toInt < 0 ∨ 14 < (k).toInt
                      · refine j_tableOut (tgt := 164) C dX4_count_26 hz26 (by decide) ?_
                        refine j_bipush (v := (-2)) C dX4_count_164 (by decide) ?_
                        refine j_perm (fl [[oX a (AP 0) hi sl su pa (AT 0) (AU 0)], [oH hi ha h], cSt G AP xp, [oP pa ga v]]) (bperm [0, 1, 3, 2] 4 rfl (by decide +kernel) rfl) ?_
                        subst hQ; exact j_iret C hr hk ((show f_X4_count_r h xp v k = (-2) from ((if_neg c3).trans ((if_pos c9).trans ((if_neg c26_0).trans ((if_neg c26_1).trans ((if_neg c26_2).trans ((if_neg c26_3).trans ((if_neg c26_4).trans ((if_neg c26_5).trans ((if_neg c26_13).trans (if_neg c26_14))))))))))).symm) rfl dX4_count_166
                      · refine j_tableIn (off := 138) (tgt := 164) C dX4_count_26 (by omega) (by omega) (by have hm : (k).toInt = 6 ∨ (k).toInt = 7 ∨ (k).toInt = 8 ∨ (k).toInt = 9 ∨ (k).toInt = 10 ∨ (k).toInt = 11 ∨ (k).toInt = 12 := (by omega); rcases hm with hm | hm | hm | hm | hm | hm | hm <;> (rw [hm]; try rfl)) (by decide) ?_
                        refine j_bipush (v := (-2)) C dX4_count_164 (by decide) ?_
                        refine j_perm (fl [[oX a (AP 0) hi sl su pa (AT 0) (AU 0)], [oH hi ha h], cSt G AP xp, [oP pa ga v]]) (bperm [0, 1, 3, 2] 4 rfl (by decide +kernel) rfl) ?_
                        subst hQ; exact j_iret C hr hk ((show f_X4_count_r h xp v k = (-2) from ((if_neg c3).trans ((if_pos c9).trans ((if_neg c26_0).trans ((if_neg c26_1).trans ((if_neg c26_2).trans ((if_neg c26_3).trans ((if_neg c26_4).trans ((if_neg c26_5).trans ((if_neg c26_13).trans (if_neg c26_14))))))))))).symm) rfl dX4_count_166
    · refine j_aload_n C dX4_count_12 0 rfl ?_
      refine j_get C kin4 rfl 0 rfl 0 (by decide) kw_126 rfl (v := .ref (AP 0)) rfl dX4_count_13 ?_
      refine j_perm (fl [cSt G AP xp, [oX a (AP 0) hi sl su pa (AT 0) (AU 0)], [oH hi ha h], [oP pa ga v]]) (bperm [3, 0, 1, 2] 4 rfl (by decide +kernel) rfl) ?_
      refine j_w (fl [[oS (AP 0) (AP 1) (AP 2) xp.1], [aI G (AP 1) 7 xp.2.1], [aD G (AP 2) 4 (fun k => some (AP (3 + 2 * k)))], cDrs G AP xp.2.2.1 xp.2.2.2, [oX a (AP 0) hi sl su pa (AT 0) (AU 0)], [oH hi ha h], [oP pa ga v]]) rfl ?_
      refine j_perm (fl [[oS (AP 0) (AP 1) (AP 2) xp.1], [aI G (AP 1) 7 xp.2.1], [aD G (AP 2) 4 (fun k => some (AP (3 + 2 * k)))], [oX a (AP 0) hi sl su pa (AT 0) (AU 0)], [oH hi ha h], [oP pa ga v], cDrs G AP xp.2.2.1 xp.2.2.2]) (bperm [0, 1, 2, 4, 5, 6, 3] 7 rfl (by decide +kernel) rfl) ?_
      refine j_get C kin3 rfl 0 rfl 0 (by decide) kw_75 rfl (v := .ref (AP 1)) rfl dX4_count_16 ?_
      refine j_iload_n C dX4_count_19 1 rfl ?_
      refine j_bipush (v := 6) C dX4_count_20 (by decide) ?_
      refine j_isub C dX4_count_22 rfl ?_
      refine j_iald C 1 rfl (vin_m6 c3 c9) (v := xp.2.1 (k - 6).toNatClampNeg) rfl dX4_count_23 ?_
      refine j_perm (fl [[oS (AP 0) (AP 1) (AP 2) xp.1], [aI G (AP 1) 7 xp.2.1], [aD G (AP 2) 4 (fun k => some (AP (3 + 2 * k)))], cDrs G AP xp.2.2.1 xp.2.2.2, [oX a (AP 0) hi sl su pa (AT 0) (AU 0)], [oH hi ha h], [oP pa ga v]]) (bperm [0, 1, 2, 6, 3, 4, 5] 7 rfl (by decide +kernel) rfl) ?_
      refine j_w (fl [cSt G AP xp, [oX a (AP 0) hi sl su pa (AT 0) (AU 0)], [oH hi ha h], [oP pa ga v]]) rfl ?_
      refine j_perm (fl [[oX a (AP 0) hi sl su pa (AT 0) (AU 0)], [oH hi ha h], cSt G AP xp, [oP pa ga v]]) (bperm [1, 2, 0, 3] 4 rfl (by decide +kernel) rfl) ?_
      subst hQ; exact j_iret C hr hk ((show f_X4_count_r h xp v k = xp.2.1 (k - 6).toNatClampNeg from ((if_neg c3).trans (if_neg c9))).symm) rfl dX4_count_24
end
section
/-! FLOATING NUMBERS: what halving, doubling and the fraction of a normal number are -/
/-- the double of a biased exponent and a fraction -/
def nb (E T : Nat) : UInt64 := .ofNat (E * 4503599627370496 + T)
def xE (x : UInt64) : Nat := x.toNat / 4503599627370496
def xT (x : UInt64) : Nat := x.toNat % 4503599627370496
def okX (x : UInt64) : Prop := 1 ≤ xE x ∧ xE x ≤ 2046
theorem nb_toNat {E T : Nat} (hE : E ≤ 2046) (hT : T < 4503599627370496) : (nb E T).toNat = E * 4503599627370496 + T := UInt64.toNat_ofNat_of_lt' (by show _ < 2 ^ 64; omega)
theorem nb_self (x : UInt64) : nb (xE x) (xT x) = x := by
  unfold nb xE xT
  rw [show x.toNat / 4503599627370496 * 4503599627370496 + x.toNat % 4503599627370496 = x.toNat by omega]
  exact UInt64.ofNat_toNat
theorem xT_lt (x : UInt64) : xT x < 4503599627370496 := Nat.mod_lt _ (by decide)
theorem nb_val {E T : Nat} (h1 : 1 ≤ E) (hE : E ≤ 2046) (hT : T < 4503599627370496) : FP.Core.val64 (nb E T) = .fin false (4503599627370496 + T) ((E : Int) - 1075) := by
  unfold FP.Core.val64
  rw [nb_toNat hE hT]
  have e := FP.Core.decode_assemble FP.Core.b64 false E T (by show E < 2 ^ 11; omega) (by show T < 2 ^ 52; omega)
  have a : FP.Core.assemble FP.Core.b64 false E T = E * 4503599627370496 + T := by
    show (0 * 2 ^ 11 + E) * 2 ^ 52 + T = _
    omega
  rw [a] at e
  rw [e, if_neg (by show ¬ E = 2 ^ 11 - 1; omega), if_neg (by omega)]
  have q : FP.Core.b64.qmin = -1074 := by decide
  rw [q, show (-1074 : Int) + ((E : Int) - 1) = (E : Int) - 1075 by omega]
  rfl
theorem nb_fits {E T : Nat} (h1 : 1 ≤ E) (hE : E ≤ 2046) (hT : T < 4503599627370496) : FP.Core.fits FP.Core.b64 (.fin false (4503599627370496 + T) ((E : Int) - 1075)) := by
  rw [← nb_val h1 hE hT]
  exact FP.Core.val64_fits _
theorem nb_ne {E T : Nat} (h1 : 1 ≤ E) (hE : E ≤ 2046) (hT : T < 4503599627370496) : FP.Core.val64 (nb E T) ≠ .nan := by
  rw [nb_val h1 hE hT]
  exact FP.Core.Datum.noConfusion
theorem n64_of {x : UInt64} (h : FP.Core.val64 x ≠ .nan) : vf_n64 x := by
  have h1 := (FP.Core.ne_nan x).mp h
  unfold vf_n64
  rw [UInt64.le_iff_toNat_le, FP.Core.mask_toNat]
  exact h1
theorem nb_n64 {E T : Nat} (h1 : 1 ≤ E) (hE : E ≤ 2046) (hT : T < 4503599627370496) : vf_n64 (nb E T) := n64_of (nb_ne h1 hE hT)
theorem two_val : FP.Core.val64 4611686018427387904 = .fin false 4503599627370496 (-51) := by decide +kernel
theorem c52_val : FP.Core.val64 4841369599423283200 = .fin false 4503599627370496 0 := by decide +kernel
theorem nb_half {E T : Nat} (h1 : 1 ≤ E) (hE : E + 1 ≤ 2046) (hT : T < 4503599627370496) : FP.ddiv (nb (E + 1) T) 4611686018427387904 = nb E T := by
  have v : FP.Core.val64 (FP.Core.ddiv (nb (E + 1) T) 4611686018427387904) = FP.Core.val64 (nb E T) := by
    rw [FP.Core.val64_ddiv, nb_val (by omega) hE hT, two_val, nb_val h1 (by omega) hT]
    show FP.Core.roundRatio FP.Core.b64 false (4503599627370496 + T) 4503599627370496 (((E + 1 : Nat) : Int) - 1075 - (-51)) = _
    refine FP.Core.roundRatio_exact FP.Core.good_b64 (by decide) (nb_fits h1 (by omega) hT) ?_
    rw [show (((E + 1 : Nat) : Int) - 1075 - (-51) - ((E : Int) - 1075)).toNat = 52 by omega, show ((E : Int) - 1075 - (((E + 1 : Nat) : Int) - 1075 - (-51))).toNat = 0 by omega]
    omega
  exact FP.Core.val64_inj (by rw [v]; exact nb_ne h1 (by omega) hT) v
theorem nb_dbl {E T : Nat} (h1 : 1 ≤ E) (hE : E + 1 ≤ 2046) (hT : T < 4503599627370496) : FP.dmul (nb E T) 4611686018427387904 = nb (E + 1) T := by
  have v : FP.Core.val64 (FP.Core.dmul (nb E T) 4611686018427387904) = FP.Core.val64 (nb (E + 1) T) := by
    rw [FP.Core.val64_dmul, nb_val h1 (by omega) hT, two_val, nb_val (by omega) hE hT]
    show FP.Core.roundRatio FP.Core.b64 false ((4503599627370496 + T) * 4503599627370496) 1 ((E : Int) - 1075 + (-51)) = _
    refine FP.Core.roundRatio_exact FP.Core.good_b64 (by decide) (nb_fits (by omega) hE hT) ?_
    rw [show ((E : Int) - 1075 + (-51) - (((E + 1 : Nat) : Int) - 1075)).toNat = 0 by omega, show (((E + 1 : Nat) : Int) - 1075 - ((E : Int) - 1075 + (-51))).toNat = 52 by omega]
    omega
  exact FP.Core.val64_inj (by rw [v]; exact nb_ne (by omega) hE hT) v
theorem nb_key {E T : Nat} (hE : E ≤ 2046) (hT : T < 4503599627370496) : FP.Core.dkey (nb E T) = ((E * 4503599627370496 + T : Nat) : Int) := by
  unfold FP.Core.dkey
  rw [nb_toNat hE hT, if_neg (by omega)]
theorem cmp_lt {x y : UInt64} {op : CmpOp} (hx : FP.Core.val64 x ≠ .nan) (hy : FP.Core.val64 y ≠ .nan) : (Op.cmpValue (FP.dcmp x y) op < 0) ↔ FP.Core.dkey x < FP.Core.dkey y := by
  rw [← FP.Core.dcmp_lt_key hx hy]
  show (Op.cmpValue (FP.Core.dcmp x y) op < 0) ↔ _
  obtain ⟨o, ho⟩ := FP.Core.dcmp_of_notNaN ((FP.Core.notNaN_iff x).mpr hx) ((FP.Core.notNaN_iff y).mpr hy)
  rw [show FP.Core.dcmp x y = some o from ho]
  cases o <;> cases op <;> decide
theorem cmp_gt {x y : UInt64} {op : CmpOp} (hx : FP.Core.val64 x ≠ .nan) (hy : FP.Core.val64 y ≠ .nan) : (0 < Op.cmpValue (FP.dcmp x y) op) ↔ FP.Core.dkey y < FP.Core.dkey x := by
  rw [← FP.Core.dcmp_gt_key hx hy]
  show (0 < Op.cmpValue (FP.Core.dcmp x y) op) ↔ _
  obtain ⟨o, ho⟩ := FP.Core.dcmp_of_notNaN ((FP.Core.notNaN_iff x).mpr hx) ((FP.Core.notNaN_iff y).mpr hy)
  rw [show FP.Core.dcmp x y = some o from ho]
  cases o <;> cases op <;> decide
theorem two_ne : FP.Core.val64 4611686018427387904 ≠ .nan := by decide +kernel
theorem one_ne : FP.Core.val64 FP.dconst1 ≠ .nan := by decide +kernel
theorem zero_ne : FP.Core.val64 FP.dconst0 ≠ .nan := by decide +kernel
theorem one_val : FP.Core.val64 FP.dconst1 = .fin false (2 ^ 52) (-52) := by decide +kernel
theorem two_key : FP.Core.dkey 4611686018427387904 = 4611686018427387904 := by decide +kernel
theorem one_key : FP.Core.dkey FP.dconst1 = 4607182418800017408 := by decide +kernel
theorem zero_key : FP.Core.dkey FP.dconst0 = 0 := by decide +kernel
/-- the fraction's bits -/
theorem nb_frac {T : Nat} (hT : T < 4503599627370496) : vf_n64 (FP.dsub (nb 1023 T) FP.dconst1) ∧ vf_n64 (FP.dmul (FP.dsub (nb 1023 T) FP.dconst1) 4841369599423283200) ∧ (FP.d2l (FP.dmul (FP.dsub (nb 1023 T) FP.dconst1) 4841369599423283200)).toInt = (T : Int) := by
  rcases Nat.eq_zero_or_pos T with h0 | h0
  · subst h0
    rw [show nb 1023 0 = FP.dconst1 by decide +kernel]
    unfold vf_n64
    decide +kernel
  · have sb : FP.Core.val64 (FP.Core.dsub (nb 1023 T) FP.dconst1) = FP.Core.roundRatio FP.Core.b64 false T 1 (-52) := by
      rw [FP.Core.val64_dsub, nb_val (by omega) (by omega) hT, one_val]
      have e : FP.Core.exactSum (.fin false (4503599627370496 + T) (((1023 : Nat) : Int) - 1075)) (FP.Core.negate (.fin false (2 ^ 52) (-52))) = .fin false T (-52) := by
        have m : min (((1023 : Nat) : Int) - 1075) (-52) = -52 := by decide
        have u : FP.Core.sumUnits false (4503599627370496 + T) (((1023 : Nat) : Int) - 1075) true (2 ^ 52) (-52) (-52) = (T : Int) := by
          unfold FP.Core.sumUnits FP.Core.inUnits FP.Core.signed
          rw [show (((1023 : Nat) : Int) - 1075 - (-52)).toNat = 0 by decide, show ((-52 : Int) - (-52)).toNat = 0 by decide]
          simp only [Nat.pow_zero, Nat.mul_one, Bool.false_eq_true, if_false, if_true]
          omega
        show FP.Core.Datum.fin (FP.Core.sumSign false true (FP.Core.sumUnits false (4503599627370496 + T) (((1023 : Nat) : Int) - 1075) true (2 ^ 52) (-52) (min (((1023 : Nat) : Int) - 1075) (-52)))) (FP.Core.sumUnits false (4503599627370496 + T) (((1023 : Nat) : Int) - 1075) true (2 ^ 52) (-52) (min (((1023 : Nat) : Int) - 1075) (-52))).natAbs (min (((1023 : Nat) : Int) - 1075) (-52)) = _
        rw [m, u]
        unfold FP.Core.sumSign
        rw [if_neg (by omega), Int.natAbs_natCast, show decide ((T : Int) < 0) = false from decide_eq_false (by omega)]
      rw [e]
      rfl
    obtain ⟨c, q, hf, hv⟩ := FP.Core.natFit FP.Core.good_b64 FP.Core.wide_b64 false (n := T) (by show T ≤ 2 ^ 53; omega)
    have hf' := hf
    obtain ⟨f1, f2, f3, f4⟩ := hf
    have q0 : FP.Core.b64.qmin = -1074 := by decide
    have q1 : FP.Core.b64.qmax = 971 := by decide
    rw [q0] at f2 f4
    rw [q1] at f3
    have f1 : c < 9007199254740992 := f1
    have hq : -52 ≤ q ∧ q < 0 ∧ 4503599627370496 ≤ c := by
      rw [Nat.mul_one] at hv
      by_cases hq0 : 0 ≤ q
      · exfalso
        rw [show (0 - q).toNat = 0 by omega, Nat.pow_zero, Nat.mul_one] at hv
        have p := Nat.two_pow_pos (q - 0).toNat
        rcases f4 with g | g
        · omega
        · have g : 4503599627370496 ≤ c := g
          have := Nat.le_mul_of_pos_right c p
          omega
      · rw [show (q - 0).toNat = 0 by omega, Nat.pow_zero, Nat.mul_one] at hv
        by_cases hq5 : -52 ≤ q
        · refine ⟨hq5, by omega, ?_⟩
          rcases f4 with g | g
          · omega
          · exact g
        · exfalso
          have p : 2 ^ 53 ≤ 2 ^ (0 - q).toNat := Nat.pow_le_pow_right (by decide) (by omega)
          have := Nat.mul_le_mul h0 p
          omega
    have hfit : FP.Core.fits FP.Core.b64 (.fin false c (q - 52)) := ⟨f1, by rw [q0]; omega, by rw [q1]; omega, .inr hq.2.2⟩
    have va : FP.Core.val64 (FP.Core.dsub (nb 1023 T) FP.dconst1) = .fin false c (q - 52) := by
      rw [sb]
      refine FP.Core.roundRatio_exact FP.Core.good_b64 (by decide) hfit ?_
      rw [show ((-52 : Int) - (q - 52)).toNat = (0 - q).toNat by omega, show (q - 52 - (-52)).toNat = (q - 0).toNat by omega]
      exact hv
    have vb : FP.Core.val64 (FP.Core.dmul (FP.Core.dsub (nb 1023 T) FP.dconst1) 4841369599423283200) = .fin false c q := by
      rw [FP.Core.val64_dmul, va, c52_val]
      show FP.Core.roundRatio FP.Core.b64 false (c * 4503599627370496) 1 (q - 52 + 0) = _
      refine FP.Core.roundRatio_exact FP.Core.good_b64 (by decide) hf' ?_
      rw [show (q - 52 + 0 - q).toNat = 0 by omega, show (q - (q - 52 + 0)).toNat = 52 by omega]
      omega
    refine ⟨n64_of (by show FP.Core.val64 (FP.Core.dsub _ _) ≠ _; rw [va]; exact FP.Core.Datum.noConfusion), n64_of (by show FP.Core.val64 (FP.Core.dmul (FP.Core.dsub _ _) _) ≠ _; rw [vb]; exact FP.Core.Datum.noConfusion), ?_⟩
    have w : FP.Core.DInt (Int64.ofInt (T : Int)).toInt (FP.Core.dmul (FP.Core.dsub (nb 1023 T) FP.dconst1) 4841369599423283200) := by
      rw [Int64.toInt_ofInt_of_le (by omega) (by omega)]
      show FP.Core.Whole _ (FP.Core.val64 _)
      rw [vb]
      show FP.Core.signed false (c * 2 ^ q.toNat) = (T : Int) * ((2 ^ (-q).toNat : Nat) : Int)
      rw [show q.toNat = (q - 0).toNat by omega, show (-q).toNat = (0 - q).toNat by omega]
      rw [Nat.mul_one] at hv
      rw [← hv]
      show ((T * 2 ^ (0 - q).toNat : Nat) : Int) = _
      exact Int.natCast_mul _ _
    have := FP.Core.d2l_int w
    show (FP.Core.d2l _).toInt = _
    rw [this, Int64.toInt_ofInt_of_le (by omega) (by omega)]
theorem shl52 {e : Int32} {E T : Nat} {d : Int64} (he : e.toInt = (E : Int) - 1023) (h1 : 1 ≤ E) (hE : E ≤ 2046) (hT : T < 4503599627370496) (hd : d.toInt = (T : Int)) : ((e + 1023).toInt64 <<< ((52 : Int32).toInt64 &&& 63)) + d = (nb E T).toInt64 := by
  have e1 : (e + 1023).toInt = (E : Int) := by
    rw [Int32.toInt_add, he, show (1023 : Int32).toInt = 1023 by decide, Int.bmod_eq_of_le (by omega) (by omega)]
    omega
  have e2 : (e + 1023).toInt64 = Int64.ofNat E := by
    apply Int64.toInt_inj.mp
    rw [Int32.toInt_toInt64, e1, Int64.toInt_ofNat_of_lt (by omega)]
  have e3 : d = Int64.ofNat T := by
    apply Int64.toInt_inj.mp
    rw [hd, Int64.toInt_ofNat_of_lt (by omega)]
  rw [e2, e3, show ((52 : Int32).toInt64 &&& 63) = 52 by decide]
  apply Int64.toBitVec_inj.mp
  apply BitVec.eq_of_toNat_eq
  rw [Int64.toBitVec_add, Int64.toBitVec_shiftLeft, show ((52 : Int64).toBitVec.smod 64) = 52#64 by decide]
  show ((BitVec.ofNat 64 E <<< 52#64) + BitVec.ofNat 64 T).toNat = (BitVec.ofNat 64 (E * 4503599627370496 + T)).toNat
  rw [BitVec.toNat_add, BitVec.shiftLeft_eq', BitVec.toNat_shiftLeft, show (52#64).toNat = 52 by decide, BitVec.toNat_ofNat, BitVec.toNat_ofNat, BitVec.toNat_ofNat, Nat.shiftLeft_eq]
  rw [Nat.mod_eq_of_lt (show E < 2 ^ 64 by omega), Nat.mod_eq_of_lt (show T < 2 ^ 64 by omega), Nat.mod_eq_of_lt (show E * 2 ^ 52 < 2 ^ 64 by omega)]
end
section
/-! FLOATING NUMBERS: the class own bits -/
theorem okX_cmp0 {x : UInt64} (hx : okX x) : 0 < Op.cmpValue (FP.dcmp x FP.dconst0) .l := by
  have h := xT_lt x
  rw [← nb_self x, cmp_gt (nb_ne hx.1 hx.2 h) zero_ne, zero_key, nb_key hx.2 h]
  have := hx.1
  omega
theorem cmp0_zero {x : UInt64} (hx : x = 0) : ¬ 0 < Op.cmpValue (FP.dcmp x FP.dconst0) .l := by
  subst hx
  decide +kernel
theorem nb_lt2 {E T : Nat} (h1 : 1 ≤ E) (hE : E ≤ 2046) (hT : T < 4503599627370496) : (Op.cmpValue (FP.dcmp (nb E T) 4611686018427387904) .l < 0) ↔ E < 1024 := by
  rw [cmp_lt (nb_ne h1 hE hT) two_ne, two_key, nb_key hE hT]
  omega
theorem nb_ge1 {E T : Nat} (h1 : 1 ≤ E) (hE : E ≤ 2046) (hT : T < 4503599627370496) : (0 ≤ Op.cmpValue (FP.dcmp (nb E T) FP.dconst1) .g) ↔ 1023 ≤ E := by
  rw [← Int32.not_lt, cmp_lt (nb_ne h1 hE hT) one_ne, one_key, nb_key hE hT]
  omega
/-- the loops' invariant: the exponent e counts from E0 down to E -/
def exI (E0 E : Nat) (e : Int32) : Prop := 1 ≤ E ∧ E ≤ 2046 ∧ 1 ≤ E0 ∧ E0 ≤ 2046 ∧ e.toInt = (E0 : Int) - (E : Int)
theorem exI_0 {x : UInt64} (hx : okX x) : exI (xE x) (xE x) 0 := ⟨hx.1, hx.2, hx.1, hx.2, by rw [show (0 : Int32).toInt = 0 by decide]; omega⟩
theorem exI_up {E0 E : Nat} {e : Int32} (h : exI E0 E e) (h2 : 1023 ≤ E) (h3 : E ≤ E0) : exI E0 (E - 1) (e + 1) := by
  obtain ⟨a, b, c, d, f⟩ := h
  refine ⟨by omega, by omega, c, d, ?_⟩
  rw [Int32.toInt_add, f, show (1 : Int32).toInt = 1 by decide, Int.bmod_eq_of_le (by omega) (by omega)]
  omega
theorem exI_dn {E0 E : Nat} {e : Int32} (h : exI E0 E e) (h2 : E ≤ 1022) : exI E0 (E + 1) (e + (-1)) := by
  obtain ⟨a, b, c, d, f⟩ := h
  refine ⟨by omega, by omega, c, d, ?_⟩
  rw [Int32.toInt_add, f, show (-1 : Int32).toInt = -1 by decide, Int.bmod_eq_of_le (by omega) (by omega)]
  omega
theorem exI_n1 {E0 E : Nat} {e : Int32} (h : exI E0 E e) (h2 : 1024 ≤ E) : ¬ 1023 ≤ e := fun g => by
  have g := Int32.le_iff_toInt_le.mp g
  obtain ⟨a, b, c, d, f⟩ := h
  rw [show (1023 : Int32).toInt = 1023 by decide] at g
  omega
theorem exI_n2 {E0 E : Nat} {e : Int32} (h : exI E0 E e) (h2 : E ≤ 1022) : ¬ e ≤ -1022 := fun g => by
  have g := Int32.le_iff_toInt_le.mp g
  obtain ⟨a, b, c, d, f⟩ := h
  rw [show (-1022 : Int32).toInt = -1022 by decide] at g
  omega
theorem exI_end {x : UInt64} {e : Int32} {E : Nat} (h : exI (xE x) E e) (h2 : E = 1023) : ((e + 1023).toInt64 <<< ((52 : Int32).toInt64 &&& 63)) + FP.d2l (FP.dmul (FP.dsub (nb E (xT x)) FP.dconst1) 4841369599423283200) = x.toInt64 := by
  subst h2
  obtain ⟨a, b, c, d, f⟩ := h
  rw [shl52 (E := xE x) (T := xT x) f c d (xT_lt x) (nb_frac (xT_lt x)).2.2, nb_self]
set_option maxRecDepth 100000 in
set_option maxHeartbeats 4000000 in
theorem m_X4_doubleBits (l : Launch) (G : GG) (x : UInt64) (hx : x = 0 ∨ okX x) : CtL l yX4_doubleBits cX4_doubleBits 7 (some .long) (RM 0) G [.double x] ([]) (x.toInt64) ([]) := by
  refine ct_L RX4 [(0, .double x)] rfl (by decide +kernel) (Nat.le_of_ble_eq_true rfl) rfl ?_
  intro p e s m args below meth c A C hr hk hnm
  generalize hQ : (MQ below (PostL G A (x.toInt64) ([])) args s (RM 0).cells (RM 0).slots A) = Q
  refine j_dload_n C dX4_doubleBits_0 0 rfl ?_
  refine j_dconst0 C dX4_doubleBits_1 ?_
  refine j_dcmp C dX4_doubleBits_2 ?_
  refine j_if_gt (tgt := 8) C dX4_doubleBits_3 (by decide) (fun c3 => ?_) (fun c3 => ?_)
  · refine j_dload_n C dX4_doubleBits_8 0 rfl ?_
    refine j_dstore_n C [(2, .double x), (0, .double x)] dX4_doubleBits_9 (by decide) rfl ?_
    refine j_iconst (v := 0) C dX4_doubleBits_10 (by decide) ?_
    refine j_istore C [(4, .int 0), (2, .double x), (0, .double x)] dX4_doubleBits_11 (by decide) rfl ?_
    have L1 : ∀ (n : Nat) (E : Nat) (ev : Int32), n = E - 1023 → E ≤ xE x ∨ E ≤ 1023 → exI (xE x) E ev → WJ p l e (RM 0) s m args below meth c G A 7 0 0 Q ([]) [(4, .int ev), (2, .double (nb E (xT x))), (0, .double x)] 13 [] := by
      intro n
      induction n with
      | zero =>
        intro E ev hn hE hI
        refine j_dload_n C dX4_doubleBits_13 1 rfl ?_
        refine j_ldc2d (v := 4611686018427387904) C kw_292 dX4_doubleBits_14 ?_
        refine j_dcmp C dX4_doubleBits_17 ?_
        refine j_if_lt (tgt := 41) C dX4_doubleBits_18 (by decide) (fun c18 => ?_) (fun h => absurd ((nb_lt2 hI.1 hI.2.1 (xT_lt x)).mpr (by omega)) h)
        have L2 : ∀ (n : Nat) (E : Nat) (ev : Int32), n = 1023 - E → E ≤ 1023 → exI (xE x) E ev → WJ p l e (RM 0) s m args below meth c G A 7 0 0 Q ([]) [(4, .int ev), (2, .double (nb E (xT x))), (0, .double x)] 41 [] := by
          intro n
          induction n with
          | zero =>
            intro E ev hn hE hI
            refine j_dload_n C dX4_doubleBits_41 1 rfl ?_
            refine j_dconst1 C dX4_doubleBits_42 ?_
            refine j_dcmp C dX4_doubleBits_43 ?_
            refine j_if_ge (tgt := 67) C dX4_doubleBits_44 (by decide) (fun c44 => ?_) (fun h => absurd ((nb_ge1 hI.1 hI.2.1 (xT_lt x)).mpr (by omega)) h)
            refine j_dload_n C dX4_doubleBits_67 1 rfl ?_
            refine j_dconst1 C dX4_doubleBits_68 ?_
            refine j_dsub C dX4_doubleBits_69 (by rw [show E = 1023 by omega]; exact (nb_frac (xT_lt x)).1) ?_
            refine j_ldc2d (v := 4841369599423283200) C kw_293 dX4_doubleBits_70 ?_
            refine j_dmul C dX4_doubleBits_73 (by rw [show E = 1023 by omega]; exact (nb_frac (xT_lt x)).2.1) ?_
            refine j_d2l C dX4_doubleBits_74 ?_
            refine j_lstore C [(5, .long (FP.d2l (FP.dmul (FP.dsub (nb E (xT x)) FP.dconst1) 4841369599423283200))), (4, .int ev), (2, .double (nb E (xT x))), (0, .double x)] dX4_doubleBits_75 (by decide) rfl ?_
            refine j_iload C dX4_doubleBits_77 1 rfl ?_
            refine j_sipush (v := 1023) C dX4_doubleBits_79 (by decide) ?_
            refine j_iadd C dX4_doubleBits_82 rfl ?_
            refine j_i2l C dX4_doubleBits_83 rfl ?_
            refine j_bipush (v := 52) C dX4_doubleBits_84 (by decide) ?_
            refine j_lshl C dX4_doubleBits_86 ?_
            refine j_lload C dX4_doubleBits_87 0 rfl ?_
            refine j_ladd C dX4_doubleBits_89 rfl ?_
            subst hQ; exact j_lret C hr hk (show (((ev + 1023).toInt64) <<< ((52 : Int32).toInt64 &&& 63)) + (FP.d2l (FP.dmul (FP.dsub (nb E (xT x)) FP.dconst1) 4841369599423283200)) = x.toInt64 from (exI_end hI (by omega))) rfl dX4_doubleBits_90
          | succ n ih =>
            intro E ev hn hE hI
            refine j_dload_n C dX4_doubleBits_41 1 rfl ?_
            refine j_dconst1 C dX4_doubleBits_42 ?_
            refine j_dcmp C dX4_doubleBits_43 ?_
            refine j_if_ge (tgt := 67) C dX4_doubleBits_44 (by decide) (fun h => absurd h (mt (nb_ge1 hI.1 hI.2.1 (xT_lt x)).mp (by omega))) (fun c44 => ?_)
            refine j_iload C dX4_doubleBits_47 0 rfl ?_
            refine j_sipush (v := (-1022)) C dX4_doubleBits_49 (by decide) ?_
            refine j_icmp_le (tgt := 67) C dX4_doubleBits_52 (by decide) (fun h => absurd h (exI_n2 hI (by omega))) (fun c52 => ?_)
            refine j_dload_n C dX4_doubleBits_55 1 rfl ?_
            refine j_ldc2d (v := 4611686018427387904) C kw_292 dX4_doubleBits_56 ?_
            refine j_dmul C dX4_doubleBits_59 (by rw [nb_dbl hI.1 (by omega) (xT_lt x)]; exact nb_n64 (by omega) (by omega) (xT_lt x)) ?_
            refine j_dstore_n C [(2, .double (FP.dmul (nb E (xT x)) 4611686018427387904)), (4, .int ev), (0, .double x)] dX4_doubleBits_60 (by decide) rfl ?_
            refine j_iinc (v := ev + (-1)) C [(4, .int (ev + (-1))), (2, .double (FP.dmul (nb E (xT x)) 4611686018427387904)), (0, .double x)] dX4_doubleBits_61 (k := 1) rfl rfl (by decide) rfl ?_
            refine j_goto (tgt := 41) C dX4_doubleBits_64 (by decide) ?_
            exact j_eq rfl (by rw [show nb (E + 1) (xT x) = FP.dmul (nb E (xT x)) 4611686018427387904 from (nb_dbl hI.1 (by omega) (xT_lt x)).symm]) rfl (ih (E + 1) (ev + (-1)) (by omega) (by omega) (exI_dn hI (by omega)))
        exact j_eq rfl rfl rfl (L2 (1023 - E) E ev rfl (by omega) hI)
      | succ n ih =>
        intro E ev hn hE hI
        refine j_dload_n C dX4_doubleBits_13 1 rfl ?_
        refine j_ldc2d (v := 4611686018427387904) C kw_292 dX4_doubleBits_14 ?_
        refine j_dcmp C dX4_doubleBits_17 ?_
        refine j_if_lt (tgt := 41) C dX4_doubleBits_18 (by decide) (fun h => absurd h (mt (nb_lt2 hI.1 hI.2.1 (xT_lt x)).mp (by omega))) (fun c18 => ?_)
        refine j_iload C dX4_doubleBits_21 0 rfl ?_
        refine j_sipush (v := 1023) C dX4_doubleBits_23 (by decide) ?_
        refine j_icmp_ge (tgt := 41) C dX4_doubleBits_26 (by decide) (fun h => absurd h (exI_n1 hI (by omega))) (fun c26 => ?_)
        refine j_dload_n C dX4_doubleBits_29 1 rfl ?_
        refine j_ldc2d (v := 4611686018427387904) C kw_292 dX4_doubleBits_30 ?_
        refine j_ddiv C dX4_doubleBits_33 (by rw [show E = (E - 1) + 1 by omega, nb_half (by omega) (by have := hI.2.1; omega) (xT_lt x)]; exact nb_n64 (by omega) (by have := hI.2.1; omega) (xT_lt x)) ?_
        refine j_dstore_n C [(2, .double (FP.ddiv (nb E (xT x)) 4611686018427387904)), (4, .int ev), (0, .double x)] dX4_doubleBits_34 (by decide) rfl ?_
        refine j_iinc (v := ev + 1) C [(4, .int (ev + 1)), (2, .double (FP.ddiv (nb E (xT x)) 4611686018427387904)), (0, .double x)] dX4_doubleBits_35 (k := 1) rfl rfl (by decide) rfl ?_
        refine j_goto (tgt := 13) C dX4_doubleBits_38 (by decide) ?_
        exact j_eq rfl (by rw [show nb (E - 1) (xT x) = FP.ddiv (nb E (xT x)) 4611686018427387904 from (by have h := nb_half (E := E - 1) (T := xT x) (by omega) (by have := hI.2.1; omega) (xT_lt x); rw [show E - 1 + 1 = E by omega] at h; exact h.symm)]) rfl (ih (E - 1) (ev + 1) (by omega) (by omega) (exI_up hI (by omega) (by omega)))
    exact j_eq rfl (by rw [show nb (xE x) (xT x) = x from (nb_self x)]) rfl (L1 (xE x - 1023) (xE x) 0 rfl (.inl (Nat.le_refl _)) (exI_0 (hx.resolve_left (fun g => absurd c3 (cmp0_zero g)))))
  · refine j_lconst (v := 0) C dX4_doubleBits_6 (by decide) ?_
    subst hQ; exact j_lret C hr hk (show 0 = x.toInt64 from (by rcases hx with rfl | hx; rfl; exact absurd (okX_cmp0 hx) c3)) rfl dX4_doubleBits_7
end
section
/-! FLOATING NUMBERS: floats, quotients, the methods -/
theorem n32_of {x : UInt32} (h : FP.Core.val32 x ≠ .nan) : vf_n32 x := by
  have h1 := (FP.Core.ne_nan32 x).mp h
  unfold vf_n32
  rw [UInt32.le_iff_toNat_le, FP.Core.mask_toNat32]
  exact h1
theorem ne_of_n64 {x : UInt64} (h : vf_n64 x) : FP.Core.val64 x ≠ .nan := by
  refine (FP.Core.ne_nan x).mpr ?_
  unfold vf_n64 at h
  rw [UInt64.le_iff_toNat_le, FP.Core.mask_toNat] at h
  exact h
theorem ne_of_n32 {x : UInt32} (h : vf_n32 x) : FP.Core.val32 x ≠ .nan := by
  refine (FP.Core.ne_nan32 x).mpr ?_
  unfold vf_n32 at h
  rw [UInt32.le_iff_toNat_le, FP.Core.mask_toNat32] at h
  exact h
theorem okX_ne {x : UInt64} (h : x = 0 ∨ okX x) : FP.Core.val64 x ≠ .nan := by
  rcases h with rfl | h
  · exact zero_ne
  · rw [← nb_self x]
    exact nb_ne h.1 h.2 (xT_lt x)
/-- floats: a biased exponent, a fraction -/
def yE (x : UInt32) : Nat := x.toNat / 8388608
def yT (x : UInt32) : Nat := x.toNat % 8388608
def okY (x : UInt32) : Prop := 1 ≤ yE x ∧ yE x ≤ 254
theorem y_val {x : UInt32} (h : okY x) : FP.Core.val32 x = .fin false (8388608 + yT x) ((yE x : Int) - 150) := by
  obtain ⟨h1, h2⟩ := h
  have h3 : yT x < 8388608 := Nat.mod_lt _ (by decide)
  have hx : x.toNat = yE x * 8388608 + yT x := by unfold yE yT; omega
  unfold FP.Core.val32
  rw [hx]
  have e := FP.Core.decode_assemble FP.Core.b32 false (yE x) (yT x) (by show _ < 2 ^ 8; omega) (by show _ < 2 ^ 23; omega)
  have a : FP.Core.assemble FP.Core.b32 false (yE x) (yT x) = yE x * 8388608 + yT x := by
    show (0 * 2 ^ 8 + yE x) * 2 ^ 23 + yT x = _
    omega
  rw [a] at e
  rw [e, if_neg (by show ¬ yE x = 2 ^ 8 - 1; omega), if_neg (by omega)]
  have q : FP.Core.b32.qmin = -149 := by decide
  rw [q, show (-149 : Int) + ((yE x : Int) - 1) = (yE x : Int) - 150 by omega]
  rfl
theorem y_ne {x : UInt32} (h : okY x) : FP.Core.val32 x ≠ .nan := by
  rw [y_val h]
  exact FP.Core.Datum.noConfusion
theorem okY_ne {x : UInt32} (h : x = 0 ∨ okY x) : FP.Core.val32 x ≠ .nan := by
  rcases h with rfl | h
  · decide +kernel
  · exact y_ne h
theorem y_f2d {x : UInt32} (h : okY x) : FP.f2d x = nb (yE x + 896) (yT x * 536870912) := by
  have hn := y_ne h
  have h3 : yT x < 8388608 := Nat.mod_lt _ (by decide)
  have e0 : FP.f2d x = FP.Core.f2d x := by
    unfold FP.f2d
    rw [(FP.Core.notNaN_iff32 x).mpr hn]
    rfl
  have v : FP.Core.val64 (FP.Core.f2d x) = FP.Core.val64 (nb (yE x + 896) (yT x * 536870912)) := by
    rw [FP.Core.val64_f2d, y_val h, nb_val (by omega) (by have := h.2; omega) (by omega)]
    show FP.Core.roundRatio FP.Core.b64 false (8388608 + yT x) 1 ((yE x : Int) - 150) = _
    refine FP.Core.roundRatio_exact FP.Core.good_b64 (by decide) (nb_fits (by omega) (by have := h.2; omega) (by omega)) ?_
    rw [show ((yE x : Int) - 150 - (((yE x + 896 : Nat) : Int) - 1075)).toNat = 29 by omega, show ((((yE x + 896 : Nat) : Int) - 1075) - ((yE x : Int) - 150)).toNat = 0 by omega]
    omega
  rw [e0]
  exact FP.Core.val64_inj (by rw [v]; exact nb_ne (by omega) (by have := h.2; omega) (by omega)) v
theorem y_okX {x : UInt32} (h : x = 0 ∨ okY x) : FP.f2d x = 0 ∨ okX (FP.f2d x) := by
  rcases h with rfl | h
  · exact .inl (by decide +kernel)
  · have h3 : yT x < 8388608 := Nat.mod_lt _ (by decide)
    have h4 := h.2
    have h5 := h.1
    refine .inr ?_
    rw [y_f2d h]
    unfold okX xE
    rw [nb_toNat (by omega) (by omega)]
    omega
theorem y_bits {x : UInt32} (h : okY x) : ((((FP.f2d x).toInt64.toUInt64 >>> ((29 : Int32).toInt64.toUInt64 &&& Int64.toUInt64 63)).toInt64) - 7516192768).toInt32 = x.toInt32 := by
  have h3 : yT x < 8388608 := Nat.mod_lt _ (by decide)
  have h4 := h.2
  have h5 := h.1
  have hx : x.toNat = yE x * 8388608 + yT x := by unfold yE yT; omega
  have a : ((FP.f2d x).toInt64.toUInt64 >>> ((29 : Int32).toInt64.toUInt64 &&& Int64.toUInt64 63)).toNat = x.toNat + 7516192768 := by
    rw [show ((29 : Int32).toInt64.toUInt64 &&& Int64.toUInt64 63) = 29 by decide, show (FP.f2d x).toInt64.toUInt64 = FP.f2d x from rfl, y_f2d h, UInt64.toNat_shiftRight, nb_toNat (by omega) (by omega), show (29 : UInt64).toNat % 64 = 29 by decide, Nat.shiftRight_eq_div_pow, hx]
    omega
  generalize ((FP.f2d x).toInt64.toUInt64 >>> ((29 : Int32).toInt64.toUInt64 &&& Int64.toUInt64 63)) = W at a
  have b : W.toInt64.toInt = (x.toNat : Int) + 7516192768 := by
    show (W.toBitVec).toInt = _
    rw [BitVec.toInt_eq_toNat_of_lt (by show 2 * W.toNat < 2 ^ 64; omega)]
    show (W.toNat : Int) = _
    omega
  apply Int32.toInt_inj.mp
  rw [Int64.toInt_toInt32, Int64.toInt_sub, b, show (7516192768 : Int64).toInt = 7516192768 by decide, show (x.toNat : Int) + 7516192768 - 7516192768 = (x.toNat : Int) by omega, Int.bmod_eq_of_le (m := 2 ^ 64) (by omega) (by omega), Int.bmod_eq_of_le (by omega) (by omega)]
  show (x.toNat : Int) = (x.toBitVec).toInt
  rw [BitVec.toInt_eq_toNat_of_lt (by show 2 * x.toNat < 2 ^ 32; omega)]
  rfl
theorem y_nz {x : UInt32} (h : okY x) : ¬ (FP.f2d x).toInt64 = 0 := fun g => by
  have h3 : yT x < 8388608 := Nat.mod_lt _ (by decide)
  have h4 := h.2
  have h5 := h.1
  have : (FP.f2d x).toInt64.toUInt64.toNat = (0 : Int64).toUInt64.toNat := by rw [g]
  rw [show (FP.f2d x).toInt64.toUInt64.toNat = (FP.f2d x).toNat from rfl, y_f2d h, nb_toNat (by omega) (by omega), show (0 : Int64).toUInt64.toNat = 0 by decide] at this
  omega
set_option maxRecDepth 100000 in
set_option maxHeartbeats 4000000 in
theorem m_X4_floatBits (l : Launch) (G : GG) (x : UInt32) (hx : x = 0 ∨ okY x) : CtI l yX4_floatBits cX4_floatBits 5 (some .int) (RM 1) G [.float x] ([]) (x.toInt32) ([]) := by
  refine ct_I RX4 [(0, .float x)] rfl (by decide +kernel) (Nat.le_of_ble_eq_true rfl) rfl ?_
  intro p e s m args below meth c A C hr hk hnm
  generalize hQ : (MQ below (PostI G A (x.toInt32) ([])) args s (RM 1).cells (RM 1).slots A) = Q
  refine j_fload_n C dX4_floatBits_0 0 rfl ?_
  refine j_f2d C dX4_floatBits_1 (n64_of (okX_ne (y_okX hx))) ?_
  refine j_pureS_l (r := (FP.f2d x).toInt64) C (m_X4_doubleBits l G (FP.f2d x) (y_okX hx)) 1 (gS kw_289 kw_290 kw_1 kw_291) (by decide +kernel) ⟨(Nat.le_of_ble_eq_true rfl), (Nat.le_of_ble_eq_true rfl)⟩ rfl rfl (Nat.le_of_ble_eq_true rfl) dX4_floatBits_2 ⟨(Nat.le_of_ble_eq_true rfl), (Nat.le_of_ble_eq_true rfl)⟩ ?_
  refine j_lstore_n C [(1, .long ((FP.f2d x).toInt64)), (0, .float x)] dX4_floatBits_5 (by decide) rfl ?_
  refine j_lload_n C dX4_floatBits_6 0 rfl ?_
  refine j_lconst (v := 0) C dX4_floatBits_7 (by decide) ?_
  refine j_lcmp C dX4_floatBits_8 ?_
  refine j_if_ne (tgt := 14) C dX4_floatBits_9 (by decide) (fun c9 => ?_) (fun c9 => ?_)
  · refine j_lload_n C dX4_floatBits_14 0 rfl ?_
    refine j_bipush (v := 29) C dX4_floatBits_15 (by decide) ?_
    refine j_lushr C dX4_floatBits_17 ?_
    refine j_lstore_n C [(3, .long ((((FP.f2d x).toInt64).toUInt64 >>> ((29 : Int32).toInt64.toUInt64 &&& Int64.toUInt64 63)).toInt64)), (1, .long ((FP.f2d x).toInt64)), (0, .float x)] dX4_floatBits_18 (by decide) rfl ?_
    refine j_lload_n C dX4_floatBits_19 0 rfl ?_
    refine j_ldc2 (v := 7516192768) C kw_294 dX4_floatBits_20 ?_
    refine j_lsub C dX4_floatBits_23 rfl ?_
    refine j_l2i C dX4_floatBits_24 rfl ?_
    subst hQ; exact j_iret C hr hk (show (((((FP.f2d x).toInt64).toUInt64 >>> ((29 : Int32).toInt64.toUInt64 &&& Int64.toUInt64 63)).toInt64) - 7516192768).toInt32 = x.toInt32 from (by rcases hx with rfl | hx; exact absurd ((lg_cmp_eq _ _).mpr (by decide +kernel)) c9; exact y_bits hx)) rfl dX4_floatBits_25
  · refine j_iconst (v := 0) C dX4_floatBits_12 (by decide) ?_
    subst hQ; exact j_iret C hr hk (show 0 = x.toInt32 from (by rcases hx with rfl | hx; rfl; exact absurd ((lg_cmp_eq _ _).mp c9) (y_nz hx))) rfl dX4_floatBits_13
end
section
/-! FLOATING NUMBERS: the shares -/
def shk (a b : Nat) : Bool := decide (FP.ddiv (FP.i2d (nI a)) (FP.i2d (nI b)) &&& 0x7fffffffffffffff ≤ 0x7ff0000000000000) && (decide (FP.d2f (FP.ddiv (FP.i2d (nI a)) (FP.i2d (nI b))) &&& 0x7fffffff ≤ 0x7f800000) && (decide (FP.d2f (FP.ddiv (FP.i2d (nI a)) (FP.i2d (nI b))) = 0) || (decide (1 ≤ yE (FP.d2f (FP.ddiv (FP.i2d (nI a)) (FP.i2d (nI b))))) && decide (yE (FP.d2f (FP.ddiv (FP.i2d (nI a)) (FP.i2d (nI b)))) ≤ 254))))
theorem sh_tab : ((List.range 101).all fun b => (List.range (b + 1)).all fun a => decide (b = 0) || shk a b) = true := by decide +kernel
theorem sh_ab {a b : Nat} (ha : a ≤ b) (hb : b < 101) (h0 : 0 < b) : vf_n64 (FP.ddiv (FP.i2d (nI a)) (FP.i2d (nI b))) ∧ vf_n32 (FP.d2f (FP.ddiv (FP.i2d (nI a)) (FP.i2d (nI b)))) ∧ (FP.d2f (FP.ddiv (FP.i2d (nI a)) (FP.i2d (nI b))) = 0 ∨ okY (FP.d2f (FP.ddiv (FP.i2d (nI a)) (FP.i2d (nI b))))) := by
  have h := List.all_eq_true.mp sh_tab b (List.mem_range.mpr hb)
  have h := List.all_eq_true.mp h a (List.mem_range.mpr (by omega))
  simp only [shk, Bool.or_eq_true, Bool.and_eq_true, decide_eq_true_eq] at h
  rcases h with h | h
  · omega
  · exact ⟨h.1, h.2.1, h.2.2⟩
end
section
/-! FLOATING NUMBERS: share and mean -/
theorem cnt_23 (f : Nat → Int8) : ∀ i : Nat, ∃ p q : Nat, cntH f 2 i = nI p ∧ cntH f 3 i = nI q ∧ p + q ≤ i
  | 0 => ⟨0, 0, rfl, rfl, by omega⟩
  | i + 1 => by
    obtain ⟨p, q, h1, h2, h3⟩ := cnt_23 f i
    rw [cntH, cntH, h1, h2]
    by_cases c2 : (f i).toInt32 = 2
    · rw [if_pos c2, if_neg (by rw [c2]; decide), nI_1]
      exact ⟨p + 1, q, rfl, rfl, by omega⟩
    · rw [if_neg c2]
      by_cases c3 : (f i).toInt32 = 3
      · rw [if_pos c3, nI_1]
        exact ⟨p, q + 1, rfl, rfl, by omega⟩
      · rw [if_neg c3]
        exact ⟨p, q, rfl, rfl, by omega⟩
def shP (x y : Int32) : Prop := vf_n64 (FP.ddiv (FP.i2d x) (FP.i2d y)) ∧ vf_n32 (FP.d2f (FP.ddiv (FP.i2d x) (FP.i2d y))) ∧ (FP.d2f (FP.ddiv (FP.i2d x) (FP.i2d y)) = 0 ∨ okY (FP.d2f (FP.ddiv (FP.i2d x) (FP.i2d y))))
theorem sh_pq {x y : Int32} {p q : Nat} (hx : x = nI p) (hy : y = nI q) (h : p + q ≤ 100) (h0 : ¬ x + y = 0) : shP x (x + y) := by
  subst hx hy
  rw [nI_add] at h0 ⊢
  refine sh_ab (by omega) (by omega) ?_
  rcases Nat.eq_zero_or_pos (p + q) with g | g
  · rw [g] at h0
    exact absurd nI_0 h0
  · exact g
theorem sh_X4 {v : DO} {f : Nat → Int8} (h0 : ¬ f_X0_hoursThatAre_r v f 2 + f_X0_hoursThatAre_r v f 3 ≤ 0) : shP (f_X0_hoursThatAre_r v f 2) (f_X0_hoursThatAre_r v f 2 + f_X0_hoursThatAre_r v f 3) := by
  obtain ⟨p, q, h1, h2, h3⟩ := cnt_23 f 100
  exact sh_pq h1 h2 h3 (fun g => h0 (by rw [g]; decide))
noncomputable def f_X4_share_rq2 (xp : StV) (k : Int32) : Int32 := f_X0_hoursThatAre_r (xp.2.2.1 k.toNatClampNeg) (xp.2.2.2 k.toNatClampNeg) 2
noncomputable def f_X4_share_rq3 (xp : StV) (k : Int32) : Int32 := f_X0_hoursThatAre_r (xp.2.2.1 k.toNatClampNeg) (xp.2.2.2 k.toNatClampNeg) 3
noncomputable def f_X4_share_rq4 (xp : StV) (k : Int32) : Int32 := (FP.d2f (FP.ddiv (FP.i2d (f_X4_share_rq2 xp k)) (FP.i2d ((f_X4_share_rq2 xp k) + (f_X4_share_rq3 xp k))))).toInt32
noncomputable def f_X4_share_x5 (xp : StV) (k : Int32) : Int32 := (if (f_X4_share_rq2 xp k) + (f_X4_share_rq3 xp k) ≤ 0 then (-6) else (f_X4_share_rq4 xp k))
noncomputable def f_X4_share_r (xp : StV) (k : Int32) : Int32 := (if f_X4_isDrive_r k = 0 then (-1) else (f_X4_share_x5 xp k))
set_option maxRecDepth 100000 in
set_option maxHeartbeats 4000000 in
theorem m_X4_share (l : Launch) (G : GG) (a hi sl su pa : Nat) (AP AT AU : Nat → Nat) (xp : StV) (k : Int32)  : CtI l yX4_share cX4_share 4 (some .int) (RM 2) G [.ref a, .int k] (fl [[oX a (AP 0) hi sl su pa (AT 0) (AU 0)], cSt G AP xp]) (f_X4_share_r xp k) (fl [[oX a (AP 0) hi sl su pa (AT 0) (AU 0)], cSt G AP xp]) := by
  refine ct_I RX4 [(0, .ref a), (1, .int k)] rfl (by decide +kernel) (Nat.le_of_ble_eq_true rfl) rfl ?_
  intro p e s m args below meth c A C hr hk hnm
  generalize hQ : (MQ below (PostI G A (f_X4_share_r xp k) (fl [[oX a (AP 0) hi sl su pa (AT 0) (AU 0)], cSt G AP xp])) args s (RM 2).cells (RM 2).slots A) = Q
  refine j_iload_n C dX4_share_0 1 rfl ?_
  refine j_pureS_i (r := f_X4_isDrive_r k) C (m_X4_isDrive l G k) 1 (gS kw_239 kw_240 kw_1 kw_241) (by decide +kernel) ⟨(Nat.le_of_ble_eq_true rfl), (Nat.le_of_ble_eq_true rfl)⟩ rfl rfl (Nat.le_of_ble_eq_true rfl) dX4_share_1 ⟨(Nat.le_of_ble_eq_true rfl), (Nat.le_of_ble_eq_true rfl)⟩ ?_
  refine j_if_ne (tgt := 9) C dX4_share_4 (by decide) (fun c4 => ?_) (fun c4 => ?_)
  · refine j_aload_n C dX4_share_9 0 rfl ?_
    refine j_get C kin4 rfl 0 rfl 0 (by decide) kw_126 rfl (v := .ref (AP 0)) rfl dX4_share_10 ?_
    refine j_perm (fl [cSt G AP xp, [oX a (AP 0) hi sl su pa (AT 0) (AU 0)]]) (bperm [1, 0] 2 rfl (by decide +kernel) rfl) ?_
    refine j_w (fl [[oS (AP 0) (AP 1) (AP 2) xp.1], [aI G (AP 1) 7 xp.2.1], [aD G (AP 2) 4 (fun k => some (AP (3 + 2 * k)))], cDrs G AP xp.2.2.1 xp.2.2.2, [oX a (AP 0) hi sl su pa (AT 0) (AU 0)]]) rfl ?_
    refine j_perm (fl [[oS (AP 0) (AP 1) (AP 2) xp.1], [aI G (AP 1) 7 xp.2.1], [aD G (AP 2) 4 (fun k => some (AP (3 + 2 * k)))], [oX a (AP 0) hi sl su pa (AT 0) (AU 0)], cDrs G AP xp.2.2.1 xp.2.2.2]) (bperm [0, 1, 2, 4, 3] 5 rfl (by decide +kernel) rfl) ?_
    refine j_get C kin3 rfl 0 rfl 1 (by decide) kw_77 rfl (v := .ref (AP 2)) rfl dX4_share_13 ?_
    refine j_iload_n C dX4_share_16 1 rfl ?_
    refine j_perm (fl [cDrs G AP xp.2.2.1 xp.2.2.2, [oS (AP 0) (AP 1) (AP 2) xp.1], [aI G (AP 1) 7 xp.2.1], [aD G (AP 2) 4 (fun k => some (AP (3 + 2 * k)))], [oX a (AP 0) hi sl su pa (AT 0) (AU 0)]]) (bperm [4, 0, 1, 2, 3] 5 rfl (by decide +kernel) rfl) ?_
    refine j_perm (fl [[oD (AP (3 + 2 * k.toNatClampNeg)) (AP (4 + 2 * k.toNatClampNeg)) (xp.2.2.1 k.toNatClampNeg)], [aB G (AP (4 + 2 * k.toNatClampNeg)) (xp.2.2.2 k.toNatClampNeg)], cRs G AP xp.2.2.1 xp.2.2.2 k.toNatClampNeg, [oS (AP 0) (AP 1) (AP 2) xp.1], [aI G (AP 1) 7 xp.2.1], [aD G (AP 2) 4 (fun k => some (AP (3 + 2 * k)))], [oX a (AP 0) hi sl su pa (AT 0) (AU 0)]]) (open_at (openDrs G AP xp.2.2.1 xp.2.2.2 k.toNatClampNeg (vin_nat (lt_drive c4)))) ?_
    refine j_perm (fl [[oD (AP (3 + 2 * k.toNatClampNeg)) (AP (4 + 2 * k.toNatClampNeg)) (xp.2.2.1 k.toNatClampNeg)], [aB G (AP (4 + 2 * k.toNatClampNeg)) (xp.2.2.2 k.toNatClampNeg)], [oS (AP 0) (AP 1) (AP 2) xp.1], [aI G (AP 1) 7 xp.2.1], [aD G (AP 2) 4 (fun k => some (AP (3 + 2 * k)))], [oX a (AP 0) hi sl su pa (AT 0) (AU 0)], cRs G AP xp.2.2.1 xp.2.2.2 k.toNatClampNeg]) (bperm [0, 1, 3, 4, 5, 6, 2] 7 rfl (by decide +kernel) rfl) ?_
    refine j_aaldD C 4 rfl (lt_drive c4) (y := AP (3 + 2 * k.toNatClampNeg)) rfl dX4_share_17 ?_
    refine j_iconst (v := 2) C dX4_share_18 (by decide) ?_
    refine j_callV_i (r := f_X0_hoursThatAre_r (xp.2.2.1 k.toNatClampNeg) (xp.2.2.2 k.toNatClampNeg) 2) (wc' := [oD (AP (3 + 2 * k.toNatClampNeg)) (AP (4 + 2 * k.toNatClampNeg)) (xp.2.2.1 k.toNatClampNeg), aB G (AP (4 + 2 * k.toNatClampNeg)) (xp.2.2.2 k.toNatClampNeg)]) C (m_X0_hoursThatAre l G (AP (3 + 2 * k.toNatClampNeg)) (AP (4 + 2 * k.toNatClampNeg)) (xp.2.2.1 k.toNatClampNeg) (xp.2.2.2 k.toNatClampNeg) 2) rfl 0 rfl 1 (gV kw_252 kw_249 kw_250 kw_4 kw_251) (by decide +kernel) ⟨(Nat.le_of_ble_eq_true rfl), (Nat.le_of_ble_eq_true rfl)⟩ rfl rfl (Nat.le_of_ble_eq_true rfl) dX4_share_19 ⟨(Nat.le_of_ble_eq_true rfl), (Nat.le_of_ble_eq_true rfl)⟩ (fl [[oS (AP 0) (AP 1) (AP 2) xp.1], [aI G (AP 1) 7 xp.2.1], [aD G (AP 2) 4 (fun k => some (AP (3 + 2 * k)))], [oX a (AP 0) hi sl su pa (AT 0) (AU 0)], cRs G AP xp.2.2.1 xp.2.2.2 k.toNatClampNeg]) (fl [[oD (AP (3 + 2 * k.toNatClampNeg)) (AP (4 + 2 * k.toNatClampNeg)) (xp.2.2.1 k.toNatClampNeg)], [aB G (AP (4 + 2 * k.toNatClampNeg)) (xp.2.2.2 k.toNatClampNeg)], [oS (AP 0) (AP 1) (AP 2) xp.1], [aI G (AP 1) 7 xp.2.1], [aD G (AP 2) 4 (fun k => some (AP (3 + 2 * k)))], [oX a (AP 0) hi sl su pa (AT 0) (AU 0)], cRs G AP xp.2.2.1 xp.2.2.2 k.toNatClampNeg]) (bperm (bs' := [[oD (AP (3 + 2 * k.toNatClampNeg)) (AP (4 + 2 * k.toNatClampNeg)) (xp.2.2.1 k.toNatClampNeg)], [aB G (AP (4 + 2 * k.toNatClampNeg)) (xp.2.2.2 k.toNatClampNeg)], [oS (AP 0) (AP 1) (AP 2) xp.1], [aI G (AP 1) 7 xp.2.1], [aD G (AP 2) 4 (fun k => some (AP (3 + 2 * k)))], [oX a (AP 0) hi sl su pa (AT 0) (AU 0)], cRs G AP xp.2.2.1 xp.2.2.2 k.toNatClampNeg]) [0, 1, 2, 3, 4, 5, 6] 7 rfl (by decide +kernel) rfl) rfl ?_
    generalize hzw0 : f_X0_hoursThatAre_r (xp.2.2.1 k.toNatClampNeg) (xp.2.2.2 k.toNatClampNeg) 2 = w0
    have hw0 : f_X4_share_rq2 xp k = w0 := by subst hzw0; rfl
    refine j_istore_n C [(2, .int w0), (0, .ref a), (1, .int k)] dX4_share_22 (by decide) rfl ?_
    refine j_iload_n C dX4_share_23 0 rfl ?_
    refine j_aload_n C dX4_share_24 1 rfl ?_
    refine j_get C kin4 rfl 5 rfl 0 (by decide) kw_126 rfl (v := .ref (AP 0)) rfl dX4_share_25 ?_
    refine j_get C kin3 rfl 2 rfl 1 (by decide) kw_77 rfl (v := .ref (AP 2)) rfl dX4_share_28 ?_
    refine j_iload_n C dX4_share_31 2 rfl ?_
    refine j_aaldD C 4 rfl (lt_drive c4) (y := AP (3 + 2 * k.toNatClampNeg)) rfl dX4_share_32 ?_
    refine j_iconst (v := 3) C dX4_share_33 (by decide) ?_
    refine j_callV_i (r := f_X0_hoursThatAre_r (xp.2.2.1 k.toNatClampNeg) (xp.2.2.2 k.toNatClampNeg) 3) (wc' := [oD (AP (3 + 2 * k.toNatClampNeg)) (AP (4 + 2 * k.toNatClampNeg)) (xp.2.2.1 k.toNatClampNeg), aB G (AP (4 + 2 * k.toNatClampNeg)) (xp.2.2.2 k.toNatClampNeg)]) C (m_X0_hoursThatAre l G (AP (3 + 2 * k.toNatClampNeg)) (AP (4 + 2 * k.toNatClampNeg)) (xp.2.2.1 k.toNatClampNeg) (xp.2.2.2 k.toNatClampNeg) 3) rfl 0 rfl 1 (gV kw_252 kw_249 kw_250 kw_4 kw_251) (by decide +kernel) ⟨(Nat.le_of_ble_eq_true rfl), (Nat.le_of_ble_eq_true rfl)⟩ rfl rfl (Nat.le_of_ble_eq_true rfl) dX4_share_34 ⟨(Nat.le_of_ble_eq_true rfl), (Nat.le_of_ble_eq_true rfl)⟩ (fl [[oS (AP 0) (AP 1) (AP 2) xp.1], [aI G (AP 1) 7 xp.2.1], [aD G (AP 2) 4 (fun k => some (AP (3 + 2 * k)))], [oX a (AP 0) hi sl su pa (AT 0) (AU 0)], cRs G AP xp.2.2.1 xp.2.2.2 k.toNatClampNeg]) (fl [[oD (AP (3 + 2 * k.toNatClampNeg)) (AP (4 + 2 * k.toNatClampNeg)) (xp.2.2.1 k.toNatClampNeg)], [aB G (AP (4 + 2 * k.toNatClampNeg)) (xp.2.2.2 k.toNatClampNeg)], [oS (AP 0) (AP 1) (AP 2) xp.1], [aI G (AP 1) 7 xp.2.1], [aD G (AP 2) 4 (fun k => some (AP (3 + 2 * k)))], [oX a (AP 0) hi sl su pa (AT 0) (AU 0)], cRs G AP xp.2.2.1 xp.2.2.2 k.toNatClampNeg]) (bperm (bs' := [[oD (AP (3 + 2 * k.toNatClampNeg)) (AP (4 + 2 * k.toNatClampNeg)) (xp.2.2.1 k.toNatClampNeg)], [aB G (AP (4 + 2 * k.toNatClampNeg)) (xp.2.2.2 k.toNatClampNeg)], [oS (AP 0) (AP 1) (AP 2) xp.1], [aI G (AP 1) 7 xp.2.1], [aD G (AP 2) 4 (fun k => some (AP (3 + 2 * k)))], [oX a (AP 0) hi sl su pa (AT 0) (AU 0)], cRs G AP xp.2.2.1 xp.2.2.2 k.toNatClampNeg]) [0, 1, 2, 3, 4, 5, 6] 7 rfl (by decide +kernel) rfl) rfl ?_
    generalize hzw1 : f_X0_hoursThatAre_r (xp.2.2.1 k.toNatClampNeg) (xp.2.2.2 k.toNatClampNeg) 3 = w1
    have hw1 : f_X4_share_rq3 xp k = w1 := by subst hw0; subst hzw1; rfl
    refine j_iadd C dX4_share_37 rfl ?_
    refine j_istore_n C [(3, .int (w0 + w1)), (2, .int w0), (0, .ref a), (1, .int k)] dX4_share_38 (by decide) rfl ?_
    refine j_iload_n C dX4_share_39 0 rfl ?_
    have K57 : WJ p l e (RM 2) s m args below meth c G A 4 0 0 Q (fl [[oX a (AP 0) hi sl su pa (AT 0) (AU 0)], cSt G AP xp]) [(3, .int (w0 + w1)), (2, .int w0), (0, .ref a), (1, .int k)] 57 [.int (f_X4_share_x5 xp k)] := by
      generalize hw3 : f_X4_share_x5 xp k = w3
      subst hQ; subst hw0 hw1 hw3; exact j_iret C hr hk ((show f_X4_share_r xp k = (f_X4_share_x5 xp k) from (if_neg c4)).symm) rfl dX4_share_57
    refine j_if_le (tgt := 55) C dX4_share_40 (by decide) (fun c40 => ?_) (fun c40 => ?_)
    · refine j_bipush (v := (-6)) C dX4_share_55 (by decide) ?_
      refine j_perm (fl [[oD (AP (3 + 2 * k.toNatClampNeg)) (AP (4 + 2 * k.toNatClampNeg)) (xp.2.2.1 k.toNatClampNeg)], [aB G (AP (4 + 2 * k.toNatClampNeg)) (xp.2.2.2 k.toNatClampNeg)], cRs G AP xp.2.2.1 xp.2.2.2 k.toNatClampNeg, [oS (AP 0) (AP 1) (AP 2) xp.1], [aI G (AP 1) 7 xp.2.1], [aD G (AP 2) 4 (fun k => some (AP (3 + 2 * k)))], [oX a (AP 0) hi sl su pa (AT 0) (AU 0)]]) (bperm [0, 1, 6, 2, 3, 4, 5] 7 rfl (by decide +kernel) rfl) ?_
      refine j_perm (fl [cDrs G AP xp.2.2.1 xp.2.2.2, [oS (AP 0) (AP 1) (AP 2) xp.1], [aI G (AP 1) 7 xp.2.1], [aD G (AP 2) 4 (fun k => some (AP (3 + 2 * k)))], [oX a (AP 0) hi sl su pa (AT 0) (AU 0)]]) (shut_at (bs := [[oD (AP (3 + 2 * k.toNatClampNeg)) (AP (4 + 2 * k.toNatClampNeg)) (xp.2.2.1 k.toNatClampNeg)], [aB G (AP (4 + 2 * k.toNatClampNeg)) (xp.2.2.2 k.toNatClampNeg)], cRs G AP xp.2.2.1 xp.2.2.2 k.toNatClampNeg]) (openDrs G AP xp.2.2.1 xp.2.2.2 k.toNatClampNeg (vin_nat (lt_drive c4))).symm) ?_
      refine j_perm (fl [[oS (AP 0) (AP 1) (AP 2) xp.1], [aI G (AP 1) 7 xp.2.1], [aD G (AP 2) 4 (fun k => some (AP (3 + 2 * k)))], cDrs G AP xp.2.2.1 xp.2.2.2, [oX a (AP 0) hi sl su pa (AT 0) (AU 0)]]) (bperm [1, 2, 3, 0, 4] 5 rfl (by decide +kernel) rfl) ?_
      refine j_w (fl [cSt G AP xp, [oX a (AP 0) hi sl su pa (AT 0) (AU 0)]]) rfl ?_
      refine j_perm (fl [[oX a (AP 0) hi sl su pa (AT 0) (AU 0)], cSt G AP xp]) (bperm [1, 0] 2 rfl (by decide +kernel) rfl) ?_
      subst hw0 hw1; exact j_eq rfl rfl (by rw [show f_X4_share_x5 xp k = (-6) from (if_pos c40)]) K57
    · refine j_iload_n C dX4_share_43 1 rfl ?_
      refine j_i2d C dX4_share_44 ?_
      refine j_iload_n C dX4_share_45 0 rfl ?_
      refine j_i2d C dX4_share_46 ?_
      refine j_ddiv C dX4_share_47 (by subst hw0 hw1; exact (sh_X4 c40).1) ?_
      refine j_d2f C dX4_share_48 (by subst hw0 hw1; exact (sh_X4 c40).2.1) ?_
      refine j_pureS_i (r := (FP.d2f (FP.ddiv (FP.i2d w0) (FP.i2d (w0 + w1)))).toInt32) C (m_X4_floatBits l G (FP.d2f (FP.ddiv (FP.i2d w0) (FP.i2d (w0 + w1)))) (by subst hw0 hw1; exact (sh_X4 c40).2.2)) 1 (gS kw_286 kw_287 kw_1 kw_288) (by decide +kernel) ⟨(Nat.le_of_ble_eq_true rfl), (Nat.le_of_ble_eq_true rfl)⟩ rfl rfl (Nat.le_of_ble_eq_true rfl) dX4_share_49 ⟨(Nat.le_of_ble_eq_true rfl), (Nat.le_of_ble_eq_true rfl)⟩ ?_
      generalize hzw2 : (FP.d2f (FP.ddiv (FP.i2d w0) (FP.i2d (w0 + w1)))).toInt32 = w2
      have hw2 : f_X4_share_rq4 xp k = w2 := by subst hw0 hw1; subst hzw2; rfl
      refine j_goto (tgt := 57) C dX4_share_52 (by decide) ?_
      refine j_perm (fl [[oD (AP (3 + 2 * k.toNatClampNeg)) (AP (4 + 2 * k.toNatClampNeg)) (xp.2.2.1 k.toNatClampNeg)], [aB G (AP (4 + 2 * k.toNatClampNeg)) (xp.2.2.2 k.toNatClampNeg)], cRs G AP xp.2.2.1 xp.2.2.2 k.toNatClampNeg, [oS (AP 0) (AP 1) (AP 2) xp.1], [aI G (AP 1) 7 xp.2.1], [aD G (AP 2) 4 (fun k => some (AP (3 + 2 * k)))], [oX a (AP 0) hi sl su pa (AT 0) (AU 0)]]) (bperm [0, 1, 6, 2, 3, 4, 5] 7 rfl (by decide +kernel) rfl) ?_
      refine j_perm (fl [cDrs G AP xp.2.2.1 xp.2.2.2, [oS (AP 0) (AP 1) (AP 2) xp.1], [aI G (AP 1) 7 xp.2.1], [aD G (AP 2) 4 (fun k => some (AP (3 + 2 * k)))], [oX a (AP 0) hi sl su pa (AT 0) (AU 0)]]) (shut_at (bs := [[oD (AP (3 + 2 * k.toNatClampNeg)) (AP (4 + 2 * k.toNatClampNeg)) (xp.2.2.1 k.toNatClampNeg)], [aB G (AP (4 + 2 * k.toNatClampNeg)) (xp.2.2.2 k.toNatClampNeg)], cRs G AP xp.2.2.1 xp.2.2.2 k.toNatClampNeg]) (openDrs G AP xp.2.2.1 xp.2.2.2 k.toNatClampNeg (vin_nat (lt_drive c4))).symm) ?_
      refine j_perm (fl [[oS (AP 0) (AP 1) (AP 2) xp.1], [aI G (AP 1) 7 xp.2.1], [aD G (AP 2) 4 (fun k => some (AP (3 + 2 * k)))], cDrs G AP xp.2.2.1 xp.2.2.2, [oX a (AP 0) hi sl su pa (AT 0) (AU 0)]]) (bperm [1, 2, 3, 0, 4] 5 rfl (by decide +kernel) rfl) ?_
      refine j_w (fl [cSt G AP xp, [oX a (AP 0) hi sl su pa (AT 0) (AU 0)]]) rfl ?_
      refine j_perm (fl [[oX a (AP 0) hi sl su pa (AT 0) (AU 0)], cSt G AP xp]) (bperm [1, 0] 2 rfl (by decide +kernel) rfl) ?_
      subst hw0 hw1 hw2; exact j_eq rfl rfl (by rw [show f_X4_share_x5 xp k = (f_X4_share_rq4 xp k) from (if_neg c40)]) K57
  · refine j_iconst (v := (-1)) C dX4_share_7 (by decide) ?_
    subst hQ; exact j_iret C hr hk ((show f_X4_share_r xp k = (-1) from (if_pos c4)).symm) rfl dX4_share_8
end
section
/-! MAKING: new objects and arrays; contracts that give addresses; the copy of a static array -/
section MAKE
variable {p : Program} {l : Launch} {e : Env} {R : Room} {s : State} {m : MethodId} {args : Array Value} {below : List Frame} {meth : Method} {c : Code} {cc : ByteArray} {own : String} {G : GG} {A : Nat → Prop} {nL cells slots : Nat} {Q : State → Prop} {w : va_W} {lv : List (Nat × Value)} {pc : Nat} {st : List Value}
theorem j_new (C : Cx p s m args c cc nL own G A) {Cn : String} {T : u_T} {N ci index : Nat} (hin : ∀ w' ∈ u_ws Cn T N, w' ∈ AW) (ty : Nat → FieldType) (hty : ∀ k, k < N → parseFieldDescriptor (T k).2.2.1 = some (ty k)) (hcl : Cond.classLink own index Cn ∈ AW) (hinst : Cond.instantiable Cn N ∈ AW) (hini : Cond.initialized Cn ∈ AW) (hc : vwCl[ci]? = some (Cn, T, N)) {fs : List Value} (hfs : ∀ j, j < N → defaultValue (ty j) = vp_V fs j) (hcells : cells + 1 ≤ R.cells) (hslots : slots + N ≤ R.slots) (d : decode cc pc = .ok (.new index, 3)) (K : ∀ q : Nat, WJ p l e R s m args below meth c G A nL (cells + 1) (slots + N) Q (w ++ [(q, .inr (ci, fs))]) lv (pc + 3) (.ref q :: st)) : WJ p l e R s m args below meth c G A nL cells slots Q w lv pc st := fun H locs ls hP hD hS hl => va_new C.1 C.2.1 C.2.2.2.2.1 hin ty hty C.2.2.2.1 (C.2.2.2.2.1 _ hcl) (C.2.2.2.2.1 _ hinst) (C.2.2.2.2.1 _ hini) C.2.2.2.2.2.1 hP hD hS C.2.2.2.2.2.2.1 hc hfs hcells hslots d (fun q H1 h1 h2 h3 => K q H1 locs ls h1 h2 h3 hl)
theorem j_newaB (C : Cx p s m args c cc nL own G A) {n : Int32} (hn : ¬ n < 0) (hN : n.toNatClampNeg = 100) (hb : 100 * componentBytes .byte ≤ 536870912) (hcells : cells + 1 ≤ R.cells) (hslots : slots + 100 ≤ R.slots) (d : decode cc pc = .ok (.newarray .byte, 2)) (K : ∀ q : Nat, WJ p l e R s m args below meth c G A nL (cells + 1) (slots + 100) Q (w ++ [aB G q (fun _ => 0)]) lv (pc + 2) (.ref q :: st)) : WJ p l e R s m args below meth c G A nL cells slots Q w lv pc (.int n :: st) := fun H locs ls hP hD hS hl => va_newa (atype := .byte) C.1 C.2.1 (C.2.2.2.2.1 _ kw_73) (ty := .byte) rfl C.2.2.2.2.2.1 hP hD hS C.2.2.2.2.2.2.1 (a0 := (100, .inl (fun j => ((fun _ : Nat => (0 : Int8)) j).toInt32))) (fun cA => rfl) hn hN hb hcells hslots d (fun q cA H1 k1 h1 h2 h3 => by
  have r1 := va_nm_byte (k1.2 7 (cA, .byte) rfl).2
  have r2 := va_nm_byte (C.2.2.2.2.2.1.2 0 (G.2.1 0, .byte) rfl).2
  have e1 : cA = G.2.1 0 := Option.some.inj (r1.symm.trans r2)
  subst e1
  exact K q H1 locs ls h1 h2 h3 hl)
theorem j_newaC (C : Cx p s m args c cc nL own G A) {n : Int32} (hn : ¬ n < 0) (hN : n.toNatClampNeg = 80) (hb : 80 * componentBytes .char ≤ 536870912) (hcells : cells + 1 ≤ R.cells) (hslots : slots + 80 ≤ R.slots) (d : decode cc pc = .ok (.newarray .char, 2)) (K : ∀ q : Nat, WJ p l e R s m args below meth c G A nL (cells + 1) (slots + 80) Q (w ++ [aC G q (fun _ => 0)]) lv (pc + 2) (.ref q :: st)) : WJ p l e R s m args below meth c G A nL cells slots Q w lv pc (.int n :: st) := fun H locs ls hP hD hS hl => va_newa (atype := .char) C.1 C.2.1 (C.2.2.2.2.1 _ kw_125) (ty := .char) rfl C.2.2.2.2.2.1 hP hD hS C.2.2.2.2.2.2.1 (a0 := (80, .inl (fun j => ((fun _ : Nat => (0 : UInt16)) j).toUInt32.toInt32))) (fun cA => rfl) hn hN hb hcells hslots d (fun q cA H1 k1 h1 h2 h3 => by
  have r1 := va_nm_char (k1.2 7 (cA, .char) rfl).2
  have r2 := va_nm_char (C.2.2.2.2.2.1.2 1 (G.2.1 1, .char) rfl).2
  have e1 : cA = G.2.1 1 := Option.some.inj (r1.symm.trans r2)
  subst e1
  exact K q H1 locs ls h1 h2 h3 hl)
theorem j_newaI (C : Cx p s m args c cc nL own G A) {n : Int32} {N' : Nat} (hn : ¬ n < 0) (hN : n.toNatClampNeg = N') (hb : N' * componentBytes .int ≤ 536870912) (hcells : cells + 1 ≤ R.cells) (hslots : slots + N' ≤ R.slots) (d : decode cc pc = .ok (.newarray .int, 2)) (K : ∀ q : Nat, WJ p l e R s m args below meth c G A nL (cells + 1) (slots + N') Q (w ++ [aI G q N' (fun _ => 0)]) lv (pc + 2) (.ref q :: st)) : WJ p l e R s m args below meth c G A nL cells slots Q w lv pc (.int n :: st) := fun H locs ls hP hD hS hl => va_newa (atype := .int) C.1 C.2.1 (C.2.2.2.2.1 _ kw_72) (ty := .int) rfl C.2.2.2.2.2.1 hP hD hS C.2.2.2.2.2.2.1 (a0 := (N', .inl (fun _ => 0))) (fun cA => rfl) hn hN hb hcells hslots d (fun q cA H1 k1 h1 h2 h3 => by
  have r1 := va_nm_int (k1.2 7 (cA, .int) rfl).2
  have r2 := va_nm_int (C.2.2.2.2.2.1.2 2 (G.2.1 2, .int) rfl).2
  have e1 : cA = G.2.1 2 := Option.some.inj (r1.symm.trans r2)
  subst e1
  exact K q H1 locs ls h1 h2 h3 hl)
theorem j_newaZ (C : Cx p s m args c cc nL own G A) {n : Int32} {N' : Nat} (hn : ¬ n < 0) (hN : n.toNatClampNeg = N') (hb : N' * componentBytes .boolean ≤ 536870912) (hcells : cells + 1 ≤ R.cells) (hslots : slots + N' ≤ R.slots) (d : decode cc pc = .ok (.newarray .boolean, 2)) (K : ∀ q : Nat, WJ p l e R s m args below meth c G A nL (cells + 1) (slots + N') Q (w ++ [aZ G q N' (fun _ => 0)]) lv (pc + 2) (.ref q :: st)) : WJ p l e R s m args below meth c G A nL cells slots Q w lv pc (.int n :: st) := fun H locs ls hP hD hS hl => va_newa (atype := .boolean) C.1 C.2.1 (C.2.2.2.2.1 _ kw_124) (ty := .boolean) rfl C.2.2.2.2.2.1 hP hD hS C.2.2.2.2.2.2.1 (a0 := (N', .inl (fun _ => 0))) (fun cA => rfl) hn hN hb hcells hslots d (fun q cA H1 k1 h1 h2 h3 => by
  have r1 := va_nm_boolean (k1.2 7 (cA, .boolean) rfl).2
  have r2 := va_nm_boolean (C.2.2.2.2.2.1.2 4 (G.2.1 4, .boolean) rfl).2
  have e1 : cA = G.2.1 4 := Option.some.inj (r1.symm.trans r2)
  subst e1
  exact K q H1 locs ls h1 h2 h3 hl)
theorem j_newqD (C : Cx p s m args c cc nL own G A) {index : Nat} {n : Int32} {N' : Nat} (hcl : Cond.classLink own index "SilentDrives$Drive" ∈ AW) (hn : ¬ n < 0) (hN : n.toNatClampNeg = N') (hb : N' * 4 ≤ 536870912) (hcells : cells + 1 ≤ R.cells) (hslots : slots + N' ≤ R.slots) (d : decode cc pc = .ok (.anewarray index, 3)) (K : ∀ q : Nat, WJ p l e R s m args below meth c G A nL (cells + 1) (slots + N') Q (w ++ [aD G q N' (fun _ => none)]) lv (pc + 3) (.ref q :: st)) : WJ p l e R s m args below meth c G A nL cells slots Q w lv pc (.int n :: st) := fun H locs ls hP hD hS hl => va_newq C.1 C.2.1 C.2.2.2.1 (C.2.2.2.2.1 _ hcl) C.2.2.2.2.2.2.2.1.2.1 C.2.2.2.2.2.1 hP hD hS C.2.2.2.2.2.2.1 hn hN hb hcells hslots d (fun q cA H1 k1 h1 h2 h3 => by
  obtain ⟨_, _, _, _, _, r1⟩ := (k1.2 7 (cA, .object "SilentDrives$Drive") rfl).2
  obtain ⟨_, _, _, _, _, r2⟩ := (C.2.2.2.2.2.1.2 5 (G.2.1 5, .object "SilentDrives$Drive") rfl).2
  have e1 : cA = G.2.1 5 := Option.some.inj (r1.symm.trans r2)
  subst e1
  exact K q H1 locs ls h1 h2 h3 hl)
theorem j_newqS (C : Cx p s m args c cc nL own G A) {index : Nat} {n : Int32} {N' : Nat} (hcl : Cond.classLink own index "SilentDrives$Station" ∈ AW) (hn : ¬ n < 0) (hN : n.toNatClampNeg = N') (hb : N' * 4 ≤ 536870912) (hcells : cells + 1 ≤ R.cells) (hslots : slots + N' ≤ R.slots) (d : decode cc pc = .ok (.anewarray index, 3)) (K : ∀ q : Nat, WJ p l e R s m args below meth c G A nL (cells + 1) (slots + N') Q (w ++ [aS G q N' (fun _ => none)]) lv (pc + 3) (.ref q :: st)) : WJ p l e R s m args below meth c G A nL cells slots Q w lv pc (.int n :: st) := fun H locs ls hP hD hS hl => va_newq C.1 C.2.1 C.2.2.2.1 (C.2.2.2.2.1 _ hcl) C.2.2.2.2.2.2.2.1.2.2 C.2.2.2.2.2.1 hP hD hS C.2.2.2.2.2.2.1 hn hN hb hcells hslots d (fun q cA H1 k1 h1 h2 h3 => by
  obtain ⟨_, _, _, _, _, r1⟩ := (k1.2 7 (cA, .object "SilentDrives$Station") rfl).2
  obtain ⟨_, _, _, _, _, r2⟩ := (C.2.2.2.2.2.1.2 6 (G.2.1 6, .object "SilentDrives$Station") rfl).2
  have e1 : cA = G.2.1 6 := Option.some.inj (r1.symm.trans r2)
  subst e1
  exact K q H1 locs ls h1 h2 h3 hl)
theorem va_P_up {D : va_G} {cl : List vw_C} {ws : va_W} {H : Heap} {q0 a : Nat} {e0 e1 : va_E} (h : va_P D cl ws H) (hq : ws[q0]? = some (a, e0)) (he : va_at D cl (a, e0) H → va_at D cl (a, e1) H) : va_P D cl (ws.set q0 (a, e1)) H := by
  intro k q hk
  by_cases hkq : q0 = k
  · subst hkq
    have hl : q0 < ws.length := (List.getElem?_eq_some_iff.mp hq).1
    rw [List.getElem?_set_self hl] at hk
    cases hk
    exact he (h q0 _ hq)
  · rw [List.getElem?_set_ne hkq] at hk
    exact h k q hk
theorem va_at_q {D : va_G} {cl : List vw_C} {a n : Nat} {cA : ClassId} {f g : Nat → Option Nat} {H : Heap} (hfg : ∀ j, j < n → f j = g j) (h : va_at D cl (a, .inl (cA, n, .inr (.inr (.inr (.inr f))))) H) : va_at D cl (a, .inl (cA, n, .inr (.inr (.inr (.inr g))))) H := by
  have e : vp_cell cA (n, .inr (.inr (.inr (.inr f)))) = vp_cell cA (n, .inr (.inr (.inr (.inr g)))) := arrV_congr (f := fun j => va_rf (f j)) (g := fun j => va_rf (g j)) (fun j hj => congrArg va_rf (hfg j hj))
  show H[a]? = some (vp_cell cA (n, .inr (.inr (.inr (.inr g)))))
  rw [← e]
  exact h
theorem j_arq {a n : Nat} {cA : ClassId} {f g : Nat → Option Nat} (q0 : Nat) (he : w[q0]? = some (a, .inl (cA, n, .inr (.inr (.inr (.inr f)))))) (hfg : ∀ j, j < n → f j = g j) (w2 : va_W) (hw : w.set q0 (a, .inl (cA, n, .inr (.inr (.inr (.inr g))))) = w2) (K : WJ p l e R s m args below meth c G A nL cells slots Q w2 lv pc st) : WJ p l e R s m args below meth c G A nL cells slots Q w lv pc st := by
  subst hw
  exact fun H locs ls hP hD hS hl => K H locs ls (va_P_up hP he (va_at_q hfg)) (hD.set he) hS hl
theorem fl_snoc (bs : List va_W) (x : Nat × va_E) : fl bs ++ [x] = fl (bs ++ [[x]]) := by
  rw [← fl_app, fl_one]
/-- a contract of a constructor: it gives addresses -/
def CtN (l : Launch) (y : MethodName) (b : ByteArray) (n : Nat) (rm : Room) (G : GG) (av : List Value) (w : va_W) {S : Type} (P : S → Prop) (w' : S → va_W) : Prop := ∀ sz : Nat, Met l y (.code y b n none :: AW) rm (PreG G av w sz) (va_Qv P (fun u t => va_P G.1 vwCl (w' u) t.heap ∧ va_D (va_A w sz) (w' u)) (va_A w sz)) rm.cells rm.slots (va_A w sz)
theorem ct_N {l : Launch} {y : MethodName} {b : ByteArray} {n : Nat} {rm : Room} {G : GG} {av : List Value} {w : va_W} {S : Type} {P : S → Prop} {w' : S → va_W} (own : String) (lv0 : List (Nat × Value)) (hcls : y.cls = own) (hpl : plainName y.cls = true) (hn : (lg_sl av).length ≤ n) (hlv : lv_args 0 av = lv0)
    (K : ∀ (p : Program) (e : Env) (s : State) (m : MethodId) (args : Array Value) (below : List Frame) (meth : Method) (c : Code) (A : Nat → Prop), Cx p s m args c b n own G A → meth.sig.returnType = none → meth.locks = false → meth.name = y.name → WJ p l e rm s m args below meth c G A n 0 0 (MQ below (va_Qv P (fun u t => va_P G.1 vwCl (w' u) t.heap ∧ va_D A (w' u)) A) args s rm.cells rm.slots A) w lv0 0 []) : CtN l y b n rm G av w P w' := by
  intro sz
  refine Met.ofW (cc := b) (maxL := n) (ret := none) hpl rfl ?_
  intro p e s m args below meth c s₁ B hml hv
  obtain ⟨rfl, hsz, hP, hK, hD0, hN, hG⟩ := hv
  have hts := atoms_spec (ws := .code y b n none :: AW) B.pre
  have hown : s.vm.findClass own = some m.cls := by rw [← hcls]; exact findClass_of_methodNamed B.named
  subst hsz
  have hD := hD0.self (sz := s.heap.size)
  have hl := lv_entry av (n := n) hn
  rw [lg_entry_eq]
  exact K p e s m _ below meth c (va_A w s.heap.size) ⟨B.exec, B.bytes, hml, hown, fun w h => hts w (List.mem_cons_of_mem _ h), hK, fun q h => Or.inr h, hN, hG⟩ B.returns B.notSynchronized (name_of_methodNamed B.named B.method).1 s.heap [] _ hP hD va_S.rf (hlv ▸ hl)
theorem j_nret (C : Cx p s m args c cc nL own G A) (hr : meth.sig.returnType = none) (hk : meth.locks = false) {S : Type} {P : S → Prop} {w' : S → va_W} (u : S) (hu : P u) (hw : w = w' u) {k n : Nat} (h1 : cells ≤ k) (h2 : slots ≤ n) (d : decode cc pc = .ok (.return_, 1)) : WJ p l e R s m args below meth c G A nL cells slots (MQ below (va_Qv P (fun u t => va_P G.1 vwCl (w' u) t.heap ∧ va_D A (w' u)) A) args s k n A) w lv pc [] := by
  subst hw
  refine j_widen h1 h2 ?_
  intro H locs ls hP hD hS hl
  exact W.vret C.1 C.2.1 hr (fun t ht hW => ⟨⟨u, rfl, hu, by rw [ht]; exact hP, hD⟩, hS.F ht⟩) hS.2.2 d hk
theorem j_callI_n (C : Cx p s m args c cc nL own G A) {y : MethodName} {idx n' : Nat} {b : ByteArray} {rm : Room} {a : Nat} {As st0 : List Value} {wc : va_W} {S : Type} {P : S → Prop} {wc' : S → va_W} (M : CtN l y b n' rm G (.ref a :: As) wc P wc') (nA : Nat) (g : Cond.code y b n' none ∈ AW) (hini : Cond.initialized y.cls ∈ AW) (hlk : Cond.methodLink own idx y ∈ AW) (hinm : Cond.instanceMethod y ∈ AW) (hy1 : y.name = "<init>") (hd : y.cls ≠ "java/lang/invoke/MethodHandle" ∧ y.cls ≠ "java/lang/invoke/VarHandle" ∧ (parseMethodDescriptor y.desc).map (fun d => d.parameters.length) = some nA) (hR : rm.frames + 1 ≤ R.frames ∧ 8 + (n' + 11) + rm.locals ≤ R.locals) (hA' : As.length = nA) (hst : st0 = As.reverse ++ .ref a :: st) (hW : (st.map fun v => v.category).sum ≤ 8) (d : decode cc pc = .ok (.invokespecial idx, 3)) (hf : cells + rm.cells ≤ R.cells ∧ slots + rm.slots ≤ R.slots) (wr : va_W) (hp : w.Perm (wc ++ wr)) (K : ∀ u : S, P u → WJ p l e R s m args below meth c G A nL (cells + rm.cells) (slots + rm.slots) Q (wc' u ++ wr) lv (pc + 3) st) : WJ p l e R s m args below meth c G A nL cells slots Q w lv pc st0 := by
  subst hst
  intro H locs ls hP hD hS hl
  have hP := hP.perm hp
  have hD := hD.perm hp
  have hPc := hP.left
  have hDc := hD.left
  have hFc := free_left hD hS C.2.2.2.2.2.2.1
  refine va_callv (va_runI (As := As) (rest := st) ⟨C.1, C.2.1, C.2.2.1, C.2.2.2.1, C.2.2.2.2.1⟩ (M H.size) (cwI nA C.2.2.2.2.1 (aw_g (aw_1 g)) rfl rfl rfl (C.2.2.2.2.1 _ hini) (C.2.2.2.2.1 _ hlk) (C.2.2.2.2.1 _ hinm) hy1 hd hR) ⟨PreG.blind, fun U hU hW' => ⟨rfl, by rw [hU], by rw [hU]; exact hPc, va_K.moved hW'.alike C.2.2.2.2.2.1, hDc.weaken (fun _ _ _ _ => trivial), NW.warm hW' C.2.2.2.2.2.2.2.1, by rw [hU]; exact ((GS.kept C.2.2.2.2.2.2.2.2 (fun a h1 h2 => hS.2.1 a h1 h2)).narrow hFc).moved hW'.alike⟩⟩ rfl hA' hl.1 rfl (lv_room hW) d hf) hS (fun q _ h => hFc q h) hFc (fun u t H1 locs1 ht hvm hw hB hz1 hk1 hS1 => ?_)
  obtain ⟨hP1, hD1⟩ := hB
  rw [ht] at hP1
  obtain ⟨hP2, hD2⟩ := join_left hP hD hk1 hFc hP1 hD1
  exact K u hw H1 locs1 ls hP2 hD2 hS1 hl
theorem j_callIN_n (C : Cx p s m args c cc nL own G A) {y : MethodName} {idx n' : Nat} {b : ByteArray} {rm : Room} {a : Nat} {As st0 : List Value} {wc : va_W} {S : Type} {P : S → Prop} {wc' : S → va_W} (M : CtN l y b n' rm G (.ref a :: As) wc P wc') (nA : Nat) {host : String} (g : Cond.code y b n' none ∈ AW) (hnest : Cond.methodLinkNest own idx y host ∈ nestL) (hini : Cond.initialized y.cls ∈ AW) (hinm : Cond.instanceMethod y ∈ AW) (hy1 : y.name = "<init>") (hd : y.cls ≠ "java/lang/invoke/MethodHandle" ∧ y.cls ≠ "java/lang/invoke/VarHandle" ∧ (parseMethodDescriptor y.desc).map (fun d => d.parameters.length) = some nA) (hR : rm.frames + 1 ≤ R.frames ∧ 8 + (n' + 11) + rm.locals ≤ R.locals) (hA' : As.length = nA) (hst : st0 = As.reverse ++ .ref a :: st) (hW : (st.map fun v => v.category).sum ≤ 8) (d : decode cc pc = .ok (.invokespecial idx, 3)) (hf : cells + rm.cells ≤ R.cells ∧ slots + rm.slots ≤ R.slots) (wr : va_W) (hp : w.Perm (wc ++ wr)) (K : ∀ u : S, P u → WJ p l e R s m args below meth c G A nL (cells + rm.cells) (slots + rm.slots) Q (wc' u ++ wr) lv (pc + 3) st) : WJ p l e R s m args below meth c G A nL cells slots Q w lv pc st0 := by
  subst hst
  intro H locs ls hP hD hS hl
  have hP := hP.perm hp
  have hD := hD.perm hp
  have hPc := hP.left
  have hDc := hD.left
  have hFc := free_left hD hS C.2.2.2.2.2.2.1
  refine va_callv (va_runIN (As := As) (rest := st) ⟨C.1, C.2.1, C.2.2.1, C.2.2.2.1, C.2.2.2.2.1⟩ (M H.size) ⟨va_cnB nA C.2.2.2.2.1 (aw_g (aw_1 g)) rfl rfl rfl (C.2.2.2.2.2.2.2.1.1 _ hnest) (C.2.2.2.2.1 _ hini) hd hR, hy1, C.2.2.2.2.1 _ hinm⟩ ⟨PreG.blind, fun U hU hW' => ⟨rfl, by rw [hU], by rw [hU]; exact hPc, va_K.moved hW'.alike C.2.2.2.2.2.1, hDc.weaken (fun _ _ _ _ => trivial), NW.warm hW' C.2.2.2.2.2.2.2.1, by rw [hU]; exact ((GS.kept C.2.2.2.2.2.2.2.2 (fun a h1 h2 => hS.2.1 a h1 h2)).narrow hFc).moved hW'.alike⟩⟩ rfl hA' hl.1 rfl (lv_room hW) d hf) hS (fun q _ h => hFc q h) hFc (fun u t H1 locs1 ht hvm hw hB hz1 hk1 hS1 => ?_)
  obtain ⟨hP1, hD1⟩ := hB
  rw [ht] at hP1
  obtain ⟨hP2, hD2⟩ := join_left hP hD hk1 hFc hP1 hD1
  exact K u hw H1 locs1 ls hP2 hD2 hS1 hl
/-- a whole static array of seven ints is copied -/
theorem j_copyS (C : Cx p s m args c cc nL own G A) {idx a t : Nat} {f g : Nat → Int32} (hX : va_T .int t 7 (fun k => .int (f k)) A s s.heap) (hl : Cond.methodLink own idx arraycopyName ∈ AW) (q1 : Nat) (he1 : w[q1]? = some (aI G a 7 g)) (hR : 1 ≤ R.frames) (hlo : 8 + (nativeFrameWords "java/lang/System" "arraycopy" 5 + 11) ≤ R.locals) (hst : (st.map fun v => v.category).sum ≤ 8) (w2 : va_W) (hw : w.set q1 (aI G a 7 f) = w2) (d : decode cc pc = .ok (.invokestatic idx, 3)) (K : WJ p l e R s m args below meth c G A nL cells slots Q w2 lv (pc + 3) st) : WJ p l e R s m args below meth c G A nL cells slots Q w lv pc (.int 7 :: .int 0 :: .ref a :: .int 0 :: .ref t :: st) := by
  subst hw
  intro H locs ls hP hD hS hl9
  have K1 : ∀ (H1 : Heap) (locs1 : List Loc), va_P G.1 vwCl (w.set q1 (a, .inl (G.2.1 2, 7, .inl (va_cpy f g 0 0 7)))) H1 → va_D A (w.set q1 (a, .inl (G.2.1 2, 7, .inl (va_cpy f g 0 0 7)))) → va_S A s.heap H1 locs1 → W p l e R s m args below meth c H1 locs1 cells slots Q (F0 m (pc + 3) ls st) := fun H1 locs1 h1 h2 h3 => K H1 locs1 ls (va_P_at h1 (fun h => va_at_i (fun j hj => (pk_cpy_in (show 0 ≤ j from Nat.zero_le _) (show j < 0 + 7 by omega)).trans (congrArg f (show 0 + (j - 0) = j by omega))) h)) (hD.set he1) h3 hl9
  intro T hT X
  obtain ⟨src, x1, x2, x3, x4, -, x5, x7⟩ := hX
  have y0 : H[t]? = some src := by rw [hS.2.1 t (Array.getElem?_eq_some_iff.mp x1).1 x7]; exact x1
  have y1 : H[a]? = some (vp_cell (G.2.1 2) (7, .inl g)) := hP q1 _ he1
  obtain ⟨x6, k0, hk0, cm0, hkk0⟩ := x2
  obtain ⟨-, k1, hk1, cm1, hkk1⟩ := (C.2.2.2.2.2.1.2 2 (G.2.1 2, .int) rfl).1 7 (fun j => .int (g j))
  have sz : ((arrV (G.2.1 2) 7 (fun j => .int (g j))).slots.size : Int) = 7 := by rw [arrV_size]; rfl
  obtain ⟨vm', X', step⟩ := X.arraycopy C.1 C.2.2.2.1 (C.2.2.2.2.1 _ hl) (C.2.2.2.2.1 _ aw_ac_native) (C.2.2.2.2.1 _ aw_ac_static) (C.2.2.2.2.1 _ aw_ac_ini) (src := t) (dst := a) (cs := src) (cd := vp_cell (G.2.1 2) (7, .inl g)) (srcPos := 0) (destPos := 0) (n := 7) (by rw [hT]; exact y0) (by rw [hT]; exact y1)
    x6 (fun _ h => by cases h) x3 (fun h => by cases h) hk0 hk1 hkk0 hkk1 (by simp [refKind]) (by decide) (by decide) (by decide)
    (by rw [show (0 : Int32).toInt = 0 by decide, show (7 : Int32).toInt = 7 by decide]; omega)
    (by rw [show (0 : Int32).toInt = 0 by decide, show (7 : Int32).toInt = 7 by decide]; show ¬ _ > ((arrV (G.2.1 2) 7 (fun j => .int (g j))).slots.size : Int); rw [sz]; omega)
    (fun vm₁ _ i hi => by
      have hi7 : i < 7 := hi
      have e0 : src.slots.getD ((0 : Int32).toNatClampNeg + i) .null = .int (f i) := by
        rw [show (0 : Int32).toNatClampNeg + i = i from Nat.zero_add i, Array.getD_eq_getD_getElem?, x5 i hi7]
        rfl
      refine ⟨?_, ?_⟩
      · rw [e0]
        rfl
      · rw [e0]
        exact trivial)
    (g := F0 m pc ls (.int 7 :: .int 0 :: .ref a :: .int 0 :: .ref t :: st)) rfl (by rw [C.2.2.1]; exact hl9.1) (rest := st) rfl (by rw [C.2.1]; exact d) hR (by show 2 * 0 + _ + _ ≤ _; omega)
  have e1 : copied src (vp_cell (G.2.1 2) (7, .inl g)) 0 0 7 = vp_cell (G.2.1 2) (7, .inl (va_cpy f g 0 0 7)) := va_copiedX (fun z => .int z) src (G.2.1 2) f g x5 (by decide)
  rw [e1] at X' step
  have hla : a < H.size := (Array.getElem?_eq_some_iff.mp y1).1
  have hheap : ((T.setVm vm').setCell a (vp_cell (G.2.1 2) (7, .inl (va_cpy f g 0 0 7)))).heap = H.setIfInBounds a (vp_cell (G.2.1 2) (7, .inl (va_cpy f g 0 0 7))) := by rw [← hT]; rfl
  have oq : ∀ q : Nat, q ≠ a → (H.setIfInBounds a (vp_cell (G.2.1 2) (7, .inl (va_cpy f g 0 0 7))))[q]? = H[q]? := fun q hq => by simp [Array.getElem?_setIfInBounds, Ne.symm hq]
  obtain ⟨t', a1, b1⟩ := K1 _ _ (hP.set hD he1 (show (H.setIfInBounds a _)[a]? = some _ by simp [Array.getElem?_setIfInBounds, hla]) oq) (hD.set he1) ⟨by simp; exact hS.1, fun q g1 g2 => by
      rw [oq q (fun e => g2 (by rw [e]; exact hD.2 q1 _ he1))]
      exact hS.2.1 q g1 g2, fun q hq => by
      rcases List.mem_append.mp hq with h | h
      · exact hS.2.2 q h
      · obtain ⟨z, -, hz⟩ := List.mem_map.mp h
        rw [← hz]
        exact hD.2 q1 _ he1⟩ _ hheap X'
  exact ⟨t', step t' a1, b1⟩
end MAKE
abbrev fsX0 : List Value := [.int 0, .int 0, .int 0, .int 0, .int 0, .int 0, .int 0, .int 0, .int 0, .int 0, .long 0, .null]
theorem df_X0 : ∀ j, j < 12 → defaultValue (tyX0 j) = vp_V fsX0 j := by
  intro j hj
  rcases (show j = 0 ∨ j = 1 ∨ j = 2 ∨ j = 3 ∨ j = 4 ∨ j = 5 ∨ j = 6 ∨ j = 7 ∨ j = 8 ∨ j = 9 ∨ j = 10 ∨ j = 11 by omega) with rfl | rfl | rfl | rfl | rfl | rfl | rfl | rfl | rfl | rfl | rfl | rfl <;> rfl
abbrev fsX1 : List Value := [.null, .int 0, .int 0]
theorem df_X1 : ∀ j, j < 3 → defaultValue (tyX1 j) = vp_V fsX1 j := by
  intro j hj
  rcases (show j = 0 ∨ j = 1 ∨ j = 2 by omega) with rfl | rfl | rfl <;> rfl
abbrev fsX2 : List Value := [.null, .int 0, .int 0, .int 0, .int 0, .int 0, .int 0]
theorem df_X2 : ∀ j, j < 7 → defaultValue (tyX2 j) = vp_V fsX2 j := by
  intro j hj
  rcases (show j = 0 ∨ j = 1 ∨ j = 2 ∨ j = 3 ∨ j = 4 ∨ j = 5 ∨ j = 6 by omega) with rfl | rfl | rfl | rfl | rfl | rfl | rfl <;> rfl
abbrev fsX3 : List Value := [.null, .null, .int 0, .int 0, .int 0, .int 0, .int 0]
theorem df_X3 : ∀ j, j < 7 → defaultValue (tyX3 j) = vp_V fsX3 j := by
  intro j hj
  rcases (show j = 0 ∨ j = 1 ∨ j = 2 ∨ j = 3 ∨ j = 4 ∨ j = 5 ∨ j = 6 by omega) with rfl | rfl | rfl | rfl | rfl | rfl | rfl <;> rfl
abbrev fsX4 : List Value := [.null, .null, .null, .null, .null, .null, .null]
theorem df_X4 : ∀ j, j < 7 → defaultValue (tyX4 j) = vp_V fsX4 j := by
  intro j hj
  rcases (show j = 0 ∨ j = 1 ∨ j = 2 ∨ j = 3 ∨ j = 4 ∨ j = 5 ∨ j = 6 by omega) with rfl | rfl | rfl | rfl | rfl | rfl | rfl <;> rfl
end
section
/-! CONSTRUCTORS -/
def zI : Nat → Int32 := fun _ => 0
def zD : DO := (fun _ => 0, 0)
def dv0 : DO := (upd (upd (fun _ => 0) 0 60) 8 1, 0)
def hv0 : Nat → Int8 := fun _ => 0
def stv0 : StV := (zI, vFirst, (fun _ => dv0), (fun _ => hv0))
set_option maxRecDepth 100000 in
set_option maxHeartbeats 4000000 in
theorem m_X0_init (l : Launch) (G : GG) (a : Nat) : CtN l yX0_init cX0_init 1 (RC 1 1 100) G [.ref a] ([(a, .inr (0, [.int (zD.1 0), .int (zD.1 1), .int (zD.1 2), .int (zD.1 3), .int (b01 (zD.1 4)), .int (zD.1 5), .int (zD.1 6), .int (zD.1 7), .int (zD.1 8), .int (zD.1 9), .long zD.2, .null]))]) (fun (u : Nat) => True) (fun (u : Nat) => [oD a u dv0, aB G u hv0]) := by
  refine ct_N RX0 [(0, .ref a)] rfl (by decide +kernel) (Nat.le_of_ble_eq_true rfl) rfl ?_
  intro p e s m args below meth c A C hr hk hnm
  generalize hQ : (MQ below (va_Qv (fun (u : Nat) => True) (fun u t => va_P G.1 vwCl ((fun (u : Nat) => [oD a u dv0, aB G u hv0]) u) t.heap ∧ va_D A ((fun (u : Nat) => [oD a u dv0, aB G u hv0]) u)) A) args s (RC 1 1 100).cells (RC 1 1 100).slots A) = Q
  refine j_aload_n C dX0_init_0 0 rfl ?_
  refine j_objinit C kw_29 rfl (Nat.le_of_ble_eq_true rfl) (Nat.le_of_ble_eq_true rfl) (Nat.le_of_ble_eq_true rfl) dX0_init_1 ?_
  refine j_aload_n C dX0_init_4 0 rfl ?_
  refine j_bipush (v := 60) C dX0_init_5 (by decide) ?_
  refine j_put C kin0 rfl 0 rfl 0 (by decide) kw_30 rfl tyX0 tyX0_ok nmX0 rfl rfl rfl (Nat.le_of_ble_eq_true rfl) ([(a, .inr (0, [.int 60, .int (zD.1 1), .int (zD.1 2), .int (zD.1 3), .int (b01 (zD.1 4)), .int (zD.1 5), .int (zD.1 6), .int (zD.1 7), .int (zD.1 8), .int (zD.1 9), .long zD.2, .null]))]) rfl dX0_init_7 ?_
  refine j_aload_n C dX0_init_10 0 rfl ?_
  refine j_iconst (v := 1) C dX0_init_11 (by decide) ?_
  refine j_put C kin0 rfl 0 rfl 8 (by decide) kw_51 rfl tyX0 tyX0_ok nmX0 rfl rfl rfl (Nat.le_of_ble_eq_true rfl) ([(a, .inr (0, [.int 60, .int (zD.1 1), .int (zD.1 2), .int (zD.1 3), .int (b01 (zD.1 4)), .int (zD.1 5), .int (zD.1 6), .int (zD.1 7), .int 1, .int (zD.1 9), .long zD.2, .null]))]) rfl dX0_init_12 ?_
  refine j_aload_n C dX0_init_15 0 rfl ?_
  refine j_bipush (v := 100) C dX0_init_16 (by decide) ?_
  refine j_newaB C (by decide) (by decide) (Nat.le_of_ble_eq_true rfl) (Nat.le_of_ble_eq_true rfl) (Nat.le_of_ble_eq_true rfl) dX0_init_18 (fun q0 => ?_)
  refine j_w ([(a, .inr (0, [.int 60, .int (zD.1 1), .int (zD.1 2), .int (zD.1 3), .int (b01 (zD.1 4)), .int (zD.1 5), .int (zD.1 6), .int (zD.1 7), .int 1, .int (zD.1 9), .long zD.2, .null])), aB G q0 (fun _ => 0)]) rfl ?_
  refine j_putF C kin0 rfl 0 rfl 11 (by decide) kw_59 rfl hnm rfl tyX0 tyX0_ok nmX0 rfl rfl rfl (Nat.le_of_ble_eq_true rfl) ([oD a q0 (upd (upd zD.1 0 60) 8 1, zD.2), aB G q0 (fun _ => 0)]) rfl dX0_init_20 ?_
  subst hQ; exact j_nret C hr hk q0 (by first | trivial | rfl) rfl (Nat.le_of_ble_eq_true rfl) (Nat.le_of_ble_eq_true rfl) dX0_init_23
set_option maxRecDepth 100000 in
set_option maxHeartbeats 4000000 in
theorem m_X2_init (l : Launch) (G : GG) (a : Nat) : CtN l yX2_init cX2_init 1 (RC 1 1 80) G [.ref a] ([(a, .inr (2, [.null, .int (zI 1), .int (zI 2), .int (zI 3), .int (zI 4), .int (zI 5), .int (zI 6)]))]) (fun (u : Nat) => True) (fun (u : Nat) => [oP a u zI, aC G u (fun _ => 0)]) := by
  refine ct_N RX2 [(0, .ref a)] rfl (by decide +kernel) (Nat.le_of_ble_eq_true rfl) rfl ?_
  intro p e s m args below meth c A C hr hk hnm
  generalize hQ : (MQ below (va_Qv (fun (u : Nat) => True) (fun u t => va_P G.1 vwCl ((fun (u : Nat) => [oP a u zI, aC G u (fun _ => 0)]) u) t.heap ∧ va_D A ((fun (u : Nat) => [oP a u zI, aC G u (fun _ => 0)]) u)) A) args s (RC 1 1 80).cells (RC 1 1 80).slots A) = Q
  refine j_aload_n C dX2_init_0 0 rfl ?_
  refine j_objinit C kw_114 rfl (Nat.le_of_ble_eq_true rfl) (Nat.le_of_ble_eq_true rfl) (Nat.le_of_ble_eq_true rfl) dX2_init_1 ?_
  refine j_aload_n C dX2_init_4 0 rfl ?_
  refine j_bipush (v := 80) C dX2_init_5 (by decide) ?_
  refine j_newaC C (by decide) (by decide) (Nat.le_of_ble_eq_true rfl) (Nat.le_of_ble_eq_true rfl) (Nat.le_of_ble_eq_true rfl) dX2_init_7 (fun q0 => ?_)
  refine j_w ([(a, .inr (2, [.null, .int (zI 1), .int (zI 2), .int (zI 3), .int (zI 4), .int (zI 5), .int (zI 6)])), aC G q0 (fun _ => 0)]) rfl ?_
  refine j_putF C kin2 rfl 0 rfl 0 (by decide) kw_115 rfl hnm rfl tyX2 tyX2_ok nmX2 rfl rfl rfl (Nat.le_of_ble_eq_true rfl) ([oP a q0 zI, aC G q0 (fun _ => 0)]) rfl dX2_init_9 ?_
  subst hQ; exact j_nret C hr hk q0 (by first | trivial | rfl) rfl (Nat.le_of_ble_eq_true rfl) (Nat.le_of_ble_eq_true rfl) dX2_init_12
set_option maxRecDepth 100000 in
set_option maxHeartbeats 4000000 in
theorem m_X3_init (l : Launch) (G : GG) (a : Nat) : CtN l yX3_init cX3_init 2 (RC 2 10 459) G [.ref a] ([(a, .inr (3, [.null, .null, .int (zI 2), .int (zI 3), .int (zI 4), .int (zI 5), .int (zI 6)]))]) (fun (u : Nat → Nat) => u 0 = a) (fun (u : Nat → Nat) => cSt G u stv0) := by
  refine ct_N RX3 [(0, .ref a)] rfl (by decide +kernel) (Nat.le_of_ble_eq_true rfl) rfl ?_
  intro p e s m args below meth c A C hr hk hnm
  generalize hQ : (MQ below (va_Qv (fun (u : Nat → Nat) => u 0 = a) (fun u t => va_P G.1 vwCl ((fun (u : Nat → Nat) => cSt G u stv0) u) t.heap ∧ va_D A ((fun (u : Nat → Nat) => cSt G u stv0) u)) A) args s (RC 2 10 459).cells (RC 2 10 459).slots A) = Q
  refine j_aload_n C dX3_init_0 0 rfl ?_
  refine j_objinit C kw_21 rfl (Nat.le_of_ble_eq_true rfl) (Nat.le_of_ble_eq_true rfl) (Nat.le_of_ble_eq_true rfl) dX3_init_1 ?_
  refine j_aload_n C dX3_init_4 0 rfl ?_
  refine j_bipush (v := 7) C dX3_init_5 (by decide) ?_
  refine j_newaI (N' := 7) C (by decide) (by decide) (Nat.le_of_ble_eq_true rfl) (Nat.le_of_ble_eq_true rfl) (Nat.le_of_ble_eq_true rfl) dX3_init_7 (fun q0 => ?_)
  refine j_w ([(a, .inr (3, [.null, .null, .int (zI 2), .int (zI 3), .int (zI 4), .int (zI 5), .int (zI 6)])), aI G q0 7 (fun _ => 0)]) rfl ?_
  refine j_putF C kin3 rfl 0 rfl 0 (by decide) kw_74 rfl hnm rfl tyX3 tyX3_ok nmX3 rfl rfl rfl (Nat.le_of_ble_eq_true rfl) ([(a, .inr (3, [.ref q0, .null, .int (zI 2), .int (zI 3), .int (zI 4), .int (zI 5), .int (zI 6)])), aI G q0 7 (fun _ => 0)]) rfl dX3_init_9 ?_
  refine j_aload_n C dX3_init_12 0 rfl ?_
  refine j_iconst (v := 4) C dX3_init_13 (by decide) ?_
  refine j_newqD (N' := 4) C kw_22 (by decide) (by decide) (Nat.le_of_ble_eq_true rfl) (Nat.le_of_ble_eq_true rfl) (Nat.le_of_ble_eq_true rfl) dX3_init_14 (fun q1 => ?_)
  refine j_w ([(a, .inr (3, [.ref q0, .null, .int (zI 2), .int (zI 3), .int (zI 4), .int (zI 5), .int (zI 6)])), aI G q0 7 (fun _ => 0), aD G q1 4 (fun _ => none)]) rfl ?_
  refine j_putF C kin3 rfl 0 rfl 1 (by decide) kw_76 rfl hnm rfl tyX3 tyX3_ok nmX3 rfl rfl rfl (Nat.le_of_ble_eq_true rfl) ([oS a q0 q1 zI, aI G q0 7 (fun _ => 0), aD G q1 4 (fun _ => none)]) rfl dX3_init_17 ?_
  refine j_gstFN C (List.mem_of_getElem? (i := 7) rfl) dX3_init_20 ?_
  refine j_iconst (v := 0) C dX3_init_23 (by decide) ?_
  refine j_aload_n C dX3_init_24 0 rfl ?_
  refine j_get C kin3 rfl 0 rfl 0 (by decide) kw_74 rfl (v := .ref q0) rfl dX3_init_25 ?_
  refine j_iconst (v := 0) C dX3_init_28 (by decide) ?_
  refine j_bipush (v := 7) C dX3_init_29 (by decide) ?_
  refine j_copyS C C.2.2.2.2.2.2.2.2.1.2 kw_23 1 rfl (Nat.le_of_ble_eq_true rfl) (Nat.le_of_ble_eq_true rfl) (Nat.le_of_ble_eq_true rfl) ([oS a q0 q1 zI, aI G q0 7 vFirst, aD G q1 4 (fun _ => none)]) rfl dX3_init_31 ?_
  refine j_iconst (v := 0) C dX3_init_34 (by decide) ?_
  refine j_istore_n C [(1, .int 0), (0, .ref a)] dX3_init_35 (by decide) rfl ?_
  refine j_iload_n C dX3_init_36 0 rfl ?_
  refine j_iconst (v := 4) C dX3_init_37 (by decide) ?_
  refine j_icmp_ge (tgt := 60) C dX3_init_38 (by decide) (fun h => absurd h (by decide)) (fun _ => ?_)
  refine j_aload_n C dX3_init_41 1 rfl ?_
  refine j_get C kin3 rfl 0 rfl 1 (by decide) kw_76 rfl (v := .ref q1) rfl dX3_init_42 ?_
  refine j_iload_n C dX3_init_45 0 rfl ?_
  refine j_new (ci := 0) C kin0 tyX0 tyX0_ok kw_22 kw_26 kw_4 rfl df_X0 (Nat.le_of_ble_eq_true rfl) (Nat.le_of_ble_eq_true rfl) dX3_init_46 (fun q2 => ?_)
  refine j_w ([oS a q0 q1 zI, aI G q0 7 vFirst, aD G q1 4 (fun _ => none), (q2, .inr (0, [.int (zD.1 0), .int (zD.1 1), .int (zD.1 2), .int (zD.1 3), .int (b01 (zD.1 4)), .int (zD.1 5), .int (zD.1 6), .int (zD.1 7), .int (zD.1 8), .int (zD.1 9), .long zD.2, .null]))]) rfl ?_
  refine j_dup C dX3_init_49 rfl ?_
  refine j_callIN_n C (m_X0_init l G q2) 0 kw_28 (List.mem_of_getElem? (i := 0) rfl) kw_4 kw_27 rfl (by decide +kernel) ⟨(Nat.le_of_ble_eq_true rfl), (Nat.le_of_ble_eq_true rfl)⟩ rfl rfl (Nat.le_of_ble_eq_true rfl) dX3_init_50 ⟨(Nat.le_of_ble_eq_true rfl), (Nat.le_of_ble_eq_true rfl)⟩ ([oS a q0 q1 zI, aI G q0 7 vFirst, aD G q1 4 (fun _ => none)]) (perm_idx [3, 0, 1, 2] 4 rfl (by decide +kernel) rfl) (fun u3 hu3 => ?_)
  refine j_w ([oD q2 u3 dv0, aB G u3 hv0, oS a q0 q1 zI, aI G q0 7 vFirst, aD G q1 4 (fun _ => none)]) rfl ?_
  refine j_aastD C 4 0 rfl rfl rfl (vin_lit rfl) ([oD q2 u3 dv0, aB G u3 hv0, oS a q0 q1 zI, aI G q0 7 vFirst, aD G q1 4 (va_up (fun _ => none) 0 (some q2))]) rfl dX3_init_53 ?_
  refine j_iinc (v := 1) C [(1, .int 1), (0, .ref a)] dX3_init_54 (k := 0) rfl (by decide) (by decide) rfl ?_
  refine j_goto (tgt := 36) C dX3_init_57 (by decide) ?_
  refine j_iload_n C dX3_init_36 0 rfl ?_
  refine j_iconst (v := 4) C dX3_init_37 (by decide) ?_
  refine j_icmp_ge (tgt := 60) C dX3_init_38 (by decide) (fun h => absurd h (by decide)) (fun _ => ?_)
  refine j_aload_n C dX3_init_41 1 rfl ?_
  refine j_get C kin3 rfl 2 rfl 1 (by decide) kw_76 rfl (v := .ref q1) rfl dX3_init_42 ?_
  refine j_iload_n C dX3_init_45 0 rfl ?_
  refine j_new (ci := 0) C kin0 tyX0 tyX0_ok kw_22 kw_26 kw_4 rfl df_X0 (Nat.le_of_ble_eq_true rfl) (Nat.le_of_ble_eq_true rfl) dX3_init_46 (fun q4 => ?_)
  refine j_w ([oD q2 u3 dv0, aB G u3 hv0, oS a q0 q1 zI, aI G q0 7 vFirst, aD G q1 4 (va_up (fun _ => none) 0 (some q2)), (q4, .inr (0, [.int (zD.1 0), .int (zD.1 1), .int (zD.1 2), .int (zD.1 3), .int (b01 (zD.1 4)), .int (zD.1 5), .int (zD.1 6), .int (zD.1 7), .int (zD.1 8), .int (zD.1 9), .long zD.2, .null]))]) rfl ?_
  refine j_dup C dX3_init_49 rfl ?_
  refine j_callIN_n C (m_X0_init l G q4) 0 kw_28 (List.mem_of_getElem? (i := 0) rfl) kw_4 kw_27 rfl (by decide +kernel) ⟨(Nat.le_of_ble_eq_true rfl), (Nat.le_of_ble_eq_true rfl)⟩ rfl rfl (Nat.le_of_ble_eq_true rfl) dX3_init_50 ⟨(Nat.le_of_ble_eq_true rfl), (Nat.le_of_ble_eq_true rfl)⟩ ([oD q2 u3 dv0, aB G u3 hv0, oS a q0 q1 zI, aI G q0 7 vFirst, aD G q1 4 (va_up (fun _ => none) 0 (some q2))]) (perm_idx [5, 0, 1, 2, 3, 4] 6 rfl (by decide +kernel) rfl) (fun u5 hu5 => ?_)
  refine j_w ([oD q4 u5 dv0, aB G u5 hv0, oD q2 u3 dv0, aB G u3 hv0, oS a q0 q1 zI, aI G q0 7 vFirst, aD G q1 4 (va_up (fun _ => none) 0 (some q2))]) rfl ?_
  refine j_aastD C 6 0 rfl rfl rfl (vin_lit rfl) ([oD q4 u5 dv0, aB G u5 hv0, oD q2 u3 dv0, aB G u3 hv0, oS a q0 q1 zI, aI G q0 7 vFirst, aD G q1 4 (va_up (va_up (fun _ => none) 0 (some q2)) 1 (some q4))]) rfl dX3_init_53 ?_
  refine j_iinc (v := 2) C [(1, .int 2), (0, .ref a)] dX3_init_54 (k := 0) rfl (by decide) (by decide) rfl ?_
  refine j_goto (tgt := 36) C dX3_init_57 (by decide) ?_
  refine j_iload_n C dX3_init_36 0 rfl ?_
  refine j_iconst (v := 4) C dX3_init_37 (by decide) ?_
  refine j_icmp_ge (tgt := 60) C dX3_init_38 (by decide) (fun h => absurd h (by decide)) (fun _ => ?_)
  refine j_aload_n C dX3_init_41 1 rfl ?_
  refine j_get C kin3 rfl 4 rfl 1 (by decide) kw_76 rfl (v := .ref q1) rfl dX3_init_42 ?_
  refine j_iload_n C dX3_init_45 0 rfl ?_
  refine j_new (ci := 0) C kin0 tyX0 tyX0_ok kw_22 kw_26 kw_4 rfl df_X0 (Nat.le_of_ble_eq_true rfl) (Nat.le_of_ble_eq_true rfl) dX3_init_46 (fun q6 => ?_)
  refine j_w ([oD q4 u5 dv0, aB G u5 hv0, oD q2 u3 dv0, aB G u3 hv0, oS a q0 q1 zI, aI G q0 7 vFirst, aD G q1 4 (va_up (va_up (fun _ => none) 0 (some q2)) 1 (some q4)), (q6, .inr (0, [.int (zD.1 0), .int (zD.1 1), .int (zD.1 2), .int (zD.1 3), .int (b01 (zD.1 4)), .int (zD.1 5), .int (zD.1 6), .int (zD.1 7), .int (zD.1 8), .int (zD.1 9), .long zD.2, .null]))]) rfl ?_
  refine j_dup C dX3_init_49 rfl ?_
  refine j_callIN_n C (m_X0_init l G q6) 0 kw_28 (List.mem_of_getElem? (i := 0) rfl) kw_4 kw_27 rfl (by decide +kernel) ⟨(Nat.le_of_ble_eq_true rfl), (Nat.le_of_ble_eq_true rfl)⟩ rfl rfl (Nat.le_of_ble_eq_true rfl) dX3_init_50 ⟨(Nat.le_of_ble_eq_true rfl), (Nat.le_of_ble_eq_true rfl)⟩ ([oD q4 u5 dv0, aB G u5 hv0, oD q2 u3 dv0, aB G u3 hv0, oS a q0 q1 zI, aI G q0 7 vFirst, aD G q1 4 (va_up (va_up (fun _ => none) 0 (some q2)) 1 (some q4))]) (perm_idx [7, 0, 1, 2, 3, 4, 5, 6] 8 rfl (by decide +kernel) rfl) (fun u7 hu7 => ?_)
  refine j_w ([oD q6 u7 dv0, aB G u7 hv0, oD q4 u5 dv0, aB G u5 hv0, oD q2 u3 dv0, aB G u3 hv0, oS a q0 q1 zI, aI G q0 7 vFirst, aD G q1 4 (va_up (va_up (fun _ => none) 0 (some q2)) 1 (some q4))]) rfl ?_
  refine j_aastD C 8 0 rfl rfl rfl (vin_lit rfl) ([oD q6 u7 dv0, aB G u7 hv0, oD q4 u5 dv0, aB G u5 hv0, oD q2 u3 dv0, aB G u3 hv0, oS a q0 q1 zI, aI G q0 7 vFirst, aD G q1 4 (va_up (va_up (va_up (fun _ => none) 0 (some q2)) 1 (some q4)) 2 (some q6))]) rfl dX3_init_53 ?_
  refine j_iinc (v := 3) C [(1, .int 3), (0, .ref a)] dX3_init_54 (k := 0) rfl (by decide) (by decide) rfl ?_
  refine j_goto (tgt := 36) C dX3_init_57 (by decide) ?_
  refine j_iload_n C dX3_init_36 0 rfl ?_
  refine j_iconst (v := 4) C dX3_init_37 (by decide) ?_
  refine j_icmp_ge (tgt := 60) C dX3_init_38 (by decide) (fun h => absurd h (by decide)) (fun _ => ?_)
  refine j_aload_n C dX3_init_41 1 rfl ?_
  refine j_get C kin3 rfl 6 rfl 1 (by decide) kw_76 rfl (v := .ref q1) rfl dX3_init_42 ?_
  refine j_iload_n C dX3_init_45 0 rfl ?_
  refine j_new (ci := 0) C kin0 tyX0 tyX0_ok kw_22 kw_26 kw_4 rfl df_X0 (Nat.le_of_ble_eq_true rfl) (Nat.le_of_ble_eq_true rfl) dX3_init_46 (fun q8 => ?_)
  refine j_w ([oD q6 u7 dv0, aB G u7 hv0, oD q4 u5 dv0, aB G u5 hv0, oD q2 u3 dv0, aB G u3 hv0, oS a q0 q1 zI, aI G q0 7 vFirst, aD G q1 4 (va_up (va_up (va_up (fun _ => none) 0 (some q2)) 1 (some q4)) 2 (some q6)), (q8, .inr (0, [.int (zD.1 0), .int (zD.1 1), .int (zD.1 2), .int (zD.1 3), .int (b01 (zD.1 4)), .int (zD.1 5), .int (zD.1 6), .int (zD.1 7), .int (zD.1 8), .int (zD.1 9), .long zD.2, .null]))]) rfl ?_
  refine j_dup C dX3_init_49 rfl ?_
  refine j_callIN_n C (m_X0_init l G q8) 0 kw_28 (List.mem_of_getElem? (i := 0) rfl) kw_4 kw_27 rfl (by decide +kernel) ⟨(Nat.le_of_ble_eq_true rfl), (Nat.le_of_ble_eq_true rfl)⟩ rfl rfl (Nat.le_of_ble_eq_true rfl) dX3_init_50 ⟨(Nat.le_of_ble_eq_true rfl), (Nat.le_of_ble_eq_true rfl)⟩ ([oD q6 u7 dv0, aB G u7 hv0, oD q4 u5 dv0, aB G u5 hv0, oD q2 u3 dv0, aB G u3 hv0, oS a q0 q1 zI, aI G q0 7 vFirst, aD G q1 4 (va_up (va_up (va_up (fun _ => none) 0 (some q2)) 1 (some q4)) 2 (some q6))]) (perm_idx [9, 0, 1, 2, 3, 4, 5, 6, 7, 8] 10 rfl (by decide +kernel) rfl) (fun u9 hu9 => ?_)
  refine j_w ([oD q8 u9 dv0, aB G u9 hv0, oD q6 u7 dv0, aB G u7 hv0, oD q4 u5 dv0, aB G u5 hv0, oD q2 u3 dv0, aB G u3 hv0, oS a q0 q1 zI, aI G q0 7 vFirst, aD G q1 4 (va_up (va_up (va_up (fun _ => none) 0 (some q2)) 1 (some q4)) 2 (some q6))]) rfl ?_
  refine j_aastD C 10 0 rfl rfl rfl (vin_lit rfl) ([oD q8 u9 dv0, aB G u9 hv0, oD q6 u7 dv0, aB G u7 hv0, oD q4 u5 dv0, aB G u5 hv0, oD q2 u3 dv0, aB G u3 hv0, oS a q0 q1 zI, aI G q0 7 vFirst, aD G q1 4 (va_up (va_up (va_up (va_up (fun _ => none) 0 (some q2)) 1 (some q4)) 2 (some q6)) 3 (some q8))]) rfl dX3_init_53 ?_
  refine j_iinc (v := 4) C [(1, .int 4), (0, .ref a)] dX3_init_54 (k := 0) rfl (by decide) (by decide) rfl ?_
  refine j_goto (tgt := 36) C dX3_init_57 (by decide) ?_
  refine j_iload_n C dX3_init_36 0 rfl ?_
  refine j_iconst (v := 4) C dX3_init_37 (by decide) ?_
  refine j_icmp_ge (tgt := 60) C dX3_init_38 (by decide) (fun _ => ?_) (fun h => absurd h (by decide))
  refine j_perm ([oS a q0 q1 zI, aI G q0 7 vFirst, aD G q1 4 (va_up (va_up (va_up (va_up (fun _ => none) 0 (some q2)) 1 (some q4)) 2 (some q6)) 3 (some q8)), oD q2 u3 dv0, aB G u3 hv0, oD q4 u5 dv0, aB G u5 hv0, oD q6 u7 dv0, aB G u7 hv0, oD q8 u9 dv0, aB G u9 hv0]) (perm_idx [8, 9, 10, 6, 7, 4, 5, 2, 3, 0, 1] 11 rfl (by decide +kernel) rfl) ?_
  refine j_arq 2 rfl (by intro j hj; rcases (show j = 0 ∨ j = 1 ∨ j = 2 ∨ j = 3 by omega) with rfl | rfl | rfl | rfl <;> rfl) ([oS a q0 q1 zI, aI G q0 7 vFirst, aD G q1 4 (fun k => some ((fun k => ([a, q0, q1, q2, u3, q4, u5, q6, u7, q8, u9] : List Nat).getD k 0) (3 + 2 * k))), oD q2 u3 dv0, aB G u3 hv0, oD q4 u5 dv0, aB G u5 hv0, oD q6 u7 dv0, aB G u7 hv0, oD q8 u9 dv0, aB G u9 hv0]) rfl ?_
  subst hQ; exact j_nret C hr hk (fun k => ([a, q0, q1, q2, u3, q4, u5, q6, u7, q8, u9] : List Nat).getD k 0) (by first | trivial | rfl) rfl (Nat.le_of_ble_eq_true rfl) (Nat.le_of_ble_eq_true rfl) dX3_init_60
theorem fl_grp (A Bs : List va_W) : fl (A ++ Bs) = fl (A ++ [fl Bs]) := by
  rw [← fl_app, ← fl_app, fl_one]
theorem fl_grp2 (A Bs Cs : List va_W) : fl (A ++ Bs ++ Cs) = fl (A ++ [fl Bs] ++ Cs) := by
  rw [← fl_app (A ++ Bs), ← fl_app (A ++ [fl Bs]), fl_grp A Bs]
set_option maxRecDepth 100000 in
set_option maxHeartbeats 4000000 in
theorem m_X1_init (l : Launch) (G : GG) (a : Nat) : CtN l yX1_init cX1_init 2 (RC 3 78 3269) G [.ref a] ([(a, .inr (1, [.null, .int (zI 1), .int (zI 2)]))]) (fun (u : Nat × (Nat → Nat → Nat)) => True) (fun (u : Nat × (Nat → Nat → Nat)) => fl [[oH a u.1 zI], [aS G u.1 7 (fun k => some (u.2 k 0))], cMany G u.2 (fun _ => stv0) 7]) := by
  refine ct_N RX1 [(0, .ref a)] rfl (by decide +kernel) (Nat.le_of_ble_eq_true rfl) rfl ?_
  intro p e s m args below meth c A C hr hk hnm
  generalize hQ : (MQ below (va_Qv (fun (u : Nat × (Nat → Nat → Nat)) => True) (fun u t => va_P G.1 vwCl ((fun (u : Nat × (Nat → Nat → Nat)) => fl [[oH a u.1 zI], [aS G u.1 7 (fun k => some (u.2 k 0))], cMany G u.2 (fun _ => stv0) 7]) u) t.heap ∧ va_D A ((fun (u : Nat × (Nat → Nat → Nat)) => fl [[oH a u.1 zI], [aS G u.1 7 (fun k => some (u.2 k 0))], cMany G u.2 (fun _ => stv0) 7]) u)) A) args s (RC 3 78 3269).cells (RC 3 78 3269).slots A) = Q
  refine j_aload_n C dX1_init_0 0 rfl ?_
  refine j_objinit C kw_100 rfl (Nat.le_of_ble_eq_true rfl) (Nat.le_of_ble_eq_true rfl) (Nat.le_of_ble_eq_true rfl) dX1_init_1 ?_
  refine j_aload_n C dX1_init_4 0 rfl ?_
  refine j_bipush (v := 7) C dX1_init_5 (by decide) ?_
  refine j_newqS (N' := 7) C kw_101 (by decide) (by decide) (Nat.le_of_ble_eq_true rfl) (Nat.le_of_ble_eq_true rfl) (Nat.le_of_ble_eq_true rfl) dX1_init_7 (fun q0 => ?_)
  refine j_w ([(a, .inr (1, [.null, .int (zI 1), .int (zI 2)])), aS G q0 7 (fun _ => none)]) rfl ?_
  refine j_putF C kin1 rfl 0 rfl 0 (by decide) kw_103 rfl hnm rfl tyX1 tyX1_ok nmX1 rfl rfl rfl (Nat.le_of_ble_eq_true rfl) ([oH a q0 zI, aS G q0 7 (fun _ => none)]) rfl dX1_init_10 ?_
  refine j_iconst (v := 0) C dX1_init_13 (by decide) ?_
  refine j_istore_n C [(1, .int 0), (0, .ref a)] dX1_init_14 (by decide) rfl ?_
  refine j_iload_n C dX1_init_15 0 rfl ?_
  refine j_bipush (v := 6) C dX1_init_16 (by decide) ?_
  refine j_icmp_gt (tgt := 40) C dX1_init_18 (by decide) (fun h => absurd h (by decide)) (fun _ => ?_)
  refine j_aload_n C dX1_init_21 1 rfl ?_
  refine j_get C kin1 rfl 0 rfl 0 (by decide) kw_103 rfl (v := .ref q0) rfl dX1_init_22 ?_
  refine j_iload_n C dX1_init_25 0 rfl ?_
  refine j_new (ci := 3) C kin3 tyX3 tyX3_ok kw_101 kw_17 kw_2 rfl df_X3 (Nat.le_of_ble_eq_true rfl) (Nat.le_of_ble_eq_true rfl) dX1_init_26 (fun q1 => ?_)
  refine j_w ([oH a q0 zI, aS G q0 7 (fun _ => none), (q1, .inr (3, [.null, .null, .int (zI 2), .int (zI 3), .int (zI 4), .int (zI 5), .int (zI 6)]))]) rfl ?_
  refine j_dup C dX1_init_29 rfl ?_
  refine j_callI_n C (m_X3_init l G q1) 0 kw_20 kw_2 kw_102 kw_19 rfl (by decide +kernel) ⟨(Nat.le_of_ble_eq_true rfl), (Nat.le_of_ble_eq_true rfl)⟩ rfl rfl (Nat.le_of_ble_eq_true rfl) dX1_init_30 ⟨(Nat.le_of_ble_eq_true rfl), (Nat.le_of_ble_eq_true rfl)⟩ ([oH a q0 zI, aS G q0 7 (fun _ => none)]) (perm_idx [2, 0, 1] 3 rfl (by decide +kernel) rfl) (fun u2 hu2 => ?_)
  subst hu2
  refine j_w (fl [cSt G u2 stv0, [oH a q0 zI], [aS G q0 7 (fun _ => none)]]) rfl ?_
  refine j_perm (fl [[oH a q0 zI], [aS G q0 7 (fun _ => none)], cSt G u2 stv0]) (bperm [1, 2, 0] 3 rfl (by decide +kernel) rfl) ?_
  refine j_perm (fl [cSt G u2 stv0, [oH a q0 zI], [aS G q0 7 (fun _ => none)]]) (bperm [2, 0, 1] 3 rfl (by decide +kernel) rfl) ?_
  refine j_w (fl [[oS (u2 0) (u2 1) (u2 2) stv0.1], [aI G (u2 1) 7 stv0.2.1], [aD G (u2 2) 4 (fun k => some (u2 (3 + 2 * k)))], cDrs G u2 stv0.2.2.1 stv0.2.2.2, [oH a q0 zI], [aS G q0 7 (fun _ => none)]]) rfl ?_
  refine j_perm (fl [[oS (u2 0) (u2 1) (u2 2) stv0.1], [aI G (u2 1) 7 stv0.2.1], [aD G (u2 2) 4 (fun k => some (u2 (3 + 2 * k)))], [oH a q0 zI], [aS G q0 7 (fun _ => none)], cDrs G u2 stv0.2.2.1 stv0.2.2.2]) (bperm [0, 1, 2, 4, 5, 3] 6 rfl (by decide +kernel) rfl) ?_
  refine j_aastS C 4 0 rfl rfl rfl (vin_lit rfl) (fl [[oS (u2 0) (u2 1) (u2 2) stv0.1], [aI G (u2 1) 7 stv0.2.1], [aD G (u2 2) 4 (fun k => some (u2 (3 + 2 * k)))], [oH a q0 zI], [aS G q0 7 (va_up (fun _ => none) 0 (some (u2 0)))], cDrs G u2 stv0.2.2.1 stv0.2.2.2]) rfl dX1_init_33 ?_
  refine j_iinc (v := 1) C [(1, .int 1), (0, .ref a)] dX1_init_34 (k := 0) rfl (by decide) (by decide) rfl ?_
  refine j_goto (tgt := 15) C dX1_init_37 (by decide) ?_
  refine j_iload_n C dX1_init_15 0 rfl ?_
  refine j_bipush (v := 6) C dX1_init_16 (by decide) ?_
  refine j_icmp_gt (tgt := 40) C dX1_init_18 (by decide) (fun h => absurd h (by decide)) (fun _ => ?_)
  refine j_aload_n C dX1_init_21 1 rfl ?_
  refine j_get C kin1 rfl 3 rfl 0 (by decide) kw_103 rfl (v := .ref q0) rfl dX1_init_22 ?_
  refine j_iload_n C dX1_init_25 0 rfl ?_
  refine j_new (ci := 3) C kin3 tyX3 tyX3_ok kw_101 kw_17 kw_2 rfl df_X3 (Nat.le_of_ble_eq_true rfl) (Nat.le_of_ble_eq_true rfl) dX1_init_26 (fun q3 => ?_)
  refine j_w (fl [[oS (u2 0) (u2 1) (u2 2) stv0.1], [aI G (u2 1) 7 stv0.2.1], [aD G (u2 2) 4 (fun k => some (u2 (3 + 2 * k)))], [oH a q0 zI], [aS G q0 7 (va_up (fun _ => none) 0 (some (u2 0)))], cDrs G u2 stv0.2.2.1 stv0.2.2.2, [(q3, .inr (3, [.null, .null, .int (zI 2), .int (zI 3), .int (zI 4), .int (zI 5), .int (zI 6)]))]]) (fl_snoc _ _) ?_
  refine j_perm (fl [[oS (u2 0) (u2 1) (u2 2) stv0.1], [aI G (u2 1) 7 stv0.2.1], [aD G (u2 2) 4 (fun k => some (u2 (3 + 2 * k)))], [oH a q0 zI], [aS G q0 7 (va_up (fun _ => none) 0 (some (u2 0)))], [(q3, .inr (3, [.null, .null, .int (zI 2), .int (zI 3), .int (zI 4), .int (zI 5), .int (zI 6)]))], cDrs G u2 stv0.2.2.1 stv0.2.2.2]) (bperm [0, 1, 2, 3, 4, 6, 5] 7 rfl (by decide +kernel) rfl) ?_
  refine j_dup C dX1_init_29 rfl ?_
  refine j_perm (fl [[oS (u2 0) (u2 1) (u2 2) stv0.1], [aI G (u2 1) 7 stv0.2.1], [aD G (u2 2) 4 (fun k => some (u2 (3 + 2 * k)))], cDrs G u2 stv0.2.2.1 stv0.2.2.2, [oH a q0 zI], [aS G q0 7 (va_up (fun _ => none) 0 (some (u2 0)))], [(q3, .inr (3, [.null, .null, .int (zI 2), .int (zI 3), .int (zI 4), .int (zI 5), .int (zI 6)]))]]) (bperm [0, 1, 2, 6, 3, 4, 5] 7 rfl (by decide +kernel) rfl) ?_
  refine j_w (fl [cSt G u2 stv0, [oH a q0 zI], [aS G q0 7 (va_up (fun _ => none) 0 (some (u2 0)))], [(q3, .inr (3, [.null, .null, .int (zI 2), .int (zI 3), .int (zI 4), .int (zI 5), .int (zI 6)]))]]) rfl ?_
  refine j_perm (fl [[oH a q0 zI], [aS G q0 7 (va_up (fun _ => none) 0 (some (u2 0)))], [(q3, .inr (3, [.null, .null, .int (zI 2), .int (zI 3), .int (zI 4), .int (zI 5), .int (zI 6)]))], cSt G u2 stv0]) (bperm [1, 2, 3, 0] 4 rfl (by decide +kernel) rfl) ?_
  refine j_callI_n C (m_X3_init l G q3) 0 kw_20 kw_2 kw_102 kw_19 rfl (by decide +kernel) ⟨(Nat.le_of_ble_eq_true rfl), (Nat.le_of_ble_eq_true rfl)⟩ rfl rfl (Nat.le_of_ble_eq_true rfl) dX1_init_30 ⟨(Nat.le_of_ble_eq_true rfl), (Nat.le_of_ble_eq_true rfl)⟩ (fl [[oH a q0 zI], [aS G q0 7 (va_up (fun _ => none) 0 (some (u2 0)))], cSt G u2 stv0]) (bperm (bs' := [[(q3, .inr (3, [.null, .null, .int (zI 2), .int (zI 3), .int (zI 4), .int (zI 5), .int (zI 6)]))], [oH a q0 zI], [aS G q0 7 (va_up (fun _ => none) 0 (some (u2 0)))], cSt G u2 stv0]) [2, 0, 1, 3] 4 rfl (by decide +kernel) rfl) (fun u4 hu4 => ?_)
  subst hu4
  refine j_w (fl [cSt G u4 stv0, [oH a q0 zI], [aS G q0 7 (va_up (fun _ => none) 0 (some (u2 0)))], cSt G u2 stv0]) rfl ?_
  refine j_perm (fl [[oH a q0 zI], [aS G q0 7 (va_up (fun _ => none) 0 (some (u2 0)))], cSt G u4 stv0, cSt G u2 stv0]) (bperm [1, 2, 0, 3] 4 rfl (by decide +kernel) rfl) ?_
  refine j_perm (fl [cSt G u4 stv0, [oH a q0 zI], [aS G q0 7 (va_up (fun _ => none) 0 (some (u2 0)))], cSt G u2 stv0]) (bperm [2, 0, 1, 3] 4 rfl (by decide +kernel) rfl) ?_
  refine j_w (fl [[oS (u4 0) (u4 1) (u4 2) stv0.1], [aI G (u4 1) 7 stv0.2.1], [aD G (u4 2) 4 (fun k => some (u4 (3 + 2 * k)))], cDrs G u4 stv0.2.2.1 stv0.2.2.2, [oH a q0 zI], [aS G q0 7 (va_up (fun _ => none) 0 (some (u2 0)))], cSt G u2 stv0]) rfl ?_
  refine j_perm (fl [[oS (u4 0) (u4 1) (u4 2) stv0.1], [aI G (u4 1) 7 stv0.2.1], [aD G (u4 2) 4 (fun k => some (u4 (3 + 2 * k)))], [oH a q0 zI], [aS G q0 7 (va_up (fun _ => none) 0 (some (u2 0)))], cDrs G u4 stv0.2.2.1 stv0.2.2.2, cSt G u2 stv0]) (bperm [0, 1, 2, 4, 5, 3, 6] 7 rfl (by decide +kernel) rfl) ?_
  refine j_aastS C 4 0 rfl rfl rfl (vin_lit rfl) (fl [[oS (u4 0) (u4 1) (u4 2) stv0.1], [aI G (u4 1) 7 stv0.2.1], [aD G (u4 2) 4 (fun k => some (u4 (3 + 2 * k)))], [oH a q0 zI], [aS G q0 7 (va_up (va_up (fun _ => none) 0 (some (u2 0))) 1 (some (u4 0)))], cDrs G u4 stv0.2.2.1 stv0.2.2.2, cSt G u2 stv0]) rfl dX1_init_33 ?_
  refine j_iinc (v := 2) C [(1, .int 2), (0, .ref a)] dX1_init_34 (k := 0) rfl (by decide) (by decide) rfl ?_
  refine j_goto (tgt := 15) C dX1_init_37 (by decide) ?_
  refine j_iload_n C dX1_init_15 0 rfl ?_
  refine j_bipush (v := 6) C dX1_init_16 (by decide) ?_
  refine j_icmp_gt (tgt := 40) C dX1_init_18 (by decide) (fun h => absurd h (by decide)) (fun _ => ?_)
  refine j_aload_n C dX1_init_21 1 rfl ?_
  refine j_get C kin1 rfl 3 rfl 0 (by decide) kw_103 rfl (v := .ref q0) rfl dX1_init_22 ?_
  refine j_iload_n C dX1_init_25 0 rfl ?_
  refine j_new (ci := 3) C kin3 tyX3 tyX3_ok kw_101 kw_17 kw_2 rfl df_X3 (Nat.le_of_ble_eq_true rfl) (Nat.le_of_ble_eq_true rfl) dX1_init_26 (fun q5 => ?_)
  refine j_w (fl [[oS (u4 0) (u4 1) (u4 2) stv0.1], [aI G (u4 1) 7 stv0.2.1], [aD G (u4 2) 4 (fun k => some (u4 (3 + 2 * k)))], [oH a q0 zI], [aS G q0 7 (va_up (va_up (fun _ => none) 0 (some (u2 0))) 1 (some (u4 0)))], cDrs G u4 stv0.2.2.1 stv0.2.2.2, cSt G u2 stv0, [(q5, .inr (3, [.null, .null, .int (zI 2), .int (zI 3), .int (zI 4), .int (zI 5), .int (zI 6)]))]]) (fl_snoc _ _) ?_
  refine j_perm (fl [[oS (u4 0) (u4 1) (u4 2) stv0.1], [aI G (u4 1) 7 stv0.2.1], [aD G (u4 2) 4 (fun k => some (u4 (3 + 2 * k)))], [oH a q0 zI], [aS G q0 7 (va_up (va_up (fun _ => none) 0 (some (u2 0))) 1 (some (u4 0)))], [(q5, .inr (3, [.null, .null, .int (zI 2), .int (zI 3), .int (zI 4), .int (zI 5), .int (zI 6)]))], cDrs G u4 stv0.2.2.1 stv0.2.2.2, cSt G u2 stv0]) (bperm [0, 1, 2, 3, 4, 7, 5, 6] 8 rfl (by decide +kernel) rfl) ?_
  refine j_dup C dX1_init_29 rfl ?_
  refine j_perm (fl [[oS (u4 0) (u4 1) (u4 2) stv0.1], [aI G (u4 1) 7 stv0.2.1], [aD G (u4 2) 4 (fun k => some (u4 (3 + 2 * k)))], cDrs G u4 stv0.2.2.1 stv0.2.2.2, [oH a q0 zI], [aS G q0 7 (va_up (va_up (fun _ => none) 0 (some (u2 0))) 1 (some (u4 0)))], [(q5, .inr (3, [.null, .null, .int (zI 2), .int (zI 3), .int (zI 4), .int (zI 5), .int (zI 6)]))], cSt G u2 stv0]) (bperm [0, 1, 2, 6, 3, 4, 5, 7] 8 rfl (by decide +kernel) rfl) ?_
  refine j_w (fl [cSt G u4 stv0, [oH a q0 zI], [aS G q0 7 (va_up (va_up (fun _ => none) 0 (some (u2 0))) 1 (some (u4 0)))], [(q5, .inr (3, [.null, .null, .int (zI 2), .int (zI 3), .int (zI 4), .int (zI 5), .int (zI 6)]))], cSt G u2 stv0]) rfl ?_
  refine j_perm (fl [[oH a q0 zI], [aS G q0 7 (va_up (va_up (fun _ => none) 0 (some (u2 0))) 1 (some (u4 0)))], [(q5, .inr (3, [.null, .null, .int (zI 2), .int (zI 3), .int (zI 4), .int (zI 5), .int (zI 6)]))], cSt G u4 stv0, cSt G u2 stv0]) (bperm [1, 2, 3, 0, 4] 5 rfl (by decide +kernel) rfl) ?_
  refine j_callI_n C (m_X3_init l G q5) 0 kw_20 kw_2 kw_102 kw_19 rfl (by decide +kernel) ⟨(Nat.le_of_ble_eq_true rfl), (Nat.le_of_ble_eq_true rfl)⟩ rfl rfl (Nat.le_of_ble_eq_true rfl) dX1_init_30 ⟨(Nat.le_of_ble_eq_true rfl), (Nat.le_of_ble_eq_true rfl)⟩ (fl [[oH a q0 zI], [aS G q0 7 (va_up (va_up (fun _ => none) 0 (some (u2 0))) 1 (some (u4 0)))], cSt G u4 stv0, cSt G u2 stv0]) (bperm (bs' := [[(q5, .inr (3, [.null, .null, .int (zI 2), .int (zI 3), .int (zI 4), .int (zI 5), .int (zI 6)]))], [oH a q0 zI], [aS G q0 7 (va_up (va_up (fun _ => none) 0 (some (u2 0))) 1 (some (u4 0)))], cSt G u4 stv0, cSt G u2 stv0]) [2, 0, 1, 3, 4] 5 rfl (by decide +kernel) rfl) (fun u6 hu6 => ?_)
  subst hu6
  refine j_w (fl [cSt G u6 stv0, [oH a q0 zI], [aS G q0 7 (va_up (va_up (fun _ => none) 0 (some (u2 0))) 1 (some (u4 0)))], cSt G u4 stv0, cSt G u2 stv0]) rfl ?_
  refine j_perm (fl [[oH a q0 zI], [aS G q0 7 (va_up (va_up (fun _ => none) 0 (some (u2 0))) 1 (some (u4 0)))], cSt G u6 stv0, cSt G u4 stv0, cSt G u2 stv0]) (bperm [1, 2, 0, 3, 4] 5 rfl (by decide +kernel) rfl) ?_
  refine j_perm (fl [cSt G u6 stv0, [oH a q0 zI], [aS G q0 7 (va_up (va_up (fun _ => none) 0 (some (u2 0))) 1 (some (u4 0)))], cSt G u4 stv0, cSt G u2 stv0]) (bperm [2, 0, 1, 3, 4] 5 rfl (by decide +kernel) rfl) ?_
  refine j_w (fl [[oS (u6 0) (u6 1) (u6 2) stv0.1], [aI G (u6 1) 7 stv0.2.1], [aD G (u6 2) 4 (fun k => some (u6 (3 + 2 * k)))], cDrs G u6 stv0.2.2.1 stv0.2.2.2, [oH a q0 zI], [aS G q0 7 (va_up (va_up (fun _ => none) 0 (some (u2 0))) 1 (some (u4 0)))], cSt G u4 stv0, cSt G u2 stv0]) rfl ?_
  refine j_perm (fl [[oS (u6 0) (u6 1) (u6 2) stv0.1], [aI G (u6 1) 7 stv0.2.1], [aD G (u6 2) 4 (fun k => some (u6 (3 + 2 * k)))], [oH a q0 zI], [aS G q0 7 (va_up (va_up (fun _ => none) 0 (some (u2 0))) 1 (some (u4 0)))], cDrs G u6 stv0.2.2.1 stv0.2.2.2, cSt G u4 stv0, cSt G u2 stv0]) (bperm [0, 1, 2, 4, 5, 3, 6, 7] 8 rfl (by decide +kernel) rfl) ?_
  refine j_aastS C 4 0 rfl rfl rfl (vin_lit rfl) (fl [[oS (u6 0) (u6 1) (u6 2) stv0.1], [aI G (u6 1) 7 stv0.2.1], [aD G (u6 2) 4 (fun k => some (u6 (3 + 2 * k)))], [oH a q0 zI], [aS G q0 7 (va_up (va_up (va_up (fun _ => none) 0 (some (u2 0))) 1 (some (u4 0))) 2 (some (u6 0)))], cDrs G u6 stv0.2.2.1 stv0.2.2.2, cSt G u4 stv0, cSt G u2 stv0]) rfl dX1_init_33 ?_
  refine j_iinc (v := 3) C [(1, .int 3), (0, .ref a)] dX1_init_34 (k := 0) rfl (by decide) (by decide) rfl ?_
  refine j_goto (tgt := 15) C dX1_init_37 (by decide) ?_
  refine j_iload_n C dX1_init_15 0 rfl ?_
  refine j_bipush (v := 6) C dX1_init_16 (by decide) ?_
  refine j_icmp_gt (tgt := 40) C dX1_init_18 (by decide) (fun h => absurd h (by decide)) (fun _ => ?_)
  refine j_aload_n C dX1_init_21 1 rfl ?_
  refine j_get C kin1 rfl 3 rfl 0 (by decide) kw_103 rfl (v := .ref q0) rfl dX1_init_22 ?_
  refine j_iload_n C dX1_init_25 0 rfl ?_
  refine j_new (ci := 3) C kin3 tyX3 tyX3_ok kw_101 kw_17 kw_2 rfl df_X3 (Nat.le_of_ble_eq_true rfl) (Nat.le_of_ble_eq_true rfl) dX1_init_26 (fun q7 => ?_)
  refine j_w (fl [[oS (u6 0) (u6 1) (u6 2) stv0.1], [aI G (u6 1) 7 stv0.2.1], [aD G (u6 2) 4 (fun k => some (u6 (3 + 2 * k)))], [oH a q0 zI], [aS G q0 7 (va_up (va_up (va_up (fun _ => none) 0 (some (u2 0))) 1 (some (u4 0))) 2 (some (u6 0)))], cDrs G u6 stv0.2.2.1 stv0.2.2.2, cSt G u4 stv0, cSt G u2 stv0, [(q7, .inr (3, [.null, .null, .int (zI 2), .int (zI 3), .int (zI 4), .int (zI 5), .int (zI 6)]))]]) (fl_snoc _ _) ?_
  refine j_perm (fl [[oS (u6 0) (u6 1) (u6 2) stv0.1], [aI G (u6 1) 7 stv0.2.1], [aD G (u6 2) 4 (fun k => some (u6 (3 + 2 * k)))], [oH a q0 zI], [aS G q0 7 (va_up (va_up (va_up (fun _ => none) 0 (some (u2 0))) 1 (some (u4 0))) 2 (some (u6 0)))], [(q7, .inr (3, [.null, .null, .int (zI 2), .int (zI 3), .int (zI 4), .int (zI 5), .int (zI 6)]))], cDrs G u6 stv0.2.2.1 stv0.2.2.2, cSt G u4 stv0, cSt G u2 stv0]) (bperm [0, 1, 2, 3, 4, 8, 5, 6, 7] 9 rfl (by decide +kernel) rfl) ?_
  refine j_dup C dX1_init_29 rfl ?_
  refine j_perm (fl [[oS (u6 0) (u6 1) (u6 2) stv0.1], [aI G (u6 1) 7 stv0.2.1], [aD G (u6 2) 4 (fun k => some (u6 (3 + 2 * k)))], cDrs G u6 stv0.2.2.1 stv0.2.2.2, [oH a q0 zI], [aS G q0 7 (va_up (va_up (va_up (fun _ => none) 0 (some (u2 0))) 1 (some (u4 0))) 2 (some (u6 0)))], [(q7, .inr (3, [.null, .null, .int (zI 2), .int (zI 3), .int (zI 4), .int (zI 5), .int (zI 6)]))], cSt G u4 stv0, cSt G u2 stv0]) (bperm [0, 1, 2, 6, 3, 4, 5, 7, 8] 9 rfl (by decide +kernel) rfl) ?_
  refine j_w (fl [cSt G u6 stv0, [oH a q0 zI], [aS G q0 7 (va_up (va_up (va_up (fun _ => none) 0 (some (u2 0))) 1 (some (u4 0))) 2 (some (u6 0)))], [(q7, .inr (3, [.null, .null, .int (zI 2), .int (zI 3), .int (zI 4), .int (zI 5), .int (zI 6)]))], cSt G u4 stv0, cSt G u2 stv0]) rfl ?_
  refine j_perm (fl [[oH a q0 zI], [aS G q0 7 (va_up (va_up (va_up (fun _ => none) 0 (some (u2 0))) 1 (some (u4 0))) 2 (some (u6 0)))], [(q7, .inr (3, [.null, .null, .int (zI 2), .int (zI 3), .int (zI 4), .int (zI 5), .int (zI 6)]))], cSt G u6 stv0, cSt G u4 stv0, cSt G u2 stv0]) (bperm [1, 2, 3, 0, 4, 5] 6 rfl (by decide +kernel) rfl) ?_
  refine j_callI_n C (m_X3_init l G q7) 0 kw_20 kw_2 kw_102 kw_19 rfl (by decide +kernel) ⟨(Nat.le_of_ble_eq_true rfl), (Nat.le_of_ble_eq_true rfl)⟩ rfl rfl (Nat.le_of_ble_eq_true rfl) dX1_init_30 ⟨(Nat.le_of_ble_eq_true rfl), (Nat.le_of_ble_eq_true rfl)⟩ (fl [[oH a q0 zI], [aS G q0 7 (va_up (va_up (va_up (fun _ => none) 0 (some (u2 0))) 1 (some (u4 0))) 2 (some (u6 0)))], cSt G u6 stv0, cSt G u4 stv0, cSt G u2 stv0]) (bperm (bs' := [[(q7, .inr (3, [.null, .null, .int (zI 2), .int (zI 3), .int (zI 4), .int (zI 5), .int (zI 6)]))], [oH a q0 zI], [aS G q0 7 (va_up (va_up (va_up (fun _ => none) 0 (some (u2 0))) 1 (some (u4 0))) 2 (some (u6 0)))], cSt G u6 stv0, cSt G u4 stv0, cSt G u2 stv0]) [2, 0, 1, 3, 4, 5] 6 rfl (by decide +kernel) rfl) (fun u8 hu8 => ?_)
  subst hu8
  refine j_w (fl [cSt G u8 stv0, [oH a q0 zI], [aS G q0 7 (va_up (va_up (va_up (fun _ => none) 0 (some (u2 0))) 1 (some (u4 0))) 2 (some (u6 0)))], cSt G u6 stv0, cSt G u4 stv0, cSt G u2 stv0]) rfl ?_
  refine j_perm (fl [[oH a q0 zI], [aS G q0 7 (va_up (va_up (va_up (fun _ => none) 0 (some (u2 0))) 1 (some (u4 0))) 2 (some (u6 0)))], cSt G u8 stv0, cSt G u6 stv0, cSt G u4 stv0, cSt G u2 stv0]) (bperm [1, 2, 0, 3, 4, 5] 6 rfl (by decide +kernel) rfl) ?_
  refine j_perm (fl [cSt G u8 stv0, [oH a q0 zI], [aS G q0 7 (va_up (va_up (va_up (fun _ => none) 0 (some (u2 0))) 1 (some (u4 0))) 2 (some (u6 0)))], cSt G u6 stv0, cSt G u4 stv0, cSt G u2 stv0]) (bperm [2, 0, 1, 3, 4, 5] 6 rfl (by decide +kernel) rfl) ?_
  refine j_w (fl [[oS (u8 0) (u8 1) (u8 2) stv0.1], [aI G (u8 1) 7 stv0.2.1], [aD G (u8 2) 4 (fun k => some (u8 (3 + 2 * k)))], cDrs G u8 stv0.2.2.1 stv0.2.2.2, [oH a q0 zI], [aS G q0 7 (va_up (va_up (va_up (fun _ => none) 0 (some (u2 0))) 1 (some (u4 0))) 2 (some (u6 0)))], cSt G u6 stv0, cSt G u4 stv0, cSt G u2 stv0]) rfl ?_
  refine j_perm (fl [[oS (u8 0) (u8 1) (u8 2) stv0.1], [aI G (u8 1) 7 stv0.2.1], [aD G (u8 2) 4 (fun k => some (u8 (3 + 2 * k)))], [oH a q0 zI], [aS G q0 7 (va_up (va_up (va_up (fun _ => none) 0 (some (u2 0))) 1 (some (u4 0))) 2 (some (u6 0)))], cDrs G u8 stv0.2.2.1 stv0.2.2.2, cSt G u6 stv0, cSt G u4 stv0, cSt G u2 stv0]) (bperm [0, 1, 2, 4, 5, 3, 6, 7, 8] 9 rfl (by decide +kernel) rfl) ?_
  refine j_aastS C 4 0 rfl rfl rfl (vin_lit rfl) (fl [[oS (u8 0) (u8 1) (u8 2) stv0.1], [aI G (u8 1) 7 stv0.2.1], [aD G (u8 2) 4 (fun k => some (u8 (3 + 2 * k)))], [oH a q0 zI], [aS G q0 7 (va_up (va_up (va_up (va_up (fun _ => none) 0 (some (u2 0))) 1 (some (u4 0))) 2 (some (u6 0))) 3 (some (u8 0)))], cDrs G u8 stv0.2.2.1 stv0.2.2.2, cSt G u6 stv0, cSt G u4 stv0, cSt G u2 stv0]) rfl dX1_init_33 ?_
  refine j_iinc (v := 4) C [(1, .int 4), (0, .ref a)] dX1_init_34 (k := 0) rfl (by decide) (by decide) rfl ?_
  refine j_goto (tgt := 15) C dX1_init_37 (by decide) ?_
  refine j_iload_n C dX1_init_15 0 rfl ?_
  refine j_bipush (v := 6) C dX1_init_16 (by decide) ?_
  refine j_icmp_gt (tgt := 40) C dX1_init_18 (by decide) (fun h => absurd h (by decide)) (fun _ => ?_)
  refine j_aload_n C dX1_init_21 1 rfl ?_
  refine j_get C kin1 rfl 3 rfl 0 (by decide) kw_103 rfl (v := .ref q0) rfl dX1_init_22 ?_
  refine j_iload_n C dX1_init_25 0 rfl ?_
  refine j_new (ci := 3) C kin3 tyX3 tyX3_ok kw_101 kw_17 kw_2 rfl df_X3 (Nat.le_of_ble_eq_true rfl) (Nat.le_of_ble_eq_true rfl) dX1_init_26 (fun q9 => ?_)
  refine j_w (fl [[oS (u8 0) (u8 1) (u8 2) stv0.1], [aI G (u8 1) 7 stv0.2.1], [aD G (u8 2) 4 (fun k => some (u8 (3 + 2 * k)))], [oH a q0 zI], [aS G q0 7 (va_up (va_up (va_up (va_up (fun _ => none) 0 (some (u2 0))) 1 (some (u4 0))) 2 (some (u6 0))) 3 (some (u8 0)))], cDrs G u8 stv0.2.2.1 stv0.2.2.2, cSt G u6 stv0, cSt G u4 stv0, cSt G u2 stv0, [(q9, .inr (3, [.null, .null, .int (zI 2), .int (zI 3), .int (zI 4), .int (zI 5), .int (zI 6)]))]]) (fl_snoc _ _) ?_
  refine j_perm (fl [[oS (u8 0) (u8 1) (u8 2) stv0.1], [aI G (u8 1) 7 stv0.2.1], [aD G (u8 2) 4 (fun k => some (u8 (3 + 2 * k)))], [oH a q0 zI], [aS G q0 7 (va_up (va_up (va_up (va_up (fun _ => none) 0 (some (u2 0))) 1 (some (u4 0))) 2 (some (u6 0))) 3 (some (u8 0)))], [(q9, .inr (3, [.null, .null, .int (zI 2), .int (zI 3), .int (zI 4), .int (zI 5), .int (zI 6)]))], cDrs G u8 stv0.2.2.1 stv0.2.2.2, cSt G u6 stv0, cSt G u4 stv0, cSt G u2 stv0]) (bperm [0, 1, 2, 3, 4, 9, 5, 6, 7, 8] 10 rfl (by decide +kernel) rfl) ?_
  refine j_dup C dX1_init_29 rfl ?_
  refine j_perm (fl [[oS (u8 0) (u8 1) (u8 2) stv0.1], [aI G (u8 1) 7 stv0.2.1], [aD G (u8 2) 4 (fun k => some (u8 (3 + 2 * k)))], cDrs G u8 stv0.2.2.1 stv0.2.2.2, [oH a q0 zI], [aS G q0 7 (va_up (va_up (va_up (va_up (fun _ => none) 0 (some (u2 0))) 1 (some (u4 0))) 2 (some (u6 0))) 3 (some (u8 0)))], [(q9, .inr (3, [.null, .null, .int (zI 2), .int (zI 3), .int (zI 4), .int (zI 5), .int (zI 6)]))], cSt G u6 stv0, cSt G u4 stv0, cSt G u2 stv0]) (bperm [0, 1, 2, 6, 3, 4, 5, 7, 8, 9] 10 rfl (by decide +kernel) rfl) ?_
  refine j_w (fl [cSt G u8 stv0, [oH a q0 zI], [aS G q0 7 (va_up (va_up (va_up (va_up (fun _ => none) 0 (some (u2 0))) 1 (some (u4 0))) 2 (some (u6 0))) 3 (some (u8 0)))], [(q9, .inr (3, [.null, .null, .int (zI 2), .int (zI 3), .int (zI 4), .int (zI 5), .int (zI 6)]))], cSt G u6 stv0, cSt G u4 stv0, cSt G u2 stv0]) rfl ?_
  refine j_perm (fl [[oH a q0 zI], [aS G q0 7 (va_up (va_up (va_up (va_up (fun _ => none) 0 (some (u2 0))) 1 (some (u4 0))) 2 (some (u6 0))) 3 (some (u8 0)))], [(q9, .inr (3, [.null, .null, .int (zI 2), .int (zI 3), .int (zI 4), .int (zI 5), .int (zI 6)]))], cSt G u8 stv0, cSt G u6 stv0, cSt G u4 stv0, cSt G u2 stv0]) (bperm [1, 2, 3, 0, 4, 5, 6] 7 rfl (by decide +kernel) rfl) ?_
  refine j_callI_n C (m_X3_init l G q9) 0 kw_20 kw_2 kw_102 kw_19 rfl (by decide +kernel) ⟨(Nat.le_of_ble_eq_true rfl), (Nat.le_of_ble_eq_true rfl)⟩ rfl rfl (Nat.le_of_ble_eq_true rfl) dX1_init_30 ⟨(Nat.le_of_ble_eq_true rfl), (Nat.le_of_ble_eq_true rfl)⟩ (fl [[oH a q0 zI], [aS G q0 7 (va_up (va_up (va_up (va_up (fun _ => none) 0 (some (u2 0))) 1 (some (u4 0))) 2 (some (u6 0))) 3 (some (u8 0)))], cSt G u8 stv0, cSt G u6 stv0, cSt G u4 stv0, cSt G u2 stv0]) (bperm (bs' := [[(q9, .inr (3, [.null, .null, .int (zI 2), .int (zI 3), .int (zI 4), .int (zI 5), .int (zI 6)]))], [oH a q0 zI], [aS G q0 7 (va_up (va_up (va_up (va_up (fun _ => none) 0 (some (u2 0))) 1 (some (u4 0))) 2 (some (u6 0))) 3 (some (u8 0)))], cSt G u8 stv0, cSt G u6 stv0, cSt G u4 stv0, cSt G u2 stv0]) [2, 0, 1, 3, 4, 5, 6] 7 rfl (by decide +kernel) rfl) (fun u10 hu10 => ?_)
  subst hu10
  refine j_w (fl [cSt G u10 stv0, [oH a q0 zI], [aS G q0 7 (va_up (va_up (va_up (va_up (fun _ => none) 0 (some (u2 0))) 1 (some (u4 0))) 2 (some (u6 0))) 3 (some (u8 0)))], cSt G u8 stv0, cSt G u6 stv0, cSt G u4 stv0, cSt G u2 stv0]) rfl ?_
  refine j_perm (fl [[oH a q0 zI], [aS G q0 7 (va_up (va_up (va_up (va_up (fun _ => none) 0 (some (u2 0))) 1 (some (u4 0))) 2 (some (u6 0))) 3 (some (u8 0)))], cSt G u10 stv0, cSt G u8 stv0, cSt G u6 stv0, cSt G u4 stv0, cSt G u2 stv0]) (bperm [1, 2, 0, 3, 4, 5, 6] 7 rfl (by decide +kernel) rfl) ?_
  refine j_perm (fl [cSt G u10 stv0, [oH a q0 zI], [aS G q0 7 (va_up (va_up (va_up (va_up (fun _ => none) 0 (some (u2 0))) 1 (some (u4 0))) 2 (some (u6 0))) 3 (some (u8 0)))], cSt G u8 stv0, cSt G u6 stv0, cSt G u4 stv0, cSt G u2 stv0]) (bperm [2, 0, 1, 3, 4, 5, 6] 7 rfl (by decide +kernel) rfl) ?_
  refine j_w (fl [[oS (u10 0) (u10 1) (u10 2) stv0.1], [aI G (u10 1) 7 stv0.2.1], [aD G (u10 2) 4 (fun k => some (u10 (3 + 2 * k)))], cDrs G u10 stv0.2.2.1 stv0.2.2.2, [oH a q0 zI], [aS G q0 7 (va_up (va_up (va_up (va_up (fun _ => none) 0 (some (u2 0))) 1 (some (u4 0))) 2 (some (u6 0))) 3 (some (u8 0)))], cSt G u8 stv0, cSt G u6 stv0, cSt G u4 stv0, cSt G u2 stv0]) rfl ?_
  refine j_perm (fl [[oS (u10 0) (u10 1) (u10 2) stv0.1], [aI G (u10 1) 7 stv0.2.1], [aD G (u10 2) 4 (fun k => some (u10 (3 + 2 * k)))], [oH a q0 zI], [aS G q0 7 (va_up (va_up (va_up (va_up (fun _ => none) 0 (some (u2 0))) 1 (some (u4 0))) 2 (some (u6 0))) 3 (some (u8 0)))], cDrs G u10 stv0.2.2.1 stv0.2.2.2, cSt G u8 stv0, cSt G u6 stv0, cSt G u4 stv0, cSt G u2 stv0]) (bperm [0, 1, 2, 4, 5, 3, 6, 7, 8, 9] 10 rfl (by decide +kernel) rfl) ?_
  refine j_aastS C 4 0 rfl rfl rfl (vin_lit rfl) (fl [[oS (u10 0) (u10 1) (u10 2) stv0.1], [aI G (u10 1) 7 stv0.2.1], [aD G (u10 2) 4 (fun k => some (u10 (3 + 2 * k)))], [oH a q0 zI], [aS G q0 7 (va_up (va_up (va_up (va_up (va_up (fun _ => none) 0 (some (u2 0))) 1 (some (u4 0))) 2 (some (u6 0))) 3 (some (u8 0))) 4 (some (u10 0)))], cDrs G u10 stv0.2.2.1 stv0.2.2.2, cSt G u8 stv0, cSt G u6 stv0, cSt G u4 stv0, cSt G u2 stv0]) rfl dX1_init_33 ?_
  refine j_iinc (v := 5) C [(1, .int 5), (0, .ref a)] dX1_init_34 (k := 0) rfl (by decide) (by decide) rfl ?_
  refine j_goto (tgt := 15) C dX1_init_37 (by decide) ?_
  refine j_iload_n C dX1_init_15 0 rfl ?_
  refine j_bipush (v := 6) C dX1_init_16 (by decide) ?_
  refine j_icmp_gt (tgt := 40) C dX1_init_18 (by decide) (fun h => absurd h (by decide)) (fun _ => ?_)
  refine j_aload_n C dX1_init_21 1 rfl ?_
  refine j_get C kin1 rfl 3 rfl 0 (by decide) kw_103 rfl (v := .ref q0) rfl dX1_init_22 ?_
  refine j_iload_n C dX1_init_25 0 rfl ?_
  refine j_new (ci := 3) C kin3 tyX3 tyX3_ok kw_101 kw_17 kw_2 rfl df_X3 (Nat.le_of_ble_eq_true rfl) (Nat.le_of_ble_eq_true rfl) dX1_init_26 (fun q11 => ?_)
  refine j_w (fl [[oS (u10 0) (u10 1) (u10 2) stv0.1], [aI G (u10 1) 7 stv0.2.1], [aD G (u10 2) 4 (fun k => some (u10 (3 + 2 * k)))], [oH a q0 zI], [aS G q0 7 (va_up (va_up (va_up (va_up (va_up (fun _ => none) 0 (some (u2 0))) 1 (some (u4 0))) 2 (some (u6 0))) 3 (some (u8 0))) 4 (some (u10 0)))], cDrs G u10 stv0.2.2.1 stv0.2.2.2, cSt G u8 stv0, cSt G u6 stv0, cSt G u4 stv0, cSt G u2 stv0, [(q11, .inr (3, [.null, .null, .int (zI 2), .int (zI 3), .int (zI 4), .int (zI 5), .int (zI 6)]))]]) (fl_snoc _ _) ?_
  refine j_perm (fl [[oS (u10 0) (u10 1) (u10 2) stv0.1], [aI G (u10 1) 7 stv0.2.1], [aD G (u10 2) 4 (fun k => some (u10 (3 + 2 * k)))], [oH a q0 zI], [aS G q0 7 (va_up (va_up (va_up (va_up (va_up (fun _ => none) 0 (some (u2 0))) 1 (some (u4 0))) 2 (some (u6 0))) 3 (some (u8 0))) 4 (some (u10 0)))], [(q11, .inr (3, [.null, .null, .int (zI 2), .int (zI 3), .int (zI 4), .int (zI 5), .int (zI 6)]))], cDrs G u10 stv0.2.2.1 stv0.2.2.2, cSt G u8 stv0, cSt G u6 stv0, cSt G u4 stv0, cSt G u2 stv0]) (bperm [0, 1, 2, 3, 4, 10, 5, 6, 7, 8, 9] 11 rfl (by decide +kernel) rfl) ?_
  refine j_dup C dX1_init_29 rfl ?_
  refine j_perm (fl [[oS (u10 0) (u10 1) (u10 2) stv0.1], [aI G (u10 1) 7 stv0.2.1], [aD G (u10 2) 4 (fun k => some (u10 (3 + 2 * k)))], cDrs G u10 stv0.2.2.1 stv0.2.2.2, [oH a q0 zI], [aS G q0 7 (va_up (va_up (va_up (va_up (va_up (fun _ => none) 0 (some (u2 0))) 1 (some (u4 0))) 2 (some (u6 0))) 3 (some (u8 0))) 4 (some (u10 0)))], [(q11, .inr (3, [.null, .null, .int (zI 2), .int (zI 3), .int (zI 4), .int (zI 5), .int (zI 6)]))], cSt G u8 stv0, cSt G u6 stv0, cSt G u4 stv0, cSt G u2 stv0]) (bperm [0, 1, 2, 6, 3, 4, 5, 7, 8, 9, 10] 11 rfl (by decide +kernel) rfl) ?_
  refine j_w (fl [cSt G u10 stv0, [oH a q0 zI], [aS G q0 7 (va_up (va_up (va_up (va_up (va_up (fun _ => none) 0 (some (u2 0))) 1 (some (u4 0))) 2 (some (u6 0))) 3 (some (u8 0))) 4 (some (u10 0)))], [(q11, .inr (3, [.null, .null, .int (zI 2), .int (zI 3), .int (zI 4), .int (zI 5), .int (zI 6)]))], cSt G u8 stv0, cSt G u6 stv0, cSt G u4 stv0, cSt G u2 stv0]) rfl ?_
  refine j_perm (fl [[oH a q0 zI], [aS G q0 7 (va_up (va_up (va_up (va_up (va_up (fun _ => none) 0 (some (u2 0))) 1 (some (u4 0))) 2 (some (u6 0))) 3 (some (u8 0))) 4 (some (u10 0)))], [(q11, .inr (3, [.null, .null, .int (zI 2), .int (zI 3), .int (zI 4), .int (zI 5), .int (zI 6)]))], cSt G u10 stv0, cSt G u8 stv0, cSt G u6 stv0, cSt G u4 stv0, cSt G u2 stv0]) (bperm [1, 2, 3, 0, 4, 5, 6, 7] 8 rfl (by decide +kernel) rfl) ?_
  refine j_callI_n C (m_X3_init l G q11) 0 kw_20 kw_2 kw_102 kw_19 rfl (by decide +kernel) ⟨(Nat.le_of_ble_eq_true rfl), (Nat.le_of_ble_eq_true rfl)⟩ rfl rfl (Nat.le_of_ble_eq_true rfl) dX1_init_30 ⟨(Nat.le_of_ble_eq_true rfl), (Nat.le_of_ble_eq_true rfl)⟩ (fl [[oH a q0 zI], [aS G q0 7 (va_up (va_up (va_up (va_up (va_up (fun _ => none) 0 (some (u2 0))) 1 (some (u4 0))) 2 (some (u6 0))) 3 (some (u8 0))) 4 (some (u10 0)))], cSt G u10 stv0, cSt G u8 stv0, cSt G u6 stv0, cSt G u4 stv0, cSt G u2 stv0]) (bperm (bs' := [[(q11, .inr (3, [.null, .null, .int (zI 2), .int (zI 3), .int (zI 4), .int (zI 5), .int (zI 6)]))], [oH a q0 zI], [aS G q0 7 (va_up (va_up (va_up (va_up (va_up (fun _ => none) 0 (some (u2 0))) 1 (some (u4 0))) 2 (some (u6 0))) 3 (some (u8 0))) 4 (some (u10 0)))], cSt G u10 stv0, cSt G u8 stv0, cSt G u6 stv0, cSt G u4 stv0, cSt G u2 stv0]) [2, 0, 1, 3, 4, 5, 6, 7] 8 rfl (by decide +kernel) rfl) (fun u12 hu12 => ?_)
  subst hu12
  refine j_w (fl [cSt G u12 stv0, [oH a q0 zI], [aS G q0 7 (va_up (va_up (va_up (va_up (va_up (fun _ => none) 0 (some (u2 0))) 1 (some (u4 0))) 2 (some (u6 0))) 3 (some (u8 0))) 4 (some (u10 0)))], cSt G u10 stv0, cSt G u8 stv0, cSt G u6 stv0, cSt G u4 stv0, cSt G u2 stv0]) rfl ?_
  refine j_perm (fl [[oH a q0 zI], [aS G q0 7 (va_up (va_up (va_up (va_up (va_up (fun _ => none) 0 (some (u2 0))) 1 (some (u4 0))) 2 (some (u6 0))) 3 (some (u8 0))) 4 (some (u10 0)))], cSt G u12 stv0, cSt G u10 stv0, cSt G u8 stv0, cSt G u6 stv0, cSt G u4 stv0, cSt G u2 stv0]) (bperm [1, 2, 0, 3, 4, 5, 6, 7] 8 rfl (by decide +kernel) rfl) ?_
  refine j_perm (fl [cSt G u12 stv0, [oH a q0 zI], [aS G q0 7 (va_up (va_up (va_up (va_up (va_up (fun _ => none) 0 (some (u2 0))) 1 (some (u4 0))) 2 (some (u6 0))) 3 (some (u8 0))) 4 (some (u10 0)))], cSt G u10 stv0, cSt G u8 stv0, cSt G u6 stv0, cSt G u4 stv0, cSt G u2 stv0]) (bperm [2, 0, 1, 3, 4, 5, 6, 7] 8 rfl (by decide +kernel) rfl) ?_
  refine j_w (fl [[oS (u12 0) (u12 1) (u12 2) stv0.1], [aI G (u12 1) 7 stv0.2.1], [aD G (u12 2) 4 (fun k => some (u12 (3 + 2 * k)))], cDrs G u12 stv0.2.2.1 stv0.2.2.2, [oH a q0 zI], [aS G q0 7 (va_up (va_up (va_up (va_up (va_up (fun _ => none) 0 (some (u2 0))) 1 (some (u4 0))) 2 (some (u6 0))) 3 (some (u8 0))) 4 (some (u10 0)))], cSt G u10 stv0, cSt G u8 stv0, cSt G u6 stv0, cSt G u4 stv0, cSt G u2 stv0]) rfl ?_
  refine j_perm (fl [[oS (u12 0) (u12 1) (u12 2) stv0.1], [aI G (u12 1) 7 stv0.2.1], [aD G (u12 2) 4 (fun k => some (u12 (3 + 2 * k)))], [oH a q0 zI], [aS G q0 7 (va_up (va_up (va_up (va_up (va_up (fun _ => none) 0 (some (u2 0))) 1 (some (u4 0))) 2 (some (u6 0))) 3 (some (u8 0))) 4 (some (u10 0)))], cDrs G u12 stv0.2.2.1 stv0.2.2.2, cSt G u10 stv0, cSt G u8 stv0, cSt G u6 stv0, cSt G u4 stv0, cSt G u2 stv0]) (bperm [0, 1, 2, 4, 5, 3, 6, 7, 8, 9, 10] 11 rfl (by decide +kernel) rfl) ?_
  refine j_aastS C 4 0 rfl rfl rfl (vin_lit rfl) (fl [[oS (u12 0) (u12 1) (u12 2) stv0.1], [aI G (u12 1) 7 stv0.2.1], [aD G (u12 2) 4 (fun k => some (u12 (3 + 2 * k)))], [oH a q0 zI], [aS G q0 7 (va_up (va_up (va_up (va_up (va_up (va_up (fun _ => none) 0 (some (u2 0))) 1 (some (u4 0))) 2 (some (u6 0))) 3 (some (u8 0))) 4 (some (u10 0))) 5 (some (u12 0)))], cDrs G u12 stv0.2.2.1 stv0.2.2.2, cSt G u10 stv0, cSt G u8 stv0, cSt G u6 stv0, cSt G u4 stv0, cSt G u2 stv0]) rfl dX1_init_33 ?_
  refine j_iinc (v := 6) C [(1, .int 6), (0, .ref a)] dX1_init_34 (k := 0) rfl (by decide) (by decide) rfl ?_
  refine j_goto (tgt := 15) C dX1_init_37 (by decide) ?_
  refine j_iload_n C dX1_init_15 0 rfl ?_
  refine j_bipush (v := 6) C dX1_init_16 (by decide) ?_
  refine j_icmp_gt (tgt := 40) C dX1_init_18 (by decide) (fun h => absurd h (by decide)) (fun _ => ?_)
  refine j_aload_n C dX1_init_21 1 rfl ?_
  refine j_get C kin1 rfl 3 rfl 0 (by decide) kw_103 rfl (v := .ref q0) rfl dX1_init_22 ?_
  refine j_iload_n C dX1_init_25 0 rfl ?_
  refine j_new (ci := 3) C kin3 tyX3 tyX3_ok kw_101 kw_17 kw_2 rfl df_X3 (Nat.le_of_ble_eq_true rfl) (Nat.le_of_ble_eq_true rfl) dX1_init_26 (fun q13 => ?_)
  refine j_w (fl [[oS (u12 0) (u12 1) (u12 2) stv0.1], [aI G (u12 1) 7 stv0.2.1], [aD G (u12 2) 4 (fun k => some (u12 (3 + 2 * k)))], [oH a q0 zI], [aS G q0 7 (va_up (va_up (va_up (va_up (va_up (va_up (fun _ => none) 0 (some (u2 0))) 1 (some (u4 0))) 2 (some (u6 0))) 3 (some (u8 0))) 4 (some (u10 0))) 5 (some (u12 0)))], cDrs G u12 stv0.2.2.1 stv0.2.2.2, cSt G u10 stv0, cSt G u8 stv0, cSt G u6 stv0, cSt G u4 stv0, cSt G u2 stv0, [(q13, .inr (3, [.null, .null, .int (zI 2), .int (zI 3), .int (zI 4), .int (zI 5), .int (zI 6)]))]]) (fl_snoc _ _) ?_
  refine j_perm (fl [[oS (u12 0) (u12 1) (u12 2) stv0.1], [aI G (u12 1) 7 stv0.2.1], [aD G (u12 2) 4 (fun k => some (u12 (3 + 2 * k)))], [oH a q0 zI], [aS G q0 7 (va_up (va_up (va_up (va_up (va_up (va_up (fun _ => none) 0 (some (u2 0))) 1 (some (u4 0))) 2 (some (u6 0))) 3 (some (u8 0))) 4 (some (u10 0))) 5 (some (u12 0)))], [(q13, .inr (3, [.null, .null, .int (zI 2), .int (zI 3), .int (zI 4), .int (zI 5), .int (zI 6)]))], cDrs G u12 stv0.2.2.1 stv0.2.2.2, cSt G u10 stv0, cSt G u8 stv0, cSt G u6 stv0, cSt G u4 stv0, cSt G u2 stv0]) (bperm [0, 1, 2, 3, 4, 11, 5, 6, 7, 8, 9, 10] 12 rfl (by decide +kernel) rfl) ?_
  refine j_dup C dX1_init_29 rfl ?_
  refine j_perm (fl [[oS (u12 0) (u12 1) (u12 2) stv0.1], [aI G (u12 1) 7 stv0.2.1], [aD G (u12 2) 4 (fun k => some (u12 (3 + 2 * k)))], cDrs G u12 stv0.2.2.1 stv0.2.2.2, [oH a q0 zI], [aS G q0 7 (va_up (va_up (va_up (va_up (va_up (va_up (fun _ => none) 0 (some (u2 0))) 1 (some (u4 0))) 2 (some (u6 0))) 3 (some (u8 0))) 4 (some (u10 0))) 5 (some (u12 0)))], [(q13, .inr (3, [.null, .null, .int (zI 2), .int (zI 3), .int (zI 4), .int (zI 5), .int (zI 6)]))], cSt G u10 stv0, cSt G u8 stv0, cSt G u6 stv0, cSt G u4 stv0, cSt G u2 stv0]) (bperm [0, 1, 2, 6, 3, 4, 5, 7, 8, 9, 10, 11] 12 rfl (by decide +kernel) rfl) ?_
  refine j_w (fl [cSt G u12 stv0, [oH a q0 zI], [aS G q0 7 (va_up (va_up (va_up (va_up (va_up (va_up (fun _ => none) 0 (some (u2 0))) 1 (some (u4 0))) 2 (some (u6 0))) 3 (some (u8 0))) 4 (some (u10 0))) 5 (some (u12 0)))], [(q13, .inr (3, [.null, .null, .int (zI 2), .int (zI 3), .int (zI 4), .int (zI 5), .int (zI 6)]))], cSt G u10 stv0, cSt G u8 stv0, cSt G u6 stv0, cSt G u4 stv0, cSt G u2 stv0]) rfl ?_
  refine j_perm (fl [[oH a q0 zI], [aS G q0 7 (va_up (va_up (va_up (va_up (va_up (va_up (fun _ => none) 0 (some (u2 0))) 1 (some (u4 0))) 2 (some (u6 0))) 3 (some (u8 0))) 4 (some (u10 0))) 5 (some (u12 0)))], [(q13, .inr (3, [.null, .null, .int (zI 2), .int (zI 3), .int (zI 4), .int (zI 5), .int (zI 6)]))], cSt G u12 stv0, cSt G u10 stv0, cSt G u8 stv0, cSt G u6 stv0, cSt G u4 stv0, cSt G u2 stv0]) (bperm [1, 2, 3, 0, 4, 5, 6, 7, 8] 9 rfl (by decide +kernel) rfl) ?_
  refine j_callI_n C (m_X3_init l G q13) 0 kw_20 kw_2 kw_102 kw_19 rfl (by decide +kernel) ⟨(Nat.le_of_ble_eq_true rfl), (Nat.le_of_ble_eq_true rfl)⟩ rfl rfl (Nat.le_of_ble_eq_true rfl) dX1_init_30 ⟨(Nat.le_of_ble_eq_true rfl), (Nat.le_of_ble_eq_true rfl)⟩ (fl [[oH a q0 zI], [aS G q0 7 (va_up (va_up (va_up (va_up (va_up (va_up (fun _ => none) 0 (some (u2 0))) 1 (some (u4 0))) 2 (some (u6 0))) 3 (some (u8 0))) 4 (some (u10 0))) 5 (some (u12 0)))], cSt G u12 stv0, cSt G u10 stv0, cSt G u8 stv0, cSt G u6 stv0, cSt G u4 stv0, cSt G u2 stv0]) (bperm (bs' := [[(q13, .inr (3, [.null, .null, .int (zI 2), .int (zI 3), .int (zI 4), .int (zI 5), .int (zI 6)]))], [oH a q0 zI], [aS G q0 7 (va_up (va_up (va_up (va_up (va_up (va_up (fun _ => none) 0 (some (u2 0))) 1 (some (u4 0))) 2 (some (u6 0))) 3 (some (u8 0))) 4 (some (u10 0))) 5 (some (u12 0)))], cSt G u12 stv0, cSt G u10 stv0, cSt G u8 stv0, cSt G u6 stv0, cSt G u4 stv0, cSt G u2 stv0]) [2, 0, 1, 3, 4, 5, 6, 7, 8] 9 rfl (by decide +kernel) rfl) (fun u14 hu14 => ?_)
  subst hu14
  refine j_w (fl [cSt G u14 stv0, [oH a q0 zI], [aS G q0 7 (va_up (va_up (va_up (va_up (va_up (va_up (fun _ => none) 0 (some (u2 0))) 1 (some (u4 0))) 2 (some (u6 0))) 3 (some (u8 0))) 4 (some (u10 0))) 5 (some (u12 0)))], cSt G u12 stv0, cSt G u10 stv0, cSt G u8 stv0, cSt G u6 stv0, cSt G u4 stv0, cSt G u2 stv0]) rfl ?_
  refine j_perm (fl [[oH a q0 zI], [aS G q0 7 (va_up (va_up (va_up (va_up (va_up (va_up (fun _ => none) 0 (some (u2 0))) 1 (some (u4 0))) 2 (some (u6 0))) 3 (some (u8 0))) 4 (some (u10 0))) 5 (some (u12 0)))], cSt G u14 stv0, cSt G u12 stv0, cSt G u10 stv0, cSt G u8 stv0, cSt G u6 stv0, cSt G u4 stv0, cSt G u2 stv0]) (bperm [1, 2, 0, 3, 4, 5, 6, 7, 8] 9 rfl (by decide +kernel) rfl) ?_
  refine j_perm (fl [cSt G u14 stv0, [oH a q0 zI], [aS G q0 7 (va_up (va_up (va_up (va_up (va_up (va_up (fun _ => none) 0 (some (u2 0))) 1 (some (u4 0))) 2 (some (u6 0))) 3 (some (u8 0))) 4 (some (u10 0))) 5 (some (u12 0)))], cSt G u12 stv0, cSt G u10 stv0, cSt G u8 stv0, cSt G u6 stv0, cSt G u4 stv0, cSt G u2 stv0]) (bperm [2, 0, 1, 3, 4, 5, 6, 7, 8] 9 rfl (by decide +kernel) rfl) ?_
  refine j_w (fl [[oS (u14 0) (u14 1) (u14 2) stv0.1], [aI G (u14 1) 7 stv0.2.1], [aD G (u14 2) 4 (fun k => some (u14 (3 + 2 * k)))], cDrs G u14 stv0.2.2.1 stv0.2.2.2, [oH a q0 zI], [aS G q0 7 (va_up (va_up (va_up (va_up (va_up (va_up (fun _ => none) 0 (some (u2 0))) 1 (some (u4 0))) 2 (some (u6 0))) 3 (some (u8 0))) 4 (some (u10 0))) 5 (some (u12 0)))], cSt G u12 stv0, cSt G u10 stv0, cSt G u8 stv0, cSt G u6 stv0, cSt G u4 stv0, cSt G u2 stv0]) rfl ?_
  refine j_perm (fl [[oS (u14 0) (u14 1) (u14 2) stv0.1], [aI G (u14 1) 7 stv0.2.1], [aD G (u14 2) 4 (fun k => some (u14 (3 + 2 * k)))], [oH a q0 zI], [aS G q0 7 (va_up (va_up (va_up (va_up (va_up (va_up (fun _ => none) 0 (some (u2 0))) 1 (some (u4 0))) 2 (some (u6 0))) 3 (some (u8 0))) 4 (some (u10 0))) 5 (some (u12 0)))], cDrs G u14 stv0.2.2.1 stv0.2.2.2, cSt G u12 stv0, cSt G u10 stv0, cSt G u8 stv0, cSt G u6 stv0, cSt G u4 stv0, cSt G u2 stv0]) (bperm [0, 1, 2, 4, 5, 3, 6, 7, 8, 9, 10, 11] 12 rfl (by decide +kernel) rfl) ?_
  refine j_aastS C 4 0 rfl rfl rfl (vin_lit rfl) (fl [[oS (u14 0) (u14 1) (u14 2) stv0.1], [aI G (u14 1) 7 stv0.2.1], [aD G (u14 2) 4 (fun k => some (u14 (3 + 2 * k)))], [oH a q0 zI], [aS G q0 7 (va_up (va_up (va_up (va_up (va_up (va_up (va_up (fun _ => none) 0 (some (u2 0))) 1 (some (u4 0))) 2 (some (u6 0))) 3 (some (u8 0))) 4 (some (u10 0))) 5 (some (u12 0))) 6 (some (u14 0)))], cDrs G u14 stv0.2.2.1 stv0.2.2.2, cSt G u12 stv0, cSt G u10 stv0, cSt G u8 stv0, cSt G u6 stv0, cSt G u4 stv0, cSt G u2 stv0]) rfl dX1_init_33 ?_
  refine j_iinc (v := 7) C [(1, .int 7), (0, .ref a)] dX1_init_34 (k := 0) rfl (by decide) (by decide) rfl ?_
  refine j_goto (tgt := 15) C dX1_init_37 (by decide) ?_
  refine j_iload_n C dX1_init_15 0 rfl ?_
  refine j_bipush (v := 6) C dX1_init_16 (by decide) ?_
  refine j_icmp_gt (tgt := 40) C dX1_init_18 (by decide) (fun _ => ?_) (fun h => absurd h (by decide))
  refine j_perm (fl [[oS (u14 0) (u14 1) (u14 2) stv0.1], [aI G (u14 1) 7 stv0.2.1], [aD G (u14 2) 4 (fun k => some (u14 (3 + 2 * k)))], cDrs G u14 stv0.2.2.1 stv0.2.2.2, [oH a q0 zI], [aS G q0 7 (va_up (va_up (va_up (va_up (va_up (va_up (va_up (fun _ => none) 0 (some (u2 0))) 1 (some (u4 0))) 2 (some (u6 0))) 3 (some (u8 0))) 4 (some (u10 0))) 5 (some (u12 0))) 6 (some (u14 0)))], cSt G u12 stv0, cSt G u10 stv0, cSt G u8 stv0, cSt G u6 stv0, cSt G u4 stv0, cSt G u2 stv0]) (bperm [0, 1, 2, 5, 3, 4, 6, 7, 8, 9, 10, 11] 12 rfl (by decide +kernel) rfl) ?_
  refine j_w (fl [cSt G u14 stv0, [oH a q0 zI], [aS G q0 7 (va_up (va_up (va_up (va_up (va_up (va_up (va_up (fun _ => none) 0 (some (u2 0))) 1 (some (u4 0))) 2 (some (u6 0))) 3 (some (u8 0))) 4 (some (u10 0))) 5 (some (u12 0))) 6 (some (u14 0)))], cSt G u12 stv0, cSt G u10 stv0, cSt G u8 stv0, cSt G u6 stv0, cSt G u4 stv0, cSt G u2 stv0]) rfl ?_
  refine j_perm (fl [[oH a q0 zI], [aS G q0 7 (va_up (va_up (va_up (va_up (va_up (va_up (va_up (fun _ => none) 0 (some (u2 0))) 1 (some (u4 0))) 2 (some (u6 0))) 3 (some (u8 0))) 4 (some (u10 0))) 5 (some (u12 0))) 6 (some (u14 0)))], cSt G u14 stv0, cSt G u12 stv0, cSt G u10 stv0, cSt G u8 stv0, cSt G u6 stv0, cSt G u4 stv0, cSt G u2 stv0]) (bperm [1, 2, 0, 3, 4, 5, 6, 7, 8] 9 rfl (by decide +kernel) rfl) ?_
  refine j_perm (fl [[oH a q0 zI], [aS G q0 7 (va_up (va_up (va_up (va_up (va_up (va_up (va_up (fun _ => none) 0 (some (u2 0))) 1 (some (u4 0))) 2 (some (u6 0))) 3 (some (u8 0))) 4 (some (u10 0))) 5 (some (u12 0))) 6 (some (u14 0)))], cSt G u2 stv0, cSt G u4 stv0, cSt G u6 stv0, cSt G u8 stv0, cSt G u10 stv0, cSt G u12 stv0, cSt G u14 stv0]) (bperm [0, 1, 8, 7, 6, 5, 4, 3, 2] 9 rfl (by decide +kernel) rfl) ?_
  refine j_arq 1 rfl (by intro j hj; rcases (show j = 0 ∨ j = 1 ∨ j = 2 ∨ j = 3 ∨ j = 4 ∨ j = 5 ∨ j = 6 by omega) with rfl | rfl | rfl | rfl | rfl | rfl | rfl <;> rfl) (fl [[oH a q0 zI], [aS G q0 7 (fun k => some ((fun k => ([u2, u4, u6, u8, u10, u12, u14] : List (Nat → Nat)).getD k (fun _ => 0)) k 0))], cSt G u2 stv0, cSt G u4 stv0, cSt G u6 stv0, cSt G u8 stv0, cSt G u10 stv0, cSt G u12 stv0, cSt G u14 stv0]) rfl ?_
  refine j_w (fl [[oH a q0 zI], [aS G q0 7 (fun k => some ((fun k => ([u2, u4, u6, u8, u10, u12, u14] : List (Nat → Nat)).getD k (fun _ => 0)) k 0))], cMany G (fun k => ([u2, u4, u6, u8, u10, u12, u14] : List (Nat → Nat)).getD k (fun _ => 0)) (fun _ => stv0) 7]) (fl_grp [_, _] [_, _, _, _, _, _, _]) ?_
  subst hQ; exact j_nret C hr hk (q0, (fun k => ([u2, u4, u6, u8, u10, u12, u14] : List (Nat → Nat)).getD k (fun _ => 0))) (by first | trivial | rfl) rfl (Nat.le_of_ble_eq_true rfl) (Nat.le_of_ble_eq_true rfl) dX1_init_40
set_option maxRecDepth 100000 in
set_option maxHeartbeats 4000000 in
theorem m_X4_init (l : Launch) (G : GG) (a : Nat) : CtN l yX4_init cX4_init 2 (RC 4 138 5693) G [.ref a] ([(a, .inr (4, [.null, .null, .null, .null, .null, .null, .null]))]) (fun (u : (Nat → Nat) × (Nat → Nat → Nat)) => True) (fun (u : (Nat → Nat) × (Nat → Nat → Nat)) => fl [[oX a (u.2 0 0) (u.1 0) (u.1 2) (u.1 3) (u.1 4) (u.2 1 0) (u.2 2 0)], [oH (u.1 0) (u.1 1) zI], [aS G (u.1 1) 7 (fun k => some ((fun k => u.2 (3 + k)) k 0))], [oP (u.1 4) (u.1 5) zI], [aC G (u.1 5) (fun _ => 0)], [aS G (u.1 2) 2 (fun k => some ((fun k => u.2 (10 + k)) k 0))], [aZ G (u.1 3) 2 (fun _ => 0)], cMany G (fun k => u.2 (3 + k)) (fun _ => stv0) 7, cMany G (fun k => u.2 (10 + k)) (fun _ => stv0) 2, cSt G (u.2 0) stv0, cSt G (u.2 1) stv0, cSt G (u.2 2) stv0]) := by
  refine ct_N RX4 [(0, .ref a)] rfl (by decide +kernel) (Nat.le_of_ble_eq_true rfl) rfl ?_
  intro p e s m args below meth c A C hr hk hnm
  generalize hQ : (MQ below (va_Qv (fun (u : (Nat → Nat) × (Nat → Nat → Nat)) => True) (fun u t => va_P G.1 vwCl ((fun (u : (Nat → Nat) × (Nat → Nat → Nat)) => fl [[oX a (u.2 0 0) (u.1 0) (u.1 2) (u.1 3) (u.1 4) (u.2 1 0) (u.2 2 0)], [oH (u.1 0) (u.1 1) zI], [aS G (u.1 1) 7 (fun k => some ((fun k => u.2 (3 + k)) k 0))], [oP (u.1 4) (u.1 5) zI], [aC G (u.1 5) (fun _ => 0)], [aS G (u.1 2) 2 (fun k => some ((fun k => u.2 (10 + k)) k 0))], [aZ G (u.1 3) 2 (fun _ => 0)], cMany G (fun k => u.2 (3 + k)) (fun _ => stv0) 7, cMany G (fun k => u.2 (10 + k)) (fun _ => stv0) 2, cSt G (u.2 0) stv0, cSt G (u.2 1) stv0, cSt G (u.2 2) stv0]) u) t.heap ∧ va_D A ((fun (u : (Nat → Nat) × (Nat → Nat → Nat)) => fl [[oX a (u.2 0 0) (u.1 0) (u.1 2) (u.1 3) (u.1 4) (u.2 1 0) (u.2 2 0)], [oH (u.1 0) (u.1 1) zI], [aS G (u.1 1) 7 (fun k => some ((fun k => u.2 (3 + k)) k 0))], [oP (u.1 4) (u.1 5) zI], [aC G (u.1 5) (fun _ => 0)], [aS G (u.1 2) 2 (fun k => some ((fun k => u.2 (10 + k)) k 0))], [aZ G (u.1 3) 2 (fun _ => 0)], cMany G (fun k => u.2 (3 + k)) (fun _ => stv0) 7, cMany G (fun k => u.2 (10 + k)) (fun _ => stv0) 2, cSt G (u.2 0) stv0, cSt G (u.2 1) stv0, cSt G (u.2 2) stv0]) u)) A) args s (RC 4 138 5693).cells (RC 4 138 5693).slots A) = Q
  refine j_aload_n C dX4_init_0 0 rfl ?_
  refine j_objinit C kw_13 rfl (Nat.le_of_ble_eq_true rfl) (Nat.le_of_ble_eq_true rfl) (Nat.le_of_ble_eq_true rfl) dX4_init_1 ?_
  refine j_aload_n C dX4_init_4 0 rfl ?_
  refine j_new (ci := 3) C kin3 tyX3 tyX3_ok kw_16 kw_17 kw_2 rfl df_X3 (Nat.le_of_ble_eq_true rfl) (Nat.le_of_ble_eq_true rfl) dX4_init_5 (fun q0 => ?_)
  refine j_w ([(a, .inr (4, [.null, .null, .null, .null, .null, .null, .null])), (q0, .inr (3, [.null, .null, .int (zI 2), .int (zI 3), .int (zI 4), .int (zI 5), .int (zI 6)]))]) rfl ?_
  refine j_dup C dX4_init_8 rfl ?_
  refine j_callI_n C (m_X3_init l G q0) 0 kw_20 kw_2 kw_18 kw_19 rfl (by decide +kernel) ⟨(Nat.le_of_ble_eq_true rfl), (Nat.le_of_ble_eq_true rfl)⟩ rfl rfl (Nat.le_of_ble_eq_true rfl) dX4_init_9 ⟨(Nat.le_of_ble_eq_true rfl), (Nat.le_of_ble_eq_true rfl)⟩ ([(a, .inr (4, [.null, .null, .null, .null, .null, .null, .null]))]) (perm_idx [1, 0] 2 rfl (by decide +kernel) rfl) (fun u1 hu1 => ?_)
  subst hu1
  refine j_w (fl [cSt G u1 stv0, [(a, .inr (4, [.null, .null, .null, .null, .null, .null, .null]))]]) rfl ?_
  refine j_perm (fl [[(a, .inr (4, [.null, .null, .null, .null, .null, .null, .null]))], cSt G u1 stv0]) (bperm [1, 0] 2 rfl (by decide +kernel) rfl) ?_
  refine j_putF C kin4 rfl 0 rfl 0 (by decide) kw_126 rfl hnm rfl tyX4 tyX4_ok nmX4 rfl rfl rfl (Nat.le_of_ble_eq_true rfl) (fl [[(a, .inr (4, [.ref (u1 0), .null, .null, .null, .null, .null, .null]))], cSt G u1 stv0]) rfl dX4_init_12 ?_
  refine j_aload_n C dX4_init_15 0 rfl ?_
  refine j_new (ci := 1) C kin1 tyX1 tyX1_ok kw_95 kw_96 kw_5 rfl df_X1 (Nat.le_of_ble_eq_true rfl) (Nat.le_of_ble_eq_true rfl) dX4_init_16 (fun q2 => ?_)
  refine j_w (fl [[(a, .inr (4, [.ref (u1 0), .null, .null, .null, .null, .null, .null]))], cSt G u1 stv0, [(q2, .inr (1, [.null, .int (zI 1), .int (zI 2)]))]]) (fl_snoc _ _) ?_
  refine j_perm (fl [[(a, .inr (4, [.ref (u1 0), .null, .null, .null, .null, .null, .null]))], [(q2, .inr (1, [.null, .int (zI 1), .int (zI 2)]))], cSt G u1 stv0]) (bperm [0, 2, 1] 3 rfl (by decide +kernel) rfl) ?_
  refine j_dup C dX4_init_19 rfl ?_
  refine j_callI_n C (m_X1_init l G q2) 0 kw_99 kw_5 kw_97 kw_98 rfl (by decide +kernel) ⟨(Nat.le_of_ble_eq_true rfl), (Nat.le_of_ble_eq_true rfl)⟩ rfl rfl (Nat.le_of_ble_eq_true rfl) dX4_init_20 ⟨(Nat.le_of_ble_eq_true rfl), (Nat.le_of_ble_eq_true rfl)⟩ (fl [[(a, .inr (4, [.ref (u1 0), .null, .null, .null, .null, .null, .null]))], cSt G u1 stv0]) (bperm (bs' := [[(q2, .inr (1, [.null, .int (zI 1), .int (zI 2)]))], [(a, .inr (4, [.ref (u1 0), .null, .null, .null, .null, .null, .null]))], cSt G u1 stv0]) [1, 0, 2] 3 rfl (by decide +kernel) rfl) (fun u3 hu3 => ?_)
  refine j_w (fl [[oH q2 u3.1 zI], [aS G u3.1 7 (fun k => some (u3.2 k 0))], cMany G u3.2 (fun _ => stv0) 7, [(a, .inr (4, [.ref (u1 0), .null, .null, .null, .null, .null, .null]))], cSt G u1 stv0]) (fl_app _ _) ?_
  refine j_perm (fl [[oH q2 u3.1 zI], [aS G u3.1 7 (fun k => some (u3.2 k 0))], [(a, .inr (4, [.ref (u1 0), .null, .null, .null, .null, .null, .null]))], cMany G u3.2 (fun _ => stv0) 7, cSt G u1 stv0]) (bperm [0, 1, 3, 2, 4] 5 rfl (by decide +kernel) rfl) ?_
  refine j_putF C kin4 rfl 2 rfl 1 (by decide) kw_127 rfl hnm rfl tyX4 tyX4_ok nmX4 rfl rfl rfl (Nat.le_of_ble_eq_true rfl) (fl [[oH q2 u3.1 zI], [aS G u3.1 7 (fun k => some (u3.2 k 0))], [(a, .inr (4, [.ref (u1 0), .ref q2, .null, .null, .null, .null, .null]))], cMany G u3.2 (fun _ => stv0) 7, cSt G u1 stv0]) rfl dX4_init_23 ?_
  refine j_aload_n C dX4_init_26 0 rfl ?_
  refine j_iconst (v := 2) C dX4_init_27 (by decide) ?_
  refine j_newqS (N' := 2) C kw_16 (by decide) (by decide) (Nat.le_of_ble_eq_true rfl) (Nat.le_of_ble_eq_true rfl) (Nat.le_of_ble_eq_true rfl) dX4_init_28 (fun q4 => ?_)
  refine j_w (fl [[oH q2 u3.1 zI], [aS G u3.1 7 (fun k => some (u3.2 k 0))], [(a, .inr (4, [.ref (u1 0), .ref q2, .null, .null, .null, .null, .null]))], cMany G u3.2 (fun _ => stv0) 7, cSt G u1 stv0, [aS G q4 2 (fun _ => none)]]) (fl_snoc _ _) ?_
  refine j_perm (fl [[oH q2 u3.1 zI], [aS G u3.1 7 (fun k => some (u3.2 k 0))], [(a, .inr (4, [.ref (u1 0), .ref q2, .null, .null, .null, .null, .null]))], [aS G q4 2 (fun _ => none)], cMany G u3.2 (fun _ => stv0) 7, cSt G u1 stv0]) (bperm [0, 1, 2, 5, 3, 4] 6 rfl (by decide +kernel) rfl) ?_
  refine j_putF C kin4 rfl 2 rfl 2 (by decide) kw_128 rfl hnm rfl tyX4 tyX4_ok nmX4 rfl rfl rfl (Nat.le_of_ble_eq_true rfl) (fl [[oH q2 u3.1 zI], [aS G u3.1 7 (fun k => some (u3.2 k 0))], [(a, .inr (4, [.ref (u1 0), .ref q2, .ref q4, .null, .null, .null, .null]))], [aS G q4 2 (fun _ => none)], cMany G u3.2 (fun _ => stv0) 7, cSt G u1 stv0]) rfl dX4_init_31 ?_
  refine j_aload_n C dX4_init_34 0 rfl ?_
  refine j_iconst (v := 2) C dX4_init_35 (by decide) ?_
  refine j_newaZ (N' := 2) C (by decide) (by decide) (Nat.le_of_ble_eq_true rfl) (Nat.le_of_ble_eq_true rfl) (Nat.le_of_ble_eq_true rfl) dX4_init_36 (fun q5 => ?_)
  refine j_w (fl [[oH q2 u3.1 zI], [aS G u3.1 7 (fun k => some (u3.2 k 0))], [(a, .inr (4, [.ref (u1 0), .ref q2, .ref q4, .null, .null, .null, .null]))], [aS G q4 2 (fun _ => none)], cMany G u3.2 (fun _ => stv0) 7, cSt G u1 stv0, [aZ G q5 2 (fun _ => 0)]]) (fl_snoc _ _) ?_
  refine j_perm (fl [[oH q2 u3.1 zI], [aS G u3.1 7 (fun k => some (u3.2 k 0))], [(a, .inr (4, [.ref (u1 0), .ref q2, .ref q4, .null, .null, .null, .null]))], [aS G q4 2 (fun _ => none)], [aZ G q5 2 (fun _ => 0)], cMany G u3.2 (fun _ => stv0) 7, cSt G u1 stv0]) (bperm [0, 1, 2, 3, 6, 4, 5] 7 rfl (by decide +kernel) rfl) ?_
  refine j_putF C kin4 rfl 2 rfl 3 (by decide) kw_129 rfl hnm rfl tyX4 tyX4_ok nmX4 rfl rfl rfl (Nat.le_of_ble_eq_true rfl) (fl [[oH q2 u3.1 zI], [aS G u3.1 7 (fun k => some (u3.2 k 0))], [(a, .inr (4, [.ref (u1 0), .ref q2, .ref q4, .ref q5, .null, .null, .null]))], [aS G q4 2 (fun _ => none)], [aZ G q5 2 (fun _ => 0)], cMany G u3.2 (fun _ => stv0) 7, cSt G u1 stv0]) rfl dX4_init_38 ?_
  refine j_aload_n C dX4_init_41 0 rfl ?_
  refine j_new (ci := 2) C kin2 tyX2 tyX2_ok kw_110 kw_111 kw_6 rfl df_X2 (Nat.le_of_ble_eq_true rfl) (Nat.le_of_ble_eq_true rfl) dX4_init_42 (fun q6 => ?_)
  refine j_w (fl [[oH q2 u3.1 zI], [aS G u3.1 7 (fun k => some (u3.2 k 0))], [(a, .inr (4, [.ref (u1 0), .ref q2, .ref q4, .ref q5, .null, .null, .null]))], [aS G q4 2 (fun _ => none)], [aZ G q5 2 (fun _ => 0)], cMany G u3.2 (fun _ => stv0) 7, cSt G u1 stv0, [(q6, .inr (2, [.null, .int (zI 1), .int (zI 2), .int (zI 3), .int (zI 4), .int (zI 5), .int (zI 6)]))]]) (fl_snoc _ _) ?_
  refine j_perm (fl [[oH q2 u3.1 zI], [aS G u3.1 7 (fun k => some (u3.2 k 0))], [(a, .inr (4, [.ref (u1 0), .ref q2, .ref q4, .ref q5, .null, .null, .null]))], [aS G q4 2 (fun _ => none)], [aZ G q5 2 (fun _ => 0)], [(q6, .inr (2, [.null, .int (zI 1), .int (zI 2), .int (zI 3), .int (zI 4), .int (zI 5), .int (zI 6)]))], cMany G u3.2 (fun _ => stv0) 7, cSt G u1 stv0]) (bperm [0, 1, 2, 3, 4, 7, 5, 6] 8 rfl (by decide +kernel) rfl) ?_
  refine j_dup C dX4_init_45 rfl ?_
  refine j_callIN_n C (m_X2_init l G q6) 0 kw_113 (List.mem_of_getElem? (i := 1) rfl) kw_6 kw_112 rfl (by decide +kernel) ⟨(Nat.le_of_ble_eq_true rfl), (Nat.le_of_ble_eq_true rfl)⟩ rfl rfl (Nat.le_of_ble_eq_true rfl) dX4_init_46 ⟨(Nat.le_of_ble_eq_true rfl), (Nat.le_of_ble_eq_true rfl)⟩ (fl [[oH q2 u3.1 zI], [aS G u3.1 7 (fun k => some (u3.2 k 0))], [(a, .inr (4, [.ref (u1 0), .ref q2, .ref q4, .ref q5, .null, .null, .null]))], [aS G q4 2 (fun _ => none)], [aZ G q5 2 (fun _ => 0)], cMany G u3.2 (fun _ => stv0) 7, cSt G u1 stv0]) (bperm (bs' := [[(q6, .inr (2, [.null, .int (zI 1), .int (zI 2), .int (zI 3), .int (zI 4), .int (zI 5), .int (zI 6)]))], [oH q2 u3.1 zI], [aS G u3.1 7 (fun k => some (u3.2 k 0))], [(a, .inr (4, [.ref (u1 0), .ref q2, .ref q4, .ref q5, .null, .null, .null]))], [aS G q4 2 (fun _ => none)], [aZ G q5 2 (fun _ => 0)], cMany G u3.2 (fun _ => stv0) 7, cSt G u1 stv0]) [5, 0, 1, 2, 3, 4, 6, 7] 8 rfl (by decide +kernel) rfl) (fun u7 hu7 => ?_)
  refine j_w (fl [[oP q6 u7 zI], [aC G u7 (fun _ => 0)], [oH q2 u3.1 zI], [aS G u3.1 7 (fun k => some (u3.2 k 0))], [(a, .inr (4, [.ref (u1 0), .ref q2, .ref q4, .ref q5, .null, .null, .null]))], [aS G q4 2 (fun _ => none)], [aZ G q5 2 (fun _ => 0)], cMany G u3.2 (fun _ => stv0) 7, cSt G u1 stv0]) rfl ?_
  refine j_putF C kin4 rfl 4 rfl 4 (by decide) kw_130 rfl hnm rfl tyX4 tyX4_ok nmX4 rfl rfl rfl (Nat.le_of_ble_eq_true rfl) (fl [[oP q6 u7 zI], [aC G u7 (fun _ => 0)], [oH q2 u3.1 zI], [aS G u3.1 7 (fun k => some (u3.2 k 0))], [(a, .inr (4, [.ref (u1 0), .ref q2, .ref q4, .ref q5, .ref q6, .null, .null]))], [aS G q4 2 (fun _ => none)], [aZ G q5 2 (fun _ => 0)], cMany G u3.2 (fun _ => stv0) 7, cSt G u1 stv0]) rfl dX4_init_49 ?_
  refine j_aload_n C dX4_init_52 0 rfl ?_
  refine j_new (ci := 3) C kin3 tyX3 tyX3_ok kw_16 kw_17 kw_2 rfl df_X3 (Nat.le_of_ble_eq_true rfl) (Nat.le_of_ble_eq_true rfl) dX4_init_53 (fun q8 => ?_)
  refine j_w (fl [[oP q6 u7 zI], [aC G u7 (fun _ => 0)], [oH q2 u3.1 zI], [aS G u3.1 7 (fun k => some (u3.2 k 0))], [(a, .inr (4, [.ref (u1 0), .ref q2, .ref q4, .ref q5, .ref q6, .null, .null]))], [aS G q4 2 (fun _ => none)], [aZ G q5 2 (fun _ => 0)], cMany G u3.2 (fun _ => stv0) 7, cSt G u1 stv0, [(q8, .inr (3, [.null, .null, .int (zI 2), .int (zI 3), .int (zI 4), .int (zI 5), .int (zI 6)]))]]) (fl_snoc _ _) ?_
  refine j_perm (fl [[oP q6 u7 zI], [aC G u7 (fun _ => 0)], [oH q2 u3.1 zI], [aS G u3.1 7 (fun k => some (u3.2 k 0))], [(a, .inr (4, [.ref (u1 0), .ref q2, .ref q4, .ref q5, .ref q6, .null, .null]))], [aS G q4 2 (fun _ => none)], [aZ G q5 2 (fun _ => 0)], [(q8, .inr (3, [.null, .null, .int (zI 2), .int (zI 3), .int (zI 4), .int (zI 5), .int (zI 6)]))], cMany G u3.2 (fun _ => stv0) 7, cSt G u1 stv0]) (bperm [0, 1, 2, 3, 4, 5, 6, 9, 7, 8] 10 rfl (by decide +kernel) rfl) ?_
  refine j_dup C dX4_init_56 rfl ?_
  refine j_callI_n C (m_X3_init l G q8) 0 kw_20 kw_2 kw_18 kw_19 rfl (by decide +kernel) ⟨(Nat.le_of_ble_eq_true rfl), (Nat.le_of_ble_eq_true rfl)⟩ rfl rfl (Nat.le_of_ble_eq_true rfl) dX4_init_57 ⟨(Nat.le_of_ble_eq_true rfl), (Nat.le_of_ble_eq_true rfl)⟩ (fl [[oP q6 u7 zI], [aC G u7 (fun _ => 0)], [oH q2 u3.1 zI], [aS G u3.1 7 (fun k => some (u3.2 k 0))], [(a, .inr (4, [.ref (u1 0), .ref q2, .ref q4, .ref q5, .ref q6, .null, .null]))], [aS G q4 2 (fun _ => none)], [aZ G q5 2 (fun _ => 0)], cMany G u3.2 (fun _ => stv0) 7, cSt G u1 stv0]) (bperm (bs' := [[(q8, .inr (3, [.null, .null, .int (zI 2), .int (zI 3), .int (zI 4), .int (zI 5), .int (zI 6)]))], [oP q6 u7 zI], [aC G u7 (fun _ => 0)], [oH q2 u3.1 zI], [aS G u3.1 7 (fun k => some (u3.2 k 0))], [(a, .inr (4, [.ref (u1 0), .ref q2, .ref q4, .ref q5, .ref q6, .null, .null]))], [aS G q4 2 (fun _ => none)], [aZ G q5 2 (fun _ => 0)], cMany G u3.2 (fun _ => stv0) 7, cSt G u1 stv0]) [7, 0, 1, 2, 3, 4, 5, 6, 8, 9] 10 rfl (by decide +kernel) rfl) (fun u9 hu9 => ?_)
  subst hu9
  refine j_w (fl [cSt G u9 stv0, [oP q6 u7 zI], [aC G u7 (fun _ => 0)], [oH q2 u3.1 zI], [aS G u3.1 7 (fun k => some (u3.2 k 0))], [(a, .inr (4, [.ref (u1 0), .ref q2, .ref q4, .ref q5, .ref q6, .null, .null]))], [aS G q4 2 (fun _ => none)], [aZ G q5 2 (fun _ => 0)], cMany G u3.2 (fun _ => stv0) 7, cSt G u1 stv0]) rfl ?_
  refine j_perm (fl [[oP q6 u7 zI], [aC G u7 (fun _ => 0)], [oH q2 u3.1 zI], [aS G u3.1 7 (fun k => some (u3.2 k 0))], [(a, .inr (4, [.ref (u1 0), .ref q2, .ref q4, .ref q5, .ref q6, .null, .null]))], [aS G q4 2 (fun _ => none)], [aZ G q5 2 (fun _ => 0)], cSt G u9 stv0, cMany G u3.2 (fun _ => stv0) 7, cSt G u1 stv0]) (bperm [1, 2, 3, 4, 5, 6, 7, 0, 8, 9] 10 rfl (by decide +kernel) rfl) ?_
  refine j_putF C kin4 rfl 4 rfl 5 (by decide) kw_131 rfl hnm rfl tyX4 tyX4_ok nmX4 rfl rfl rfl (Nat.le_of_ble_eq_true rfl) (fl [[oP q6 u7 zI], [aC G u7 (fun _ => 0)], [oH q2 u3.1 zI], [aS G u3.1 7 (fun k => some (u3.2 k 0))], [(a, .inr (4, [.ref (u1 0), .ref q2, .ref q4, .ref q5, .ref q6, .ref (u9 0), .null]))], [aS G q4 2 (fun _ => none)], [aZ G q5 2 (fun _ => 0)], cSt G u9 stv0, cMany G u3.2 (fun _ => stv0) 7, cSt G u1 stv0]) rfl dX4_init_60 ?_
  refine j_aload_n C dX4_init_63 0 rfl ?_
  refine j_new (ci := 3) C kin3 tyX3 tyX3_ok kw_16 kw_17 kw_2 rfl df_X3 (Nat.le_of_ble_eq_true rfl) (Nat.le_of_ble_eq_true rfl) dX4_init_64 (fun q10 => ?_)
  refine j_w (fl [[oP q6 u7 zI], [aC G u7 (fun _ => 0)], [oH q2 u3.1 zI], [aS G u3.1 7 (fun k => some (u3.2 k 0))], [(a, .inr (4, [.ref (u1 0), .ref q2, .ref q4, .ref q5, .ref q6, .ref (u9 0), .null]))], [aS G q4 2 (fun _ => none)], [aZ G q5 2 (fun _ => 0)], cSt G u9 stv0, cMany G u3.2 (fun _ => stv0) 7, cSt G u1 stv0, [(q10, .inr (3, [.null, .null, .int (zI 2), .int (zI 3), .int (zI 4), .int (zI 5), .int (zI 6)]))]]) (fl_snoc _ _) ?_
  refine j_perm (fl [[oP q6 u7 zI], [aC G u7 (fun _ => 0)], [oH q2 u3.1 zI], [aS G u3.1 7 (fun k => some (u3.2 k 0))], [(a, .inr (4, [.ref (u1 0), .ref q2, .ref q4, .ref q5, .ref q6, .ref (u9 0), .null]))], [aS G q4 2 (fun _ => none)], [aZ G q5 2 (fun _ => 0)], [(q10, .inr (3, [.null, .null, .int (zI 2), .int (zI 3), .int (zI 4), .int (zI 5), .int (zI 6)]))], cSt G u9 stv0, cMany G u3.2 (fun _ => stv0) 7, cSt G u1 stv0]) (bperm [0, 1, 2, 3, 4, 5, 6, 10, 7, 8, 9] 11 rfl (by decide +kernel) rfl) ?_
  refine j_dup C dX4_init_67 rfl ?_
  refine j_callI_n C (m_X3_init l G q10) 0 kw_20 kw_2 kw_18 kw_19 rfl (by decide +kernel) ⟨(Nat.le_of_ble_eq_true rfl), (Nat.le_of_ble_eq_true rfl)⟩ rfl rfl (Nat.le_of_ble_eq_true rfl) dX4_init_68 ⟨(Nat.le_of_ble_eq_true rfl), (Nat.le_of_ble_eq_true rfl)⟩ (fl [[oP q6 u7 zI], [aC G u7 (fun _ => 0)], [oH q2 u3.1 zI], [aS G u3.1 7 (fun k => some (u3.2 k 0))], [(a, .inr (4, [.ref (u1 0), .ref q2, .ref q4, .ref q5, .ref q6, .ref (u9 0), .null]))], [aS G q4 2 (fun _ => none)], [aZ G q5 2 (fun _ => 0)], cSt G u9 stv0, cMany G u3.2 (fun _ => stv0) 7, cSt G u1 stv0]) (bperm (bs' := [[(q10, .inr (3, [.null, .null, .int (zI 2), .int (zI 3), .int (zI 4), .int (zI 5), .int (zI 6)]))], [oP q6 u7 zI], [aC G u7 (fun _ => 0)], [oH q2 u3.1 zI], [aS G u3.1 7 (fun k => some (u3.2 k 0))], [(a, .inr (4, [.ref (u1 0), .ref q2, .ref q4, .ref q5, .ref q6, .ref (u9 0), .null]))], [aS G q4 2 (fun _ => none)], [aZ G q5 2 (fun _ => 0)], cSt G u9 stv0, cMany G u3.2 (fun _ => stv0) 7, cSt G u1 stv0]) [7, 0, 1, 2, 3, 4, 5, 6, 8, 9, 10] 11 rfl (by decide +kernel) rfl) (fun u11 hu11 => ?_)
  subst hu11
  refine j_w (fl [cSt G u11 stv0, [oP q6 u7 zI], [aC G u7 (fun _ => 0)], [oH q2 u3.1 zI], [aS G u3.1 7 (fun k => some (u3.2 k 0))], [(a, .inr (4, [.ref (u1 0), .ref q2, .ref q4, .ref q5, .ref q6, .ref (u9 0), .null]))], [aS G q4 2 (fun _ => none)], [aZ G q5 2 (fun _ => 0)], cSt G u9 stv0, cMany G u3.2 (fun _ => stv0) 7, cSt G u1 stv0]) rfl ?_
  refine j_perm (fl [[oP q6 u7 zI], [aC G u7 (fun _ => 0)], [oH q2 u3.1 zI], [aS G u3.1 7 (fun k => some (u3.2 k 0))], [(a, .inr (4, [.ref (u1 0), .ref q2, .ref q4, .ref q5, .ref q6, .ref (u9 0), .null]))], [aS G q4 2 (fun _ => none)], [aZ G q5 2 (fun _ => 0)], cSt G u11 stv0, cSt G u9 stv0, cMany G u3.2 (fun _ => stv0) 7, cSt G u1 stv0]) (bperm [1, 2, 3, 4, 5, 6, 7, 0, 8, 9, 10] 11 rfl (by decide +kernel) rfl) ?_
  refine j_putF C kin4 rfl 4 rfl 6 (by decide) kw_132 rfl hnm rfl tyX4 tyX4_ok nmX4 rfl rfl rfl (Nat.le_of_ble_eq_true rfl) (fl [[oP q6 u7 zI], [aC G u7 (fun _ => 0)], [oH q2 u3.1 zI], [aS G u3.1 7 (fun k => some (u3.2 k 0))], [oX a (u1 0) q2 q4 q5 q6 (u9 0) (u11 0)], [aS G q4 2 (fun _ => none)], [aZ G q5 2 (fun _ => 0)], cSt G u11 stv0, cSt G u9 stv0, cMany G u3.2 (fun _ => stv0) 7, cSt G u1 stv0]) rfl dX4_init_71 ?_
  refine j_iconst (v := 0) C dX4_init_74 (by decide) ?_
  refine j_istore_n C [(1, .int 0), (0, .ref a)] dX4_init_75 (by decide) rfl ?_
  refine j_iload_n C dX4_init_76 0 rfl ?_
  refine j_iconst (v := 2) C dX4_init_77 (by decide) ?_
  refine j_icmp_ge (tgt := 100) C dX4_init_78 (by decide) (fun h => absurd h (by decide)) (fun _ => ?_)
  refine j_aload_n C dX4_init_81 1 rfl ?_
  refine j_get C kin4 rfl 4 rfl 2 (by decide) kw_128 rfl (v := .ref q4) rfl dX4_init_82 ?_
  refine j_iload_n C dX4_init_85 0 rfl ?_
  refine j_new (ci := 3) C kin3 tyX3 tyX3_ok kw_16 kw_17 kw_2 rfl df_X3 (Nat.le_of_ble_eq_true rfl) (Nat.le_of_ble_eq_true rfl) dX4_init_86 (fun q12 => ?_)
  refine j_w (fl [[oP q6 u7 zI], [aC G u7 (fun _ => 0)], [oH q2 u3.1 zI], [aS G u3.1 7 (fun k => some (u3.2 k 0))], [oX a (u1 0) q2 q4 q5 q6 (u9 0) (u11 0)], [aS G q4 2 (fun _ => none)], [aZ G q5 2 (fun _ => 0)], cSt G u11 stv0, cSt G u9 stv0, cMany G u3.2 (fun _ => stv0) 7, cSt G u1 stv0, [(q12, .inr (3, [.null, .null, .int (zI 2), .int (zI 3), .int (zI 4), .int (zI 5), .int (zI 6)]))]]) (fl_snoc _ _) ?_
  refine j_perm (fl [[oP q6 u7 zI], [aC G u7 (fun _ => 0)], [oH q2 u3.1 zI], [aS G u3.1 7 (fun k => some (u3.2 k 0))], [oX a (u1 0) q2 q4 q5 q6 (u9 0) (u11 0)], [aS G q4 2 (fun _ => none)], [aZ G q5 2 (fun _ => 0)], [(q12, .inr (3, [.null, .null, .int (zI 2), .int (zI 3), .int (zI 4), .int (zI 5), .int (zI 6)]))], cSt G u11 stv0, cSt G u9 stv0, cMany G u3.2 (fun _ => stv0) 7, cSt G u1 stv0]) (bperm [0, 1, 2, 3, 4, 5, 6, 11, 7, 8, 9, 10] 12 rfl (by decide +kernel) rfl) ?_
  refine j_dup C dX4_init_89 rfl ?_
  refine j_callI_n C (m_X3_init l G q12) 0 kw_20 kw_2 kw_18 kw_19 rfl (by decide +kernel) ⟨(Nat.le_of_ble_eq_true rfl), (Nat.le_of_ble_eq_true rfl)⟩ rfl rfl (Nat.le_of_ble_eq_true rfl) dX4_init_90 ⟨(Nat.le_of_ble_eq_true rfl), (Nat.le_of_ble_eq_true rfl)⟩ (fl [[oP q6 u7 zI], [aC G u7 (fun _ => 0)], [oH q2 u3.1 zI], [aS G u3.1 7 (fun k => some (u3.2 k 0))], [oX a (u1 0) q2 q4 q5 q6 (u9 0) (u11 0)], [aS G q4 2 (fun _ => none)], [aZ G q5 2 (fun _ => 0)], cSt G u11 stv0, cSt G u9 stv0, cMany G u3.2 (fun _ => stv0) 7, cSt G u1 stv0]) (bperm (bs' := [[(q12, .inr (3, [.null, .null, .int (zI 2), .int (zI 3), .int (zI 4), .int (zI 5), .int (zI 6)]))], [oP q6 u7 zI], [aC G u7 (fun _ => 0)], [oH q2 u3.1 zI], [aS G u3.1 7 (fun k => some (u3.2 k 0))], [oX a (u1 0) q2 q4 q5 q6 (u9 0) (u11 0)], [aS G q4 2 (fun _ => none)], [aZ G q5 2 (fun _ => 0)], cSt G u11 stv0, cSt G u9 stv0, cMany G u3.2 (fun _ => stv0) 7, cSt G u1 stv0]) [7, 0, 1, 2, 3, 4, 5, 6, 8, 9, 10, 11] 12 rfl (by decide +kernel) rfl) (fun u13 hu13 => ?_)
  subst hu13
  refine j_w (fl [cSt G u13 stv0, [oP q6 u7 zI], [aC G u7 (fun _ => 0)], [oH q2 u3.1 zI], [aS G u3.1 7 (fun k => some (u3.2 k 0))], [oX a (u1 0) q2 q4 q5 q6 (u9 0) (u11 0)], [aS G q4 2 (fun _ => none)], [aZ G q5 2 (fun _ => 0)], cSt G u11 stv0, cSt G u9 stv0, cMany G u3.2 (fun _ => stv0) 7, cSt G u1 stv0]) rfl ?_
  refine j_perm (fl [[oP q6 u7 zI], [aC G u7 (fun _ => 0)], [oH q2 u3.1 zI], [aS G u3.1 7 (fun k => some (u3.2 k 0))], [oX a (u1 0) q2 q4 q5 q6 (u9 0) (u11 0)], [aS G q4 2 (fun _ => none)], [aZ G q5 2 (fun _ => 0)], cSt G u13 stv0, cSt G u11 stv0, cSt G u9 stv0, cMany G u3.2 (fun _ => stv0) 7, cSt G u1 stv0]) (bperm [1, 2, 3, 4, 5, 6, 7, 0, 8, 9, 10, 11] 12 rfl (by decide +kernel) rfl) ?_
  refine j_perm (fl [cSt G u13 stv0, [oP q6 u7 zI], [aC G u7 (fun _ => 0)], [oH q2 u3.1 zI], [aS G u3.1 7 (fun k => some (u3.2 k 0))], [oX a (u1 0) q2 q4 q5 q6 (u9 0) (u11 0)], [aS G q4 2 (fun _ => none)], [aZ G q5 2 (fun _ => 0)], cSt G u11 stv0, cSt G u9 stv0, cMany G u3.2 (fun _ => stv0) 7, cSt G u1 stv0]) (bperm [7, 0, 1, 2, 3, 4, 5, 6, 8, 9, 10, 11] 12 rfl (by decide +kernel) rfl) ?_
  refine j_w (fl [[oS (u13 0) (u13 1) (u13 2) stv0.1], [aI G (u13 1) 7 stv0.2.1], [aD G (u13 2) 4 (fun k => some (u13 (3 + 2 * k)))], cDrs G u13 stv0.2.2.1 stv0.2.2.2, [oP q6 u7 zI], [aC G u7 (fun _ => 0)], [oH q2 u3.1 zI], [aS G u3.1 7 (fun k => some (u3.2 k 0))], [oX a (u1 0) q2 q4 q5 q6 (u9 0) (u11 0)], [aS G q4 2 (fun _ => none)], [aZ G q5 2 (fun _ => 0)], cSt G u11 stv0, cSt G u9 stv0, cMany G u3.2 (fun _ => stv0) 7, cSt G u1 stv0]) rfl ?_
  refine j_perm (fl [[oS (u13 0) (u13 1) (u13 2) stv0.1], [aI G (u13 1) 7 stv0.2.1], [aD G (u13 2) 4 (fun k => some (u13 (3 + 2 * k)))], [oP q6 u7 zI], [aC G u7 (fun _ => 0)], [oH q2 u3.1 zI], [aS G u3.1 7 (fun k => some (u3.2 k 0))], [oX a (u1 0) q2 q4 q5 q6 (u9 0) (u11 0)], [aS G q4 2 (fun _ => none)], [aZ G q5 2 (fun _ => 0)], cDrs G u13 stv0.2.2.1 stv0.2.2.2, cSt G u11 stv0, cSt G u9 stv0, cMany G u3.2 (fun _ => stv0) 7, cSt G u1 stv0]) (bperm [0, 1, 2, 4, 5, 6, 7, 8, 9, 10, 3, 11, 12, 13, 14] 15 rfl (by decide +kernel) rfl) ?_
  refine j_aastS C 8 0 rfl rfl rfl (vin_lit rfl) (fl [[oS (u13 0) (u13 1) (u13 2) stv0.1], [aI G (u13 1) 7 stv0.2.1], [aD G (u13 2) 4 (fun k => some (u13 (3 + 2 * k)))], [oP q6 u7 zI], [aC G u7 (fun _ => 0)], [oH q2 u3.1 zI], [aS G u3.1 7 (fun k => some (u3.2 k 0))], [oX a (u1 0) q2 q4 q5 q6 (u9 0) (u11 0)], [aS G q4 2 (va_up (fun _ => none) 0 (some (u13 0)))], [aZ G q5 2 (fun _ => 0)], cDrs G u13 stv0.2.2.1 stv0.2.2.2, cSt G u11 stv0, cSt G u9 stv0, cMany G u3.2 (fun _ => stv0) 7, cSt G u1 stv0]) rfl dX4_init_93 ?_
  refine j_iinc (v := 1) C [(1, .int 1), (0, .ref a)] dX4_init_94 (k := 0) rfl (by decide) (by decide) rfl ?_
  refine j_goto (tgt := 76) C dX4_init_97 (by decide) ?_
  refine j_iload_n C dX4_init_76 0 rfl ?_
  refine j_iconst (v := 2) C dX4_init_77 (by decide) ?_
  refine j_icmp_ge (tgt := 100) C dX4_init_78 (by decide) (fun h => absurd h (by decide)) (fun _ => ?_)
  refine j_aload_n C dX4_init_81 1 rfl ?_
  refine j_get C kin4 rfl 7 rfl 2 (by decide) kw_128 rfl (v := .ref q4) rfl dX4_init_82 ?_
  refine j_iload_n C dX4_init_85 0 rfl ?_
  refine j_new (ci := 3) C kin3 tyX3 tyX3_ok kw_16 kw_17 kw_2 rfl df_X3 (Nat.le_of_ble_eq_true rfl) (Nat.le_of_ble_eq_true rfl) dX4_init_86 (fun q14 => ?_)
  refine j_w (fl [[oS (u13 0) (u13 1) (u13 2) stv0.1], [aI G (u13 1) 7 stv0.2.1], [aD G (u13 2) 4 (fun k => some (u13 (3 + 2 * k)))], [oP q6 u7 zI], [aC G u7 (fun _ => 0)], [oH q2 u3.1 zI], [aS G u3.1 7 (fun k => some (u3.2 k 0))], [oX a (u1 0) q2 q4 q5 q6 (u9 0) (u11 0)], [aS G q4 2 (va_up (fun _ => none) 0 (some (u13 0)))], [aZ G q5 2 (fun _ => 0)], cDrs G u13 stv0.2.2.1 stv0.2.2.2, cSt G u11 stv0, cSt G u9 stv0, cMany G u3.2 (fun _ => stv0) 7, cSt G u1 stv0, [(q14, .inr (3, [.null, .null, .int (zI 2), .int (zI 3), .int (zI 4), .int (zI 5), .int (zI 6)]))]]) (fl_snoc _ _) ?_
  refine j_perm (fl [[oS (u13 0) (u13 1) (u13 2) stv0.1], [aI G (u13 1) 7 stv0.2.1], [aD G (u13 2) 4 (fun k => some (u13 (3 + 2 * k)))], [oP q6 u7 zI], [aC G u7 (fun _ => 0)], [oH q2 u3.1 zI], [aS G u3.1 7 (fun k => some (u3.2 k 0))], [oX a (u1 0) q2 q4 q5 q6 (u9 0) (u11 0)], [aS G q4 2 (va_up (fun _ => none) 0 (some (u13 0)))], [aZ G q5 2 (fun _ => 0)], [(q14, .inr (3, [.null, .null, .int (zI 2), .int (zI 3), .int (zI 4), .int (zI 5), .int (zI 6)]))], cDrs G u13 stv0.2.2.1 stv0.2.2.2, cSt G u11 stv0, cSt G u9 stv0, cMany G u3.2 (fun _ => stv0) 7, cSt G u1 stv0]) (bperm [0, 1, 2, 3, 4, 5, 6, 7, 8, 9, 15, 10, 11, 12, 13, 14] 16 rfl (by decide +kernel) rfl) ?_
  refine j_dup C dX4_init_89 rfl ?_
  refine j_perm (fl [[oS (u13 0) (u13 1) (u13 2) stv0.1], [aI G (u13 1) 7 stv0.2.1], [aD G (u13 2) 4 (fun k => some (u13 (3 + 2 * k)))], cDrs G u13 stv0.2.2.1 stv0.2.2.2, [oP q6 u7 zI], [aC G u7 (fun _ => 0)], [oH q2 u3.1 zI], [aS G u3.1 7 (fun k => some (u3.2 k 0))], [oX a (u1 0) q2 q4 q5 q6 (u9 0) (u11 0)], [aS G q4 2 (va_up (fun _ => none) 0 (some (u13 0)))], [aZ G q5 2 (fun _ => 0)], [(q14, .inr (3, [.null, .null, .int (zI 2), .int (zI 3), .int (zI 4), .int (zI 5), .int (zI 6)]))], cSt G u11 stv0, cSt G u9 stv0, cMany G u3.2 (fun _ => stv0) 7, cSt G u1 stv0]) (bperm [0, 1, 2, 11, 3, 4, 5, 6, 7, 8, 9, 10, 12, 13, 14, 15] 16 rfl (by decide +kernel) rfl) ?_
  refine j_w (fl [cSt G u13 stv0, [oP q6 u7 zI], [aC G u7 (fun _ => 0)], [oH q2 u3.1 zI], [aS G u3.1 7 (fun k => some (u3.2 k 0))], [oX a (u1 0) q2 q4 q5 q6 (u9 0) (u11 0)], [aS G q4 2 (va_up (fun _ => none) 0 (some (u13 0)))], [aZ G q5 2 (fun _ => 0)], [(q14, .inr (3, [.null, .null, .int (zI 2), .int (zI 3), .int (zI 4), .int (zI 5), .int (zI 6)]))], cSt G u11 stv0, cSt G u9 stv0, cMany G u3.2 (fun _ => stv0) 7, cSt G u1 stv0]) rfl ?_
  refine j_perm (fl [[oP q6 u7 zI], [aC G u7 (fun _ => 0)], [oH q2 u3.1 zI], [aS G u3.1 7 (fun k => some (u3.2 k 0))], [oX a (u1 0) q2 q4 q5 q6 (u9 0) (u11 0)], [aS G q4 2 (va_up (fun _ => none) 0 (some (u13 0)))], [aZ G q5 2 (fun _ => 0)], [(q14, .inr (3, [.null, .null, .int (zI 2), .int (zI 3), .int (zI 4), .int (zI 5), .int (zI 6)]))], cSt G u13 stv0, cSt G u11 stv0, cSt G u9 stv0, cMany G u3.2 (fun _ => stv0) 7, cSt G u1 stv0]) (bperm [1, 2, 3, 4, 5, 6, 7, 8, 0, 9, 10, 11, 12] 13 rfl (by decide +kernel) rfl) ?_
  refine j_callI_n C (m_X3_init l G q14) 0 kw_20 kw_2 kw_18 kw_19 rfl (by decide +kernel) ⟨(Nat.le_of_ble_eq_true rfl), (Nat.le_of_ble_eq_true rfl)⟩ rfl rfl (Nat.le_of_ble_eq_true rfl) dX4_init_90 ⟨(Nat.le_of_ble_eq_true rfl), (Nat.le_of_ble_eq_true rfl)⟩ (fl [[oP q6 u7 zI], [aC G u7 (fun _ => 0)], [oH q2 u3.1 zI], [aS G u3.1 7 (fun k => some (u3.2 k 0))], [oX a (u1 0) q2 q4 q5 q6 (u9 0) (u11 0)], [aS G q4 2 (va_up (fun _ => none) 0 (some (u13 0)))], [aZ G q5 2 (fun _ => 0)], cSt G u13 stv0, cSt G u11 stv0, cSt G u9 stv0, cMany G u3.2 (fun _ => stv0) 7, cSt G u1 stv0]) (bperm (bs' := [[(q14, .inr (3, [.null, .null, .int (zI 2), .int (zI 3), .int (zI 4), .int (zI 5), .int (zI 6)]))], [oP q6 u7 zI], [aC G u7 (fun _ => 0)], [oH q2 u3.1 zI], [aS G u3.1 7 (fun k => some (u3.2 k 0))], [oX a (u1 0) q2 q4 q5 q6 (u9 0) (u11 0)], [aS G q4 2 (va_up (fun _ => none) 0 (some (u13 0)))], [aZ G q5 2 (fun _ => 0)], cSt G u13 stv0, cSt G u11 stv0, cSt G u9 stv0, cMany G u3.2 (fun _ => stv0) 7, cSt G u1 stv0]) [7, 0, 1, 2, 3, 4, 5, 6, 8, 9, 10, 11, 12] 13 rfl (by decide +kernel) rfl) (fun u15 hu15 => ?_)
  subst hu15
  refine j_w (fl [cSt G u15 stv0, [oP q6 u7 zI], [aC G u7 (fun _ => 0)], [oH q2 u3.1 zI], [aS G u3.1 7 (fun k => some (u3.2 k 0))], [oX a (u1 0) q2 q4 q5 q6 (u9 0) (u11 0)], [aS G q4 2 (va_up (fun _ => none) 0 (some (u13 0)))], [aZ G q5 2 (fun _ => 0)], cSt G u13 stv0, cSt G u11 stv0, cSt G u9 stv0, cMany G u3.2 (fun _ => stv0) 7, cSt G u1 stv0]) rfl ?_
  refine j_perm (fl [[oP q6 u7 zI], [aC G u7 (fun _ => 0)], [oH q2 u3.1 zI], [aS G u3.1 7 (fun k => some (u3.2 k 0))], [oX a (u1 0) q2 q4 q5 q6 (u9 0) (u11 0)], [aS G q4 2 (va_up (fun _ => none) 0 (some (u13 0)))], [aZ G q5 2 (fun _ => 0)], cSt G u15 stv0, cSt G u13 stv0, cSt G u11 stv0, cSt G u9 stv0, cMany G u3.2 (fun _ => stv0) 7, cSt G u1 stv0]) (bperm [1, 2, 3, 4, 5, 6, 7, 0, 8, 9, 10, 11, 12] 13 rfl (by decide +kernel) rfl) ?_
  refine j_perm (fl [cSt G u15 stv0, [oP q6 u7 zI], [aC G u7 (fun _ => 0)], [oH q2 u3.1 zI], [aS G u3.1 7 (fun k => some (u3.2 k 0))], [oX a (u1 0) q2 q4 q5 q6 (u9 0) (u11 0)], [aS G q4 2 (va_up (fun _ => none) 0 (some (u13 0)))], [aZ G q5 2 (fun _ => 0)], cSt G u13 stv0, cSt G u11 stv0, cSt G u9 stv0, cMany G u3.2 (fun _ => stv0) 7, cSt G u1 stv0]) (bperm [7, 0, 1, 2, 3, 4, 5, 6, 8, 9, 10, 11, 12] 13 rfl (by decide +kernel) rfl) ?_
  refine j_w (fl [[oS (u15 0) (u15 1) (u15 2) stv0.1], [aI G (u15 1) 7 stv0.2.1], [aD G (u15 2) 4 (fun k => some (u15 (3 + 2 * k)))], cDrs G u15 stv0.2.2.1 stv0.2.2.2, [oP q6 u7 zI], [aC G u7 (fun _ => 0)], [oH q2 u3.1 zI], [aS G u3.1 7 (fun k => some (u3.2 k 0))], [oX a (u1 0) q2 q4 q5 q6 (u9 0) (u11 0)], [aS G q4 2 (va_up (fun _ => none) 0 (some (u13 0)))], [aZ G q5 2 (fun _ => 0)], cSt G u13 stv0, cSt G u11 stv0, cSt G u9 stv0, cMany G u3.2 (fun _ => stv0) 7, cSt G u1 stv0]) rfl ?_
  refine j_perm (fl [[oS (u15 0) (u15 1) (u15 2) stv0.1], [aI G (u15 1) 7 stv0.2.1], [aD G (u15 2) 4 (fun k => some (u15 (3 + 2 * k)))], [oP q6 u7 zI], [aC G u7 (fun _ => 0)], [oH q2 u3.1 zI], [aS G u3.1 7 (fun k => some (u3.2 k 0))], [oX a (u1 0) q2 q4 q5 q6 (u9 0) (u11 0)], [aS G q4 2 (va_up (fun _ => none) 0 (some (u13 0)))], [aZ G q5 2 (fun _ => 0)], cDrs G u15 stv0.2.2.1 stv0.2.2.2, cSt G u13 stv0, cSt G u11 stv0, cSt G u9 stv0, cMany G u3.2 (fun _ => stv0) 7, cSt G u1 stv0]) (bperm [0, 1, 2, 4, 5, 6, 7, 8, 9, 10, 3, 11, 12, 13, 14, 15] 16 rfl (by decide +kernel) rfl) ?_
  refine j_aastS C 8 0 rfl rfl rfl (vin_lit rfl) (fl [[oS (u15 0) (u15 1) (u15 2) stv0.1], [aI G (u15 1) 7 stv0.2.1], [aD G (u15 2) 4 (fun k => some (u15 (3 + 2 * k)))], [oP q6 u7 zI], [aC G u7 (fun _ => 0)], [oH q2 u3.1 zI], [aS G u3.1 7 (fun k => some (u3.2 k 0))], [oX a (u1 0) q2 q4 q5 q6 (u9 0) (u11 0)], [aS G q4 2 (va_up (va_up (fun _ => none) 0 (some (u13 0))) 1 (some (u15 0)))], [aZ G q5 2 (fun _ => 0)], cDrs G u15 stv0.2.2.1 stv0.2.2.2, cSt G u13 stv0, cSt G u11 stv0, cSt G u9 stv0, cMany G u3.2 (fun _ => stv0) 7, cSt G u1 stv0]) rfl dX4_init_93 ?_
  refine j_iinc (v := 2) C [(1, .int 2), (0, .ref a)] dX4_init_94 (k := 0) rfl (by decide) (by decide) rfl ?_
  refine j_goto (tgt := 76) C dX4_init_97 (by decide) ?_
  refine j_iload_n C dX4_init_76 0 rfl ?_
  refine j_iconst (v := 2) C dX4_init_77 (by decide) ?_
  refine j_icmp_ge (tgt := 100) C dX4_init_78 (by decide) (fun _ => ?_) (fun h => absurd h (by decide))
  refine j_perm (fl [[oS (u15 0) (u15 1) (u15 2) stv0.1], [aI G (u15 1) 7 stv0.2.1], [aD G (u15 2) 4 (fun k => some (u15 (3 + 2 * k)))], cDrs G u15 stv0.2.2.1 stv0.2.2.2, [oP q6 u7 zI], [aC G u7 (fun _ => 0)], [oH q2 u3.1 zI], [aS G u3.1 7 (fun k => some (u3.2 k 0))], [oX a (u1 0) q2 q4 q5 q6 (u9 0) (u11 0)], [aS G q4 2 (va_up (va_up (fun _ => none) 0 (some (u13 0))) 1 (some (u15 0)))], [aZ G q5 2 (fun _ => 0)], cSt G u13 stv0, cSt G u11 stv0, cSt G u9 stv0, cMany G u3.2 (fun _ => stv0) 7, cSt G u1 stv0]) (bperm [0, 1, 2, 10, 3, 4, 5, 6, 7, 8, 9, 11, 12, 13, 14, 15] 16 rfl (by decide +kernel) rfl) ?_
  refine j_w (fl [cSt G u15 stv0, [oP q6 u7 zI], [aC G u7 (fun _ => 0)], [oH q2 u3.1 zI], [aS G u3.1 7 (fun k => some (u3.2 k 0))], [oX a (u1 0) q2 q4 q5 q6 (u9 0) (u11 0)], [aS G q4 2 (va_up (va_up (fun _ => none) 0 (some (u13 0))) 1 (some (u15 0)))], [aZ G q5 2 (fun _ => 0)], cSt G u13 stv0, cSt G u11 stv0, cSt G u9 stv0, cMany G u3.2 (fun _ => stv0) 7, cSt G u1 stv0]) rfl ?_
  refine j_perm (fl [[oP q6 u7 zI], [aC G u7 (fun _ => 0)], [oH q2 u3.1 zI], [aS G u3.1 7 (fun k => some (u3.2 k 0))], [oX a (u1 0) q2 q4 q5 q6 (u9 0) (u11 0)], [aS G q4 2 (va_up (va_up (fun _ => none) 0 (some (u13 0))) 1 (some (u15 0)))], [aZ G q5 2 (fun _ => 0)], cSt G u15 stv0, cSt G u13 stv0, cSt G u11 stv0, cSt G u9 stv0, cMany G u3.2 (fun _ => stv0) 7, cSt G u1 stv0]) (bperm [1, 2, 3, 4, 5, 6, 7, 0, 8, 9, 10, 11, 12] 13 rfl (by decide +kernel) rfl) ?_
  refine j_perm (fl [[oX a (u1 0) q2 q4 q5 q6 (u9 0) (u11 0)], [oH q2 u3.1 zI], [aS G u3.1 7 (fun k => some (u3.2 k 0))], [oP q6 u7 zI], [aC G u7 (fun _ => 0)], [aS G q4 2 (va_up (va_up (fun _ => none) 0 (some (u13 0))) 1 (some (u15 0)))], [aZ G q5 2 (fun _ => 0)], cMany G u3.2 (fun _ => stv0) 7, cSt G u13 stv0, cSt G u15 stv0, cSt G u1 stv0, cSt G u9 stv0, cSt G u11 stv0]) (bperm [4, 2, 3, 0, 1, 5, 6, 11, 8, 7, 12, 10, 9] 13 rfl (by decide +kernel) rfl) ?_
  refine j_arq 5 rfl (by intro j hj; rcases (show j = 0 ∨ j = 1 by omega) with rfl | rfl <;> rfl) (fl [[oX a (u1 0) q2 q4 q5 q6 (u9 0) (u11 0)], [oH q2 u3.1 zI], [aS G u3.1 7 (fun k => some (u3.2 k 0))], [oP q6 u7 zI], [aC G u7 (fun _ => 0)], [aS G q4 2 (fun k => some ((fun k => ([u1, u9, u11, u3.2 0, u3.2 1, u3.2 2, u3.2 3, u3.2 4, u3.2 5, u3.2 6, u13, u15] : List (Nat → Nat)).getD k (fun _ => 0)) (10 + k) 0))], [aZ G q5 2 (fun _ => 0)], cMany G u3.2 (fun _ => stv0) 7, cSt G u13 stv0, cSt G u15 stv0, cSt G u1 stv0, cSt G u9 stv0, cSt G u11 stv0]) rfl ?_
  refine j_arq 2 rfl (by intro j hj; rcases (show j = 0 ∨ j = 1 ∨ j = 2 ∨ j = 3 ∨ j = 4 ∨ j = 5 ∨ j = 6 by omega) with rfl | rfl | rfl | rfl | rfl | rfl | rfl <;> rfl) (fl [[oX a (u1 0) q2 q4 q5 q6 (u9 0) (u11 0)], [oH q2 u3.1 zI], [aS G u3.1 7 (fun k => some ((fun k => ([u1, u9, u11, u3.2 0, u3.2 1, u3.2 2, u3.2 3, u3.2 4, u3.2 5, u3.2 6, u13, u15] : List (Nat → Nat)).getD k (fun _ => 0)) (3 + k) 0))], [oP q6 u7 zI], [aC G u7 (fun _ => 0)], [aS G q4 2 (fun k => some ((fun k => ([u1, u9, u11, u3.2 0, u3.2 1, u3.2 2, u3.2 3, u3.2 4, u3.2 5, u3.2 6, u13, u15] : List (Nat → Nat)).getD k (fun _ => 0)) (10 + k) 0))], [aZ G q5 2 (fun _ => 0)], cMany G u3.2 (fun _ => stv0) 7, cSt G u13 stv0, cSt G u15 stv0, cSt G u1 stv0, cSt G u9 stv0, cSt G u11 stv0]) rfl ?_
  refine j_w (fl [[oX a (u1 0) q2 q4 q5 q6 (u9 0) (u11 0)], [oH q2 u3.1 zI], [aS G u3.1 7 (fun k => some ((fun k => ([u1, u9, u11, u3.2 0, u3.2 1, u3.2 2, u3.2 3, u3.2 4, u3.2 5, u3.2 6, u13, u15] : List (Nat → Nat)).getD k (fun _ => 0)) (3 + k) 0))], [oP q6 u7 zI], [aC G u7 (fun _ => 0)], [aS G q4 2 (fun k => some ((fun k => ([u1, u9, u11, u3.2 0, u3.2 1, u3.2 2, u3.2 3, u3.2 4, u3.2 5, u3.2 6, u13, u15] : List (Nat → Nat)).getD k (fun _ => 0)) (10 + k) 0))], [aZ G q5 2 (fun _ => 0)], cMany G u3.2 (fun _ => stv0) 7, cMany G (fun k => (fun k => ([u1, u9, u11, u3.2 0, u3.2 1, u3.2 2, u3.2 3, u3.2 4, u3.2 5, u3.2 6, u13, u15] : List (Nat → Nat)).getD k (fun _ => 0)) (10 + k)) (fun _ => stv0) 2, cSt G u1 stv0, cSt G u9 stv0, cSt G u11 stv0]) (fl_grp2 [_, _, _, _, _, _, _, _] [_, _] [_, _, _]) ?_
  subst hQ; exact j_nret C hr hk ((fun k => ([q2, u3.1, q4, q5, q6, u7] : List Nat).getD k 0), (fun k => ([u1, u9, u11, u3.2 0, u3.2 1, u3.2 2, u3.2 3, u3.2 4, u3.2 5, u3.2 6, u13, u15] : List (Nat → Nat)).getD k (fun _ => 0))) (by first | trivial | rfl) rfl (Nat.le_of_ble_eq_true rfl) (Nat.le_of_ble_eq_true rfl) dX4_init_100
end
