-- ===== PART A: goes FIRST, ahead of the names: the tables' words, and 'selects' of the private methods out of them =====
/-- a private method of a class that the tables say can be made, by its rows of tables_1 -/
def lw_okq (q : MethodName × Nat) : Prop := (q.1.cls ≠ "java/lang/invoke/MethodHandle" ∧ q.1.cls ≠ "java/lang/invoke/VarHandle") ∧ Cond.instantiable q.1.cls q.2 ∈ tables_1 ∧ Cond.privateMethod q.1 ∈ tables_1 ∧ Cond.instanceMethod q.1 ∈ tables_1
theorem lw_p0 : lw_okq (⟨"SilentDrives$Station", "passMinuteOf", "(LSilentDrives$Drive;LSilentDrives$Drive;)Z"⟩, 7) := ⟨⟨by decide +kernel, by decide +kernel⟩, List.mem_of_getElem? (i := 17) (by decide +kernel), List.mem_of_getElem? (i := 219) (by decide +kernel), List.mem_of_getElem? (i := 220) (by decide +kernel)⟩
theorem lw_p1 : lw_okq (⟨"SilentDrives$Station", "settleHours", "(LSilentDrives$Drive;IZ)V"⟩, 7) := ⟨⟨by decide +kernel, by decide +kernel⟩, List.mem_of_getElem? (i := 17) (by decide +kernel), List.mem_of_getElem? (i := 238) (by decide +kernel), List.mem_of_getElem? (i := 239) (by decide +kernel)⟩
theorem lw_p2 : lw_okq (⟨"SilentDrives$Drive", "fillCells", "(I)V"⟩, 12) := ⟨⟨by decide +kernel, by decide +kernel⟩, List.mem_of_getElem? (i := 29) (by decide +kernel), List.mem_of_getElem? (i := 258) (by decide +kernel), List.mem_of_getElem? (i := 259) (by decide +kernel)⟩
theorem lw_p3 : lw_okq (⟨"SilentDrives$Station", "cleanUp", "(LSilentDrives$Drive;Z)Z"⟩, 7) := ⟨⟨by decide +kernel, by decide +kernel⟩, List.mem_of_getElem? (i := 17) (by decide +kernel), List.mem_of_getElem? (i := 270) (by decide +kernel), List.mem_of_getElem? (i := 271) (by decide +kernel)⟩
theorem lw_p4 : lw_okq (⟨"SilentDrives$Station", "chargeOverrun", "(LSilentDrives$Drive;I)V"⟩, 7) := ⟨⟨by decide +kernel, by decide +kernel⟩, List.mem_of_getElem? (i := 17) (by decide +kernel), List.mem_of_getElem? (i := 279) (by decide +kernel), List.mem_of_getElem? (i := 280) (by decide +kernel)⟩
theorem lw_p5 : lw_okq (⟨"SilentDrives", "recorded", "(I)I"⟩, 7) := ⟨⟨by decide +kernel, by decide +kernel⟩, List.mem_of_getElem? (i := 9) (by decide +kernel), List.mem_of_getElem? (i := 283) (by decide +kernel), List.mem_of_getElem? (i := 284) (by decide +kernel)⟩
theorem lw_p6 : lw_okq (⟨"SilentDrives$Station", "changeHour", "(IIII)I"⟩, 7) := ⟨⟨by decide +kernel, by decide +kernel⟩, List.mem_of_getElem? (i := 17) (by decide +kernel), List.mem_of_getElem? (i := 363) (by decide +kernel), List.mem_of_getElem? (i := 364) (by decide +kernel)⟩
def lw_privs_1 : List (MethodName × Nat) := [(⟨"SilentDrives$Station", "passMinuteOf", "(LSilentDrives$Drive;LSilentDrives$Drive;)Z"⟩, 7), (⟨"SilentDrives$Station", "settleHours", "(LSilentDrives$Drive;IZ)V"⟩, 7), (⟨"SilentDrives$Drive", "fillCells", "(I)V"⟩, 12), (⟨"SilentDrives$Station", "cleanUp", "(LSilentDrives$Drive;Z)Z"⟩, 7), (⟨"SilentDrives$Station", "chargeOverrun", "(LSilentDrives$Drive;I)V"⟩, 7), (⟨"SilentDrives", "recorded", "(I)I"⟩, 7), (⟨"SilentDrives$Station", "changeHour", "(IIII)I"⟩, 7)]
theorem lw_r1 : ∀ q ∈ lw_privs_1, lw_okq q := List.forall_mem_cons.mpr ⟨lw_p0, List.forall_mem_cons.mpr ⟨lw_p1, List.forall_mem_cons.mpr ⟨lw_p2, List.forall_mem_cons.mpr ⟨lw_p3, List.forall_mem_cons.mpr ⟨lw_p4, List.forall_mem_cons.mpr ⟨lw_p5, List.forall_mem_cons.mpr ⟨lw_p6, fun _ h => absurd h List.not_mem_nil⟩⟩⟩⟩⟩⟩⟩
def lw_privs : List (MethodName × Nat) := lw_privs_1
def lw_tbl : List Cond := k2_sels lw_privs ++ tables_1
theorem lw_privs_ok : ∀ q ∈ lw_privs, lw_okq q := lw_r1
/-- the streams that the claim lets the run draw from -/
abbrev lw_cs : List Choice := [Jvm.Choice.named "NaN.bits"]
theorem lw_bits : nanBits ∈ lw_cs := by first | decide | exact List.mem_cons_self | simp [lw_cs, nanBits]
-- ===== end of PART A; then your names; then what follows =====
/-! ===== BEGIN words of one list among another's, by their places ===== -/
theorem goodIn_r {big : List Cond} (ws : List Cond) (ps : List Nat) (hp : ws = ps.filterMap (fun i => big[i]?)) (h : ws.all goodWord = true) : GoodIn big ws := by
  intro w hw
  have h1 := List.all_eq_true.mp h w hw
  rw [hp] at hw
  obtain ⟨i, -, hi⟩ := List.mem_filterMap.mp hw
  have hm : w ∈ big := by first | exact List.mem_of_getElem? hi | exact List.getElem?_mem hi
  exact ⟨hm, good_of_word h1⟩
theorem goodIn_app {big a b : List Cond} (ha : GoodIn big a) (hb : GoodIn big b) : GoodIn big (a ++ b) := fun w h => (List.mem_append.mp h).elim (ha w) (hb w)
theorem goodIn_ca {big a b : List Cond} {c : Cond} (ha : GoodIn big (c :: a)) (hb : GoodIn big b) : GoodIn big (c :: (a ++ b)) := fun w h => (List.mem_cons.mp h).elim (fun e => ha w (List.mem_cons.mpr (Or.inl e))) (fun h => (List.mem_append.mp h).elim (fun h => ha w (List.mem_cons.mpr (Or.inr h))) (hb w))
theorem goodIn_sub {big ws : List Cond} (hm : ∀ w ∈ ws, w ∈ big) (h : ws.all goodWord = true) : GoodIn big ws := fun w hw => ⟨hm w hw, good_of_word (List.all_eq_true.mp h w hw)⟩
/-! ===== END ===== -/

/-! ===== BEGIN printed: names, fields, word lists, decode rows ===== -/
def RX0 : String := "SilentDrives$Drive"
def TX0 : u_T := fun k => match k with
  | 0 => ("SilentDrives$Drive", "free", "I", false)
  | 1 => ("SilentDrives$Drive", "stale", "I", false)
  | 2 => ("SilentDrives$Drive", "lent", "I", false)
  | 3 => ("SilentDrives$Drive", "held", "I", false)
  | 4 => ("SilentDrives$Drive", "cleaning", "Z", false)
  | 5 => ("SilentDrives$Drive", "written", "I", false)
  | 6 => ("SilentDrives$Drive", "sounded", "I", false)
  | 7 => ("SilentDrives$Drive", "overruns", "I", false)
  | 8 => ("SilentDrives$Drive", "every", "I", false)
  | 9 => ("SilentDrives$Drive", "units", "I", false)
  | 10 => ("SilentDrives$Drive", "heldSum", "J", false)
  | _ => ("SilentDrives$Drive", "hours", "[B", true)
def tyX0 : Nat → FieldType := fun k => match k with
  | 0 => .int
  | 1 => .int
  | 2 => .int
  | 3 => .int
  | 4 => .boolean
  | 5 => .int
  | 6 => .int
  | 7 => .int
  | 8 => .int
  | 9 => .int
  | 10 => .long
  | _ => .array .byte
abbrev wsX00 : List Cond := u_ws RX0 TX0 12
theorem nmX0 : ∀ a, a < 12 → ∀ b, b < 12 → a ≠ b → (TX0 a).2.1 ≠ (TX0 b).2.1 := by decide +kernel
theorem tyX0_ok : ∀ k, k < 12 → parseFieldDescriptor (TX0 k).2.2.1 = some (tyX0 k) := by decide +kernel
abbrev cX0_init : ByteArray := prog_2_method_1_code
def yX0_init : MethodName := ⟨RX0, "<init>", "()V"⟩
abbrev cX0_copyFrom : ByteArray := prog_2_method_2_code
def yX0_copyFrom : MethodName := ⟨RX0, "copyFrom", "(LSilentDrives$Drive;)V"⟩
abbrev cX0_hourState : ByteArray := prog_2_method_3_code
def yX0_hourState : MethodName := ⟨RX0, "hourState", "(I)I"⟩
abbrev cX0_markHour : ByteArray := prog_2_method_4_code
def yX0_markHour : MethodName := ⟨RX0, "markHour", "(II)V"⟩
abbrev cX0_isQuietIn : ByteArray := prog_2_method_5_code
def yX0_isQuietIn : MethodName := ⟨RX0, "isQuietIn", "(I)Z"⟩
abbrev cX0_hoursThatAre : ByteArray := prog_2_method_6_code
def yX0_hoursThatAre : MethodName := ⟨RX0, "hoursThatAre", "(I)I"⟩
abbrev cX0_soldHours : ByteArray := prog_2_method_7_code
def yX0_soldHours : MethodName := ⟨RX0, "soldHours", "()I"⟩
abbrev cX0_keptInARow : ByteArray := prog_2_method_8_code
def yX0_keptInARow : MethodName := ⟨RX0, "keptInARow", "()I"⟩
abbrev cX0_takeStream : ByteArray := prog_2_method_9_code
def yX0_takeStream : MethodName := ⟨RX0, "takeStream", "(I)V"⟩
abbrev cX0_takeBackFrom : ByteArray := prog_2_method_10_code
def yX0_takeBackFrom : MethodName := ⟨RX0, "takeBackFrom", "(LSilentDrives$Drive;)V"⟩
abbrev cX0_writeHeld : ByteArray := prog_2_method_11_code
def yX0_writeHeld : MethodName := ⟨RX0, "writeHeld", "()V"⟩
abbrev cX0_fillCells : ByteArray := prog_2_method_12_code
def yX0_fillCells : MethodName := ⟨RX0, "fillCells", "(I)V"⟩
abbrev cX0_lendTo : ByteArray := prog_2_method_13_code
def yX0_lendTo : MethodName := ⟨RX0, "lendTo", "(LSilentDrives$Drive;I)V"⟩
abbrev cX0_cleanCells : ByteArray := prog_2_method_14_code
def yX0_cleanCells : MethodName := ⟨RX0, "cleanCells", "(I)V"⟩
def RX1 : String := "SilentDrives$History"
def TX1 : u_T := fun k => match k with
  | 0 => ("SilentDrives$History", "states", "[LSilentDrives$Station;", true)
  | 1 => ("SilentDrives$History", "next", "I", false)
  | _ => ("SilentDrives$History", "size", "I", false)
def tyX1 : Nat → FieldType := fun k => match k with
  | 0 => .array (.object "SilentDrives$Station")
  | 1 => .int
  | _ => .int
abbrev wsX10 : List Cond := u_ws RX1 TX1 3
theorem nmX1 : ∀ a, a < 3 → ∀ b, b < 3 → a ≠ b → (TX1 a).2.1 ≠ (TX1 b).2.1 := by decide +kernel
theorem tyX1_ok : ∀ k, k < 3 → parseFieldDescriptor (TX1 k).2.2.1 = some (tyX1 k) := by decide +kernel
abbrev cX1_init : ByteArray := prog_3_method_1_code
def yX1_init : MethodName := ⟨RX1, "<init>", "()V"⟩
abbrev cX1_prepare : ByteArray := prog_3_method_2_code
def yX1_prepare : MethodName := ⟨RX1, "prepare", "(LSilentDrives$Station;)V"⟩
abbrev cX1_keepPrepared : ByteArray := prog_3_method_3_code
def yX1_keepPrepared : MethodName := ⟨RX1, "keepPrepared", "()V"⟩
def RX2 : String := "SilentDrives$Pad"
def TX2 : u_T := fun k => match k with
  | 0 => ("SilentDrives$Pad", "signs", "[C", true)
  | 1 => ("SilentDrives$Pad", "length", "I", false)
  | 2 => ("SilentDrives$Pad", "place", "I", false)
  | 3 => ("SilentDrives$Pad", "kind", "C", false)
  | 4 => ("SilentDrives$Pad", "drive", "I", false)
  | 5 => ("SilentDrives$Pad", "first", "I", false)
  | _ => ("SilentDrives$Pad", "second", "I", false)
def tyX2 : Nat → FieldType := fun k => match k with
  | 0 => .array .char
  | 1 => .int
  | 2 => .int
  | 3 => .char
  | 4 => .int
  | 5 => .int
  | _ => .int
abbrev wsX20 : List Cond := u_ws RX2 TX2 7
theorem nmX2 : ∀ a, a < 7 → ∀ b, b < 7 → a ≠ b → (TX2 a).2.1 ≠ (TX2 b).2.1 := by decide +kernel
theorem tyX2_ok : ∀ k, k < 7 → parseFieldDescriptor (TX2 k).2.2.1 = some (tyX2 k) := by decide +kernel
abbrev cX2_init : ByteArray := prog_4_method_1_code
def yX2_init : MethodName := ⟨RX2, "<init>", "()V"⟩
def RX3 : String := "SilentDrives$Station"
def TX3 : u_T := fun k => match k with
  | 0 => ("SilentDrives$Station", "settings", "[I", true)
  | 1 => ("SilentDrives$Station", "drives", "[LSilentDrives$Drive;", true)
  | 2 => ("SilentDrives$Station", "now", "I", false)
  | 3 => ("SilentDrives$Station", "earned", "I", false)
  | 4 => ("SilentDrives$Station", "fined", "I", false)
  | 5 => ("SilentDrives$Station", "credits", "I", false)
  | _ => ("SilentDrives$Station", "creditsUsed", "I", false)
def tyX3 : Nat → FieldType := fun k => match k with
  | 0 => .array .int
  | 1 => .array (.object "SilentDrives$Drive")
  | 2 => .int
  | 3 => .int
  | 4 => .int
  | 5 => .int
  | _ => .int
abbrev wsX30 : List Cond := u_ws RX3 TX3 7
theorem nmX3 : ∀ a, a < 7 → ∀ b, b < 7 → a ≠ b → (TX3 a).2.1 ≠ (TX3 b).2.1 := by decide +kernel
theorem tyX3_ok : ∀ k, k < 7 → parseFieldDescriptor (TX3 k).2.2.1 = some (tyX3 k) := by decide +kernel
abbrev cX3_init : ByteArray := prog_5_method_1_code
def yX3_init : MethodName := ⟨RX3, "<init>", "()V"⟩
abbrev cX3_copyFrom : ByteArray := prog_5_method_2_code
def yX3_copyFrom : MethodName := ⟨RX3, "copyFrom", "(LSilentDrives$Station;)V"⟩
abbrev cX3_hourOfNow : ByteArray := prog_5_method_3_code
def yX3_hourOfNow : MethodName := ⟨RX3, "hourOfNow", "()I"⟩
abbrev cX3_changeSetting : ByteArray := prog_5_method_4_code
def yX3_changeSetting : MethodName := ⟨RX3, "changeSetting", "(II)I"⟩
abbrev cX3_changeStream : ByteArray := prog_5_method_5_code
def yX3_changeStream : MethodName := ⟨RX3, "changeStream", "(III)I"⟩
abbrev cX3_bringUnits : ByteArray := prog_5_method_6_code
def yX3_bringUnits : MethodName := ⟨RX3, "bringUnits", "(II)I"⟩
abbrev cX3_sellHour : ByteArray := prog_5_method_7_code
def yX3_sellHour : MethodName := ⟨RX3, "sellHour", "(II)I"⟩
abbrev cX3_takeHourBack : ByteArray := prog_5_method_8_code
def yX3_takeHourBack : MethodName := ⟨RX3, "takeHourBack", "(II)I"⟩
abbrev cX3_changeHour : ByteArray := prog_5_method_9_code
def yX3_changeHour : MethodName := ⟨RX3, "changeHour", "(IIII)I"⟩
abbrev cX3_passMinutes : ByteArray := prog_5_method_10_code
def yX3_passMinutes : MethodName := ⟨RX3, "passMinutes", "(I)I"⟩
abbrev cX3_passOneMinute : ByteArray := prog_5_method_12_code
def yX3_passOneMinute : MethodName := ⟨RX3, "passOneMinute", "()Z"⟩
abbrev cX3_passMinuteOf : ByteArray := prog_5_method_13_code
def yX3_passMinuteOf : MethodName := ⟨RX3, "passMinuteOf", "(LSilentDrives$Drive;LSilentDrives$Drive;)Z"⟩
abbrev cX3_settleHours : ByteArray := prog_5_method_14_code
def yX3_settleHours : MethodName := ⟨RX3, "settleHours", "(LSilentDrives$Drive;IZ)V"⟩
abbrev cX3_cleanUp : ByteArray := prog_5_method_15_code
def yX3_cleanUp : MethodName := ⟨RX3, "cleanUp", "(LSilentDrives$Drive;Z)Z"⟩
abbrev cX3_chargeOverrun : ByteArray := prog_5_method_16_code
def yX3_chargeOverrun : MethodName := ⟨RX3, "chargeOverrun", "(LSilentDrives$Drive;I)V"⟩
def RX4 : String := "SilentDrives"
def TX4 : u_T := fun k => match k with
  | 0 => ("SilentDrives", "present", "LSilentDrives$Station;", true)
  | 1 => ("SilentDrives", "history", "LSilentDrives$History;", true)
  | 2 => ("SilentDrives", "slots", "[LSilentDrives$Station;", true)
  | 3 => ("SilentDrives", "slotUsed", "[Z", true)
  | 4 => ("SilentDrives", "pad", "LSilentDrives$Pad;", true)
  | 5 => ("SilentDrives", "trial", "LSilentDrives$Station;", true)
  | _ => ("SilentDrives", "soldTrial", "LSilentDrives$Station;", true)
def tyX4 : Nat → FieldType := fun k => match k with
  | 0 => .object "SilentDrives$Station"
  | 1 => .object "SilentDrives$History"
  | 2 => .array (.object "SilentDrives$Station")
  | 3 => .array .boolean
  | 4 => .object "SilentDrives$Pad"
  | 5 => .object "SilentDrives$Station"
  | _ => .object "SilentDrives$Station"
abbrev wsX40 : List Cond := u_ws RX4 TX4 7
theorem nmX4 : ∀ a, a < 7 → ∀ b, b < 7 → a ≠ b → (TX4 a).2.1 ≠ (TX4 b).2.1 := by decide +kernel
theorem tyX4_ok : ∀ k, k < 7 → parseFieldDescriptor (TX4 k).2.2.1 = some (tyX4 k) := by decide +kernel
abbrev cX4_init : ByteArray := prog_1_method_1_code
def yX4_init : MethodName := ⟨RX4, "<init>", "()V"⟩
abbrev cX4_set : ByteArray := prog_1_method_2_code
def yX4_set : MethodName := ⟨RX4, "set", "(II)I"⟩
abbrev cX4_stream : ByteArray := prog_1_method_3_code
def yX4_stream : MethodName := ⟨RX4, "stream", "(III)I"⟩
abbrev cX4_write : ByteArray := prog_1_method_4_code
def yX4_write : MethodName := ⟨RX4, "write", "(II)I"⟩
abbrev cX4_sell : ByteArray := prog_1_method_5_code
def yX4_sell : MethodName := ⟨RX4, "sell", "(II)I"⟩
abbrev cX4_giveBack : ByteArray := prog_1_method_6_code
def yX4_giveBack : MethodName := ⟨RX4, "giveBack", "(II)I"⟩
abbrev cX4_pass : ByteArray := prog_1_method_7_code
def yX4_pass : MethodName := ⟨RX4, "pass", "(I)I"⟩
abbrev cX4_ofDrive : ByteArray := prog_1_method_8_code
def yX4_ofDrive : MethodName := ⟨RX4, "ofDrive", "(II)I"⟩
abbrev cX4_hour : ByteArray := prog_1_method_9_code
def yX4_hour : MethodName := ⟨RX4, "hour", "(II)I"⟩
abbrev cX4_streak : ByteArray := prog_1_method_10_code
def yX4_streak : MethodName := ⟨RX4, "streak", "(I)I"⟩
abbrev cX4_share : ByteArray := prog_1_method_11_code
def yX4_share : MethodName := ⟨RX4, "share", "(I)I"⟩
abbrev cX4_count : ByteArray := prog_1_method_13_code
def yX4_count : MethodName := ⟨RX4, "count", "(I)I"⟩
abbrev cX4_recorded : ByteArray := prog_1_method_26_code
def yX4_recorded : MethodName := ⟨RX4, "recorded", "(I)I"⟩
abbrev cX4_isDrive : ByteArray := prog_1_method_30_code
def yX4_isDrive : MethodName := ⟨RX4, "isDrive", "(I)Z"⟩
abbrev cX4_twinOf : ByteArray := prog_1_method_31_code
def yX4_twinOf : MethodName := ⟨RX4, "twinOf", "(I)I"⟩
abbrev cX4_isHour : ByteArray := prog_1_method_32_code
def yX4_isHour : MethodName := ⟨RX4, "isHour", "(I)Z"⟩
abbrev cX4_arePassable : ByteArray := prog_1_method_34_code
def yX4_arePassable : MethodName := ⟨RX4, "arePassable", "(I)Z"⟩
abbrev cX4_doubleBits : ByteArray := prog_1_method_36_code
def yX4_doubleBits : MethodName := ⟨RX4, "doubleBits", "(D)J"⟩
abbrev cX4_floatBits : ByteArray := prog_1_method_37_code
def yX4_floatBits : MethodName := ⟨RX4, "floatBits", "(F)I"⟩
def RX5 : String := "SilentDrivesModel"
def TX5 : u_T := fun k => match k with
  | _ => ("", "", "", false)
def tyX5 : Nat → FieldType := fun k => match k with
  | _ => .int
abbrev wsX50 : List Cond := u_ws RX5 TX5 0
theorem nmX5 : ∀ a, a < 0 → ∀ b, b < 0 → a ≠ b → (TX5 a).2.1 ≠ (TX5 b).2.1 := by decide +kernel
theorem tyX5_ok : ∀ k, k < 0 → parseFieldDescriptor (TX5 k).2.2.1 = some (tyX5 k) := by decide +kernel
def RJ9 : String := "java/lang/Math"
def TJ9 : u_T := fun k => match k with
  | _ => ("", "", "", false)
def tyJ9 : Nat → FieldType := fun k => match k with
  | _ => .int
abbrev wsJ90 : List Cond := u_ws RJ9 TJ9 0
theorem nmJ9 : ∀ a, a < 0 → ∀ b, b < 0 → a ≠ b → (TJ9 a).2.1 ≠ (TJ9 b).2.1 := by decide +kernel
theorem tyJ9_ok : ∀ k, k < 0 → parseFieldDescriptor (TJ9 k).2.2.1 = some (tyJ9 k) := by decide +kernel
abbrev cJ9_min_7cf53 : ByteArray := prog_8_method_69_code
def yJ9_min_7cf53 : MethodName := ⟨RJ9, "min", "(II)I"⟩
def RJ10 : String := "java/lang/System"
def TJ10 : u_T := fun k => match k with
  | _ => ("", "", "", false)
def tyJ10 : Nat → FieldType := fun k => match k with
  | _ => .int
abbrev wsJ100 : List Cond := u_ws RJ10 TJ10 0
theorem nmJ10 : ∀ a, a < 0 → ∀ b, b < 0 → a ≠ b → (TJ10 a).2.1 ≠ (TJ10 b).2.1 := by decide +kernel
theorem tyJ10_ok : ∀ k, k < 0 → parseFieldDescriptor (TJ10 k).2.2.1 = some (tyJ10 k) := by decide +kernel
def RL : String := "SilentDrivesLaw"
abbrev cL_low : ByteArray := method_2_code
def yL_low : MethodName := ⟨RL, "low", "(II)I"⟩
abbrev cL_cell : ByteArray := method_3_code
def yL_cell : MethodName := ⟨RL, "cell", "([II)I"⟩
abbrev cL_drive : ByteArray := method_4_code
def yL_drive : MethodName := ⟨RL, "drive", "(LSilentDrives;I)Z"⟩
abbrev cL_act : ByteArray := method_5_code
def yL_act : MethodName := ⟨RL, "act", "(LSilentDrives;[II)I"⟩
abbrev cL_law : ByteArray := code
def yL_law : MethodName := ⟨RL, "law", "([I)Z"⟩
abbrev vwCl : List vw_C := [(RX0, TX0, 12), (RX1, TX1, 3), (RX2, TX2, 7), (RX3, TX3, 7), (RX4, TX4, 7)]
