/-! WORDS: AW is what of the tables a callee may be handed; each word by its place -/
def AW : List Cond := lw_tbl.filter goodWord
theorem AW_in {w : Cond} (h : w ∈ AW) : w ∈ lw_tbl := (List.mem_filter.mp h).1
theorem AW_good : AW.all goodWord = true := List.all_eq_true.mpr fun _ h => (List.mem_filter.mp h).2
theorem aw_0 {w : Cond} (h : w ∈ k2_sels lw_privs) (g : goodWord w = true) : w ∈ AW := List.mem_filter.mpr ⟨List.mem_append_left _ h, g⟩
theorem aw_t1 {w : Cond} (h : w ∈ tables_1_1) (g : goodWord w = true) : w ∈ AW := List.mem_filter.mpr ⟨List.mem_append_right _ (List.mem_append_left _ h), g⟩
theorem aw_t2 {w : Cond} (h : w ∈ tables_1_2) (g : goodWord w = true) : w ∈ AW := List.mem_filter.mpr ⟨List.mem_append_right _ (List.mem_append_right _ h), g⟩
theorem kw_0 : Cond.initialized RL ∈ AW := aw_t1 (List.mem_of_getElem? (i := 0) rfl) rfl
theorem kw_1 : Cond.initialized RX4 ∈ AW := aw_t1 (List.mem_of_getElem? (i := 1) rfl) rfl
theorem kw_2 : Cond.initialized RX3 ∈ AW := aw_t1 (List.mem_of_getElem? (i := 2) rfl) rfl
theorem kw_3 : Cond.initialized RJ10 ∈ AW := aw_t1 (List.mem_of_getElem? (i := 3) rfl) rfl
theorem kw_4 : Cond.initialized RX0 ∈ AW := aw_t1 (List.mem_of_getElem? (i := 4) rfl) rfl
theorem kw_5 : Cond.initialized RX1 ∈ AW := aw_t1 (List.mem_of_getElem? (i := 5) rfl) rfl
theorem kw_6 : Cond.initialized RX2 ∈ AW := aw_t1 (List.mem_of_getElem? (i := 6) rfl) rfl
theorem kw_7 : Cond.initialized RJ9 ∈ AW := aw_t1 (List.mem_of_getElem? (i := 7) rfl) rfl
theorem kw_8 : Cond.classLink RL 10 RX4 ∈ AW := aw_t1 (List.mem_of_getElem? (i := 8) rfl) rfl
theorem kw_9 : Cond.instantiable RX4 7 ∈ AW := aw_t1 (List.mem_of_getElem? (i := 9) rfl) rfl
theorem kw_10 : Cond.methodLink RL 53 yX4_init ∈ AW := aw_t1 (List.mem_of_getElem? (i := 10) rfl) rfl
theorem kw_11 : Cond.instanceMethod yX4_init ∈ AW := aw_t1 (List.mem_of_getElem? (i := 11) rfl) rfl
theorem kw_12 : Cond.code yX4_init cX4_init 2 (Option.none : Option Jvm.ClassFile.FieldType) ∈ AW := aw_t1 (List.mem_of_getElem? (i := 12) rfl) rfl
theorem kw_13 : Cond.methodLink RX4 1 objectInit ∈ AW := aw_t1 (List.mem_of_getElem? (i := 13) rfl) rfl
theorem kw_14 : Cond.instanceMethod objectInit ∈ AW := aw_t1 (List.mem_of_getElem? (i := 14) rfl) rfl
theorem kw_15 : Cond.code objectInit object_method_1_code 1 (Option.none : Option Jvm.ClassFile.FieldType) ∈ AW := aw_t1 (List.mem_of_getElem? (i := 15) rfl) rfl
theorem kw_16 : Cond.classLink RX4 7 RX3 ∈ AW := aw_t1 (List.mem_of_getElem? (i := 16) rfl) rfl
theorem kw_17 : Cond.instantiable RX3 7 ∈ AW := aw_t1 (List.mem_of_getElem? (i := 17) rfl) rfl
theorem kw_18 : Cond.methodLink RX4 9 yX3_init ∈ AW := aw_t1 (List.mem_of_getElem? (i := 18) rfl) rfl
theorem kw_19 : Cond.instanceMethod yX3_init ∈ AW := aw_t1 (List.mem_of_getElem? (i := 19) rfl) rfl
theorem kw_20 : Cond.code yX3_init cX3_init 2 (Option.none : Option Jvm.ClassFile.FieldType) ∈ AW := aw_t1 (List.mem_of_getElem? (i := 20) rfl) rfl
theorem kw_21 : Cond.methodLink RX3 3 objectInit ∈ AW := aw_t1 (List.mem_of_getElem? (i := 21) rfl) rfl
theorem kw_22 : Cond.classLink RX3 15 RX0 ∈ AW := aw_t1 (List.mem_of_getElem? (i := 22) rfl) rfl
theorem kw_23 : Cond.methodLink RX3 24 arraycopyName ∈ AW := aw_t1 (List.mem_of_getElem? (i := 26) rfl) rfl
theorem kw_24 : Cond.static arraycopyName ∈ AW := aw_t1 (List.mem_of_getElem? (i := 27) rfl) rfl
theorem kw_25 : Cond.native arraycopyName ∈ AW := aw_t1 (List.mem_of_getElem? (i := 28) rfl) rfl
theorem kw_26 : Cond.instantiable RX0 12 ∈ AW := aw_t1 (List.mem_of_getElem? (i := 29) rfl) rfl
theorem kw_27 : Cond.instanceMethod yX0_init ∈ AW := aw_t1 (List.mem_of_getElem? (i := 31) rfl) rfl
theorem kw_28 : Cond.code yX0_init cX0_init 1 (Option.none : Option Jvm.ClassFile.FieldType) ∈ AW := aw_t1 (List.mem_of_getElem? (i := 32) rfl) rfl
theorem kw_29 : Cond.methodLink RX0 3 objectInit ∈ AW := aw_t1 (List.mem_of_getElem? (i := 33) rfl) rfl
theorem kw_30 : Cond.fieldLink RX0 9 "SilentDrives$Drive" "free" "I" ∈ AW := aw_t1 (List.mem_of_getElem? (i := 34) rfl) rfl
theorem kw_31 : Cond.fieldLink RX4 80 "SilentDrives$Drive" "free" "I" ∈ AW := aw_t1 (List.mem_of_getElem? (i := 35) rfl) rfl
theorem kw_32 : Cond.fieldLink RX3 142 "SilentDrives$Drive" "free" "I" ∈ AW := aw_t1 (List.mem_of_getElem? (i := 36) rfl) rfl
theorem kw_33 : Cond.fieldLink RX0 22 "SilentDrives$Drive" "stale" "I" ∈ AW := aw_t1 (List.mem_of_getElem? (i := 37) rfl) rfl
theorem kw_34 : Cond.fieldLink RX4 86 "SilentDrives$Drive" "stale" "I" ∈ AW := aw_t1 (List.mem_of_getElem? (i := 38) rfl) rfl
theorem kw_35 : Cond.fieldLink RX3 145 "SilentDrives$Drive" "stale" "I" ∈ AW := aw_t1 (List.mem_of_getElem? (i := 39) rfl) rfl
theorem kw_36 : Cond.fieldLink RX0 25 "SilentDrives$Drive" "lent" "I" ∈ AW := aw_t1 (List.mem_of_getElem? (i := 40) rfl) rfl
theorem kw_37 : Cond.fieldLink RX4 89 "SilentDrives$Drive" "lent" "I" ∈ AW := aw_t1 (List.mem_of_getElem? (i := 41) rfl) rfl
theorem kw_38 : Cond.fieldLink RX0 28 "SilentDrives$Drive" "held" "I" ∈ AW := aw_t1 (List.mem_of_getElem? (i := 42) rfl) rfl
theorem kw_39 : Cond.fieldLink RX3 67 "SilentDrives$Drive" "held" "I" ∈ AW := aw_t1 (List.mem_of_getElem? (i := 43) rfl) rfl
theorem kw_40 : Cond.fieldLink RX4 92 "SilentDrives$Drive" "held" "I" ∈ AW := aw_t1 (List.mem_of_getElem? (i := 44) rfl) rfl
theorem kw_41 : Cond.fieldLink RX0 31 "SilentDrives$Drive" "cleaning" "Z" ∈ AW := aw_t1 (List.mem_of_getElem? (i := 45) rfl) rfl
theorem kw_42 : Cond.fieldLink RX4 102 "SilentDrives$Drive" "cleaning" "Z" ∈ AW := aw_t1 (List.mem_of_getElem? (i := 46) rfl) rfl
theorem kw_43 : Cond.fieldLink RX3 138 "SilentDrives$Drive" "cleaning" "Z" ∈ AW := aw_t1 (List.mem_of_getElem? (i := 47) rfl) rfl
theorem kw_44 : Cond.fieldLink RX0 35 "SilentDrives$Drive" "written" "I" ∈ AW := aw_t1 (List.mem_of_getElem? (i := 48) rfl) rfl
theorem kw_45 : Cond.fieldLink RX4 106 "SilentDrives$Drive" "written" "I" ∈ AW := aw_t1 (List.mem_of_getElem? (i := 49) rfl) rfl
theorem kw_46 : Cond.fieldLink RX0 38 "SilentDrives$Drive" "sounded" "I" ∈ AW := aw_t1 (List.mem_of_getElem? (i := 50) rfl) rfl
theorem kw_47 : Cond.fieldLink RX4 109 "SilentDrives$Drive" "sounded" "I" ∈ AW := aw_t1 (List.mem_of_getElem? (i := 51) rfl) rfl
theorem kw_48 : Cond.fieldLink RX0 41 "SilentDrives$Drive" "overruns" "I" ∈ AW := aw_t1 (List.mem_of_getElem? (i := 52) rfl) rfl
theorem kw_49 : Cond.fieldLink RX4 112 "SilentDrives$Drive" "overruns" "I" ∈ AW := aw_t1 (List.mem_of_getElem? (i := 53) rfl) rfl
theorem kw_50 : Cond.fieldLink RX3 157 "SilentDrives$Drive" "overruns" "I" ∈ AW := aw_t1 (List.mem_of_getElem? (i := 54) rfl) rfl
theorem kw_51 : Cond.fieldLink RX0 15 "SilentDrives$Drive" "every" "I" ∈ AW := aw_t1 (List.mem_of_getElem? (i := 55) rfl) rfl
theorem kw_52 : Cond.fieldLink RX3 64 "SilentDrives$Drive" "every" "I" ∈ AW := aw_t1 (List.mem_of_getElem? (i := 56) rfl) rfl
theorem kw_53 : Cond.fieldLink RX4 121 "SilentDrives$Drive" "every" "I" ∈ AW := aw_t1 (List.mem_of_getElem? (i := 57) rfl) rfl
theorem kw_54 : Cond.fieldLink RX0 44 "SilentDrives$Drive" "units" "I" ∈ AW := aw_t1 (List.mem_of_getElem? (i := 58) rfl) rfl
theorem kw_55 : Cond.fieldLink RX3 61 "SilentDrives$Drive" "units" "I" ∈ AW := aw_t1 (List.mem_of_getElem? (i := 59) rfl) rfl
theorem kw_56 : Cond.fieldLink RX4 124 "SilentDrives$Drive" "units" "I" ∈ AW := aw_t1 (List.mem_of_getElem? (i := 60) rfl) rfl
theorem kw_57 : Cond.fieldLink RX0 47 "SilentDrives$Drive" "heldSum" "J" ∈ AW := aw_t1 (List.mem_of_getElem? (i := 61) rfl) rfl
theorem kw_58 : Cond.fieldLink RX3 134 "SilentDrives$Drive" "heldSum" "J" ∈ AW := aw_t1 (List.mem_of_getElem? (i := 62) rfl) rfl
theorem kw_59 : Cond.fieldLink RX0 18 "SilentDrives$Drive" "hours" "[B" ∈ AW := aw_t1 (List.mem_of_getElem? (i := 63) rfl) rfl
theorem kw_60 : Cond.lays "SilentDrives$Drive" "SilentDrives$Drive" "free" "I" ∈ AW := aw_t1 (List.mem_of_getElem? (i := 64) rfl) rfl
theorem kw_61 : Cond.lays "SilentDrives$Drive" "SilentDrives$Drive" "stale" "I" ∈ AW := aw_t1 (List.mem_of_getElem? (i := 66) rfl) rfl
theorem kw_62 : Cond.lays "SilentDrives$Drive" "SilentDrives$Drive" "lent" "I" ∈ AW := aw_t1 (List.mem_of_getElem? (i := 68) rfl) rfl
theorem kw_63 : Cond.lays "SilentDrives$Drive" "SilentDrives$Drive" "held" "I" ∈ AW := aw_t1 (List.mem_of_getElem? (i := 70) rfl) rfl
theorem kw_64 : Cond.lays "SilentDrives$Drive" "SilentDrives$Drive" "cleaning" "Z" ∈ AW := aw_t1 (List.mem_of_getElem? (i := 72) rfl) rfl
theorem kw_65 : Cond.lays "SilentDrives$Drive" "SilentDrives$Drive" "written" "I" ∈ AW := aw_t1 (List.mem_of_getElem? (i := 74) rfl) rfl
theorem kw_66 : Cond.lays "SilentDrives$Drive" "SilentDrives$Drive" "sounded" "I" ∈ AW := aw_t1 (List.mem_of_getElem? (i := 76) rfl) rfl
theorem kw_67 : Cond.lays "SilentDrives$Drive" "SilentDrives$Drive" "overruns" "I" ∈ AW := aw_t1 (List.mem_of_getElem? (i := 78) rfl) rfl
theorem kw_68 : Cond.lays "SilentDrives$Drive" "SilentDrives$Drive" "every" "I" ∈ AW := aw_t1 (List.mem_of_getElem? (i := 80) rfl) rfl
theorem kw_69 : Cond.lays "SilentDrives$Drive" "SilentDrives$Drive" "units" "I" ∈ AW := aw_t1 (List.mem_of_getElem? (i := 82) rfl) rfl
theorem kw_70 : Cond.lays "SilentDrives$Drive" "SilentDrives$Drive" "heldSum" "J" ∈ AW := aw_t1 (List.mem_of_getElem? (i := 84) rfl) rfl
theorem kw_71 : Cond.laysFinal "SilentDrives$Drive" "SilentDrives$Drive" "hours" "[B" ∈ AW := aw_t1 (List.mem_of_getElem? (i := 86) rfl) rfl
theorem kw_72 : Cond.arrayClass Jvm.ClassFile.FieldType.int ∈ AW := aw_t1 (List.mem_of_getElem? (i := 89) rfl) rfl
theorem kw_73 : Cond.arrayClass Jvm.ClassFile.FieldType.byte ∈ AW := aw_t1 (List.mem_of_getElem? (i := 90) rfl) rfl
theorem kw_74 : Cond.fieldLink RX3 9 "SilentDrives$Station" "settings" "[I" ∈ AW := aw_t1 (List.mem_of_getElem? (i := 91) rfl) rfl
theorem kw_75 : Cond.fieldLink RX4 153 "SilentDrives$Station" "settings" "[I" ∈ AW := aw_t1 (List.mem_of_getElem? (i := 92) rfl) rfl
theorem kw_76 : Cond.fieldLink RX3 17 "SilentDrives$Station" "drives" "[LSilentDrives$Drive;" ∈ AW := aw_t1 (List.mem_of_getElem? (i := 93) rfl) rfl
theorem kw_77 : Cond.fieldLink RX4 76 "SilentDrives$Station" "drives" "[LSilentDrives$Drive;" ∈ AW := aw_t1 (List.mem_of_getElem? (i := 94) rfl) rfl
theorem kw_78 : Cond.fieldLink RX3 35 "SilentDrives$Station" "now" "I" ∈ AW := aw_t1 (List.mem_of_getElem? (i := 95) rfl) rfl
theorem kw_79 : Cond.fieldLink RX4 142 "SilentDrives$Station" "now" "I" ∈ AW := aw_t1 (List.mem_of_getElem? (i := 96) rfl) rfl
theorem kw_80 : Cond.fieldLink RX3 39 "SilentDrives$Station" "earned" "I" ∈ AW := aw_t1 (List.mem_of_getElem? (i := 97) rfl) rfl
theorem kw_81 : Cond.fieldLink RX4 157 "SilentDrives$Station" "earned" "I" ∈ AW := aw_t1 (List.mem_of_getElem? (i := 98) rfl) rfl
theorem kw_82 : Cond.fieldLink RX3 42 "SilentDrives$Station" "fined" "I" ∈ AW := aw_t1 (List.mem_of_getElem? (i := 99) rfl) rfl
theorem kw_83 : Cond.fieldLink RX4 160 "SilentDrives$Station" "fined" "I" ∈ AW := aw_t1 (List.mem_of_getElem? (i := 100) rfl) rfl
theorem kw_84 : Cond.fieldLink RX3 45 "SilentDrives$Station" "credits" "I" ∈ AW := aw_t1 (List.mem_of_getElem? (i := 101) rfl) rfl
theorem kw_85 : Cond.fieldLink RX4 163 "SilentDrives$Station" "credits" "I" ∈ AW := aw_t1 (List.mem_of_getElem? (i := 102) rfl) rfl
theorem kw_86 : Cond.fieldLink RX3 48 "SilentDrives$Station" "creditsUsed" "I" ∈ AW := aw_t1 (List.mem_of_getElem? (i := 103) rfl) rfl
theorem kw_87 : Cond.fieldLink RX4 166 "SilentDrives$Station" "creditsUsed" "I" ∈ AW := aw_t1 (List.mem_of_getElem? (i := 104) rfl) rfl
theorem kw_88 : Cond.laysFinal "SilentDrives$Station" "SilentDrives$Station" "settings" "[I" ∈ AW := aw_t1 (List.mem_of_getElem? (i := 105) rfl) rfl
theorem kw_89 : Cond.laysFinal "SilentDrives$Station" "SilentDrives$Station" "drives" "[LSilentDrives$Drive;" ∈ AW := aw_t1 (List.mem_of_getElem? (i := 107) rfl) rfl
theorem kw_90 : Cond.lays "SilentDrives$Station" "SilentDrives$Station" "now" "I" ∈ AW := aw_t1 (List.mem_of_getElem? (i := 109) rfl) rfl
theorem kw_91 : Cond.lays "SilentDrives$Station" "SilentDrives$Station" "earned" "I" ∈ AW := aw_t1 (List.mem_of_getElem? (i := 111) rfl) rfl
theorem kw_92 : Cond.lays "SilentDrives$Station" "SilentDrives$Station" "fined" "I" ∈ AW := aw_t1 (List.mem_of_getElem? (i := 113) rfl) rfl
theorem kw_93 : Cond.lays "SilentDrives$Station" "SilentDrives$Station" "credits" "I" ∈ AW := aw_t1 (List.mem_of_getElem? (i := 115) rfl) rfl
theorem kw_94 : Cond.lays "SilentDrives$Station" "SilentDrives$Station" "creditsUsed" "I" ∈ AW := aw_t1 (List.mem_of_getElem? (i := 117) rfl) rfl
theorem kw_95 : Cond.classLink RX4 16 RX1 ∈ AW := aw_t1 (List.mem_of_getElem? (i := 120) rfl) rfl
theorem kw_96 : Cond.instantiable RX1 3 ∈ AW := aw_t1 (List.mem_of_getElem? (i := 121) rfl) rfl
theorem kw_97 : Cond.methodLink RX4 18 yX1_init ∈ AW := aw_t1 (List.mem_of_getElem? (i := 122) rfl) rfl
theorem kw_98 : Cond.instanceMethod yX1_init ∈ AW := aw_t1 (List.mem_of_getElem? (i := 123) rfl) rfl
theorem kw_99 : Cond.code yX1_init cX1_init 2 (Option.none : Option Jvm.ClassFile.FieldType) ∈ AW := aw_t1 (List.mem_of_getElem? (i := 124) rfl) rfl
theorem kw_100 : Cond.methodLink RX1 3 objectInit ∈ AW := aw_t1 (List.mem_of_getElem? (i := 125) rfl) rfl
theorem kw_101 : Cond.classLink RX1 9 RX3 ∈ AW := aw_t1 (List.mem_of_getElem? (i := 126) rfl) rfl
theorem kw_102 : Cond.methodLink RX1 17 yX3_init ∈ AW := aw_t1 (List.mem_of_getElem? (i := 128) rfl) rfl
theorem kw_103 : Cond.fieldLink RX1 11 "SilentDrives$History" "states" "[LSilentDrives$Station;" ∈ AW := aw_t1 (List.mem_of_getElem? (i := 129) rfl) rfl
theorem kw_104 : Cond.fieldLink RX1 18 "SilentDrives$History" "next" "I" ∈ AW := aw_t1 (List.mem_of_getElem? (i := 130) rfl) rfl
theorem kw_105 : Cond.fieldLink RX1 26 "SilentDrives$History" "size" "I" ∈ AW := aw_t1 (List.mem_of_getElem? (i := 131) rfl) rfl
theorem kw_106 : Cond.fieldLink RX4 172 "SilentDrives$History" "size" "I" ∈ AW := aw_t1 (List.mem_of_getElem? (i := 132) rfl) rfl
theorem kw_107 : Cond.laysFinal "SilentDrives$History" "SilentDrives$History" "states" "[LSilentDrives$Station;" ∈ AW := aw_t1 (List.mem_of_getElem? (i := 133) rfl) rfl
theorem kw_108 : Cond.lays "SilentDrives$History" "SilentDrives$History" "next" "I" ∈ AW := aw_t1 (List.mem_of_getElem? (i := 135) rfl) rfl
theorem kw_109 : Cond.lays "SilentDrives$History" "SilentDrives$History" "size" "I" ∈ AW := aw_t1 (List.mem_of_getElem? (i := 137) rfl) rfl
theorem kw_110 : Cond.classLink RX4 31 RX2 ∈ AW := aw_t1 (List.mem_of_getElem? (i := 140) rfl) rfl
theorem kw_111 : Cond.instantiable RX2 7 ∈ AW := aw_t1 (List.mem_of_getElem? (i := 141) rfl) rfl
theorem kw_112 : Cond.instanceMethod yX2_init ∈ AW := aw_t1 (List.mem_of_getElem? (i := 143) rfl) rfl
theorem kw_113 : Cond.code yX2_init cX2_init 1 (Option.none : Option Jvm.ClassFile.FieldType) ∈ AW := aw_t1 (List.mem_of_getElem? (i := 144) rfl) rfl
theorem kw_114 : Cond.methodLink RX2 3 objectInit ∈ AW := aw_t1 (List.mem_of_getElem? (i := 145) rfl) rfl
theorem kw_115 : Cond.fieldLink RX2 9 "SilentDrives$Pad" "signs" "[C" ∈ AW := aw_t1 (List.mem_of_getElem? (i := 146) rfl) rfl
theorem kw_116 : Cond.fieldLink RX4 169 "SilentDrives$Pad" "length" "I" ∈ AW := aw_t1 (List.mem_of_getElem? (i := 147) rfl) rfl
theorem kw_117 : Cond.laysFinal "SilentDrives$Pad" "SilentDrives$Pad" "signs" "[C" ∈ AW := aw_t1 (List.mem_of_getElem? (i := 148) rfl) rfl
theorem kw_118 : Cond.lays "SilentDrives$Pad" "SilentDrives$Pad" "length" "I" ∈ AW := aw_t1 (List.mem_of_getElem? (i := 150) rfl) rfl
theorem kw_119 : Cond.lays "SilentDrives$Pad" "SilentDrives$Pad" "place" "I" ∈ AW := aw_t1 (List.mem_of_getElem? (i := 152) rfl) rfl
theorem kw_120 : Cond.lays "SilentDrives$Pad" "SilentDrives$Pad" "kind" "C" ∈ AW := aw_t1 (List.mem_of_getElem? (i := 154) rfl) rfl
theorem kw_121 : Cond.lays "SilentDrives$Pad" "SilentDrives$Pad" "drive" "I" ∈ AW := aw_t1 (List.mem_of_getElem? (i := 156) rfl) rfl
theorem kw_122 : Cond.lays "SilentDrives$Pad" "SilentDrives$Pad" "first" "I" ∈ AW := aw_t1 (List.mem_of_getElem? (i := 158) rfl) rfl
theorem kw_123 : Cond.lays "SilentDrives$Pad" "SilentDrives$Pad" "second" "I" ∈ AW := aw_t1 (List.mem_of_getElem? (i := 160) rfl) rfl
theorem kw_124 : Cond.arrayClass Jvm.ClassFile.FieldType.boolean ∈ AW := aw_t1 (List.mem_of_getElem? (i := 163) rfl) rfl
theorem kw_125 : Cond.arrayClass Jvm.ClassFile.FieldType.char ∈ AW := aw_t1 (List.mem_of_getElem? (i := 164) rfl) rfl
theorem kw_126 : Cond.fieldLink RX4 10 "SilentDrives" "present" "LSilentDrives$Station;" ∈ AW := aw_t1 (List.mem_of_getElem? (i := 165) rfl) rfl
theorem kw_127 : Cond.fieldLink RX4 19 "SilentDrives" "history" "LSilentDrives$History;" ∈ AW := aw_t1 (List.mem_of_getElem? (i := 166) rfl) rfl
theorem kw_128 : Cond.fieldLink RX4 23 "SilentDrives" "slots" "[LSilentDrives$Station;" ∈ AW := aw_t1 (List.mem_of_getElem? (i := 167) rfl) rfl
theorem kw_129 : Cond.fieldLink RX4 27 "SilentDrives" "slotUsed" "[Z" ∈ AW := aw_t1 (List.mem_of_getElem? (i := 168) rfl) rfl
theorem kw_130 : Cond.fieldLink RX4 34 "SilentDrives" "pad" "LSilentDrives$Pad;" ∈ AW := aw_t1 (List.mem_of_getElem? (i := 169) rfl) rfl
theorem kw_131 : Cond.fieldLink RX4 38 "SilentDrives" "trial" "LSilentDrives$Station;" ∈ AW := aw_t1 (List.mem_of_getElem? (i := 170) rfl) rfl
theorem kw_132 : Cond.fieldLink RX4 41 "SilentDrives" "soldTrial" "LSilentDrives$Station;" ∈ AW := aw_t1 (List.mem_of_getElem? (i := 171) rfl) rfl
theorem kw_133 : Cond.laysFinal "SilentDrives" "SilentDrives" "present" "LSilentDrives$Station;" ∈ AW := aw_t1 (List.mem_of_getElem? (i := 172) rfl) rfl
theorem kw_134 : Cond.laysFinal "SilentDrives" "SilentDrives" "history" "LSilentDrives$History;" ∈ AW := aw_t1 (List.mem_of_getElem? (i := 174) rfl) rfl
theorem kw_135 : Cond.laysFinal "SilentDrives" "SilentDrives" "slots" "[LSilentDrives$Station;" ∈ AW := aw_t1 (List.mem_of_getElem? (i := 176) rfl) rfl
theorem kw_136 : Cond.laysFinal "SilentDrives" "SilentDrives" "slotUsed" "[Z" ∈ AW := aw_t1 (List.mem_of_getElem? (i := 178) rfl) rfl
theorem kw_137 : Cond.laysFinal "SilentDrives" "SilentDrives" "pad" "LSilentDrives$Pad;" ∈ AW := aw_t1 (List.mem_of_getElem? (i := 180) rfl) rfl
theorem kw_138 : Cond.laysFinal "SilentDrives" "SilentDrives" "trial" "LSilentDrives$Station;" ∈ AW := aw_t1 (List.mem_of_getElem? (i := 182) rfl) rfl
theorem kw_139 : Cond.laysFinal "SilentDrives" "SilentDrives" "soldTrial" "LSilentDrives$Station;" ∈ AW := aw_t1 (List.mem_of_getElem? (i := 184) rfl) rfl
theorem kw_140 : Cond.methodLink RL 58 yX4_pass ∈ AW := aw_t1 (List.mem_of_getElem? (i := 187) rfl) rfl
theorem kw_141 : Cond.instanceMethod yX4_pass ∈ AW := aw_t1 (List.mem_of_getElem? (i := 188) rfl) rfl
theorem kw_142 : Cond.selects RX4 yX4_pass yX4_pass ∈ AW := aw_t1 (List.mem_of_getElem? (i := 189) rfl) rfl
theorem kw_143 : Cond.code yX4_pass cX4_pass 2 (Option.some Jvm.ClassFile.FieldType.int) ∈ AW := aw_t1 (List.mem_of_getElem? (i := 190) rfl) rfl
theorem kw_144 : Cond.methodLink RX4 44 yX1_prepare ∈ AW := aw_t1 (List.mem_of_getElem? (i := 191) rfl) rfl
theorem kw_145 : Cond.instanceMethod yX1_prepare ∈ AW := aw_t1 (List.mem_of_getElem? (i := 192) rfl) rfl
theorem kw_146 : Cond.selects RX1 yX1_prepare yX1_prepare ∈ AW := aw_t1 (List.mem_of_getElem? (i := 193) rfl) rfl
theorem kw_147 : Cond.code yX1_prepare cX1_prepare 2 (Option.none : Option Jvm.ClassFile.FieldType) ∈ AW := aw_t1 (List.mem_of_getElem? (i := 194) rfl) rfl
theorem kw_148 : Cond.methodLink RX1 22 yX3_copyFrom ∈ AW := aw_t1 (List.mem_of_getElem? (i := 195) rfl) rfl
theorem kw_149 : Cond.instanceMethod yX3_copyFrom ∈ AW := aw_t1 (List.mem_of_getElem? (i := 196) rfl) rfl
theorem kw_150 : Cond.selects RX3 yX3_copyFrom yX3_copyFrom ∈ AW := aw_t1 (List.mem_of_getElem? (i := 197) rfl) rfl
theorem kw_151 : Cond.code yX3_copyFrom cX3_copyFrom 3 (Option.none : Option Jvm.ClassFile.FieldType) ∈ AW := aw_t1 (List.mem_of_getElem? (i := 198) rfl) rfl
theorem kw_152 : Cond.methodLink RX3 31 yX0_copyFrom ∈ AW := aw_t1 (List.mem_of_getElem? (i := 199) rfl) rfl
theorem kw_153 : Cond.instanceMethod yX0_copyFrom ∈ AW := aw_t1 (List.mem_of_getElem? (i := 200) rfl) rfl
theorem kw_154 : Cond.selects RX0 yX0_copyFrom yX0_copyFrom ∈ AW := aw_t1 (List.mem_of_getElem? (i := 201) rfl) rfl
theorem kw_155 : Cond.code yX0_copyFrom cX0_copyFrom 2 (Option.none : Option Jvm.ClassFile.FieldType) ∈ AW := aw_t1 (List.mem_of_getElem? (i := 202) rfl) rfl
theorem kw_156 : Cond.methodLink RX0 51 arraycopyName ∈ AW := aw_t1 (List.mem_of_getElem? (i := 203) rfl) rfl
theorem kw_157 : Cond.methodLink RX4 69 yX3_passMinutes ∈ AW := aw_t1 (List.mem_of_getElem? (i := 204) rfl) rfl
theorem kw_158 : Cond.instanceMethod yX3_passMinutes ∈ AW := aw_t1 (List.mem_of_getElem? (i := 205) rfl) rfl
theorem kw_159 : Cond.selects RX3 yX3_passMinutes yX3_passMinutes ∈ AW := aw_t1 (List.mem_of_getElem? (i := 206) rfl) rfl
theorem kw_160 : Cond.code yX3_passMinutes cX3_passMinutes 3 (Option.some Jvm.ClassFile.FieldType.int) ∈ AW := aw_t1 (List.mem_of_getElem? (i := 207) rfl) rfl
theorem kw_161 : Cond.static yX4_arePassable ∈ AW := aw_t1 (List.mem_of_getElem? (i := 209) rfl) rfl
theorem kw_162 : Cond.code yX4_arePassable cX4_arePassable 1 (Option.some Jvm.ClassFile.FieldType.boolean) ∈ AW := aw_t1 (List.mem_of_getElem? (i := 210) rfl) rfl
theorem kw_163 : Cond.methodLink RX3 95 yX3_passOneMinute ∈ AW := aw_t1 (List.mem_of_getElem? (i := 211) rfl) rfl
theorem kw_164 : Cond.instanceMethod yX3_passOneMinute ∈ AW := aw_t1 (List.mem_of_getElem? (i := 212) rfl) rfl
theorem kw_165 : Cond.selects RX3 yX3_passOneMinute yX3_passOneMinute ∈ AW := aw_t1 (List.mem_of_getElem? (i := 213) rfl) rfl
theorem kw_166 : Cond.code yX3_passOneMinute cX3_passOneMinute 3 (Option.some Jvm.ClassFile.FieldType.boolean) ∈ AW := aw_t1 (List.mem_of_getElem? (i := 214) rfl) rfl
theorem kw_167 : Cond.static yX4_twinOf ∈ AW := aw_t1 (List.mem_of_getElem? (i := 216) rfl) rfl
theorem kw_168 : Cond.code yX4_twinOf cX4_twinOf 1 (Option.some Jvm.ClassFile.FieldType.int) ∈ AW := aw_t1 (List.mem_of_getElem? (i := 217) rfl) rfl
theorem kw_169 : Cond.methodLink RX3 102 yX3_passMinuteOf ∈ AW := aw_t1 (List.mem_of_getElem? (i := 218) rfl) rfl
theorem kw_170 : Cond.instanceMethod yX3_passMinuteOf ∈ AW := aw_t1 (List.mem_of_getElem? (i := 220) rfl) rfl
theorem kw_171 : Cond.code yX3_passMinuteOf cX3_passMinuteOf 6 (Option.some Jvm.ClassFile.FieldType.boolean) ∈ AW := aw_t1 (List.mem_of_getElem? (i := 221) rfl) rfl
theorem kw_172 : Cond.methodLink RX3 77 yX3_hourOfNow ∈ AW := aw_t1 (List.mem_of_getElem? (i := 222) rfl) rfl
theorem kw_173 : Cond.instanceMethod yX3_hourOfNow ∈ AW := aw_t1 (List.mem_of_getElem? (i := 223) rfl) rfl
theorem kw_174 : Cond.selects RX3 yX3_hourOfNow yX3_hourOfNow ∈ AW := aw_t1 (List.mem_of_getElem? (i := 224) rfl) rfl
theorem kw_175 : Cond.code yX3_hourOfNow cX3_hourOfNow 1 (Option.some Jvm.ClassFile.FieldType.int) ∈ AW := aw_t1 (List.mem_of_getElem? (i := 225) rfl) rfl
theorem kw_176 : Cond.methodLink RX3 106 yX0_isQuietIn ∈ AW := aw_t1 (List.mem_of_getElem? (i := 226) rfl) rfl
theorem kw_177 : Cond.instanceMethod yX0_isQuietIn ∈ AW := aw_t1 (List.mem_of_getElem? (i := 227) rfl) rfl
theorem kw_178 : Cond.selects RX0 yX0_isQuietIn yX0_isQuietIn ∈ AW := aw_t1 (List.mem_of_getElem? (i := 228) rfl) rfl
theorem kw_179 : Cond.code yX0_isQuietIn cX0_isQuietIn 2 (Option.some Jvm.ClassFile.FieldType.boolean) ∈ AW := aw_t1 (List.mem_of_getElem? (i := 229) rfl) rfl
theorem kw_180 : Cond.methodLink RX0 61 yX0_hourState ∈ AW := aw_t1 (List.mem_of_getElem? (i := 230) rfl) rfl
theorem kw_181 : Cond.instanceMethod yX0_hourState ∈ AW := aw_t1 (List.mem_of_getElem? (i := 231) rfl) rfl
theorem kw_182 : Cond.selects RX0 yX0_hourState yX0_hourState ∈ AW := aw_t1 (List.mem_of_getElem? (i := 232) rfl) rfl
theorem kw_183 : Cond.code yX0_hourState cX0_hourState 2 (Option.some Jvm.ClassFile.FieldType.int) ∈ AW := aw_t1 (List.mem_of_getElem? (i := 233) rfl) rfl
theorem kw_184 : Cond.static yX4_isHour ∈ AW := aw_t1 (List.mem_of_getElem? (i := 235) rfl) rfl
theorem kw_185 : Cond.code yX4_isHour cX4_isHour 1 (Option.some Jvm.ClassFile.FieldType.boolean) ∈ AW := aw_t1 (List.mem_of_getElem? (i := 236) rfl) rfl
theorem kw_186 : Cond.methodLink RX3 109 yX3_settleHours ∈ AW := aw_t1 (List.mem_of_getElem? (i := 237) rfl) rfl
theorem kw_187 : Cond.instanceMethod yX3_settleHours ∈ AW := aw_t1 (List.mem_of_getElem? (i := 239) rfl) rfl
theorem kw_188 : Cond.code yX3_settleHours cX3_settleHours 4 (Option.none : Option Jvm.ClassFile.FieldType) ∈ AW := aw_t2 (List.mem_of_getElem? (i := 0) rfl) rfl
theorem kw_189 : Cond.methodLink RX3 81 yX0_hourState ∈ AW := aw_t2 (List.mem_of_getElem? (i := 1) rfl) rfl
theorem kw_190 : Cond.methodLink RX3 85 yX0_markHour ∈ AW := aw_t2 (List.mem_of_getElem? (i := 2) rfl) rfl
theorem kw_191 : Cond.instanceMethod yX0_markHour ∈ AW := aw_t2 (List.mem_of_getElem? (i := 3) rfl) rfl
theorem kw_192 : Cond.selects RX0 yX0_markHour yX0_markHour ∈ AW := aw_t2 (List.mem_of_getElem? (i := 4) rfl) rfl
theorem kw_193 : Cond.code yX0_markHour cX0_markHour 3 (Option.none : Option Jvm.ClassFile.FieldType) ∈ AW := aw_t2 (List.mem_of_getElem? (i := 5) rfl) rfl
theorem kw_194 : Cond.methodLink RX3 113 yX0_takeStream ∈ AW := aw_t2 (List.mem_of_getElem? (i := 6) rfl) rfl
theorem kw_195 : Cond.instanceMethod yX0_takeStream ∈ AW := aw_t2 (List.mem_of_getElem? (i := 7) rfl) rfl
theorem kw_196 : Cond.selects RX0 yX0_takeStream yX0_takeStream ∈ AW := aw_t2 (List.mem_of_getElem? (i := 8) rfl) rfl
theorem kw_197 : Cond.code yX0_takeStream cX0_takeStream 2 (Option.none : Option Jvm.ClassFile.FieldType) ∈ AW := aw_t2 (List.mem_of_getElem? (i := 9) rfl) rfl
theorem kw_198 : Cond.methodLink RX3 117 yX0_takeBackFrom ∈ AW := aw_t2 (List.mem_of_getElem? (i := 10) rfl) rfl
theorem kw_199 : Cond.instanceMethod yX0_takeBackFrom ∈ AW := aw_t2 (List.mem_of_getElem? (i := 11) rfl) rfl
theorem kw_200 : Cond.selects RX0 yX0_takeBackFrom yX0_takeBackFrom ∈ AW := aw_t2 (List.mem_of_getElem? (i := 12) rfl) rfl
theorem kw_201 : Cond.code yX0_takeBackFrom cX0_takeBackFrom 3 (Option.none : Option Jvm.ClassFile.FieldType) ∈ AW := aw_t2 (List.mem_of_getElem? (i := 13) rfl) rfl
theorem kw_202 : Cond.methodLink RX0 68 yJ9_min_7cf53 ∈ AW := aw_t2 (List.mem_of_getElem? (i := 14) rfl) rfl
theorem kw_203 : Cond.static yJ9_min_7cf53 ∈ AW := aw_t2 (List.mem_of_getElem? (i := 15) rfl) rfl
theorem kw_204 : Cond.code yJ9_min_7cf53 Lib.Math.min.code 2 (Option.some Jvm.ClassFile.FieldType.int) ∈ AW := aw_t2 (List.mem_of_getElem? (i := 16) rfl) rfl
theorem kw_205 : Cond.methodLink RX0 74 yX0_fillCells ∈ AW := aw_t2 (List.mem_of_getElem? (i := 17) rfl) rfl
theorem kw_206 : Cond.instanceMethod yX0_fillCells ∈ AW := aw_t2 (List.mem_of_getElem? (i := 19) rfl) rfl
theorem kw_207 : Cond.code yX0_fillCells cX0_fillCells 2 (Option.none : Option Jvm.ClassFile.FieldType) ∈ AW := aw_t2 (List.mem_of_getElem? (i := 20) rfl) rfl
theorem kw_208 : Cond.methodLink RX3 120 yX0_writeHeld ∈ AW := aw_t2 (List.mem_of_getElem? (i := 21) rfl) rfl
theorem kw_209 : Cond.instanceMethod yX0_writeHeld ∈ AW := aw_t2 (List.mem_of_getElem? (i := 22) rfl) rfl
theorem kw_210 : Cond.selects RX0 yX0_writeHeld yX0_writeHeld ∈ AW := aw_t2 (List.mem_of_getElem? (i := 23) rfl) rfl
theorem kw_211 : Cond.code yX0_writeHeld cX0_writeHeld 2 (Option.none : Option Jvm.ClassFile.FieldType) ∈ AW := aw_t2 (List.mem_of_getElem? (i := 24) rfl) rfl
theorem kw_212 : Cond.methodLink RX3 123 yX0_lendTo ∈ AW := aw_t2 (List.mem_of_getElem? (i := 25) rfl) rfl
theorem kw_213 : Cond.instanceMethod yX0_lendTo ∈ AW := aw_t2 (List.mem_of_getElem? (i := 26) rfl) rfl
theorem kw_214 : Cond.selects RX0 yX0_lendTo yX0_lendTo ∈ AW := aw_t2 (List.mem_of_getElem? (i := 27) rfl) rfl
theorem kw_215 : Cond.code yX0_lendTo cX0_lendTo 4 (Option.none : Option Jvm.ClassFile.FieldType) ∈ AW := aw_t2 (List.mem_of_getElem? (i := 28) rfl) rfl
theorem kw_216 : Cond.methodLink RX3 127 yX3_cleanUp ∈ AW := aw_t2 (List.mem_of_getElem? (i := 29) rfl) rfl
theorem kw_217 : Cond.instanceMethod yX3_cleanUp ∈ AW := aw_t2 (List.mem_of_getElem? (i := 31) rfl) rfl
theorem kw_218 : Cond.code yX3_cleanUp cX3_cleanUp 5 (Option.some Jvm.ClassFile.FieldType.boolean) ∈ AW := aw_t2 (List.mem_of_getElem? (i := 32) rfl) rfl
theorem kw_219 : Cond.methodLink RX3 148 yJ9_min_7cf53 ∈ AW := aw_t2 (List.mem_of_getElem? (i := 33) rfl) rfl
theorem kw_220 : Cond.methodLink RX3 154 yX0_cleanCells ∈ AW := aw_t2 (List.mem_of_getElem? (i := 34) rfl) rfl
theorem kw_221 : Cond.instanceMethod yX0_cleanCells ∈ AW := aw_t2 (List.mem_of_getElem? (i := 35) rfl) rfl
theorem kw_222 : Cond.selects RX0 yX0_cleanCells yX0_cleanCells ∈ AW := aw_t2 (List.mem_of_getElem? (i := 36) rfl) rfl
theorem kw_223 : Cond.code yX0_cleanCells cX0_cleanCells 2 (Option.none : Option Jvm.ClassFile.FieldType) ∈ AW := aw_t2 (List.mem_of_getElem? (i := 37) rfl) rfl
theorem kw_224 : Cond.methodLink RX3 131 yX3_chargeOverrun ∈ AW := aw_t2 (List.mem_of_getElem? (i := 38) rfl) rfl
theorem kw_225 : Cond.instanceMethod yX3_chargeOverrun ∈ AW := aw_t2 (List.mem_of_getElem? (i := 40) rfl) rfl
theorem kw_226 : Cond.code yX3_chargeOverrun cX3_chargeOverrun 3 (Option.none : Option Jvm.ClassFile.FieldType) ∈ AW := aw_t2 (List.mem_of_getElem? (i := 41) rfl) rfl
theorem kw_227 : Cond.methodLink RX4 52 yX4_recorded ∈ AW := aw_t2 (List.mem_of_getElem? (i := 42) rfl) rfl
theorem kw_228 : Cond.instanceMethod yX4_recorded ∈ AW := aw_t2 (List.mem_of_getElem? (i := 44) rfl) rfl
theorem kw_229 : Cond.code yX4_recorded cX4_recorded 2 (Option.some Jvm.ClassFile.FieldType.int) ∈ AW := aw_t2 (List.mem_of_getElem? (i := 45) rfl) rfl
theorem kw_230 : Cond.methodLink RX4 221 yX1_keepPrepared ∈ AW := aw_t2 (List.mem_of_getElem? (i := 46) rfl) rfl
theorem kw_231 : Cond.instanceMethod yX1_keepPrepared ∈ AW := aw_t2 (List.mem_of_getElem? (i := 47) rfl) rfl
theorem kw_232 : Cond.selects RX1 yX1_keepPrepared yX1_keepPrepared ∈ AW := aw_t2 (List.mem_of_getElem? (i := 48) rfl) rfl
theorem kw_233 : Cond.code yX1_keepPrepared cX1_keepPrepared 1 (Option.none : Option Jvm.ClassFile.FieldType) ∈ AW := aw_t2 (List.mem_of_getElem? (i := 49) rfl) rfl
theorem kw_234 : Cond.methodLink RX1 29 yJ9_min_7cf53 ∈ AW := aw_t2 (List.mem_of_getElem? (i := 50) rfl) rfl
theorem kw_235 : Cond.methodLink RL 9 yX4_ofDrive ∈ AW := aw_t2 (List.mem_of_getElem? (i := 51) rfl) rfl
theorem kw_236 : Cond.instanceMethod yX4_ofDrive ∈ AW := aw_t2 (List.mem_of_getElem? (i := 52) rfl) rfl
theorem kw_237 : Cond.selects RX4 yX4_ofDrive yX4_ofDrive ∈ AW := aw_t2 (List.mem_of_getElem? (i := 53) rfl) rfl
theorem kw_238 : Cond.code yX4_ofDrive cX4_ofDrive 4 (Option.some Jvm.ClassFile.FieldType.int) ∈ AW := aw_t2 (List.mem_of_getElem? (i := 54) rfl) rfl
theorem kw_239 : Cond.methodLink RX4 72 yX4_isDrive ∈ AW := aw_t2 (List.mem_of_getElem? (i := 55) rfl) rfl
theorem kw_240 : Cond.static yX4_isDrive ∈ AW := aw_t2 (List.mem_of_getElem? (i := 56) rfl) rfl
theorem kw_241 : Cond.code yX4_isDrive cX4_isDrive 1 (Option.some Jvm.ClassFile.FieldType.boolean) ∈ AW := aw_t2 (List.mem_of_getElem? (i := 57) rfl) rfl
theorem kw_242 : Cond.methodLink RX4 95 yX3_hourOfNow ∈ AW := aw_t2 (List.mem_of_getElem? (i := 58) rfl) rfl
theorem kw_243 : Cond.methodLink RX4 99 yX0_isQuietIn ∈ AW := aw_t2 (List.mem_of_getElem? (i := 59) rfl) rfl
theorem kw_244 : Cond.methodLink RX4 115 yX0_soldHours ∈ AW := aw_t2 (List.mem_of_getElem? (i := 60) rfl) rfl
theorem kw_245 : Cond.instanceMethod yX0_soldHours ∈ AW := aw_t2 (List.mem_of_getElem? (i := 61) rfl) rfl
theorem kw_246 : Cond.selects RX0 yX0_soldHours yX0_soldHours ∈ AW := aw_t2 (List.mem_of_getElem? (i := 62) rfl) rfl
theorem kw_247 : Cond.code yX0_soldHours cX0_soldHours 1 (Option.some Jvm.ClassFile.FieldType.int) ∈ AW := aw_t2 (List.mem_of_getElem? (i := 63) rfl) rfl
theorem kw_248 : Cond.methodLink RX0 65 yX0_hoursThatAre ∈ AW := aw_t2 (List.mem_of_getElem? (i := 64) rfl) rfl
theorem kw_249 : Cond.instanceMethod yX0_hoursThatAre ∈ AW := aw_t2 (List.mem_of_getElem? (i := 65) rfl) rfl
theorem kw_250 : Cond.selects RX0 yX0_hoursThatAre yX0_hoursThatAre ∈ AW := aw_t2 (List.mem_of_getElem? (i := 66) rfl) rfl
theorem kw_251 : Cond.code yX0_hoursThatAre cX0_hoursThatAre 4 (Option.some Jvm.ClassFile.FieldType.int) ∈ AW := aw_t2 (List.mem_of_getElem? (i := 67) rfl) rfl
theorem kw_252 : Cond.methodLink RX4 118 yX0_hoursThatAre ∈ AW := aw_t2 (List.mem_of_getElem? (i := 68) rfl) rfl
theorem kw_253 : Cond.methodLink RL 18 yX4_count ∈ AW := aw_t2 (List.mem_of_getElem? (i := 69) rfl) rfl
theorem kw_254 : Cond.instanceMethod yX4_count ∈ AW := aw_t2 (List.mem_of_getElem? (i := 70) rfl) rfl
theorem kw_255 : Cond.selects RX4 yX4_count yX4_count ∈ AW := aw_t2 (List.mem_of_getElem? (i := 71) rfl) rfl
theorem kw_256 : Cond.code yX4_count cX4_count 2 (Option.some Jvm.ClassFile.FieldType.int) ∈ AW := aw_t2 (List.mem_of_getElem? (i := 72) rfl) rfl
theorem kw_257 : Cond.methodLink RL 34 yL_low ∈ AW := aw_t2 (List.mem_of_getElem? (i := 73) rfl) rfl
theorem kw_258 : Cond.static yL_low ∈ AW := aw_t2 (List.mem_of_getElem? (i := 74) rfl) rfl
theorem kw_259 : Cond.code yL_low cL_low 2 (Option.some Jvm.ClassFile.FieldType.int) ∈ AW := aw_t2 (List.mem_of_getElem? (i := 75) rfl) rfl
theorem kw_260 : Cond.constant RL 7 (2147483647) ∈ AW := aw_t2 (List.mem_of_getElem? (i := 76) rfl) rfl
theorem kw_261 : Cond.methodLink RL 28 yL_cell ∈ AW := aw_t2 (List.mem_of_getElem? (i := 77) rfl) rfl
theorem kw_262 : Cond.static yL_cell ∈ AW := aw_t2 (List.mem_of_getElem? (i := 78) rfl) rfl
theorem kw_263 : Cond.code yL_cell cL_cell 2 (Option.some Jvm.ClassFile.FieldType.int) ∈ AW := aw_t2 (List.mem_of_getElem? (i := 79) rfl) rfl
theorem kw_264 : Cond.constant RL 8 (40503) ∈ AW := aw_t2 (List.mem_of_getElem? (i := 80) rfl) rfl
theorem kw_265 : Cond.methodLink RL 61 yL_drive ∈ AW := aw_t2 (List.mem_of_getElem? (i := 81) rfl) rfl
theorem kw_266 : Cond.static yL_drive ∈ AW := aw_t2 (List.mem_of_getElem? (i := 82) rfl) rfl
theorem kw_267 : Cond.code yL_drive cL_drive 9 (Option.some Jvm.ClassFile.FieldType.boolean) ∈ AW := aw_t2 (List.mem_of_getElem? (i := 83) rfl) rfl
theorem kw_268 : Cond.methodLink RL 15 yX4_hour ∈ AW := aw_t2 (List.mem_of_getElem? (i := 84) rfl) rfl
theorem kw_269 : Cond.instanceMethod yX4_hour ∈ AW := aw_t2 (List.mem_of_getElem? (i := 85) rfl) rfl
theorem kw_270 : Cond.selects RX4 yX4_hour yX4_hour ∈ AW := aw_t2 (List.mem_of_getElem? (i := 86) rfl) rfl
theorem kw_271 : Cond.code yX4_hour cX4_hour 3 (Option.some Jvm.ClassFile.FieldType.int) ∈ AW := aw_t2 (List.mem_of_getElem? (i := 87) rfl) rfl
theorem kw_272 : Cond.methodLink RX4 127 yX4_isHour ∈ AW := aw_t2 (List.mem_of_getElem? (i := 88) rfl) rfl
theorem kw_273 : Cond.methodLink RX4 130 yX0_hourState ∈ AW := aw_t2 (List.mem_of_getElem? (i := 89) rfl) rfl
theorem kw_274 : Cond.methodLink RL 22 yX4_streak ∈ AW := aw_t2 (List.mem_of_getElem? (i := 90) rfl) rfl
theorem kw_275 : Cond.instanceMethod yX4_streak ∈ AW := aw_t2 (List.mem_of_getElem? (i := 91) rfl) rfl
theorem kw_276 : Cond.selects RX4 yX4_streak yX4_streak ∈ AW := aw_t2 (List.mem_of_getElem? (i := 92) rfl) rfl
theorem kw_277 : Cond.code yX4_streak cX4_streak 2 (Option.some Jvm.ClassFile.FieldType.int) ∈ AW := aw_t2 (List.mem_of_getElem? (i := 93) rfl) rfl
theorem kw_278 : Cond.methodLink RX4 133 yX0_keptInARow ∈ AW := aw_t2 (List.mem_of_getElem? (i := 94) rfl) rfl
theorem kw_279 : Cond.instanceMethod yX0_keptInARow ∈ AW := aw_t2 (List.mem_of_getElem? (i := 95) rfl) rfl
theorem kw_280 : Cond.selects RX0 yX0_keptInARow yX0_keptInARow ∈ AW := aw_t2 (List.mem_of_getElem? (i := 96) rfl) rfl
theorem kw_281 : Cond.code yX0_keptInARow cX0_keptInARow 3 (Option.some Jvm.ClassFile.FieldType.int) ∈ AW := aw_t2 (List.mem_of_getElem? (i := 97) rfl) rfl
theorem kw_282 : Cond.methodLink RL 25 yX4_share ∈ AW := aw_t2 (List.mem_of_getElem? (i := 98) rfl) rfl
theorem kw_283 : Cond.instanceMethod yX4_share ∈ AW := aw_t2 (List.mem_of_getElem? (i := 99) rfl) rfl
theorem kw_284 : Cond.selects RX4 yX4_share yX4_share ∈ AW := aw_t2 (List.mem_of_getElem? (i := 100) rfl) rfl
theorem kw_285 : Cond.code yX4_share cX4_share 4 (Option.some Jvm.ClassFile.FieldType.int) ∈ AW := aw_t2 (List.mem_of_getElem? (i := 101) rfl) rfl
theorem kw_286 : Cond.methodLink RX4 136 yX4_floatBits ∈ AW := aw_t2 (List.mem_of_getElem? (i := 102) rfl) rfl
theorem kw_287 : Cond.static yX4_floatBits ∈ AW := aw_t2 (List.mem_of_getElem? (i := 103) rfl) rfl
theorem kw_288 : Cond.code yX4_floatBits cX4_floatBits 5 (Option.some Jvm.ClassFile.FieldType.int) ∈ AW := aw_t2 (List.mem_of_getElem? (i := 104) rfl) rfl
theorem kw_289 : Cond.methodLink RX4 149 yX4_doubleBits ∈ AW := aw_t2 (List.mem_of_getElem? (i := 105) rfl) rfl
theorem kw_290 : Cond.static yX4_doubleBits ∈ AW := aw_t2 (List.mem_of_getElem? (i := 106) rfl) rfl
theorem kw_291 : Cond.code yX4_doubleBits cX4_doubleBits 7 (Option.some Jvm.ClassFile.FieldType.long) ∈ AW := aw_t2 (List.mem_of_getElem? (i := 107) rfl) rfl
theorem kw_292 : Cond.constantDouble RX4 261 (4611686018427387904) ∈ AW := aw_t2 (List.mem_of_getElem? (i := 108) rfl) rfl
theorem kw_293 : Cond.constantDouble RX4 263 (4841369599423283200) ∈ AW := aw_t2 (List.mem_of_getElem? (i := 109) rfl) rfl
theorem kw_294 : Cond.constantLong RX4 265 (7516192768) ∈ AW := aw_t2 (List.mem_of_getElem? (i := 110) rfl) rfl
theorem kw_295 : Cond.methodLink RL 54 yL_act ∈ AW := aw_t2 (List.mem_of_getElem? (i := 111) rfl) rfl
theorem kw_296 : Cond.static yL_act ∈ AW := aw_t2 (List.mem_of_getElem? (i := 112) rfl) rfl
theorem kw_297 : Cond.code yL_act cL_act 5 (Option.some Jvm.ClassFile.FieldType.int) ∈ AW := aw_t2 (List.mem_of_getElem? (i := 113) rfl) rfl
theorem kw_298 : Cond.methodLink RL 37 yX4_sell ∈ AW := aw_t2 (List.mem_of_getElem? (i := 114) rfl) rfl
theorem kw_299 : Cond.instanceMethod yX4_sell ∈ AW := aw_t2 (List.mem_of_getElem? (i := 115) rfl) rfl
theorem kw_300 : Cond.selects RX4 yX4_sell yX4_sell ∈ AW := aw_t2 (List.mem_of_getElem? (i := 116) rfl) rfl
theorem kw_301 : Cond.code yX4_sell cX4_sell 3 (Option.some Jvm.ClassFile.FieldType.int) ∈ AW := aw_t2 (List.mem_of_getElem? (i := 117) rfl) rfl
theorem kw_302 : Cond.methodLink RX4 63 yX3_sellHour ∈ AW := aw_t2 (List.mem_of_getElem? (i := 118) rfl) rfl
theorem kw_303 : Cond.instanceMethod yX3_sellHour ∈ AW := aw_t2 (List.mem_of_getElem? (i := 119) rfl) rfl
theorem kw_304 : Cond.selects RX3 yX3_sellHour yX3_sellHour ∈ AW := aw_t2 (List.mem_of_getElem? (i := 120) rfl) rfl
theorem kw_305 : Cond.code yX3_sellHour cX3_sellHour 3 (Option.some Jvm.ClassFile.FieldType.int) ∈ AW := aw_t2 (List.mem_of_getElem? (i := 121) rfl) rfl
theorem kw_306 : Cond.methodLink RX3 70 yX3_changeHour ∈ AW := aw_t2 (List.mem_of_getElem? (i := 122) rfl) rfl
theorem kw_307 : Cond.instanceMethod yX3_changeHour ∈ AW := aw_t2 (List.mem_of_getElem? (i := 124) rfl) rfl
theorem kw_308 : Cond.code yX3_changeHour cX3_changeHour 5 (Option.some Jvm.ClassFile.FieldType.int) ∈ AW := aw_t2 (List.mem_of_getElem? (i := 125) rfl) rfl
theorem kw_309 : Cond.methodLink RX3 89 yX0_soldHours ∈ AW := aw_t2 (List.mem_of_getElem? (i := 128) rfl) rfl
theorem kw_310 : Cond.methodLink RL 40 yX4_giveBack ∈ AW := aw_t2 (List.mem_of_getElem? (i := 129) rfl) rfl
theorem kw_311 : Cond.instanceMethod yX4_giveBack ∈ AW := aw_t2 (List.mem_of_getElem? (i := 130) rfl) rfl
theorem kw_312 : Cond.selects RX4 yX4_giveBack yX4_giveBack ∈ AW := aw_t2 (List.mem_of_getElem? (i := 131) rfl) rfl
theorem kw_313 : Cond.code yX4_giveBack cX4_giveBack 3 (Option.some Jvm.ClassFile.FieldType.int) ∈ AW := aw_t2 (List.mem_of_getElem? (i := 132) rfl) rfl
theorem kw_314 : Cond.methodLink RX4 66 yX3_takeHourBack ∈ AW := aw_t2 (List.mem_of_getElem? (i := 133) rfl) rfl
theorem kw_315 : Cond.instanceMethod yX3_takeHourBack ∈ AW := aw_t2 (List.mem_of_getElem? (i := 134) rfl) rfl
theorem kw_316 : Cond.selects RX3 yX3_takeHourBack yX3_takeHourBack ∈ AW := aw_t2 (List.mem_of_getElem? (i := 135) rfl) rfl
theorem kw_317 : Cond.code yX3_takeHourBack cX3_takeHourBack 3 (Option.some Jvm.ClassFile.FieldType.int) ∈ AW := aw_t2 (List.mem_of_getElem? (i := 136) rfl) rfl
theorem kw_318 : Cond.methodLink RL 43 yX4_stream ∈ AW := aw_t2 (List.mem_of_getElem? (i := 137) rfl) rfl
theorem kw_319 : Cond.instanceMethod yX4_stream ∈ AW := aw_t2 (List.mem_of_getElem? (i := 138) rfl) rfl
theorem kw_320 : Cond.selects RX4 yX4_stream yX4_stream ∈ AW := aw_t2 (List.mem_of_getElem? (i := 139) rfl) rfl
theorem kw_321 : Cond.code yX4_stream cX4_stream 4 (Option.some Jvm.ClassFile.FieldType.int) ∈ AW := aw_t2 (List.mem_of_getElem? (i := 140) rfl) rfl
theorem kw_322 : Cond.methodLink RX4 56 yX3_changeStream ∈ AW := aw_t2 (List.mem_of_getElem? (i := 141) rfl) rfl
theorem kw_323 : Cond.instanceMethod yX3_changeStream ∈ AW := aw_t2 (List.mem_of_getElem? (i := 142) rfl) rfl
theorem kw_324 : Cond.selects RX3 yX3_changeStream yX3_changeStream ∈ AW := aw_t2 (List.mem_of_getElem? (i := 143) rfl) rfl
theorem kw_325 : Cond.code yX3_changeStream cX3_changeStream 5 (Option.some Jvm.ClassFile.FieldType.int) ∈ AW := aw_t2 (List.mem_of_getElem? (i := 144) rfl) rfl
theorem kw_326 : Cond.methodLink RL 47 yX4_set ∈ AW := aw_t2 (List.mem_of_getElem? (i := 145) rfl) rfl
theorem kw_327 : Cond.instanceMethod yX4_set ∈ AW := aw_t2 (List.mem_of_getElem? (i := 146) rfl) rfl
theorem kw_328 : Cond.selects RX4 yX4_set yX4_set ∈ AW := aw_t2 (List.mem_of_getElem? (i := 147) rfl) rfl
theorem kw_329 : Cond.code yX4_set cX4_set 3 (Option.some Jvm.ClassFile.FieldType.int) ∈ AW := aw_t2 (List.mem_of_getElem? (i := 148) rfl) rfl
theorem kw_330 : Cond.methodLink RX4 48 yX3_changeSetting ∈ AW := aw_t2 (List.mem_of_getElem? (i := 149) rfl) rfl
theorem kw_331 : Cond.instanceMethod yX3_changeSetting ∈ AW := aw_t2 (List.mem_of_getElem? (i := 150) rfl) rfl
theorem kw_332 : Cond.selects RX3 yX3_changeSetting yX3_changeSetting ∈ AW := aw_t2 (List.mem_of_getElem? (i := 151) rfl) rfl
theorem kw_333 : Cond.code yX3_changeSetting cX3_changeSetting 4 (Option.some Jvm.ClassFile.FieldType.int) ∈ AW := aw_t2 (List.mem_of_getElem? (i := 152) rfl) rfl
theorem kw_334 : Cond.methodLink RL 50 yX4_write ∈ AW := aw_t2 (List.mem_of_getElem? (i := 157) rfl) rfl
theorem kw_335 : Cond.instanceMethod yX4_write ∈ AW := aw_t2 (List.mem_of_getElem? (i := 158) rfl) rfl
theorem kw_336 : Cond.selects RX4 yX4_write yX4_write ∈ AW := aw_t2 (List.mem_of_getElem? (i := 159) rfl) rfl
theorem kw_337 : Cond.code yX4_write cX4_write 3 (Option.some Jvm.ClassFile.FieldType.int) ∈ AW := aw_t2 (List.mem_of_getElem? (i := 160) rfl) rfl
theorem kw_338 : Cond.methodLink RX4 60 yX3_bringUnits ∈ AW := aw_t2 (List.mem_of_getElem? (i := 161) rfl) rfl
theorem kw_339 : Cond.instanceMethod yX3_bringUnits ∈ AW := aw_t2 (List.mem_of_getElem? (i := 162) rfl) rfl
theorem kw_340 : Cond.selects RX3 yX3_bringUnits yX3_bringUnits ∈ AW := aw_t2 (List.mem_of_getElem? (i := 163) rfl) rfl
theorem kw_341 : Cond.code yX3_bringUnits cX3_bringUnits 3 (Option.some Jvm.ClassFile.FieldType.int) ∈ AW := aw_t2 (List.mem_of_getElem? (i := 164) rfl) rfl
theorem kw_342 : Cond.selects RX3 yX3_passMinuteOf yX3_passMinuteOf ∈ AW := aw_0 (List.mem_of_getElem? (i := 0) rfl) rfl
theorem kw_343 : Cond.selects RX3 yX3_settleHours yX3_settleHours ∈ AW := aw_0 (List.mem_of_getElem? (i := 1) rfl) rfl
theorem kw_344 : Cond.selects RX0 yX0_fillCells yX0_fillCells ∈ AW := aw_0 (List.mem_of_getElem? (i := 2) rfl) rfl
theorem kw_345 : Cond.selects RX3 yX3_cleanUp yX3_cleanUp ∈ AW := aw_0 (List.mem_of_getElem? (i := 3) rfl) rfl
theorem kw_346 : Cond.selects RX3 yX3_chargeOverrun yX3_chargeOverrun ∈ AW := aw_0 (List.mem_of_getElem? (i := 4) rfl) rfl
theorem kw_347 : Cond.selects RX4 yX4_recorded yX4_recorded ∈ AW := aw_0 (List.mem_of_getElem? (i := 5) rfl) rfl
theorem kw_348 : Cond.selects RX3 yX3_changeHour yX3_changeHour ∈ AW := aw_0 (List.mem_of_getElem? (i := 6) rfl) rfl
theorem kin0 : ∀ w ∈ u_ws RX0 TX0 12, w ∈ AW := by
  intro w hw
  have hw : w ∈ ([u_lay RX0 TX0 0, u_lay RX0 TX0 1, u_lay RX0 TX0 2, u_lay RX0 TX0 3, u_lay RX0 TX0 4, u_lay RX0 TX0 5, u_lay RX0 TX0 6, u_lay RX0 TX0 7, u_lay RX0 TX0 8, u_lay RX0 TX0 9, u_lay RX0 TX0 10, u_lay RX0 TX0 11] : List Cond) := hw
  simp only [List.mem_cons, List.not_mem_nil, or_false] at hw
  rcases hw with rfl | rfl | rfl | rfl | rfl | rfl | rfl | rfl | rfl | rfl | rfl | rfl
  · exact kw_60
  · exact kw_61
  · exact kw_62
  · exact kw_63
  · exact kw_64
  · exact kw_65
  · exact kw_66
  · exact kw_67
  · exact kw_68
  · exact kw_69
  · exact kw_70
  · exact kw_71
theorem kin1 : ∀ w ∈ u_ws RX1 TX1 3, w ∈ AW := by
  intro w hw
  have hw : w ∈ ([u_lay RX1 TX1 0, u_lay RX1 TX1 1, u_lay RX1 TX1 2] : List Cond) := hw
  simp only [List.mem_cons, List.not_mem_nil, or_false] at hw
  rcases hw with rfl | rfl | rfl
  · exact kw_107
  · exact kw_108
  · exact kw_109
theorem kin2 : ∀ w ∈ u_ws RX2 TX2 7, w ∈ AW := by
  intro w hw
  have hw : w ∈ ([u_lay RX2 TX2 0, u_lay RX2 TX2 1, u_lay RX2 TX2 2, u_lay RX2 TX2 3, u_lay RX2 TX2 4, u_lay RX2 TX2 5, u_lay RX2 TX2 6] : List Cond) := hw
  simp only [List.mem_cons, List.not_mem_nil, or_false] at hw
  rcases hw with rfl | rfl | rfl | rfl | rfl | rfl | rfl
  · exact kw_117
  · exact kw_118
  · exact kw_119
  · exact kw_120
  · exact kw_121
  · exact kw_122
  · exact kw_123
theorem kin3 : ∀ w ∈ u_ws RX3 TX3 7, w ∈ AW := by
  intro w hw
  have hw : w ∈ ([u_lay RX3 TX3 0, u_lay RX3 TX3 1, u_lay RX3 TX3 2, u_lay RX3 TX3 3, u_lay RX3 TX3 4, u_lay RX3 TX3 5, u_lay RX3 TX3 6] : List Cond) := hw
  simp only [List.mem_cons, List.not_mem_nil, or_false] at hw
  rcases hw with rfl | rfl | rfl | rfl | rfl | rfl | rfl
  · exact kw_88
  · exact kw_89
  · exact kw_90
  · exact kw_91
  · exact kw_92
  · exact kw_93
  · exact kw_94
theorem kin4 : ∀ w ∈ u_ws RX4 TX4 7, w ∈ AW := by
  intro w hw
  have hw : w ∈ ([u_lay RX4 TX4 0, u_lay RX4 TX4 1, u_lay RX4 TX4 2, u_lay RX4 TX4 3, u_lay RX4 TX4 4, u_lay RX4 TX4 5, u_lay RX4 TX4 6] : List Cond) := hw
  simp only [List.mem_cons, List.not_mem_nil, or_false] at hw
  rcases hw with rfl | rfl | rfl | rfl | rfl | rfl | rfl
  · exact kw_133
  · exact kw_134
  · exact kw_135
  · exact kw_136
  · exact kw_137
  · exact kw_138
  · exact kw_139
