/-! WORDS: AW is what of the tables a callee may be handed; each word by its place -/
def AW : List Cond := lw_tbl.filter goodWord
theorem AW_in {w : Cond} (h : w ∈ AW) : w ∈ lw_tbl := (List.mem_filter.mp h).1
theorem AW_good : AW.all goodWord = true := List.all_eq_true.mpr fun _ h => (List.mem_filter.mp h).2
theorem aw_0 {w : Cond} (h : w ∈ k2_sels lw_privs) (g : goodWord w = true) : w ∈ AW := List.mem_filter.mpr ⟨List.mem_append_left _ h, g⟩
theorem aw_t1 {w : Cond} (h : w ∈ tables_1_1) (g : goodWord w = true) : w ∈ AW := List.mem_filter.mpr ⟨List.mem_append_right _ (List.mem_append_left _ h), g⟩
theorem aw_t2 {w : Cond} (h : w ∈ tables_1_2) (g : goodWord w = true) : w ∈ AW := List.mem_filter.mpr ⟨List.mem_append_right _ (List.mem_append_right _ (List.mem_append_left _ h)), g⟩
theorem aw_t3 {w : Cond} (h : w ∈ tables_1_3) (g : goodWord w = true) : w ∈ AW := List.mem_filter.mpr ⟨List.mem_append_right _ (List.mem_append_right _ (List.mem_append_right _ (List.mem_append_left _ h))), g⟩
theorem aw_t4 {w : Cond} (h : w ∈ tables_1_4) (g : goodWord w = true) : w ∈ AW := List.mem_filter.mpr ⟨List.mem_append_right _ (List.mem_append_right _ (List.mem_append_right _ (List.mem_append_right _ h))), g⟩
theorem kw_0 : Cond.initialized RL ∈ AW := aw_t1 (List.mem_of_getElem? (i := 0) rfl) rfl
theorem kw_1 : Cond.initialized RX4 ∈ AW := aw_t1 (List.mem_of_getElem? (i := 1) rfl) rfl
theorem kw_2 : Cond.initialized RX3 ∈ AW := aw_t1 (List.mem_of_getElem? (i := 2) rfl) rfl
theorem kw_3 : Cond.initialized RJ10 ∈ AW := aw_t1 (List.mem_of_getElem? (i := 3) rfl) rfl
theorem kw_4 : Cond.initialized RX0 ∈ AW := aw_t1 (List.mem_of_getElem? (i := 4) rfl) rfl
theorem kw_5 : Cond.initialized RX1 ∈ AW := aw_t1 (List.mem_of_getElem? (i := 5) rfl) rfl
theorem kw_6 : Cond.initialized RX2 ∈ AW := aw_t1 (List.mem_of_getElem? (i := 6) rfl) rfl
theorem kw_7 : Cond.initialized RX5 ∈ AW := aw_t1 (List.mem_of_getElem? (i := 7) rfl) rfl
theorem kw_8 : Cond.initialized RJ9 ∈ AW := aw_t1 (List.mem_of_getElem? (i := 8) rfl) rfl
theorem kw_9 : Cond.initialized RJxf58ca ∈ AW := aw_t1 (List.mem_of_getElem? (i := 9) rfl) rfl
theorem kw_10 : Cond.initialized RJxe99ae ∈ AW := aw_t1 (List.mem_of_getElem? (i := 10) rfl) rfl
theorem kw_11 : Cond.classLink RL 7 RX4 ∈ AW := aw_t1 (List.mem_of_getElem? (i := 11) rfl) rfl
theorem kw_12 : Cond.instantiable RX4 7 ∈ AW := aw_t1 (List.mem_of_getElem? (i := 12) rfl) rfl
theorem kw_13 : Cond.methodLink RL 9 yX4_init ∈ AW := aw_t1 (List.mem_of_getElem? (i := 13) rfl) rfl
theorem kw_14 : Cond.instanceMethod yX4_init ∈ AW := aw_t1 (List.mem_of_getElem? (i := 14) rfl) rfl
theorem kw_15 : Cond.code yX4_init cX4_init 2 (Option.none : Option Jvm.ClassFile.FieldType) ∈ AW := aw_t1 (List.mem_of_getElem? (i := 15) rfl) rfl
theorem kw_16 : Cond.methodLink RX4 1 objectInit ∈ AW := aw_t1 (List.mem_of_getElem? (i := 16) rfl) rfl
theorem kw_17 : Cond.instanceMethod objectInit ∈ AW := aw_t1 (List.mem_of_getElem? (i := 17) rfl) rfl
theorem kw_18 : Cond.code objectInit object_method_1_code 1 (Option.none : Option Jvm.ClassFile.FieldType) ∈ AW := aw_t1 (List.mem_of_getElem? (i := 18) rfl) rfl
theorem kw_19 : Cond.classLink RX4 7 RX3 ∈ AW := aw_t1 (List.mem_of_getElem? (i := 19) rfl) rfl
theorem kw_20 : Cond.instantiable RX3 7 ∈ AW := aw_t1 (List.mem_of_getElem? (i := 20) rfl) rfl
theorem kw_21 : Cond.methodLink RX4 9 yX3_init ∈ AW := aw_t1 (List.mem_of_getElem? (i := 21) rfl) rfl
theorem kw_22 : Cond.instanceMethod yX3_init ∈ AW := aw_t1 (List.mem_of_getElem? (i := 22) rfl) rfl
theorem kw_23 : Cond.code yX3_init cX3_init 2 (Option.none : Option Jvm.ClassFile.FieldType) ∈ AW := aw_t1 (List.mem_of_getElem? (i := 23) rfl) rfl
theorem kw_24 : Cond.methodLink RX3 3 objectInit ∈ AW := aw_t1 (List.mem_of_getElem? (i := 24) rfl) rfl
theorem kw_25 : Cond.classLink RX3 15 RX0 ∈ AW := aw_t1 (List.mem_of_getElem? (i := 25) rfl) rfl
theorem kw_26 : Cond.methodLink RX3 24 arraycopyName ∈ AW := aw_t1 (List.mem_of_getElem? (i := 29) rfl) rfl
theorem kw_27 : Cond.static arraycopyName ∈ AW := aw_t1 (List.mem_of_getElem? (i := 30) rfl) rfl
theorem kw_28 : Cond.native arraycopyName ∈ AW := aw_t1 (List.mem_of_getElem? (i := 31) rfl) rfl
theorem kw_29 : Cond.instantiable RX0 12 ∈ AW := aw_t1 (List.mem_of_getElem? (i := 32) rfl) rfl
theorem kw_30 : Cond.instanceMethod yX0_init ∈ AW := aw_t1 (List.mem_of_getElem? (i := 34) rfl) rfl
theorem kw_31 : Cond.code yX0_init cX0_init 1 (Option.none : Option Jvm.ClassFile.FieldType) ∈ AW := aw_t1 (List.mem_of_getElem? (i := 35) rfl) rfl
theorem kw_32 : Cond.methodLink RX0 3 objectInit ∈ AW := aw_t1 (List.mem_of_getElem? (i := 36) rfl) rfl
theorem kw_33 : Cond.fieldLink RX0 9 "SilentDrives$Drive" "free" "I" ∈ AW := aw_t1 (List.mem_of_getElem? (i := 37) rfl) rfl
theorem kw_34 : Cond.fieldLink RX4 80 "SilentDrives$Drive" "free" "I" ∈ AW := aw_t1 (List.mem_of_getElem? (i := 38) rfl) rfl
theorem kw_35 : Cond.fieldLink RX3 142 "SilentDrives$Drive" "free" "I" ∈ AW := aw_t1 (List.mem_of_getElem? (i := 39) rfl) rfl
theorem kw_36 : Cond.fieldLink RX0 22 "SilentDrives$Drive" "stale" "I" ∈ AW := aw_t1 (List.mem_of_getElem? (i := 40) rfl) rfl
theorem kw_37 : Cond.fieldLink RX4 86 "SilentDrives$Drive" "stale" "I" ∈ AW := aw_t1 (List.mem_of_getElem? (i := 41) rfl) rfl
theorem kw_38 : Cond.fieldLink RX3 145 "SilentDrives$Drive" "stale" "I" ∈ AW := aw_t1 (List.mem_of_getElem? (i := 42) rfl) rfl
theorem kw_39 : Cond.fieldLink RX0 25 "SilentDrives$Drive" "lent" "I" ∈ AW := aw_t1 (List.mem_of_getElem? (i := 43) rfl) rfl
theorem kw_40 : Cond.fieldLink RX4 89 "SilentDrives$Drive" "lent" "I" ∈ AW := aw_t1 (List.mem_of_getElem? (i := 44) rfl) rfl
theorem kw_41 : Cond.fieldLink RX0 28 "SilentDrives$Drive" "held" "I" ∈ AW := aw_t1 (List.mem_of_getElem? (i := 45) rfl) rfl
theorem kw_42 : Cond.fieldLink RX3 67 "SilentDrives$Drive" "held" "I" ∈ AW := aw_t1 (List.mem_of_getElem? (i := 46) rfl) rfl
theorem kw_43 : Cond.fieldLink RX4 92 "SilentDrives$Drive" "held" "I" ∈ AW := aw_t1 (List.mem_of_getElem? (i := 47) rfl) rfl
theorem kw_44 : Cond.fieldLink RX0 31 "SilentDrives$Drive" "cleaning" "Z" ∈ AW := aw_t1 (List.mem_of_getElem? (i := 48) rfl) rfl
theorem kw_45 : Cond.fieldLink RX4 102 "SilentDrives$Drive" "cleaning" "Z" ∈ AW := aw_t1 (List.mem_of_getElem? (i := 49) rfl) rfl
theorem kw_46 : Cond.fieldLink RX3 138 "SilentDrives$Drive" "cleaning" "Z" ∈ AW := aw_t1 (List.mem_of_getElem? (i := 50) rfl) rfl
theorem kw_47 : Cond.fieldLink RX0 35 "SilentDrives$Drive" "written" "I" ∈ AW := aw_t1 (List.mem_of_getElem? (i := 51) rfl) rfl
theorem kw_48 : Cond.fieldLink RX4 106 "SilentDrives$Drive" "written" "I" ∈ AW := aw_t1 (List.mem_of_getElem? (i := 52) rfl) rfl
theorem kw_49 : Cond.fieldLink RX0 38 "SilentDrives$Drive" "sounded" "I" ∈ AW := aw_t1 (List.mem_of_getElem? (i := 53) rfl) rfl
theorem kw_50 : Cond.fieldLink RX4 109 "SilentDrives$Drive" "sounded" "I" ∈ AW := aw_t1 (List.mem_of_getElem? (i := 54) rfl) rfl
theorem kw_51 : Cond.fieldLink RX0 41 "SilentDrives$Drive" "overruns" "I" ∈ AW := aw_t1 (List.mem_of_getElem? (i := 55) rfl) rfl
theorem kw_52 : Cond.fieldLink RX4 112 "SilentDrives$Drive" "overruns" "I" ∈ AW := aw_t1 (List.mem_of_getElem? (i := 56) rfl) rfl
theorem kw_53 : Cond.fieldLink RX3 157 "SilentDrives$Drive" "overruns" "I" ∈ AW := aw_t1 (List.mem_of_getElem? (i := 57) rfl) rfl
theorem kw_54 : Cond.fieldLink RX0 15 "SilentDrives$Drive" "every" "I" ∈ AW := aw_t1 (List.mem_of_getElem? (i := 58) rfl) rfl
theorem kw_55 : Cond.fieldLink RX3 64 "SilentDrives$Drive" "every" "I" ∈ AW := aw_t1 (List.mem_of_getElem? (i := 59) rfl) rfl
theorem kw_56 : Cond.fieldLink RX4 121 "SilentDrives$Drive" "every" "I" ∈ AW := aw_t1 (List.mem_of_getElem? (i := 60) rfl) rfl
theorem kw_57 : Cond.fieldLink RX0 44 "SilentDrives$Drive" "units" "I" ∈ AW := aw_t1 (List.mem_of_getElem? (i := 61) rfl) rfl
theorem kw_58 : Cond.fieldLink RX3 61 "SilentDrives$Drive" "units" "I" ∈ AW := aw_t1 (List.mem_of_getElem? (i := 62) rfl) rfl
theorem kw_59 : Cond.fieldLink RX4 124 "SilentDrives$Drive" "units" "I" ∈ AW := aw_t1 (List.mem_of_getElem? (i := 63) rfl) rfl
theorem kw_60 : Cond.fieldLink RX0 47 "SilentDrives$Drive" "heldSum" "J" ∈ AW := aw_t1 (List.mem_of_getElem? (i := 64) rfl) rfl
theorem kw_61 : Cond.fieldLink RX4 145 "SilentDrives$Drive" "heldSum" "J" ∈ AW := aw_t1 (List.mem_of_getElem? (i := 65) rfl) rfl
theorem kw_62 : Cond.fieldLink RX3 134 "SilentDrives$Drive" "heldSum" "J" ∈ AW := aw_t1 (List.mem_of_getElem? (i := 66) rfl) rfl
theorem kw_63 : Cond.fieldLink RX0 18 "SilentDrives$Drive" "hours" "[B" ∈ AW := aw_t1 (List.mem_of_getElem? (i := 67) rfl) rfl
theorem kw_64 : Cond.lays "SilentDrives$Drive" "SilentDrives$Drive" "free" "I" ∈ AW := aw_t1 (List.mem_of_getElem? (i := 68) rfl) rfl
theorem kw_65 : Cond.lays "SilentDrives$Drive" "SilentDrives$Drive" "stale" "I" ∈ AW := aw_t1 (List.mem_of_getElem? (i := 70) rfl) rfl
theorem kw_66 : Cond.lays "SilentDrives$Drive" "SilentDrives$Drive" "lent" "I" ∈ AW := aw_t1 (List.mem_of_getElem? (i := 72) rfl) rfl
theorem kw_67 : Cond.lays "SilentDrives$Drive" "SilentDrives$Drive" "held" "I" ∈ AW := aw_t1 (List.mem_of_getElem? (i := 74) rfl) rfl
theorem kw_68 : Cond.lays "SilentDrives$Drive" "SilentDrives$Drive" "cleaning" "Z" ∈ AW := aw_t1 (List.mem_of_getElem? (i := 76) rfl) rfl
theorem kw_69 : Cond.lays "SilentDrives$Drive" "SilentDrives$Drive" "written" "I" ∈ AW := aw_t1 (List.mem_of_getElem? (i := 78) rfl) rfl
theorem kw_70 : Cond.lays "SilentDrives$Drive" "SilentDrives$Drive" "sounded" "I" ∈ AW := aw_t1 (List.mem_of_getElem? (i := 80) rfl) rfl
theorem kw_71 : Cond.lays "SilentDrives$Drive" "SilentDrives$Drive" "overruns" "I" ∈ AW := aw_t1 (List.mem_of_getElem? (i := 82) rfl) rfl
theorem kw_72 : Cond.lays "SilentDrives$Drive" "SilentDrives$Drive" "every" "I" ∈ AW := aw_t1 (List.mem_of_getElem? (i := 84) rfl) rfl
theorem kw_73 : Cond.lays "SilentDrives$Drive" "SilentDrives$Drive" "units" "I" ∈ AW := aw_t1 (List.mem_of_getElem? (i := 86) rfl) rfl
theorem kw_74 : Cond.lays "SilentDrives$Drive" "SilentDrives$Drive" "heldSum" "J" ∈ AW := aw_t1 (List.mem_of_getElem? (i := 88) rfl) rfl
theorem kw_75 : Cond.laysFinal "SilentDrives$Drive" "SilentDrives$Drive" "hours" "[B" ∈ AW := aw_t1 (List.mem_of_getElem? (i := 90) rfl) rfl
theorem kw_76 : Cond.arrayClass Jvm.ClassFile.FieldType.int ∈ AW := aw_t1 (List.mem_of_getElem? (i := 93) rfl) rfl
theorem kw_77 : Cond.arrayClass Jvm.ClassFile.FieldType.byte ∈ AW := aw_t1 (List.mem_of_getElem? (i := 94) rfl) rfl
theorem kw_78 : Cond.fieldLink RX3 9 "SilentDrives$Station" "settings" "[I" ∈ AW := aw_t1 (List.mem_of_getElem? (i := 95) rfl) rfl
theorem kw_79 : Cond.fieldLink RX4 153 "SilentDrives$Station" "settings" "[I" ∈ AW := aw_t1 (List.mem_of_getElem? (i := 96) rfl) rfl
theorem kw_80 : Cond.fieldLink RX3 17 "SilentDrives$Station" "drives" "[LSilentDrives$Drive;" ∈ AW := aw_t1 (List.mem_of_getElem? (i := 97) rfl) rfl
theorem kw_81 : Cond.fieldLink RX4 76 "SilentDrives$Station" "drives" "[LSilentDrives$Drive;" ∈ AW := aw_t1 (List.mem_of_getElem? (i := 98) rfl) rfl
theorem kw_82 : Cond.fieldLink RX3 35 "SilentDrives$Station" "now" "I" ∈ AW := aw_t1 (List.mem_of_getElem? (i := 99) rfl) rfl
theorem kw_83 : Cond.fieldLink RX4 142 "SilentDrives$Station" "now" "I" ∈ AW := aw_t1 (List.mem_of_getElem? (i := 100) rfl) rfl
theorem kw_84 : Cond.fieldLink RX3 39 "SilentDrives$Station" "earned" "I" ∈ AW := aw_t1 (List.mem_of_getElem? (i := 101) rfl) rfl
theorem kw_85 : Cond.fieldLink RX4 157 "SilentDrives$Station" "earned" "I" ∈ AW := aw_t1 (List.mem_of_getElem? (i := 102) rfl) rfl
theorem kw_86 : Cond.fieldLink RX3 42 "SilentDrives$Station" "fined" "I" ∈ AW := aw_t1 (List.mem_of_getElem? (i := 103) rfl) rfl
theorem kw_87 : Cond.fieldLink RX4 160 "SilentDrives$Station" "fined" "I" ∈ AW := aw_t1 (List.mem_of_getElem? (i := 104) rfl) rfl
theorem kw_88 : Cond.fieldLink RX3 45 "SilentDrives$Station" "credits" "I" ∈ AW := aw_t1 (List.mem_of_getElem? (i := 105) rfl) rfl
theorem kw_89 : Cond.fieldLink RX4 163 "SilentDrives$Station" "credits" "I" ∈ AW := aw_t1 (List.mem_of_getElem? (i := 106) rfl) rfl
theorem kw_90 : Cond.fieldLink RX3 48 "SilentDrives$Station" "creditsUsed" "I" ∈ AW := aw_t1 (List.mem_of_getElem? (i := 107) rfl) rfl
theorem kw_91 : Cond.fieldLink RX4 166 "SilentDrives$Station" "creditsUsed" "I" ∈ AW := aw_t1 (List.mem_of_getElem? (i := 108) rfl) rfl
theorem kw_92 : Cond.laysFinal "SilentDrives$Station" "SilentDrives$Station" "settings" "[I" ∈ AW := aw_t1 (List.mem_of_getElem? (i := 109) rfl) rfl
theorem kw_93 : Cond.laysFinal "SilentDrives$Station" "SilentDrives$Station" "drives" "[LSilentDrives$Drive;" ∈ AW := aw_t1 (List.mem_of_getElem? (i := 111) rfl) rfl
theorem kw_94 : Cond.lays "SilentDrives$Station" "SilentDrives$Station" "now" "I" ∈ AW := aw_t1 (List.mem_of_getElem? (i := 113) rfl) rfl
theorem kw_95 : Cond.lays "SilentDrives$Station" "SilentDrives$Station" "earned" "I" ∈ AW := aw_t1 (List.mem_of_getElem? (i := 115) rfl) rfl
theorem kw_96 : Cond.lays "SilentDrives$Station" "SilentDrives$Station" "fined" "I" ∈ AW := aw_t1 (List.mem_of_getElem? (i := 117) rfl) rfl
theorem kw_97 : Cond.lays "SilentDrives$Station" "SilentDrives$Station" "credits" "I" ∈ AW := aw_t1 (List.mem_of_getElem? (i := 119) rfl) rfl
theorem kw_98 : Cond.lays "SilentDrives$Station" "SilentDrives$Station" "creditsUsed" "I" ∈ AW := aw_t1 (List.mem_of_getElem? (i := 121) rfl) rfl
theorem kw_99 : Cond.classLink RX4 16 RX1 ∈ AW := aw_t1 (List.mem_of_getElem? (i := 124) rfl) rfl
theorem kw_100 : Cond.instantiable RX1 3 ∈ AW := aw_t1 (List.mem_of_getElem? (i := 125) rfl) rfl
theorem kw_101 : Cond.methodLink RX4 18 yX1_init ∈ AW := aw_t1 (List.mem_of_getElem? (i := 126) rfl) rfl
theorem kw_102 : Cond.instanceMethod yX1_init ∈ AW := aw_t1 (List.mem_of_getElem? (i := 127) rfl) rfl
theorem kw_103 : Cond.code yX1_init cX1_init 2 (Option.none : Option Jvm.ClassFile.FieldType) ∈ AW := aw_t1 (List.mem_of_getElem? (i := 128) rfl) rfl
theorem kw_104 : Cond.methodLink RX1 3 objectInit ∈ AW := aw_t1 (List.mem_of_getElem? (i := 129) rfl) rfl
theorem kw_105 : Cond.classLink RX1 9 RX3 ∈ AW := aw_t1 (List.mem_of_getElem? (i := 130) rfl) rfl
theorem kw_106 : Cond.methodLink RX1 17 yX3_init ∈ AW := aw_t1 (List.mem_of_getElem? (i := 132) rfl) rfl
theorem kw_107 : Cond.fieldLink RX1 11 "SilentDrives$History" "states" "[LSilentDrives$Station;" ∈ AW := aw_t1 (List.mem_of_getElem? (i := 133) rfl) rfl
theorem kw_108 : Cond.fieldLink RX1 18 "SilentDrives$History" "next" "I" ∈ AW := aw_t1 (List.mem_of_getElem? (i := 134) rfl) rfl
theorem kw_109 : Cond.fieldLink RX1 26 "SilentDrives$History" "size" "I" ∈ AW := aw_t1 (List.mem_of_getElem? (i := 135) rfl) rfl
theorem kw_110 : Cond.fieldLink RX4 172 "SilentDrives$History" "size" "I" ∈ AW := aw_t1 (List.mem_of_getElem? (i := 136) rfl) rfl
theorem kw_111 : Cond.laysFinal "SilentDrives$History" "SilentDrives$History" "states" "[LSilentDrives$Station;" ∈ AW := aw_t1 (List.mem_of_getElem? (i := 137) rfl) rfl
theorem kw_112 : Cond.lays "SilentDrives$History" "SilentDrives$History" "next" "I" ∈ AW := aw_t1 (List.mem_of_getElem? (i := 139) rfl) rfl
theorem kw_113 : Cond.lays "SilentDrives$History" "SilentDrives$History" "size" "I" ∈ AW := aw_t1 (List.mem_of_getElem? (i := 141) rfl) rfl
theorem kw_114 : Cond.classLink RX4 31 RX2 ∈ AW := aw_t1 (List.mem_of_getElem? (i := 144) rfl) rfl
theorem kw_115 : Cond.instantiable RX2 7 ∈ AW := aw_t1 (List.mem_of_getElem? (i := 145) rfl) rfl
theorem kw_116 : Cond.instanceMethod yX2_init ∈ AW := aw_t1 (List.mem_of_getElem? (i := 147) rfl) rfl
theorem kw_117 : Cond.code yX2_init cX2_init 1 (Option.none : Option Jvm.ClassFile.FieldType) ∈ AW := aw_t1 (List.mem_of_getElem? (i := 148) rfl) rfl
theorem kw_118 : Cond.methodLink RX2 3 objectInit ∈ AW := aw_t1 (List.mem_of_getElem? (i := 149) rfl) rfl
theorem kw_119 : Cond.fieldLink RX2 9 "SilentDrives$Pad" "signs" "[C" ∈ AW := aw_t1 (List.mem_of_getElem? (i := 150) rfl) rfl
theorem kw_120 : Cond.fieldLink RX2 15 "SilentDrives$Pad" "length" "I" ∈ AW := aw_t1 (List.mem_of_getElem? (i := 151) rfl) rfl
theorem kw_121 : Cond.fieldLink RX4 169 "SilentDrives$Pad" "length" "I" ∈ AW := aw_t1 (List.mem_of_getElem? (i := 152) rfl) rfl
theorem kw_122 : Cond.fieldLink RX2 28 "SilentDrives$Pad" "place" "I" ∈ AW := aw_t1 (List.mem_of_getElem? (i := 153) rfl) rfl
theorem kw_123 : Cond.fieldLink RX2 42 "SilentDrives$Pad" "kind" "C" ∈ AW := aw_t1 (List.mem_of_getElem? (i := 154) rfl) rfl
theorem kw_124 : Cond.fieldLink RX4 239 "SilentDrives$Pad" "kind" "C" ∈ AW := aw_t1 (List.mem_of_getElem? (i := 155) rfl) rfl
theorem kw_125 : Cond.fieldLink RX2 55 "SilentDrives$Pad" "drive" "I" ∈ AW := aw_t1 (List.mem_of_getElem? (i := 156) rfl) rfl
theorem kw_126 : Cond.fieldLink RX4 243 "SilentDrives$Pad" "drive" "I" ∈ AW := aw_t1 (List.mem_of_getElem? (i := 157) rfl) rfl
theorem kw_127 : Cond.fieldLink RX2 66 "SilentDrives$Pad" "first" "I" ∈ AW := aw_t1 (List.mem_of_getElem? (i := 158) rfl) rfl
theorem kw_128 : Cond.fieldLink RX4 246 "SilentDrives$Pad" "first" "I" ∈ AW := aw_t1 (List.mem_of_getElem? (i := 159) rfl) rfl
theorem kw_129 : Cond.fieldLink RX2 69 "SilentDrives$Pad" "second" "I" ∈ AW := aw_t1 (List.mem_of_getElem? (i := 160) rfl) rfl
theorem kw_130 : Cond.fieldLink RX4 249 "SilentDrives$Pad" "second" "I" ∈ AW := aw_t1 (List.mem_of_getElem? (i := 161) rfl) rfl
theorem kw_131 : Cond.laysFinal "SilentDrives$Pad" "SilentDrives$Pad" "signs" "[C" ∈ AW := aw_t1 (List.mem_of_getElem? (i := 162) rfl) rfl
theorem kw_132 : Cond.lays "SilentDrives$Pad" "SilentDrives$Pad" "length" "I" ∈ AW := aw_t1 (List.mem_of_getElem? (i := 164) rfl) rfl
theorem kw_133 : Cond.lays "SilentDrives$Pad" "SilentDrives$Pad" "place" "I" ∈ AW := aw_t1 (List.mem_of_getElem? (i := 166) rfl) rfl
theorem kw_134 : Cond.lays "SilentDrives$Pad" "SilentDrives$Pad" "kind" "C" ∈ AW := aw_t1 (List.mem_of_getElem? (i := 168) rfl) rfl
theorem kw_135 : Cond.lays "SilentDrives$Pad" "SilentDrives$Pad" "drive" "I" ∈ AW := aw_t1 (List.mem_of_getElem? (i := 170) rfl) rfl
theorem kw_136 : Cond.lays "SilentDrives$Pad" "SilentDrives$Pad" "first" "I" ∈ AW := aw_t1 (List.mem_of_getElem? (i := 172) rfl) rfl
theorem kw_137 : Cond.lays "SilentDrives$Pad" "SilentDrives$Pad" "second" "I" ∈ AW := aw_t1 (List.mem_of_getElem? (i := 174) rfl) rfl
theorem kw_138 : Cond.arrayClass Jvm.ClassFile.FieldType.boolean ∈ AW := aw_t1 (List.mem_of_getElem? (i := 177) rfl) rfl
theorem kw_139 : Cond.arrayClass Jvm.ClassFile.FieldType.char ∈ AW := aw_t1 (List.mem_of_getElem? (i := 178) rfl) rfl
theorem kw_140 : Cond.fieldLink RX4 10 "SilentDrives" "present" "LSilentDrives$Station;" ∈ AW := aw_t1 (List.mem_of_getElem? (i := 179) rfl) rfl
theorem kw_141 : Cond.fieldLink RX4 19 "SilentDrives" "history" "LSilentDrives$History;" ∈ AW := aw_t1 (List.mem_of_getElem? (i := 180) rfl) rfl
theorem kw_142 : Cond.fieldLink RX4 23 "SilentDrives" "slots" "[LSilentDrives$Station;" ∈ AW := aw_t1 (List.mem_of_getElem? (i := 181) rfl) rfl
theorem kw_143 : Cond.fieldLink RX4 27 "SilentDrives" "slotUsed" "[Z" ∈ AW := aw_t1 (List.mem_of_getElem? (i := 182) rfl) rfl
theorem kw_144 : Cond.fieldLink RX4 34 "SilentDrives" "pad" "LSilentDrives$Pad;" ∈ AW := aw_t1 (List.mem_of_getElem? (i := 183) rfl) rfl
theorem kw_145 : Cond.fieldLink RX4 38 "SilentDrives" "trial" "LSilentDrives$Station;" ∈ AW := aw_t1 (List.mem_of_getElem? (i := 184) rfl) rfl
theorem kw_146 : Cond.fieldLink RX4 41 "SilentDrives" "soldTrial" "LSilentDrives$Station;" ∈ AW := aw_t1 (List.mem_of_getElem? (i := 185) rfl) rfl
theorem kw_147 : Cond.laysFinal "SilentDrives" "SilentDrives" "present" "LSilentDrives$Station;" ∈ AW := aw_t1 (List.mem_of_getElem? (i := 186) rfl) rfl
theorem kw_148 : Cond.laysFinal "SilentDrives" "SilentDrives" "history" "LSilentDrives$History;" ∈ AW := aw_t1 (List.mem_of_getElem? (i := 188) rfl) rfl
theorem kw_149 : Cond.laysFinal "SilentDrives" "SilentDrives" "slots" "[LSilentDrives$Station;" ∈ AW := aw_t1 (List.mem_of_getElem? (i := 190) rfl) rfl
theorem kw_150 : Cond.laysFinal "SilentDrives" "SilentDrives" "slotUsed" "[Z" ∈ AW := aw_t1 (List.mem_of_getElem? (i := 192) rfl) rfl
theorem kw_151 : Cond.laysFinal "SilentDrives" "SilentDrives" "pad" "LSilentDrives$Pad;" ∈ AW := aw_t1 (List.mem_of_getElem? (i := 194) rfl) rfl
theorem kw_152 : Cond.laysFinal "SilentDrives" "SilentDrives" "trial" "LSilentDrives$Station;" ∈ AW := aw_t1 (List.mem_of_getElem? (i := 196) rfl) rfl
theorem kw_153 : Cond.laysFinal "SilentDrives" "SilentDrives" "soldTrial" "LSilentDrives$Station;" ∈ AW := aw_t1 (List.mem_of_getElem? (i := 198) rfl) rfl
theorem kw_154 : Cond.methodLink RL 13 yX4_set ∈ AW := aw_t1 (List.mem_of_getElem? (i := 201) rfl) rfl
theorem kw_155 : Cond.instanceMethod yX4_set ∈ AW := aw_t1 (List.mem_of_getElem? (i := 202) rfl) rfl
theorem kw_156 : Cond.selects RX4 yX4_set yX4_set ∈ AW := aw_t1 (List.mem_of_getElem? (i := 203) rfl) rfl
theorem kw_157 : Cond.code yX4_set cX4_set 3 (Option.some Jvm.ClassFile.FieldType.int) ∈ AW := aw_t1 (List.mem_of_getElem? (i := 204) rfl) rfl
theorem kw_158 : Cond.methodLink RX4 44 yX1_prepare ∈ AW := aw_t1 (List.mem_of_getElem? (i := 205) rfl) rfl
theorem kw_159 : Cond.instanceMethod yX1_prepare ∈ AW := aw_t1 (List.mem_of_getElem? (i := 206) rfl) rfl
theorem kw_160 : Cond.selects RX1 yX1_prepare yX1_prepare ∈ AW := aw_t1 (List.mem_of_getElem? (i := 207) rfl) rfl
theorem kw_161 : Cond.code yX1_prepare cX1_prepare 2 (Option.none : Option Jvm.ClassFile.FieldType) ∈ AW := aw_t1 (List.mem_of_getElem? (i := 208) rfl) rfl
theorem kw_162 : Cond.methodLink RX1 22 yX3_copyFrom ∈ AW := aw_t1 (List.mem_of_getElem? (i := 209) rfl) rfl
theorem kw_163 : Cond.instanceMethod yX3_copyFrom ∈ AW := aw_t1 (List.mem_of_getElem? (i := 210) rfl) rfl
theorem kw_164 : Cond.selects RX3 yX3_copyFrom yX3_copyFrom ∈ AW := aw_t1 (List.mem_of_getElem? (i := 211) rfl) rfl
theorem kw_165 : Cond.code yX3_copyFrom cX3_copyFrom 3 (Option.none : Option Jvm.ClassFile.FieldType) ∈ AW := aw_t1 (List.mem_of_getElem? (i := 212) rfl) rfl
theorem kw_166 : Cond.methodLink RX3 31 yX0_copyFrom ∈ AW := aw_t1 (List.mem_of_getElem? (i := 213) rfl) rfl
theorem kw_167 : Cond.instanceMethod yX0_copyFrom ∈ AW := aw_t1 (List.mem_of_getElem? (i := 214) rfl) rfl
theorem kw_168 : Cond.selects RX0 yX0_copyFrom yX0_copyFrom ∈ AW := aw_t1 (List.mem_of_getElem? (i := 215) rfl) rfl
theorem kw_169 : Cond.code yX0_copyFrom cX0_copyFrom 2 (Option.none : Option Jvm.ClassFile.FieldType) ∈ AW := aw_t1 (List.mem_of_getElem? (i := 216) rfl) rfl
theorem kw_170 : Cond.methodLink RX0 51 arraycopyName ∈ AW := aw_t1 (List.mem_of_getElem? (i := 217) rfl) rfl
theorem kw_171 : Cond.methodLink RX4 48 yX3_changeSetting ∈ AW := aw_t1 (List.mem_of_getElem? (i := 218) rfl) rfl
theorem kw_172 : Cond.instanceMethod yX3_changeSetting ∈ AW := aw_t1 (List.mem_of_getElem? (i := 219) rfl) rfl
theorem kw_173 : Cond.selects RX3 yX3_changeSetting yX3_changeSetting ∈ AW := aw_t1 (List.mem_of_getElem? (i := 220) rfl) rfl
theorem kw_174 : Cond.code yX3_changeSetting cX3_changeSetting 4 (Option.some Jvm.ClassFile.FieldType.int) ∈ AW := aw_t1 (List.mem_of_getElem? (i := 221) rfl) rfl
theorem kw_175 : Cond.methodLink RX4 52 yX4_recorded ∈ AW := aw_t1 (List.mem_of_getElem? (i := 226) rfl) rfl
theorem kw_176 : Cond.instanceMethod yX4_recorded ∈ AW := aw_t1 (List.mem_of_getElem? (i := 228) rfl) rfl
theorem kw_177 : Cond.code yX4_recorded cX4_recorded 2 (Option.some Jvm.ClassFile.FieldType.int) ∈ AW := aw_t1 (List.mem_of_getElem? (i := 229) rfl) rfl
theorem kw_178 : Cond.methodLink RX4 221 yX1_keepPrepared ∈ AW := aw_t1 (List.mem_of_getElem? (i := 230) rfl) rfl
theorem kw_179 : Cond.instanceMethod yX1_keepPrepared ∈ AW := aw_t1 (List.mem_of_getElem? (i := 231) rfl) rfl
theorem kw_180 : Cond.selects RX1 yX1_keepPrepared yX1_keepPrepared ∈ AW := aw_t1 (List.mem_of_getElem? (i := 232) rfl) rfl
theorem kw_181 : Cond.code yX1_keepPrepared cX1_keepPrepared 1 (Option.none : Option Jvm.ClassFile.FieldType) ∈ AW := aw_t1 (List.mem_of_getElem? (i := 233) rfl) rfl
theorem kw_182 : Cond.methodLink RX1 29 yJ9_min_7cf53 ∈ AW := aw_t1 (List.mem_of_getElem? (i := 234) rfl) rfl
theorem kw_183 : Cond.static yJ9_min_7cf53 ∈ AW := aw_t1 (List.mem_of_getElem? (i := 235) rfl) rfl
theorem kw_184 : Cond.code yJ9_min_7cf53 Lib.Math.min.code 2 (Option.some Jvm.ClassFile.FieldType.int) ∈ AW := aw_t1 (List.mem_of_getElem? (i := 236) rfl) rfl
theorem kw_185 : Cond.methodLink RL 18 yX4_stream ∈ AW := aw_t1 (List.mem_of_getElem? (i := 237) rfl) rfl
theorem kw_186 : Cond.instanceMethod yX4_stream ∈ AW := aw_t1 (List.mem_of_getElem? (i := 238) rfl) rfl
theorem kw_187 : Cond.selects RX4 yX4_stream yX4_stream ∈ AW := aw_t1 (List.mem_of_getElem? (i := 239) rfl) rfl
theorem kw_188 : Cond.code yX4_stream cX4_stream 4 (Option.some Jvm.ClassFile.FieldType.int) ∈ AW := aw_t2 (List.mem_of_getElem? (i := 0) rfl) rfl
theorem kw_189 : Cond.methodLink RX4 56 yX3_changeStream ∈ AW := aw_t2 (List.mem_of_getElem? (i := 1) rfl) rfl
theorem kw_190 : Cond.instanceMethod yX3_changeStream ∈ AW := aw_t2 (List.mem_of_getElem? (i := 2) rfl) rfl
theorem kw_191 : Cond.selects RX3 yX3_changeStream yX3_changeStream ∈ AW := aw_t2 (List.mem_of_getElem? (i := 3) rfl) rfl
theorem kw_192 : Cond.code yX3_changeStream cX3_changeStream 5 (Option.some Jvm.ClassFile.FieldType.int) ∈ AW := aw_t2 (List.mem_of_getElem? (i := 4) rfl) rfl
theorem kw_193 : Cond.static yX4_isDrive ∈ AW := aw_t2 (List.mem_of_getElem? (i := 6) rfl) rfl
theorem kw_194 : Cond.code yX4_isDrive cX4_isDrive 1 (Option.some Jvm.ClassFile.FieldType.boolean) ∈ AW := aw_t2 (List.mem_of_getElem? (i := 7) rfl) rfl
theorem kw_195 : Cond.methodLink RL 23 yX4_write ∈ AW := aw_t2 (List.mem_of_getElem? (i := 8) rfl) rfl
theorem kw_196 : Cond.instanceMethod yX4_write ∈ AW := aw_t2 (List.mem_of_getElem? (i := 9) rfl) rfl
theorem kw_197 : Cond.selects RX4 yX4_write yX4_write ∈ AW := aw_t2 (List.mem_of_getElem? (i := 10) rfl) rfl
theorem kw_198 : Cond.code yX4_write cX4_write 3 (Option.some Jvm.ClassFile.FieldType.int) ∈ AW := aw_t2 (List.mem_of_getElem? (i := 11) rfl) rfl
theorem kw_199 : Cond.methodLink RX4 60 yX3_bringUnits ∈ AW := aw_t2 (List.mem_of_getElem? (i := 12) rfl) rfl
theorem kw_200 : Cond.instanceMethod yX3_bringUnits ∈ AW := aw_t2 (List.mem_of_getElem? (i := 13) rfl) rfl
theorem kw_201 : Cond.selects RX3 yX3_bringUnits yX3_bringUnits ∈ AW := aw_t2 (List.mem_of_getElem? (i := 14) rfl) rfl
theorem kw_202 : Cond.code yX3_bringUnits cX3_bringUnits 3 (Option.some Jvm.ClassFile.FieldType.int) ∈ AW := aw_t2 (List.mem_of_getElem? (i := 15) rfl) rfl
theorem kw_203 : Cond.methodLink RL 27 yX4_sell ∈ AW := aw_t2 (List.mem_of_getElem? (i := 16) rfl) rfl
theorem kw_204 : Cond.instanceMethod yX4_sell ∈ AW := aw_t2 (List.mem_of_getElem? (i := 17) rfl) rfl
theorem kw_205 : Cond.selects RX4 yX4_sell yX4_sell ∈ AW := aw_t2 (List.mem_of_getElem? (i := 18) rfl) rfl
theorem kw_206 : Cond.code yX4_sell cX4_sell 3 (Option.some Jvm.ClassFile.FieldType.int) ∈ AW := aw_t2 (List.mem_of_getElem? (i := 19) rfl) rfl
theorem kw_207 : Cond.methodLink RX4 63 yX3_sellHour ∈ AW := aw_t2 (List.mem_of_getElem? (i := 20) rfl) rfl
theorem kw_208 : Cond.instanceMethod yX3_sellHour ∈ AW := aw_t2 (List.mem_of_getElem? (i := 21) rfl) rfl
theorem kw_209 : Cond.selects RX3 yX3_sellHour yX3_sellHour ∈ AW := aw_t2 (List.mem_of_getElem? (i := 22) rfl) rfl
theorem kw_210 : Cond.code yX3_sellHour cX3_sellHour 3 (Option.some Jvm.ClassFile.FieldType.int) ∈ AW := aw_t2 (List.mem_of_getElem? (i := 23) rfl) rfl
theorem kw_211 : Cond.methodLink RX3 70 yX3_changeHour ∈ AW := aw_t2 (List.mem_of_getElem? (i := 24) rfl) rfl
theorem kw_212 : Cond.instanceMethod yX3_changeHour ∈ AW := aw_t2 (List.mem_of_getElem? (i := 26) rfl) rfl
theorem kw_213 : Cond.code yX3_changeHour cX3_changeHour 5 (Option.some Jvm.ClassFile.FieldType.int) ∈ AW := aw_t2 (List.mem_of_getElem? (i := 27) rfl) rfl
theorem kw_214 : Cond.static yX4_isHour ∈ AW := aw_t2 (List.mem_of_getElem? (i := 29) rfl) rfl
theorem kw_215 : Cond.code yX4_isHour cX4_isHour 1 (Option.some Jvm.ClassFile.FieldType.boolean) ∈ AW := aw_t2 (List.mem_of_getElem? (i := 30) rfl) rfl
theorem kw_216 : Cond.methodLink RX3 77 yX3_hourOfNow ∈ AW := aw_t2 (List.mem_of_getElem? (i := 31) rfl) rfl
theorem kw_217 : Cond.instanceMethod yX3_hourOfNow ∈ AW := aw_t2 (List.mem_of_getElem? (i := 32) rfl) rfl
theorem kw_218 : Cond.selects RX3 yX3_hourOfNow yX3_hourOfNow ∈ AW := aw_t2 (List.mem_of_getElem? (i := 33) rfl) rfl
theorem kw_219 : Cond.code yX3_hourOfNow cX3_hourOfNow 1 (Option.some Jvm.ClassFile.FieldType.int) ∈ AW := aw_t2 (List.mem_of_getElem? (i := 34) rfl) rfl
theorem kw_220 : Cond.methodLink RX3 81 yX0_hourState ∈ AW := aw_t2 (List.mem_of_getElem? (i := 35) rfl) rfl
theorem kw_221 : Cond.instanceMethod yX0_hourState ∈ AW := aw_t2 (List.mem_of_getElem? (i := 36) rfl) rfl
theorem kw_222 : Cond.selects RX0 yX0_hourState yX0_hourState ∈ AW := aw_t2 (List.mem_of_getElem? (i := 37) rfl) rfl
theorem kw_223 : Cond.code yX0_hourState cX0_hourState 2 (Option.some Jvm.ClassFile.FieldType.int) ∈ AW := aw_t2 (List.mem_of_getElem? (i := 38) rfl) rfl
theorem kw_224 : Cond.methodLink RX3 85 yX0_markHour ∈ AW := aw_t2 (List.mem_of_getElem? (i := 40) rfl) rfl
theorem kw_225 : Cond.instanceMethod yX0_markHour ∈ AW := aw_t2 (List.mem_of_getElem? (i := 41) rfl) rfl
theorem kw_226 : Cond.selects RX0 yX0_markHour yX0_markHour ∈ AW := aw_t2 (List.mem_of_getElem? (i := 42) rfl) rfl
theorem kw_227 : Cond.code yX0_markHour cX0_markHour 3 (Option.none : Option Jvm.ClassFile.FieldType) ∈ AW := aw_t2 (List.mem_of_getElem? (i := 43) rfl) rfl
theorem kw_228 : Cond.methodLink RX3 89 yX0_soldHours ∈ AW := aw_t2 (List.mem_of_getElem? (i := 44) rfl) rfl
theorem kw_229 : Cond.instanceMethod yX0_soldHours ∈ AW := aw_t2 (List.mem_of_getElem? (i := 45) rfl) rfl
theorem kw_230 : Cond.selects RX0 yX0_soldHours yX0_soldHours ∈ AW := aw_t2 (List.mem_of_getElem? (i := 46) rfl) rfl
theorem kw_231 : Cond.code yX0_soldHours cX0_soldHours 1 (Option.some Jvm.ClassFile.FieldType.int) ∈ AW := aw_t2 (List.mem_of_getElem? (i := 47) rfl) rfl
theorem kw_232 : Cond.methodLink RX0 65 yX0_hoursThatAre ∈ AW := aw_t2 (List.mem_of_getElem? (i := 48) rfl) rfl
theorem kw_233 : Cond.instanceMethod yX0_hoursThatAre ∈ AW := aw_t2 (List.mem_of_getElem? (i := 49) rfl) rfl
theorem kw_234 : Cond.selects RX0 yX0_hoursThatAre yX0_hoursThatAre ∈ AW := aw_t2 (List.mem_of_getElem? (i := 50) rfl) rfl
theorem kw_235 : Cond.code yX0_hoursThatAre cX0_hoursThatAre 4 (Option.some Jvm.ClassFile.FieldType.int) ∈ AW := aw_t2 (List.mem_of_getElem? (i := 51) rfl) rfl
theorem kw_236 : Cond.methodLink RL 31 yX4_giveBack ∈ AW := aw_t2 (List.mem_of_getElem? (i := 52) rfl) rfl
theorem kw_237 : Cond.instanceMethod yX4_giveBack ∈ AW := aw_t2 (List.mem_of_getElem? (i := 53) rfl) rfl
theorem kw_238 : Cond.selects RX4 yX4_giveBack yX4_giveBack ∈ AW := aw_t2 (List.mem_of_getElem? (i := 54) rfl) rfl
theorem kw_239 : Cond.code yX4_giveBack cX4_giveBack 3 (Option.some Jvm.ClassFile.FieldType.int) ∈ AW := aw_t2 (List.mem_of_getElem? (i := 55) rfl) rfl
theorem kw_240 : Cond.methodLink RX4 66 yX3_takeHourBack ∈ AW := aw_t2 (List.mem_of_getElem? (i := 56) rfl) rfl
theorem kw_241 : Cond.instanceMethod yX3_takeHourBack ∈ AW := aw_t2 (List.mem_of_getElem? (i := 57) rfl) rfl
theorem kw_242 : Cond.selects RX3 yX3_takeHourBack yX3_takeHourBack ∈ AW := aw_t2 (List.mem_of_getElem? (i := 58) rfl) rfl
theorem kw_243 : Cond.code yX3_takeHourBack cX3_takeHourBack 3 (Option.some Jvm.ClassFile.FieldType.int) ∈ AW := aw_t2 (List.mem_of_getElem? (i := 59) rfl) rfl
theorem kw_244 : Cond.methodLink RL 35 yX4_pass ∈ AW := aw_t2 (List.mem_of_getElem? (i := 60) rfl) rfl
theorem kw_245 : Cond.instanceMethod yX4_pass ∈ AW := aw_t2 (List.mem_of_getElem? (i := 61) rfl) rfl
theorem kw_246 : Cond.selects RX4 yX4_pass yX4_pass ∈ AW := aw_t2 (List.mem_of_getElem? (i := 62) rfl) rfl
theorem kw_247 : Cond.code yX4_pass cX4_pass 2 (Option.some Jvm.ClassFile.FieldType.int) ∈ AW := aw_t2 (List.mem_of_getElem? (i := 63) rfl) rfl
theorem kw_248 : Cond.methodLink RX4 69 yX3_passMinutes ∈ AW := aw_t2 (List.mem_of_getElem? (i := 64) rfl) rfl
theorem kw_249 : Cond.instanceMethod yX3_passMinutes ∈ AW := aw_t2 (List.mem_of_getElem? (i := 65) rfl) rfl
theorem kw_250 : Cond.selects RX3 yX3_passMinutes yX3_passMinutes ∈ AW := aw_t2 (List.mem_of_getElem? (i := 66) rfl) rfl
theorem kw_251 : Cond.code yX3_passMinutes cX3_passMinutes 3 (Option.some Jvm.ClassFile.FieldType.int) ∈ AW := aw_t2 (List.mem_of_getElem? (i := 67) rfl) rfl
theorem kw_252 : Cond.static yX4_arePassable ∈ AW := aw_t2 (List.mem_of_getElem? (i := 69) rfl) rfl
theorem kw_253 : Cond.code yX4_arePassable cX4_arePassable 1 (Option.some Jvm.ClassFile.FieldType.boolean) ∈ AW := aw_t2 (List.mem_of_getElem? (i := 70) rfl) rfl
theorem kw_254 : Cond.methodLink RX3 95 yX3_passOneMinute ∈ AW := aw_t2 (List.mem_of_getElem? (i := 71) rfl) rfl
theorem kw_255 : Cond.instanceMethod yX3_passOneMinute ∈ AW := aw_t2 (List.mem_of_getElem? (i := 72) rfl) rfl
theorem kw_256 : Cond.selects RX3 yX3_passOneMinute yX3_passOneMinute ∈ AW := aw_t2 (List.mem_of_getElem? (i := 73) rfl) rfl
theorem kw_257 : Cond.code yX3_passOneMinute cX3_passOneMinute 3 (Option.some Jvm.ClassFile.FieldType.boolean) ∈ AW := aw_t2 (List.mem_of_getElem? (i := 74) rfl) rfl
theorem kw_258 : Cond.static yX4_twinOf ∈ AW := aw_t2 (List.mem_of_getElem? (i := 76) rfl) rfl
theorem kw_259 : Cond.code yX4_twinOf cX4_twinOf 1 (Option.some Jvm.ClassFile.FieldType.int) ∈ AW := aw_t2 (List.mem_of_getElem? (i := 77) rfl) rfl
theorem kw_260 : Cond.methodLink RX3 102 yX3_passMinuteOf ∈ AW := aw_t2 (List.mem_of_getElem? (i := 78) rfl) rfl
theorem kw_261 : Cond.instanceMethod yX3_passMinuteOf ∈ AW := aw_t2 (List.mem_of_getElem? (i := 80) rfl) rfl
theorem kw_262 : Cond.code yX3_passMinuteOf cX3_passMinuteOf 6 (Option.some Jvm.ClassFile.FieldType.boolean) ∈ AW := aw_t2 (List.mem_of_getElem? (i := 81) rfl) rfl
theorem kw_263 : Cond.methodLink RX3 106 yX0_isQuietIn ∈ AW := aw_t2 (List.mem_of_getElem? (i := 82) rfl) rfl
theorem kw_264 : Cond.instanceMethod yX0_isQuietIn ∈ AW := aw_t2 (List.mem_of_getElem? (i := 83) rfl) rfl
theorem kw_265 : Cond.selects RX0 yX0_isQuietIn yX0_isQuietIn ∈ AW := aw_t2 (List.mem_of_getElem? (i := 84) rfl) rfl
theorem kw_266 : Cond.code yX0_isQuietIn cX0_isQuietIn 2 (Option.some Jvm.ClassFile.FieldType.boolean) ∈ AW := aw_t2 (List.mem_of_getElem? (i := 85) rfl) rfl
theorem kw_267 : Cond.methodLink RX0 61 yX0_hourState ∈ AW := aw_t2 (List.mem_of_getElem? (i := 86) rfl) rfl
theorem kw_268 : Cond.methodLink RX3 109 yX3_settleHours ∈ AW := aw_t2 (List.mem_of_getElem? (i := 87) rfl) rfl
theorem kw_269 : Cond.instanceMethod yX3_settleHours ∈ AW := aw_t2 (List.mem_of_getElem? (i := 89) rfl) rfl
theorem kw_270 : Cond.code yX3_settleHours cX3_settleHours 4 (Option.none : Option Jvm.ClassFile.FieldType) ∈ AW := aw_t2 (List.mem_of_getElem? (i := 90) rfl) rfl
theorem kw_271 : Cond.methodLink RX3 113 yX0_takeStream ∈ AW := aw_t2 (List.mem_of_getElem? (i := 91) rfl) rfl
theorem kw_272 : Cond.instanceMethod yX0_takeStream ∈ AW := aw_t2 (List.mem_of_getElem? (i := 92) rfl) rfl
theorem kw_273 : Cond.selects RX0 yX0_takeStream yX0_takeStream ∈ AW := aw_t2 (List.mem_of_getElem? (i := 93) rfl) rfl
theorem kw_274 : Cond.code yX0_takeStream cX0_takeStream 2 (Option.none : Option Jvm.ClassFile.FieldType) ∈ AW := aw_t2 (List.mem_of_getElem? (i := 94) rfl) rfl
theorem kw_275 : Cond.methodLink RX3 117 yX0_takeBackFrom ∈ AW := aw_t2 (List.mem_of_getElem? (i := 95) rfl) rfl
theorem kw_276 : Cond.instanceMethod yX0_takeBackFrom ∈ AW := aw_t2 (List.mem_of_getElem? (i := 96) rfl) rfl
theorem kw_277 : Cond.selects RX0 yX0_takeBackFrom yX0_takeBackFrom ∈ AW := aw_t2 (List.mem_of_getElem? (i := 97) rfl) rfl
theorem kw_278 : Cond.code yX0_takeBackFrom cX0_takeBackFrom 3 (Option.none : Option Jvm.ClassFile.FieldType) ∈ AW := aw_t2 (List.mem_of_getElem? (i := 98) rfl) rfl
theorem kw_279 : Cond.methodLink RX0 68 yJ9_min_7cf53 ∈ AW := aw_t2 (List.mem_of_getElem? (i := 99) rfl) rfl
theorem kw_280 : Cond.methodLink RX0 74 yX0_fillCells ∈ AW := aw_t2 (List.mem_of_getElem? (i := 100) rfl) rfl
theorem kw_281 : Cond.instanceMethod yX0_fillCells ∈ AW := aw_t2 (List.mem_of_getElem? (i := 102) rfl) rfl
theorem kw_282 : Cond.code yX0_fillCells cX0_fillCells 2 (Option.none : Option Jvm.ClassFile.FieldType) ∈ AW := aw_t2 (List.mem_of_getElem? (i := 103) rfl) rfl
theorem kw_283 : Cond.methodLink RX3 120 yX0_writeHeld ∈ AW := aw_t2 (List.mem_of_getElem? (i := 104) rfl) rfl
theorem kw_284 : Cond.instanceMethod yX0_writeHeld ∈ AW := aw_t2 (List.mem_of_getElem? (i := 105) rfl) rfl
theorem kw_285 : Cond.selects RX0 yX0_writeHeld yX0_writeHeld ∈ AW := aw_t2 (List.mem_of_getElem? (i := 106) rfl) rfl
theorem kw_286 : Cond.code yX0_writeHeld cX0_writeHeld 2 (Option.none : Option Jvm.ClassFile.FieldType) ∈ AW := aw_t2 (List.mem_of_getElem? (i := 107) rfl) rfl
theorem kw_287 : Cond.methodLink RX3 123 yX0_lendTo ∈ AW := aw_t2 (List.mem_of_getElem? (i := 108) rfl) rfl
theorem kw_288 : Cond.instanceMethod yX0_lendTo ∈ AW := aw_t2 (List.mem_of_getElem? (i := 109) rfl) rfl
theorem kw_289 : Cond.selects RX0 yX0_lendTo yX0_lendTo ∈ AW := aw_t2 (List.mem_of_getElem? (i := 110) rfl) rfl
theorem kw_290 : Cond.code yX0_lendTo cX0_lendTo 4 (Option.none : Option Jvm.ClassFile.FieldType) ∈ AW := aw_t2 (List.mem_of_getElem? (i := 111) rfl) rfl
theorem kw_291 : Cond.methodLink RX3 127 yX3_cleanUp ∈ AW := aw_t2 (List.mem_of_getElem? (i := 112) rfl) rfl
theorem kw_292 : Cond.instanceMethod yX3_cleanUp ∈ AW := aw_t2 (List.mem_of_getElem? (i := 114) rfl) rfl
theorem kw_293 : Cond.code yX3_cleanUp cX3_cleanUp 5 (Option.some Jvm.ClassFile.FieldType.boolean) ∈ AW := aw_t2 (List.mem_of_getElem? (i := 115) rfl) rfl
theorem kw_294 : Cond.methodLink RX3 148 yJ9_min_7cf53 ∈ AW := aw_t2 (List.mem_of_getElem? (i := 116) rfl) rfl
theorem kw_295 : Cond.methodLink RX3 154 yX0_cleanCells ∈ AW := aw_t2 (List.mem_of_getElem? (i := 117) rfl) rfl
theorem kw_296 : Cond.instanceMethod yX0_cleanCells ∈ AW := aw_t2 (List.mem_of_getElem? (i := 118) rfl) rfl
theorem kw_297 : Cond.selects RX0 yX0_cleanCells yX0_cleanCells ∈ AW := aw_t2 (List.mem_of_getElem? (i := 119) rfl) rfl
theorem kw_298 : Cond.code yX0_cleanCells cX0_cleanCells 2 (Option.none : Option Jvm.ClassFile.FieldType) ∈ AW := aw_t2 (List.mem_of_getElem? (i := 120) rfl) rfl
theorem kw_299 : Cond.methodLink RX3 131 yX3_chargeOverrun ∈ AW := aw_t2 (List.mem_of_getElem? (i := 121) rfl) rfl
theorem kw_300 : Cond.instanceMethod yX3_chargeOverrun ∈ AW := aw_t2 (List.mem_of_getElem? (i := 123) rfl) rfl
theorem kw_301 : Cond.code yX3_chargeOverrun cX3_chargeOverrun 3 (Option.none : Option Jvm.ClassFile.FieldType) ∈ AW := aw_t2 (List.mem_of_getElem? (i := 124) rfl) rfl
theorem kw_302 : Cond.methodLink RL 40 yX4_ofDrive ∈ AW := aw_t2 (List.mem_of_getElem? (i := 125) rfl) rfl
theorem kw_303 : Cond.instanceMethod yX4_ofDrive ∈ AW := aw_t2 (List.mem_of_getElem? (i := 126) rfl) rfl
theorem kw_304 : Cond.selects RX4 yX4_ofDrive yX4_ofDrive ∈ AW := aw_t2 (List.mem_of_getElem? (i := 127) rfl) rfl
theorem kw_305 : Cond.code yX4_ofDrive cX4_ofDrive 4 (Option.some Jvm.ClassFile.FieldType.int) ∈ AW := aw_t2 (List.mem_of_getElem? (i := 128) rfl) rfl
theorem kw_306 : Cond.methodLink RX4 72 yX4_isDrive ∈ AW := aw_t2 (List.mem_of_getElem? (i := 129) rfl) rfl
theorem kw_307 : Cond.methodLink RX4 95 yX3_hourOfNow ∈ AW := aw_t2 (List.mem_of_getElem? (i := 130) rfl) rfl
theorem kw_308 : Cond.methodLink RX4 99 yX0_isQuietIn ∈ AW := aw_t2 (List.mem_of_getElem? (i := 131) rfl) rfl
theorem kw_309 : Cond.methodLink RX4 115 yX0_soldHours ∈ AW := aw_t2 (List.mem_of_getElem? (i := 132) rfl) rfl
theorem kw_310 : Cond.methodLink RX4 118 yX0_hoursThatAre ∈ AW := aw_t2 (List.mem_of_getElem? (i := 133) rfl) rfl
theorem kw_311 : Cond.methodLink RL 44 yX4_hour ∈ AW := aw_t2 (List.mem_of_getElem? (i := 134) rfl) rfl
theorem kw_312 : Cond.instanceMethod yX4_hour ∈ AW := aw_t2 (List.mem_of_getElem? (i := 135) rfl) rfl
theorem kw_313 : Cond.selects RX4 yX4_hour yX4_hour ∈ AW := aw_t2 (List.mem_of_getElem? (i := 136) rfl) rfl
theorem kw_314 : Cond.code yX4_hour cX4_hour 3 (Option.some Jvm.ClassFile.FieldType.int) ∈ AW := aw_t2 (List.mem_of_getElem? (i := 137) rfl) rfl
theorem kw_315 : Cond.methodLink RX4 127 yX4_isHour ∈ AW := aw_t2 (List.mem_of_getElem? (i := 138) rfl) rfl
theorem kw_316 : Cond.methodLink RX4 130 yX0_hourState ∈ AW := aw_t2 (List.mem_of_getElem? (i := 139) rfl) rfl
theorem kw_317 : Cond.methodLink RL 48 yX4_streak ∈ AW := aw_t2 (List.mem_of_getElem? (i := 140) rfl) rfl
theorem kw_318 : Cond.instanceMethod yX4_streak ∈ AW := aw_t2 (List.mem_of_getElem? (i := 141) rfl) rfl
theorem kw_319 : Cond.selects RX4 yX4_streak yX4_streak ∈ AW := aw_t2 (List.mem_of_getElem? (i := 142) rfl) rfl
theorem kw_320 : Cond.code yX4_streak cX4_streak 2 (Option.some Jvm.ClassFile.FieldType.int) ∈ AW := aw_t2 (List.mem_of_getElem? (i := 143) rfl) rfl
theorem kw_321 : Cond.methodLink RX4 133 yX0_keptInARow ∈ AW := aw_t2 (List.mem_of_getElem? (i := 144) rfl) rfl
theorem kw_322 : Cond.instanceMethod yX0_keptInARow ∈ AW := aw_t2 (List.mem_of_getElem? (i := 145) rfl) rfl
theorem kw_323 : Cond.selects RX0 yX0_keptInARow yX0_keptInARow ∈ AW := aw_t2 (List.mem_of_getElem? (i := 146) rfl) rfl
theorem kw_324 : Cond.code yX0_keptInARow cX0_keptInARow 3 (Option.some Jvm.ClassFile.FieldType.int) ∈ AW := aw_t2 (List.mem_of_getElem? (i := 147) rfl) rfl
theorem kw_325 : Cond.methodLink RL 52 yX4_share ∈ AW := aw_t2 (List.mem_of_getElem? (i := 148) rfl) rfl
theorem kw_326 : Cond.instanceMethod yX4_share ∈ AW := aw_t2 (List.mem_of_getElem? (i := 149) rfl) rfl
theorem kw_327 : Cond.selects RX4 yX4_share yX4_share ∈ AW := aw_t2 (List.mem_of_getElem? (i := 150) rfl) rfl
theorem kw_328 : Cond.code yX4_share cX4_share 4 (Option.some Jvm.ClassFile.FieldType.int) ∈ AW := aw_t2 (List.mem_of_getElem? (i := 151) rfl) rfl
theorem kw_329 : Cond.methodLink RX4 136 yX4_floatBits ∈ AW := aw_t2 (List.mem_of_getElem? (i := 152) rfl) rfl
theorem kw_330 : Cond.static yX4_floatBits ∈ AW := aw_t2 (List.mem_of_getElem? (i := 153) rfl) rfl
theorem kw_331 : Cond.code yX4_floatBits cX4_floatBits 5 (Option.some Jvm.ClassFile.FieldType.int) ∈ AW := aw_t2 (List.mem_of_getElem? (i := 154) rfl) rfl
theorem kw_332 : Cond.methodLink RX4 149 yX4_doubleBits ∈ AW := aw_t2 (List.mem_of_getElem? (i := 155) rfl) rfl
theorem kw_333 : Cond.static yX4_doubleBits ∈ AW := aw_t2 (List.mem_of_getElem? (i := 156) rfl) rfl
theorem kw_334 : Cond.code yX4_doubleBits cX4_doubleBits 7 (Option.some Jvm.ClassFile.FieldType.long) ∈ AW := aw_t2 (List.mem_of_getElem? (i := 157) rfl) rfl
theorem kw_335 : Cond.constantDouble RX4 261 (4611686018427387904) ∈ AW := aw_t2 (List.mem_of_getElem? (i := 158) rfl) rfl
theorem kw_336 : Cond.constantDouble RX4 263 (4841369599423283200) ∈ AW := aw_t2 (List.mem_of_getElem? (i := 159) rfl) rfl
theorem kw_337 : Cond.constantLong RX4 265 (7516192768) ∈ AW := aw_t2 (List.mem_of_getElem? (i := 160) rfl) rfl
theorem kw_338 : Cond.methodLink RL 56 yX4_mean ∈ AW := aw_t2 (List.mem_of_getElem? (i := 161) rfl) rfl
theorem kw_339 : Cond.instanceMethod yX4_mean ∈ AW := aw_t2 (List.mem_of_getElem? (i := 162) rfl) rfl
theorem kw_340 : Cond.selects RX4 yX4_mean yX4_mean ∈ AW := aw_t2 (List.mem_of_getElem? (i := 163) rfl) rfl
theorem kw_341 : Cond.code yX4_mean cX4_mean 3 (Option.some Jvm.ClassFile.FieldType.long) ∈ AW := aw_t2 (List.mem_of_getElem? (i := 164) rfl) rfl
theorem kw_342 : Cond.constantLong RX4 140 (-1) ∈ AW := aw_t2 (List.mem_of_getElem? (i := 165) rfl) rfl
theorem kw_343 : Cond.methodLink RL 61 yX4_count ∈ AW := aw_t2 (List.mem_of_getElem? (i := 166) rfl) rfl
theorem kw_344 : Cond.instanceMethod yX4_count ∈ AW := aw_t2 (List.mem_of_getElem? (i := 167) rfl) rfl
theorem kw_345 : Cond.selects RX4 yX4_count yX4_count ∈ AW := aw_t2 (List.mem_of_getElem? (i := 168) rfl) rfl
theorem kw_346 : Cond.code yX4_count cX4_count 2 (Option.some Jvm.ClassFile.FieldType.int) ∈ AW := aw_t2 (List.mem_of_getElem? (i := 169) rfl) rfl
theorem kw_347 : Cond.methodLink RL 65 yX4_loudIn ∈ AW := aw_t2 (List.mem_of_getElem? (i := 170) rfl) rfl
theorem kw_348 : Cond.instanceMethod yX4_loudIn ∈ AW := aw_t2 (List.mem_of_getElem? (i := 171) rfl) rfl
theorem kw_349 : Cond.selects RX4 yX4_loudIn yX4_loudIn ∈ AW := aw_t2 (List.mem_of_getElem? (i := 172) rfl) rfl
theorem kw_350 : Cond.code yX4_loudIn cX4_loudIn 4 (Option.some Jvm.ClassFile.FieldType.int) ∈ AW := aw_t2 (List.mem_of_getElem? (i := 173) rfl) rfl
theorem kw_351 : Cond.methodLink RX4 175 yX4_errorOfQuestion ∈ AW := aw_t2 (List.mem_of_getElem? (i := 174) rfl) rfl
theorem kw_352 : Cond.instanceMethod yX4_errorOfQuestion ∈ AW := aw_t2 (List.mem_of_getElem? (i := 176) rfl) rfl
theorem kw_353 : Cond.code yX4_errorOfQuestion cX4_errorOfQuestion 3 (Option.some Jvm.ClassFile.FieldType.int) ∈ AW := aw_t2 (List.mem_of_getElem? (i := 177) rfl) rfl
theorem kw_354 : Cond.methodLink RX4 252 yX4_arePassable ∈ AW := aw_t2 (List.mem_of_getElem? (i := 178) rfl) rfl
theorem kw_355 : Cond.methodLink RX4 178 yX4_tryMinutes ∈ AW := aw_t2 (List.mem_of_getElem? (i := 179) rfl) rfl
theorem kw_356 : Cond.instanceMethod yX4_tryMinutes ∈ AW := aw_t2 (List.mem_of_getElem? (i := 181) rfl) rfl
theorem kw_357 : Cond.code yX4_tryMinutes cX4_tryMinutes 2 (Option.none : Option Jvm.ClassFile.FieldType) ∈ AW := aw_t2 (List.mem_of_getElem? (i := 182) rfl) rfl
theorem kw_358 : Cond.methodLink RX4 182 yX3_copyFrom ∈ AW := aw_t2 (List.mem_of_getElem? (i := 183) rfl) rfl
theorem kw_359 : Cond.methodLink RL 69 yX4_freeIn ∈ AW := aw_t2 (List.mem_of_getElem? (i := 184) rfl) rfl
theorem kw_360 : Cond.instanceMethod yX4_freeIn ∈ AW := aw_t2 (List.mem_of_getElem? (i := 185) rfl) rfl
theorem kw_361 : Cond.selects RX4 yX4_freeIn yX4_freeIn ∈ AW := aw_t2 (List.mem_of_getElem? (i := 186) rfl) rfl
theorem kw_362 : Cond.code yX4_freeIn cX4_freeIn 4 (Option.some Jvm.ClassFile.FieldType.int) ∈ AW := aw_t2 (List.mem_of_getElem? (i := 187) rfl) rfl
theorem kw_363 : Cond.methodLink RL 73 yX4_mostHeld ∈ AW := aw_t2 (List.mem_of_getElem? (i := 188) rfl) rfl
theorem kw_364 : Cond.instanceMethod yX4_mostHeld ∈ AW := aw_t2 (List.mem_of_getElem? (i := 189) rfl) rfl
theorem kw_365 : Cond.selects RX4 yX4_mostHeld yX4_mostHeld ∈ AW := aw_t2 (List.mem_of_getElem? (i := 190) rfl) rfl
theorem kw_366 : Cond.code yX4_mostHeld cX4_mostHeld 6 (Option.some Jvm.ClassFile.FieldType.int) ∈ AW := aw_t2 (List.mem_of_getElem? (i := 191) rfl) rfl
theorem kw_367 : Cond.methodLink RX4 185 yX3_passOneMinute ∈ AW := aw_t2 (List.mem_of_getElem? (i := 192) rfl) rfl
theorem kw_368 : Cond.methodLink RX4 189 yJ9_max_7cf53 ∈ AW := aw_t2 (List.mem_of_getElem? (i := 193) rfl) rfl
theorem kw_369 : Cond.static yJ9_max_7cf53 ∈ AW := aw_t2 (List.mem_of_getElem? (i := 194) rfl) rfl
theorem kw_370 : Cond.code yJ9_max_7cf53 Lib.Math.max.code 2 (Option.some Jvm.ClassFile.FieldType.int) ∈ AW := aw_t2 (List.mem_of_getElem? (i := 195) rfl) rfl
theorem kw_371 : Cond.methodLink RL 77 yX4_firstSafe ∈ AW := aw_t2 (List.mem_of_getElem? (i := 196) rfl) rfl
theorem kw_372 : Cond.instanceMethod yX4_firstSafe ∈ AW := aw_t2 (List.mem_of_getElem? (i := 197) rfl) rfl
theorem kw_373 : Cond.selects RX4 yX4_firstSafe yX4_firstSafe ∈ AW := aw_t2 (List.mem_of_getElem? (i := 198) rfl) rfl
theorem kw_374 : Cond.code yX4_firstSafe cX4_firstSafe 5 (Option.some Jvm.ClassFile.FieldType.int) ∈ AW := aw_t2 (List.mem_of_getElem? (i := 199) rfl) rfl
theorem kw_375 : Cond.methodLink RX4 194 yJ9_min_7cf53 ∈ AW := aw_t2 (List.mem_of_getElem? (i := 200) rfl) rfl
theorem kw_376 : Cond.methodLink RX4 197 yX0_markHour ∈ AW := aw_t2 (List.mem_of_getElem? (i := 201) rfl) rfl
theorem kw_377 : Cond.methodLink RX4 201 yX3_passesWithoutOverrun ∈ AW := aw_t2 (List.mem_of_getElem? (i := 202) rfl) rfl
theorem kw_378 : Cond.instanceMethod yX3_passesWithoutOverrun ∈ AW := aw_t2 (List.mem_of_getElem? (i := 203) rfl) rfl
theorem kw_379 : Cond.selects RX3 yX3_passesWithoutOverrun yX3_passesWithoutOverrun ∈ AW := aw_t2 (List.mem_of_getElem? (i := 204) rfl) rfl
theorem kw_380 : Cond.code yX3_passesWithoutOverrun cX3_passesWithoutOverrun 3 (Option.some Jvm.ClassFile.FieldType.boolean) ∈ AW := aw_t2 (List.mem_of_getElem? (i := 205) rfl) rfl
theorem kw_381 : Cond.methodLink RL 81 yX4_leastRoom ∈ AW := aw_t2 (List.mem_of_getElem? (i := 206) rfl) rfl
theorem kw_382 : Cond.instanceMethod yX4_leastRoom ∈ AW := aw_t2 (List.mem_of_getElem? (i := 207) rfl) rfl
theorem kw_383 : Cond.selects RX4 yX4_leastRoom yX4_leastRoom ∈ AW := aw_t2 (List.mem_of_getElem? (i := 208) rfl) rfl
theorem kw_384 : Cond.code yX4_leastRoom cX4_leastRoom 3 (Option.some Jvm.ClassFile.FieldType.int) ∈ AW := aw_t2 (List.mem_of_getElem? (i := 209) rfl) rfl
theorem kw_385 : Cond.fieldLink RX4 204 "SilentDrives" "LEAST_VALUES" "[I" ∈ AW := aw_t2 (List.mem_of_getElem? (i := 210) rfl) rfl
theorem kw_386 : Cond.fieldLink RX4 207 "SilentDrives" "MOST_VALUES" "[I" ∈ AW := aw_t2 (List.mem_of_getElem? (i := 211) rfl) rfl
theorem kw_387 : Cond.methodLink RL 87 yX4_put ∈ AW := aw_t2 (List.mem_of_getElem? (i := 212) rfl) rfl
theorem kw_388 : Cond.instanceMethod yX4_put ∈ AW := aw_t2 (List.mem_of_getElem? (i := 213) rfl) rfl
theorem kw_389 : Cond.selects RX4 yX4_put yX4_put ∈ AW := aw_t2 (List.mem_of_getElem? (i := 214) rfl) rfl
theorem kw_390 : Cond.code yX4_put cX4_put 4 (Option.some Jvm.ClassFile.FieldType.int) ∈ AW := aw_t2 (List.mem_of_getElem? (i := 215) rfl) rfl
theorem kw_391 : Cond.methodLink RX4 210 yX4_signsIn ∈ AW := aw_t2 (List.mem_of_getElem? (i := 216) rfl) rfl
theorem kw_392 : Cond.static yX4_signsIn ∈ AW := aw_t2 (List.mem_of_getElem? (i := 217) rfl) rfl
theorem kw_393 : Cond.code yX4_signsIn cX4_signsIn 7 (Option.some Jvm.ClassFile.FieldType.int) ∈ AW := aw_t2 (List.mem_of_getElem? (i := 218) rfl) rfl
theorem kw_394 : Cond.constantLong RX4 255 (255) ∈ AW := aw_t2 (List.mem_of_getElem? (i := 219) rfl) rfl
theorem kw_395 : Cond.constantLong RX4 257 (33) ∈ AW := aw_t2 (List.mem_of_getElem? (i := 220) rfl) rfl
theorem kw_396 : Cond.constantLong RX4 259 (126) ∈ AW := aw_t2 (List.mem_of_getElem? (i := 221) rfl) rfl
theorem kw_397 : Cond.methodLink RX4 214 yX2_append ∈ AW := aw_t2 (List.mem_of_getElem? (i := 222) rfl) rfl
theorem kw_398 : Cond.instanceMethod yX2_append ∈ AW := aw_t2 (List.mem_of_getElem? (i := 223) rfl) rfl
theorem kw_399 : Cond.selects RX2 yX2_append yX2_append ∈ AW := aw_t2 (List.mem_of_getElem? (i := 224) rfl) rfl
theorem kw_400 : Cond.code yX2_append cX2_append 5 (Option.none : Option Jvm.ClassFile.FieldType) ∈ AW := aw_t2 (List.mem_of_getElem? (i := 225) rfl) rfl
theorem kw_401 : Cond.constantLong RX2 19 (255) ∈ AW := aw_t2 (List.mem_of_getElem? (i := 226) rfl) rfl
theorem kw_402 : Cond.methodLink RL 92 yX4_wipe ∈ AW := aw_t2 (List.mem_of_getElem? (i := 227) rfl) rfl
theorem kw_403 : Cond.instanceMethod yX4_wipe ∈ AW := aw_t2 (List.mem_of_getElem? (i := 228) rfl) rfl
theorem kw_404 : Cond.selects RX4 yX4_wipe yX4_wipe ∈ AW := aw_t2 (List.mem_of_getElem? (i := 229) rfl) rfl
theorem kw_405 : Cond.code yX4_wipe cX4_wipe 2 (Option.some Jvm.ClassFile.FieldType.int) ∈ AW := aw_t2 (List.mem_of_getElem? (i := 230) rfl) rfl
theorem kw_406 : Cond.methodLink RL 97 yX4_fault ∈ AW := aw_t2 (List.mem_of_getElem? (i := 231) rfl) rfl
theorem kw_407 : Cond.instanceMethod yX4_fault ∈ AW := aw_t2 (List.mem_of_getElem? (i := 232) rfl) rfl
theorem kw_408 : Cond.selects RX4 yX4_fault yX4_fault ∈ AW := aw_t2 (List.mem_of_getElem? (i := 233) rfl) rfl
theorem kw_409 : Cond.code yX4_fault cX4_fault 1 (Option.some Jvm.ClassFile.FieldType.int) ∈ AW := aw_t2 (List.mem_of_getElem? (i := 234) rfl) rfl
theorem kw_410 : Cond.methodLink RX4 218 yX2_firstFault ∈ AW := aw_t2 (List.mem_of_getElem? (i := 235) rfl) rfl
theorem kw_411 : Cond.instanceMethod yX2_firstFault ∈ AW := aw_t2 (List.mem_of_getElem? (i := 236) rfl) rfl
theorem kw_412 : Cond.selects RX2 yX2_firstFault yX2_firstFault ∈ AW := aw_t2 (List.mem_of_getElem? (i := 237) rfl) rfl
theorem kw_413 : Cond.code yX2_firstFault cX2_firstFault 2 (Option.some Jvm.ClassFile.FieldType.int) ∈ AW := aw_t2 (List.mem_of_getElem? (i := 238) rfl) rfl
theorem kw_414 : Cond.methodLink RX2 21 yX2_begin ∈ AW := aw_t2 (List.mem_of_getElem? (i := 239) rfl) rfl
theorem kw_415 : Cond.instanceMethod yX2_begin ∈ AW := aw_t3 (List.mem_of_getElem? (i := 0) rfl) rfl
theorem kw_416 : Cond.selects RX2 yX2_begin yX2_begin ∈ AW := aw_t3 (List.mem_of_getElem? (i := 1) rfl) rfl
theorem kw_417 : Cond.code yX2_begin cX2_begin 1 (Option.none : Option Jvm.ClassFile.FieldType) ∈ AW := aw_t3 (List.mem_of_getElem? (i := 2) rfl) rfl
theorem kw_418 : Cond.methodLink RX2 24 yX2_readNext ∈ AW := aw_t3 (List.mem_of_getElem? (i := 3) rfl) rfl
theorem kw_419 : Cond.instanceMethod yX2_readNext ∈ AW := aw_t3 (List.mem_of_getElem? (i := 4) rfl) rfl
theorem kw_420 : Cond.selects RX2 yX2_readNext yX2_readNext ∈ AW := aw_t3 (List.mem_of_getElem? (i := 5) rfl) rfl
theorem kw_421 : Cond.code yX2_readNext cX2_readNext 1 (Option.some Jvm.ClassFile.FieldType.boolean) ∈ AW := aw_t3 (List.mem_of_getElem? (i := 6) rfl) rfl
theorem kw_422 : Cond.methodLink RX2 31 yX2_readSign ∈ AW := aw_t3 (List.mem_of_getElem? (i := 7) rfl) rfl
theorem kw_423 : Cond.instanceMethod yX2_readSign ∈ AW := aw_t3 (List.mem_of_getElem? (i := 9) rfl) rfl
theorem kw_424 : Cond.code yX2_readSign cX2_readSign 2 (Option.some Jvm.ClassFile.FieldType.boolean) ∈ AW := aw_t3 (List.mem_of_getElem? (i := 10) rfl) rfl
theorem kw_425 : Cond.methodLink RX2 38 yX2_signHere ∈ AW := aw_t3 (List.mem_of_getElem? (i := 11) rfl) rfl
theorem kw_426 : Cond.instanceMethod yX2_signHere ∈ AW := aw_t3 (List.mem_of_getElem? (i := 13) rfl) rfl
theorem kw_427 : Cond.code yX2_signHere cX2_signHere 1 (Option.some Jvm.ClassFile.FieldType.char) ∈ AW := aw_t3 (List.mem_of_getElem? (i := 14) rfl) rfl
theorem kw_428 : Cond.methodLink RX2 35 yX2_readOrder ∈ AW := aw_t3 (List.mem_of_getElem? (i := 15) rfl) rfl
theorem kw_429 : Cond.instanceMethod yX2_readOrder ∈ AW := aw_t3 (List.mem_of_getElem? (i := 17) rfl) rfl
theorem kw_430 : Cond.code yX2_readOrder cX2_readOrder 1 (Option.some Jvm.ClassFile.FieldType.boolean) ∈ AW := aw_t3 (List.mem_of_getElem? (i := 18) rfl) rfl
theorem kw_431 : Cond.methodLink RX2 46 yX2_readKindAndDrive ∈ AW := aw_t3 (List.mem_of_getElem? (i := 19) rfl) rfl
theorem kw_432 : Cond.instanceMethod yX2_readKindAndDrive ∈ AW := aw_t3 (List.mem_of_getElem? (i := 21) rfl) rfl
theorem kw_433 : Cond.code yX2_readKindAndDrive cX2_readKindAndDrive 1 (Option.some Jvm.ClassFile.FieldType.boolean) ∈ AW := aw_t3 (List.mem_of_getElem? (i := 22) rfl) rfl
theorem kw_434 : Cond.methodLink RX2 49 yX2_readFirst ∈ AW := aw_t3 (List.mem_of_getElem? (i := 24) rfl) rfl
theorem kw_435 : Cond.instanceMethod yX2_readFirst ∈ AW := aw_t3 (List.mem_of_getElem? (i := 26) rfl) rfl
theorem kw_436 : Cond.code yX2_readFirst cX2_readFirst 1 (Option.some Jvm.ClassFile.FieldType.boolean) ∈ AW := aw_t3 (List.mem_of_getElem? (i := 27) rfl) rfl
theorem kw_437 : Cond.methodLink RX2 62 yX2_readNumber ∈ AW := aw_t3 (List.mem_of_getElem? (i := 28) rfl) rfl
theorem kw_438 : Cond.instanceMethod yX2_readNumber ∈ AW := aw_t3 (List.mem_of_getElem? (i := 30) rfl) rfl
theorem kw_439 : Cond.code yX2_readNumber cX2_readNumber 4 (Option.some Jvm.ClassFile.FieldType.int) ∈ AW := aw_t3 (List.mem_of_getElem? (i := 31) rfl) rfl
theorem kw_440 : Cond.methodLink RX2 72 yX2_isDigit ∈ AW := aw_t3 (List.mem_of_getElem? (i := 32) rfl) rfl
theorem kw_441 : Cond.static yX2_isDigit ∈ AW := aw_t3 (List.mem_of_getElem? (i := 33) rfl) rfl
theorem kw_442 : Cond.code yX2_isDigit cX2_isDigit 1 (Option.some Jvm.ClassFile.FieldType.boolean) ∈ AW := aw_t3 (List.mem_of_getElem? (i := 34) rfl) rfl
theorem kw_443 : Cond.methodLink RX2 52 yX2_readSecond ∈ AW := aw_t3 (List.mem_of_getElem? (i := 35) rfl) rfl
theorem kw_444 : Cond.instanceMethod yX2_readSecond ∈ AW := aw_t3 (List.mem_of_getElem? (i := 37) rfl) rfl
theorem kw_445 : Cond.code yX2_readSecond cX2_readSecond 1 (Option.some Jvm.ClassFile.FieldType.boolean) ∈ AW := aw_t3 (List.mem_of_getElem? (i := 38) rfl) rfl
theorem kw_446 : Cond.methodLink RL 101 yX4_carryOut ∈ AW := aw_t3 (List.mem_of_getElem? (i := 39) rfl) rfl
theorem kw_447 : Cond.instanceMethod yX4_carryOut ∈ AW := aw_t3 (List.mem_of_getElem? (i := 40) rfl) rfl
theorem kw_448 : Cond.selects RX4 yX4_carryOut yX4_carryOut ∈ AW := aw_t3 (List.mem_of_getElem? (i := 41) rfl) rfl
theorem kw_449 : Cond.code yX4_carryOut cX4_carryOut 2 (Option.some Jvm.ClassFile.FieldType.int) ∈ AW := aw_t3 (List.mem_of_getElem? (i := 42) rfl) rfl
theorem kw_450 : Cond.methodLink RX4 224 yX2_begin ∈ AW := aw_t3 (List.mem_of_getElem? (i := 43) rfl) rfl
theorem kw_451 : Cond.methodLink RX4 227 yX2_readNext ∈ AW := aw_t3 (List.mem_of_getElem? (i := 44) rfl) rfl
theorem kw_452 : Cond.methodLink RX4 230 yX4_carryOutOrder ∈ AW := aw_t3 (List.mem_of_getElem? (i := 45) rfl) rfl
theorem kw_453 : Cond.instanceMethod yX4_carryOutOrder ∈ AW := aw_t3 (List.mem_of_getElem? (i := 47) rfl) rfl
theorem kw_454 : Cond.code yX4_carryOutOrder cX4_carryOutOrder 1 (Option.some Jvm.ClassFile.FieldType.int) ∈ AW := aw_t3 (List.mem_of_getElem? (i := 48) rfl) rfl
theorem kw_455 : Cond.methodLink RL 105 yX4_undo ∈ AW := aw_t3 (List.mem_of_getElem? (i := 49) rfl) rfl
theorem kw_456 : Cond.instanceMethod yX4_undo ∈ AW := aw_t3 (List.mem_of_getElem? (i := 50) rfl) rfl
theorem kw_457 : Cond.selects RX4 yX4_undo yX4_undo ∈ AW := aw_t3 (List.mem_of_getElem? (i := 51) rfl) rfl
theorem kw_458 : Cond.code yX4_undo cX4_undo 1 (Option.some Jvm.ClassFile.FieldType.int) ∈ AW := aw_t3 (List.mem_of_getElem? (i := 52) rfl) rfl
theorem kw_459 : Cond.methodLink RX4 233 yX1_bringBackLatest ∈ AW := aw_t3 (List.mem_of_getElem? (i := 53) rfl) rfl
theorem kw_460 : Cond.instanceMethod yX1_bringBackLatest ∈ AW := aw_t3 (List.mem_of_getElem? (i := 54) rfl) rfl
theorem kw_461 : Cond.selects RX1 yX1_bringBackLatest yX1_bringBackLatest ∈ AW := aw_t3 (List.mem_of_getElem? (i := 55) rfl) rfl
theorem kw_462 : Cond.code yX1_bringBackLatest cX1_bringBackLatest 2 (Option.none : Option Jvm.ClassFile.FieldType) ∈ AW := aw_t3 (List.mem_of_getElem? (i := 56) rfl) rfl
theorem kw_463 : Cond.methodLink RL 109 yX4_save ∈ AW := aw_t3 (List.mem_of_getElem? (i := 57) rfl) rfl
theorem kw_464 : Cond.instanceMethod yX4_save ∈ AW := aw_t3 (List.mem_of_getElem? (i := 58) rfl) rfl
theorem kw_465 : Cond.selects RX4 yX4_save yX4_save ∈ AW := aw_t3 (List.mem_of_getElem? (i := 59) rfl) rfl
theorem kw_466 : Cond.code yX4_save cX4_save 2 (Option.some Jvm.ClassFile.FieldType.int) ∈ AW := aw_t3 (List.mem_of_getElem? (i := 60) rfl) rfl
theorem kw_467 : Cond.methodLink RX4 236 yX4_isSlot ∈ AW := aw_t3 (List.mem_of_getElem? (i := 61) rfl) rfl
theorem kw_468 : Cond.static yX4_isSlot ∈ AW := aw_t3 (List.mem_of_getElem? (i := 62) rfl) rfl
theorem kw_469 : Cond.code yX4_isSlot cX4_isSlot 1 (Option.some Jvm.ClassFile.FieldType.boolean) ∈ AW := aw_t3 (List.mem_of_getElem? (i := 63) rfl) rfl
theorem kw_470 : Cond.methodLink RL 113 yX4_restore ∈ AW := aw_t3 (List.mem_of_getElem? (i := 64) rfl) rfl
theorem kw_471 : Cond.instanceMethod yX4_restore ∈ AW := aw_t3 (List.mem_of_getElem? (i := 65) rfl) rfl
theorem kw_472 : Cond.selects RX4 yX4_restore yX4_restore ∈ AW := aw_t3 (List.mem_of_getElem? (i := 66) rfl) rfl
theorem kw_473 : Cond.code yX4_restore cX4_restore 2 (Option.some Jvm.ClassFile.FieldType.int) ∈ AW := aw_t3 (List.mem_of_getElem? (i := 67) rfl) rfl
theorem kw_474 : Cond.classLink RL 10 RX5 ∈ AW := aw_t3 (List.mem_of_getElem? (i := 68) rfl) rfl
theorem kw_475 : Cond.instantiable RX5 11 ∈ AW := aw_t3 (List.mem_of_getElem? (i := 69) rfl) rfl
theorem kw_476 : Cond.methodLink RL 12 yX5_init ∈ AW := aw_t3 (List.mem_of_getElem? (i := 70) rfl) rfl
theorem kw_477 : Cond.instanceMethod yX5_init ∈ AW := aw_t3 (List.mem_of_getElem? (i := 71) rfl) rfl
theorem kw_478 : Cond.code yX5_init cX5_init 2 (Option.none : Option Jvm.ClassFile.FieldType) ∈ AW := aw_t3 (List.mem_of_getElem? (i := 72) rfl) rfl
theorem kw_479 : Cond.methodLink RX5 1 objectInit ∈ AW := aw_t3 (List.mem_of_getElem? (i := 73) rfl) rfl
theorem kw_480 : Cond.constantLong RX5 33 (60) ∈ AW := aw_t3 (List.mem_of_getElem? (i := 74) rfl) rfl
theorem kw_481 : Cond.constantLong RX5 35 (5) ∈ AW := aw_t3 (List.mem_of_getElem? (i := 75) rfl) rfl
theorem kw_482 : Cond.constantLong RX5 37 (2) ∈ AW := aw_t3 (List.mem_of_getElem? (i := 76) rfl) rfl
theorem kw_483 : Cond.constantLong RX5 39 (20) ∈ AW := aw_t3 (List.mem_of_getElem? (i := 77) rfl) rfl
theorem kw_484 : Cond.constantLong RX5 41 (50) ∈ AW := aw_t3 (List.mem_of_getElem? (i := 78) rfl) rfl
theorem kw_485 : Cond.constantLong RX5 43 (4) ∈ AW := aw_t3 (List.mem_of_getElem? (i := 79) rfl) rfl
theorem kw_486 : Cond.methodLink RX5 45 yX5_row ∈ AW := aw_t3 (List.mem_of_getElem? (i := 80) rfl) rfl
theorem kw_487 : Cond.static yX5_row ∈ AW := aw_t3 (List.mem_of_getElem? (i := 81) rfl) rfl
theorem kw_488 : Cond.code yX5_row cX5_row 1 (Option.some Jvm.ClassFile.FieldType.int) ∈ AW := aw_t3 (List.mem_of_getElem? (i := 82) rfl) rfl
theorem kw_489 : Cond.fieldLink RX5 7 "SilentDrivesModel" "now" "[J" ∈ AW := aw_t3 (List.mem_of_getElem? (i := 83) rfl) rfl
theorem kw_490 : Cond.fieldLink RX5 13 "SilentDrivesModel" "then" "[J" ∈ AW := aw_t3 (List.mem_of_getElem? (i := 84) rfl) rfl
theorem kw_491 : Cond.fieldLink RX5 16 "SilentDrivesModel" "past" "[J" ∈ AW := aw_t3 (List.mem_of_getElem? (i := 85) rfl) rfl
theorem kw_492 : Cond.fieldLink RX5 57 "SilentDrivesModel" "kept" "I" ∈ AW := aw_t3 (List.mem_of_getElem? (i := 86) rfl) rfl
theorem kw_493 : Cond.fieldLink RX5 19 "SilentDrivesModel" "slots" "[J" ∈ AW := aw_t3 (List.mem_of_getElem? (i := 87) rfl) rfl
theorem kw_494 : Cond.fieldLink RX5 22 "SilentDrivesModel" "held" "[Z" ∈ AW := aw_t3 (List.mem_of_getElem? (i := 88) rfl) rfl
theorem kw_495 : Cond.fieldLink RX5 26 "SilentDrivesModel" "pad" "[I" ∈ AW := aw_t3 (List.mem_of_getElem? (i := 89) rfl) rfl
theorem kw_496 : Cond.fieldLink RX5 173 "SilentDrivesModel" "padded" "I" ∈ AW := aw_t3 (List.mem_of_getElem? (i := 90) rfl) rfl
theorem kw_497 : Cond.fieldLink RX5 211 "SilentDrivesModel" "at" "I" ∈ AW := aw_t3 (List.mem_of_getElem? (i := 91) rfl) rfl
theorem kw_498 : Cond.fieldLink RX5 30 "SilentDrivesModel" "orders" "[I" ∈ AW := aw_t3 (List.mem_of_getElem? (i := 92) rfl) rfl
theorem kw_499 : Cond.fieldLink RX5 217 "SilentDrivesModel" "ordered" "I" ∈ AW := aw_t3 (List.mem_of_getElem? (i := 93) rfl) rfl
theorem kw_500 : Cond.laysFinal "SilentDrivesModel" "SilentDrivesModel" "now" "[J" ∈ AW := aw_t3 (List.mem_of_getElem? (i := 94) rfl) rfl
theorem kw_501 : Cond.laysFinal "SilentDrivesModel" "SilentDrivesModel" "then" "[J" ∈ AW := aw_t3 (List.mem_of_getElem? (i := 96) rfl) rfl
theorem kw_502 : Cond.laysFinal "SilentDrivesModel" "SilentDrivesModel" "past" "[J" ∈ AW := aw_t3 (List.mem_of_getElem? (i := 98) rfl) rfl
theorem kw_503 : Cond.lays "SilentDrivesModel" "SilentDrivesModel" "kept" "I" ∈ AW := aw_t3 (List.mem_of_getElem? (i := 100) rfl) rfl
theorem kw_504 : Cond.laysFinal "SilentDrivesModel" "SilentDrivesModel" "slots" "[J" ∈ AW := aw_t3 (List.mem_of_getElem? (i := 102) rfl) rfl
theorem kw_505 : Cond.laysFinal "SilentDrivesModel" "SilentDrivesModel" "held" "[Z" ∈ AW := aw_t3 (List.mem_of_getElem? (i := 104) rfl) rfl
theorem kw_506 : Cond.laysFinal "SilentDrivesModel" "SilentDrivesModel" "pad" "[I" ∈ AW := aw_t3 (List.mem_of_getElem? (i := 106) rfl) rfl
theorem kw_507 : Cond.lays "SilentDrivesModel" "SilentDrivesModel" "padded" "I" ∈ AW := aw_t3 (List.mem_of_getElem? (i := 108) rfl) rfl
theorem kw_508 : Cond.lays "SilentDrivesModel" "SilentDrivesModel" "at" "I" ∈ AW := aw_t3 (List.mem_of_getElem? (i := 110) rfl) rfl
theorem kw_509 : Cond.laysFinal "SilentDrivesModel" "SilentDrivesModel" "orders" "[I" ∈ AW := aw_t3 (List.mem_of_getElem? (i := 112) rfl) rfl
theorem kw_510 : Cond.lays "SilentDrivesModel" "SilentDrivesModel" "ordered" "I" ∈ AW := aw_t3 (List.mem_of_getElem? (i := 114) rfl) rfl
theorem kw_511 : Cond.arrayClass Jvm.ClassFile.FieldType.long ∈ AW := aw_t3 (List.mem_of_getElem? (i := 117) rfl) rfl
theorem kw_512 : Cond.methodLink RL 108 yX5_undo ∈ AW := aw_t3 (List.mem_of_getElem? (i := 118) rfl) rfl
theorem kw_513 : Cond.instanceMethod yX5_undo ∈ AW := aw_t3 (List.mem_of_getElem? (i := 119) rfl) rfl
theorem kw_514 : Cond.selects RX5 yX5_undo yX5_undo ∈ AW := aw_t3 (List.mem_of_getElem? (i := 120) rfl) rfl
theorem kw_515 : Cond.code yX5_undo cX5_undo 1 (Option.some Jvm.ClassFile.FieldType.int) ∈ AW := aw_t3 (List.mem_of_getElem? (i := 121) rfl) rfl
theorem kw_516 : Cond.methodLink RX5 61 yX5_lays ∈ AW := aw_t3 (List.mem_of_getElem? (i := 122) rfl) rfl
theorem kw_517 : Cond.static yX5_lays ∈ AW := aw_t3 (List.mem_of_getElem? (i := 123) rfl) rfl
theorem kw_518 : Cond.code yX5_lays cX5_lays 5 (Option.none : Option Jvm.ClassFile.FieldType) ∈ AW := aw_t3 (List.mem_of_getElem? (i := 124) rfl) rfl
theorem kw_519 : Cond.methodLink RL 112 yX5_save ∈ AW := aw_t3 (List.mem_of_getElem? (i := 125) rfl) rfl
theorem kw_520 : Cond.instanceMethod yX5_save ∈ AW := aw_t3 (List.mem_of_getElem? (i := 126) rfl) rfl
theorem kw_521 : Cond.selects RX5 yX5_save yX5_save ∈ AW := aw_t3 (List.mem_of_getElem? (i := 127) rfl) rfl
theorem kw_522 : Cond.code yX5_save cX5_save 2 (Option.some Jvm.ClassFile.FieldType.int) ∈ AW := aw_t3 (List.mem_of_getElem? (i := 128) rfl) rfl
theorem kw_523 : Cond.methodLink RX5 51 yX5_in ∈ AW := aw_t3 (List.mem_of_getElem? (i := 129) rfl) rfl
theorem kw_524 : Cond.static yX5_in ∈ AW := aw_t3 (List.mem_of_getElem? (i := 130) rfl) rfl
theorem kw_525 : Cond.code yX5_in cX5_in 6 (Option.some Jvm.ClassFile.FieldType.boolean) ∈ AW := aw_t3 (List.mem_of_getElem? (i := 131) rfl) rfl
theorem kw_526 : Cond.methodLink RL 116 yX5_restore ∈ AW := aw_t3 (List.mem_of_getElem? (i := 132) rfl) rfl
theorem kw_527 : Cond.instanceMethod yX5_restore ∈ AW := aw_t3 (List.mem_of_getElem? (i := 133) rfl) rfl
theorem kw_528 : Cond.selects RX5 yX5_restore yX5_restore ∈ AW := aw_t3 (List.mem_of_getElem? (i := 134) rfl) rfl
theorem kw_529 : Cond.code yX5_restore cX5_restore 2 (Option.some Jvm.ClassFile.FieldType.int) ∈ AW := aw_t3 (List.mem_of_getElem? (i := 135) rfl) rfl
theorem kw_530 : Cond.methodLink RX5 65 yX5_records ∈ AW := aw_t3 (List.mem_of_getElem? (i := 136) rfl) rfl
theorem kw_531 : Cond.instanceMethod yX5_records ∈ AW := aw_t3 (List.mem_of_getElem? (i := 138) rfl) rfl
theorem kw_532 : Cond.code yX5_records cX5_records 2 (Option.none : Option Jvm.ClassFile.FieldType) ∈ AW := aw_t3 (List.mem_of_getElem? (i := 139) rfl) rfl
theorem kw_533 : Cond.methodLink RL 17 yX5_set ∈ AW := aw_t3 (List.mem_of_getElem? (i := 140) rfl) rfl
theorem kw_534 : Cond.instanceMethod yX5_set ∈ AW := aw_t3 (List.mem_of_getElem? (i := 141) rfl) rfl
theorem kw_535 : Cond.selects RX5 yX5_set yX5_set ∈ AW := aw_t3 (List.mem_of_getElem? (i := 142) rfl) rfl
theorem kw_536 : Cond.code yX5_set cX5_set 4 (Option.some Jvm.ClassFile.FieldType.int) ∈ AW := aw_t3 (List.mem_of_getElem? (i := 143) rfl) rfl
theorem kw_537 : Cond.constantLong RX5 101 (6) ∈ AW := aw_t3 (List.mem_of_getElem? (i := 144) rfl) rfl
theorem kw_538 : Cond.methodLink RX5 103 yX5_isFor ∈ AW := aw_t3 (List.mem_of_getElem? (i := 145) rfl) rfl
theorem kw_539 : Cond.static yX5_isFor ∈ AW := aw_t3 (List.mem_of_getElem? (i := 146) rfl) rfl
theorem kw_540 : Cond.code yX5_isFor cX5_isFor 2 (Option.some Jvm.ClassFile.FieldType.boolean) ∈ AW := aw_t3 (List.mem_of_getElem? (i := 147) rfl) rfl
theorem kw_541 : Cond.constantLong RX5 97 (999) ∈ AW := aw_t3 (List.mem_of_getElem? (i := 148) rfl) rfl
theorem kw_542 : Cond.constantLong RX5 55 (99) ∈ AW := aw_t3 (List.mem_of_getElem? (i := 149) rfl) rfl
theorem kw_543 : Cond.constantLong RX5 99 (9) ∈ AW := aw_t3 (List.mem_of_getElem? (i := 150) rfl) rfl
theorem kw_544 : Cond.methodLink RL 22 yX5_stream ∈ AW := aw_t3 (List.mem_of_getElem? (i := 151) rfl) rfl
theorem kw_545 : Cond.instanceMethod yX5_stream ∈ AW := aw_t3 (List.mem_of_getElem? (i := 152) rfl) rfl
theorem kw_546 : Cond.selects RX5 yX5_stream yX5_stream ∈ AW := aw_t3 (List.mem_of_getElem? (i := 153) rfl) rfl
theorem kw_547 : Cond.code yX5_stream cX5_stream 5 (Option.some Jvm.ClassFile.FieldType.int) ∈ AW := aw_t3 (List.mem_of_getElem? (i := 154) rfl) rfl
theorem kw_548 : Cond.methodLink RX5 111 yX5_mayStream ∈ AW := aw_t3 (List.mem_of_getElem? (i := 155) rfl) rfl
theorem kw_549 : Cond.instanceMethod yX5_mayStream ∈ AW := aw_t3 (List.mem_of_getElem? (i := 157) rfl) rfl
theorem kw_550 : Cond.code yX5_mayStream cX5_mayStream 4 (Option.some Jvm.ClassFile.FieldType.int) ∈ AW := aw_t3 (List.mem_of_getElem? (i := 158) rfl) rfl
theorem kw_551 : Cond.methodLink RX5 107 yX5_isDrive ∈ AW := aw_t3 (List.mem_of_getElem? (i := 159) rfl) rfl
theorem kw_552 : Cond.static yX5_isDrive ∈ AW := aw_t3 (List.mem_of_getElem? (i := 160) rfl) rfl
theorem kw_553 : Cond.code yX5_isDrive cX5_isDrive 1 (Option.some Jvm.ClassFile.FieldType.boolean) ∈ AW := aw_t3 (List.mem_of_getElem? (i := 161) rfl) rfl
theorem kw_554 : Cond.constantLong RX5 49 (3) ∈ AW := aw_t3 (List.mem_of_getElem? (i := 162) rfl) rfl
theorem kw_555 : Cond.methodLink RX5 115 yX5_streams ∈ AW := aw_t3 (List.mem_of_getElem? (i := 163) rfl) rfl
theorem kw_556 : Cond.instanceMethod yX5_streams ∈ AW := aw_t3 (List.mem_of_getElem? (i := 165) rfl) rfl
theorem kw_557 : Cond.code yX5_streams cX5_streams 5 (Option.some Jvm.ClassFile.FieldType.int) ∈ AW := aw_t3 (List.mem_of_getElem? (i := 166) rfl) rfl
theorem kw_558 : Cond.methodLink RL 26 yX5_write ∈ AW := aw_t3 (List.mem_of_getElem? (i := 167) rfl) rfl
theorem kw_559 : Cond.instanceMethod yX5_write ∈ AW := aw_t3 (List.mem_of_getElem? (i := 168) rfl) rfl
theorem kw_560 : Cond.selects RX5 yX5_write yX5_write ∈ AW := aw_t3 (List.mem_of_getElem? (i := 169) rfl) rfl
theorem kw_561 : Cond.code yX5_write cX5_write 4 (Option.some Jvm.ClassFile.FieldType.int) ∈ AW := aw_t3 (List.mem_of_getElem? (i := 170) rfl) rfl
theorem kw_562 : Cond.methodLink RX5 122 yX5_mayWrite ∈ AW := aw_t3 (List.mem_of_getElem? (i := 171) rfl) rfl
theorem kw_563 : Cond.instanceMethod yX5_mayWrite ∈ AW := aw_t3 (List.mem_of_getElem? (i := 173) rfl) rfl
theorem kw_564 : Cond.code yX5_mayWrite cX5_mayWrite 3 (Option.some Jvm.ClassFile.FieldType.int) ∈ AW := aw_t3 (List.mem_of_getElem? (i := 174) rfl) rfl
theorem kw_565 : Cond.constantLong RX5 118 (200) ∈ AW := aw_t3 (List.mem_of_getElem? (i := 175) rfl) rfl
theorem kw_566 : Cond.constantLong RX5 120 (9999) ∈ AW := aw_t3 (List.mem_of_getElem? (i := 176) rfl) rfl
theorem kw_567 : Cond.methodLink RX5 126 yX5_comes ∈ AW := aw_t3 (List.mem_of_getElem? (i := 177) rfl) rfl
theorem kw_568 : Cond.instanceMethod yX5_comes ∈ AW := aw_t3 (List.mem_of_getElem? (i := 179) rfl) rfl
theorem kw_569 : Cond.code yX5_comes cX5_comes 3 (Option.some Jvm.ClassFile.FieldType.int) ∈ AW := aw_t3 (List.mem_of_getElem? (i := 180) rfl) rfl
theorem kw_570 : Cond.methodLink RL 30 yX5_sell ∈ AW := aw_t3 (List.mem_of_getElem? (i := 181) rfl) rfl
theorem kw_571 : Cond.instanceMethod yX5_sell ∈ AW := aw_t3 (List.mem_of_getElem? (i := 182) rfl) rfl
theorem kw_572 : Cond.selects RX5 yX5_sell yX5_sell ∈ AW := aw_t3 (List.mem_of_getElem? (i := 183) rfl) rfl
theorem kw_573 : Cond.code yX5_sell cX5_sell 4 (Option.some Jvm.ClassFile.FieldType.int) ∈ AW := aw_t3 (List.mem_of_getElem? (i := 184) rfl) rfl
theorem kw_574 : Cond.methodLink RX5 135 yX5_mayTrade ∈ AW := aw_t3 (List.mem_of_getElem? (i := 185) rfl) rfl
theorem kw_575 : Cond.instanceMethod yX5_mayTrade ∈ AW := aw_t3 (List.mem_of_getElem? (i := 187) rfl) rfl
theorem kw_576 : Cond.code yX5_mayTrade cX5_mayTrade 5 (Option.some Jvm.ClassFile.FieldType.int) ∈ AW := aw_t3 (List.mem_of_getElem? (i := 188) rfl) rfl
theorem kw_577 : Cond.methodLink RX5 129 yX5_isHour ∈ AW := aw_t3 (List.mem_of_getElem? (i := 189) rfl) rfl
theorem kw_578 : Cond.static yX5_isHour ∈ AW := aw_t3 (List.mem_of_getElem? (i := 190) rfl) rfl
theorem kw_579 : Cond.code yX5_isHour cX5_isHour 1 (Option.some Jvm.ClassFile.FieldType.boolean) ∈ AW := aw_t3 (List.mem_of_getElem? (i := 191) rfl) rfl
theorem kw_580 : Cond.methodLink RX5 70 yX5_hourOf ∈ AW := aw_t3 (List.mem_of_getElem? (i := 192) rfl) rfl
theorem kw_581 : Cond.static yX5_hourOf ∈ AW := aw_t3 (List.mem_of_getElem? (i := 193) rfl) rfl
theorem kw_582 : Cond.code yX5_hourOf cX5_hourOf 4 (Option.some Jvm.ClassFile.FieldType.int) ∈ AW := aw_t3 (List.mem_of_getElem? (i := 194) rfl) rfl
theorem kw_583 : Cond.constantLong RX5 68 (100) ∈ AW := aw_t3 (List.mem_of_getElem? (i := 195) rfl) rfl
theorem kw_584 : Cond.methodLink RX5 139 yX5_trades ∈ AW := aw_t3 (List.mem_of_getElem? (i := 196) rfl) rfl
theorem kw_585 : Cond.instanceMethod yX5_trades ∈ AW := aw_t3 (List.mem_of_getElem? (i := 198) rfl) rfl
theorem kw_586 : Cond.code yX5_trades cX5_trades 4 (Option.some Jvm.ClassFile.FieldType.int) ∈ AW := aw_t3 (List.mem_of_getElem? (i := 199) rfl) rfl
theorem kw_587 : Cond.methodLink RX5 132 yX5_hoursOf ∈ AW := aw_t3 (List.mem_of_getElem? (i := 200) rfl) rfl
theorem kw_588 : Cond.instanceMethod yX5_hoursOf ∈ AW := aw_t3 (List.mem_of_getElem? (i := 202) rfl) rfl
theorem kw_589 : Cond.code yX5_hoursOf cX5_hoursOf 6 (Option.some Jvm.ClassFile.FieldType.int) ∈ AW := aw_t3 (List.mem_of_getElem? (i := 203) rfl) rfl
theorem kw_590 : Cond.methodLink RL 34 yX5_giveBack ∈ AW := aw_t3 (List.mem_of_getElem? (i := 204) rfl) rfl
theorem kw_591 : Cond.instanceMethod yX5_giveBack ∈ AW := aw_t3 (List.mem_of_getElem? (i := 205) rfl) rfl
theorem kw_592 : Cond.selects RX5 yX5_giveBack yX5_giveBack ∈ AW := aw_t3 (List.mem_of_getElem? (i := 206) rfl) rfl
theorem kw_593 : Cond.code yX5_giveBack cX5_giveBack 4 (Option.some Jvm.ClassFile.FieldType.int) ∈ AW := aw_t3 (List.mem_of_getElem? (i := 207) rfl) rfl
theorem kw_594 : Cond.methodLink RL 39 yX5_pass ∈ AW := aw_t3 (List.mem_of_getElem? (i := 208) rfl) rfl
theorem kw_595 : Cond.instanceMethod yX5_pass ∈ AW := aw_t3 (List.mem_of_getElem? (i := 209) rfl) rfl
theorem kw_596 : Cond.selects RX5 yX5_pass yX5_pass ∈ AW := aw_t3 (List.mem_of_getElem? (i := 210) rfl) rfl
theorem kw_597 : Cond.code yX5_pass cX5_pass 2 (Option.some Jvm.ClassFile.FieldType.int) ∈ AW := aw_t3 (List.mem_of_getElem? (i := 211) rfl) rfl
theorem kw_598 : Cond.methodLink RX5 148 yX5_areMinutes ∈ AW := aw_t3 (List.mem_of_getElem? (i := 212) rfl) rfl
theorem kw_599 : Cond.static yX5_areMinutes ∈ AW := aw_t3 (List.mem_of_getElem? (i := 213) rfl) rfl
theorem kw_600 : Cond.code yX5_areMinutes cX5_areMinutes 1 (Option.some Jvm.ClassFile.FieldType.boolean) ∈ AW := aw_t3 (List.mem_of_getElem? (i := 214) rfl) rfl
theorem kw_601 : Cond.constantLong RX5 142 (600) ∈ AW := aw_t3 (List.mem_of_getElem? (i := 215) rfl) rfl
theorem kw_602 : Cond.methodLink RX5 151 yX5_passes ∈ AW := aw_t3 (List.mem_of_getElem? (i := 216) rfl) rfl
theorem kw_603 : Cond.instanceMethod yX5_passes ∈ AW := aw_t3 (List.mem_of_getElem? (i := 218) rfl) rfl
theorem kw_604 : Cond.code yX5_passes cX5_passes 3 (Option.none : Option Jvm.ClassFile.FieldType) ∈ AW := aw_t3 (List.mem_of_getElem? (i := 219) rfl) rfl
theorem kw_605 : Cond.methodLink RX5 144 yX5_passesOne ∈ AW := aw_t3 (List.mem_of_getElem? (i := 220) rfl) rfl
theorem kw_606 : Cond.static yX5_passesOne ∈ AW := aw_t3 (List.mem_of_getElem? (i := 221) rfl) rfl
theorem kw_607 : Cond.code yX5_passesOne cX5_passesOne 4 (Option.none : Option Jvm.ClassFile.FieldType) ∈ AW := aw_t3 (List.mem_of_getElem? (i := 222) rfl) rfl
theorem kw_608 : Cond.methodLink RX5 86 yX5_turns ∈ AW := aw_t3 (List.mem_of_getElem? (i := 223) rfl) rfl
theorem kw_609 : Cond.static yX5_turns ∈ AW := aw_t3 (List.mem_of_getElem? (i := 224) rfl) rfl
theorem kw_610 : Cond.code yX5_turns cX5_turns 4 (Option.none : Option Jvm.ClassFile.FieldType) ∈ AW := aw_t3 (List.mem_of_getElem? (i := 225) rfl) rfl
theorem kw_611 : Cond.methodLink RX5 82 yX5_isQuiet ∈ AW := aw_t3 (List.mem_of_getElem? (i := 226) rfl) rfl
theorem kw_612 : Cond.static yX5_isQuiet ∈ AW := aw_t3 (List.mem_of_getElem? (i := 227) rfl) rfl
theorem kw_613 : Cond.code yX5_isQuiet cX5_isQuiet 2 (Option.some Jvm.ClassFile.FieldType.boolean) ∈ AW := aw_t3 (List.mem_of_getElem? (i := 228) rfl) rfl
theorem kw_614 : Cond.methodLink RX5 90 yX5_writes ∈ AW := aw_t3 (List.mem_of_getElem? (i := 229) rfl) rfl
theorem kw_615 : Cond.static yX5_writes ∈ AW := aw_t3 (List.mem_of_getElem? (i := 230) rfl) rfl
theorem kw_616 : Cond.code yX5_writes cX5_writes 11 (Option.none : Option Jvm.ClassFile.FieldType) ∈ AW := aw_t3 (List.mem_of_getElem? (i := 231) rfl) rfl
theorem kw_617 : Cond.methodLink RX5 74 yX5_least ∈ AW := aw_t3 (List.mem_of_getElem? (i := 232) rfl) rfl
theorem kw_618 : Cond.static yX5_least ∈ AW := aw_t3 (List.mem_of_getElem? (i := 233) rfl) rfl
theorem kw_619 : Cond.code yX5_least cX5_least 4 (Option.some Jvm.ClassFile.FieldType.long) ∈ AW := aw_t3 (List.mem_of_getElem? (i := 234) rfl) rfl
theorem kw_620 : Cond.methodLink RX5 78 yX5_moves ∈ AW := aw_t3 (List.mem_of_getElem? (i := 235) rfl) rfl
theorem kw_621 : Cond.static yX5_moves ∈ AW := aw_t3 (List.mem_of_getElem? (i := 236) rfl) rfl
theorem kw_622 : Cond.code yX5_moves cX5_moves 5 (Option.none : Option Jvm.ClassFile.FieldType) ∈ AW := aw_t3 (List.mem_of_getElem? (i := 237) rfl) rfl
theorem kw_623 : Cond.methodLink RX5 94 yX5_cleans ∈ AW := aw_t3 (List.mem_of_getElem? (i := 238) rfl) rfl
theorem kw_624 : Cond.static yX5_cleans ∈ AW := aw_t3 (List.mem_of_getElem? (i := 239) rfl) rfl
theorem kw_625 : Cond.code yX5_cleans cX5_cleans 7 (Option.none : Option Jvm.ClassFile.FieldType) ∈ AW := aw_t4 (List.mem_of_getElem? (i := 0) rfl) rfl
theorem kw_626 : Cond.methodLink RL 43 yX5_ofDrive ∈ AW := aw_t4 (List.mem_of_getElem? (i := 1) rfl) rfl
theorem kw_627 : Cond.instanceMethod yX5_ofDrive ∈ AW := aw_t4 (List.mem_of_getElem? (i := 2) rfl) rfl
theorem kw_628 : Cond.selects RX5 yX5_ofDrive yX5_ofDrive ∈ AW := aw_t4 (List.mem_of_getElem? (i := 3) rfl) rfl
theorem kw_629 : Cond.code yX5_ofDrive cX5_ofDrive 4 (Option.some Jvm.ClassFile.FieldType.int) ∈ AW := aw_t4 (List.mem_of_getElem? (i := 4) rfl) rfl
theorem kw_630 : Cond.constantLong RX5 155 (13) ∈ AW := aw_t4 (List.mem_of_getElem? (i := 5) rfl) rfl
theorem kw_631 : Cond.methodLink RL 47 yX5_hour ∈ AW := aw_t4 (List.mem_of_getElem? (i := 6) rfl) rfl
theorem kw_632 : Cond.instanceMethod yX5_hour ∈ AW := aw_t4 (List.mem_of_getElem? (i := 7) rfl) rfl
theorem kw_633 : Cond.selects RX5 yX5_hour yX5_hour ∈ AW := aw_t4 (List.mem_of_getElem? (i := 8) rfl) rfl
theorem kw_634 : Cond.code yX5_hour cX5_hour 3 (Option.some Jvm.ClassFile.FieldType.int) ∈ AW := aw_t4 (List.mem_of_getElem? (i := 9) rfl) rfl
theorem kw_635 : Cond.methodLink RL 51 yX5_streak ∈ AW := aw_t4 (List.mem_of_getElem? (i := 10) rfl) rfl
theorem kw_636 : Cond.instanceMethod yX5_streak ∈ AW := aw_t4 (List.mem_of_getElem? (i := 11) rfl) rfl
theorem kw_637 : Cond.selects RX5 yX5_streak yX5_streak ∈ AW := aw_t4 (List.mem_of_getElem? (i := 12) rfl) rfl
theorem kw_638 : Cond.code yX5_streak cX5_streak 5 (Option.some Jvm.ClassFile.FieldType.int) ∈ AW := aw_t4 (List.mem_of_getElem? (i := 13) rfl) rfl
theorem kw_639 : Cond.methodLink RL 55 yX5_share ∈ AW := aw_t4 (List.mem_of_getElem? (i := 14) rfl) rfl
theorem kw_640 : Cond.instanceMethod yX5_share ∈ AW := aw_t4 (List.mem_of_getElem? (i := 15) rfl) rfl
theorem kw_641 : Cond.selects RX5 yX5_share yX5_share ∈ AW := aw_t4 (List.mem_of_getElem? (i := 16) rfl) rfl
theorem kw_642 : Cond.code yX5_share cX5_share 4 (Option.some Jvm.ClassFile.FieldType.int) ∈ AW := aw_t4 (List.mem_of_getElem? (i := 17) rfl) rfl
theorem kw_643 : Cond.methodLink RX5 157 yJxf58ca_floatToIntBits_5c35a ∈ AW := aw_t4 (List.mem_of_getElem? (i := 18) rfl) rfl
theorem kw_644 : Cond.static yJxf58ca_floatToIntBits_5c35a ∈ AW := aw_t4 (List.mem_of_getElem? (i := 19) rfl) rfl
theorem kw_645 : Cond.code yJxf58ca_floatToIntBits_5c35a cJxf58ca_floatToIntBits_5c35a 1 (Option.some Jvm.ClassFile.FieldType.int) ∈ AW := aw_t4 (List.mem_of_getElem? (i := 20) rfl) rfl
theorem kw_646 : Cond.methodLink RJxf58ca 59 yJxf58ca_isNaN_12338 ∈ AW := aw_t4 (List.mem_of_getElem? (i := 21) rfl) rfl
theorem kw_647 : Cond.static yJxf58ca_isNaN_12338 ∈ AW := aw_t4 (List.mem_of_getElem? (i := 22) rfl) rfl
theorem kw_648 : Cond.code yJxf58ca_isNaN_12338 cJxf58ca_isNaN_12338 1 (Option.some Jvm.ClassFile.FieldType.boolean) ∈ AW := aw_t4 (List.mem_of_getElem? (i := 23) rfl) rfl
theorem kw_649 : Cond.methodLink RJxf58ca 74 ⟨"java/lang/Float", "floatToRawIntBits", "(F)I"⟩ ∈ AW := aw_t4 (List.mem_of_getElem? (i := 24) rfl) rfl
theorem kw_650 : Cond.static ⟨"java/lang/Float", "floatToRawIntBits", "(F)I"⟩ ∈ AW := aw_t4 (List.mem_of_getElem? (i := 25) rfl) rfl
theorem kw_651 : Cond.native ⟨"java/lang/Float", "floatToRawIntBits", "(F)I"⟩ ∈ AW := aw_t4 (List.mem_of_getElem? (i := 26) rfl) rfl
theorem kw_652 : Cond.constant RJxf58ca 77 (2143289344) ∈ AW := aw_t4 (List.mem_of_getElem? (i := 27) rfl) rfl
theorem kw_653 : Cond.methodLink RL 60 yX5_mean ∈ AW := aw_t4 (List.mem_of_getElem? (i := 28) rfl) rfl
theorem kw_654 : Cond.instanceMethod yX5_mean ∈ AW := aw_t4 (List.mem_of_getElem? (i := 29) rfl) rfl
theorem kw_655 : Cond.selects RX5 yX5_mean yX5_mean ∈ AW := aw_t4 (List.mem_of_getElem? (i := 30) rfl) rfl
theorem kw_656 : Cond.code yX5_mean cX5_mean 2 (Option.some Jvm.ClassFile.FieldType.long) ∈ AW := aw_t4 (List.mem_of_getElem? (i := 31) rfl) rfl
theorem kw_657 : Cond.constantLong RX5 163 (-1) ∈ AW := aw_t4 (List.mem_of_getElem? (i := 32) rfl) rfl
theorem kw_658 : Cond.methodLink RX5 165 yJxe99ae_doubleToLongBits_ccdee ∈ AW := aw_t4 (List.mem_of_getElem? (i := 33) rfl) rfl
theorem kw_659 : Cond.static yJxe99ae_doubleToLongBits_ccdee ∈ AW := aw_t4 (List.mem_of_getElem? (i := 34) rfl) rfl
theorem kw_660 : Cond.code yJxe99ae_doubleToLongBits_ccdee cJxe99ae_doubleToLongBits_ccdee 2 (Option.some Jvm.ClassFile.FieldType.long) ∈ AW := aw_t4 (List.mem_of_getElem? (i := 35) rfl) rfl
theorem kw_661 : Cond.methodLink RJxe99ae 122 yJxe99ae_isNaN_b9ae7 ∈ AW := aw_t4 (List.mem_of_getElem? (i := 36) rfl) rfl
theorem kw_662 : Cond.static yJxe99ae_isNaN_b9ae7 ∈ AW := aw_t4 (List.mem_of_getElem? (i := 37) rfl) rfl
theorem kw_663 : Cond.code yJxe99ae_isNaN_b9ae7 cJxe99ae_isNaN_b9ae7 2 (Option.some Jvm.ClassFile.FieldType.boolean) ∈ AW := aw_t4 (List.mem_of_getElem? (i := 38) rfl) rfl
theorem kw_664 : Cond.methodLink RJxe99ae 134 ⟨"java/lang/Double", "doubleToRawLongBits", "(D)J"⟩ ∈ AW := aw_t4 (List.mem_of_getElem? (i := 39) rfl) rfl
theorem kw_665 : Cond.static ⟨"java/lang/Double", "doubleToRawLongBits", "(D)J"⟩ ∈ AW := aw_t4 (List.mem_of_getElem? (i := 40) rfl) rfl
theorem kw_666 : Cond.native ⟨"java/lang/Double", "doubleToRawLongBits", "(D)J"⟩ ∈ AW := aw_t4 (List.mem_of_getElem? (i := 41) rfl) rfl
theorem kw_667 : Cond.constantLong RJxe99ae 137 (9221120237041090560) ∈ AW := aw_t4 (List.mem_of_getElem? (i := 42) rfl) rfl
theorem kw_668 : Cond.methodLink RL 64 yX5_count ∈ AW := aw_t4 (List.mem_of_getElem? (i := 43) rfl) rfl
theorem kw_669 : Cond.instanceMethod yX5_count ∈ AW := aw_t4 (List.mem_of_getElem? (i := 44) rfl) rfl
theorem kw_670 : Cond.selects RX5 yX5_count yX5_count ∈ AW := aw_t4 (List.mem_of_getElem? (i := 45) rfl) rfl
theorem kw_671 : Cond.code yX5_count cX5_count 2 (Option.some Jvm.ClassFile.FieldType.int) ∈ AW := aw_t4 (List.mem_of_getElem? (i := 46) rfl) rfl
theorem kw_672 : Cond.constantLong RX5 171 (14) ∈ AW := aw_t4 (List.mem_of_getElem? (i := 47) rfl) rfl
theorem kw_673 : Cond.methodLink RL 68 yX5_loudIn ∈ AW := aw_t4 (List.mem_of_getElem? (i := 48) rfl) rfl
theorem kw_674 : Cond.instanceMethod yX5_loudIn ∈ AW := aw_t4 (List.mem_of_getElem? (i := 49) rfl) rfl
theorem kw_675 : Cond.selects RX5 yX5_loudIn yX5_loudIn ∈ AW := aw_t4 (List.mem_of_getElem? (i := 50) rfl) rfl
theorem kw_676 : Cond.code yX5_loudIn cX5_loudIn 4 (Option.some Jvm.ClassFile.FieldType.int) ∈ AW := aw_t4 (List.mem_of_getElem? (i := 51) rfl) rfl
theorem kw_677 : Cond.methodLink RX5 176 yX5_mayAsk ∈ AW := aw_t4 (List.mem_of_getElem? (i := 52) rfl) rfl
theorem kw_678 : Cond.static yX5_mayAsk ∈ AW := aw_t4 (List.mem_of_getElem? (i := 53) rfl) rfl
theorem kw_679 : Cond.code yX5_mayAsk cX5_mayAsk 2 (Option.some Jvm.ClassFile.FieldType.int) ∈ AW := aw_t4 (List.mem_of_getElem? (i := 54) rfl) rfl
theorem kw_680 : Cond.methodLink RX5 179 yX5_tries ∈ AW := aw_t4 (List.mem_of_getElem? (i := 55) rfl) rfl
theorem kw_681 : Cond.instanceMethod yX5_tries ∈ AW := aw_t4 (List.mem_of_getElem? (i := 57) rfl) rfl
theorem kw_682 : Cond.code yX5_tries cX5_tries 1 (Option.none : Option Jvm.ClassFile.FieldType) ∈ AW := aw_t4 (List.mem_of_getElem? (i := 58) rfl) rfl
theorem kw_683 : Cond.methodLink RX5 182 yX5_passesThen ∈ AW := aw_t4 (List.mem_of_getElem? (i := 59) rfl) rfl
theorem kw_684 : Cond.instanceMethod yX5_passesThen ∈ AW := aw_t4 (List.mem_of_getElem? (i := 61) rfl) rfl
theorem kw_685 : Cond.code yX5_passesThen cX5_passesThen 6 (Option.some Jvm.ClassFile.FieldType.long) ∈ AW := aw_t4 (List.mem_of_getElem? (i := 62) rfl) rfl
theorem kw_686 : Cond.methodLink RL 72 yX5_freeIn ∈ AW := aw_t4 (List.mem_of_getElem? (i := 63) rfl) rfl
theorem kw_687 : Cond.instanceMethod yX5_freeIn ∈ AW := aw_t4 (List.mem_of_getElem? (i := 64) rfl) rfl
theorem kw_688 : Cond.selects RX5 yX5_freeIn yX5_freeIn ∈ AW := aw_t4 (List.mem_of_getElem? (i := 65) rfl) rfl
theorem kw_689 : Cond.code yX5_freeIn cX5_freeIn 4 (Option.some Jvm.ClassFile.FieldType.int) ∈ AW := aw_t4 (List.mem_of_getElem? (i := 66) rfl) rfl
theorem kw_690 : Cond.methodLink RL 76 yX5_mostHeld ∈ AW := aw_t4 (List.mem_of_getElem? (i := 67) rfl) rfl
theorem kw_691 : Cond.instanceMethod yX5_mostHeld ∈ AW := aw_t4 (List.mem_of_getElem? (i := 68) rfl) rfl
theorem kw_692 : Cond.selects RX5 yX5_mostHeld yX5_mostHeld ∈ AW := aw_t4 (List.mem_of_getElem? (i := 69) rfl) rfl
theorem kw_693 : Cond.code yX5_mostHeld cX5_mostHeld 4 (Option.some Jvm.ClassFile.FieldType.int) ∈ AW := aw_t4 (List.mem_of_getElem? (i := 70) rfl) rfl
theorem kw_694 : Cond.methodLink RL 80 yX5_firstSafe ∈ AW := aw_t4 (List.mem_of_getElem? (i := 71) rfl) rfl
theorem kw_695 : Cond.instanceMethod yX5_firstSafe ∈ AW := aw_t4 (List.mem_of_getElem? (i := 72) rfl) rfl
theorem kw_696 : Cond.selects RX5 yX5_firstSafe yX5_firstSafe ∈ AW := aw_t4 (List.mem_of_getElem? (i := 73) rfl) rfl
theorem kw_697 : Cond.code yX5_firstSafe cX5_firstSafe 6 (Option.some Jvm.ClassFile.FieldType.int) ∈ AW := aw_t4 (List.mem_of_getElem? (i := 74) rfl) rfl
theorem kw_698 : Cond.constantLong RX5 190 (24) ∈ AW := aw_t4 (List.mem_of_getElem? (i := 75) rfl) rfl
theorem kw_699 : Cond.methodLink RX5 192 yX5_isSafe ∈ AW := aw_t4 (List.mem_of_getElem? (i := 76) rfl) rfl
theorem kw_700 : Cond.instanceMethod yX5_isSafe ∈ AW := aw_t4 (List.mem_of_getElem? (i := 78) rfl) rfl
theorem kw_701 : Cond.code yX5_isSafe cX5_isSafe 5 (Option.some Jvm.ClassFile.FieldType.boolean) ∈ AW := aw_t4 (List.mem_of_getElem? (i := 79) rfl) rfl
theorem kw_702 : Cond.methodLink RX5 186 yX5_overruns ∈ AW := aw_t4 (List.mem_of_getElem? (i := 80) rfl) rfl
theorem kw_703 : Cond.static yX5_overruns ∈ AW := aw_t4 (List.mem_of_getElem? (i := 81) rfl) rfl
theorem kw_704 : Cond.code yX5_overruns cX5_overruns 4 (Option.some Jvm.ClassFile.FieldType.long) ∈ AW := aw_t4 (List.mem_of_getElem? (i := 82) rfl) rfl
theorem kw_705 : Cond.methodLink RL 84 yX5_leastRoom ∈ AW := aw_t4 (List.mem_of_getElem? (i := 83) rfl) rfl
theorem kw_706 : Cond.instanceMethod yX5_leastRoom ∈ AW := aw_t4 (List.mem_of_getElem? (i := 84) rfl) rfl
theorem kw_707 : Cond.selects RX5 yX5_leastRoom yX5_leastRoom ∈ AW := aw_t4 (List.mem_of_getElem? (i := 85) rfl) rfl
theorem kw_708 : Cond.code yX5_leastRoom cX5_leastRoom 3 (Option.some Jvm.ClassFile.FieldType.int) ∈ AW := aw_t4 (List.mem_of_getElem? (i := 86) rfl) rfl
theorem kw_709 : Cond.constantLong RX5 195 (10) ∈ AW := aw_t4 (List.mem_of_getElem? (i := 87) rfl) rfl
theorem kw_710 : Cond.methodLink RL 91 yX5_put ∈ AW := aw_t4 (List.mem_of_getElem? (i := 88) rfl) rfl
theorem kw_711 : Cond.instanceMethod yX5_put ∈ AW := aw_t4 (List.mem_of_getElem? (i := 89) rfl) rfl
theorem kw_712 : Cond.selects RX5 yX5_put yX5_put ∈ AW := aw_t4 (List.mem_of_getElem? (i := 90) rfl) rfl
theorem kw_713 : Cond.code yX5_put cX5_put 5 (Option.some Jvm.ClassFile.FieldType.int) ∈ AW := aw_t4 (List.mem_of_getElem? (i := 91) rfl) rfl
theorem kw_714 : Cond.methodLink RX5 207 yX5_toldBy ∈ AW := aw_t4 (List.mem_of_getElem? (i := 92) rfl) rfl
theorem kw_715 : Cond.static yX5_toldBy ∈ AW := aw_t4 (List.mem_of_getElem? (i := 93) rfl) rfl
theorem kw_716 : Cond.code yX5_toldBy cX5_toldBy 4 (Option.some Jvm.ClassFile.FieldType.int) ∈ AW := aw_t4 (List.mem_of_getElem? (i := 94) rfl) rfl
theorem kw_717 : Cond.methodLink RX5 199 yX5_byteOf ∈ AW := aw_t4 (List.mem_of_getElem? (i := 95) rfl) rfl
theorem kw_718 : Cond.static yX5_byteOf ∈ AW := aw_t4 (List.mem_of_getElem? (i := 96) rfl) rfl
theorem kw_719 : Cond.code yX5_byteOf cX5_byteOf 3 (Option.some Jvm.ClassFile.FieldType.int) ∈ AW := aw_t4 (List.mem_of_getElem? (i := 97) rfl) rfl
theorem kw_720 : Cond.constantLong RX5 197 (255) ∈ AW := aw_t4 (List.mem_of_getElem? (i := 98) rfl) rfl
theorem kw_721 : Cond.constantLong RX5 203 (33) ∈ AW := aw_t4 (List.mem_of_getElem? (i := 99) rfl) rfl
theorem kw_722 : Cond.constantLong RX5 205 (126) ∈ AW := aw_t4 (List.mem_of_getElem? (i := 100) rfl) rfl
theorem kw_723 : Cond.methodLink RL 96 yX5_wipe ∈ AW := aw_t4 (List.mem_of_getElem? (i := 101) rfl) rfl
theorem kw_724 : Cond.instanceMethod yX5_wipe ∈ AW := aw_t4 (List.mem_of_getElem? (i := 102) rfl) rfl
theorem kw_725 : Cond.selects RX5 yX5_wipe yX5_wipe ∈ AW := aw_t4 (List.mem_of_getElem? (i := 103) rfl) rfl
theorem kw_726 : Cond.code yX5_wipe cX5_wipe 2 (Option.some Jvm.ClassFile.FieldType.int) ∈ AW := aw_t4 (List.mem_of_getElem? (i := 104) rfl) rfl
theorem kw_727 : Cond.methodLink RL 100 yX5_fault ∈ AW := aw_t4 (List.mem_of_getElem? (i := 105) rfl) rfl
theorem kw_728 : Cond.instanceMethod yX5_fault ∈ AW := aw_t4 (List.mem_of_getElem? (i := 106) rfl) rfl
theorem kw_729 : Cond.selects RX5 yX5_fault yX5_fault ∈ AW := aw_t4 (List.mem_of_getElem? (i := 107) rfl) rfl
theorem kw_730 : Cond.code yX5_fault cX5_fault 1 (Option.some Jvm.ClassFile.FieldType.int) ∈ AW := aw_t4 (List.mem_of_getElem? (i := 108) rfl) rfl
theorem kw_731 : Cond.methodLink RX5 230 yX5_isText ∈ AW := aw_t4 (List.mem_of_getElem? (i := 109) rfl) rfl
theorem kw_732 : Cond.instanceMethod yX5_isText ∈ AW := aw_t4 (List.mem_of_getElem? (i := 111) rfl) rfl
theorem kw_733 : Cond.code yX5_isText cX5_isText 2 (Option.some Jvm.ClassFile.FieldType.boolean) ∈ AW := aw_t4 (List.mem_of_getElem? (i := 112) rfl) rfl
theorem kw_734 : Cond.methodLink RX5 226 yX5_isOrder ∈ AW := aw_t4 (List.mem_of_getElem? (i := 113) rfl) rfl
theorem kw_735 : Cond.instanceMethod yX5_isOrder ∈ AW := aw_t4 (List.mem_of_getElem? (i := 115) rfl) rfl
theorem kw_736 : Cond.code yX5_isOrder cX5_isOrder 2 (Option.some Jvm.ClassFile.FieldType.boolean) ∈ AW := aw_t4 (List.mem_of_getElem? (i := 116) rfl) rfl
theorem kw_737 : Cond.methodLink RX5 214 yX5_isAt ∈ AW := aw_t4 (List.mem_of_getElem? (i := 117) rfl) rfl
theorem kw_738 : Cond.instanceMethod yX5_isAt ∈ AW := aw_t4 (List.mem_of_getElem? (i := 119) rfl) rfl
theorem kw_739 : Cond.code yX5_isAt cX5_isAt 3 (Option.some Jvm.ClassFile.FieldType.boolean) ∈ AW := aw_t4 (List.mem_of_getElem? (i := 120) rfl) rfl
theorem kw_740 : Cond.methodLink RX5 220 yX5_isNumber ∈ AW := aw_t4 (List.mem_of_getElem? (i := 121) rfl) rfl
theorem kw_741 : Cond.instanceMethod yX5_isNumber ∈ AW := aw_t4 (List.mem_of_getElem? (i := 123) rfl) rfl
theorem kw_742 : Cond.code yX5_isNumber cX5_isNumber 3 (Option.some Jvm.ClassFile.FieldType.boolean) ∈ AW := aw_t4 (List.mem_of_getElem? (i := 124) rfl) rfl
theorem kw_743 : Cond.methodLink RX5 223 yX5_isSign ∈ AW := aw_t4 (List.mem_of_getElem? (i := 125) rfl) rfl
theorem kw_744 : Cond.instanceMethod yX5_isSign ∈ AW := aw_t4 (List.mem_of_getElem? (i := 127) rfl) rfl
theorem kw_745 : Cond.code yX5_isSign cX5_isSign 3 (Option.some Jvm.ClassFile.FieldType.boolean) ∈ AW := aw_t4 (List.mem_of_getElem? (i := 128) rfl) rfl
theorem kw_746 : Cond.methodLink RL 104 yX5_carryOut ∈ AW := aw_t4 (List.mem_of_getElem? (i := 129) rfl) rfl
theorem kw_747 : Cond.instanceMethod yX5_carryOut ∈ AW := aw_t4 (List.mem_of_getElem? (i := 130) rfl) rfl
theorem kw_748 : Cond.selects RX5 yX5_carryOut yX5_carryOut ∈ AW := aw_t4 (List.mem_of_getElem? (i := 131) rfl) rfl
theorem kw_749 : Cond.code yX5_carryOut cX5_carryOut 2 (Option.some Jvm.ClassFile.FieldType.int) ∈ AW := aw_t4 (List.mem_of_getElem? (i := 132) rfl) rfl
theorem kw_750 : Cond.methodLink RX5 233 yX5_does ∈ AW := aw_t4 (List.mem_of_getElem? (i := 133) rfl) rfl
theorem kw_751 : Cond.instanceMethod yX5_does ∈ AW := aw_t4 (List.mem_of_getElem? (i := 135) rfl) rfl
theorem kw_752 : Cond.code yX5_does cX5_does 7 (Option.some Jvm.ClassFile.FieldType.boolean) ∈ AW := aw_t4 (List.mem_of_getElem? (i := 136) rfl) rfl
theorem kw_753 : Cond.constantLong RL 85 (4294967295) ∈ AW := aw_t4 (List.mem_of_getElem? (i := 137) rfl) rfl
theorem kw_754 : Cond.selects RX4 yX4_recorded yX4_recorded ∈ AW := aw_0 (List.mem_of_getElem? (i := 0) rfl) rfl
theorem kw_755 : Cond.selects RX3 yX3_changeHour yX3_changeHour ∈ AW := aw_0 (List.mem_of_getElem? (i := 1) rfl) rfl
theorem kw_756 : Cond.selects RX3 yX3_passMinuteOf yX3_passMinuteOf ∈ AW := aw_0 (List.mem_of_getElem? (i := 2) rfl) rfl
theorem kw_757 : Cond.selects RX3 yX3_settleHours yX3_settleHours ∈ AW := aw_0 (List.mem_of_getElem? (i := 3) rfl) rfl
theorem kw_758 : Cond.selects RX0 yX0_fillCells yX0_fillCells ∈ AW := aw_0 (List.mem_of_getElem? (i := 4) rfl) rfl
theorem kw_759 : Cond.selects RX3 yX3_cleanUp yX3_cleanUp ∈ AW := aw_0 (List.mem_of_getElem? (i := 5) rfl) rfl
theorem kw_760 : Cond.selects RX3 yX3_chargeOverrun yX3_chargeOverrun ∈ AW := aw_0 (List.mem_of_getElem? (i := 6) rfl) rfl
theorem kw_761 : Cond.selects RX4 yX4_errorOfQuestion yX4_errorOfQuestion ∈ AW := aw_0 (List.mem_of_getElem? (i := 7) rfl) rfl
theorem kw_762 : Cond.selects RX4 yX4_tryMinutes yX4_tryMinutes ∈ AW := aw_0 (List.mem_of_getElem? (i := 8) rfl) rfl
theorem kw_763 : Cond.selects RX2 yX2_readSign yX2_readSign ∈ AW := aw_0 (List.mem_of_getElem? (i := 9) rfl) rfl
theorem kw_764 : Cond.selects RX2 yX2_signHere yX2_signHere ∈ AW := aw_0 (List.mem_of_getElem? (i := 10) rfl) rfl
theorem kw_765 : Cond.selects RX2 yX2_readOrder yX2_readOrder ∈ AW := aw_0 (List.mem_of_getElem? (i := 11) rfl) rfl
theorem kw_766 : Cond.selects RX2 yX2_readKindAndDrive yX2_readKindAndDrive ∈ AW := aw_0 (List.mem_of_getElem? (i := 12) rfl) rfl
theorem kw_767 : Cond.selects RX2 yX2_readFirst yX2_readFirst ∈ AW := aw_0 (List.mem_of_getElem? (i := 13) rfl) rfl
theorem kw_768 : Cond.selects RX2 yX2_readNumber yX2_readNumber ∈ AW := aw_0 (List.mem_of_getElem? (i := 14) rfl) rfl
theorem kw_769 : Cond.selects RX2 yX2_readSecond yX2_readSecond ∈ AW := aw_0 (List.mem_of_getElem? (i := 15) rfl) rfl
theorem kw_770 : Cond.selects RX4 yX4_carryOutOrder yX4_carryOutOrder ∈ AW := aw_0 (List.mem_of_getElem? (i := 16) rfl) rfl
theorem kw_771 : Cond.selects RX5 yX5_records yX5_records ∈ AW := aw_0 (List.mem_of_getElem? (i := 17) rfl) rfl
theorem kw_772 : Cond.selects RX5 yX5_mayStream yX5_mayStream ∈ AW := aw_0 (List.mem_of_getElem? (i := 18) rfl) rfl
theorem kw_773 : Cond.selects RX5 yX5_streams yX5_streams ∈ AW := aw_0 (List.mem_of_getElem? (i := 19) rfl) rfl
theorem kw_774 : Cond.selects RX5 yX5_mayWrite yX5_mayWrite ∈ AW := aw_0 (List.mem_of_getElem? (i := 20) rfl) rfl
theorem kw_775 : Cond.selects RX5 yX5_comes yX5_comes ∈ AW := aw_0 (List.mem_of_getElem? (i := 21) rfl) rfl
theorem kw_776 : Cond.selects RX5 yX5_mayTrade yX5_mayTrade ∈ AW := aw_0 (List.mem_of_getElem? (i := 22) rfl) rfl
theorem kw_777 : Cond.selects RX5 yX5_trades yX5_trades ∈ AW := aw_0 (List.mem_of_getElem? (i := 23) rfl) rfl
theorem kw_778 : Cond.selects RX5 yX5_hoursOf yX5_hoursOf ∈ AW := aw_0 (List.mem_of_getElem? (i := 24) rfl) rfl
theorem kw_779 : Cond.selects RX5 yX5_passes yX5_passes ∈ AW := aw_0 (List.mem_of_getElem? (i := 25) rfl) rfl
theorem kw_780 : Cond.selects RX5 yX5_tries yX5_tries ∈ AW := aw_0 (List.mem_of_getElem? (i := 26) rfl) rfl
theorem kw_781 : Cond.selects RX5 yX5_passesThen yX5_passesThen ∈ AW := aw_0 (List.mem_of_getElem? (i := 27) rfl) rfl
theorem kw_782 : Cond.selects RX5 yX5_isSafe yX5_isSafe ∈ AW := aw_0 (List.mem_of_getElem? (i := 28) rfl) rfl
theorem kw_783 : Cond.selects RX5 yX5_isText yX5_isText ∈ AW := aw_0 (List.mem_of_getElem? (i := 29) rfl) rfl
theorem kw_784 : Cond.selects RX5 yX5_isOrder yX5_isOrder ∈ AW := aw_0 (List.mem_of_getElem? (i := 30) rfl) rfl
theorem kw_785 : Cond.selects RX5 yX5_isAt yX5_isAt ∈ AW := aw_0 (List.mem_of_getElem? (i := 31) rfl) rfl
theorem kw_786 : Cond.selects RX5 yX5_isNumber yX5_isNumber ∈ AW := aw_0 (List.mem_of_getElem? (i := 32) rfl) rfl
theorem kw_787 : Cond.selects RX5 yX5_isSign yX5_isSign ∈ AW := aw_0 (List.mem_of_getElem? (i := 33) rfl) rfl
theorem kw_788 : Cond.selects RX5 yX5_does yX5_does ∈ AW := aw_0 (List.mem_of_getElem? (i := 34) rfl) rfl
theorem kin0 : ∀ w ∈ u_ws RX0 TX0 12, w ∈ AW := by
  intro w hw
  have hw : w ∈ ([u_lay RX0 TX0 0, u_lay RX0 TX0 1, u_lay RX0 TX0 2, u_lay RX0 TX0 3, u_lay RX0 TX0 4, u_lay RX0 TX0 5, u_lay RX0 TX0 6, u_lay RX0 TX0 7, u_lay RX0 TX0 8, u_lay RX0 TX0 9, u_lay RX0 TX0 10, u_lay RX0 TX0 11] : List Cond) := hw
  simp only [List.mem_cons, List.not_mem_nil, or_false] at hw
  rcases hw with rfl | rfl | rfl | rfl | rfl | rfl | rfl | rfl | rfl | rfl | rfl | rfl
  · exact kw_64
  · exact kw_65
  · exact kw_66
  · exact kw_67
  · exact kw_68
  · exact kw_69
  · exact kw_70
  · exact kw_71
  · exact kw_72
  · exact kw_73
  · exact kw_74
  · exact kw_75
theorem kin1 : ∀ w ∈ u_ws RX1 TX1 3, w ∈ AW := by
  intro w hw
  have hw : w ∈ ([u_lay RX1 TX1 0, u_lay RX1 TX1 1, u_lay RX1 TX1 2] : List Cond) := hw
  simp only [List.mem_cons, List.not_mem_nil, or_false] at hw
  rcases hw with rfl | rfl | rfl
  · exact kw_111
  · exact kw_112
  · exact kw_113
theorem kin2 : ∀ w ∈ u_ws RX2 TX2 7, w ∈ AW := by
  intro w hw
  have hw : w ∈ ([u_lay RX2 TX2 0, u_lay RX2 TX2 1, u_lay RX2 TX2 2, u_lay RX2 TX2 3, u_lay RX2 TX2 4, u_lay RX2 TX2 5, u_lay RX2 TX2 6] : List Cond) := hw
  simp only [List.mem_cons, List.not_mem_nil, or_false] at hw
  rcases hw with rfl | rfl | rfl | rfl | rfl | rfl | rfl
  · exact kw_131
  · exact kw_132
  · exact kw_133
  · exact kw_134
  · exact kw_135
  · exact kw_136
  · exact kw_137
theorem kin3 : ∀ w ∈ u_ws RX3 TX3 7, w ∈ AW := by
  intro w hw
  have hw : w ∈ ([u_lay RX3 TX3 0, u_lay RX3 TX3 1, u_lay RX3 TX3 2, u_lay RX3 TX3 3, u_lay RX3 TX3 4, u_lay RX3 TX3 5, u_lay RX3 TX3 6] : List Cond) := hw
  simp only [List.mem_cons, List.not_mem_nil, or_false] at hw
  rcases hw with rfl | rfl | rfl | rfl | rfl | rfl | rfl
  · exact kw_92
  · exact kw_93
  · exact kw_94
  · exact kw_95
  · exact kw_96
  · exact kw_97
  · exact kw_98
theorem kin4 : ∀ w ∈ u_ws RX4 TX4 7, w ∈ AW := by
  intro w hw
  have hw : w ∈ ([u_lay RX4 TX4 0, u_lay RX4 TX4 1, u_lay RX4 TX4 2, u_lay RX4 TX4 3, u_lay RX4 TX4 4, u_lay RX4 TX4 5, u_lay RX4 TX4 6] : List Cond) := hw
  simp only [List.mem_cons, List.not_mem_nil, or_false] at hw
  rcases hw with rfl | rfl | rfl | rfl | rfl | rfl | rfl
  · exact kw_147
  · exact kw_148
  · exact kw_149
  · exact kw_150
  · exact kw_151
  · exact kw_152
  · exact kw_153
theorem kin5 : ∀ w ∈ u_ws RX5 TX5 11, w ∈ AW := by
  intro w hw
  have hw : w ∈ ([u_lay RX5 TX5 0, u_lay RX5 TX5 1, u_lay RX5 TX5 2, u_lay RX5 TX5 3, u_lay RX5 TX5 4, u_lay RX5 TX5 5, u_lay RX5 TX5 6, u_lay RX5 TX5 7, u_lay RX5 TX5 8, u_lay RX5 TX5 9, u_lay RX5 TX5 10] : List Cond) := hw
  simp only [List.mem_cons, List.not_mem_nil, or_false] at hw
  rcases hw with rfl | rfl | rfl | rfl | rfl | rfl | rfl | rfl | rfl | rfl | rfl
  · exact kw_500
  · exact kw_501
  · exact kw_502
  · exact kw_503
  · exact kw_504
  · exact kw_505
  · exact kw_506
  · exact kw_507
  · exact kw_508
  · exact kw_509
  · exact kw_510
