def uw : List Cond := lw_tbl.filter goodWord
theorem uw_of {w : Cond} (h : w ∈ lw_tbl) (g : goodWord w = true) : w ∈ uw := List.mem_filter.mpr ⟨h, g⟩
theorem uw_in {w : Cond} (h : w ∈ uw) : w ∈ lw_tbl := (List.mem_filter.mp h).1
theorem uw_good {w : Cond} (h : w ∈ uw) : (w.onTables && w.keeps) = true ∨ ∃ ty, w = .arrayClass ty := good_of_word (List.mem_filter.mp h).2
theorem lw_t1 {w : Cond} (h : w ∈ tables_1_1) : w ∈ lw_tbl := List.mem_append_right (k2_sels lw_privs) (List.mem_append_left _ h)
theorem uw_t1 {w : Cond} (h : w ∈ tables_1_1) (g : goodWord w = true) : w ∈ uw := uw_of (lw_t1 h) g
theorem lw_t2 {w : Cond} (h : w ∈ tables_1_2) : w ∈ lw_tbl := List.mem_append_right (k2_sels lw_privs) (List.mem_append_right _ (List.mem_append_left _ h))
theorem uw_t2 {w : Cond} (h : w ∈ tables_1_2) (g : goodWord w = true) : w ∈ uw := uw_of (lw_t2 h) g
theorem lw_t3 {w : Cond} (h : w ∈ tables_1_3) : w ∈ lw_tbl := List.mem_append_right (k2_sels lw_privs) (List.mem_append_right _ (List.mem_append_right _ (List.mem_append_left _ h)))
theorem uw_t3 {w : Cond} (h : w ∈ tables_1_3) (g : goodWord w = true) : w ∈ uw := uw_of (lw_t3 h) g
theorem lw_t4 {w : Cond} (h : w ∈ tables_1_4) : w ∈ lw_tbl := List.mem_append_right (k2_sels lw_privs) (List.mem_append_right _ (List.mem_append_right _ (List.mem_append_right _ (List.mem_append_left _ h))))
theorem uw_t4 {w : Cond} (h : w ∈ tables_1_4) (g : goodWord w = true) : w ∈ uw := uw_of (lw_t4 h) g
theorem lw_t5 {w : Cond} (h : w ∈ tables_1_5) : w ∈ lw_tbl := List.mem_append_right (k2_sels lw_privs) (List.mem_append_right _ (List.mem_append_right _ (List.mem_append_right _ (List.mem_append_right _ (List.mem_append_left _ h)))))
theorem uw_t5 {w : Cond} (h : w ∈ tables_1_5) (g : goodWord w = true) : w ∈ uw := uw_of (lw_t5 h) g
theorem lw_t6 {w : Cond} (h : w ∈ tables_1_6) : w ∈ lw_tbl := List.mem_append_right (k2_sels lw_privs) (List.mem_append_right _ (List.mem_append_right _ (List.mem_append_right _ (List.mem_append_right _ (List.mem_append_right _ (List.mem_append_left _ h))))))
theorem uw_t6 {w : Cond} (h : w ∈ tables_1_6) (g : goodWord w = true) : w ∈ uw := uw_of (lw_t6 h) g
theorem lw_t7 {w : Cond} (h : w ∈ tables_1_7) : w ∈ lw_tbl := List.mem_append_right (k2_sels lw_privs) (List.mem_append_right _ (List.mem_append_right _ (List.mem_append_right _ (List.mem_append_right _ (List.mem_append_right _ (List.mem_append_right _ (List.mem_append_left _ h)))))))
theorem uw_t7 {w : Cond} (h : w ∈ tables_1_7) (g : goodWord w = true) : w ∈ uw := uw_of (lw_t7 h) g
theorem lw_t8 {w : Cond} (h : w ∈ tables_1_8) : w ∈ lw_tbl := List.mem_append_right (k2_sels lw_privs) (List.mem_append_right _ (List.mem_append_right _ (List.mem_append_right _ (List.mem_append_right _ (List.mem_append_right _ (List.mem_append_right _ (List.mem_append_right _ h)))))))
theorem uw_t8 {w : Cond} (h : w ∈ tables_1_8) (g : goodWord w = true) : w ∈ uw := uw_of (lw_t8 h) g
theorem tw1_0 : Cond.initialized RL ∈ uw := uw_t1 (List.mem_of_getElem? (i := 0) rfl) rfl
theorem tw1_1 : Cond.initialized RX10 ∈ uw := uw_t1 (List.mem_of_getElem? (i := 1) rfl) rfl
theorem tw1_2 : Cond.initialized RX5 ∈ uw := uw_t1 (List.mem_of_getElem? (i := 2) rfl) rfl
theorem tw1_3 : Cond.initialized RX1 ∈ uw := uw_t1 (List.mem_of_getElem? (i := 3) rfl) rfl
theorem tw1_4 : Cond.initialized RX2 ∈ uw := uw_t1 (List.mem_of_getElem? (i := 4) rfl) rfl
theorem tw1_5 : Cond.initialized RX6 ∈ uw := uw_t1 (List.mem_of_getElem? (i := 5) rfl) rfl
theorem tw1_6 : Cond.initialized RX8 ∈ uw := uw_t1 (List.mem_of_getElem? (i := 6) rfl) rfl
theorem tw1_7 : Cond.initialized RX3 ∈ uw := uw_t1 (List.mem_of_getElem? (i := 7) rfl) rfl
theorem tw1_8 : Cond.initialized RX11 ∈ uw := uw_t1 (List.mem_of_getElem? (i := 8) rfl) rfl
theorem tw1_9 : Cond.initialized RJ7 ∈ uw := uw_t1 (List.mem_of_getElem? (i := 9) rfl) rfl
theorem tw1_10 : Cond.initialized RJ10 ∈ uw := uw_t1 (List.mem_of_getElem? (i := 10) rfl) rfl
theorem tw1_11 : Cond.initialized RX9 ∈ uw := uw_t1 (List.mem_of_getElem? (i := 11) rfl) rfl
theorem tw1_12 : Cond.initialized RX4 ∈ uw := uw_t1 (List.mem_of_getElem? (i := 12) rfl) rfl
theorem tw1_13 : Cond.initialized RJ9 ∈ uw := uw_t1 (List.mem_of_getElem? (i := 13) rfl) rfl
theorem tw1_14 : Cond.initialized RX7 ∈ uw := uw_t1 (List.mem_of_getElem? (i := 14) rfl) rfl
theorem tw1_15 : Cond.initialized RX0 ∈ uw := uw_t1 (List.mem_of_getElem? (i := 15) rfl) rfl
theorem tw1_16 : Cond.classLink RL 7 RX10 ∈ uw := uw_t1 (List.mem_of_getElem? (i := 16) rfl) rfl
theorem tw1_17 : Cond.instantiable RX10 14 ∈ uw := uw_t1 (List.mem_of_getElem? (i := 17) rfl) rfl
theorem tw1_18 : Cond.methodLink RL 9 yX10_init ∈ uw := uw_t1 (List.mem_of_getElem? (i := 18) rfl) rfl
theorem tw1_19 : Cond.instanceMethod yX10_init ∈ uw := uw_t1 (List.mem_of_getElem? (i := 19) rfl) rfl
theorem tw1_20 : Cond.code yX10_init cX10_init 2 none ∈ uw := uw_t1 (List.mem_of_getElem? (i := 20) rfl) rfl
theorem tw1_21 : Cond.methodLink RX10 1 ⟨"java/lang/Object", "<init>", "()V"⟩ ∈ uw := uw_t1 (List.mem_of_getElem? (i := 21) rfl) rfl
theorem tw1_22 : Cond.instanceMethod ⟨"java/lang/Object", "<init>", "()V"⟩ ∈ uw := uw_t1 (List.mem_of_getElem? (i := 22) rfl) rfl
theorem tw1_23 : Cond.code ⟨"java/lang/Object", "<init>", "()V"⟩ object_method_1_code 1 none ∈ uw := uw_t1 (List.mem_of_getElem? (i := 23) rfl) rfl
theorem tw1_24 : Cond.classLink RX10 9 RX6 ∈ uw := uw_t1 (List.mem_of_getElem? (i := 24) rfl) rfl
theorem tw1_25 : Cond.arrayOver (.object "HammerTowers$Row") ∈ lw_tbl := lw_t1 (List.mem_of_getElem? (i := 25) rfl)
theorem tw1_26 : Cond.classLink RX10 15 RX9 ∈ uw := uw_t1 (List.mem_of_getElem? (i := 26) rfl) rfl
theorem tw1_27 : Cond.arrayOver (.object "HammerTowers$Train") ∈ lw_tbl := lw_t1 (List.mem_of_getElem? (i := 27) rfl)
theorem tw1_28 : Cond.classLink RX10 21 RX8 ∈ uw := uw_t1 (List.mem_of_getElem? (i := 28) rfl) rfl
theorem tw1_29 : Cond.arrayOver (.object "HammerTowers$Tower") ∈ lw_tbl := lw_t1 (List.mem_of_getElem? (i := 29) rfl)
theorem tw1_30 : Cond.classLink RX10 27 RX5 ∈ uw := uw_t1 (List.mem_of_getElem? (i := 30) rfl) rfl
theorem tw1_31 : Cond.instantiable RX5 2 ∈ uw := uw_t1 (List.mem_of_getElem? (i := 31) rfl) rfl
theorem tw1_32 : Cond.methodLinkNest RX10 29 yX5_init "HammerTowers" ∈ lw_tbl := lw_t1 (List.mem_of_getElem? (i := 32) rfl)
theorem tw1_33 : Cond.instanceMethod yX5_init ∈ uw := uw_t1 (List.mem_of_getElem? (i := 33) rfl) rfl
theorem tw1_34 : Cond.code yX5_init cX5_init 1 none ∈ uw := uw_t1 (List.mem_of_getElem? (i := 34) rfl) rfl
theorem tw1_35 : Cond.methodLink RX5 3 ⟨"java/lang/Object", "<init>", "()V"⟩ ∈ uw := uw_t1 (List.mem_of_getElem? (i := 35) rfl) rfl
theorem tw1_36 : Cond.fieldLink RX5 9 "HammerTowers$Righting" "acts" "[I" ∈ uw := uw_t1 (List.mem_of_getElem? (i := 36) rfl) rfl
theorem tw1_37 : Cond.fieldLink RX5 27 "HammerTowers$Righting" "count" "I" ∈ uw := uw_t1 (List.mem_of_getElem? (i := 37) rfl) rfl
theorem tw1_38 : Cond.fieldLink RX10 294 "HammerTowers$Righting" "count" "I" ∈ uw := uw_t1 (List.mem_of_getElem? (i := 38) rfl) rfl
theorem tw1_39 : Cond.laysFinal RX5 "HammerTowers$Righting" "acts" "[I" ∈ uw := uw_t1 (List.mem_of_getElem? (i := 39) rfl) rfl
theorem tw1_40 : Cond.soleField "HammerTowers$Righting" "acts" ∈ uw := uw_t1 (List.mem_of_getElem? (i := 40) rfl) rfl
theorem tw1_41 : Cond.lays RX5 "HammerTowers$Righting" "count" "I" ∈ uw := uw_t1 (List.mem_of_getElem? (i := 41) rfl) rfl
theorem tw1_42 : Cond.soleField "HammerTowers$Righting" "count" ∈ uw := uw_t1 (List.mem_of_getElem? (i := 42) rfl) rfl
theorem tw1_43 : Cond.superclass RX5 "java/lang/Object" ∈ uw := uw_t1 (List.mem_of_getElem? (i := 43) rfl) rfl
theorem tw1_44 : Cond.arrayClass .int ∈ uw := uw_t1 (List.mem_of_getElem? (i := 44) rfl) rfl
theorem tw1_45 : Cond.classLink RX10 34 RX1 ∈ uw := uw_t1 (List.mem_of_getElem? (i := 45) rfl) rfl
theorem tw1_46 : Cond.instantiable RX1 7 ∈ uw := uw_t1 (List.mem_of_getElem? (i := 46) rfl) rfl
theorem tw1_47 : Cond.methodLinkNest RX10 36 yX1_init "HammerTowers" ∈ lw_tbl := lw_t1 (List.mem_of_getElem? (i := 47) rfl)
theorem tw1_48 : Cond.instanceMethod yX1_init ∈ uw := uw_t1 (List.mem_of_getElem? (i := 48) rfl) rfl
theorem tw1_49 : Cond.code yX1_init cX1_init 1 none ∈ uw := uw_t1 (List.mem_of_getElem? (i := 49) rfl) rfl
theorem tw1_50 : Cond.methodLink RX1 3 ⟨"java/lang/Object", "<init>", "()V"⟩ ∈ uw := uw_t1 (List.mem_of_getElem? (i := 50) rfl) rfl
theorem tw1_51 : Cond.fieldLink RX1 9 "HammerTowers$FaultFinder" "heard" "[I" ∈ uw := uw_t1 (List.mem_of_getElem? (i := 51) rfl) rfl
theorem tw1_52 : Cond.fieldLink RX1 25 "HammerTowers$FaultFinder" "hour" "I" ∈ uw := uw_t1 (List.mem_of_getElem? (i := 52) rfl) rfl
theorem tw1_53 : Cond.fieldLink RX1 78 "HammerTowers$FaultFinder" "sort" "I" ∈ uw := uw_t1 (List.mem_of_getElem? (i := 53) rfl) rfl
theorem tw1_54 : Cond.fieldLink RX10 326 "HammerTowers$FaultFinder" "sort" "I" ∈ uw := uw_t1 (List.mem_of_getElem? (i := 54) rfl) rfl
theorem tw1_55 : Cond.fieldLink RX1 81 "HammerTowers$FaultFinder" "first" "I" ∈ uw := uw_t1 (List.mem_of_getElem? (i := 55) rfl) rfl
theorem tw1_56 : Cond.fieldLink RX10 329 "HammerTowers$FaultFinder" "first" "I" ∈ uw := uw_t1 (List.mem_of_getElem? (i := 56) rfl) rfl
theorem tw1_57 : Cond.fieldLink RX1 84 "HammerTowers$FaultFinder" "second" "I" ∈ uw := uw_t1 (List.mem_of_getElem? (i := 57) rfl) rfl
theorem tw1_58 : Cond.fieldLink RX10 335 "HammerTowers$FaultFinder" "second" "I" ∈ uw := uw_t1 (List.mem_of_getElem? (i := 58) rfl) rfl
theorem tw1_59 : Cond.fieldLink RX1 48 "HammerTowers$FaultFinder" "fewest" "I" ∈ uw := uw_t1 (List.mem_of_getElem? (i := 59) rfl) rfl
theorem tw1_60 : Cond.fieldLink RX10 341 "HammerTowers$FaultFinder" "fewest" "I" ∈ uw := uw_t1 (List.mem_of_getElem? (i := 60) rfl) rfl
theorem tw1_61 : Cond.fieldLink RX1 45 "HammerTowers$FaultFinder" "fitting" "I" ∈ uw := uw_t1 (List.mem_of_getElem? (i := 61) rfl) rfl
theorem tw1_62 : Cond.fieldLink RX10 344 "HammerTowers$FaultFinder" "fitting" "I" ∈ uw := uw_t1 (List.mem_of_getElem? (i := 62) rfl) rfl
theorem tw1_63 : Cond.laysFinal RX1 "HammerTowers$FaultFinder" "heard" "[I" ∈ uw := uw_t1 (List.mem_of_getElem? (i := 63) rfl) rfl
theorem tw1_64 : Cond.soleField "HammerTowers$FaultFinder" "heard" ∈ uw := uw_t1 (List.mem_of_getElem? (i := 64) rfl) rfl
theorem tw1_65 : Cond.lays RX1 "HammerTowers$FaultFinder" "hour" "I" ∈ uw := uw_t1 (List.mem_of_getElem? (i := 65) rfl) rfl
theorem tw1_66 : Cond.soleField "HammerTowers$FaultFinder" "hour" ∈ uw := uw_t1 (List.mem_of_getElem? (i := 66) rfl) rfl
theorem tw1_67 : Cond.lays RX1 "HammerTowers$FaultFinder" "sort" "I" ∈ uw := uw_t1 (List.mem_of_getElem? (i := 67) rfl) rfl
theorem tw1_68 : Cond.soleField "HammerTowers$FaultFinder" "sort" ∈ uw := uw_t1 (List.mem_of_getElem? (i := 68) rfl) rfl
theorem tw1_69 : Cond.lays RX1 "HammerTowers$FaultFinder" "first" "I" ∈ uw := uw_t1 (List.mem_of_getElem? (i := 69) rfl) rfl
theorem tw1_70 : Cond.soleField "HammerTowers$FaultFinder" "first" ∈ uw := uw_t1 (List.mem_of_getElem? (i := 70) rfl) rfl
theorem tw1_71 : Cond.lays RX1 "HammerTowers$FaultFinder" "second" "I" ∈ uw := uw_t1 (List.mem_of_getElem? (i := 71) rfl) rfl
theorem tw1_72 : Cond.soleField "HammerTowers$FaultFinder" "second" ∈ uw := uw_t1 (List.mem_of_getElem? (i := 72) rfl) rfl
theorem tw1_73 : Cond.lays RX1 "HammerTowers$FaultFinder" "fewest" "I" ∈ uw := uw_t1 (List.mem_of_getElem? (i := 73) rfl) rfl
theorem tw1_74 : Cond.soleField "HammerTowers$FaultFinder" "fewest" ∈ uw := uw_t1 (List.mem_of_getElem? (i := 74) rfl) rfl
theorem tw1_75 : Cond.lays RX1 "HammerTowers$FaultFinder" "fitting" "I" ∈ uw := uw_t1 (List.mem_of_getElem? (i := 75) rfl) rfl
theorem tw1_76 : Cond.soleField "HammerTowers$FaultFinder" "fitting" ∈ uw := uw_t1 (List.mem_of_getElem? (i := 76) rfl) rfl
theorem tw1_77 : Cond.superclass RX1 "java/lang/Object" ∈ uw := uw_t1 (List.mem_of_getElem? (i := 77) rfl) rfl
theorem tw1_78 : Cond.classLink RX10 45 RX2 ∈ uw := uw_t1 (List.mem_of_getElem? (i := 78) rfl) rfl
theorem tw1_79 : Cond.instantiable RX2 9 ∈ uw := uw_t1 (List.mem_of_getElem? (i := 79) rfl) rfl
theorem tw1_80 : Cond.methodLinkNest RX10 47 yX2_init "HammerTowers" ∈ lw_tbl := lw_t1 (List.mem_of_getElem? (i := 80) rfl)
theorem tw1_81 : Cond.instanceMethod yX2_init ∈ uw := uw_t1 (List.mem_of_getElem? (i := 81) rfl) rfl
theorem tw1_82 : Cond.code yX2_init cX2_init 1 none ∈ uw := uw_t1 (List.mem_of_getElem? (i := 82) rfl) rfl
theorem tw1_83 : Cond.methodLink RX2 3 ⟨"java/lang/Object", "<init>", "()V"⟩ ∈ uw := uw_t1 (List.mem_of_getElem? (i := 83) rfl) rfl
theorem tw1_84 : Cond.fieldLink RX2 9 "HammerTowers$Gearing" "teeth" "[I" ∈ uw := uw_t1 (List.mem_of_getElem? (i := 84) rfl) rfl
theorem tw1_85 : Cond.fieldLink RX2 25 "HammerTowers$Gearing" "wheels" "I" ∈ uw := uw_t1 (List.mem_of_getElem? (i := 85) rfl) rfl
theorem tw1_86 : Cond.fieldLink RX10 350 "HammerTowers$Gearing" "wheels" "I" ∈ uw := uw_t1 (List.mem_of_getElem? (i := 86) rfl) rfl
theorem tw1_87 : Cond.fieldLink RX2 15 "HammerTowers$Gearing" "chosen" "[I" ∈ uw := uw_t1 (List.mem_of_getElem? (i := 87) rfl) rfl
theorem tw1_88 : Cond.fieldLink RX2 29 "HammerTowers$Gearing" "chosenCount" "I" ∈ uw := uw_t1 (List.mem_of_getElem? (i := 88) rfl) rfl
theorem tw1_89 : Cond.fieldLink RX2 32 "HammerTowers$Gearing" "dueUpper" "J" ∈ uw := uw_t1 (List.mem_of_getElem? (i := 89) rfl) rfl
theorem tw1_90 : Cond.fieldLink RX2 35 "HammerTowers$Gearing" "dueLower" "J" ∈ uw := uw_t1 (List.mem_of_getElem? (i := 90) rfl) rfl
theorem tw1_91 : Cond.fieldLink RX2 59 "HammerTowers$Gearing" "leastGap" "J" ∈ uw := uw_t1 (List.mem_of_getElem? (i := 91) rfl) rfl
theorem tw1_92 : Cond.fieldLink RX2 18 "HammerTowers$Gearing" "upper" "J" ∈ uw := uw_t1 (List.mem_of_getElem? (i := 92) rfl) rfl
theorem tw1_93 : Cond.fieldLink RX10 370 "HammerTowers$Gearing" "upper" "J" ∈ uw := uw_t1 (List.mem_of_getElem? (i := 93) rfl) rfl
theorem tw1_94 : Cond.fieldLink RX2 22 "HammerTowers$Gearing" "lower" "J" ∈ uw := uw_t1 (List.mem_of_getElem? (i := 94) rfl) rfl
theorem tw1_95 : Cond.fieldLink RX10 374 "HammerTowers$Gearing" "lower" "J" ∈ uw := uw_t1 (List.mem_of_getElem? (i := 95) rfl) rfl
theorem tw1_96 : Cond.laysFinal RX2 "HammerTowers$Gearing" "teeth" "[I" ∈ uw := uw_t1 (List.mem_of_getElem? (i := 96) rfl) rfl
theorem tw1_97 : Cond.soleField "HammerTowers$Gearing" "teeth" ∈ uw := uw_t1 (List.mem_of_getElem? (i := 97) rfl) rfl
theorem tw1_98 : Cond.lays RX2 "HammerTowers$Gearing" "wheels" "I" ∈ uw := uw_t1 (List.mem_of_getElem? (i := 98) rfl) rfl
theorem tw1_99 : Cond.soleField "HammerTowers$Gearing" "wheels" ∈ uw := uw_t1 (List.mem_of_getElem? (i := 99) rfl) rfl
theorem tw1_100 : Cond.laysFinal RX2 "HammerTowers$Gearing" "chosen" "[I" ∈ uw := uw_t1 (List.mem_of_getElem? (i := 100) rfl) rfl
theorem tw1_101 : Cond.soleField "HammerTowers$Gearing" "chosen" ∈ uw := uw_t1 (List.mem_of_getElem? (i := 101) rfl) rfl
theorem tw1_102 : Cond.lays RX2 "HammerTowers$Gearing" "chosenCount" "I" ∈ uw := uw_t1 (List.mem_of_getElem? (i := 102) rfl) rfl
theorem tw1_103 : Cond.soleField "HammerTowers$Gearing" "chosenCount" ∈ uw := uw_t1 (List.mem_of_getElem? (i := 103) rfl) rfl
theorem tw1_104 : Cond.lays RX2 "HammerTowers$Gearing" "dueUpper" "J" ∈ uw := uw_t1 (List.mem_of_getElem? (i := 104) rfl) rfl
theorem tw1_105 : Cond.soleField "HammerTowers$Gearing" "dueUpper" ∈ uw := uw_t1 (List.mem_of_getElem? (i := 105) rfl) rfl
theorem tw1_106 : Cond.lays RX2 "HammerTowers$Gearing" "dueLower" "J" ∈ uw := uw_t1 (List.mem_of_getElem? (i := 106) rfl) rfl
theorem tw1_107 : Cond.soleField "HammerTowers$Gearing" "dueLower" ∈ uw := uw_t1 (List.mem_of_getElem? (i := 107) rfl) rfl
theorem tw1_108 : Cond.lays RX2 "HammerTowers$Gearing" "leastGap" "J" ∈ uw := uw_t1 (List.mem_of_getElem? (i := 108) rfl) rfl
theorem tw1_109 : Cond.soleField "HammerTowers$Gearing" "leastGap" ∈ uw := uw_t1 (List.mem_of_getElem? (i := 109) rfl) rfl
theorem tw1_110 : Cond.lays RX2 "HammerTowers$Gearing" "upper" "J" ∈ uw := uw_t1 (List.mem_of_getElem? (i := 110) rfl) rfl
theorem tw1_111 : Cond.soleField "HammerTowers$Gearing" "upper" ∈ uw := uw_t1 (List.mem_of_getElem? (i := 111) rfl) rfl
theorem tw1_112 : Cond.lays RX2 "HammerTowers$Gearing" "lower" "J" ∈ uw := uw_t1 (List.mem_of_getElem? (i := 112) rfl) rfl
theorem tw1_113 : Cond.soleField "HammerTowers$Gearing" "lower" ∈ uw := uw_t1 (List.mem_of_getElem? (i := 113) rfl) rfl
theorem tw1_114 : Cond.superclass RX2 "java/lang/Object" ∈ uw := uw_t1 (List.mem_of_getElem? (i := 114) rfl) rfl
theorem tw1_115 : Cond.instantiable RX6 2 ∈ uw := uw_t1 (List.mem_of_getElem? (i := 115) rfl) rfl
theorem tw1_116 : Cond.methodLinkNest RX10 56 yX6_init "HammerTowers" ∈ lw_tbl := lw_t1 (List.mem_of_getElem? (i := 116) rfl)
theorem tw1_117 : Cond.instanceMethod yX6_init ∈ uw := uw_t1 (List.mem_of_getElem? (i := 117) rfl) rfl
theorem tw1_118 : Cond.code yX6_init cX6_init 1 none ∈ uw := uw_t1 (List.mem_of_getElem? (i := 118) rfl) rfl
theorem tw1_119 : Cond.methodLink RX6 3 ⟨"java/lang/Object", "<init>", "()V"⟩ ∈ uw := uw_t1 (List.mem_of_getElem? (i := 119) rfl) rfl
theorem tw1_120 : Cond.fieldLink RX6 9 "HammerTowers$Row" "bytes" "[B" ∈ uw := uw_t1 (List.mem_of_getElem? (i := 120) rfl) rfl
theorem tw1_121 : Cond.fieldLink RX10 88 "HammerTowers$Row" "bytes" "[B" ∈ uw := uw_t1 (List.mem_of_getElem? (i := 121) rfl) rfl
theorem tw1_122 : Cond.fieldLink RX6 15 "HammerTowers$Row" "size" "I" ∈ uw := uw_t1 (List.mem_of_getElem? (i := 122) rfl) rfl
theorem tw1_123 : Cond.fieldLink RX10 85 "HammerTowers$Row" "size" "I" ∈ uw := uw_t1 (List.mem_of_getElem? (i := 123) rfl) rfl
theorem tw1_124 : Cond.fieldLink RX1 29 "HammerTowers$Row" "size" "I" ∈ uw := uw_t1 (List.mem_of_getElem? (i := 124) rfl) rfl
theorem tw1_125 : Cond.laysFinal RX6 "HammerTowers$Row" "bytes" "[B" ∈ uw := uw_t1 (List.mem_of_getElem? (i := 125) rfl) rfl
theorem tw1_126 : Cond.soleField "HammerTowers$Row" "bytes" ∈ uw := uw_t1 (List.mem_of_getElem? (i := 126) rfl) rfl
theorem tw1_127 : Cond.lays RX6 "HammerTowers$Row" "size" "I" ∈ uw := uw_t1 (List.mem_of_getElem? (i := 127) rfl) rfl
theorem tw1_128 : Cond.soleField "HammerTowers$Row" "size" ∈ uw := uw_t1 (List.mem_of_getElem? (i := 128) rfl) rfl
theorem tw1_129 : Cond.superclass RX6 "java/lang/Object" ∈ uw := uw_t1 (List.mem_of_getElem? (i := 129) rfl) rfl
theorem tw1_130 : Cond.arrayClass .byte ∈ uw := uw_t1 (List.mem_of_getElem? (i := 130) rfl) rfl
theorem tw1_131 : Cond.instantiable RX8 12 ∈ uw := uw_t1 (List.mem_of_getElem? (i := 131) rfl) rfl
theorem tw1_132 : Cond.methodLinkNest RX10 57 yX8_init "HammerTowers" ∈ lw_tbl := lw_t1 (List.mem_of_getElem? (i := 132) rfl)
theorem tw1_133 : Cond.instanceMethod yX8_init ∈ uw := uw_t1 (List.mem_of_getElem? (i := 133) rfl) rfl
theorem tw1_134 : Cond.code yX8_init cX8_init 1 none ∈ uw := uw_t1 (List.mem_of_getElem? (i := 134) rfl) rfl
theorem tw1_135 : Cond.methodLink RX8 3 ⟨"java/lang/Object", "<init>", "()V"⟩ ∈ uw := uw_t1 (List.mem_of_getElem? (i := 135) rfl) rfl
theorem tw1_136 : Cond.classLink RX8 9 RX3 ∈ uw := uw_t1 (List.mem_of_getElem? (i := 136) rfl) rfl
theorem tw1_137 : Cond.instantiable RX3 6 ∈ uw := uw_t1 (List.mem_of_getElem? (i := 137) rfl) rfl
theorem tw1_138 : Cond.methodLinkNest RX8 11 yX3_init "HammerTowers" ∈ lw_tbl := lw_t1 (List.mem_of_getElem? (i := 138) rfl)
theorem tw1_139 : Cond.instanceMethod yX3_init ∈ uw := uw_t1 (List.mem_of_getElem? (i := 139) rfl) rfl
theorem tw1_140 : Cond.code yX3_init cX3_init 1 none ∈ uw := uw_t1 (List.mem_of_getElem? (i := 140) rfl) rfl
theorem tw1_141 : Cond.methodLink RX3 3 ⟨"java/lang/Object", "<init>", "()V"⟩ ∈ uw := uw_t1 (List.mem_of_getElem? (i := 141) rfl) rfl
theorem tw1_142 : Cond.fieldLink RX3 9 "HammerTowers$Log" "when" "[I" ∈ uw := uw_t1 (List.mem_of_getElem? (i := 142) rfl) rfl
theorem tw1_143 : Cond.fieldLink RX3 15 "HammerTowers$Log" "which" "[I" ∈ uw := uw_t1 (List.mem_of_getElem? (i := 143) rfl) rfl
theorem tw1_144 : Cond.fieldLink RX3 18 "HammerTowers$Log" "strokes" "[I" ∈ uw := uw_t1 (List.mem_of_getElem? (i := 144) rfl) rfl
theorem tw1_145 : Cond.fieldLink RX3 21 "HammerTowers$Log" "hammers" "[I" ∈ uw := uw_t1 (List.mem_of_getElem? (i := 145) rfl) rfl
theorem tw1_146 : Cond.fieldLink RX3 24 "HammerTowers$Log" "next" "I" ∈ uw := uw_t1 (List.mem_of_getElem? (i := 146) rfl) rfl
theorem tw1_147 : Cond.fieldLink RX3 28 "HammerTowers$Log" "size" "I" ∈ uw := uw_t1 (List.mem_of_getElem? (i := 147) rfl) rfl
theorem tw1_148 : Cond.fieldLink RX10 440 "HammerTowers$Log" "size" "I" ∈ uw := uw_t1 (List.mem_of_getElem? (i := 148) rfl) rfl
theorem tw1_149 : Cond.laysFinal RX3 "HammerTowers$Log" "when" "[I" ∈ uw := uw_t1 (List.mem_of_getElem? (i := 149) rfl) rfl
theorem tw1_150 : Cond.soleField "HammerTowers$Log" "when" ∈ uw := uw_t1 (List.mem_of_getElem? (i := 150) rfl) rfl
theorem tw1_151 : Cond.laysFinal RX3 "HammerTowers$Log" "which" "[I" ∈ uw := uw_t1 (List.mem_of_getElem? (i := 151) rfl) rfl
theorem tw1_152 : Cond.soleField "HammerTowers$Log" "which" ∈ uw := uw_t1 (List.mem_of_getElem? (i := 152) rfl) rfl
theorem tw1_153 : Cond.laysFinal RX3 "HammerTowers$Log" "strokes" "[I" ∈ uw := uw_t1 (List.mem_of_getElem? (i := 153) rfl) rfl
theorem tw1_154 : Cond.soleField "HammerTowers$Log" "strokes" ∈ uw := uw_t1 (List.mem_of_getElem? (i := 154) rfl) rfl
theorem tw1_155 : Cond.laysFinal RX3 "HammerTowers$Log" "hammers" "[I" ∈ uw := uw_t1 (List.mem_of_getElem? (i := 155) rfl) rfl
theorem tw1_156 : Cond.soleField "HammerTowers$Log" "hammers" ∈ uw := uw_t1 (List.mem_of_getElem? (i := 156) rfl) rfl
theorem tw1_157 : Cond.lays RX3 "HammerTowers$Log" "next" "I" ∈ uw := uw_t1 (List.mem_of_getElem? (i := 157) rfl) rfl
theorem tw1_158 : Cond.soleField "HammerTowers$Log" "next" ∈ uw := uw_t1 (List.mem_of_getElem? (i := 158) rfl) rfl
theorem tw1_159 : Cond.lays RX3 "HammerTowers$Log" "size" "I" ∈ uw := uw_t1 (List.mem_of_getElem? (i := 159) rfl) rfl
theorem tw1_160 : Cond.soleField "HammerTowers$Log" "size" ∈ uw := uw_t1 (List.mem_of_getElem? (i := 160) rfl) rfl
theorem tw1_161 : Cond.superclass RX3 "java/lang/Object" ∈ uw := uw_t1 (List.mem_of_getElem? (i := 161) rfl) rfl
theorem tw1_162 : Cond.fieldLink RX8 18 "HammerTowers$Tower" "there" "Z" ∈ uw := uw_t1 (List.mem_of_getElem? (i := 162) rfl) rfl
theorem tw1_163 : Cond.fieldLink RX10 185 "HammerTowers$Tower" "there" "Z" ∈ uw := uw_t1 (List.mem_of_getElem? (i := 163) rfl) rfl
theorem tw1_164 : Cond.fieldLink RX8 22 "HammerTowers$Tower" "hands" "I" ∈ uw := uw_t1 (List.mem_of_getElem? (i := 164) rfl) rfl
theorem tw1_165 : Cond.fieldLink RX10 206 "HammerTowers$Tower" "hands" "I" ∈ uw := uw_t1 (List.mem_of_getElem? (i := 165) rfl) rfl
theorem tw1_166 : Cond.fieldLink RX8 26 "HammerTowers$Tower" "rate" "I" ∈ uw := uw_t1 (List.mem_of_getElem? (i := 166) rfl) rfl
theorem tw1_167 : Cond.fieldLink RX10 217 "HammerTowers$Tower" "rate" "I" ∈ uw := uw_t1 (List.mem_of_getElem? (i := 167) rfl) rfl
theorem tw1_168 : Cond.fieldLink RX8 29 "HammerTowers$Tower" "sum" "I" ∈ uw := uw_t1 (List.mem_of_getElem? (i := 168) rfl) rfl
theorem tw1_169 : Cond.fieldLink RX10 247 "HammerTowers$Tower" "sum" "I" ∈ uw := uw_t1 (List.mem_of_getElem? (i := 169) rfl) rfl
theorem tw1_170 : Cond.fieldLink RX8 32 "HammerTowers$Tower" "going" "I" ∈ uw := uw_t1 (List.mem_of_getElem? (i := 170) rfl) rfl
theorem tw1_171 : Cond.fieldLink RX10 223 "HammerTowers$Tower" "going" "I" ∈ uw := uw_t1 (List.mem_of_getElem? (i := 171) rfl) rfl
theorem tw1_172 : Cond.fieldLink RX8 35 "HammerTowers$Tower" "goes" "Z" ∈ uw := uw_t1 (List.mem_of_getElem? (i := 172) rfl) rfl
theorem tw1_173 : Cond.fieldLink RX10 220 "HammerTowers$Tower" "goes" "Z" ∈ uw := uw_t1 (List.mem_of_getElem? (i := 173) rfl) rfl
theorem tw1_174 : Cond.fieldLink RX8 53 "HammerTowers$Tower" "hourTrain" "LHammerTowers$Train;" ∈ uw := uw_t1 (List.mem_of_getElem? (i := 174) rfl) rfl
theorem tw1_175 : Cond.fieldLink RX8 49 "HammerTowers$Tower" "quarterTrain" "LHammerTowers$Train;" ∈ uw := uw_t1 (List.mem_of_getElem? (i := 175) rfl) rfl
theorem tw1_176 : Cond.fieldLink RX8 75 "HammerTowers$Tower" "silentFrom" "I" ∈ uw := uw_t1 (List.mem_of_getElem? (i := 176) rfl) rfl
theorem tw1_177 : Cond.fieldLink RX8 78 "HammerTowers$Tower" "silentTo" "I" ∈ uw := uw_t1 (List.mem_of_getElem? (i := 177) rfl) rfl
theorem tw1_178 : Cond.fieldLink RX8 81 "HammerTowers$Tower" "silentSort" "I" ∈ uw := uw_t1 (List.mem_of_getElem? (i := 178) rfl) rfl
theorem tw1_179 : Cond.fieldLink RX8 12 "HammerTowers$Tower" "log" "LHammerTowers$Log;" ∈ uw := uw_t1 (List.mem_of_getElem? (i := 179) rfl) rfl
theorem tw1_180 : Cond.fieldLink RX10 260 "HammerTowers$Tower" "log" "LHammerTowers$Log;" ∈ uw := uw_t1 (List.mem_of_getElem? (i := 180) rfl) rfl
theorem tw1_181 : Cond.lays RX8 "HammerTowers$Tower" "there" "Z" ∈ uw := uw_t1 (List.mem_of_getElem? (i := 181) rfl) rfl
theorem tw1_182 : Cond.soleField "HammerTowers$Tower" "there" ∈ uw := uw_t1 (List.mem_of_getElem? (i := 182) rfl) rfl
theorem tw1_183 : Cond.lays RX8 "HammerTowers$Tower" "hands" "I" ∈ uw := uw_t1 (List.mem_of_getElem? (i := 183) rfl) rfl
theorem tw1_184 : Cond.soleField "HammerTowers$Tower" "hands" ∈ uw := uw_t1 (List.mem_of_getElem? (i := 184) rfl) rfl
theorem tw1_185 : Cond.lays RX8 "HammerTowers$Tower" "rate" "I" ∈ uw := uw_t1 (List.mem_of_getElem? (i := 185) rfl) rfl
theorem tw1_186 : Cond.soleField "HammerTowers$Tower" "rate" ∈ uw := uw_t1 (List.mem_of_getElem? (i := 186) rfl) rfl
theorem tw1_187 : Cond.lays RX8 "HammerTowers$Tower" "sum" "I" ∈ uw := uw_t1 (List.mem_of_getElem? (i := 187) rfl) rfl
theorem tw1_188 : Cond.soleField "HammerTowers$Tower" "sum" ∈ uw := uw_t1 (List.mem_of_getElem? (i := 188) rfl) rfl
theorem tw1_189 : Cond.lays RX8 "HammerTowers$Tower" "going" "I" ∈ uw := uw_t1 (List.mem_of_getElem? (i := 189) rfl) rfl
theorem tw1_190 : Cond.soleField "HammerTowers$Tower" "going" ∈ uw := uw_t1 (List.mem_of_getElem? (i := 190) rfl) rfl
theorem tw1_191 : Cond.lays RX8 "HammerTowers$Tower" "goes" "Z" ∈ uw := uw_t1 (List.mem_of_getElem? (i := 191) rfl) rfl
theorem tw1_192 : Cond.soleField "HammerTowers$Tower" "goes" ∈ uw := uw_t1 (List.mem_of_getElem? (i := 192) rfl) rfl
theorem tw1_193 : Cond.lays RX8 "HammerTowers$Tower" "hourTrain" "LHammerTowers$Train;" ∈ uw := uw_t1 (List.mem_of_getElem? (i := 193) rfl) rfl
theorem tw1_194 : Cond.soleField "HammerTowers$Tower" "hourTrain" ∈ uw := uw_t1 (List.mem_of_getElem? (i := 194) rfl) rfl
theorem tw1_195 : Cond.lays RX8 "HammerTowers$Tower" "quarterTrain" "LHammerTowers$Train;" ∈ uw := uw_t1 (List.mem_of_getElem? (i := 195) rfl) rfl
theorem tw1_196 : Cond.soleField "HammerTowers$Tower" "quarterTrain" ∈ uw := uw_t1 (List.mem_of_getElem? (i := 196) rfl) rfl
theorem tw1_197 : Cond.lays RX8 "HammerTowers$Tower" "silentFrom" "I" ∈ uw := uw_t1 (List.mem_of_getElem? (i := 197) rfl) rfl
theorem tw1_198 : Cond.soleField "HammerTowers$Tower" "silentFrom" ∈ uw := uw_t1 (List.mem_of_getElem? (i := 198) rfl) rfl
theorem tw1_199 : Cond.lays RX8 "HammerTowers$Tower" "silentTo" "I" ∈ uw := uw_t1 (List.mem_of_getElem? (i := 199) rfl) rfl
theorem tw1_200 : Cond.soleField "HammerTowers$Tower" "silentTo" ∈ uw := uw_t1 (List.mem_of_getElem? (i := 200) rfl) rfl
theorem tw1_201 : Cond.lays RX8 "HammerTowers$Tower" "silentSort" "I" ∈ uw := uw_t1 (List.mem_of_getElem? (i := 201) rfl) rfl
theorem tw1_202 : Cond.soleField "HammerTowers$Tower" "silentSort" ∈ uw := uw_t1 (List.mem_of_getElem? (i := 202) rfl) rfl
theorem tw1_203 : Cond.laysFinal RX8 "HammerTowers$Tower" "log" "LHammerTowers$Log;" ∈ uw := uw_t1 (List.mem_of_getElem? (i := 203) rfl) rfl
theorem tw1_204 : Cond.soleField "HammerTowers$Tower" "log" ∈ uw := uw_t1 (List.mem_of_getElem? (i := 204) rfl) rfl
theorem tw1_205 : Cond.superclass RX8 "java/lang/Object" ∈ uw := uw_t1 (List.mem_of_getElem? (i := 205) rfl) rfl
theorem tw1_206 : Cond.fieldLink RX10 11 "HammerTowers" "rows" "[LHammerTowers$Row;" ∈ uw := uw_t1 (List.mem_of_getElem? (i := 206) rfl) rfl
theorem tw1_207 : Cond.fieldLink RX10 17 "HammerTowers" "trains" "[LHammerTowers$Train;" ∈ uw := uw_t1 (List.mem_of_getElem? (i := 207) rfl) rfl
theorem tw1_208 : Cond.fieldLink RX10 98 "HammerTowers" "trainCount" "I" ∈ uw := uw_t1 (List.mem_of_getElem? (i := 208) rfl) rfl
theorem tw1_209 : Cond.fieldLink RX10 23 "HammerTowers" "towers" "[LHammerTowers$Tower;" ∈ uw := uw_t1 (List.mem_of_getElem? (i := 209) rfl) rfl
theorem tw1_210 : Cond.fieldLink RX10 236 "HammerTowers" "now" "I" ∈ uw := uw_t1 (List.mem_of_getElem? (i := 210) rfl) rfl
theorem tw1_211 : Cond.fieldLink RX10 30 "HammerTowers" "righting" "LHammerTowers$Righting;" ∈ uw := uw_t1 (List.mem_of_getElem? (i := 211) rfl) rfl
theorem tw1_212 : Cond.fieldLink RX10 37 "HammerTowers" "faults" "LHammerTowers$FaultFinder;" ∈ uw := uw_t1 (List.mem_of_getElem? (i := 212) rfl) rfl
theorem tw1_213 : Cond.fieldLink RX10 41 "HammerTowers" "faultSort" "I" ∈ uw := uw_t1 (List.mem_of_getElem? (i := 213) rfl) rfl
theorem tw1_214 : Cond.fieldLink RX10 332 "HammerTowers" "faultFirst" "I" ∈ uw := uw_t1 (List.mem_of_getElem? (i := 214) rfl) rfl
theorem tw1_215 : Cond.fieldLink RX10 338 "HammerTowers" "faultSecond" "I" ∈ uw := uw_t1 (List.mem_of_getElem? (i := 215) rfl) rfl
theorem tw1_216 : Cond.fieldLink RX10 48 "HammerTowers" "gearing" "LHammerTowers$Gearing;" ∈ uw := uw_t1 (List.mem_of_getElem? (i := 216) rfl) rfl
theorem tw1_217 : Cond.fieldLink RX10 297 "HammerTowers" "asked" "I" ∈ uw := uw_t1 (List.mem_of_getElem? (i := 217) rfl) rfl
theorem tw1_218 : Cond.fieldLink RX10 386 "HammerTowers" "finding" "I" ∈ uw := uw_t1 (List.mem_of_getElem? (i := 218) rfl) rfl
theorem tw1_219 : Cond.fieldLink RX10 52 "HammerTowers" "findingCounts" "[I" ∈ uw := uw_t1 (List.mem_of_getElem? (i := 219) rfl) rfl
theorem tw1_220 : Cond.laysFinal RX10 "HammerTowers" "rows" "[LHammerTowers$Row;" ∈ uw := uw_t1 (List.mem_of_getElem? (i := 220) rfl) rfl
theorem tw1_221 : Cond.soleField "HammerTowers" "rows" ∈ uw := uw_t1 (List.mem_of_getElem? (i := 221) rfl) rfl
theorem tw1_222 : Cond.laysFinal RX10 "HammerTowers" "trains" "[LHammerTowers$Train;" ∈ uw := uw_t1 (List.mem_of_getElem? (i := 222) rfl) rfl
theorem tw1_223 : Cond.soleField "HammerTowers" "trains" ∈ uw := uw_t1 (List.mem_of_getElem? (i := 223) rfl) rfl
theorem tw1_224 : Cond.lays RX10 "HammerTowers" "trainCount" "I" ∈ uw := uw_t1 (List.mem_of_getElem? (i := 224) rfl) rfl
theorem tw1_225 : Cond.soleField "HammerTowers" "trainCount" ∈ uw := uw_t1 (List.mem_of_getElem? (i := 225) rfl) rfl
theorem tw1_226 : Cond.laysFinal RX10 "HammerTowers" "towers" "[LHammerTowers$Tower;" ∈ uw := uw_t1 (List.mem_of_getElem? (i := 226) rfl) rfl
theorem tw1_227 : Cond.soleField "HammerTowers" "towers" ∈ uw := uw_t1 (List.mem_of_getElem? (i := 227) rfl) rfl
theorem tw1_228 : Cond.lays RX10 "HammerTowers" "now" "I" ∈ uw := uw_t1 (List.mem_of_getElem? (i := 228) rfl) rfl
theorem tw1_229 : Cond.soleField "HammerTowers" "now" ∈ uw := uw_t1 (List.mem_of_getElem? (i := 229) rfl) rfl
theorem tw1_230 : Cond.laysFinal RX10 "HammerTowers" "righting" "LHammerTowers$Righting;" ∈ uw := uw_t1 (List.mem_of_getElem? (i := 230) rfl) rfl
theorem tw1_231 : Cond.soleField "HammerTowers" "righting" ∈ uw := uw_t1 (List.mem_of_getElem? (i := 231) rfl) rfl
theorem tw1_232 : Cond.laysFinal RX10 "HammerTowers" "faults" "LHammerTowers$FaultFinder;" ∈ uw := uw_t1 (List.mem_of_getElem? (i := 232) rfl) rfl
theorem tw1_233 : Cond.soleField "HammerTowers" "faults" ∈ uw := uw_t1 (List.mem_of_getElem? (i := 233) rfl) rfl
theorem tw1_234 : Cond.lays RX10 "HammerTowers" "faultSort" "I" ∈ uw := uw_t1 (List.mem_of_getElem? (i := 234) rfl) rfl
theorem tw1_235 : Cond.soleField "HammerTowers" "faultSort" ∈ uw := uw_t1 (List.mem_of_getElem? (i := 235) rfl) rfl
theorem tw1_236 : Cond.lays RX10 "HammerTowers" "faultFirst" "I" ∈ uw := uw_t1 (List.mem_of_getElem? (i := 236) rfl) rfl
theorem tw1_237 : Cond.soleField "HammerTowers" "faultFirst" ∈ uw := uw_t1 (List.mem_of_getElem? (i := 237) rfl) rfl
theorem tw1_238 : Cond.lays RX10 "HammerTowers" "faultSecond" "I" ∈ uw := uw_t1 (List.mem_of_getElem? (i := 238) rfl) rfl
theorem tw1_239 : Cond.soleField "HammerTowers" "faultSecond" ∈ uw := uw_t1 (List.mem_of_getElem? (i := 239) rfl) rfl
theorem tw2_0 : Cond.laysFinal RX10 "HammerTowers" "gearing" "LHammerTowers$Gearing;" ∈ uw := uw_t2 (List.mem_of_getElem? (i := 0) rfl) rfl
theorem tw2_1 : Cond.soleField "HammerTowers" "gearing" ∈ uw := uw_t2 (List.mem_of_getElem? (i := 1) rfl) rfl
theorem tw2_2 : Cond.lays RX10 "HammerTowers" "asked" "I" ∈ uw := uw_t2 (List.mem_of_getElem? (i := 2) rfl) rfl
theorem tw2_3 : Cond.soleField "HammerTowers" "asked" ∈ uw := uw_t2 (List.mem_of_getElem? (i := 3) rfl) rfl
theorem tw2_4 : Cond.lays RX10 "HammerTowers" "finding" "I" ∈ uw := uw_t2 (List.mem_of_getElem? (i := 4) rfl) rfl
theorem tw2_5 : Cond.soleField "HammerTowers" "finding" ∈ uw := uw_t2 (List.mem_of_getElem? (i := 5) rfl) rfl
theorem tw2_6 : Cond.laysFinal RX10 "HammerTowers" "findingCounts" "[I" ∈ uw := uw_t2 (List.mem_of_getElem? (i := 6) rfl) rfl
theorem tw2_7 : Cond.soleField "HammerTowers" "findingCounts" ∈ uw := uw_t2 (List.mem_of_getElem? (i := 7) rfl) rfl
theorem tw2_8 : Cond.superclass RX10 "java/lang/Object" ∈ uw := uw_t2 (List.mem_of_getElem? (i := 8) rfl) rfl
theorem tw2_9 : Cond.methodLink RL 13 yX10_row ∈ uw := uw_t2 (List.mem_of_getElem? (i := 9) rfl) rfl
theorem tw2_10 : Cond.instanceMethod yX10_row ∈ uw := uw_t2 (List.mem_of_getElem? (i := 10) rfl) rfl
theorem tw2_11 : Cond.selects RX10 yX10_row yX10_row ∈ uw := uw_t2 (List.mem_of_getElem? (i := 11) rfl) rfl
theorem tw2_12 : Cond.code yX10_row cX10_row 4 (some .int) ∈ uw := uw_t2 (List.mem_of_getElem? (i := 12) rfl) rfl
theorem tw2_13 : Cond.methodLink RX10 58 yX10_rowOf ∈ uw := uw_t2 (List.mem_of_getElem? (i := 13) rfl) rfl
theorem tw2_15 : Cond.instanceMethod yX10_rowOf ∈ uw := uw_t2 (List.mem_of_getElem? (i := 15) rfl) rfl
theorem tw2_16 : Cond.code yX10_rowOf cX10_rowOf 2 (some (.object "HammerTowers$Row")) ∈ uw := uw_t2 (List.mem_of_getElem? (i := 16) rfl) rfl
theorem tw2_17 : Cond.methodLink RX10 62 yX10_found ∈ uw := uw_t2 (List.mem_of_getElem? (i := 17) rfl) rfl
theorem tw2_19 : Cond.instanceMethod yX10_found ∈ uw := uw_t2 (List.mem_of_getElem? (i := 19) rfl) rfl
theorem tw2_20 : Cond.code yX10_found cX10_found 2 (some .int) ∈ uw := uw_t2 (List.mem_of_getElem? (i := 20) rfl) rfl
theorem tw2_21 : Cond.methodLink RX10 66 yX6_begin ∈ uw := uw_t2 (List.mem_of_getElem? (i := 21) rfl) rfl
theorem tw2_22 : Cond.instanceMethod yX6_begin ∈ uw := uw_t2 (List.mem_of_getElem? (i := 22) rfl) rfl
theorem tw2_23 : Cond.selects RX6 yX6_begin yX6_begin ∈ uw := uw_t2 (List.mem_of_getElem? (i := 23) rfl) rfl
theorem tw2_24 : Cond.code yX6_begin cX6_begin 2 none ∈ uw := uw_t2 (List.mem_of_getElem? (i := 24) rfl) rfl
theorem tw2_25 : Cond.methodLink RX6 19 yJ7_fill_031fb ∈ uw := uw_t2 (List.mem_of_getElem? (i := 25) rfl) rfl
theorem tw2_26 : Cond.static yJ7_fill_031fb ∈ uw := uw_t2 (List.mem_of_getElem? (i := 26) rfl) rfl
theorem tw2_27 : Cond.code yJ7_fill_031fb cJ7_fill_031fb 4 none ∈ uw := uw_t2 (List.mem_of_getElem? (i := 27) rfl) rfl
theorem tw2_28 : Cond.methodLink RL 18 yX10_lay ∈ uw := uw_t2 (List.mem_of_getElem? (i := 28) rfl) rfl
theorem tw2_29 : Cond.instanceMethod yX10_lay ∈ uw := uw_t2 (List.mem_of_getElem? (i := 29) rfl) rfl
theorem tw2_30 : Cond.selects RX10 yX10_lay yX10_lay ∈ uw := uw_t2 (List.mem_of_getElem? (i := 30) rfl) rfl
theorem tw2_31 : Cond.code yX10_lay cX10_lay 6 (some .int) ∈ uw := uw_t2 (List.mem_of_getElem? (i := 31) rfl) rfl
theorem tw2_32 : Cond.methodLink RX10 70 yX6_isThere ∈ uw := uw_t2 (List.mem_of_getElem? (i := 32) rfl) rfl
theorem tw2_33 : Cond.instanceMethod yX6_isThere ∈ uw := uw_t2 (List.mem_of_getElem? (i := 33) rfl) rfl
theorem tw2_34 : Cond.selects RX6 yX6_isThere yX6_isThere ∈ uw := uw_t2 (List.mem_of_getElem? (i := 34) rfl) rfl
theorem tw2_35 : Cond.code yX6_isThere cX6_isThere 1 (some .boolean) ∈ uw := uw_t2 (List.mem_of_getElem? (i := 35) rfl) rfl
theorem tw2_36 : Cond.methodLink RX10 74 yX6_hasRun ∈ uw := uw_t2 (List.mem_of_getElem? (i := 36) rfl) rfl
theorem tw2_37 : Cond.instanceMethod yX6_hasRun ∈ uw := uw_t2 (List.mem_of_getElem? (i := 37) rfl) rfl
theorem tw2_38 : Cond.selects RX6 yX6_hasRun yX6_hasRun ∈ uw := uw_t2 (List.mem_of_getElem? (i := 38) rfl) rfl
theorem tw2_39 : Cond.code yX6_hasRun cX6_hasRun 3 (some .boolean) ∈ uw := uw_t2 (List.mem_of_getElem? (i := 39) rfl) rfl
theorem tw2_40 : Cond.methodLink RX10 78 yX6_at ∈ uw := uw_t2 (List.mem_of_getElem? (i := 40) rfl) rfl
theorem tw2_41 : Cond.instanceMethod yX6_at ∈ uw := uw_t2 (List.mem_of_getElem? (i := 41) rfl) rfl
theorem tw2_42 : Cond.selects RX6 yX6_at yX6_at ∈ uw := uw_t2 (List.mem_of_getElem? (i := 42) rfl) rfl
theorem tw2_43 : Cond.code yX6_at cX6_at 2 (some .int) ∈ uw := uw_t2 (List.mem_of_getElem? (i := 43) rfl) rfl
theorem tw2_44 : Cond.methodLink RX10 81 yX6_set ∈ uw := uw_t2 (List.mem_of_getElem? (i := 44) rfl) rfl
theorem tw2_45 : Cond.instanceMethod yX6_set ∈ uw := uw_t2 (List.mem_of_getElem? (i := 45) rfl) rfl
theorem tw2_46 : Cond.selects RX6 yX6_set yX6_set ∈ uw := uw_t2 (List.mem_of_getElem? (i := 46) rfl) rfl
theorem tw2_47 : Cond.code yX6_set cX6_set 3 none ∈ uw := uw_t2 (List.mem_of_getElem? (i := 47) rfl) rfl
theorem tw2_48 : Cond.methodLink RL 23 yX10_tear ∈ uw := uw_t2 (List.mem_of_getElem? (i := 48) rfl) rfl
theorem tw2_49 : Cond.instanceMethod yX10_tear ∈ uw := uw_t2 (List.mem_of_getElem? (i := 49) rfl) rfl
theorem tw2_50 : Cond.selects RX10 yX10_tear yX10_tear ∈ uw := uw_t2 (List.mem_of_getElem? (i := 50) rfl) rfl
theorem tw2_51 : Cond.code yX10_tear cX10_tear 3 (some .int) ∈ uw := uw_t2 (List.mem_of_getElem? (i := 51) rfl) rfl
theorem tw2_52 : Cond.methodLink RL 28 yX10_copy ∈ uw := uw_t2 (List.mem_of_getElem? (i := 52) rfl) rfl
theorem tw2_53 : Cond.instanceMethod yX10_copy ∈ uw := uw_t2 (List.mem_of_getElem? (i := 53) rfl) rfl
theorem tw2_54 : Cond.selects RX10 yX10_copy yX10_copy ∈ uw := uw_t2 (List.mem_of_getElem? (i := 54) rfl) rfl
theorem tw2_55 : Cond.code yX10_copy cX10_copy 8 (some .int) ∈ uw := uw_t2 (List.mem_of_getElem? (i := 55) rfl) rfl
theorem tw2_56 : Cond.methodLink RX10 92 ⟨"java/lang/System", "arraycopy", "(Ljava/lang/Object;ILjava/lang/Object;II)V"⟩ ∈ uw := uw_t2 (List.mem_of_getElem? (i := 56) rfl) rfl
theorem tw2_57 : Cond.static ⟨"java/lang/System", "arraycopy", "(Ljava/lang/Object;ILjava/lang/Object;II)V"⟩ ∈ uw := uw_t2 (List.mem_of_getElem? (i := 57) rfl) rfl
theorem tw2_58 : Cond.native ⟨"java/lang/System", "arraycopy", "(Ljava/lang/Object;ILjava/lang/Object;II)V"⟩ ∈ uw := uw_t2 (List.mem_of_getElem? (i := 58) rfl) rfl
theorem tw2_59 : Cond.methodLink RL 33 yX10_train ∈ uw := uw_t2 (List.mem_of_getElem? (i := 59) rfl) rfl
theorem tw2_60 : Cond.instanceMethod yX10_train ∈ uw := uw_t2 (List.mem_of_getElem? (i := 60) rfl) rfl
theorem tw2_61 : Cond.selects RX10 yX10_train yX10_train ∈ uw := uw_t2 (List.mem_of_getElem? (i := 61) rfl) rfl
theorem tw2_62 : Cond.code yX10_train cX10_train 1 (some .int) ∈ uw := uw_t2 (List.mem_of_getElem? (i := 62) rfl) rfl
theorem tw2_63 : Cond.instantiable RX9 14 ∈ uw := uw_t2 (List.mem_of_getElem? (i := 63) rfl) rfl
theorem tw2_64 : Cond.methodLink RX10 101 yX9_init ∈ uw := uw_t2 (List.mem_of_getElem? (i := 64) rfl) rfl
theorem tw2_65 : Cond.instanceMethod yX9_init ∈ uw := uw_t2 (List.mem_of_getElem? (i := 65) rfl) rfl
theorem tw2_66 : Cond.code yX9_init cX9_init 4 none ∈ uw := uw_t2 (List.mem_of_getElem? (i := 66) rfl) rfl
theorem tw2_67 : Cond.methodLink RX9 3 ⟨"java/lang/Object", "<init>", "()V"⟩ ∈ uw := uw_t2 (List.mem_of_getElem? (i := 67) rfl) rfl
theorem tw2_68 : Cond.fieldLink RX9 24 "HammerTowers$Train" "number" "I" ∈ uw := uw_t2 (List.mem_of_getElem? (i := 68) rfl) rfl
theorem tw2_69 : Cond.fieldLink RX3 31 "HammerTowers$Train" "number" "I" ∈ uw := uw_t2 (List.mem_of_getElem? (i := 69) rfl) rfl
theorem tw2_70 : Cond.fieldLink RX8 60 "HammerTowers$Train" "number" "I" ∈ uw := uw_t2 (List.mem_of_getElem? (i := 70) rfl) rfl
theorem tw2_71 : Cond.fieldLink RX10 406 "HammerTowers$Train" "number" "I" ∈ uw := uw_t2 (List.mem_of_getElem? (i := 71) rfl) rfl
theorem tw2_72 : Cond.fieldLink RX9 27 "HammerTowers$Train" "kind" "I" ∈ uw := uw_t2 (List.mem_of_getElem? (i := 72) rfl) rfl
theorem tw2_73 : Cond.fieldLink RX10 146 "HammerTowers$Train" "kind" "I" ∈ uw := uw_t2 (List.mem_of_getElem? (i := 73) rfl) rfl
theorem tw2_74 : Cond.fieldLink RX9 30 "HammerTowers$Train" "strokes" "[I" ∈ uw := uw_t2 (List.mem_of_getElem? (i := 74) rfl) rfl
theorem tw2_75 : Cond.fieldLink RX4 13 "HammerTowers$Plate" "strokes" "[I" ∈ uw := uw_t2 (List.mem_of_getElem? (i := 75) rfl) rfl
theorem tw2_76 : Cond.sameField "HammerTowers$Plate" "HammerTowers$Train" "strokes" "[I" ∈ uw := uw_t2 (List.mem_of_getElem? (i := 76) rfl) rfl
theorem tw2_77 : Cond.fieldLink RX10 149 "HammerTowers$Train" "strokes" "[I" ∈ uw := uw_t2 (List.mem_of_getElem? (i := 77) rfl) rfl
theorem tw2_78 : Cond.fieldLink RX10 289 "HammerTowers$Plate" "strokes" "[I" ∈ uw := uw_t2 (List.mem_of_getElem? (i := 78) rfl) rfl
theorem tw2_79 : Cond.fieldLink RX9 9 "HammerTowers$Train" "pace" "I" ∈ uw := uw_t2 (List.mem_of_getElem? (i := 79) rfl) rfl
theorem tw2_80 : Cond.fieldLink RX10 137 "HammerTowers$Train" "pace" "I" ∈ uw := uw_t2 (List.mem_of_getElem? (i := 80) rfl) rfl
theorem tw2_81 : Cond.fieldLink RX8 96 "HammerTowers$Train" "pace" "I" ∈ uw := uw_t2 (List.mem_of_getElem? (i := 81) rfl) rfl
theorem tw2_82 : Cond.fieldLink RX9 15 "HammerTowers$Train" "fall" "I" ∈ uw := uw_t2 (List.mem_of_getElem? (i := 82) rfl) rfl
theorem tw2_83 : Cond.fieldLink RX10 140 "HammerTowers$Train" "fall" "I" ∈ uw := uw_t2 (List.mem_of_getElem? (i := 83) rfl) rfl
theorem tw2_84 : Cond.fieldLink RX9 18 "HammerTowers$Train" "weight" "I" ∈ uw := uw_t2 (List.mem_of_getElem? (i := 84) rfl) rfl
theorem tw2_85 : Cond.fieldLink RX10 134 "HammerTowers$Train" "weight" "I" ∈ uw := uw_t2 (List.mem_of_getElem? (i := 85) rfl) rfl
theorem tw2_86 : Cond.fieldLink RX9 54 "HammerTowers$Train" "broken" "I" ∈ uw := uw_t2 (List.mem_of_getElem? (i := 86) rfl) rfl
theorem tw2_87 : Cond.fieldLink RX10 143 "HammerTowers$Train" "broken" "I" ∈ uw := uw_t2 (List.mem_of_getElem? (i := 87) rfl) rfl
theorem tw2_88 : Cond.fieldLink RX7 15 "HammerTowers$Snail" "due" "I" ∈ uw := uw_t2 (List.mem_of_getElem? (i := 88) rfl) rfl
theorem tw2_89 : Cond.sameField "HammerTowers$Snail" "HammerTowers$Train" "due" "I" ∈ uw := uw_t2 (List.mem_of_getElem? (i := 89) rfl) rfl
theorem tw2_90 : Cond.fieldLink RX9 34 "HammerTowers$Train" "due" "I" ∈ uw := uw_t2 (List.mem_of_getElem? (i := 90) rfl) rfl
theorem tw2_91 : Cond.fieldLink RX4 17 "HammerTowers$Plate" "due" "I" ∈ uw := uw_t2 (List.mem_of_getElem? (i := 91) rfl) rfl
theorem tw2_92 : Cond.sameField "HammerTowers$Plate" "HammerTowers$Train" "due" "I" ∈ uw := uw_t2 (List.mem_of_getElem? (i := 92) rfl) rfl
theorem tw2_93 : Cond.fieldLink RX10 156 "HammerTowers$Train" "due" "I" ∈ uw := uw_t2 (List.mem_of_getElem? (i := 93) rfl) rfl
theorem tw2_94 : Cond.fieldLink RX8 121 "HammerTowers$Train" "due" "I" ∈ uw := uw_t2 (List.mem_of_getElem? (i := 94) rfl) rfl
theorem tw2_95 : Cond.fieldLink RX9 57 "HammerTowers$Train" "struck" "I" ∈ uw := uw_t2 (List.mem_of_getElem? (i := 95) rfl) rfl
theorem tw2_96 : Cond.fieldLink RX10 162 "HammerTowers$Train" "struck" "I" ∈ uw := uw_t2 (List.mem_of_getElem? (i := 96) rfl) rfl
theorem tw2_97 : Cond.fieldLink RX9 21 "HammerTowers$Train" "tower" "I" ∈ uw := uw_t2 (List.mem_of_getElem? (i := 97) rfl) rfl
theorem tw2_98 : Cond.fieldLink RX8 68 "HammerTowers$Train" "tower" "I" ∈ uw := uw_t2 (List.mem_of_getElem? (i := 98) rfl) rfl
theorem tw2_99 : Cond.fieldLink RX10 159 "HammerTowers$Train" "tower" "I" ∈ uw := uw_t2 (List.mem_of_getElem? (i := 99) rfl) rfl
theorem tw2_100 : Cond.fieldLink RX8 65 "HammerTowers$Train" "warned" "Z" ∈ uw := uw_t2 (List.mem_of_getElem? (i := 100) rfl) rfl
theorem tw2_101 : Cond.fieldLink RX9 41 "HammerTowers$Train" "warned" "Z" ∈ uw := uw_t2 (List.mem_of_getElem? (i := 101) rfl) rfl
theorem tw2_102 : Cond.fieldLink RX7 19 "HammerTowers$Snail" "lifts" "Z" ∈ uw := uw_t2 (List.mem_of_getElem? (i := 102) rfl) rfl
theorem tw2_103 : Cond.sameField "HammerTowers$Snail" "HammerTowers$Train" "lifts" "Z" ∈ uw := uw_t2 (List.mem_of_getElem? (i := 103) rfl) rfl
theorem tw2_104 : Cond.fieldLink RX9 37 "HammerTowers$Train" "lifts" "Z" ∈ uw := uw_t2 (List.mem_of_getElem? (i := 104) rfl) rfl
theorem tw2_105 : Cond.fieldLink RX4 24 "HammerTowers$Plate" "lifts" "Z" ∈ uw := uw_t2 (List.mem_of_getElem? (i := 105) rfl) rfl
theorem tw2_106 : Cond.sameField "HammerTowers$Plate" "HammerTowers$Train" "lifts" "Z" ∈ uw := uw_t2 (List.mem_of_getElem? (i := 106) rfl) rfl
theorem tw2_107 : Cond.fieldLink RX8 135 "HammerTowers$Train" "lifts" "Z" ∈ uw := uw_t2 (List.mem_of_getElem? (i := 107) rfl) rfl
theorem tw2_108 : Cond.fieldLink RX3 36 "HammerTowers$Train" "heardStrokes" "I" ∈ uw := uw_t2 (List.mem_of_getElem? (i := 108) rfl) rfl
theorem tw2_109 : Cond.fieldLink RX9 44 "HammerTowers$Train" "heardStrokes" "I" ∈ uw := uw_t2 (List.mem_of_getElem? (i := 109) rfl) rfl
theorem tw2_110 : Cond.fieldLink RX8 128 "HammerTowers$Train" "heardStrokes" "I" ∈ uw := uw_t2 (List.mem_of_getElem? (i := 110) rfl) rfl
theorem tw2_111 : Cond.fieldLink RX3 39 "HammerTowers$Train" "heardHammers" "I" ∈ uw := uw_t2 (List.mem_of_getElem? (i := 111) rfl) rfl
theorem tw2_112 : Cond.fieldLink RX9 47 "HammerTowers$Train" "heardHammers" "I" ∈ uw := uw_t2 (List.mem_of_getElem? (i := 112) rfl) rfl
theorem tw2_113 : Cond.laysFinal RX9 "HammerTowers$Train" "number" "I" ∈ uw := uw_t2 (List.mem_of_getElem? (i := 113) rfl) rfl
theorem tw2_114 : Cond.soleField "HammerTowers$Train" "number" ∈ uw := uw_t2 (List.mem_of_getElem? (i := 114) rfl) rfl
theorem tw2_115 : Cond.laysFinal RX9 "HammerTowers$Train" "kind" "I" ∈ uw := uw_t2 (List.mem_of_getElem? (i := 115) rfl) rfl
theorem tw2_116 : Cond.soleField "HammerTowers$Train" "kind" ∈ uw := uw_t2 (List.mem_of_getElem? (i := 116) rfl) rfl
theorem tw2_117 : Cond.laysFinal RX9 "HammerTowers$Train" "strokes" "[I" ∈ uw := uw_t2 (List.mem_of_getElem? (i := 117) rfl) rfl
theorem tw2_118 : Cond.soleField "HammerTowers$Train" "strokes" ∈ uw := uw_t2 (List.mem_of_getElem? (i := 118) rfl) rfl
theorem tw2_119 : Cond.lays RX9 "HammerTowers$Train" "pace" "I" ∈ uw := uw_t2 (List.mem_of_getElem? (i := 119) rfl) rfl
theorem tw2_120 : Cond.soleField "HammerTowers$Train" "pace" ∈ uw := uw_t2 (List.mem_of_getElem? (i := 120) rfl) rfl
theorem tw2_121 : Cond.lays RX9 "HammerTowers$Train" "fall" "I" ∈ uw := uw_t2 (List.mem_of_getElem? (i := 121) rfl) rfl
theorem tw2_122 : Cond.soleField "HammerTowers$Train" "fall" ∈ uw := uw_t2 (List.mem_of_getElem? (i := 122) rfl) rfl
theorem tw2_123 : Cond.lays RX9 "HammerTowers$Train" "weight" "I" ∈ uw := uw_t2 (List.mem_of_getElem? (i := 123) rfl) rfl
theorem tw2_124 : Cond.soleField "HammerTowers$Train" "weight" ∈ uw := uw_t2 (List.mem_of_getElem? (i := 124) rfl) rfl
theorem tw2_125 : Cond.lays RX9 "HammerTowers$Train" "broken" "I" ∈ uw := uw_t2 (List.mem_of_getElem? (i := 125) rfl) rfl
theorem tw2_126 : Cond.soleField "HammerTowers$Train" "broken" ∈ uw := uw_t2 (List.mem_of_getElem? (i := 126) rfl) rfl
theorem tw2_127 : Cond.lays RX9 "HammerTowers$Train" "due" "I" ∈ uw := uw_t2 (List.mem_of_getElem? (i := 127) rfl) rfl
theorem tw2_128 : Cond.soleField "HammerTowers$Train" "due" ∈ uw := uw_t2 (List.mem_of_getElem? (i := 128) rfl) rfl
theorem tw2_129 : Cond.lays RX9 "HammerTowers$Train" "struck" "I" ∈ uw := uw_t2 (List.mem_of_getElem? (i := 129) rfl) rfl
theorem tw2_130 : Cond.soleField "HammerTowers$Train" "struck" ∈ uw := uw_t2 (List.mem_of_getElem? (i := 130) rfl) rfl
theorem tw2_131 : Cond.lays RX9 "HammerTowers$Train" "tower" "I" ∈ uw := uw_t2 (List.mem_of_getElem? (i := 131) rfl) rfl
theorem tw2_132 : Cond.soleField "HammerTowers$Train" "tower" ∈ uw := uw_t2 (List.mem_of_getElem? (i := 132) rfl) rfl
theorem tw2_133 : Cond.lays RX9 "HammerTowers$Train" "warned" "Z" ∈ uw := uw_t2 (List.mem_of_getElem? (i := 133) rfl) rfl
theorem tw2_134 : Cond.soleField "HammerTowers$Train" "warned" ∈ uw := uw_t2 (List.mem_of_getElem? (i := 134) rfl) rfl
theorem tw2_135 : Cond.lays RX9 "HammerTowers$Train" "lifts" "Z" ∈ uw := uw_t2 (List.mem_of_getElem? (i := 135) rfl) rfl
theorem tw2_136 : Cond.soleField "HammerTowers$Train" "lifts" ∈ uw := uw_t2 (List.mem_of_getElem? (i := 136) rfl) rfl
theorem tw2_137 : Cond.lays RX9 "HammerTowers$Train" "heardStrokes" "I" ∈ uw := uw_t2 (List.mem_of_getElem? (i := 137) rfl) rfl
theorem tw2_138 : Cond.soleField "HammerTowers$Train" "heardStrokes" ∈ uw := uw_t2 (List.mem_of_getElem? (i := 138) rfl) rfl
theorem tw2_139 : Cond.lays RX9 "HammerTowers$Train" "heardHammers" "I" ∈ uw := uw_t2 (List.mem_of_getElem? (i := 139) rfl) rfl
theorem tw2_140 : Cond.soleField "HammerTowers$Train" "heardHammers" ∈ uw := uw_t2 (List.mem_of_getElem? (i := 140) rfl) rfl
theorem tw2_141 : Cond.superclass RX9 "java/lang/Object" ∈ uw := uw_t2 (List.mem_of_getElem? (i := 141) rfl) rfl
theorem tw2_142 : Cond.methodLink RX10 104 yX10_keep ∈ uw := uw_t2 (List.mem_of_getElem? (i := 142) rfl) rfl
theorem tw2_144 : Cond.instanceMethod yX10_keep ∈ uw := uw_t2 (List.mem_of_getElem? (i := 144) rfl) rfl
theorem tw2_145 : Cond.code yX10_keep cX10_keep 2 (some .int) ∈ uw := uw_t2 (List.mem_of_getElem? (i := 145) rfl) rfl
theorem tw2_146 : Cond.methodLink RL 38 yX10_plate ∈ uw := uw_t2 (List.mem_of_getElem? (i := 146) rfl) rfl
theorem tw2_147 : Cond.instanceMethod yX10_plate ∈ uw := uw_t2 (List.mem_of_getElem? (i := 147) rfl) rfl
theorem tw2_148 : Cond.selects RX10 yX10_plate yX10_plate ∈ uw := uw_t2 (List.mem_of_getElem? (i := 148) rfl) rfl
theorem tw2_149 : Cond.code yX10_plate cX10_plate 4 (some .int) ∈ uw := uw_t2 (List.mem_of_getElem? (i := 149) rfl) rfl
theorem tw2_150 : Cond.methodLink RX10 108 yX10_refusalOfStrokes ∈ uw := uw_t2 (List.mem_of_getElem? (i := 150) rfl) rfl
theorem tw2_152 : Cond.instanceMethod yX10_refusalOfStrokes ∈ uw := uw_t2 (List.mem_of_getElem? (i := 152) rfl) rfl
theorem tw2_153 : Cond.code yX10_refusalOfStrokes cX10_refusalOfStrokes 5 (some .int) ∈ uw := uw_t2 (List.mem_of_getElem? (i := 153) rfl) rfl
theorem tw2_154 : Cond.methodLink RX10 409 yX6_isStrokes ∈ uw := uw_t2 (List.mem_of_getElem? (i := 154) rfl) rfl
theorem tw2_155 : Cond.instanceMethod yX6_isStrokes ∈ uw := uw_t2 (List.mem_of_getElem? (i := 155) rfl) rfl
theorem tw2_156 : Cond.selects RX6 yX6_isStrokes yX6_isStrokes ∈ uw := uw_t2 (List.mem_of_getElem? (i := 156) rfl) rfl
theorem tw2_157 : Cond.code yX6_isStrokes cX6_isStrokes 2 (some .boolean) ∈ uw := uw_t2 (List.mem_of_getElem? (i := 157) rfl) rfl
theorem tw2_158 : Cond.methodLink RX6 25 yX6_at ∈ uw := uw_t2 (List.mem_of_getElem? (i := 158) rfl) rfl
theorem tw2_159 : Cond.classLink RX10 112 RX4 ∈ uw := uw_t2 (List.mem_of_getElem? (i := 159) rfl) rfl
theorem tw2_160 : Cond.instantiable RX4 15 ∈ uw := uw_t2 (List.mem_of_getElem? (i := 160) rfl) rfl
theorem tw2_161 : Cond.methodLink RX10 114 yX6_asNumbers ∈ uw := uw_t2 (List.mem_of_getElem? (i := 161) rfl) rfl
theorem tw2_162 : Cond.instanceMethod yX6_asNumbers ∈ uw := uw_t2 (List.mem_of_getElem? (i := 162) rfl) rfl
theorem tw2_163 : Cond.selects RX6 yX6_asNumbers yX6_asNumbers ∈ uw := uw_t2 (List.mem_of_getElem? (i := 163) rfl) rfl
theorem tw2_164 : Cond.code yX6_asNumbers cX6_asNumbers 4 (some (.array .int)) ∈ uw := uw_t2 (List.mem_of_getElem? (i := 164) rfl) rfl
theorem tw2_165 : Cond.methodLink RX6 29 yJ9_max_7cf53 ∈ uw := uw_t2 (List.mem_of_getElem? (i := 165) rfl) rfl
theorem tw2_166 : Cond.static yJ9_max_7cf53 ∈ uw := uw_t2 (List.mem_of_getElem? (i := 166) rfl) rfl
theorem tw2_167 : Cond.code yJ9_max_7cf53 cJ9_max_7cf53 2 (some .int) ∈ uw := uw_t2 (List.mem_of_getElem? (i := 167) rfl) rfl
theorem tw2_168 : Cond.methodLink RX10 118 yX4_init ∈ uw := uw_t2 (List.mem_of_getElem? (i := 168) rfl) rfl
theorem tw2_169 : Cond.instanceMethod yX4_init ∈ uw := uw_t2 (List.mem_of_getElem? (i := 169) rfl) rfl
theorem tw2_170 : Cond.code yX4_init cX4_init 4 none ∈ uw := uw_t2 (List.mem_of_getElem? (i := 170) rfl) rfl
theorem tw2_171 : Cond.methodLink RX4 1 yX9_init ∈ uw := uw_t2 (List.mem_of_getElem? (i := 171) rfl) rfl
theorem tw2_172 : Cond.fieldLink RX4 7 "HammerTowers$Plate" "at" "I" ∈ uw := uw_t2 (List.mem_of_getElem? (i := 172) rfl) rfl
theorem tw2_173 : Cond.fieldLink RX5 15 "HammerTowers$Plate" "at" "I" ∈ uw := uw_t2 (List.mem_of_getElem? (i := 173) rfl) rfl
theorem tw2_174 : Cond.fieldLink RX10 179 "HammerTowers$Plate" "at" "I" ∈ uw := uw_t2 (List.mem_of_getElem? (i := 174) rfl) rfl
theorem tw2_175 : Cond.lays RX4 "HammerTowers$Plate" "at" "I" ∈ uw := uw_t2 (List.mem_of_getElem? (i := 175) rfl) rfl
theorem tw2_176 : Cond.soleField "HammerTowers$Plate" "at" ∈ uw := uw_t2 (List.mem_of_getElem? (i := 176) rfl) rfl
theorem tw2_177 : Cond.laysFinal RX4 "HammerTowers$Train" "number" "I" ∈ uw := uw_t2 (List.mem_of_getElem? (i := 177) rfl) rfl
theorem tw2_178 : Cond.laysFinal RX4 "HammerTowers$Train" "kind" "I" ∈ uw := uw_t2 (List.mem_of_getElem? (i := 178) rfl) rfl
theorem tw2_179 : Cond.laysFinal RX4 "HammerTowers$Train" "strokes" "[I" ∈ uw := uw_t2 (List.mem_of_getElem? (i := 179) rfl) rfl
theorem tw2_180 : Cond.lays RX4 "HammerTowers$Train" "pace" "I" ∈ uw := uw_t2 (List.mem_of_getElem? (i := 180) rfl) rfl
theorem tw2_181 : Cond.lays RX4 "HammerTowers$Train" "fall" "I" ∈ uw := uw_t2 (List.mem_of_getElem? (i := 181) rfl) rfl
theorem tw2_182 : Cond.lays RX4 "HammerTowers$Train" "weight" "I" ∈ uw := uw_t2 (List.mem_of_getElem? (i := 182) rfl) rfl
theorem tw2_183 : Cond.lays RX4 "HammerTowers$Train" "broken" "I" ∈ uw := uw_t2 (List.mem_of_getElem? (i := 183) rfl) rfl
theorem tw2_184 : Cond.lays RX4 "HammerTowers$Train" "due" "I" ∈ uw := uw_t2 (List.mem_of_getElem? (i := 184) rfl) rfl
theorem tw2_185 : Cond.lays RX4 "HammerTowers$Train" "struck" "I" ∈ uw := uw_t2 (List.mem_of_getElem? (i := 185) rfl) rfl
theorem tw2_186 : Cond.lays RX4 "HammerTowers$Train" "tower" "I" ∈ uw := uw_t2 (List.mem_of_getElem? (i := 186) rfl) rfl
theorem tw2_187 : Cond.lays RX4 "HammerTowers$Train" "warned" "Z" ∈ uw := uw_t2 (List.mem_of_getElem? (i := 187) rfl) rfl
theorem tw2_188 : Cond.lays RX4 "HammerTowers$Train" "lifts" "Z" ∈ uw := uw_t2 (List.mem_of_getElem? (i := 188) rfl) rfl
theorem tw2_189 : Cond.lays RX4 "HammerTowers$Train" "heardStrokes" "I" ∈ uw := uw_t2 (List.mem_of_getElem? (i := 189) rfl) rfl
theorem tw2_190 : Cond.lays RX4 "HammerTowers$Train" "heardHammers" "I" ∈ uw := uw_t2 (List.mem_of_getElem? (i := 190) rfl) rfl
theorem tw2_191 : Cond.superclass RX4 RX9 ∈ uw := uw_t2 (List.mem_of_getElem? (i := 191) rfl) rfl
theorem tw2_192 : Cond.methodLink RL 42 yX10_snail ∈ uw := uw_t2 (List.mem_of_getElem? (i := 192) rfl) rfl
theorem tw2_193 : Cond.instanceMethod yX10_snail ∈ uw := uw_t2 (List.mem_of_getElem? (i := 193) rfl) rfl
theorem tw2_194 : Cond.selects RX10 yX10_snail yX10_snail ∈ uw := uw_t2 (List.mem_of_getElem? (i := 194) rfl) rfl
theorem tw2_195 : Cond.code yX10_snail cX10_snail 4 (some .int) ∈ uw := uw_t2 (List.mem_of_getElem? (i := 195) rfl) rfl
theorem tw2_196 : Cond.classLink RX10 119 RX7 ∈ uw := uw_t2 (List.mem_of_getElem? (i := 196) rfl) rfl
theorem tw2_197 : Cond.instantiable RX7 14 ∈ uw := uw_t2 (List.mem_of_getElem? (i := 197) rfl) rfl
theorem tw2_198 : Cond.methodLink RX10 121 yX7_init ∈ uw := uw_t2 (List.mem_of_getElem? (i := 198) rfl) rfl
theorem tw2_199 : Cond.instanceMethod yX7_init ∈ uw := uw_t2 (List.mem_of_getElem? (i := 199) rfl) rfl
theorem tw2_200 : Cond.code yX7_init cX7_init 3 none ∈ uw := uw_t2 (List.mem_of_getElem? (i := 200) rfl) rfl
theorem tw2_201 : Cond.methodLink RX7 3 yX9_init ∈ uw := uw_t2 (List.mem_of_getElem? (i := 201) rfl) rfl
theorem tw2_202 : Cond.laysFinal RX7 "HammerTowers$Train" "number" "I" ∈ uw := uw_t2 (List.mem_of_getElem? (i := 202) rfl) rfl
theorem tw2_203 : Cond.laysFinal RX7 "HammerTowers$Train" "kind" "I" ∈ uw := uw_t2 (List.mem_of_getElem? (i := 203) rfl) rfl
theorem tw2_204 : Cond.laysFinal RX7 "HammerTowers$Train" "strokes" "[I" ∈ uw := uw_t2 (List.mem_of_getElem? (i := 204) rfl) rfl
theorem tw2_205 : Cond.lays RX7 "HammerTowers$Train" "pace" "I" ∈ uw := uw_t2 (List.mem_of_getElem? (i := 205) rfl) rfl
theorem tw2_206 : Cond.lays RX7 "HammerTowers$Train" "fall" "I" ∈ uw := uw_t2 (List.mem_of_getElem? (i := 206) rfl) rfl
theorem tw2_207 : Cond.lays RX7 "HammerTowers$Train" "weight" "I" ∈ uw := uw_t2 (List.mem_of_getElem? (i := 207) rfl) rfl
theorem tw2_208 : Cond.lays RX7 "HammerTowers$Train" "broken" "I" ∈ uw := uw_t2 (List.mem_of_getElem? (i := 208) rfl) rfl
theorem tw2_209 : Cond.lays RX7 "HammerTowers$Train" "due" "I" ∈ uw := uw_t2 (List.mem_of_getElem? (i := 209) rfl) rfl
theorem tw2_210 : Cond.lays RX7 "HammerTowers$Train" "struck" "I" ∈ uw := uw_t2 (List.mem_of_getElem? (i := 210) rfl) rfl
theorem tw2_211 : Cond.lays RX7 "HammerTowers$Train" "tower" "I" ∈ uw := uw_t2 (List.mem_of_getElem? (i := 211) rfl) rfl
theorem tw2_212 : Cond.lays RX7 "HammerTowers$Train" "warned" "Z" ∈ uw := uw_t2 (List.mem_of_getElem? (i := 212) rfl) rfl
theorem tw2_213 : Cond.lays RX7 "HammerTowers$Train" "lifts" "Z" ∈ uw := uw_t2 (List.mem_of_getElem? (i := 213) rfl) rfl
theorem tw2_214 : Cond.lays RX7 "HammerTowers$Train" "heardStrokes" "I" ∈ uw := uw_t2 (List.mem_of_getElem? (i := 214) rfl) rfl
theorem tw2_215 : Cond.lays RX7 "HammerTowers$Train" "heardHammers" "I" ∈ uw := uw_t2 (List.mem_of_getElem? (i := 215) rfl) rfl
theorem tw2_216 : Cond.superclass RX7 RX9 ∈ uw := uw_t2 (List.mem_of_getElem? (i := 216) rfl) rfl
theorem tw2_217 : Cond.methodLink RL 46 yX10_barrel ∈ uw := uw_t2 (List.mem_of_getElem? (i := 217) rfl) rfl
theorem tw2_218 : Cond.instanceMethod yX10_barrel ∈ uw := uw_t2 (List.mem_of_getElem? (i := 218) rfl) rfl
theorem tw2_219 : Cond.selects RX10 yX10_barrel yX10_barrel ∈ uw := uw_t2 (List.mem_of_getElem? (i := 219) rfl) rfl
theorem tw2_220 : Cond.code yX10_barrel cX10_barrel 6 (some .int) ∈ uw := uw_t2 (List.mem_of_getElem? (i := 220) rfl) rfl
theorem tw2_221 : Cond.classLink RX10 124 RX0 ∈ uw := uw_t2 (List.mem_of_getElem? (i := 221) rfl) rfl
theorem tw2_222 : Cond.instantiable RX0 17 ∈ uw := uw_t2 (List.mem_of_getElem? (i := 222) rfl) rfl
theorem tw2_223 : Cond.methodLink RX10 126 yX0_init ∈ uw := uw_t2 (List.mem_of_getElem? (i := 223) rfl) rfl
theorem tw2_224 : Cond.instanceMethod yX0_init ∈ uw := uw_t2 (List.mem_of_getElem? (i := 224) rfl) rfl
theorem tw2_225 : Cond.code yX0_init cX0_init 4 none ∈ uw := uw_t2 (List.mem_of_getElem? (i := 225) rfl) rfl
theorem tw2_226 : Cond.methodLink RX0 3 yX4_init ∈ uw := uw_t2 (List.mem_of_getElem? (i := 226) rfl) rfl
theorem tw2_227 : Cond.fieldLink RX0 9 "HammerTowers$Barrel" "pins" "[I" ∈ uw := uw_t2 (List.mem_of_getElem? (i := 227) rfl) rfl
theorem tw2_228 : Cond.fieldLink RX10 432 "HammerTowers$Barrel" "pins" "[I" ∈ uw := uw_t2 (List.mem_of_getElem? (i := 228) rfl) rfl
theorem tw2_229 : Cond.fieldLink RX0 15 "HammerTowers$Barrel" "pin" "I" ∈ uw := uw_t2 (List.mem_of_getElem? (i := 229) rfl) rfl
theorem tw2_230 : Cond.fieldLink RX10 171 "HammerTowers$Barrel" "pin" "I" ∈ uw := uw_t2 (List.mem_of_getElem? (i := 230) rfl) rfl
theorem tw2_231 : Cond.laysFinal RX0 "HammerTowers$Barrel" "pins" "[I" ∈ uw := uw_t2 (List.mem_of_getElem? (i := 231) rfl) rfl
theorem tw2_232 : Cond.soleField "HammerTowers$Barrel" "pins" ∈ uw := uw_t2 (List.mem_of_getElem? (i := 232) rfl) rfl
theorem tw2_233 : Cond.lays RX0 "HammerTowers$Barrel" "pin" "I" ∈ uw := uw_t2 (List.mem_of_getElem? (i := 233) rfl) rfl
theorem tw2_234 : Cond.soleField "HammerTowers$Barrel" "pin" ∈ uw := uw_t2 (List.mem_of_getElem? (i := 234) rfl) rfl
theorem tw2_235 : Cond.lays RX0 "HammerTowers$Plate" "at" "I" ∈ uw := uw_t2 (List.mem_of_getElem? (i := 235) rfl) rfl
theorem tw2_236 : Cond.laysFinal RX0 "HammerTowers$Train" "number" "I" ∈ uw := uw_t2 (List.mem_of_getElem? (i := 236) rfl) rfl
theorem tw2_237 : Cond.laysFinal RX0 "HammerTowers$Train" "kind" "I" ∈ uw := uw_t2 (List.mem_of_getElem? (i := 237) rfl) rfl
theorem tw2_238 : Cond.laysFinal RX0 "HammerTowers$Train" "strokes" "[I" ∈ uw := uw_t2 (List.mem_of_getElem? (i := 238) rfl) rfl
theorem tw2_239 : Cond.lays RX0 "HammerTowers$Train" "pace" "I" ∈ uw := uw_t2 (List.mem_of_getElem? (i := 239) rfl) rfl
theorem tw3_0 : Cond.lays RX0 "HammerTowers$Train" "fall" "I" ∈ uw := uw_t3 (List.mem_of_getElem? (i := 0) rfl) rfl
theorem tw3_1 : Cond.lays RX0 "HammerTowers$Train" "weight" "I" ∈ uw := uw_t3 (List.mem_of_getElem? (i := 1) rfl) rfl
theorem tw3_2 : Cond.lays RX0 "HammerTowers$Train" "broken" "I" ∈ uw := uw_t3 (List.mem_of_getElem? (i := 2) rfl) rfl
theorem tw3_3 : Cond.lays RX0 "HammerTowers$Train" "due" "I" ∈ uw := uw_t3 (List.mem_of_getElem? (i := 3) rfl) rfl
theorem tw3_4 : Cond.lays RX0 "HammerTowers$Train" "struck" "I" ∈ uw := uw_t3 (List.mem_of_getElem? (i := 4) rfl) rfl
theorem tw3_5 : Cond.lays RX0 "HammerTowers$Train" "tower" "I" ∈ uw := uw_t3 (List.mem_of_getElem? (i := 5) rfl) rfl
theorem tw3_6 : Cond.lays RX0 "HammerTowers$Train" "warned" "Z" ∈ uw := uw_t3 (List.mem_of_getElem? (i := 6) rfl) rfl
theorem tw3_7 : Cond.lays RX0 "HammerTowers$Train" "lifts" "Z" ∈ uw := uw_t3 (List.mem_of_getElem? (i := 7) rfl) rfl
theorem tw3_8 : Cond.lays RX0 "HammerTowers$Train" "heardStrokes" "I" ∈ uw := uw_t3 (List.mem_of_getElem? (i := 8) rfl) rfl
theorem tw3_9 : Cond.lays RX0 "HammerTowers$Train" "heardHammers" "I" ∈ uw := uw_t3 (List.mem_of_getElem? (i := 9) rfl) rfl
theorem tw3_10 : Cond.superclass RX0 RX4 ∈ uw := uw_t3 (List.mem_of_getElem? (i := 10) rfl) rfl
theorem tw3_11 : Cond.methodLink RL 50 yX10_gear ∈ uw := uw_t3 (List.mem_of_getElem? (i := 11) rfl) rfl
theorem tw3_12 : Cond.instanceMethod yX10_gear ∈ uw := uw_t3 (List.mem_of_getElem? (i := 12) rfl) rfl
theorem tw3_13 : Cond.selects RX10 yX10_gear yX10_gear ∈ uw := uw_t3 (List.mem_of_getElem? (i := 13) rfl) rfl
theorem tw3_14 : Cond.code yX10_gear cX10_gear 6 (some .int) ∈ uw := uw_t3 (List.mem_of_getElem? (i := 14) rfl) rfl
theorem tw3_15 : Cond.methodLink RX10 129 yX10_trainOf ∈ uw := uw_t3 (List.mem_of_getElem? (i := 15) rfl) rfl
theorem tw3_17 : Cond.instanceMethod yX10_trainOf ∈ uw := uw_t3 (List.mem_of_getElem? (i := 17) rfl) rfl
theorem tw3_18 : Cond.code yX10_trainOf cX10_trainOf 2 (some (.object "HammerTowers$Train")) ∈ uw := uw_t3 (List.mem_of_getElem? (i := 18) rfl) rfl
theorem tw3_19 : Cond.constant RX10 133 (100000) ∈ uw := uw_t3 (List.mem_of_getElem? (i := 19) rfl) rfl
theorem tw3_20 : Cond.methodLink RL 54 yX10_wind ∈ uw := uw_t3 (List.mem_of_getElem? (i := 20) rfl) rfl
theorem tw3_21 : Cond.instanceMethod yX10_wind ∈ uw := uw_t3 (List.mem_of_getElem? (i := 21) rfl) rfl
theorem tw3_22 : Cond.selects RX10 yX10_wind yX10_wind ∈ uw := uw_t3 (List.mem_of_getElem? (i := 22) rfl) rfl
theorem tw3_23 : Cond.code yX10_wind cX10_wind 4 (some .int) ∈ uw := uw_t3 (List.mem_of_getElem? (i := 23) rfl) rfl
theorem tw3_24 : Cond.methodLink RL 58 yX10_broken ∈ uw := uw_t3 (List.mem_of_getElem? (i := 24) rfl) rfl
theorem tw3_25 : Cond.instanceMethod yX10_broken ∈ uw := uw_t3 (List.mem_of_getElem? (i := 25) rfl) rfl
theorem tw3_26 : Cond.selects RX10 yX10_broken yX10_broken ∈ uw := uw_t3 (List.mem_of_getElem? (i := 26) rfl) rfl
theorem tw3_27 : Cond.code yX10_broken cX10_broken 5 (some .int) ∈ uw := uw_t3 (List.mem_of_getElem? (i := 27) rfl) rfl
theorem tw3_28 : Cond.methodLink RL 62 yX10_told ∈ uw := uw_t3 (List.mem_of_getElem? (i := 28) rfl) rfl
theorem tw3_29 : Cond.instanceMethod yX10_told ∈ uw := uw_t3 (List.mem_of_getElem? (i := 29) rfl) rfl
theorem tw3_30 : Cond.selects RX10 yX10_told yX10_told ∈ uw := uw_t3 (List.mem_of_getElem? (i := 30) rfl) rfl
theorem tw3_31 : Cond.code yX10_told cX10_told 4 (some .int) ∈ uw := uw_t3 (List.mem_of_getElem? (i := 31) rfl) rfl
theorem tw3_32 : Cond.methodLink RX10 152 yX9_stand ∈ uw := uw_t3 (List.mem_of_getElem? (i := 32) rfl) rfl
theorem tw3_33 : Cond.instanceMethod yX9_stand ∈ uw := uw_t3 (List.mem_of_getElem? (i := 33) rfl) rfl
theorem tw3_34 : Cond.selects RX9 yX9_stand yX9_stand ∈ uw := uw_t3 (List.mem_of_getElem? (i := 34) rfl) rfl
theorem tw3_35 : Cond.sameMethod "HammerTowers$Train" "HammerTowers$Train" "stand" "()I" ∈ uw := uw_t3 (List.mem_of_getElem? (i := 35) rfl) rfl
theorem tw3_36 : Cond.selects RX0 yX9_stand yX4_stand ∈ uw := uw_t3 (List.mem_of_getElem? (i := 36) rfl) rfl
theorem tw3_37 : Cond.instanceMethod yX4_stand ∈ uw := uw_t3 (List.mem_of_getElem? (i := 37) rfl) rfl
theorem tw3_38 : Cond.code yX4_stand cX4_stand 1 (some .int) ∈ uw := uw_t3 (List.mem_of_getElem? (i := 38) rfl) rfl
theorem tw3_39 : Cond.selects RX4 yX9_stand yX4_stand ∈ uw := uw_t3 (List.mem_of_getElem? (i := 39) rfl) rfl
theorem tw3_40 : Cond.selects RX7 yX9_stand yX9_stand ∈ uw := uw_t3 (List.mem_of_getElem? (i := 40) rfl) rfl
theorem tw3_41 : Cond.code yX9_stand cX9_stand 1 (some .int) ∈ uw := uw_t3 (List.mem_of_getElem? (i := 41) rfl) rfl
theorem tw3_42 : Cond.methodLink RL 66 yX10_mark ∈ uw := uw_t3 (List.mem_of_getElem? (i := 42) rfl) rfl
theorem tw3_43 : Cond.instanceMethod yX10_mark ∈ uw := uw_t3 (List.mem_of_getElem? (i := 43) rfl) rfl
theorem tw3_44 : Cond.selects RX10 yX10_mark yX10_mark ∈ uw := uw_t3 (List.mem_of_getElem? (i := 44) rfl) rfl
theorem tw3_45 : Cond.code yX10_mark cX10_mark 5 (some .int) ∈ uw := uw_t3 (List.mem_of_getElem? (i := 45) rfl) rfl
theorem tw3_46 : Cond.methodLink RX10 165 yX9_together ∈ uw := uw_t3 (List.mem_of_getElem? (i := 46) rfl) rfl
theorem tw3_47 : Cond.instanceMethod yX9_together ∈ uw := uw_t3 (List.mem_of_getElem? (i := 47) rfl) rfl
theorem tw3_48 : Cond.selects RX9 yX9_together yX9_together ∈ uw := uw_t3 (List.mem_of_getElem? (i := 48) rfl) rfl
theorem tw3_49 : Cond.sameMethod "HammerTowers$Train" "HammerTowers$Train" "together" "()I" ∈ uw := uw_t3 (List.mem_of_getElem? (i := 49) rfl) rfl
theorem tw3_50 : Cond.selects RX0 yX9_together yX9_together ∈ uw := uw_t3 (List.mem_of_getElem? (i := 50) rfl) rfl
theorem tw3_51 : Cond.selects RX4 yX9_together yX9_together ∈ uw := uw_t3 (List.mem_of_getElem? (i := 51) rfl) rfl
theorem tw3_52 : Cond.selects RX7 yX9_together yX9_together ∈ uw := uw_t3 (List.mem_of_getElem? (i := 52) rfl) rfl
theorem tw3_53 : Cond.code yX9_together cX9_together 3 (some .int) ∈ uw := uw_t3 (List.mem_of_getElem? (i := 53) rfl) rfl
theorem tw3_54 : Cond.methodLink RX10 168 yX9_greatest ∈ uw := uw_t3 (List.mem_of_getElem? (i := 54) rfl) rfl
theorem tw3_55 : Cond.instanceMethod yX9_greatest ∈ uw := uw_t3 (List.mem_of_getElem? (i := 55) rfl) rfl
theorem tw3_56 : Cond.selects RX9 yX9_greatest yX9_greatest ∈ uw := uw_t3 (List.mem_of_getElem? (i := 56) rfl) rfl
theorem tw3_57 : Cond.sameMethod "HammerTowers$Train" "HammerTowers$Train" "greatest" "()I" ∈ uw := uw_t3 (List.mem_of_getElem? (i := 57) rfl) rfl
theorem tw3_58 : Cond.selects RX0 yX9_greatest yX9_greatest ∈ uw := uw_t3 (List.mem_of_getElem? (i := 58) rfl) rfl
theorem tw3_59 : Cond.selects RX4 yX9_greatest yX9_greatest ∈ uw := uw_t3 (List.mem_of_getElem? (i := 59) rfl) rfl
theorem tw3_60 : Cond.selects RX7 yX9_greatest yX9_greatest ∈ uw := uw_t3 (List.mem_of_getElem? (i := 60) rfl) rfl
theorem tw3_61 : Cond.code yX9_greatest cX9_greatest 3 (some .int) ∈ uw := uw_t3 (List.mem_of_getElem? (i := 61) rfl) rfl
theorem tw3_62 : Cond.methodLink RX9 60 yJ9_max_7cf53 ∈ uw := uw_t3 (List.mem_of_getElem? (i := 62) rfl) rfl
theorem tw3_63 : Cond.methodLink RL 70 yX10_notch ∈ uw := uw_t3 (List.mem_of_getElem? (i := 63) rfl) rfl
theorem tw3_64 : Cond.instanceMethod yX10_notch ∈ uw := uw_t3 (List.mem_of_getElem? (i := 64) rfl) rfl
theorem tw3_65 : Cond.selects RX10 yX10_notch yX10_notch ∈ uw := uw_t3 (List.mem_of_getElem? (i := 65) rfl) rfl
theorem tw3_66 : Cond.code yX10_notch cX10_notch 4 (some .int) ∈ uw := uw_t3 (List.mem_of_getElem? (i := 66) rfl) rfl
theorem tw3_67 : Cond.methodLink RX10 174 yX9_hasPlace ∈ uw := uw_t3 (List.mem_of_getElem? (i := 67) rfl) rfl
theorem tw3_68 : Cond.instanceMethod yX9_hasPlace ∈ uw := uw_t3 (List.mem_of_getElem? (i := 68) rfl) rfl
theorem tw3_69 : Cond.selects RX9 yX9_hasPlace yX9_hasPlace ∈ uw := uw_t3 (List.mem_of_getElem? (i := 69) rfl) rfl
theorem tw3_70 : Cond.sameMethod "HammerTowers$Train" "HammerTowers$Train" "hasPlace" "(I)Z" ∈ uw := uw_t3 (List.mem_of_getElem? (i := 70) rfl) rfl
theorem tw3_71 : Cond.selects RX0 yX9_hasPlace yX9_hasPlace ∈ uw := uw_t3 (List.mem_of_getElem? (i := 71) rfl) rfl
theorem tw3_72 : Cond.selects RX4 yX9_hasPlace yX9_hasPlace ∈ uw := uw_t3 (List.mem_of_getElem? (i := 72) rfl) rfl
theorem tw3_73 : Cond.selects RX7 yX9_hasPlace yX9_hasPlace ∈ uw := uw_t3 (List.mem_of_getElem? (i := 73) rfl) rfl
theorem tw3_74 : Cond.code yX9_hasPlace cX9_hasPlace 2 (some .boolean) ∈ uw := uw_t3 (List.mem_of_getElem? (i := 74) rfl) rfl
theorem tw3_75 : Cond.methodLink RL 74 yX10_cut ∈ uw := uw_t3 (List.mem_of_getElem? (i := 75) rfl) rfl
theorem tw3_76 : Cond.instanceMethod yX10_cut ∈ uw := uw_t3 (List.mem_of_getElem? (i := 76) rfl) rfl
theorem tw3_77 : Cond.selects RX10 yX10_cut yX10_cut ∈ uw := uw_t3 (List.mem_of_getElem? (i := 77) rfl) rfl
theorem tw3_78 : Cond.code yX10_cut cX10_cut 6 (some .int) ∈ uw := uw_t3 (List.mem_of_getElem? (i := 78) rfl) rfl
theorem tw3_79 : Cond.methodLink RL 78 yX10_put ∈ uw := uw_t3 (List.mem_of_getElem? (i := 79) rfl) rfl
theorem tw3_80 : Cond.instanceMethod yX10_put ∈ uw := uw_t3 (List.mem_of_getElem? (i := 80) rfl) rfl
theorem tw3_81 : Cond.selects RX10 yX10_put yX10_put ∈ uw := uw_t3 (List.mem_of_getElem? (i := 81) rfl) rfl
theorem tw3_82 : Cond.code yX10_put cX10_put 6 (some .int) ∈ uw := uw_t3 (List.mem_of_getElem? (i := 82) rfl) rfl
theorem tw3_83 : Cond.methodLink RX10 178 ⟨"HammerTowers$Plate", "hasPlace", "(I)Z"⟩ ∈ uw := uw_t3 (List.mem_of_getElem? (i := 83) rfl) rfl
theorem tw3_84 : Cond.sameMethod "HammerTowers$Plate" "HammerTowers$Train" "hasPlace" "(I)Z" ∈ uw := uw_t3 (List.mem_of_getElem? (i := 84) rfl) rfl
theorem tw3_85 : Cond.declares yX9_hasPlace ∈ lw_tbl := lw_t3 (List.mem_of_getElem? (i := 85) rfl)
theorem tw3_86 : Cond.selects RX0 ⟨"HammerTowers$Plate", "hasPlace", "(I)Z"⟩ yX9_hasPlace ∈ uw := uw_t3 (List.mem_of_getElem? (i := 86) rfl) rfl
theorem tw3_87 : Cond.selects RX4 ⟨"HammerTowers$Plate", "hasPlace", "(I)Z"⟩ yX9_hasPlace ∈ uw := uw_t3 (List.mem_of_getElem? (i := 87) rfl) rfl
theorem tw3_88 : Cond.methodLink RL 82 yX10_mean ∈ uw := uw_t3 (List.mem_of_getElem? (i := 88) rfl) rfl
theorem tw3_89 : Cond.instanceMethod yX10_mean ∈ uw := uw_t3 (List.mem_of_getElem? (i := 89) rfl) rfl
theorem tw3_90 : Cond.selects RX10 yX10_mean yX10_mean ∈ uw := uw_t3 (List.mem_of_getElem? (i := 90) rfl) rfl
theorem tw3_91 : Cond.code yX10_mean cX10_mean 4 (some .int) ∈ uw := uw_t3 (List.mem_of_getElem? (i := 91) rfl) rfl
theorem tw3_92 : Cond.methodLink RL 86 yX10_tower ∈ uw := uw_t3 (List.mem_of_getElem? (i := 92) rfl) rfl
theorem tw3_93 : Cond.instanceMethod yX10_tower ∈ uw := uw_t3 (List.mem_of_getElem? (i := 93) rfl) rfl
theorem tw3_94 : Cond.selects RX10 yX10_tower yX10_tower ∈ uw := uw_t3 (List.mem_of_getElem? (i := 94) rfl) rfl
theorem tw3_95 : Cond.code yX10_tower cX10_tower 4 (some .int) ∈ uw := uw_t3 (List.mem_of_getElem? (i := 95) rfl) rfl
theorem tw3_96 : Cond.methodLink RX10 181 yX10_towerOf ∈ uw := uw_t3 (List.mem_of_getElem? (i := 96) rfl) rfl
theorem tw3_98 : Cond.instanceMethod yX10_towerOf ∈ uw := uw_t3 (List.mem_of_getElem? (i := 98) rfl) rfl
theorem tw3_99 : Cond.code yX10_towerOf cX10_towerOf 2 (some (.object "HammerTowers$Tower")) ∈ uw := uw_t3 (List.mem_of_getElem? (i := 99) rfl) rfl
theorem tw3_100 : Cond.methodLink RX10 189 yX8_begin ∈ uw := uw_t3 (List.mem_of_getElem? (i := 100) rfl) rfl
theorem tw3_101 : Cond.instanceMethod yX8_begin ∈ uw := uw_t3 (List.mem_of_getElem? (i := 101) rfl) rfl
theorem tw3_102 : Cond.selects RX8 yX8_begin yX8_begin ∈ uw := uw_t3 (List.mem_of_getElem? (i := 102) rfl) rfl
theorem tw3_103 : Cond.code yX8_begin cX8_begin 1 none ∈ uw := uw_t3 (List.mem_of_getElem? (i := 103) rfl) rfl
theorem tw3_104 : Cond.methodLink RX8 38 yX8_release ∈ uw := uw_t3 (List.mem_of_getElem? (i := 104) rfl) rfl
theorem tw3_105 : Cond.instanceMethod yX8_release ∈ uw := uw_t3 (List.mem_of_getElem? (i := 105) rfl) rfl
theorem tw3_106 : Cond.selects RX8 yX8_release yX8_release ∈ uw := uw_t3 (List.mem_of_getElem? (i := 106) rfl) rfl
theorem tw3_107 : Cond.code yX8_release cX8_release 3 (some .int) ∈ uw := uw_t3 (List.mem_of_getElem? (i := 107) rfl) rfl
theorem tw3_108 : Cond.methodLink RX8 56 yX8_trainIn ∈ uw := uw_t3 (List.mem_of_getElem? (i := 108) rfl) rfl
theorem tw3_109 : Cond.instanceMethod yX8_trainIn ∈ uw := uw_t3 (List.mem_of_getElem? (i := 109) rfl) rfl
theorem tw3_110 : Cond.selects RX8 yX8_trainIn yX8_trainIn ∈ uw := uw_t3 (List.mem_of_getElem? (i := 110) rfl) rfl
theorem tw3_111 : Cond.code yX8_trainIn cX8_trainIn 2 (some (.object "HammerTowers$Train")) ∈ uw := uw_t3 (List.mem_of_getElem? (i := 111) rfl) rfl
theorem tw3_112 : Cond.methodLink RX8 71 yX8_take ∈ uw := uw_t3 (List.mem_of_getElem? (i := 112) rfl) rfl
theorem tw3_113 : Cond.instanceMethod yX8_take ∈ uw := uw_t3 (List.mem_of_getElem? (i := 113) rfl) rfl
theorem tw3_114 : Cond.selects RX8 yX8_take yX8_take ∈ uw := uw_t3 (List.mem_of_getElem? (i := 114) rfl) rfl
theorem tw3_115 : Cond.code yX8_take cX8_take 3 none ∈ uw := uw_t3 (List.mem_of_getElem? (i := 115) rfl) rfl
theorem tw3_116 : Cond.methodLink RX8 42 yX8_keepSilence ∈ uw := uw_t3 (List.mem_of_getElem? (i := 116) rfl) rfl
theorem tw3_117 : Cond.instanceMethod yX8_keepSilence ∈ uw := uw_t3 (List.mem_of_getElem? (i := 117) rfl) rfl
theorem tw3_118 : Cond.selects RX8 yX8_keepSilence yX8_keepSilence ∈ uw := uw_t3 (List.mem_of_getElem? (i := 118) rfl) rfl
theorem tw3_119 : Cond.code yX8_keepSilence cX8_keepSilence 4 none ∈ uw := uw_t3 (List.mem_of_getElem? (i := 119) rfl) rfl
theorem tw3_120 : Cond.methodLink RX8 46 yX3_clear ∈ uw := uw_t3 (List.mem_of_getElem? (i := 120) rfl) rfl
theorem tw3_121 : Cond.instanceMethod yX3_clear ∈ uw := uw_t3 (List.mem_of_getElem? (i := 121) rfl) rfl
theorem tw3_122 : Cond.selects RX3 yX3_clear yX3_clear ∈ uw := uw_t3 (List.mem_of_getElem? (i := 122) rfl) rfl
theorem tw3_123 : Cond.code yX3_clear cX3_clear 1 none ∈ uw := uw_t3 (List.mem_of_getElem? (i := 123) rfl) rfl
theorem tw3_124 : Cond.methodLink RL 90 yX10_hang ∈ uw := uw_t3 (List.mem_of_getElem? (i := 124) rfl) rfl
theorem tw3_125 : Cond.instanceMethod yX10_hang ∈ uw := uw_t3 (List.mem_of_getElem? (i := 125) rfl) rfl
theorem tw3_126 : Cond.selects RX10 yX10_hang yX10_hang ∈ uw := uw_t3 (List.mem_of_getElem? (i := 126) rfl) rfl
theorem tw3_127 : Cond.code yX10_hang cX10_hang 7 (some .int) ∈ uw := uw_t3 (List.mem_of_getElem? (i := 127) rfl) rfl
theorem tw3_128 : Cond.methodLink RX10 191 yX8_release ∈ uw := uw_t3 (List.mem_of_getElem? (i := 128) rfl) rfl
theorem tw3_129 : Cond.methodLink RX10 195 yX9_comeTo ∈ uw := uw_t3 (List.mem_of_getElem? (i := 129) rfl) rfl
theorem tw3_130 : Cond.instanceMethod yX9_comeTo ∈ uw := uw_t3 (List.mem_of_getElem? (i := 130) rfl) rfl
theorem tw3_131 : Cond.selects RX9 yX9_comeTo yX9_comeTo ∈ uw := uw_t3 (List.mem_of_getElem? (i := 131) rfl) rfl
theorem tw3_132 : Cond.sameMethod "HammerTowers$Train" "HammerTowers$Train" "comeTo" "(I)V" ∈ uw := uw_t3 (List.mem_of_getElem? (i := 132) rfl) rfl
theorem tw3_133 : Cond.selects RX0 yX9_comeTo yX9_comeTo ∈ uw := uw_t3 (List.mem_of_getElem? (i := 133) rfl) rfl
theorem tw3_134 : Cond.selects RX4 yX9_comeTo yX9_comeTo ∈ uw := uw_t3 (List.mem_of_getElem? (i := 134) rfl) rfl
theorem tw3_135 : Cond.selects RX7 yX9_comeTo yX9_comeTo ∈ uw := uw_t3 (List.mem_of_getElem? (i := 135) rfl) rfl
theorem tw3_136 : Cond.code yX9_comeTo cX9_comeTo 2 none ∈ uw := uw_t3 (List.mem_of_getElem? (i := 136) rfl) rfl
theorem tw3_137 : Cond.methodLink RX10 198 yX8_take ∈ uw := uw_t3 (List.mem_of_getElem? (i := 137) rfl) rfl
theorem tw3_138 : Cond.methodLink RL 95 yX10_unhang ∈ uw := uw_t3 (List.mem_of_getElem? (i := 138) rfl) rfl
theorem tw3_139 : Cond.instanceMethod yX10_unhang ∈ uw := uw_t3 (List.mem_of_getElem? (i := 139) rfl) rfl
theorem tw3_140 : Cond.selects RX10 yX10_unhang yX10_unhang ∈ uw := uw_t3 (List.mem_of_getElem? (i := 140) rfl) rfl
theorem tw3_141 : Cond.code yX10_unhang cX10_unhang 4 (some .int) ∈ uw := uw_t3 (List.mem_of_getElem? (i := 141) rfl) rfl
theorem tw3_142 : Cond.methodLink RX10 202 yX8_trainIn ∈ uw := uw_t3 (List.mem_of_getElem? (i := 142) rfl) rfl
theorem tw3_143 : Cond.methodLink RL 100 yX10_hands ∈ uw := uw_t3 (List.mem_of_getElem? (i := 143) rfl) rfl
theorem tw3_144 : Cond.instanceMethod yX10_hands ∈ uw := uw_t3 (List.mem_of_getElem? (i := 144) rfl) rfl
theorem tw3_145 : Cond.selects RX10 yX10_hands yX10_hands ∈ uw := uw_t3 (List.mem_of_getElem? (i := 145) rfl) rfl
theorem tw3_146 : Cond.code yX10_hands cX10_hands 5 (some .int) ∈ uw := uw_t3 (List.mem_of_getElem? (i := 146) rfl) rfl
theorem tw3_147 : Cond.methodLink RL 104 yX10_forward ∈ uw := uw_t3 (List.mem_of_getElem? (i := 147) rfl) rfl
theorem tw3_148 : Cond.instanceMethod yX10_forward ∈ uw := uw_t3 (List.mem_of_getElem? (i := 148) rfl) rfl
theorem tw3_149 : Cond.selects RX10 yX10_forward yX10_forward ∈ uw := uw_t3 (List.mem_of_getElem? (i := 149) rfl) rfl
theorem tw3_150 : Cond.code yX10_forward cX10_forward 5 (some .int) ∈ uw := uw_t3 (List.mem_of_getElem? (i := 150) rfl) rfl
theorem tw3_151 : Cond.methodLink RX10 209 yX8_stepForward ∈ uw := uw_t3 (List.mem_of_getElem? (i := 151) rfl) rfl
theorem tw3_152 : Cond.instanceMethod yX8_stepForward ∈ uw := uw_t3 (List.mem_of_getElem? (i := 152) rfl) rfl
theorem tw3_153 : Cond.selects RX8 yX8_stepForward yX8_stepForward ∈ uw := uw_t3 (List.mem_of_getElem? (i := 153) rfl) rfl
theorem tw3_154 : Cond.code yX8_stepForward cX8_stepForward 2 none ∈ uw := uw_t3 (List.mem_of_getElem? (i := 154) rfl) rfl
theorem tw3_155 : Cond.methodLink RX8 103 yX8_warnOrLetOff ∈ uw := uw_t3 (List.mem_of_getElem? (i := 155) rfl) rfl
theorem tw3_157 : Cond.instanceMethod yX8_warnOrLetOff ∈ uw := uw_t3 (List.mem_of_getElem? (i := 157) rfl) rfl
theorem tw3_158 : Cond.code yX8_warnOrLetOff cX8_warnOrLetOff 5 none ∈ uw := uw_t3 (List.mem_of_getElem? (i := 158) rfl) rfl
theorem tw3_159 : Cond.methodLink RX8 107 yX8_silenceNow ∈ uw := uw_t3 (List.mem_of_getElem? (i := 159) rfl) rfl
theorem tw3_160 : Cond.instanceMethod yX8_silenceNow ∈ uw := uw_t3 (List.mem_of_getElem? (i := 160) rfl) rfl
theorem tw3_161 : Cond.selects RX8 yX8_silenceNow yX8_silenceNow ∈ uw := uw_t3 (List.mem_of_getElem? (i := 161) rfl) rfl
theorem tw3_162 : Cond.code yX8_silenceNow cX8_silenceNow 3 (some .int) ∈ uw := uw_t3 (List.mem_of_getElem? (i := 162) rfl) rfl
theorem tw3_163 : Cond.methodLink RX8 84 yJ9_floorMod_7cf53 ∈ uw := uw_t3 (List.mem_of_getElem? (i := 163) rfl) rfl
theorem tw3_164 : Cond.static yJ9_floorMod_7cf53 ∈ uw := uw_t3 (List.mem_of_getElem? (i := 164) rfl) rfl
theorem tw3_165 : Cond.code yJ9_floorMod_7cf53 cJ9_floorMod_7cf53 3 (some .int) ∈ uw := uw_t3 (List.mem_of_getElem? (i := 165) rfl) rfl
theorem tw3_166 : Cond.methodLink RX8 111 yX8_letOffByHands ∈ uw := uw_t3 (List.mem_of_getElem? (i := 166) rfl) rfl
theorem tw3_167 : Cond.instanceMethod yX8_letOffByHands ∈ uw := uw_t3 (List.mem_of_getElem? (i := 167) rfl) rfl
theorem tw3_168 : Cond.selects RX8 yX8_letOffByHands yX8_letOffByHands ∈ uw := uw_t3 (List.mem_of_getElem? (i := 168) rfl) rfl
theorem tw3_169 : Cond.code yX8_letOffByHands cX8_letOffByHands 5 none ∈ uw := uw_t3 (List.mem_of_getElem? (i := 169) rfl) rfl
theorem tw3_170 : Cond.methodLink RX8 114 yX8_nextPlace ∈ uw := uw_t3 (List.mem_of_getElem? (i := 170) rfl) rfl
theorem tw3_171 : Cond.instanceMethod yX8_nextPlace ∈ uw := uw_t3 (List.mem_of_getElem? (i := 171) rfl) rfl
theorem tw3_172 : Cond.selects RX8 yX8_nextPlace yX8_nextPlace ∈ uw := uw_t3 (List.mem_of_getElem? (i := 172) rfl) rfl
theorem tw3_173 : Cond.code yX8_nextPlace cX8_nextPlace 2 (some .int) ∈ uw := uw_t3 (List.mem_of_getElem? (i := 173) rfl) rfl
theorem tw3_174 : Cond.methodLink RX8 117 yX9_letGo ∈ uw := uw_t3 (List.mem_of_getElem? (i := 174) rfl) rfl
theorem tw3_175 : Cond.instanceMethod yX9_letGo ∈ uw := uw_t3 (List.mem_of_getElem? (i := 175) rfl) rfl
theorem tw3_176 : Cond.selects RX9 yX9_letGo yX9_letGo ∈ uw := uw_t3 (List.mem_of_getElem? (i := 176) rfl) rfl
theorem tw3_177 : Cond.sameMethod "HammerTowers$Train" "HammerTowers$Train" "letGo" "(IZ)V" ∈ uw := uw_t3 (List.mem_of_getElem? (i := 177) rfl) rfl
theorem tw3_178 : Cond.selects RX0 yX9_letGo yX4_letGo ∈ uw := uw_t3 (List.mem_of_getElem? (i := 178) rfl) rfl
theorem tw3_179 : Cond.instanceMethod yX4_letGo ∈ uw := uw_t3 (List.mem_of_getElem? (i := 179) rfl) rfl
theorem tw3_180 : Cond.code yX4_letGo cX4_letGo 4 none ∈ uw := uw_t3 (List.mem_of_getElem? (i := 180) rfl) rfl
theorem tw3_181 : Cond.methodLink RX4 20 ⟨"HammerTowers$Plate", "strokesRound", "(I)I"⟩ ∈ uw := uw_t3 (List.mem_of_getElem? (i := 181) rfl) rfl
theorem tw3_182 : Cond.sameMethod "HammerTowers$Plate" "HammerTowers$Train" "strokesRound" "(I)I" ∈ uw := uw_t3 (List.mem_of_getElem? (i := 182) rfl) rfl
theorem tw3_183 : Cond.declares yX9_strokesRound ∈ lw_tbl := lw_t3 (List.mem_of_getElem? (i := 183) rfl)
theorem tw3_184 : Cond.selects RX0 ⟨"HammerTowers$Plate", "strokesRound", "(I)I"⟩ yX9_strokesRound ∈ uw := uw_t3 (List.mem_of_getElem? (i := 184) rfl) rfl
theorem tw3_185 : Cond.selects RX4 ⟨"HammerTowers$Plate", "strokesRound", "(I)I"⟩ yX9_strokesRound ∈ uw := uw_t3 (List.mem_of_getElem? (i := 185) rfl) rfl
theorem tw3_186 : Cond.instanceMethod yX9_strokesRound ∈ uw := uw_t3 (List.mem_of_getElem? (i := 186) rfl) rfl
theorem tw3_187 : Cond.code yX9_strokesRound cX9_strokesRound 3 (some .int) ∈ uw := uw_t3 (List.mem_of_getElem? (i := 187) rfl) rfl
theorem tw3_188 : Cond.selects RX4 yX9_letGo yX4_letGo ∈ uw := uw_t3 (List.mem_of_getElem? (i := 188) rfl) rfl
theorem tw3_189 : Cond.selects RX7 yX9_letGo yX7_letGo ∈ uw := uw_t3 (List.mem_of_getElem? (i := 189) rfl) rfl
theorem tw3_190 : Cond.instanceMethod yX7_letGo ∈ uw := uw_t3 (List.mem_of_getElem? (i := 190) rfl) rfl
theorem tw3_191 : Cond.code yX7_letGo cX7_letGo 3 none ∈ uw := uw_t3 (List.mem_of_getElem? (i := 191) rfl) rfl
theorem tw3_192 : Cond.methodLink RX7 9 ⟨"HammerTowers$Snail", "strokesRound", "(I)I"⟩ ∈ uw := uw_t3 (List.mem_of_getElem? (i := 192) rfl) rfl
theorem tw3_193 : Cond.sameMethod "HammerTowers$Snail" "HammerTowers$Train" "strokesRound" "(I)I" ∈ uw := uw_t3 (List.mem_of_getElem? (i := 193) rfl) rfl
theorem tw3_194 : Cond.selects RX7 ⟨"HammerTowers$Snail", "strokesRound", "(I)I"⟩ yX9_strokesRound ∈ uw := uw_t3 (List.mem_of_getElem? (i := 194) rfl) rfl
theorem tw3_195 : Cond.code yX9_letGo cX9_letGo 3 none ∈ uw := uw_t3 (List.mem_of_getElem? (i := 195) rfl) rfl
theorem tw3_196 : Cond.methodLink RL 108 yX10_back ∈ uw := uw_t3 (List.mem_of_getElem? (i := 196) rfl) rfl
theorem tw3_197 : Cond.instanceMethod yX10_back ∈ uw := uw_t3 (List.mem_of_getElem? (i := 197) rfl) rfl
theorem tw3_198 : Cond.selects RX10 yX10_back yX10_back ∈ uw := uw_t3 (List.mem_of_getElem? (i := 198) rfl) rfl
theorem tw3_199 : Cond.code yX10_back cX10_back 4 (some .int) ∈ uw := uw_t3 (List.mem_of_getElem? (i := 199) rfl) rfl
theorem tw3_200 : Cond.methodLink RX10 212 yJ9_floorMod_7cf53 ∈ uw := uw_t3 (List.mem_of_getElem? (i := 200) rfl) rfl
theorem tw3_201 : Cond.methodLink RL 112 yX10_rate ∈ uw := uw_t3 (List.mem_of_getElem? (i := 201) rfl) rfl
theorem tw3_202 : Cond.instanceMethod yX10_rate ∈ uw := uw_t3 (List.mem_of_getElem? (i := 202) rfl) rfl
theorem tw3_203 : Cond.selects RX10 yX10_rate yX10_rate ∈ uw := uw_t3 (List.mem_of_getElem? (i := 203) rfl) rfl
theorem tw3_204 : Cond.code yX10_rate cX10_rate 5 (some .int) ∈ uw := uw_t3 (List.mem_of_getElem? (i := 204) rfl) rfl
theorem tw3_205 : Cond.methodLink RL 116 yX10_go ∈ uw := uw_t3 (List.mem_of_getElem? (i := 205) rfl) rfl
theorem tw3_206 : Cond.instanceMethod yX10_go ∈ uw := uw_t3 (List.mem_of_getElem? (i := 206) rfl) rfl
theorem tw3_207 : Cond.selects RX10 yX10_go yX10_go ∈ uw := uw_t3 (List.mem_of_getElem? (i := 207) rfl) rfl
theorem tw3_208 : Cond.code yX10_go cX10_go 5 (some .int) ∈ uw := uw_t3 (List.mem_of_getElem? (i := 208) rfl) rfl
theorem tw3_209 : Cond.methodLink RL 120 yX10_windGoing ∈ uw := uw_t3 (List.mem_of_getElem? (i := 209) rfl) rfl
theorem tw3_210 : Cond.instanceMethod yX10_windGoing ∈ uw := uw_t3 (List.mem_of_getElem? (i := 210) rfl) rfl
theorem tw3_211 : Cond.selects RX10 yX10_windGoing yX10_windGoing ∈ uw := uw_t3 (List.mem_of_getElem? (i := 211) rfl) rfl
theorem tw3_212 : Cond.code yX10_windGoing cX10_windGoing 5 (some .int) ∈ uw := uw_t3 (List.mem_of_getElem? (i := 212) rfl) rfl
theorem tw3_213 : Cond.methodLink RL 124 yX10_silence ∈ uw := uw_t3 (List.mem_of_getElem? (i := 213) rfl) rfl
theorem tw3_214 : Cond.instanceMethod yX10_silence ∈ uw := uw_t3 (List.mem_of_getElem? (i := 214) rfl) rfl
theorem tw3_215 : Cond.selects RX10 yX10_silence yX10_silence ∈ uw := uw_t3 (List.mem_of_getElem? (i := 215) rfl) rfl
theorem tw3_216 : Cond.code yX10_silence cX10_silence 6 (some .int) ∈ uw := uw_t3 (List.mem_of_getElem? (i := 216) rfl) rfl
theorem tw3_217 : Cond.methodLink RX10 226 yX10_isDayHour ∈ uw := uw_t3 (List.mem_of_getElem? (i := 217) rfl) rfl
theorem tw3_218 : Cond.static yX10_isDayHour ∈ uw := uw_t3 (List.mem_of_getElem? (i := 218) rfl) rfl
theorem tw3_219 : Cond.code yX10_isDayHour cX10_isDayHour 1 (some .boolean) ∈ uw := uw_t3 (List.mem_of_getElem? (i := 219) rfl) rfl
theorem tw3_220 : Cond.methodLink RX10 229 yX8_keepSilence ∈ uw := uw_t3 (List.mem_of_getElem? (i := 220) rfl) rfl
theorem tw3_221 : Cond.methodLink RL 129 yX10_letOff ∈ uw := uw_t3 (List.mem_of_getElem? (i := 221) rfl) rfl
theorem tw3_222 : Cond.instanceMethod yX10_letOff ∈ uw := uw_t3 (List.mem_of_getElem? (i := 222) rfl) rfl
theorem tw3_223 : Cond.selects RX10 yX10_letOff yX10_letOff ∈ uw := uw_t3 (List.mem_of_getElem? (i := 223) rfl) rfl
theorem tw3_224 : Cond.code yX10_letOff cX10_letOff 5 (some .int) ∈ uw := uw_t3 (List.mem_of_getElem? (i := 224) rfl) rfl
theorem tw3_225 : Cond.methodLink RX10 233 yX8_letOffByHands ∈ uw := uw_t3 (List.mem_of_getElem? (i := 225) rfl) rfl
theorem tw3_226 : Cond.methodLink RL 133 yX10_runOut ∈ uw := uw_t3 (List.mem_of_getElem? (i := 226) rfl) rfl
theorem tw3_227 : Cond.instanceMethod yX10_runOut ∈ uw := uw_t3 (List.mem_of_getElem? (i := 227) rfl) rfl
theorem tw3_228 : Cond.selects RX10 yX10_runOut yX10_runOut ∈ uw := uw_t3 (List.mem_of_getElem? (i := 228) rfl) rfl
theorem tw3_229 : Cond.code yX10_runOut cX10_runOut 5 (some .int) ∈ uw := uw_t3 (List.mem_of_getElem? (i := 229) rfl) rfl
theorem tw3_230 : Cond.methodLink RX10 239 yX8_run ∈ uw := uw_t3 (List.mem_of_getElem? (i := 230) rfl) rfl
theorem tw3_231 : Cond.instanceMethod yX8_run ∈ uw := uw_t3 (List.mem_of_getElem? (i := 231) rfl) rfl
theorem tw3_232 : Cond.selects RX8 yX8_run yX8_run ∈ uw := uw_t3 (List.mem_of_getElem? (i := 232) rfl) rfl
theorem tw3_233 : Cond.code yX8_run cX8_run 5 (some .int) ∈ uw := uw_t3 (List.mem_of_getElem? (i := 233) rfl) rfl
theorem tw3_234 : Cond.methodLink RX8 124 yX9_strike ∈ uw := uw_t3 (List.mem_of_getElem? (i := 234) rfl) rfl
theorem tw3_235 : Cond.instanceMethod yX9_strike ∈ uw := uw_t3 (List.mem_of_getElem? (i := 235) rfl) rfl
theorem tw3_236 : Cond.selects RX9 yX9_strike yX9_strike ∈ uw := uw_t3 (List.mem_of_getElem? (i := 236) rfl) rfl
theorem tw3_237 : Cond.sameMethod "HammerTowers$Train" "HammerTowers$Train" "strike" "(IZ)I" ∈ uw := uw_t3 (List.mem_of_getElem? (i := 237) rfl) rfl
theorem tw3_238 : Cond.selects RX0 yX9_strike yX9_strike ∈ uw := uw_t3 (List.mem_of_getElem? (i := 238) rfl) rfl
theorem tw3_239 : Cond.selects RX4 yX9_strike yX9_strike ∈ uw := uw_t3 (List.mem_of_getElem? (i := 239) rfl) rfl
theorem tw4_0 : Cond.selects RX7 yX9_strike yX9_strike ∈ uw := uw_t4 (List.mem_of_getElem? (i := 0) rfl) rfl
theorem tw4_1 : Cond.code yX9_strike cX9_strike 5 (some .int) ∈ uw := uw_t4 (List.mem_of_getElem? (i := 1) rfl) rfl
theorem tw4_2 : Cond.methodLink RX9 50 yX9_lift ∈ uw := uw_t4 (List.mem_of_getElem? (i := 2) rfl) rfl
theorem tw4_3 : Cond.instanceMethod yX9_lift ∈ uw := uw_t4 (List.mem_of_getElem? (i := 3) rfl) rfl
theorem tw4_4 : Cond.selects RX9 yX9_lift yX9_lift ∈ uw := uw_t4 (List.mem_of_getElem? (i := 4) rfl) rfl
theorem tw4_5 : Cond.sameMethod "HammerTowers$Train" "HammerTowers$Train" "lift" "()I" ∈ uw := uw_t4 (List.mem_of_getElem? (i := 5) rfl) rfl
theorem tw4_6 : Cond.selects RX0 yX9_lift yX0_lift ∈ uw := uw_t4 (List.mem_of_getElem? (i := 6) rfl) rfl
theorem tw4_7 : Cond.instanceMethod yX0_lift ∈ uw := uw_t4 (List.mem_of_getElem? (i := 7) rfl) rfl
theorem tw4_8 : Cond.code yX0_lift cX0_lift 2 (some .int) ∈ uw := uw_t4 (List.mem_of_getElem? (i := 8) rfl) rfl
theorem tw4_9 : Cond.selects RX4 yX9_lift yX9_lift ∈ uw := uw_t4 (List.mem_of_getElem? (i := 9) rfl) rfl
theorem tw4_10 : Cond.selects RX7 yX9_lift yX9_lift ∈ uw := uw_t4 (List.mem_of_getElem? (i := 10) rfl) rfl
theorem tw4_11 : Cond.code yX9_lift cX9_lift 1 (some .int) ∈ uw := uw_t4 (List.mem_of_getElem? (i := 11) rfl) rfl
theorem tw4_12 : Cond.methodLink RX8 131 yX3_add ∈ uw := uw_t4 (List.mem_of_getElem? (i := 12) rfl) rfl
theorem tw4_13 : Cond.instanceMethod yX3_add ∈ uw := uw_t4 (List.mem_of_getElem? (i := 13) rfl) rfl
theorem tw4_14 : Cond.selects RX3 yX3_add yX3_add ∈ uw := uw_t4 (List.mem_of_getElem? (i := 14) rfl) rfl
theorem tw4_15 : Cond.code yX3_add cX3_add 3 none ∈ uw := uw_t4 (List.mem_of_getElem? (i := 15) rfl) rfl
theorem tw4_16 : Cond.methodLink RX3 42 yJ9_min_7cf53 ∈ uw := uw_t4 (List.mem_of_getElem? (i := 16) rfl) rfl
theorem tw4_17 : Cond.static yJ9_min_7cf53 ∈ uw := uw_t4 (List.mem_of_getElem? (i := 17) rfl) rfl
theorem tw4_18 : Cond.code yJ9_min_7cf53 cJ9_min_7cf53 2 (some .int) ∈ uw := uw_t4 (List.mem_of_getElem? (i := 18) rfl) rfl
theorem tw4_19 : Cond.methodLink RX8 138 yX8_liftHour ∈ uw := uw_t4 (List.mem_of_getElem? (i := 19) rfl) rfl
theorem tw4_21 : Cond.instanceMethod yX8_liftHour ∈ uw := uw_t4 (List.mem_of_getElem? (i := 21) rfl) rfl
theorem tw4_22 : Cond.code yX8_liftHour cX8_liftHour 1 none ∈ uw := uw_t4 (List.mem_of_getElem? (i := 22) rfl) rfl
theorem tw4_23 : Cond.methodLink RL 137 yX10_pass ∈ uw := uw_t4 (List.mem_of_getElem? (i := 23) rfl) rfl
theorem tw4_24 : Cond.instanceMethod yX10_pass ∈ uw := uw_t4 (List.mem_of_getElem? (i := 24) rfl) rfl
theorem tw4_25 : Cond.selects RX10 yX10_pass yX10_pass ∈ uw := uw_t4 (List.mem_of_getElem? (i := 25) rfl) rfl
theorem tw4_26 : Cond.code yX10_pass cX10_pass 5 (some .int) ∈ uw := uw_t4 (List.mem_of_getElem? (i := 26) rfl) rfl
theorem tw4_27 : Cond.constant RX10 243 (1000000) ∈ uw := uw_t4 (List.mem_of_getElem? (i := 27) rfl) rfl
theorem tw4_28 : Cond.methodLink RX10 244 yX8_minute ∈ uw := uw_t4 (List.mem_of_getElem? (i := 28) rfl) rfl
theorem tw4_29 : Cond.instanceMethod yX8_minute ∈ uw := uw_t4 (List.mem_of_getElem? (i := 29) rfl) rfl
theorem tw4_30 : Cond.selects RX8 yX8_minute yX8_minute ∈ uw := uw_t4 (List.mem_of_getElem? (i := 30) rfl) rfl
theorem tw4_31 : Cond.code yX8_minute cX8_minute 2 none ∈ uw := uw_t4 (List.mem_of_getElem? (i := 31) rfl) rfl
theorem tw4_32 : Cond.constant RX8 92 (86400) ∈ uw := uw_t4 (List.mem_of_getElem? (i := 32) rfl) rfl
theorem tw4_33 : Cond.methodLink RX8 93 yX8_stepForward ∈ uw := uw_t4 (List.mem_of_getElem? (i := 33) rfl) rfl
theorem tw4_34 : Cond.methodLink RX8 99 yX8_run ∈ uw := uw_t4 (List.mem_of_getElem? (i := 34) rfl) rfl
theorem tw4_35 : Cond.methodLink RL 141 yX10_tells ∈ uw := uw_t4 (List.mem_of_getElem? (i := 35) rfl) rfl
theorem tw4_36 : Cond.instanceMethod yX10_tells ∈ uw := uw_t4 (List.mem_of_getElem? (i := 36) rfl) rfl
theorem tw4_37 : Cond.selects RX10 yX10_tells yX10_tells ∈ uw := uw_t4 (List.mem_of_getElem? (i := 37) rfl) rfl
theorem tw4_38 : Cond.code yX10_tells cX10_tells 4 (some .int) ∈ uw := uw_t4 (List.mem_of_getElem? (i := 38) rfl) rfl
theorem tw4_39 : Cond.methodLink RX10 250 yX8_numberIn ∈ uw := uw_t4 (List.mem_of_getElem? (i := 39) rfl) rfl
theorem tw4_40 : Cond.instanceMethod yX8_numberIn ∈ uw := uw_t4 (List.mem_of_getElem? (i := 40) rfl) rfl
theorem tw4_41 : Cond.selects RX8 yX8_numberIn yX8_numberIn ∈ uw := uw_t4 (List.mem_of_getElem? (i := 41) rfl) rfl
theorem tw4_42 : Cond.code yX8_numberIn cX8_numberIn 3 (some .int) ∈ uw := uw_t4 (List.mem_of_getElem? (i := 42) rfl) rfl
theorem tw4_43 : Cond.methodLink RX10 253 yX8_isWarned ∈ uw := uw_t4 (List.mem_of_getElem? (i := 43) rfl) rfl
theorem tw4_44 : Cond.instanceMethod yX8_isWarned ∈ uw := uw_t4 (List.mem_of_getElem? (i := 44) rfl) rfl
theorem tw4_45 : Cond.selects RX8 yX8_isWarned yX8_isWarned ∈ uw := uw_t4 (List.mem_of_getElem? (i := 45) rfl) rfl
theorem tw4_46 : Cond.code yX8_isWarned cX8_isWarned 3 (some .boolean) ∈ uw := uw_t4 (List.mem_of_getElem? (i := 46) rfl) rfl
theorem tw4_47 : Cond.methodLink RX10 257 yX8_silenceNow ∈ uw := uw_t4 (List.mem_of_getElem? (i := 47) rfl) rfl
theorem tw4_48 : Cond.methodLink RL 145 yX10_log ∈ uw := uw_t4 (List.mem_of_getElem? (i := 48) rfl) rfl
theorem tw4_49 : Cond.instanceMethod yX10_log ∈ uw := uw_t4 (List.mem_of_getElem? (i := 49) rfl) rfl
theorem tw4_50 : Cond.selects RX10 yX10_log yX10_log ∈ uw := uw_t4 (List.mem_of_getElem? (i := 50) rfl) rfl
theorem tw4_51 : Cond.code yX10_log cX10_log 5 (some .int) ∈ uw := uw_t4 (List.mem_of_getElem? (i := 51) rfl) rfl
theorem tw4_52 : Cond.methodLink RX10 264 yX3_entry ∈ uw := uw_t4 (List.mem_of_getElem? (i := 52) rfl) rfl
theorem tw4_53 : Cond.instanceMethod yX3_entry ∈ uw := uw_t4 (List.mem_of_getElem? (i := 53) rfl) rfl
theorem tw4_54 : Cond.selects RX3 yX3_entry yX3_entry ∈ uw := uw_t4 (List.mem_of_getElem? (i := 54) rfl) rfl
theorem tw4_55 : Cond.code yX3_entry cX3_entry 4 (some .int) ∈ uw := uw_t4 (List.mem_of_getElem? (i := 55) rfl) rfl
theorem tw4_56 : Cond.methodLink RX3 48 yJ9_floorMod_7cf53 ∈ uw := uw_t4 (List.mem_of_getElem? (i := 56) rfl) rfl
theorem tw4_57 : Cond.methodLink RL 149 yX10_heard ∈ uw := uw_t4 (List.mem_of_getElem? (i := 57) rfl) rfl
theorem tw4_58 : Cond.instanceMethod yX10_heard ∈ uw := uw_t4 (List.mem_of_getElem? (i := 58) rfl) rfl
theorem tw4_59 : Cond.selects RX10 yX10_heard yX10_heard ∈ uw := uw_t4 (List.mem_of_getElem? (i := 59) rfl) rfl
theorem tw4_60 : Cond.code yX10_heard cX10_heard 5 (some .int) ∈ uw := uw_t4 (List.mem_of_getElem? (i := 60) rfl) rfl
theorem tw4_61 : Cond.methodLink RX10 269 yX3_strokesBetween ∈ uw := uw_t4 (List.mem_of_getElem? (i := 61) rfl) rfl
theorem tw4_62 : Cond.instanceMethod yX3_strokesBetween ∈ uw := uw_t4 (List.mem_of_getElem? (i := 62) rfl) rfl
theorem tw4_63 : Cond.selects RX3 yX3_strokesBetween yX3_strokesBetween ∈ uw := uw_t4 (List.mem_of_getElem? (i := 63) rfl) rfl
theorem tw4_64 : Cond.code yX3_strokesBetween cX3_strokesBetween 5 (some .int) ∈ uw := uw_t4 (List.mem_of_getElem? (i := 64) rfl) rfl
theorem tw4_65 : Cond.methodLink RL 153 yX10_ahead ∈ uw := uw_t4 (List.mem_of_getElem? (i := 65) rfl) rfl
theorem tw4_66 : Cond.instanceMethod yX10_ahead ∈ uw := uw_t4 (List.mem_of_getElem? (i := 66) rfl) rfl
theorem tw4_67 : Cond.selects RX10 yX10_ahead yX10_ahead ∈ uw := uw_t4 (List.mem_of_getElem? (i := 67) rfl) rfl
theorem tw4_68 : Cond.code yX10_ahead cX10_ahead 6 (some .int) ∈ uw := uw_t4 (List.mem_of_getElem? (i := 68) rfl) rfl
theorem tw4_69 : Cond.methodLink RL 157 yX10_meet ∈ uw := uw_t4 (List.mem_of_getElem? (i := 69) rfl) rfl
theorem tw4_70 : Cond.instanceMethod yX10_meet ∈ uw := uw_t4 (List.mem_of_getElem? (i := 70) rfl) rfl
theorem tw4_71 : Cond.selects RX10 yX10_meet yX10_meet ∈ uw := uw_t4 (List.mem_of_getElem? (i := 71) rfl) rfl
theorem tw4_72 : Cond.code yX10_meet cX10_meet 5 (some .int) ∈ uw := uw_t4 (List.mem_of_getElem? (i := 72) rfl) rfl
theorem tw4_73 : Cond.methodLink RX10 272 yX10_minutesToMeet ∈ uw := uw_t4 (List.mem_of_getElem? (i := 73) rfl) rfl
theorem tw4_74 : Cond.static yX10_minutesToMeet ∈ uw := uw_t4 (List.mem_of_getElem? (i := 74) rfl) rfl
theorem tw4_75 : Cond.code yX10_minutesToMeet cX10_minutesToMeet 11 (some .int) ∈ uw := uw_t4 (List.mem_of_getElem? (i := 75) rfl) rfl
theorem tw4_76 : Cond.constantLong RX10 412 (124416000) ∈ uw := uw_t4 (List.mem_of_getElem? (i := 76) rfl) rfl
theorem tw4_77 : Cond.methodLink RX10 414 yX8_parts ∈ uw := uw_t4 (List.mem_of_getElem? (i := 77) rfl) rfl
theorem tw4_78 : Cond.instanceMethod yX8_parts ∈ uw := uw_t4 (List.mem_of_getElem? (i := 78) rfl) rfl
theorem tw4_79 : Cond.selects RX8 yX8_parts yX8_parts ∈ uw := uw_t4 (List.mem_of_getElem? (i := 79) rfl) rfl
theorem tw4_80 : Cond.code yX8_parts cX8_parts 1 (some .long) ∈ uw := uw_t4 (List.mem_of_getElem? (i := 80) rfl) rfl
theorem tw4_81 : Cond.constantLong RX8 90 (86400) ∈ uw := uw_t4 (List.mem_of_getElem? (i := 81) rfl) rfl
theorem tw4_82 : Cond.methodLink RX10 418 yJ9_floorMod_f86c9 ∈ uw := uw_t4 (List.mem_of_getElem? (i := 82) rfl) rfl
theorem tw4_83 : Cond.static yJ9_floorMod_f86c9 ∈ uw := uw_t4 (List.mem_of_getElem? (i := 83) rfl) rfl
theorem tw4_84 : Cond.code yJ9_floorMod_f86c9 cJ9_floorMod_f86c9 6 (some .long) ∈ uw := uw_t4 (List.mem_of_getElem? (i := 84) rfl) rfl
theorem tw4_85 : Cond.methodLink RX10 420 yJ9_abs_0f7a4 ∈ uw := uw_t4 (List.mem_of_getElem? (i := 85) rfl) rfl
theorem tw4_86 : Cond.static yJ9_abs_0f7a4 ∈ uw := uw_t4 (List.mem_of_getElem? (i := 86) rfl) rfl
theorem tw4_87 : Cond.code yJ9_abs_0f7a4 cJ9_abs_0f7a4 1 (some .int) ∈ uw := uw_t4 (List.mem_of_getElem? (i := 87) rfl) rfl
theorem tw4_88 : Cond.methodLink RL 161 yX10_right ∈ uw := uw_t4 (List.mem_of_getElem? (i := 88) rfl) rfl
theorem tw4_89 : Cond.instanceMethod yX10_right ∈ uw := uw_t4 (List.mem_of_getElem? (i := 89) rfl) rfl
theorem tw4_90 : Cond.selects RX10 yX10_right yX10_right ∈ uw := uw_t4 (List.mem_of_getElem? (i := 90) rfl) rfl
theorem tw4_91 : Cond.code yX10_right cX10_right 4 (some .int) ∈ uw := uw_t4 (List.mem_of_getElem? (i := 91) rfl) rfl
theorem tw4_92 : Cond.methodLink RX10 276 yX10_off ∈ uw := uw_t4 (List.mem_of_getElem? (i := 92) rfl) rfl
theorem tw4_93 : Cond.instanceMethod yX10_off ∈ uw := uw_t4 (List.mem_of_getElem? (i := 93) rfl) rfl
theorem tw4_94 : Cond.selects RX10 yX10_off yX10_off ∈ uw := uw_t4 (List.mem_of_getElem? (i := 94) rfl) rfl
theorem tw4_95 : Cond.code yX10_off cX10_off 6 (some .int) ∈ uw := uw_t4 (List.mem_of_getElem? (i := 95) rfl) rfl
theorem tw4_96 : Cond.methodLink RX10 280 yX8_nextPlace ∈ uw := uw_t4 (List.mem_of_getElem? (i := 96) rfl) rfl
theorem tw4_97 : Cond.methodLink RX10 283 yX4_aheadOf ∈ uw := uw_t4 (List.mem_of_getElem? (i := 97) rfl) rfl
theorem tw4_98 : Cond.instanceMethod yX4_aheadOf ∈ uw := uw_t4 (List.mem_of_getElem? (i := 98) rfl) rfl
theorem tw4_99 : Cond.selects RX4 yX4_aheadOf yX4_aheadOf ∈ uw := uw_t4 (List.mem_of_getElem? (i := 99) rfl) rfl
theorem tw4_100 : Cond.sameMethod "HammerTowers$Plate" "HammerTowers$Plate" "aheadOf" "(I)I" ∈ uw := uw_t4 (List.mem_of_getElem? (i := 100) rfl) rfl
theorem tw4_101 : Cond.selects RX0 yX4_aheadOf yX4_aheadOf ∈ uw := uw_t4 (List.mem_of_getElem? (i := 101) rfl) rfl
theorem tw4_102 : Cond.code yX4_aheadOf cX4_aheadOf 3 (some .int) ∈ uw := uw_t4 (List.mem_of_getElem? (i := 102) rfl) rfl
theorem tw4_103 : Cond.methodLink RX4 28 yJ9_floorMod_7cf53 ∈ uw := uw_t4 (List.mem_of_getElem? (i := 103) rfl) rfl
theorem tw4_104 : Cond.methodLink RL 165 yX10_off ∈ uw := uw_t4 (List.mem_of_getElem? (i := 104) rfl) rfl
theorem tw4_105 : Cond.methodLink RL 169 yX10_putRight ∈ uw := uw_t4 (List.mem_of_getElem? (i := 105) rfl) rfl
theorem tw4_106 : Cond.instanceMethod yX10_putRight ∈ uw := uw_t4 (List.mem_of_getElem? (i := 106) rfl) rfl
theorem tw4_107 : Cond.selects RX10 yX10_putRight yX10_putRight ∈ uw := uw_t4 (List.mem_of_getElem? (i := 107) rfl) rfl
theorem tw4_108 : Cond.code yX10_putRight cX10_putRight 7 (some .int) ∈ uw := uw_t4 (List.mem_of_getElem? (i := 108) rfl) rfl
theorem tw4_109 : Cond.methodLink RX10 286 yX10_isHour ∈ uw := uw_t4 (List.mem_of_getElem? (i := 109) rfl) rfl
theorem tw4_110 : Cond.static yX10_isHour ∈ uw := uw_t4 (List.mem_of_getElem? (i := 110) rfl) rfl
theorem tw4_111 : Cond.code yX10_isHour cX10_isHour 1 (some .boolean) ∈ uw := uw_t4 (List.mem_of_getElem? (i := 111) rfl) rfl
theorem tw4_112 : Cond.methodLink RX10 290 yX5_plan ∈ uw := uw_t4 (List.mem_of_getElem? (i := 112) rfl) rfl
theorem tw4_113 : Cond.instanceMethod yX5_plan ∈ uw := uw_t4 (List.mem_of_getElem? (i := 113) rfl) rfl
theorem tw4_114 : Cond.selects RX5 yX5_plan yX5_plan ∈ uw := uw_t4 (List.mem_of_getElem? (i := 114) rfl) rfl
theorem tw4_115 : Cond.code yX5_plan cX5_plan 9 (some .int) ∈ uw := uw_t4 (List.mem_of_getElem? (i := 115) rfl) rfl
theorem tw4_116 : Cond.methodLink RX5 21 yJ9_floorMod_7cf53 ∈ uw := uw_t4 (List.mem_of_getElem? (i := 116) rfl) rfl
theorem tw4_117 : Cond.methodLink RX5 30 yX5_add ∈ uw := uw_t4 (List.mem_of_getElem? (i := 117) rfl) rfl
theorem tw4_119 : Cond.instanceMethod yX5_add ∈ uw := uw_t4 (List.mem_of_getElem? (i := 119) rfl) rfl
theorem tw4_120 : Cond.code yX5_add cX5_add 4 none ∈ uw := uw_t4 (List.mem_of_getElem? (i := 120) rfl) rfl
theorem tw4_121 : Cond.methodLink RX5 34 ⟨"HammerTowers$Plate", "strokesRound", "(I)I"⟩ ∈ uw := uw_t4 (List.mem_of_getElem? (i := 121) rfl) rfl
theorem tw4_122 : Cond.methodLink RL 173 yX10_act ∈ uw := uw_t4 (List.mem_of_getElem? (i := 122) rfl) rfl
theorem tw4_123 : Cond.instanceMethod yX10_act ∈ uw := uw_t4 (List.mem_of_getElem? (i := 123) rfl) rfl
theorem tw4_124 : Cond.selects RX10 yX10_act yX10_act ∈ uw := uw_t4 (List.mem_of_getElem? (i := 124) rfl) rfl
theorem tw4_125 : Cond.code yX10_act cX10_act 2 (some .int) ∈ uw := uw_t4 (List.mem_of_getElem? (i := 125) rfl) rfl
theorem tw4_126 : Cond.methodLink RX10 300 yX5_actAt ∈ uw := uw_t4 (List.mem_of_getElem? (i := 126) rfl) rfl
theorem tw4_127 : Cond.instanceMethod yX5_actAt ∈ uw := uw_t4 (List.mem_of_getElem? (i := 127) rfl) rfl
theorem tw4_128 : Cond.selects RX5 yX5_actAt yX5_actAt ∈ uw := uw_t4 (List.mem_of_getElem? (i := 128) rfl) rfl
theorem tw4_129 : Cond.code yX5_actAt cX5_actAt 2 (some .int) ∈ uw := uw_t4 (List.mem_of_getElem? (i := 129) rfl) rfl
theorem tw4_130 : Cond.methodLink RL 177 yX10_due ∈ uw := uw_t4 (List.mem_of_getElem? (i := 130) rfl) rfl
theorem tw4_131 : Cond.instanceMethod yX10_due ∈ uw := uw_t4 (List.mem_of_getElem? (i := 131) rfl) rfl
theorem tw4_132 : Cond.selects RX10 yX10_due yX10_due ∈ uw := uw_t4 (List.mem_of_getElem? (i := 132) rfl) rfl
theorem tw4_133 : Cond.code yX10_due cX10_due 6 (some .int) ∈ uw := uw_t4 (List.mem_of_getElem? (i := 133) rfl) rfl
theorem tw4_134 : Cond.methodLink RX10 303 yX1_isFault ∈ uw := uw_t4 (List.mem_of_getElem? (i := 134) rfl) rfl
theorem tw4_135 : Cond.static yX1_isFault ∈ uw := uw_t4 (List.mem_of_getElem? (i := 135) rfl) rfl
theorem tw4_136 : Cond.code yX1_isFault cX1_isFault 3 (some .boolean) ∈ uw := uw_t4 (List.mem_of_getElem? (i := 136) rfl) rfl
theorem tw4_137 : Cond.methodLinkNest RX1 15 yX10_isHour "HammerTowers" ∈ lw_tbl := lw_t4 (List.mem_of_getElem? (i := 137) rfl)
theorem tw4_138 : Cond.methodLink RX10 307 yX1_dueAt ∈ uw := uw_t4 (List.mem_of_getElem? (i := 138) rfl) rfl
theorem tw4_139 : Cond.static yX1_dueAt ∈ uw := uw_t4 (List.mem_of_getElem? (i := 139) rfl) rfl
theorem tw4_140 : Cond.code yX1_dueAt cX1_dueAt 6 (some .int) ∈ uw := uw_t4 (List.mem_of_getElem? (i := 140) rfl) rfl
theorem tw4_141 : Cond.methodLink RX1 19 yJ9_max_7cf53 ∈ uw := uw_t4 (List.mem_of_getElem? (i := 141) rfl) rfl
theorem tw4_142 : Cond.methodLink RL 181 yX10_misfits ∈ uw := uw_t4 (List.mem_of_getElem? (i := 142) rfl) rfl
theorem tw4_143 : Cond.instanceMethod yX10_misfits ∈ uw := uw_t4 (List.mem_of_getElem? (i := 143) rfl) rfl
theorem tw4_144 : Cond.selects RX10 yX10_misfits yX10_misfits ∈ uw := uw_t4 (List.mem_of_getElem? (i := 144) rfl) rfl
theorem tw4_145 : Cond.code yX10_misfits cX10_misfits 7 (some .int) ∈ uw := uw_t4 (List.mem_of_getElem? (i := 145) rfl) rfl
theorem tw4_146 : Cond.methodLink RX10 311 yX10_refusalOfHeard ∈ uw := uw_t4 (List.mem_of_getElem? (i := 146) rfl) rfl
theorem tw4_148 : Cond.instanceMethod yX10_refusalOfHeard ∈ uw := uw_t4 (List.mem_of_getElem? (i := 148) rfl) rfl
theorem tw4_149 : Cond.code yX10_refusalOfHeard cX10_refusalOfHeard 5 (some .int) ∈ uw := uw_t4 (List.mem_of_getElem? (i := 149) rfl) rfl
theorem tw4_150 : Cond.methodLink RX10 315 yX1_listen ∈ uw := uw_t4 (List.mem_of_getElem? (i := 150) rfl) rfl
theorem tw4_151 : Cond.instanceMethod yX1_listen ∈ uw := uw_t4 (List.mem_of_getElem? (i := 151) rfl) rfl
theorem tw4_152 : Cond.selects RX1 yX1_listen yX1_listen ∈ uw := uw_t4 (List.mem_of_getElem? (i := 152) rfl) rfl
theorem tw4_153 : Cond.code yX1_listen cX1_listen 4 none ∈ uw := uw_t4 (List.mem_of_getElem? (i := 153) rfl) rfl
theorem tw4_154 : Cond.methodLink RX1 34 yX6_at ∈ uw := uw_t4 (List.mem_of_getElem? (i := 154) rfl) rfl
theorem tw4_155 : Cond.methodLink RX10 319 yX1_misfitsOf ∈ uw := uw_t4 (List.mem_of_getElem? (i := 155) rfl) rfl
theorem tw4_156 : Cond.instanceMethod yX1_misfitsOf ∈ uw := uw_t4 (List.mem_of_getElem? (i := 156) rfl) rfl
theorem tw4_157 : Cond.selects RX1 yX1_misfitsOf yX1_misfitsOf ∈ uw := uw_t4 (List.mem_of_getElem? (i := 157) rfl) rfl
theorem tw4_158 : Cond.code yX1_misfitsOf cX1_misfitsOf 6 (some .int) ∈ uw := uw_t4 (List.mem_of_getElem? (i := 158) rfl) rfl
theorem tw4_159 : Cond.methodLink RX1 38 yX1_dueAt ∈ uw := uw_t4 (List.mem_of_getElem? (i := 159) rfl) rfl
theorem tw4_160 : Cond.methodLink RX1 42 yX1_misfit ∈ uw := uw_t4 (List.mem_of_getElem? (i := 160) rfl) rfl
theorem tw4_162 : Cond.instanceMethod yX1_misfit ∈ uw := uw_t4 (List.mem_of_getElem? (i := 162) rfl) rfl
theorem tw4_163 : Cond.code yX1_misfit cX1_misfit 3 (some .int) ∈ uw := uw_t4 (List.mem_of_getElem? (i := 163) rfl) rfl
theorem tw4_164 : Cond.methodLink RL 185 yX10_fault ∈ uw := uw_t4 (List.mem_of_getElem? (i := 164) rfl) rfl
theorem tw4_165 : Cond.instanceMethod yX10_fault ∈ uw := uw_t4 (List.mem_of_getElem? (i := 165) rfl) rfl
theorem tw4_166 : Cond.selects RX10 yX10_fault yX10_fault ∈ uw := uw_t4 (List.mem_of_getElem? (i := 166) rfl) rfl
theorem tw4_167 : Cond.code yX10_fault cX10_fault 4 (some .int) ∈ uw := uw_t4 (List.mem_of_getElem? (i := 167) rfl) rfl
theorem tw4_168 : Cond.methodLink RX10 323 yX1_search ∈ uw := uw_t4 (List.mem_of_getElem? (i := 168) rfl) rfl
theorem tw4_169 : Cond.instanceMethod yX1_search ∈ uw := uw_t4 (List.mem_of_getElem? (i := 169) rfl) rfl
theorem tw4_170 : Cond.selects RX1 yX1_search yX1_search ∈ uw := uw_t4 (List.mem_of_getElem? (i := 170) rfl) rfl
theorem tw4_171 : Cond.code yX1_search cX1_search 3 none ∈ uw := uw_t4 (List.mem_of_getElem? (i := 171) rfl) rfl
theorem tw4_172 : Cond.methodLink RX1 51 yX1_misfitsOf ∈ uw := uw_t4 (List.mem_of_getElem? (i := 172) rfl) rfl
theorem tw4_173 : Cond.methodLink RX1 55 yX1_offer ∈ uw := uw_t4 (List.mem_of_getElem? (i := 173) rfl) rfl
theorem tw4_175 : Cond.instanceMethod yX1_offer ∈ uw := uw_t4 (List.mem_of_getElem? (i := 175) rfl) rfl
theorem tw4_176 : Cond.code yX1_offer cX1_offer 5 none ∈ uw := uw_t4 (List.mem_of_getElem? (i := 176) rfl) rfl
theorem tw4_177 : Cond.methodLink RX1 59 yX1_offerOut ∈ uw := uw_t4 (List.mem_of_getElem? (i := 177) rfl) rfl
theorem tw4_179 : Cond.instanceMethod yX1_offerOut ∈ uw := uw_t4 (List.mem_of_getElem? (i := 179) rfl) rfl
theorem tw4_180 : Cond.code yX1_offerOut cX1_offerOut 4 none ∈ uw := uw_t4 (List.mem_of_getElem? (i := 180) rfl) rfl
theorem tw4_181 : Cond.methodLink RX1 69 yX1_misfitOfNone ∈ uw := uw_t4 (List.mem_of_getElem? (i := 181) rfl) rfl
theorem tw4_183 : Cond.instanceMethod yX1_misfitOfNone ∈ uw := uw_t4 (List.mem_of_getElem? (i := 183) rfl) rfl
theorem tw4_184 : Cond.code yX1_misfitOfNone cX1_misfitOfNone 2 (some .int) ∈ uw := uw_t4 (List.mem_of_getElem? (i := 184) rfl) rfl
theorem tw4_185 : Cond.methodLink RX1 62 yX1_offerNotches ∈ uw := uw_t4 (List.mem_of_getElem? (i := 185) rfl) rfl
theorem tw4_187 : Cond.instanceMethod yX1_offerNotches ∈ uw := uw_t4 (List.mem_of_getElem? (i := 187) rfl) rfl
theorem tw4_188 : Cond.code yX1_offerNotches cX1_offerNotches 5 none ∈ uw := uw_t4 (List.mem_of_getElem? (i := 188) rfl) rfl
theorem tw4_189 : Cond.methodLink RX1 72 yX1_misfitsAtHour ∈ uw := uw_t4 (List.mem_of_getElem? (i := 189) rfl) rfl
theorem tw4_191 : Cond.instanceMethod yX1_misfitsAtHour ∈ uw := uw_t4 (List.mem_of_getElem? (i := 191) rfl) rfl
theorem tw4_192 : Cond.code yX1_misfitsAtHour cX1_misfitsAtHour 5 (some .int) ∈ uw := uw_t4 (List.mem_of_getElem? (i := 192) rfl) rfl
theorem tw4_193 : Cond.methodLink RX1 75 yJ9_floorMod_7cf53 ∈ uw := uw_t4 (List.mem_of_getElem? (i := 193) rfl) rfl
theorem tw4_194 : Cond.methodLink RX1 66 yX1_offerDeaf ∈ uw := uw_t4 (List.mem_of_getElem? (i := 194) rfl) rfl
theorem tw4_196 : Cond.instanceMethod yX1_offerDeaf ∈ uw := uw_t4 (List.mem_of_getElem? (i := 196) rfl) rfl
theorem tw4_197 : Cond.code yX1_offerDeaf cX1_offerDeaf 5 none ∈ uw := uw_t4 (List.mem_of_getElem? (i := 197) rfl) rfl
theorem tw4_198 : Cond.methodLink RL 189 yX10_faultTold ∈ uw := uw_t4 (List.mem_of_getElem? (i := 198) rfl) rfl
theorem tw4_199 : Cond.instanceMethod yX10_faultTold ∈ uw := uw_t4 (List.mem_of_getElem? (i := 199) rfl) rfl
theorem tw4_200 : Cond.selects RX10 yX10_faultTold yX10_faultTold ∈ uw := uw_t4 (List.mem_of_getElem? (i := 200) rfl) rfl
theorem tw4_201 : Cond.code yX10_faultTold cX10_faultTold 2 (some .int) ∈ uw := uw_t4 (List.mem_of_getElem? (i := 201) rfl) rfl
theorem tw4_202 : Cond.methodLink RL 194 yX10_explained ∈ uw := uw_t4 (List.mem_of_getElem? (i := 202) rfl) rfl
theorem tw4_203 : Cond.instanceMethod yX10_explained ∈ uw := uw_t4 (List.mem_of_getElem? (i := 203) rfl) rfl
theorem tw4_204 : Cond.selects RX10 yX10_explained yX10_explained ∈ uw := uw_t4 (List.mem_of_getElem? (i := 204) rfl) rfl
theorem tw4_205 : Cond.code yX10_explained cX10_explained 4 (some .int) ∈ uw := uw_t4 (List.mem_of_getElem? (i := 205) rfl) rfl
theorem tw4_206 : Cond.methodLink RL 198 yX10_windy ∈ uw := uw_t4 (List.mem_of_getElem? (i := 206) rfl) rfl
theorem tw4_207 : Cond.instanceMethod yX10_windy ∈ uw := uw_t4 (List.mem_of_getElem? (i := 207) rfl) rfl
theorem tw4_208 : Cond.selects RX10 yX10_windy yX10_windy ∈ uw := uw_t4 (List.mem_of_getElem? (i := 208) rfl) rfl
theorem tw4_209 : Cond.code yX10_windy cX10_windy 8 (some .int) ∈ uw := uw_t4 (List.mem_of_getElem? (i := 209) rfl) rfl
theorem tw4_210 : Cond.methodLink RX10 347 yX1_firstWithMore ∈ uw := uw_t4 (List.mem_of_getElem? (i := 210) rfl) rfl
theorem tw4_211 : Cond.instanceMethod yX1_firstWithMore ∈ uw := uw_t4 (List.mem_of_getElem? (i := 211) rfl) rfl
theorem tw4_212 : Cond.selects RX1 yX1_firstWithMore yX1_firstWithMore ∈ uw := uw_t4 (List.mem_of_getElem? (i := 212) rfl) rfl
theorem tw4_213 : Cond.code yX1_firstWithMore cX1_firstWithMore 5 (some .int) ∈ uw := uw_t4 (List.mem_of_getElem? (i := 213) rfl) rfl
theorem tw4_214 : Cond.methodLink RL 202 yX10_wheel ∈ uw := uw_t4 (List.mem_of_getElem? (i := 214) rfl) rfl
theorem tw4_215 : Cond.instanceMethod yX10_wheel ∈ uw := uw_t4 (List.mem_of_getElem? (i := 215) rfl) rfl
theorem tw4_216 : Cond.selects RX10 yX10_wheel yX10_wheel ∈ uw := uw_t4 (List.mem_of_getElem? (i := 216) rfl) rfl
theorem tw4_217 : Cond.code yX10_wheel cX10_wheel 2 (some .int) ∈ uw := uw_t4 (List.mem_of_getElem? (i := 217) rfl) rfl
theorem tw4_218 : Cond.methodLink RX10 353 yX2_add ∈ uw := uw_t4 (List.mem_of_getElem? (i := 218) rfl) rfl
theorem tw4_219 : Cond.instanceMethod yX2_add ∈ uw := uw_t4 (List.mem_of_getElem? (i := 219) rfl) rfl
theorem tw4_220 : Cond.selects RX2 yX2_add yX2_add ∈ uw := uw_t4 (List.mem_of_getElem? (i := 220) rfl) rfl
theorem tw4_221 : Cond.code yX2_add cX2_add 2 (some .int) ∈ uw := uw_t4 (List.mem_of_getElem? (i := 221) rfl) rfl
theorem tw4_222 : Cond.methodLink RL 206 yX10_nearest ∈ uw := uw_t4 (List.mem_of_getElem? (i := 222) rfl) rfl
theorem tw4_223 : Cond.instanceMethod yX10_nearest ∈ uw := uw_t4 (List.mem_of_getElem? (i := 223) rfl) rfl
theorem tw4_224 : Cond.selects RX10 yX10_nearest yX10_nearest ∈ uw := uw_t4 (List.mem_of_getElem? (i := 224) rfl) rfl
theorem tw4_225 : Cond.code yX10_nearest cX10_nearest 4 (some .int) ∈ uw := uw_t4 (List.mem_of_getElem? (i := 225) rfl) rfl
theorem tw4_226 : Cond.methodLink RX10 356 yX2_search ∈ uw := uw_t4 (List.mem_of_getElem? (i := 226) rfl) rfl
theorem tw4_227 : Cond.instanceMethod yX2_search ∈ uw := uw_t4 (List.mem_of_getElem? (i := 227) rfl) rfl
theorem tw4_228 : Cond.selects RX2 yX2_search yX2_search ∈ uw := uw_t4 (List.mem_of_getElem? (i := 228) rfl) rfl
theorem tw4_229 : Cond.code yX2_search cX2_search 6 none ∈ uw := uw_t4 (List.mem_of_getElem? (i := 229) rfl) rfl
theorem tw4_230 : Cond.methodLink RX2 38 yX2_offer ∈ uw := uw_t4 (List.mem_of_getElem? (i := 230) rfl) rfl
theorem tw4_232 : Cond.instanceMethod yX2_offer ∈ uw := uw_t4 (List.mem_of_getElem? (i := 232) rfl) rfl
theorem tw4_233 : Cond.code yX2_offer cX2_offer 11 none ∈ uw := uw_t4 (List.mem_of_getElem? (i := 233) rfl) rfl
theorem tw4_234 : Cond.methodLink RX2 49 yX2_teethOr1 ∈ uw := uw_t4 (List.mem_of_getElem? (i := 234) rfl) rfl
theorem tw4_236 : Cond.instanceMethod yX2_teethOr1 ∈ uw := uw_t4 (List.mem_of_getElem? (i := 236) rfl) rfl
theorem tw4_237 : Cond.code yX2_teethOr1 cX2_teethOr1 2 (some .int) ∈ uw := uw_t4 (List.mem_of_getElem? (i := 237) rfl) rfl
theorem tw4_238 : Cond.methodLink RX2 53 yJ9_abs_067f4 ∈ uw := uw_t4 (List.mem_of_getElem? (i := 238) rfl) rfl
theorem tw4_239 : Cond.static yJ9_abs_067f4 ∈ uw := uw_t4 (List.mem_of_getElem? (i := 239) rfl) rfl
theorem tw5_0 : Cond.code yJ9_abs_067f4 cJ9_abs_067f4 2 (some .long) ∈ uw := uw_t5 (List.mem_of_getElem? (i := 0) rfl) rfl
theorem tw5_1 : Cond.methodLink RX2 42 yX2_offerSecondPairs ∈ uw := uw_t5 (List.mem_of_getElem? (i := 1) rfl) rfl
theorem tw5_3 : Cond.instanceMethod yX2_offerSecondPairs ∈ uw := uw_t5 (List.mem_of_getElem? (i := 3) rfl) rfl
theorem tw5_4 : Cond.code yX2_offerSecondPairs cX2_offerSecondPairs 5 none ∈ uw := uw_t5 (List.mem_of_getElem? (i := 4) rfl) rfl
theorem tw5_5 : Cond.methodLink RX2 46 yX2_reduce ∈ uw := uw_t5 (List.mem_of_getElem? (i := 5) rfl) rfl
theorem tw5_7 : Cond.instanceMethod yX2_reduce ∈ uw := uw_t5 (List.mem_of_getElem? (i := 7) rfl) rfl
theorem tw5_8 : Cond.code yX2_reduce cX2_reduce 8 none ∈ uw := uw_t5 (List.mem_of_getElem? (i := 8) rfl) rfl
theorem tw5_9 : Cond.methodLink RL 210 yX10_chosen ∈ uw := uw_t5 (List.mem_of_getElem? (i := 9) rfl) rfl
theorem tw5_10 : Cond.instanceMethod yX10_chosen ∈ uw := uw_t5 (List.mem_of_getElem? (i := 10) rfl) rfl
theorem tw5_11 : Cond.selects RX10 yX10_chosen yX10_chosen ∈ uw := uw_t5 (List.mem_of_getElem? (i := 11) rfl) rfl
theorem tw5_12 : Cond.code yX10_chosen cX10_chosen 2 (some .int) ∈ uw := uw_t5 (List.mem_of_getElem? (i := 12) rfl) rfl
theorem tw5_13 : Cond.methodLink RX10 358 yX2_chosenAt ∈ uw := uw_t5 (List.mem_of_getElem? (i := 13) rfl) rfl
theorem tw5_14 : Cond.instanceMethod yX2_chosenAt ∈ uw := uw_t5 (List.mem_of_getElem? (i := 14) rfl) rfl
theorem tw5_15 : Cond.selects RX2 yX2_chosenAt yX2_chosenAt ∈ uw := uw_t5 (List.mem_of_getElem? (i := 15) rfl) rfl
theorem tw5_16 : Cond.code yX2_chosenAt cX2_chosenAt 2 (some .int) ∈ uw := uw_t5 (List.mem_of_getElem? (i := 16) rfl) rfl
theorem tw5_17 : Cond.methodLink RL 214 yX10_daily ∈ uw := uw_t5 (List.mem_of_getElem? (i := 17) rfl) rfl
theorem tw5_18 : Cond.instanceMethod yX10_daily ∈ uw := uw_t5 (List.mem_of_getElem? (i := 18) rfl) rfl
theorem tw5_19 : Cond.selects RX10 yX10_daily yX10_daily ∈ uw := uw_t5 (List.mem_of_getElem? (i := 19) rfl) rfl
theorem tw5_20 : Cond.code yX10_daily cX10_daily 4 (some .int) ∈ uw := uw_t5 (List.mem_of_getElem? (i := 20) rfl) rfl
theorem tw5_21 : Cond.methodLink RX10 361 yX9_strokesOfDay ∈ uw := uw_t5 (List.mem_of_getElem? (i := 21) rfl) rfl
theorem tw5_22 : Cond.instanceMethod yX9_strokesOfDay ∈ uw := uw_t5 (List.mem_of_getElem? (i := 22) rfl) rfl
theorem tw5_23 : Cond.selects RX9 yX9_strokesOfDay yX9_strokesOfDay ∈ uw := uw_t5 (List.mem_of_getElem? (i := 23) rfl) rfl
theorem tw5_24 : Cond.sameMethod "HammerTowers$Train" "HammerTowers$Train" "strokesOfDay" "(Z)I" ∈ uw := uw_t5 (List.mem_of_getElem? (i := 24) rfl) rfl
theorem tw5_25 : Cond.selects RX0 yX9_strokesOfDay yX9_strokesOfDay ∈ uw := uw_t5 (List.mem_of_getElem? (i := 25) rfl) rfl
theorem tw5_26 : Cond.selects RX4 yX9_strokesOfDay yX9_strokesOfDay ∈ uw := uw_t5 (List.mem_of_getElem? (i := 26) rfl) rfl
theorem tw5_27 : Cond.selects RX7 yX9_strokesOfDay yX9_strokesOfDay ∈ uw := uw_t5 (List.mem_of_getElem? (i := 27) rfl) rfl
theorem tw5_28 : Cond.code yX9_strokesOfDay cX9_strokesOfDay 5 (some .int) ∈ uw := uw_t5 (List.mem_of_getElem? (i := 28) rfl) rfl
theorem tw5_29 : Cond.methodLink RX9 66 yX9_strokesAhead ∈ uw := uw_t5 (List.mem_of_getElem? (i := 29) rfl) rfl
theorem tw5_30 : Cond.instanceMethod yX9_strokesAhead ∈ uw := uw_t5 (List.mem_of_getElem? (i := 30) rfl) rfl
theorem tw5_31 : Cond.selects RX9 yX9_strokesAhead yX9_strokesAhead ∈ uw := uw_t5 (List.mem_of_getElem? (i := 31) rfl) rfl
theorem tw5_32 : Cond.sameMethod "HammerTowers$Train" "HammerTowers$Train" "strokesAhead" "(IZ)I" ∈ uw := uw_t5 (List.mem_of_getElem? (i := 32) rfl) rfl
theorem tw5_33 : Cond.selects RX0 yX9_strokesAhead yX4_strokesAhead ∈ uw := uw_t5 (List.mem_of_getElem? (i := 33) rfl) rfl
theorem tw5_34 : Cond.instanceMethod yX4_strokesAhead ∈ uw := uw_t5 (List.mem_of_getElem? (i := 34) rfl) rfl
theorem tw5_35 : Cond.code yX4_strokesAhead cX4_strokesAhead 3 (some .int) ∈ uw := uw_t5 (List.mem_of_getElem? (i := 35) rfl) rfl
theorem tw5_36 : Cond.selects RX4 yX9_strokesAhead yX4_strokesAhead ∈ uw := uw_t5 (List.mem_of_getElem? (i := 36) rfl) rfl
theorem tw5_37 : Cond.selects RX7 yX9_strokesAhead yX7_strokesAhead ∈ uw := uw_t5 (List.mem_of_getElem? (i := 37) rfl) rfl
theorem tw5_38 : Cond.instanceMethod yX7_strokesAhead ∈ uw := uw_t5 (List.mem_of_getElem? (i := 38) rfl) rfl
theorem tw5_39 : Cond.code yX7_strokesAhead cX7_strokesAhead 3 (some .int) ∈ uw := uw_t5 (List.mem_of_getElem? (i := 39) rfl) rfl
theorem tw5_40 : Cond.code yX9_strokesAhead cX9_strokesAhead 3 (some .int) ∈ uw := uw_t5 (List.mem_of_getElem? (i := 40) rfl) rfl
theorem tw5_41 : Cond.methodLink RL 218 yX10_lasting ∈ uw := uw_t5 (List.mem_of_getElem? (i := 41) rfl) rfl
theorem tw5_42 : Cond.instanceMethod yX10_lasting ∈ uw := uw_t5 (List.mem_of_getElem? (i := 42) rfl) rfl
theorem tw5_43 : Cond.selects RX10 yX10_lasting yX10_lasting ∈ uw := uw_t5 (List.mem_of_getElem? (i := 43) rfl) rfl
theorem tw5_44 : Cond.code yX10_lasting cX10_lasting 3 (some .int) ∈ uw := uw_t5 (List.mem_of_getElem? (i := 44) rfl) rfl
theorem tw5_45 : Cond.methodLink RX10 364 yX8_minutesLeft ∈ uw := uw_t5 (List.mem_of_getElem? (i := 45) rfl) rfl
theorem tw5_46 : Cond.instanceMethod yX8_minutesLeft ∈ uw := uw_t5 (List.mem_of_getElem? (i := 46) rfl) rfl
theorem tw5_47 : Cond.selects RX8 yX8_minutesLeft yX8_minutesLeft ∈ uw := uw_t5 (List.mem_of_getElem? (i := 47) rfl) rfl
theorem tw5_48 : Cond.code yX8_minutesLeft cX8_minutesLeft 7 (some .int) ∈ uw := uw_t5 (List.mem_of_getElem? (i := 48) rfl) rfl
theorem tw5_49 : Cond.constant RX8 141 (1000001) ∈ uw := uw_t5 (List.mem_of_getElem? (i := 49) rfl) rfl
theorem tw5_50 : Cond.methodLink RX8 142 yJ9_max_f86c9 ∈ uw := uw_t5 (List.mem_of_getElem? (i := 50) rfl) rfl
theorem tw5_51 : Cond.static yJ9_max_f86c9 ∈ uw := uw_t5 (List.mem_of_getElem? (i := 51) rfl) rfl
theorem tw5_52 : Cond.code yJ9_max_f86c9 cJ9_max_f86c9 4 (some .long) ∈ uw := uw_t5 (List.mem_of_getElem? (i := 52) rfl) rfl
theorem tw5_53 : Cond.constantLong RX8 146 (1000001) ∈ uw := uw_t5 (List.mem_of_getElem? (i := 53) rfl) rfl
theorem tw5_54 : Cond.methodLink RX8 148 yJ9_min_f86c9 ∈ uw := uw_t5 (List.mem_of_getElem? (i := 54) rfl) rfl
theorem tw5_55 : Cond.static yJ9_min_f86c9 ∈ uw := uw_t5 (List.mem_of_getElem? (i := 55) rfl) rfl
theorem tw5_56 : Cond.code yJ9_min_f86c9 cJ9_min_f86c9 4 (some .long) ∈ uw := uw_t5 (List.mem_of_getElem? (i := 56) rfl) rfl
theorem tw5_57 : Cond.methodLink RL 222 yX10_lastingDays ∈ uw := uw_t5 (List.mem_of_getElem? (i := 57) rfl) rfl
theorem tw5_58 : Cond.instanceMethod yX10_lastingDays ∈ uw := uw_t5 (List.mem_of_getElem? (i := 58) rfl) rfl
theorem tw5_59 : Cond.selects RX10 yX10_lastingDays yX10_lastingDays ∈ uw := uw_t5 (List.mem_of_getElem? (i := 59) rfl) rfl
theorem tw5_60 : Cond.code yX10_lastingDays cX10_lastingDays 4 (some .int) ∈ uw := uw_t5 (List.mem_of_getElem? (i := 60) rfl) rfl
theorem tw5_61 : Cond.methodLink RX10 367 yX9_wholeDays ∈ uw := uw_t5 (List.mem_of_getElem? (i := 61) rfl) rfl
theorem tw5_62 : Cond.instanceMethod yX9_wholeDays ∈ uw := uw_t5 (List.mem_of_getElem? (i := 62) rfl) rfl
theorem tw5_63 : Cond.selects RX9 yX9_wholeDays yX9_wholeDays ∈ uw := uw_t5 (List.mem_of_getElem? (i := 63) rfl) rfl
theorem tw5_64 : Cond.sameMethod "HammerTowers$Train" "HammerTowers$Train" "wholeDays" "(Z)I" ∈ uw := uw_t5 (List.mem_of_getElem? (i := 64) rfl) rfl
theorem tw5_65 : Cond.selects RX0 yX9_wholeDays yX9_wholeDays ∈ uw := uw_t5 (List.mem_of_getElem? (i := 65) rfl) rfl
theorem tw5_66 : Cond.selects RX4 yX9_wholeDays yX9_wholeDays ∈ uw := uw_t5 (List.mem_of_getElem? (i := 66) rfl) rfl
theorem tw5_67 : Cond.selects RX7 yX9_wholeDays yX9_wholeDays ∈ uw := uw_t5 (List.mem_of_getElem? (i := 67) rfl) rfl
theorem tw5_68 : Cond.code yX9_wholeDays cX9_wholeDays 5 (some .int) ∈ uw := uw_t5 (List.mem_of_getElem? (i := 68) rfl) rfl
theorem tw5_69 : Cond.constant RX9 70 (100000) ∈ uw := uw_t5 (List.mem_of_getElem? (i := 69) rfl) rfl
theorem tw5_70 : Cond.methodLink RL 226 yX10_asked ∈ uw := uw_t5 (List.mem_of_getElem? (i := 70) rfl) rfl
theorem tw5_71 : Cond.instanceMethod yX10_asked ∈ uw := uw_t5 (List.mem_of_getElem? (i := 71) rfl) rfl
theorem tw5_72 : Cond.selects RX10 yX10_asked yX10_asked ∈ uw := uw_t5 (List.mem_of_getElem? (i := 72) rfl) rfl
theorem tw5_73 : Cond.code yX10_asked cX10_asked 1 (some .int) ∈ uw := uw_t5 (List.mem_of_getElem? (i := 73) rfl) rfl
theorem tw5_74 : Cond.methodLink RL 230 yX10_upper ∈ uw := uw_t5 (List.mem_of_getElem? (i := 74) rfl) rfl
theorem tw5_75 : Cond.instanceMethod yX10_upper ∈ uw := uw_t5 (List.mem_of_getElem? (i := 75) rfl) rfl
theorem tw5_76 : Cond.selects RX10 yX10_upper yX10_upper ∈ uw := uw_t5 (List.mem_of_getElem? (i := 76) rfl) rfl
theorem tw5_77 : Cond.code yX10_upper cX10_upper 1 (some .long) ∈ uw := uw_t5 (List.mem_of_getElem? (i := 77) rfl) rfl
theorem tw5_78 : Cond.methodLink RL 235 yX10_lower ∈ uw := uw_t5 (List.mem_of_getElem? (i := 78) rfl) rfl
theorem tw5_79 : Cond.instanceMethod yX10_lower ∈ uw := uw_t5 (List.mem_of_getElem? (i := 79) rfl) rfl
theorem tw5_80 : Cond.selects RX10 yX10_lower yX10_lower ∈ uw := uw_t5 (List.mem_of_getElem? (i := 80) rfl) rfl
theorem tw5_81 : Cond.code yX10_lower cX10_lower 1 (some .long) ∈ uw := uw_t5 (List.mem_of_getElem? (i := 81) rfl) rfl
theorem tw5_82 : Cond.methodLink RL 239 yX10_count ∈ uw := uw_t5 (List.mem_of_getElem? (i := 82) rfl) rfl
theorem tw5_83 : Cond.instanceMethod yX10_count ∈ uw := uw_t5 (List.mem_of_getElem? (i := 83) rfl) rfl
theorem tw5_84 : Cond.selects RX10 yX10_count yX10_count ∈ uw := uw_t5 (List.mem_of_getElem? (i := 84) rfl) rfl
theorem tw5_85 : Cond.code yX10_count cX10_count 2 (some .int) ∈ uw := uw_t5 (List.mem_of_getElem? (i := 85) rfl) rfl
theorem tw5_86 : Cond.methodLink RX10 377 yX10_towersThere ∈ uw := uw_t5 (List.mem_of_getElem? (i := 86) rfl) rfl
theorem tw5_88 : Cond.instanceMethod yX10_towersThere ∈ uw := uw_t5 (List.mem_of_getElem? (i := 88) rfl) rfl
theorem tw5_89 : Cond.code yX10_towersThere cX10_towersThere 4 (some .int) ∈ uw := uw_t5 (List.mem_of_getElem? (i := 89) rfl) rfl
theorem tw5_90 : Cond.methodLink RX10 380 yX10_rowsThere ∈ uw := uw_t5 (List.mem_of_getElem? (i := 90) rfl) rfl
theorem tw5_92 : Cond.instanceMethod yX10_rowsThere ∈ uw := uw_t5 (List.mem_of_getElem? (i := 92) rfl) rfl
theorem tw5_93 : Cond.code yX10_rowsThere cX10_rowsThere 4 (some .int) ∈ uw := uw_t5 (List.mem_of_getElem? (i := 93) rfl) rfl
theorem tw5_94 : Cond.methodLink RX10 383 yX10_strokesEver ∈ uw := uw_t5 (List.mem_of_getElem? (i := 94) rfl) rfl
theorem tw5_96 : Cond.instanceMethod yX10_strokesEver ∈ uw := uw_t5 (List.mem_of_getElem? (i := 96) rfl) rfl
theorem tw5_97 : Cond.code yX10_strokesEver cX10_strokesEver 4 (some .int) ∈ uw := uw_t5 (List.mem_of_getElem? (i := 97) rfl) rfl
theorem tw5_98 : Cond.methodLink RL 243 yX10_finding ∈ uw := uw_t5 (List.mem_of_getElem? (i := 98) rfl) rfl
theorem tw5_99 : Cond.instanceMethod yX10_finding ∈ uw := uw_t5 (List.mem_of_getElem? (i := 99) rfl) rfl
theorem tw5_100 : Cond.selects RX10 yX10_finding yX10_finding ∈ uw := uw_t5 (List.mem_of_getElem? (i := 100) rfl) rfl
theorem tw5_101 : Cond.code yX10_finding cX10_finding 1 (some .int) ∈ uw := uw_t5 (List.mem_of_getElem? (i := 101) rfl) rfl
theorem tw5_102 : Cond.methodLink RL 247 yX10_findings ∈ uw := uw_t5 (List.mem_of_getElem? (i := 102) rfl) rfl
theorem tw5_103 : Cond.instanceMethod yX10_findings ∈ uw := uw_t5 (List.mem_of_getElem? (i := 103) rfl) rfl
theorem tw5_104 : Cond.selects RX10 yX10_findings yX10_findings ∈ uw := uw_t5 (List.mem_of_getElem? (i := 104) rfl) rfl
theorem tw5_105 : Cond.code yX10_findings cX10_findings 2 (some .int) ∈ uw := uw_t5 (List.mem_of_getElem? (i := 105) rfl) rfl
theorem tw5_106 : Cond.methodLink RL 251 yX10_digest ∈ uw := uw_t5 (List.mem_of_getElem? (i := 106) rfl) rfl
theorem tw5_107 : Cond.instanceMethod yX10_digest ∈ uw := uw_t5 (List.mem_of_getElem? (i := 107) rfl) rfl
theorem tw5_108 : Cond.selects RX10 yX10_digest yX10_digest ∈ uw := uw_t5 (List.mem_of_getElem? (i := 108) rfl) rfl
theorem tw5_109 : Cond.code yX10_digest cX10_digest 4 (some .long) ∈ uw := uw_t5 (List.mem_of_getElem? (i := 109) rfl) rfl
theorem tw5_110 : Cond.constantLong RX10 389 (17) ∈ uw := uw_t5 (List.mem_of_getElem? (i := 110) rfl) rfl
theorem tw5_111 : Cond.methodLink RX10 391 yX10_mix ∈ uw := uw_t5 (List.mem_of_getElem? (i := 111) rfl) rfl
theorem tw5_112 : Cond.static yX10_mix ∈ uw := uw_t5 (List.mem_of_getElem? (i := 112) rfl) rfl
theorem tw5_113 : Cond.code yX10_mix cX10_mix 4 (some .long) ∈ uw := uw_t5 (List.mem_of_getElem? (i := 113) rfl) rfl
theorem tw5_114 : Cond.constantLong RX10 423 (31) ∈ uw := uw_t5 (List.mem_of_getElem? (i := 114) rfl) rfl
theorem tw5_115 : Cond.methodLink RX10 395 yX10_mixTrain ∈ uw := uw_t5 (List.mem_of_getElem? (i := 115) rfl) rfl
theorem tw5_117 : Cond.instanceMethod yX10_mixTrain ∈ uw := uw_t5 (List.mem_of_getElem? (i := 117) rfl) rfl
theorem tw5_118 : Cond.code yX10_mixTrain cX10_mixTrain 6 (some .long) ∈ uw := uw_t5 (List.mem_of_getElem? (i := 118) rfl) rfl
theorem tw5_119 : Cond.methodLink RX10 425 yX10_told ∈ uw := uw_t5 (List.mem_of_getElem? (i := 119) rfl) rfl
theorem tw5_120 : Cond.methodLink RX10 428 yX10_mixAll ∈ uw := uw_t5 (List.mem_of_getElem? (i := 120) rfl) rfl
theorem tw5_121 : Cond.static yX10_mixAll ∈ uw := uw_t5 (List.mem_of_getElem? (i := 121) rfl) rfl
theorem tw5_122 : Cond.code yX10_mixAll cX10_mixAll 4 (some .long) ∈ uw := uw_t5 (List.mem_of_getElem? (i := 122) rfl) rfl
theorem tw5_123 : Cond.methodLink RX10 399 yX10_mixTower ∈ uw := uw_t5 (List.mem_of_getElem? (i := 123) rfl) rfl
theorem tw5_125 : Cond.instanceMethod yX10_mixTower ∈ uw := uw_t5 (List.mem_of_getElem? (i := 125) rfl) rfl
theorem tw5_126 : Cond.code yX10_mixTower cX10_mixTower 6 (some .long) ∈ uw := uw_t5 (List.mem_of_getElem? (i := 126) rfl) rfl
theorem tw5_127 : Cond.constantLong RX10 435 (-1) ∈ uw := uw_t5 (List.mem_of_getElem? (i := 127) rfl) rfl
theorem tw5_128 : Cond.methodLink RX10 437 yX10_tells ∈ uw := uw_t5 (List.mem_of_getElem? (i := 128) rfl) rfl
theorem tw5_129 : Cond.methodLink RX10 402 yX10_mixRow ∈ uw := uw_t5 (List.mem_of_getElem? (i := 129) rfl) rfl
theorem tw5_130 : Cond.static yX10_mixRow ∈ uw := uw_t5 (List.mem_of_getElem? (i := 130) rfl) rfl
theorem tw5_131 : Cond.code yX10_mixRow cX10_mixRow 4 (some .long) ∈ uw := uw_t5 (List.mem_of_getElem? (i := 131) rfl) rfl
theorem tw5_132 : Cond.classLink RL 10 RX11 ∈ uw := uw_t5 (List.mem_of_getElem? (i := 132) rfl) rfl
theorem tw5_133 : Cond.instantiable RX11 56 ∈ uw := uw_t5 (List.mem_of_getElem? (i := 133) rfl) rfl
theorem tw5_134 : Cond.methodLink RL 12 yX11_init ∈ uw := uw_t5 (List.mem_of_getElem? (i := 134) rfl) rfl
theorem tw5_135 : Cond.instanceMethod yX11_init ∈ uw := uw_t5 (List.mem_of_getElem? (i := 135) rfl) rfl
theorem tw5_136 : Cond.code yX11_init cX11_init 2 none ∈ uw := uw_t5 (List.mem_of_getElem? (i := 136) rfl) rfl
theorem tw5_137 : Cond.methodLink RX11 1 ⟨"java/lang/Object", "<init>", "()V"⟩ ∈ uw := uw_t5 (List.mem_of_getElem? (i := 137) rfl) rfl
theorem tw5_138 : Cond.fieldLink RX11 139 "HammerTowersModel" "finding" "I" ∈ uw := uw_t5 (List.mem_of_getElem? (i := 138) rfl) rfl
theorem tw5_139 : Cond.fieldLink RX11 7 "HammerTowersModel" "findings" "[I" ∈ uw := uw_t5 (List.mem_of_getElem? (i := 139) rfl) rfl
theorem tw5_140 : Cond.fieldLink RX11 280 "HammerTowersModel" "asked" "I" ∈ uw := uw_t5 (List.mem_of_getElem? (i := 140) rfl) rfl
theorem tw5_141 : Cond.fieldLink RX11 142 "HammerTowersModel" "upper" "J" ∈ uw := uw_t5 (List.mem_of_getElem? (i := 141) rfl) rfl
theorem tw5_142 : Cond.fieldLink RX11 13 "HammerTowersModel" "lower" "J" ∈ uw := uw_t5 (List.mem_of_getElem? (i := 142) rfl) rfl
theorem tw5_143 : Cond.fieldLink RX11 238 "HammerTowersModel" "now" "I" ∈ uw := uw_t5 (List.mem_of_getElem? (i := 143) rfl) rfl
theorem tw5_144 : Cond.fieldLink RX11 231 "HammerTowersModel" "struckEver" "I" ∈ uw := uw_t5 (List.mem_of_getElem? (i := 144) rfl) rfl
theorem tw5_145 : Cond.fieldLink RX11 17 "HammerTowersModel" "sizes" "[I" ∈ uw := uw_t5 (List.mem_of_getElem? (i := 145) rfl) rfl
theorem tw5_146 : Cond.fieldLink RX11 20 "HammerTowersModel" "rows" "[I" ∈ uw := uw_t5 (List.mem_of_getElem? (i := 146) rfl) rfl
theorem tw5_147 : Cond.fieldLink RX11 23 "HammerTowersModel" "moving" "[I" ∈ uw := uw_t5 (List.mem_of_getElem? (i := 147) rfl) rfl
theorem tw5_148 : Cond.fieldLink RX11 160 "HammerTowersModel" "trains" "I" ∈ uw := uw_t5 (List.mem_of_getElem? (i := 148) rfl) rfl
theorem tw5_149 : Cond.fieldLink RX11 26 "HammerTowersModel" "kinds" "[I" ∈ uw := uw_t5 (List.mem_of_getElem? (i := 149) rfl) rfl
theorem tw5_150 : Cond.fieldLink RX11 29 "HammerTowersModel" "many" "[I" ∈ uw := uw_t5 (List.mem_of_getElem? (i := 150) rfl) rfl
theorem tw5_151 : Cond.fieldLink RX11 32 "HammerTowersModel" "notches" "[I" ∈ uw := uw_t5 (List.mem_of_getElem? (i := 151) rfl) rfl
theorem tw5_152 : Cond.fieldLink RX11 35 "HammerTowersModel" "stands" "[I" ∈ uw := uw_t5 (List.mem_of_getElem? (i := 152) rfl) rfl
theorem tw5_153 : Cond.fieldLink RX11 38 "HammerTowersModel" "pinMany" "[I" ∈ uw := uw_t5 (List.mem_of_getElem? (i := 153) rfl) rfl
theorem tw5_154 : Cond.fieldLink RX11 41 "HammerTowersModel" "pins" "[I" ∈ uw := uw_t5 (List.mem_of_getElem? (i := 154) rfl) rfl
theorem tw5_155 : Cond.fieldLink RX11 44 "HammerTowersModel" "pinAt" "[I" ∈ uw := uw_t5 (List.mem_of_getElem? (i := 155) rfl) rfl
theorem tw5_156 : Cond.fieldLink RX11 47 "HammerTowersModel" "paces" "[I" ∈ uw := uw_t5 (List.mem_of_getElem? (i := 156) rfl) rfl
theorem tw5_157 : Cond.fieldLink RX11 50 "HammerTowersModel" "falls" "[I" ∈ uw := uw_t5 (List.mem_of_getElem? (i := 157) rfl) rfl
theorem tw5_158 : Cond.fieldLink RX11 53 "HammerTowersModel" "weights" "[I" ∈ uw := uw_t5 (List.mem_of_getElem? (i := 158) rfl) rfl
theorem tw5_159 : Cond.fieldLink RX11 56 "HammerTowersModel" "dues" "[I" ∈ uw := uw_t5 (List.mem_of_getElem? (i := 159) rfl) rfl
theorem tw5_160 : Cond.fieldLink RX11 59 "HammerTowersModel" "places" "[I" ∈ uw := uw_t5 (List.mem_of_getElem? (i := 160) rfl) rfl
theorem tw5_161 : Cond.fieldLink RX11 62 "HammerTowersModel" "brokens" "[I" ∈ uw := uw_t5 (List.mem_of_getElem? (i := 161) rfl) rfl
theorem tw5_162 : Cond.fieldLink RX11 65 "HammerTowersModel" "strucks" "[I" ∈ uw := uw_t5 (List.mem_of_getElem? (i := 162) rfl) rfl
theorem tw5_163 : Cond.fieldLink RX11 68 "HammerTowersModel" "lifts" "[Z" ∈ uw := uw_t5 (List.mem_of_getElem? (i := 163) rfl) rfl
theorem tw5_164 : Cond.fieldLink RX11 72 "HammerTowersModel" "isTower" "[Z" ∈ uw := uw_t5 (List.mem_of_getElem? (i := 164) rfl) rfl
theorem tw5_165 : Cond.fieldLink RX11 75 "HammerTowersModel" "handsAt" "[I" ∈ uw := uw_t5 (List.mem_of_getElem? (i := 165) rfl) rfl
theorem tw5_166 : Cond.fieldLink RX11 78 "HammerTowersModel" "rates" "[I" ∈ uw := uw_t5 (List.mem_of_getElem? (i := 166) rfl) rfl
theorem tw5_167 : Cond.fieldLink RX11 81 "HammerTowersModel" "goings" "[I" ∈ uw := uw_t5 (List.mem_of_getElem? (i := 167) rfl) rfl
theorem tw5_168 : Cond.fieldLink RX11 84 "HammerTowersModel" "sums" "[I" ∈ uw := uw_t5 (List.mem_of_getElem? (i := 168) rfl) rfl
theorem tw5_169 : Cond.fieldLink RX11 87 "HammerTowersModel" "goes" "[Z" ∈ uw := uw_t5 (List.mem_of_getElem? (i := 169) rfl) rfl
theorem tw5_170 : Cond.fieldLink RX11 90 "HammerTowersModel" "silentFrom" "[I" ∈ uw := uw_t5 (List.mem_of_getElem? (i := 170) rfl) rfl
theorem tw5_171 : Cond.fieldLink RX11 93 "HammerTowersModel" "silentTo" "[I" ∈ uw := uw_t5 (List.mem_of_getElem? (i := 171) rfl) rfl
theorem tw5_172 : Cond.fieldLink RX11 96 "HammerTowersModel" "silentSort" "[I" ∈ uw := uw_t5 (List.mem_of_getElem? (i := 172) rfl) rfl
theorem tw5_173 : Cond.fieldLink RX11 99 "HammerTowersModel" "hung" "[I" ∈ uw := uw_t5 (List.mem_of_getElem? (i := 173) rfl) rfl
theorem tw5_174 : Cond.fieldLink RX11 102 "HammerTowersModel" "isWarned" "[Z" ∈ uw := uw_t5 (List.mem_of_getElem? (i := 174) rfl) rfl
theorem tw5_175 : Cond.fieldLink RX11 105 "HammerTowersModel" "entries" "[I" ∈ uw := uw_t5 (List.mem_of_getElem? (i := 175) rfl) rfl
theorem tw5_176 : Cond.fieldLink RX11 108 "HammerTowersModel" "logs" "[I" ∈ uw := uw_t5 (List.mem_of_getElem? (i := 176) rfl) rfl
theorem tw5_177 : Cond.fieldLink RX11 111 "HammerTowersModel" "best" "[I" ∈ uw := uw_t5 (List.mem_of_getElem? (i := 177) rfl) rfl
theorem tw5_178 : Cond.fieldLink RX11 114 "HammerTowersModel" "acts" "I" ∈ uw := uw_t5 (List.mem_of_getElem? (i := 178) rfl) rfl
theorem tw5_179 : Cond.fieldLink RX11 118 "HammerTowersModel" "actRow" "[I" ∈ uw := uw_t5 (List.mem_of_getElem? (i := 179) rfl) rfl
theorem tw5_180 : Cond.fieldLink RX11 307 "HammerTowersModel" "faultSort" "I" ∈ uw := uw_t5 (List.mem_of_getElem? (i := 180) rfl) rfl
theorem tw5_181 : Cond.fieldLink RX11 133 "HammerTowersModel" "faultFirst" "I" ∈ uw := uw_t5 (List.mem_of_getElem? (i := 181) rfl) rfl
theorem tw5_182 : Cond.fieldLink RX11 136 "HammerTowersModel" "faultSecond" "I" ∈ uw := uw_t5 (List.mem_of_getElem? (i := 182) rfl) rfl
theorem tw5_183 : Cond.fieldLink RX11 296 "HammerTowersModel" "fewest" "I" ∈ uw := uw_t5 (List.mem_of_getElem? (i := 183) rfl) rfl
theorem tw5_184 : Cond.fieldLink RX11 293 "HammerTowersModel" "without" "I" ∈ uw := uw_t5 (List.mem_of_getElem? (i := 184) rfl) rfl
theorem tw5_185 : Cond.fieldLink RX11 121 "HammerTowersModel" "held" "[I" ∈ uw := uw_t5 (List.mem_of_getElem? (i := 185) rfl) rfl
theorem tw5_186 : Cond.fieldLink RX11 310 "HammerTowersModel" "wheels" "I" ∈ uw := uw_t5 (List.mem_of_getElem? (i := 186) rfl) rfl
theorem tw5_187 : Cond.fieldLink RX11 124 "HammerTowersModel" "teeth" "[I" ∈ uw := uw_t5 (List.mem_of_getElem? (i := 187) rfl) rfl
theorem tw5_188 : Cond.fieldLink RX11 331 "HammerTowersModel" "chosenMany" "I" ∈ uw := uw_t5 (List.mem_of_getElem? (i := 188) rfl) rfl
theorem tw5_189 : Cond.fieldLink RX11 127 "HammerTowersModel" "chosen" "[I" ∈ uw := uw_t5 (List.mem_of_getElem? (i := 189) rfl) rfl
theorem tw5_190 : Cond.fieldLink RX11 130 "HammerTowersModel" "four" "[I" ∈ uw := uw_t5 (List.mem_of_getElem? (i := 190) rfl) rfl
theorem tw5_191 : Cond.fieldLink RX11 324 "HammerTowersModel" "bestUp" "J" ∈ uw := uw_t5 (List.mem_of_getElem? (i := 191) rfl) rfl
theorem tw5_192 : Cond.fieldLink RX11 321 "HammerTowersModel" "bestLow" "J" ∈ uw := uw_t5 (List.mem_of_getElem? (i := 192) rfl) rfl
theorem tw5_193 : Cond.fieldLink RX11 313 "HammerTowersModel" "isAny" "Z" ∈ uw := uw_t5 (List.mem_of_getElem? (i := 193) rfl) rfl
theorem tw5_194 : Cond.lays RX11 "HammerTowersModel" "finding" "I" ∈ uw := uw_t5 (List.mem_of_getElem? (i := 194) rfl) rfl
theorem tw5_195 : Cond.soleField "HammerTowersModel" "finding" ∈ uw := uw_t5 (List.mem_of_getElem? (i := 195) rfl) rfl
theorem tw5_196 : Cond.laysFinal RX11 "HammerTowersModel" "findings" "[I" ∈ uw := uw_t5 (List.mem_of_getElem? (i := 196) rfl) rfl
theorem tw5_197 : Cond.soleField "HammerTowersModel" "findings" ∈ uw := uw_t5 (List.mem_of_getElem? (i := 197) rfl) rfl
theorem tw5_198 : Cond.lays RX11 "HammerTowersModel" "asked" "I" ∈ uw := uw_t5 (List.mem_of_getElem? (i := 198) rfl) rfl
theorem tw5_199 : Cond.soleField "HammerTowersModel" "asked" ∈ uw := uw_t5 (List.mem_of_getElem? (i := 199) rfl) rfl
theorem tw5_200 : Cond.lays RX11 "HammerTowersModel" "upper" "J" ∈ uw := uw_t5 (List.mem_of_getElem? (i := 200) rfl) rfl
theorem tw5_201 : Cond.soleField "HammerTowersModel" "upper" ∈ uw := uw_t5 (List.mem_of_getElem? (i := 201) rfl) rfl
theorem tw5_202 : Cond.lays RX11 "HammerTowersModel" "lower" "J" ∈ uw := uw_t5 (List.mem_of_getElem? (i := 202) rfl) rfl
theorem tw5_203 : Cond.soleField "HammerTowersModel" "lower" ∈ uw := uw_t5 (List.mem_of_getElem? (i := 203) rfl) rfl
theorem tw5_204 : Cond.lays RX11 "HammerTowersModel" "now" "I" ∈ uw := uw_t5 (List.mem_of_getElem? (i := 204) rfl) rfl
theorem tw5_205 : Cond.soleField "HammerTowersModel" "now" ∈ uw := uw_t5 (List.mem_of_getElem? (i := 205) rfl) rfl
theorem tw5_206 : Cond.lays RX11 "HammerTowersModel" "struckEver" "I" ∈ uw := uw_t5 (List.mem_of_getElem? (i := 206) rfl) rfl
theorem tw5_207 : Cond.soleField "HammerTowersModel" "struckEver" ∈ uw := uw_t5 (List.mem_of_getElem? (i := 207) rfl) rfl
theorem tw5_208 : Cond.laysFinal RX11 "HammerTowersModel" "sizes" "[I" ∈ uw := uw_t5 (List.mem_of_getElem? (i := 208) rfl) rfl
theorem tw5_209 : Cond.soleField "HammerTowersModel" "sizes" ∈ uw := uw_t5 (List.mem_of_getElem? (i := 209) rfl) rfl
theorem tw5_210 : Cond.laysFinal RX11 "HammerTowersModel" "rows" "[I" ∈ uw := uw_t5 (List.mem_of_getElem? (i := 210) rfl) rfl
theorem tw5_211 : Cond.soleField "HammerTowersModel" "rows" ∈ uw := uw_t5 (List.mem_of_getElem? (i := 211) rfl) rfl
theorem tw5_212 : Cond.laysFinal RX11 "HammerTowersModel" "moving" "[I" ∈ uw := uw_t5 (List.mem_of_getElem? (i := 212) rfl) rfl
theorem tw5_213 : Cond.soleField "HammerTowersModel" "moving" ∈ uw := uw_t5 (List.mem_of_getElem? (i := 213) rfl) rfl
theorem tw5_214 : Cond.lays RX11 "HammerTowersModel" "trains" "I" ∈ uw := uw_t5 (List.mem_of_getElem? (i := 214) rfl) rfl
theorem tw5_215 : Cond.soleField "HammerTowersModel" "trains" ∈ uw := uw_t5 (List.mem_of_getElem? (i := 215) rfl) rfl
theorem tw5_216 : Cond.laysFinal RX11 "HammerTowersModel" "kinds" "[I" ∈ uw := uw_t5 (List.mem_of_getElem? (i := 216) rfl) rfl
theorem tw5_217 : Cond.soleField "HammerTowersModel" "kinds" ∈ uw := uw_t5 (List.mem_of_getElem? (i := 217) rfl) rfl
theorem tw5_218 : Cond.laysFinal RX11 "HammerTowersModel" "many" "[I" ∈ uw := uw_t5 (List.mem_of_getElem? (i := 218) rfl) rfl
theorem tw5_219 : Cond.soleField "HammerTowersModel" "many" ∈ uw := uw_t5 (List.mem_of_getElem? (i := 219) rfl) rfl
theorem tw5_220 : Cond.laysFinal RX11 "HammerTowersModel" "notches" "[I" ∈ uw := uw_t5 (List.mem_of_getElem? (i := 220) rfl) rfl
theorem tw5_221 : Cond.soleField "HammerTowersModel" "notches" ∈ uw := uw_t5 (List.mem_of_getElem? (i := 221) rfl) rfl
theorem tw5_222 : Cond.laysFinal RX11 "HammerTowersModel" "stands" "[I" ∈ uw := uw_t5 (List.mem_of_getElem? (i := 222) rfl) rfl
theorem tw5_223 : Cond.soleField "HammerTowersModel" "stands" ∈ uw := uw_t5 (List.mem_of_getElem? (i := 223) rfl) rfl
theorem tw5_224 : Cond.laysFinal RX11 "HammerTowersModel" "pinMany" "[I" ∈ uw := uw_t5 (List.mem_of_getElem? (i := 224) rfl) rfl
theorem tw5_225 : Cond.soleField "HammerTowersModel" "pinMany" ∈ uw := uw_t5 (List.mem_of_getElem? (i := 225) rfl) rfl
theorem tw5_226 : Cond.laysFinal RX11 "HammerTowersModel" "pins" "[I" ∈ uw := uw_t5 (List.mem_of_getElem? (i := 226) rfl) rfl
theorem tw5_227 : Cond.soleField "HammerTowersModel" "pins" ∈ uw := uw_t5 (List.mem_of_getElem? (i := 227) rfl) rfl
theorem tw5_228 : Cond.laysFinal RX11 "HammerTowersModel" "pinAt" "[I" ∈ uw := uw_t5 (List.mem_of_getElem? (i := 228) rfl) rfl
theorem tw5_229 : Cond.soleField "HammerTowersModel" "pinAt" ∈ uw := uw_t5 (List.mem_of_getElem? (i := 229) rfl) rfl
theorem tw5_230 : Cond.laysFinal RX11 "HammerTowersModel" "paces" "[I" ∈ uw := uw_t5 (List.mem_of_getElem? (i := 230) rfl) rfl
theorem tw5_231 : Cond.soleField "HammerTowersModel" "paces" ∈ uw := uw_t5 (List.mem_of_getElem? (i := 231) rfl) rfl
theorem tw5_232 : Cond.laysFinal RX11 "HammerTowersModel" "falls" "[I" ∈ uw := uw_t5 (List.mem_of_getElem? (i := 232) rfl) rfl
theorem tw5_233 : Cond.soleField "HammerTowersModel" "falls" ∈ uw := uw_t5 (List.mem_of_getElem? (i := 233) rfl) rfl
theorem tw5_234 : Cond.laysFinal RX11 "HammerTowersModel" "weights" "[I" ∈ uw := uw_t5 (List.mem_of_getElem? (i := 234) rfl) rfl
theorem tw5_235 : Cond.soleField "HammerTowersModel" "weights" ∈ uw := uw_t5 (List.mem_of_getElem? (i := 235) rfl) rfl
theorem tw5_236 : Cond.laysFinal RX11 "HammerTowersModel" "dues" "[I" ∈ uw := uw_t5 (List.mem_of_getElem? (i := 236) rfl) rfl
theorem tw5_237 : Cond.soleField "HammerTowersModel" "dues" ∈ uw := uw_t5 (List.mem_of_getElem? (i := 237) rfl) rfl
theorem tw5_238 : Cond.laysFinal RX11 "HammerTowersModel" "places" "[I" ∈ uw := uw_t5 (List.mem_of_getElem? (i := 238) rfl) rfl
theorem tw5_239 : Cond.soleField "HammerTowersModel" "places" ∈ uw := uw_t5 (List.mem_of_getElem? (i := 239) rfl) rfl
theorem tw6_0 : Cond.laysFinal RX11 "HammerTowersModel" "brokens" "[I" ∈ uw := uw_t6 (List.mem_of_getElem? (i := 0) rfl) rfl
theorem tw6_1 : Cond.soleField "HammerTowersModel" "brokens" ∈ uw := uw_t6 (List.mem_of_getElem? (i := 1) rfl) rfl
theorem tw6_2 : Cond.laysFinal RX11 "HammerTowersModel" "strucks" "[I" ∈ uw := uw_t6 (List.mem_of_getElem? (i := 2) rfl) rfl
theorem tw6_3 : Cond.soleField "HammerTowersModel" "strucks" ∈ uw := uw_t6 (List.mem_of_getElem? (i := 3) rfl) rfl
theorem tw6_4 : Cond.laysFinal RX11 "HammerTowersModel" "lifts" "[Z" ∈ uw := uw_t6 (List.mem_of_getElem? (i := 4) rfl) rfl
theorem tw6_5 : Cond.soleField "HammerTowersModel" "lifts" ∈ uw := uw_t6 (List.mem_of_getElem? (i := 5) rfl) rfl
theorem tw6_6 : Cond.laysFinal RX11 "HammerTowersModel" "isTower" "[Z" ∈ uw := uw_t6 (List.mem_of_getElem? (i := 6) rfl) rfl
theorem tw6_7 : Cond.soleField "HammerTowersModel" "isTower" ∈ uw := uw_t6 (List.mem_of_getElem? (i := 7) rfl) rfl
theorem tw6_8 : Cond.laysFinal RX11 "HammerTowersModel" "handsAt" "[I" ∈ uw := uw_t6 (List.mem_of_getElem? (i := 8) rfl) rfl
theorem tw6_9 : Cond.soleField "HammerTowersModel" "handsAt" ∈ uw := uw_t6 (List.mem_of_getElem? (i := 9) rfl) rfl
theorem tw6_10 : Cond.laysFinal RX11 "HammerTowersModel" "rates" "[I" ∈ uw := uw_t6 (List.mem_of_getElem? (i := 10) rfl) rfl
theorem tw6_11 : Cond.soleField "HammerTowersModel" "rates" ∈ uw := uw_t6 (List.mem_of_getElem? (i := 11) rfl) rfl
theorem tw6_12 : Cond.laysFinal RX11 "HammerTowersModel" "goings" "[I" ∈ uw := uw_t6 (List.mem_of_getElem? (i := 12) rfl) rfl
theorem tw6_13 : Cond.soleField "HammerTowersModel" "goings" ∈ uw := uw_t6 (List.mem_of_getElem? (i := 13) rfl) rfl
theorem tw6_14 : Cond.laysFinal RX11 "HammerTowersModel" "sums" "[I" ∈ uw := uw_t6 (List.mem_of_getElem? (i := 14) rfl) rfl
theorem tw6_15 : Cond.soleField "HammerTowersModel" "sums" ∈ uw := uw_t6 (List.mem_of_getElem? (i := 15) rfl) rfl
theorem tw6_16 : Cond.laysFinal RX11 "HammerTowersModel" "goes" "[Z" ∈ uw := uw_t6 (List.mem_of_getElem? (i := 16) rfl) rfl
theorem tw6_17 : Cond.soleField "HammerTowersModel" "goes" ∈ uw := uw_t6 (List.mem_of_getElem? (i := 17) rfl) rfl
theorem tw6_18 : Cond.laysFinal RX11 "HammerTowersModel" "silentFrom" "[I" ∈ uw := uw_t6 (List.mem_of_getElem? (i := 18) rfl) rfl
theorem tw6_19 : Cond.soleField "HammerTowersModel" "silentFrom" ∈ uw := uw_t6 (List.mem_of_getElem? (i := 19) rfl) rfl
theorem tw6_20 : Cond.laysFinal RX11 "HammerTowersModel" "silentTo" "[I" ∈ uw := uw_t6 (List.mem_of_getElem? (i := 20) rfl) rfl
theorem tw6_21 : Cond.soleField "HammerTowersModel" "silentTo" ∈ uw := uw_t6 (List.mem_of_getElem? (i := 21) rfl) rfl
theorem tw6_22 : Cond.laysFinal RX11 "HammerTowersModel" "silentSort" "[I" ∈ uw := uw_t6 (List.mem_of_getElem? (i := 22) rfl) rfl
theorem tw6_23 : Cond.soleField "HammerTowersModel" "silentSort" ∈ uw := uw_t6 (List.mem_of_getElem? (i := 23) rfl) rfl
theorem tw6_24 : Cond.laysFinal RX11 "HammerTowersModel" "hung" "[I" ∈ uw := uw_t6 (List.mem_of_getElem? (i := 24) rfl) rfl
theorem tw6_25 : Cond.soleField "HammerTowersModel" "hung" ∈ uw := uw_t6 (List.mem_of_getElem? (i := 25) rfl) rfl
theorem tw6_26 : Cond.laysFinal RX11 "HammerTowersModel" "isWarned" "[Z" ∈ uw := uw_t6 (List.mem_of_getElem? (i := 26) rfl) rfl
theorem tw6_27 : Cond.soleField "HammerTowersModel" "isWarned" ∈ uw := uw_t6 (List.mem_of_getElem? (i := 27) rfl) rfl
theorem tw6_28 : Cond.laysFinal RX11 "HammerTowersModel" "entries" "[I" ∈ uw := uw_t6 (List.mem_of_getElem? (i := 28) rfl) rfl
theorem tw6_29 : Cond.soleField "HammerTowersModel" "entries" ∈ uw := uw_t6 (List.mem_of_getElem? (i := 29) rfl) rfl
theorem tw6_30 : Cond.laysFinal RX11 "HammerTowersModel" "logs" "[I" ∈ uw := uw_t6 (List.mem_of_getElem? (i := 30) rfl) rfl
theorem tw6_31 : Cond.soleField "HammerTowersModel" "logs" ∈ uw := uw_t6 (List.mem_of_getElem? (i := 31) rfl) rfl
theorem tw6_32 : Cond.laysFinal RX11 "HammerTowersModel" "best" "[I" ∈ uw := uw_t6 (List.mem_of_getElem? (i := 32) rfl) rfl
theorem tw6_33 : Cond.soleField "HammerTowersModel" "best" ∈ uw := uw_t6 (List.mem_of_getElem? (i := 33) rfl) rfl
theorem tw6_34 : Cond.lays RX11 "HammerTowersModel" "acts" "I" ∈ uw := uw_t6 (List.mem_of_getElem? (i := 34) rfl) rfl
theorem tw6_35 : Cond.soleField "HammerTowersModel" "acts" ∈ uw := uw_t6 (List.mem_of_getElem? (i := 35) rfl) rfl
theorem tw6_36 : Cond.laysFinal RX11 "HammerTowersModel" "actRow" "[I" ∈ uw := uw_t6 (List.mem_of_getElem? (i := 36) rfl) rfl
theorem tw6_37 : Cond.soleField "HammerTowersModel" "actRow" ∈ uw := uw_t6 (List.mem_of_getElem? (i := 37) rfl) rfl
theorem tw6_38 : Cond.lays RX11 "HammerTowersModel" "faultSort" "I" ∈ uw := uw_t6 (List.mem_of_getElem? (i := 38) rfl) rfl
theorem tw6_39 : Cond.soleField "HammerTowersModel" "faultSort" ∈ uw := uw_t6 (List.mem_of_getElem? (i := 39) rfl) rfl
theorem tw6_40 : Cond.lays RX11 "HammerTowersModel" "faultFirst" "I" ∈ uw := uw_t6 (List.mem_of_getElem? (i := 40) rfl) rfl
theorem tw6_41 : Cond.soleField "HammerTowersModel" "faultFirst" ∈ uw := uw_t6 (List.mem_of_getElem? (i := 41) rfl) rfl
theorem tw6_42 : Cond.lays RX11 "HammerTowersModel" "faultSecond" "I" ∈ uw := uw_t6 (List.mem_of_getElem? (i := 42) rfl) rfl
theorem tw6_43 : Cond.soleField "HammerTowersModel" "faultSecond" ∈ uw := uw_t6 (List.mem_of_getElem? (i := 43) rfl) rfl
theorem tw6_44 : Cond.lays RX11 "HammerTowersModel" "fewest" "I" ∈ uw := uw_t6 (List.mem_of_getElem? (i := 44) rfl) rfl
theorem tw6_45 : Cond.soleField "HammerTowersModel" "fewest" ∈ uw := uw_t6 (List.mem_of_getElem? (i := 45) rfl) rfl
theorem tw6_46 : Cond.lays RX11 "HammerTowersModel" "without" "I" ∈ uw := uw_t6 (List.mem_of_getElem? (i := 46) rfl) rfl
theorem tw6_47 : Cond.soleField "HammerTowersModel" "without" ∈ uw := uw_t6 (List.mem_of_getElem? (i := 47) rfl) rfl
theorem tw6_48 : Cond.laysFinal RX11 "HammerTowersModel" "held" "[I" ∈ uw := uw_t6 (List.mem_of_getElem? (i := 48) rfl) rfl
theorem tw6_49 : Cond.soleField "HammerTowersModel" "held" ∈ uw := uw_t6 (List.mem_of_getElem? (i := 49) rfl) rfl
theorem tw6_50 : Cond.lays RX11 "HammerTowersModel" "wheels" "I" ∈ uw := uw_t6 (List.mem_of_getElem? (i := 50) rfl) rfl
theorem tw6_51 : Cond.soleField "HammerTowersModel" "wheels" ∈ uw := uw_t6 (List.mem_of_getElem? (i := 51) rfl) rfl
theorem tw6_52 : Cond.laysFinal RX11 "HammerTowersModel" "teeth" "[I" ∈ uw := uw_t6 (List.mem_of_getElem? (i := 52) rfl) rfl
theorem tw6_53 : Cond.soleField "HammerTowersModel" "teeth" ∈ uw := uw_t6 (List.mem_of_getElem? (i := 53) rfl) rfl
theorem tw6_54 : Cond.lays RX11 "HammerTowersModel" "chosenMany" "I" ∈ uw := uw_t6 (List.mem_of_getElem? (i := 54) rfl) rfl
theorem tw6_55 : Cond.soleField "HammerTowersModel" "chosenMany" ∈ uw := uw_t6 (List.mem_of_getElem? (i := 55) rfl) rfl
theorem tw6_56 : Cond.laysFinal RX11 "HammerTowersModel" "chosen" "[I" ∈ uw := uw_t6 (List.mem_of_getElem? (i := 56) rfl) rfl
theorem tw6_57 : Cond.soleField "HammerTowersModel" "chosen" ∈ uw := uw_t6 (List.mem_of_getElem? (i := 57) rfl) rfl
theorem tw6_58 : Cond.laysFinal RX11 "HammerTowersModel" "four" "[I" ∈ uw := uw_t6 (List.mem_of_getElem? (i := 58) rfl) rfl
theorem tw6_59 : Cond.soleField "HammerTowersModel" "four" ∈ uw := uw_t6 (List.mem_of_getElem? (i := 59) rfl) rfl
theorem tw6_60 : Cond.lays RX11 "HammerTowersModel" "bestUp" "J" ∈ uw := uw_t6 (List.mem_of_getElem? (i := 60) rfl) rfl
theorem tw6_61 : Cond.soleField "HammerTowersModel" "bestUp" ∈ uw := uw_t6 (List.mem_of_getElem? (i := 61) rfl) rfl
theorem tw6_62 : Cond.lays RX11 "HammerTowersModel" "bestLow" "J" ∈ uw := uw_t6 (List.mem_of_getElem? (i := 62) rfl) rfl
theorem tw6_63 : Cond.soleField "HammerTowersModel" "bestLow" ∈ uw := uw_t6 (List.mem_of_getElem? (i := 63) rfl) rfl
theorem tw6_64 : Cond.lays RX11 "HammerTowersModel" "isAny" "Z" ∈ uw := uw_t6 (List.mem_of_getElem? (i := 64) rfl) rfl
theorem tw6_65 : Cond.soleField "HammerTowersModel" "isAny" ∈ uw := uw_t6 (List.mem_of_getElem? (i := 65) rfl) rfl
theorem tw6_66 : Cond.superclass RX11 "java/lang/Object" ∈ uw := uw_t6 (List.mem_of_getElem? (i := 66) rfl) rfl
theorem tw6_67 : Cond.arrayClass .boolean ∈ uw := uw_t6 (List.mem_of_getElem? (i := 67) rfl) rfl
theorem tw6_68 : Cond.methodLink RL 17 yX11_row ∈ uw := uw_t6 (List.mem_of_getElem? (i := 68) rfl) rfl
theorem tw6_69 : Cond.instanceMethod yX11_row ∈ uw := uw_t6 (List.mem_of_getElem? (i := 69) rfl) rfl
theorem tw6_70 : Cond.selects RX11 yX11_row yX11_row ∈ uw := uw_t6 (List.mem_of_getElem? (i := 70) rfl) rfl
theorem tw6_71 : Cond.code yX11_row cX11_row 4 (some .int) ∈ uw := uw_t6 (List.mem_of_getElem? (i := 71) rfl) rfl
theorem tw6_72 : Cond.methodLink RX11 149 yX11_isRow ∈ uw := uw_t6 (List.mem_of_getElem? (i := 72) rfl) rfl
theorem tw6_73 : Cond.static yX11_isRow ∈ uw := uw_t6 (List.mem_of_getElem? (i := 73) rfl) rfl
theorem tw6_74 : Cond.code yX11_isRow cX11_isRow 1 (some .boolean) ∈ uw := uw_t6 (List.mem_of_getElem? (i := 74) rfl) rfl
theorem tw6_75 : Cond.methodLink RX11 145 yX11_in ∈ uw := uw_t6 (List.mem_of_getElem? (i := 75) rfl) rfl
theorem tw6_76 : Cond.static yX11_in ∈ uw := uw_t6 (List.mem_of_getElem? (i := 76) rfl) rfl
theorem tw6_77 : Cond.code yX11_in cX11_in 3 (some .boolean) ∈ uw := uw_t6 (List.mem_of_getElem? (i := 77) rfl) rfl
theorem tw6_78 : Cond.methodLink RX11 153 yX11_meets ∈ uw := uw_t6 (List.mem_of_getElem? (i := 78) rfl) rfl
theorem tw6_80 : Cond.instanceMethod yX11_meets ∈ uw := uw_t6 (List.mem_of_getElem? (i := 80) rfl) rfl
theorem tw6_81 : Cond.code yX11_meets cX11_meets 2 (some .int) ∈ uw := uw_t6 (List.mem_of_getElem? (i := 81) rfl) rfl
theorem tw6_82 : Cond.methodLink RL 22 yX11_lay ∈ uw := uw_t6 (List.mem_of_getElem? (i := 82) rfl) rfl
theorem tw6_83 : Cond.instanceMethod yX11_lay ∈ uw := uw_t6 (List.mem_of_getElem? (i := 83) rfl) rfl
theorem tw6_84 : Cond.selects RX11 yX11_lay yX11_lay ∈ uw := uw_t6 (List.mem_of_getElem? (i := 84) rfl) rfl
theorem tw6_85 : Cond.code yX11_lay cX11_lay 6 (some .int) ∈ uw := uw_t6 (List.mem_of_getElem? (i := 85) rfl) rfl
theorem tw6_86 : Cond.methodLink RX11 157 yX11_looked ∈ uw := uw_t6 (List.mem_of_getElem? (i := 86) rfl) rfl
theorem tw6_88 : Cond.instanceMethod yX11_looked ∈ uw := uw_t6 (List.mem_of_getElem? (i := 88) rfl) rfl
theorem tw6_89 : Cond.code yX11_looked cX11_looked 2 (some .int) ∈ uw := uw_t6 (List.mem_of_getElem? (i := 89) rfl) rfl
theorem tw6_90 : Cond.methodLink RL 27 yX11_tear ∈ uw := uw_t6 (List.mem_of_getElem? (i := 90) rfl) rfl
theorem tw6_91 : Cond.instanceMethod yX11_tear ∈ uw := uw_t6 (List.mem_of_getElem? (i := 91) rfl) rfl
theorem tw6_92 : Cond.selects RX11 yX11_tear yX11_tear ∈ uw := uw_t6 (List.mem_of_getElem? (i := 92) rfl) rfl
theorem tw6_93 : Cond.code yX11_tear cX11_tear 3 (some .int) ∈ uw := uw_t6 (List.mem_of_getElem? (i := 93) rfl) rfl
theorem tw6_94 : Cond.methodLink RL 32 yX11_copy ∈ uw := uw_t6 (List.mem_of_getElem? (i := 94) rfl) rfl
theorem tw6_95 : Cond.instanceMethod yX11_copy ∈ uw := uw_t6 (List.mem_of_getElem? (i := 95) rfl) rfl
theorem tw6_96 : Cond.selects RX11 yX11_copy yX11_copy ∈ uw := uw_t6 (List.mem_of_getElem? (i := 96) rfl) rfl
theorem tw6_97 : Cond.code yX11_copy cX11_copy 7 (some .int) ∈ uw := uw_t6 (List.mem_of_getElem? (i := 97) rfl) rfl
theorem tw6_98 : Cond.methodLink RL 37 yX11_train ∈ uw := uw_t6 (List.mem_of_getElem? (i := 98) rfl) rfl
theorem tw6_99 : Cond.instanceMethod yX11_train ∈ uw := uw_t6 (List.mem_of_getElem? (i := 99) rfl) rfl
theorem tw6_100 : Cond.selects RX11 yX11_train yX11_train ∈ uw := uw_t6 (List.mem_of_getElem? (i := 100) rfl) rfl
theorem tw6_101 : Cond.code yX11_train cX11_train 1 (some .int) ∈ uw := uw_t6 (List.mem_of_getElem? (i := 101) rfl) rfl
theorem tw6_102 : Cond.methodLink RX11 163 yX11_makes ∈ uw := uw_t6 (List.mem_of_getElem? (i := 102) rfl) rfl
theorem tw6_104 : Cond.instanceMethod yX11_makes ∈ uw := uw_t6 (List.mem_of_getElem? (i := 104) rfl) rfl
theorem tw6_105 : Cond.code yX11_makes cX11_makes 2 (some .int) ∈ uw := uw_t6 (List.mem_of_getElem? (i := 105) rfl) rfl
theorem tw6_106 : Cond.methodLink RL 41 yX11_plate ∈ uw := uw_t6 (List.mem_of_getElem? (i := 106) rfl) rfl
theorem tw6_107 : Cond.instanceMethod yX11_plate ∈ uw := uw_t6 (List.mem_of_getElem? (i := 107) rfl) rfl
theorem tw6_108 : Cond.selects RX11 yX11_plate yX11_plate ∈ uw := uw_t6 (List.mem_of_getElem? (i := 108) rfl) rfl
theorem tw6_109 : Cond.code yX11_plate cX11_plate 2 (some .int) ∈ uw := uw_t6 (List.mem_of_getElem? (i := 109) rfl) rfl
theorem tw6_110 : Cond.methodLink RX11 173 yX11_plateOf ∈ uw := uw_t6 (List.mem_of_getElem? (i := 110) rfl) rfl
theorem tw6_112 : Cond.instanceMethod yX11_plateOf ∈ uw := uw_t6 (List.mem_of_getElem? (i := 112) rfl) rfl
theorem tw6_113 : Cond.code yX11_plateOf cX11_plateOf 3 (some .int) ∈ uw := uw_t6 (List.mem_of_getElem? (i := 113) rfl) rfl
theorem tw6_114 : Cond.methodLink RX11 166 yX11_areNotches ∈ uw := uw_t6 (List.mem_of_getElem? (i := 114) rfl) rfl
theorem tw6_116 : Cond.instanceMethod yX11_areNotches ∈ uw := uw_t6 (List.mem_of_getElem? (i := 116) rfl) rfl
theorem tw6_117 : Cond.code yX11_areNotches cX11_areNotches 4 (some .boolean) ∈ uw := uw_t6 (List.mem_of_getElem? (i := 117) rfl) rfl
theorem tw6_118 : Cond.methodLink RX11 169 yX11_cutOf ∈ uw := uw_t6 (List.mem_of_getElem? (i := 118) rfl) rfl
theorem tw6_120 : Cond.instanceMethod yX11_cutOf ∈ uw := uw_t6 (List.mem_of_getElem? (i := 120) rfl) rfl
theorem tw6_121 : Cond.code yX11_cutOf cX11_cutOf 4 (some .int) ∈ uw := uw_t6 (List.mem_of_getElem? (i := 121) rfl) rfl
theorem tw6_122 : Cond.methodLink RL 45 yX11_snail ∈ uw := uw_t6 (List.mem_of_getElem? (i := 122) rfl) rfl
theorem tw6_123 : Cond.instanceMethod yX11_snail ∈ uw := uw_t6 (List.mem_of_getElem? (i := 123) rfl) rfl
theorem tw6_124 : Cond.selects RX11 yX11_snail yX11_snail ∈ uw := uw_t6 (List.mem_of_getElem? (i := 124) rfl) rfl
theorem tw6_125 : Cond.code yX11_snail cX11_snail 2 (some .int) ∈ uw := uw_t6 (List.mem_of_getElem? (i := 125) rfl) rfl
theorem tw6_126 : Cond.methodLink RL 49 yX11_barrel ∈ uw := uw_t6 (List.mem_of_getElem? (i := 126) rfl) rfl
theorem tw6_127 : Cond.instanceMethod yX11_barrel ∈ uw := uw_t6 (List.mem_of_getElem? (i := 127) rfl) rfl
theorem tw6_128 : Cond.selects RX11 yX11_barrel yX11_barrel ∈ uw := uw_t6 (List.mem_of_getElem? (i := 128) rfl) rfl
theorem tw6_129 : Cond.code yX11_barrel cX11_barrel 4 (some .int) ∈ uw := uw_t6 (List.mem_of_getElem? (i := 129) rfl) rfl
theorem tw6_130 : Cond.methodLink RL 53 yX11_gear ∈ uw := uw_t6 (List.mem_of_getElem? (i := 130) rfl) rfl
theorem tw6_131 : Cond.instanceMethod yX11_gear ∈ uw := uw_t6 (List.mem_of_getElem? (i := 131) rfl) rfl
theorem tw6_132 : Cond.selects RX11 yX11_gear yX11_gear ∈ uw := uw_t6 (List.mem_of_getElem? (i := 132) rfl) rfl
theorem tw6_133 : Cond.code yX11_gear cX11_gear 5 (some .int) ∈ uw := uw_t6 (List.mem_of_getElem? (i := 133) rfl) rfl
theorem tw6_134 : Cond.methodLink RX11 176 yX11_isTrain ∈ uw := uw_t6 (List.mem_of_getElem? (i := 134) rfl) rfl
theorem tw6_136 : Cond.instanceMethod yX11_isTrain ∈ uw := uw_t6 (List.mem_of_getElem? (i := 136) rfl) rfl
theorem tw6_137 : Cond.code yX11_isTrain cX11_isTrain 2 (some .boolean) ∈ uw := uw_t6 (List.mem_of_getElem? (i := 137) rfl) rfl
theorem tw6_138 : Cond.constant RX11 179 (100000) ∈ uw := uw_t6 (List.mem_of_getElem? (i := 138) rfl) rfl
theorem tw6_139 : Cond.methodLink RL 57 yX11_wind ∈ uw := uw_t6 (List.mem_of_getElem? (i := 139) rfl) rfl
theorem tw6_140 : Cond.instanceMethod yX11_wind ∈ uw := uw_t6 (List.mem_of_getElem? (i := 140) rfl) rfl
theorem tw6_141 : Cond.selects RX11 yX11_wind yX11_wind ∈ uw := uw_t6 (List.mem_of_getElem? (i := 141) rfl) rfl
theorem tw6_142 : Cond.code yX11_wind cX11_wind 3 (some .int) ∈ uw := uw_t6 (List.mem_of_getElem? (i := 142) rfl) rfl
theorem tw6_143 : Cond.methodLink RL 61 yX11_broken ∈ uw := uw_t6 (List.mem_of_getElem? (i := 143) rfl) rfl
theorem tw6_144 : Cond.instanceMethod yX11_broken ∈ uw := uw_t6 (List.mem_of_getElem? (i := 144) rfl) rfl
theorem tw6_145 : Cond.selects RX11 yX11_broken yX11_broken ∈ uw := uw_t6 (List.mem_of_getElem? (i := 145) rfl) rfl
theorem tw6_146 : Cond.code yX11_broken cX11_broken 4 (some .int) ∈ uw := uw_t6 (List.mem_of_getElem? (i := 146) rfl) rfl
theorem tw6_147 : Cond.methodLink RL 65 yX11_told ∈ uw := uw_t6 (List.mem_of_getElem? (i := 147) rfl) rfl
theorem tw6_148 : Cond.instanceMethod yX11_told ∈ uw := uw_t6 (List.mem_of_getElem? (i := 148) rfl) rfl
theorem tw6_149 : Cond.selects RX11 yX11_told yX11_told ∈ uw := uw_t6 (List.mem_of_getElem? (i := 149) rfl) rfl
theorem tw6_150 : Cond.code yX11_told cX11_told 3 (some .int) ∈ uw := uw_t6 (List.mem_of_getElem? (i := 150) rfl) rfl
theorem tw6_151 : Cond.methodLink RX11 183 yX11_trainTells ∈ uw := uw_t6 (List.mem_of_getElem? (i := 151) rfl) rfl
theorem tw6_153 : Cond.instanceMethod yX11_trainTells ∈ uw := uw_t6 (List.mem_of_getElem? (i := 153) rfl) rfl
theorem tw6_154 : Cond.code yX11_trainTells cX11_trainTells 3 (some .int) ∈ uw := uw_t6 (List.mem_of_getElem? (i := 154) rfl) rfl
theorem tw6_155 : Cond.methodLink RX11 180 yX11_isPlate ∈ uw := uw_t6 (List.mem_of_getElem? (i := 155) rfl) rfl
theorem tw6_157 : Cond.instanceMethod yX11_isPlate ∈ uw := uw_t6 (List.mem_of_getElem? (i := 157) rfl) rfl
theorem tw6_158 : Cond.code yX11_isPlate cX11_isPlate 2 (some .boolean) ∈ uw := uw_t6 (List.mem_of_getElem? (i := 158) rfl) rfl
theorem tw6_159 : Cond.methodLink RL 69 yX11_mark ∈ uw := uw_t6 (List.mem_of_getElem? (i := 159) rfl) rfl
theorem tw6_160 : Cond.instanceMethod yX11_mark ∈ uw := uw_t6 (List.mem_of_getElem? (i := 160) rfl) rfl
theorem tw6_161 : Cond.selects RX11 yX11_mark yX11_mark ∈ uw := uw_t6 (List.mem_of_getElem? (i := 161) rfl) rfl
theorem tw6_162 : Cond.code yX11_mark cX11_mark 3 (some .int) ∈ uw := uw_t6 (List.mem_of_getElem? (i := 162) rfl) rfl
theorem tw6_163 : Cond.methodLink RX11 186 yX11_over ∈ uw := uw_t6 (List.mem_of_getElem? (i := 163) rfl) rfl
theorem tw6_165 : Cond.instanceMethod yX11_over ∈ uw := uw_t6 (List.mem_of_getElem? (i := 165) rfl) rfl
theorem tw6_166 : Cond.code yX11_over cX11_over 6 (some .int) ∈ uw := uw_t6 (List.mem_of_getElem? (i := 166) rfl) rfl
theorem tw6_167 : Cond.methodLink RL 73 yX11_notch ∈ uw := uw_t6 (List.mem_of_getElem? (i := 167) rfl) rfl
theorem tw6_168 : Cond.instanceMethod yX11_notch ∈ uw := uw_t6 (List.mem_of_getElem? (i := 168) rfl) rfl
theorem tw6_169 : Cond.selects RX11 yX11_notch yX11_notch ∈ uw := uw_t6 (List.mem_of_getElem? (i := 169) rfl) rfl
theorem tw6_170 : Cond.code yX11_notch cX11_notch 4 (some .int) ∈ uw := uw_t6 (List.mem_of_getElem? (i := 170) rfl) rfl
theorem tw6_171 : Cond.methodLink RX11 190 yX11_askedNotch ∈ uw := uw_t6 (List.mem_of_getElem? (i := 171) rfl) rfl
theorem tw6_173 : Cond.instanceMethod yX11_askedNotch ∈ uw := uw_t6 (List.mem_of_getElem? (i := 173) rfl) rfl
theorem tw6_174 : Cond.code yX11_askedNotch cX11_askedNotch 3 (some .int) ∈ uw := uw_t6 (List.mem_of_getElem? (i := 174) rfl) rfl
theorem tw6_175 : Cond.methodLink RL 77 yX11_cut ∈ uw := uw_t6 (List.mem_of_getElem? (i := 175) rfl) rfl
theorem tw6_176 : Cond.instanceMethod yX11_cut ∈ uw := uw_t6 (List.mem_of_getElem? (i := 176) rfl) rfl
theorem tw6_177 : Cond.selects RX11 yX11_cut yX11_cut ∈ uw := uw_t6 (List.mem_of_getElem? (i := 177) rfl) rfl
theorem tw6_178 : Cond.code yX11_cut cX11_cut 6 (some .int) ∈ uw := uw_t6 (List.mem_of_getElem? (i := 178) rfl) rfl
theorem tw6_179 : Cond.methodLink RL 81 yX11_put ∈ uw := uw_t6 (List.mem_of_getElem? (i := 179) rfl) rfl
theorem tw6_180 : Cond.instanceMethod yX11_put ∈ uw := uw_t6 (List.mem_of_getElem? (i := 180) rfl) rfl
theorem tw6_181 : Cond.selects RX11 yX11_put yX11_put ∈ uw := uw_t6 (List.mem_of_getElem? (i := 181) rfl) rfl
theorem tw6_182 : Cond.code yX11_put cX11_put 4 (some .int) ∈ uw := uw_t6 (List.mem_of_getElem? (i := 182) rfl) rfl
theorem tw6_183 : Cond.methodLink RL 85 yX11_mean ∈ uw := uw_t6 (List.mem_of_getElem? (i := 183) rfl) rfl
theorem tw6_184 : Cond.instanceMethod yX11_mean ∈ uw := uw_t6 (List.mem_of_getElem? (i := 184) rfl) rfl
theorem tw6_185 : Cond.selects RX11 yX11_mean yX11_mean ∈ uw := uw_t6 (List.mem_of_getElem? (i := 185) rfl) rfl
theorem tw6_186 : Cond.code yX11_mean cX11_mean 2 (some .int) ∈ uw := uw_t6 (List.mem_of_getElem? (i := 186) rfl) rfl
theorem tw6_187 : Cond.methodLink RL 89 yX11_tower ∈ uw := uw_t6 (List.mem_of_getElem? (i := 187) rfl) rfl
theorem tw6_188 : Cond.instanceMethod yX11_tower ∈ uw := uw_t6 (List.mem_of_getElem? (i := 188) rfl) rfl
theorem tw6_189 : Cond.selects RX11 yX11_tower yX11_tower ∈ uw := uw_t6 (List.mem_of_getElem? (i := 189) rfl) rfl
theorem tw6_190 : Cond.code yX11_tower cX11_tower 3 (some .int) ∈ uw := uw_t6 (List.mem_of_getElem? (i := 190) rfl) rfl
theorem tw6_191 : Cond.methodLink RX11 193 yX11_isNumber ∈ uw := uw_t6 (List.mem_of_getElem? (i := 191) rfl) rfl
theorem tw6_192 : Cond.static yX11_isNumber ∈ uw := uw_t6 (List.mem_of_getElem? (i := 192) rfl) rfl
theorem tw6_193 : Cond.code yX11_isNumber cX11_isNumber 1 (some .boolean) ∈ uw := uw_t6 (List.mem_of_getElem? (i := 193) rfl) rfl
theorem tw6_194 : Cond.methodLink RX11 196 yX11_free ∈ uw := uw_t6 (List.mem_of_getElem? (i := 194) rfl) rfl
theorem tw6_196 : Cond.instanceMethod yX11_free ∈ uw := uw_t6 (List.mem_of_getElem? (i := 196) rfl) rfl
theorem tw6_197 : Cond.code yX11_free cX11_free 2 none ∈ uw := uw_t6 (List.mem_of_getElem? (i := 197) rfl) rfl
theorem tw6_198 : Cond.methodLink RL 94 yX11_hang ∈ uw := uw_t6 (List.mem_of_getElem? (i := 198) rfl) rfl
theorem tw6_199 : Cond.instanceMethod yX11_hang ∈ uw := uw_t6 (List.mem_of_getElem? (i := 199) rfl) rfl
theorem tw6_200 : Cond.selects RX11 yX11_hang yX11_hang ∈ uw := uw_t6 (List.mem_of_getElem? (i := 200) rfl) rfl
theorem tw6_201 : Cond.code yX11_hang cX11_hang 6 (some .int) ∈ uw := uw_t6 (List.mem_of_getElem? (i := 201) rfl) rfl
theorem tw6_202 : Cond.methodLink RX11 200 yX11_placeOf ∈ uw := uw_t6 (List.mem_of_getElem? (i := 202) rfl) rfl
theorem tw6_203 : Cond.static yX11_placeOf ∈ uw := uw_t6 (List.mem_of_getElem? (i := 203) rfl) rfl
theorem tw6_204 : Cond.code yX11_placeOf cX11_placeOf 2 (some .int) ∈ uw := uw_t6 (List.mem_of_getElem? (i := 204) rfl) rfl
theorem tw6_205 : Cond.methodLink RL 99 yX11_unhang ∈ uw := uw_t6 (List.mem_of_getElem? (i := 205) rfl) rfl
theorem tw6_206 : Cond.instanceMethod yX11_unhang ∈ uw := uw_t6 (List.mem_of_getElem? (i := 206) rfl) rfl
theorem tw6_207 : Cond.selects RX11 yX11_unhang yX11_unhang ∈ uw := uw_t6 (List.mem_of_getElem? (i := 207) rfl) rfl
theorem tw6_208 : Cond.code yX11_unhang cX11_unhang 5 (some .int) ∈ uw := uw_t6 (List.mem_of_getElem? (i := 208) rfl) rfl
theorem tw6_209 : Cond.methodLink RX11 206 yX11_askedPlace ∈ uw := uw_t6 (List.mem_of_getElem? (i := 209) rfl) rfl
theorem tw6_211 : Cond.instanceMethod yX11_askedPlace ∈ uw := uw_t6 (List.mem_of_getElem? (i := 211) rfl) rfl
theorem tw6_212 : Cond.code yX11_askedPlace cX11_askedPlace 4 (some .int) ∈ uw := uw_t6 (List.mem_of_getElem? (i := 212) rfl) rfl
theorem tw6_213 : Cond.methodLink RX11 203 yX11_askedFor ∈ uw := uw_t6 (List.mem_of_getElem? (i := 213) rfl) rfl
theorem tw6_215 : Cond.instanceMethod yX11_askedFor ∈ uw := uw_t6 (List.mem_of_getElem? (i := 215) rfl) rfl
theorem tw6_216 : Cond.code yX11_askedFor cX11_askedFor 2 (some .int) ∈ uw := uw_t6 (List.mem_of_getElem? (i := 216) rfl) rfl
theorem tw6_217 : Cond.methodLink RL 103 yX11_hands ∈ uw := uw_t6 (List.mem_of_getElem? (i := 217) rfl) rfl
theorem tw6_218 : Cond.instanceMethod yX11_hands ∈ uw := uw_t6 (List.mem_of_getElem? (i := 218) rfl) rfl
theorem tw6_219 : Cond.selects RX11 yX11_hands yX11_hands ∈ uw := uw_t6 (List.mem_of_getElem? (i := 219) rfl) rfl
theorem tw6_220 : Cond.code yX11_hands cX11_hands 5 (some .int) ∈ uw := uw_t6 (List.mem_of_getElem? (i := 220) rfl) rfl
theorem tw6_221 : Cond.methodLink RL 107 yX11_forward ∈ uw := uw_t6 (List.mem_of_getElem? (i := 221) rfl) rfl
theorem tw6_222 : Cond.instanceMethod yX11_forward ∈ uw := uw_t6 (List.mem_of_getElem? (i := 222) rfl) rfl
theorem tw6_223 : Cond.selects RX11 yX11_forward yX11_forward ∈ uw := uw_t6 (List.mem_of_getElem? (i := 223) rfl) rfl
theorem tw6_224 : Cond.code yX11_forward cX11_forward 5 (some .int) ∈ uw := uw_t6 (List.mem_of_getElem? (i := 224) rfl) rfl
theorem tw6_225 : Cond.methodLink RX11 228 yX11_stepOn ∈ uw := uw_t6 (List.mem_of_getElem? (i := 225) rfl) rfl
theorem tw6_227 : Cond.instanceMethod yX11_stepOn ∈ uw := uw_t6 (List.mem_of_getElem? (i := 227) rfl) rfl
theorem tw6_228 : Cond.code yX11_stepOn cX11_stepOn 5 none ∈ uw := uw_t6 (List.mem_of_getElem? (i := 228) rfl) rfl
theorem tw6_229 : Cond.methodLink RX11 225 yX11_warnedGoes ∈ uw := uw_t6 (List.mem_of_getElem? (i := 229) rfl) rfl
theorem tw6_231 : Cond.instanceMethod yX11_warnedGoes ∈ uw := uw_t6 (List.mem_of_getElem? (i := 231) rfl) rfl
theorem tw6_232 : Cond.code yX11_warnedGoes cX11_warnedGoes 3 none ∈ uw := uw_t6 (List.mem_of_getElem? (i := 232) rfl) rfl
theorem tw6_233 : Cond.methodLink RX11 218 yX11_silenceOf ∈ uw := uw_t6 (List.mem_of_getElem? (i := 233) rfl) rfl
theorem tw6_235 : Cond.instanceMethod yX11_silenceOf ∈ uw := uw_t6 (List.mem_of_getElem? (i := 235) rfl) rfl
theorem tw6_236 : Cond.code yX11_silenceOf cX11_silenceOf 4 (some .int) ∈ uw := uw_t6 (List.mem_of_getElem? (i := 236) rfl) rfl
theorem tw6_237 : Cond.methodLink RX11 221 yX11_offGoes ∈ uw := uw_t6 (List.mem_of_getElem? (i := 237) rfl) rfl
theorem tw6_239 : Cond.instanceMethod yX11_offGoes ∈ uw := uw_t6 (List.mem_of_getElem? (i := 239) rfl) rfl
theorem tw7_0 : Cond.code yX11_offGoes cX11_offGoes 5 none ∈ uw := uw_t7 (List.mem_of_getElem? (i := 0) rfl) rfl
theorem tw7_1 : Cond.methodLink RX11 212 yX11_quarterNow ∈ uw := uw_t7 (List.mem_of_getElem? (i := 1) rfl) rfl
theorem tw7_3 : Cond.instanceMethod yX11_quarterNow ∈ uw := uw_t7 (List.mem_of_getElem? (i := 3) rfl) rfl
theorem tw7_4 : Cond.code yX11_quarterNow cX11_quarterNow 3 (some .int) ∈ uw := uw_t7 (List.mem_of_getElem? (i := 4) rfl) rfl
theorem tw7_5 : Cond.methodLink RX11 215 yX11_hourNow ∈ uw := uw_t7 (List.mem_of_getElem? (i := 5) rfl) rfl
theorem tw7_7 : Cond.instanceMethod yX11_hourNow ∈ uw := uw_t7 (List.mem_of_getElem? (i := 7) rfl) rfl
theorem tw7_8 : Cond.code yX11_hourNow cX11_hourNow 2 (some .int) ∈ uw := uw_t7 (List.mem_of_getElem? (i := 8) rfl) rfl
theorem tw7_9 : Cond.methodLink RX11 209 yX11_hourOf ∈ uw := uw_t7 (List.mem_of_getElem? (i := 9) rfl) rfl
theorem tw7_10 : Cond.static yX11_hourOf ∈ uw := uw_t7 (List.mem_of_getElem? (i := 10) rfl) rfl
theorem tw7_11 : Cond.code yX11_hourOf cX11_hourOf 1 (some .int) ∈ uw := uw_t7 (List.mem_of_getElem? (i := 11) rfl) rfl
theorem tw7_12 : Cond.methodLink RL 111 yX11_back ∈ uw := uw_t7 (List.mem_of_getElem? (i := 12) rfl) rfl
theorem tw7_13 : Cond.instanceMethod yX11_back ∈ uw := uw_t7 (List.mem_of_getElem? (i := 13) rfl) rfl
theorem tw7_14 : Cond.selects RX11 yX11_back yX11_back ∈ uw := uw_t7 (List.mem_of_getElem? (i := 14) rfl) rfl
theorem tw7_15 : Cond.code yX11_back cX11_back 4 (some .int) ∈ uw := uw_t7 (List.mem_of_getElem? (i := 15) rfl) rfl
theorem tw7_16 : Cond.methodLink RL 115 yX11_rate ∈ uw := uw_t7 (List.mem_of_getElem? (i := 16) rfl) rfl
theorem tw7_17 : Cond.instanceMethod yX11_rate ∈ uw := uw_t7 (List.mem_of_getElem? (i := 17) rfl) rfl
theorem tw7_18 : Cond.selects RX11 yX11_rate yX11_rate ∈ uw := uw_t7 (List.mem_of_getElem? (i := 18) rfl) rfl
theorem tw7_19 : Cond.code yX11_rate cX11_rate 5 (some .int) ∈ uw := uw_t7 (List.mem_of_getElem? (i := 19) rfl) rfl
theorem tw7_20 : Cond.methodLink RL 119 yX11_go ∈ uw := uw_t7 (List.mem_of_getElem? (i := 20) rfl) rfl
theorem tw7_21 : Cond.instanceMethod yX11_go ∈ uw := uw_t7 (List.mem_of_getElem? (i := 21) rfl) rfl
theorem tw7_22 : Cond.selects RX11 yX11_go yX11_go ∈ uw := uw_t7 (List.mem_of_getElem? (i := 22) rfl) rfl
theorem tw7_23 : Cond.code yX11_go cX11_go 5 (some .int) ∈ uw := uw_t7 (List.mem_of_getElem? (i := 23) rfl) rfl
theorem tw7_24 : Cond.methodLink RL 123 yX11_windGoing ∈ uw := uw_t7 (List.mem_of_getElem? (i := 24) rfl) rfl
theorem tw7_25 : Cond.instanceMethod yX11_windGoing ∈ uw := uw_t7 (List.mem_of_getElem? (i := 25) rfl) rfl
theorem tw7_26 : Cond.selects RX11 yX11_windGoing yX11_windGoing ∈ uw := uw_t7 (List.mem_of_getElem? (i := 26) rfl) rfl
theorem tw7_27 : Cond.code yX11_windGoing cX11_windGoing 5 (some .int) ∈ uw := uw_t7 (List.mem_of_getElem? (i := 27) rfl) rfl
theorem tw7_28 : Cond.methodLink RL 128 yX11_silence ∈ uw := uw_t7 (List.mem_of_getElem? (i := 28) rfl) rfl
theorem tw7_29 : Cond.instanceMethod yX11_silence ∈ uw := uw_t7 (List.mem_of_getElem? (i := 29) rfl) rfl
theorem tw7_30 : Cond.selects RX11 yX11_silence yX11_silence ∈ uw := uw_t7 (List.mem_of_getElem? (i := 30) rfl) rfl
theorem tw7_31 : Cond.code yX11_silence cX11_silence 6 (some .int) ∈ uw := uw_t7 (List.mem_of_getElem? (i := 31) rfl) rfl
theorem tw7_32 : Cond.methodLink RL 132 yX11_letOff ∈ uw := uw_t7 (List.mem_of_getElem? (i := 32) rfl) rfl
theorem tw7_33 : Cond.instanceMethod yX11_letOff ∈ uw := uw_t7 (List.mem_of_getElem? (i := 33) rfl) rfl
theorem tw7_34 : Cond.selects RX11 yX11_letOff yX11_letOff ∈ uw := uw_t7 (List.mem_of_getElem? (i := 34) rfl) rfl
theorem tw7_35 : Cond.code yX11_letOff cX11_letOff 4 (some .int) ∈ uw := uw_t7 (List.mem_of_getElem? (i := 35) rfl) rfl
theorem tw7_36 : Cond.methodLink RL 136 yX11_runOut ∈ uw := uw_t7 (List.mem_of_getElem? (i := 36) rfl) rfl
theorem tw7_37 : Cond.instanceMethod yX11_runOut ∈ uw := uw_t7 (List.mem_of_getElem? (i := 37) rfl) rfl
theorem tw7_38 : Cond.selects RX11 yX11_runOut yX11_runOut ∈ uw := uw_t7 (List.mem_of_getElem? (i := 38) rfl) rfl
theorem tw7_39 : Cond.code yX11_runOut cX11_runOut 4 (some .int) ∈ uw := uw_t7 (List.mem_of_getElem? (i := 39) rfl) rfl
theorem tw7_40 : Cond.constant RX11 243 (2147483647) ∈ uw := uw_t7 (List.mem_of_getElem? (i := 40) rfl) rfl
theorem tw7_41 : Cond.methodLink RX11 244 yX11_runs ∈ uw := uw_t7 (List.mem_of_getElem? (i := 41) rfl) rfl
theorem tw7_43 : Cond.instanceMethod yX11_runs ∈ uw := uw_t7 (List.mem_of_getElem? (i := 43) rfl) rfl
theorem tw7_44 : Cond.code yX11_runs cX11_runs 11 (some .int) ∈ uw := uw_t7 (List.mem_of_getElem? (i := 44) rfl) rfl
theorem tw7_45 : Cond.methodLink RX11 234 yX11_writeLog ∈ uw := uw_t7 (List.mem_of_getElem? (i := 45) rfl) rfl
theorem tw7_47 : Cond.instanceMethod yX11_writeLog ∈ uw := uw_t7 (List.mem_of_getElem? (i := 47) rfl) rfl
theorem tw7_48 : Cond.code yX11_writeLog cX11_writeLog 6 none ∈ uw := uw_t7 (List.mem_of_getElem? (i := 48) rfl) rfl
theorem tw7_49 : Cond.methodLink RL 140 yX11_pass ∈ uw := uw_t7 (List.mem_of_getElem? (i := 49) rfl) rfl
theorem tw7_50 : Cond.instanceMethod yX11_pass ∈ uw := uw_t7 (List.mem_of_getElem? (i := 50) rfl) rfl
theorem tw7_51 : Cond.selects RX11 yX11_pass yX11_pass ∈ uw := uw_t7 (List.mem_of_getElem? (i := 51) rfl) rfl
theorem tw7_52 : Cond.code yX11_pass cX11_pass 4 (some .int) ∈ uw := uw_t7 (List.mem_of_getElem? (i := 52) rfl) rfl
theorem tw7_53 : Cond.constant RX11 249 (1000000) ∈ uw := uw_t7 (List.mem_of_getElem? (i := 53) rfl) rfl
theorem tw7_54 : Cond.methodLink RX11 250 yX11_minuteOf ∈ uw := uw_t7 (List.mem_of_getElem? (i := 54) rfl) rfl
theorem tw7_56 : Cond.instanceMethod yX11_minuteOf ∈ uw := uw_t7 (List.mem_of_getElem? (i := 56) rfl) rfl
theorem tw7_57 : Cond.code yX11_minuteOf cX11_minuteOf 4 none ∈ uw := uw_t7 (List.mem_of_getElem? (i := 57) rfl) rfl
theorem tw7_58 : Cond.constant RX11 248 (86400) ∈ uw := uw_t7 (List.mem_of_getElem? (i := 58) rfl) rfl
theorem tw7_59 : Cond.methodLink RL 144 yX11_tells ∈ uw := uw_t7 (List.mem_of_getElem? (i := 59) rfl) rfl
theorem tw7_60 : Cond.instanceMethod yX11_tells ∈ uw := uw_t7 (List.mem_of_getElem? (i := 60) rfl) rfl
theorem tw7_61 : Cond.selects RX11 yX11_tells yX11_tells ∈ uw := uw_t7 (List.mem_of_getElem? (i := 61) rfl) rfl
theorem tw7_62 : Cond.code yX11_tells cX11_tells 4 (some .int) ∈ uw := uw_t7 (List.mem_of_getElem? (i := 62) rfl) rfl
theorem tw7_63 : Cond.methodLink RX11 253 yX11_towerTells ∈ uw := uw_t7 (List.mem_of_getElem? (i := 63) rfl) rfl
theorem tw7_65 : Cond.instanceMethod yX11_towerTells ∈ uw := uw_t7 (List.mem_of_getElem? (i := 65) rfl) rfl
theorem tw7_66 : Cond.code yX11_towerTells cX11_towerTells 3 (some .int) ∈ uw := uw_t7 (List.mem_of_getElem? (i := 66) rfl) rfl
theorem tw7_67 : Cond.methodLink RL 148 yX11_log ∈ uw := uw_t7 (List.mem_of_getElem? (i := 67) rfl) rfl
theorem tw7_68 : Cond.instanceMethod yX11_log ∈ uw := uw_t7 (List.mem_of_getElem? (i := 68) rfl) rfl
theorem tw7_69 : Cond.selects RX11 yX11_log yX11_log ∈ uw := uw_t7 (List.mem_of_getElem? (i := 69) rfl) rfl
theorem tw7_70 : Cond.code yX11_log cX11_log 5 (some .int) ∈ uw := uw_t7 (List.mem_of_getElem? (i := 70) rfl) rfl
theorem tw7_71 : Cond.methodLink RL 152 yX11_heard ∈ uw := uw_t7 (List.mem_of_getElem? (i := 71) rfl) rfl
theorem tw7_72 : Cond.instanceMethod yX11_heard ∈ uw := uw_t7 (List.mem_of_getElem? (i := 72) rfl) rfl
theorem tw7_73 : Cond.selects RX11 yX11_heard yX11_heard ∈ uw := uw_t7 (List.mem_of_getElem? (i := 73) rfl) rfl
theorem tw7_74 : Cond.code yX11_heard cX11_heard 8 (some .int) ∈ uw := uw_t7 (List.mem_of_getElem? (i := 74) rfl) rfl
theorem tw7_75 : Cond.methodLink RL 156 yX11_ahead ∈ uw := uw_t7 (List.mem_of_getElem? (i := 75) rfl) rfl
theorem tw7_76 : Cond.instanceMethod yX11_ahead ∈ uw := uw_t7 (List.mem_of_getElem? (i := 76) rfl) rfl
theorem tw7_77 : Cond.selects RX11 yX11_ahead yX11_ahead ∈ uw := uw_t7 (List.mem_of_getElem? (i := 77) rfl) rfl
theorem tw7_78 : Cond.code yX11_ahead cX11_ahead 5 (some .int) ∈ uw := uw_t7 (List.mem_of_getElem? (i := 78) rfl) rfl
theorem tw7_79 : Cond.methodLink RX11 256 yX11_askedTwo ∈ uw := uw_t7 (List.mem_of_getElem? (i := 79) rfl) rfl
theorem tw7_81 : Cond.instanceMethod yX11_askedTwo ∈ uw := uw_t7 (List.mem_of_getElem? (i := 81) rfl) rfl
theorem tw7_82 : Cond.code yX11_askedTwo cX11_askedTwo 3 (some .int) ∈ uw := uw_t7 (List.mem_of_getElem? (i := 82) rfl) rfl
theorem tw7_83 : Cond.methodLink RL 160 yX11_meet ∈ uw := uw_t7 (List.mem_of_getElem? (i := 83) rfl) rfl
theorem tw7_84 : Cond.instanceMethod yX11_meet ∈ uw := uw_t7 (List.mem_of_getElem? (i := 84) rfl) rfl
theorem tw7_85 : Cond.selects RX11 yX11_meet yX11_meet ∈ uw := uw_t7 (List.mem_of_getElem? (i := 85) rfl) rfl
theorem tw7_86 : Cond.code yX11_meet cX11_meet 14 (some .int) ∈ uw := uw_t7 (List.mem_of_getElem? (i := 86) rfl) rfl
theorem tw7_87 : Cond.constantLong RX11 259 (124416000) ∈ uw := uw_t7 (List.mem_of_getElem? (i := 87) rfl) rfl
theorem tw7_88 : Cond.constantLong RX11 261 (86400) ∈ uw := uw_t7 (List.mem_of_getElem? (i := 88) rfl) rfl
theorem tw7_89 : Cond.methodLink RL 164 yX11_right ∈ uw := uw_t7 (List.mem_of_getElem? (i := 89) rfl) rfl
theorem tw7_90 : Cond.instanceMethod yX11_right ∈ uw := uw_t7 (List.mem_of_getElem? (i := 90) rfl) rfl
theorem tw7_91 : Cond.selects RX11 yX11_right yX11_right ∈ uw := uw_t7 (List.mem_of_getElem? (i := 91) rfl) rfl
theorem tw7_92 : Cond.code yX11_right cX11_right 4 (some .int) ∈ uw := uw_t7 (List.mem_of_getElem? (i := 92) rfl) rfl
theorem tw7_93 : Cond.methodLink RX11 266 yX11_askedPlate ∈ uw := uw_t7 (List.mem_of_getElem? (i := 93) rfl) rfl
theorem tw7_95 : Cond.instanceMethod yX11_askedPlate ∈ uw := uw_t7 (List.mem_of_getElem? (i := 95) rfl) rfl
theorem tw7_96 : Cond.code yX11_askedPlate cX11_askedPlate 4 (some .int) ∈ uw := uw_t7 (List.mem_of_getElem? (i := 96) rfl) rfl
theorem tw7_97 : Cond.methodLink RX11 269 yX11_rightNotch ∈ uw := uw_t7 (List.mem_of_getElem? (i := 97) rfl) rfl
theorem tw7_99 : Cond.instanceMethod yX11_rightNotch ∈ uw := uw_t7 (List.mem_of_getElem? (i := 99) rfl) rfl
theorem tw7_100 : Cond.code yX11_rightNotch cX11_rightNotch 4 (some .int) ∈ uw := uw_t7 (List.mem_of_getElem? (i := 100) rfl) rfl
theorem tw7_101 : Cond.methodLink RX11 263 yX11_nextHour ∈ uw := uw_t7 (List.mem_of_getElem? (i := 101) rfl) rfl
theorem tw7_103 : Cond.instanceMethod yX11_nextHour ∈ uw := uw_t7 (List.mem_of_getElem? (i := 103) rfl) rfl
theorem tw7_104 : Cond.code yX11_nextHour cX11_nextHour 2 (some .int) ∈ uw := uw_t7 (List.mem_of_getElem? (i := 104) rfl) rfl
theorem tw7_105 : Cond.methodLink RL 168 yX11_off ∈ uw := uw_t7 (List.mem_of_getElem? (i := 105) rfl) rfl
theorem tw7_106 : Cond.instanceMethod yX11_off ∈ uw := uw_t7 (List.mem_of_getElem? (i := 106) rfl) rfl
theorem tw7_107 : Cond.selects RX11 yX11_off yX11_off ∈ uw := uw_t7 (List.mem_of_getElem? (i := 107) rfl) rfl
theorem tw7_108 : Cond.code yX11_off cX11_off 5 (some .int) ∈ uw := uw_t7 (List.mem_of_getElem? (i := 108) rfl) rfl
theorem tw7_109 : Cond.methodLink RL 172 yX11_putRight ∈ uw := uw_t7 (List.mem_of_getElem? (i := 109) rfl) rfl
theorem tw7_110 : Cond.instanceMethod yX11_putRight ∈ uw := uw_t7 (List.mem_of_getElem? (i := 110) rfl) rfl
theorem tw7_111 : Cond.selects RX11 yX11_putRight yX11_putRight ∈ uw := uw_t7 (List.mem_of_getElem? (i := 111) rfl) rfl
theorem tw7_112 : Cond.code yX11_putRight cX11_putRight 11 (some .int) ∈ uw := uw_t7 (List.mem_of_getElem? (i := 112) rfl) rfl
theorem tw7_113 : Cond.constant RX11 272 (100000000) ∈ uw := uw_t7 (List.mem_of_getElem? (i := 113) rfl) rfl
theorem tw7_114 : Cond.methodLink RX11 273 yX11_after ∈ uw := uw_t7 (List.mem_of_getElem? (i := 114) rfl) rfl
theorem tw7_115 : Cond.static yX11_after ∈ uw := uw_t7 (List.mem_of_getElem? (i := 115) rfl) rfl
theorem tw7_116 : Cond.code yX11_after cX11_after 4 (some .int) ∈ uw := uw_t7 (List.mem_of_getElem? (i := 116) rfl) rfl
theorem tw7_117 : Cond.methodLink RX11 276 yX11_costOf ∈ uw := uw_t7 (List.mem_of_getElem? (i := 117) rfl) rfl
theorem tw7_119 : Cond.instanceMethod yX11_costOf ∈ uw := uw_t7 (List.mem_of_getElem? (i := 119) rfl) rfl
theorem tw7_120 : Cond.code yX11_costOf cX11_costOf 4 (some .int) ∈ uw := uw_t7 (List.mem_of_getElem? (i := 120) rfl) rfl
theorem tw7_121 : Cond.methodLink RL 176 yX11_act ∈ uw := uw_t7 (List.mem_of_getElem? (i := 121) rfl) rfl
theorem tw7_122 : Cond.instanceMethod yX11_act ∈ uw := uw_t7 (List.mem_of_getElem? (i := 122) rfl) rfl
theorem tw7_123 : Cond.selects RX11 yX11_act yX11_act ∈ uw := uw_t7 (List.mem_of_getElem? (i := 123) rfl) rfl
theorem tw7_124 : Cond.code yX11_act cX11_act 2 (some .int) ∈ uw := uw_t7 (List.mem_of_getElem? (i := 124) rfl) rfl
theorem tw7_125 : Cond.methodLink RL 180 yX11_due ∈ uw := uw_t7 (List.mem_of_getElem? (i := 125) rfl) rfl
theorem tw7_126 : Cond.instanceMethod yX11_due ∈ uw := uw_t7 (List.mem_of_getElem? (i := 126) rfl) rfl
theorem tw7_127 : Cond.selects RX11 yX11_due yX11_due ∈ uw := uw_t7 (List.mem_of_getElem? (i := 127) rfl) rfl
theorem tw7_128 : Cond.code yX11_due cX11_due 6 (some .int) ∈ uw := uw_t7 (List.mem_of_getElem? (i := 128) rfl) rfl
theorem tw7_129 : Cond.methodLink RX11 283 yX11_isFault ∈ uw := uw_t7 (List.mem_of_getElem? (i := 129) rfl) rfl
theorem tw7_130 : Cond.static yX11_isFault ∈ uw := uw_t7 (List.mem_of_getElem? (i := 130) rfl) rfl
theorem tw7_131 : Cond.code yX11_isFault cX11_isFault 3 (some .boolean) ∈ uw := uw_t7 (List.mem_of_getElem? (i := 131) rfl) rfl
theorem tw7_132 : Cond.methodLink RX11 286 yX11_dueAt ∈ uw := uw_t7 (List.mem_of_getElem? (i := 132) rfl) rfl
theorem tw7_133 : Cond.static yX11_dueAt ∈ uw := uw_t7 (List.mem_of_getElem? (i := 133) rfl) rfl
theorem tw7_134 : Cond.code yX11_dueAt cX11_dueAt 6 (some .int) ∈ uw := uw_t7 (List.mem_of_getElem? (i := 134) rfl) rfl
theorem tw7_135 : Cond.methodLink RL 184 yX11_misfits ∈ uw := uw_t7 (List.mem_of_getElem? (i := 135) rfl) rfl
theorem tw7_136 : Cond.instanceMethod yX11_misfits ∈ uw := uw_t7 (List.mem_of_getElem? (i := 136) rfl) rfl
theorem tw7_137 : Cond.selects RX11 yX11_misfits yX11_misfits ∈ uw := uw_t7 (List.mem_of_getElem? (i := 137) rfl) rfl
theorem tw7_138 : Cond.code yX11_misfits cX11_misfits 7 (some .int) ∈ uw := uw_t7 (List.mem_of_getElem? (i := 138) rfl) rfl
theorem tw7_139 : Cond.methodLink RX11 290 yX11_misfitsOf ∈ uw := uw_t7 (List.mem_of_getElem? (i := 139) rfl) rfl
theorem tw7_141 : Cond.instanceMethod yX11_misfitsOf ∈ uw := uw_t7 (List.mem_of_getElem? (i := 141) rfl) rfl
theorem tw7_142 : Cond.code yX11_misfitsOf cX11_misfitsOf 9 (some .int) ∈ uw := uw_t7 (List.mem_of_getElem? (i := 142) rfl) rfl
theorem tw7_143 : Cond.methodLink RL 188 yX11_fault ∈ uw := uw_t7 (List.mem_of_getElem? (i := 143) rfl) rfl
theorem tw7_144 : Cond.instanceMethod yX11_fault ∈ uw := uw_t7 (List.mem_of_getElem? (i := 144) rfl) rfl
theorem tw7_145 : Cond.selects RX11 yX11_fault yX11_fault ∈ uw := uw_t7 (List.mem_of_getElem? (i := 145) rfl) rfl
theorem tw7_146 : Cond.code yX11_fault cX11_fault 4 (some .int) ∈ uw := uw_t7 (List.mem_of_getElem? (i := 146) rfl) rfl
theorem tw7_147 : Cond.methodLink RX11 303 yX11_tryAll ∈ uw := uw_t7 (List.mem_of_getElem? (i := 147) rfl) rfl
theorem tw7_149 : Cond.instanceMethod yX11_tryAll ∈ uw := uw_t7 (List.mem_of_getElem? (i := 149) rfl) rfl
theorem tw7_150 : Cond.code yX11_tryAll cX11_tryAll 6 none ∈ uw := uw_t7 (List.mem_of_getElem? (i := 150) rfl) rfl
theorem tw7_151 : Cond.methodLink RX11 299 yX11_tryFault ∈ uw := uw_t7 (List.mem_of_getElem? (i := 151) rfl) rfl
theorem tw7_153 : Cond.instanceMethod yX11_tryFault ∈ uw := uw_t7 (List.mem_of_getElem? (i := 153) rfl) rfl
theorem tw7_154 : Cond.code yX11_tryFault cX11_tryFault 7 none ∈ uw := uw_t7 (List.mem_of_getElem? (i := 154) rfl) rfl
theorem tw7_155 : Cond.methodLink RL 193 yX11_faultTold ∈ uw := uw_t7 (List.mem_of_getElem? (i := 155) rfl) rfl
theorem tw7_156 : Cond.instanceMethod yX11_faultTold ∈ uw := uw_t7 (List.mem_of_getElem? (i := 156) rfl) rfl
theorem tw7_157 : Cond.selects RX11 yX11_faultTold yX11_faultTold ∈ uw := uw_t7 (List.mem_of_getElem? (i := 157) rfl) rfl
theorem tw7_158 : Cond.code yX11_faultTold cX11_faultTold 2 (some .int) ∈ uw := uw_t7 (List.mem_of_getElem? (i := 158) rfl) rfl
theorem tw7_159 : Cond.methodLink RL 197 yX11_explained ∈ uw := uw_t7 (List.mem_of_getElem? (i := 159) rfl) rfl
theorem tw7_160 : Cond.instanceMethod yX11_explained ∈ uw := uw_t7 (List.mem_of_getElem? (i := 160) rfl) rfl
theorem tw7_161 : Cond.selects RX11 yX11_explained yX11_explained ∈ uw := uw_t7 (List.mem_of_getElem? (i := 161) rfl) rfl
theorem tw7_162 : Cond.code yX11_explained cX11_explained 4 (some .int) ∈ uw := uw_t7 (List.mem_of_getElem? (i := 162) rfl) rfl
theorem tw7_163 : Cond.methodLink RL 201 yX11_windy ∈ uw := uw_t7 (List.mem_of_getElem? (i := 163) rfl) rfl
theorem tw7_164 : Cond.instanceMethod yX11_windy ∈ uw := uw_t7 (List.mem_of_getElem? (i := 164) rfl) rfl
theorem tw7_165 : Cond.selects RX11 yX11_windy yX11_windy ∈ uw := uw_t7 (List.mem_of_getElem? (i := 165) rfl) rfl
theorem tw7_166 : Cond.code yX11_windy cX11_windy 8 (some .int) ∈ uw := uw_t7 (List.mem_of_getElem? (i := 166) rfl) rfl
theorem tw7_167 : Cond.methodLink RL 205 yX11_wheel ∈ uw := uw_t7 (List.mem_of_getElem? (i := 167) rfl) rfl
theorem tw7_168 : Cond.instanceMethod yX11_wheel ∈ uw := uw_t7 (List.mem_of_getElem? (i := 168) rfl) rfl
theorem tw7_169 : Cond.selects RX11 yX11_wheel yX11_wheel ∈ uw := uw_t7 (List.mem_of_getElem? (i := 169) rfl) rfl
theorem tw7_170 : Cond.code yX11_wheel cX11_wheel 2 (some .int) ∈ uw := uw_t7 (List.mem_of_getElem? (i := 170) rfl) rfl
theorem tw7_171 : Cond.methodLink RL 209 yX11_nearest ∈ uw := uw_t7 (List.mem_of_getElem? (i := 171) rfl) rfl
theorem tw7_172 : Cond.instanceMethod yX11_nearest ∈ uw := uw_t7 (List.mem_of_getElem? (i := 172) rfl) rfl
theorem tw7_173 : Cond.selects RX11 yX11_nearest yX11_nearest ∈ uw := uw_t7 (List.mem_of_getElem? (i := 173) rfl) rfl
theorem tw7_174 : Cond.code yX11_nearest cX11_nearest 10 (some .int) ∈ uw := uw_t7 (List.mem_of_getElem? (i := 174) rfl) rfl
theorem tw7_175 : Cond.methodLink RX11 327 yX11_tryGears ∈ uw := uw_t7 (List.mem_of_getElem? (i := 175) rfl) rfl
theorem tw7_177 : Cond.instanceMethod yX11_tryGears ∈ uw := uw_t7 (List.mem_of_getElem? (i := 177) rfl) rfl
theorem tw7_178 : Cond.code yX11_tryGears cX11_tryGears 9 none ∈ uw := uw_t7 (List.mem_of_getElem? (i := 178) rfl) rfl
theorem tw7_179 : Cond.methodLink RX11 317 yX11_differs ∈ uw := uw_t7 (List.mem_of_getElem? (i := 179) rfl) rfl
theorem tw7_180 : Cond.static yX11_differs ∈ uw := uw_t7 (List.mem_of_getElem? (i := 180) rfl) rfl
theorem tw7_181 : Cond.code yX11_differs cX11_differs 10 (some .long) ∈ uw := uw_t7 (List.mem_of_getElem? (i := 181) rfl) rfl
theorem tw7_182 : Cond.methodLink RX11 334 yX11_tell ∈ uw := uw_t7 (List.mem_of_getElem? (i := 182) rfl) rfl
theorem tw7_184 : Cond.instanceMethod yX11_tell ∈ uw := uw_t7 (List.mem_of_getElem? (i := 184) rfl) rfl
theorem tw7_185 : Cond.code yX11_tell cX11_tell 11 (some .int) ∈ uw := uw_t7 (List.mem_of_getElem? (i := 185) rfl) rfl
theorem tw7_186 : Cond.methodLink RL 213 yX11_chosen ∈ uw := uw_t7 (List.mem_of_getElem? (i := 186) rfl) rfl
theorem tw7_187 : Cond.instanceMethod yX11_chosen ∈ uw := uw_t7 (List.mem_of_getElem? (i := 187) rfl) rfl
theorem tw7_188 : Cond.selects RX11 yX11_chosen yX11_chosen ∈ uw := uw_t7 (List.mem_of_getElem? (i := 188) rfl) rfl
theorem tw7_189 : Cond.code yX11_chosen cX11_chosen 2 (some .int) ∈ uw := uw_t7 (List.mem_of_getElem? (i := 189) rfl) rfl
theorem tw7_190 : Cond.methodLink RL 217 yX11_daily ∈ uw := uw_t7 (List.mem_of_getElem? (i := 190) rfl) rfl
theorem tw7_191 : Cond.instanceMethod yX11_daily ∈ uw := uw_t7 (List.mem_of_getElem? (i := 191) rfl) rfl
theorem tw7_192 : Cond.selects RX11 yX11_daily yX11_daily ∈ uw := uw_t7 (List.mem_of_getElem? (i := 192) rfl) rfl
theorem tw7_193 : Cond.code yX11_daily cX11_daily 3 (some .int) ∈ uw := uw_t7 (List.mem_of_getElem? (i := 193) rfl) rfl
theorem tw7_194 : Cond.methodLink RX11 338 yX11_dayOf ∈ uw := uw_t7 (List.mem_of_getElem? (i := 194) rfl) rfl
theorem tw7_196 : Cond.instanceMethod yX11_dayOf ∈ uw := uw_t7 (List.mem_of_getElem? (i := 196) rfl) rfl
theorem tw7_197 : Cond.code yX11_dayOf cX11_dayOf 8 (some .int) ∈ uw := uw_t7 (List.mem_of_getElem? (i := 197) rfl) rfl
theorem tw7_198 : Cond.methodLink RL 221 yX11_lasting ∈ uw := uw_t7 (List.mem_of_getElem? (i := 198) rfl) rfl
theorem tw7_199 : Cond.instanceMethod yX11_lasting ∈ uw := uw_t7 (List.mem_of_getElem? (i := 199) rfl) rfl
theorem tw7_200 : Cond.selects RX11 yX11_lasting yX11_lasting ∈ uw := uw_t7 (List.mem_of_getElem? (i := 200) rfl) rfl
theorem tw7_201 : Cond.code yX11_lasting cX11_lasting 9 (some .int) ∈ uw := uw_t7 (List.mem_of_getElem? (i := 201) rfl) rfl
theorem tw7_202 : Cond.constantLong RX11 341 (1000000) ∈ uw := uw_t7 (List.mem_of_getElem? (i := 202) rfl) rfl
theorem tw7_203 : Cond.constant RX11 343 (1000001) ∈ uw := uw_t7 (List.mem_of_getElem? (i := 203) rfl) rfl
theorem tw7_204 : Cond.methodLink RL 225 yX11_lastingDays ∈ uw := uw_t7 (List.mem_of_getElem? (i := 204) rfl) rfl
theorem tw7_205 : Cond.instanceMethod yX11_lastingDays ∈ uw := uw_t7 (List.mem_of_getElem? (i := 205) rfl) rfl
theorem tw7_206 : Cond.selects RX11 yX11_lastingDays yX11_lastingDays ∈ uw := uw_t7 (List.mem_of_getElem? (i := 206) rfl) rfl
theorem tw7_207 : Cond.code yX11_lastingDays cX11_lastingDays 7 (some .int) ∈ uw := uw_t7 (List.mem_of_getElem? (i := 207) rfl) rfl
theorem tw7_208 : Cond.methodLink RL 229 yX11_asked ∈ uw := uw_t7 (List.mem_of_getElem? (i := 208) rfl) rfl
theorem tw7_209 : Cond.instanceMethod yX11_asked ∈ uw := uw_t7 (List.mem_of_getElem? (i := 209) rfl) rfl
theorem tw7_210 : Cond.selects RX11 yX11_asked yX11_asked ∈ uw := uw_t7 (List.mem_of_getElem? (i := 210) rfl) rfl
theorem tw7_211 : Cond.code yX11_asked cX11_asked 1 (some .int) ∈ uw := uw_t7 (List.mem_of_getElem? (i := 211) rfl) rfl
theorem tw7_212 : Cond.methodLink RL 234 yX11_upper ∈ uw := uw_t7 (List.mem_of_getElem? (i := 212) rfl) rfl
theorem tw7_213 : Cond.instanceMethod yX11_upper ∈ uw := uw_t7 (List.mem_of_getElem? (i := 213) rfl) rfl
theorem tw7_214 : Cond.selects RX11 yX11_upper yX11_upper ∈ uw := uw_t7 (List.mem_of_getElem? (i := 214) rfl) rfl
theorem tw7_215 : Cond.code yX11_upper cX11_upper 1 (some .long) ∈ uw := uw_t7 (List.mem_of_getElem? (i := 215) rfl) rfl
theorem tw7_216 : Cond.methodLink RL 238 yX11_lower ∈ uw := uw_t7 (List.mem_of_getElem? (i := 216) rfl) rfl
theorem tw7_217 : Cond.instanceMethod yX11_lower ∈ uw := uw_t7 (List.mem_of_getElem? (i := 217) rfl) rfl
theorem tw7_218 : Cond.selects RX11 yX11_lower yX11_lower ∈ uw := uw_t7 (List.mem_of_getElem? (i := 218) rfl) rfl
theorem tw7_219 : Cond.code yX11_lower cX11_lower 1 (some .long) ∈ uw := uw_t7 (List.mem_of_getElem? (i := 219) rfl) rfl
theorem tw7_220 : Cond.methodLink RL 242 yX11_count ∈ uw := uw_t7 (List.mem_of_getElem? (i := 220) rfl) rfl
theorem tw7_221 : Cond.instanceMethod yX11_count ∈ uw := uw_t7 (List.mem_of_getElem? (i := 221) rfl) rfl
theorem tw7_222 : Cond.selects RX11 yX11_count yX11_count ∈ uw := uw_t7 (List.mem_of_getElem? (i := 222) rfl) rfl
theorem tw7_223 : Cond.code yX11_count cX11_count 4 (some .int) ∈ uw := uw_t7 (List.mem_of_getElem? (i := 223) rfl) rfl
theorem tw7_224 : Cond.methodLink RL 246 yX11_finding ∈ uw := uw_t7 (List.mem_of_getElem? (i := 224) rfl) rfl
theorem tw7_225 : Cond.instanceMethod yX11_finding ∈ uw := uw_t7 (List.mem_of_getElem? (i := 225) rfl) rfl
theorem tw7_226 : Cond.selects RX11 yX11_finding yX11_finding ∈ uw := uw_t7 (List.mem_of_getElem? (i := 226) rfl) rfl
theorem tw7_227 : Cond.code yX11_finding cX11_finding 1 (some .int) ∈ uw := uw_t7 (List.mem_of_getElem? (i := 227) rfl) rfl
theorem tw7_228 : Cond.methodLink RL 250 yX11_findings ∈ uw := uw_t7 (List.mem_of_getElem? (i := 228) rfl) rfl
theorem tw7_229 : Cond.instanceMethod yX11_findings ∈ uw := uw_t7 (List.mem_of_getElem? (i := 229) rfl) rfl
theorem tw7_230 : Cond.selects RX11 yX11_findings yX11_findings ∈ uw := uw_t7 (List.mem_of_getElem? (i := 230) rfl) rfl
theorem tw7_231 : Cond.code yX11_findings cX11_findings 2 (some .int) ∈ uw := uw_t7 (List.mem_of_getElem? (i := 231) rfl) rfl
theorem tw7_232 : Cond.methodLink RL 254 yX11_digest ∈ uw := uw_t7 (List.mem_of_getElem? (i := 232) rfl) rfl
theorem tw7_233 : Cond.instanceMethod yX11_digest ∈ uw := uw_t7 (List.mem_of_getElem? (i := 233) rfl) rfl
theorem tw7_234 : Cond.selects RX11 yX11_digest yX11_digest ∈ uw := uw_t7 (List.mem_of_getElem? (i := 234) rfl) rfl
theorem tw7_235 : Cond.code yX11_digest cX11_digest 5 (some .long) ∈ uw := uw_t7 (List.mem_of_getElem? (i := 235) rfl) rfl
theorem tw7_236 : Cond.constantLong RX11 344 (527) ∈ uw := uw_t7 (List.mem_of_getElem? (i := 236) rfl) rfl
theorem tw7_237 : Cond.constantLong RX11 346 (31) ∈ uw := uw_t7 (List.mem_of_getElem? (i := 237) rfl) rfl
theorem tw7_238 : Cond.castable RX0 RX4 ∈ lw_tbl := lw_t7 (List.mem_of_getElem? (i := 238) rfl)
theorem tw7_239 : Cond.castable RX4 RX9 ∈ lw_tbl := lw_t7 (List.mem_of_getElem? (i := 239) rfl)
theorem tw8_0 : Cond.castable RX7 RX9 ∈ lw_tbl := lw_t8 (List.mem_of_getElem? (i := 0) rfl)
theorem tw8_1 : Cond.castable RX0 RX9 ∈ lw_tbl := lw_t8 (List.mem_of_getElem? (i := 1) rfl)
theorem tws1_0 : Cond.selects RX10 yX10_rowOf yX10_rowOf ∈ uw := uw_of (List.mem_append_left tables_1 (List.mem_map.mpr ⟨(yX10_rowOf, _), (List.mem_append_left _ (List.mem_of_getElem? (i := 0) rfl)), rfl⟩)) rfl
theorem tws1_1 : Cond.selects RX10 yX10_found yX10_found ∈ uw := uw_of (List.mem_append_left tables_1 (List.mem_map.mpr ⟨(yX10_found, _), (List.mem_append_left _ (List.mem_of_getElem? (i := 1) rfl)), rfl⟩)) rfl
theorem tws1_2 : Cond.selects RX10 yX10_keep yX10_keep ∈ uw := uw_of (List.mem_append_left tables_1 (List.mem_map.mpr ⟨(yX10_keep, _), (List.mem_append_left _ (List.mem_of_getElem? (i := 2) rfl)), rfl⟩)) rfl
theorem tws1_3 : Cond.selects RX10 yX10_refusalOfStrokes yX10_refusalOfStrokes ∈ uw := uw_of (List.mem_append_left tables_1 (List.mem_map.mpr ⟨(yX10_refusalOfStrokes, _), (List.mem_append_left _ (List.mem_of_getElem? (i := 3) rfl)), rfl⟩)) rfl
theorem tws1_4 : Cond.selects RX10 yX10_trainOf yX10_trainOf ∈ uw := uw_of (List.mem_append_left tables_1 (List.mem_map.mpr ⟨(yX10_trainOf, _), (List.mem_append_left _ (List.mem_of_getElem? (i := 4) rfl)), rfl⟩)) rfl
theorem tws1_5 : Cond.selects RX10 yX10_towerOf yX10_towerOf ∈ uw := uw_of (List.mem_append_left tables_1 (List.mem_map.mpr ⟨(yX10_towerOf, _), (List.mem_append_left _ (List.mem_of_getElem? (i := 5) rfl)), rfl⟩)) rfl
theorem tws1_6 : Cond.selects RX8 yX8_warnOrLetOff yX8_warnOrLetOff ∈ uw := uw_of (List.mem_append_left tables_1 (List.mem_map.mpr ⟨(yX8_warnOrLetOff, _), (List.mem_append_left _ (List.mem_of_getElem? (i := 6) rfl)), rfl⟩)) rfl
theorem tws1_7 : Cond.selects RX8 yX8_liftHour yX8_liftHour ∈ uw := uw_of (List.mem_append_left tables_1 (List.mem_map.mpr ⟨(yX8_liftHour, _), (List.mem_append_left _ (List.mem_of_getElem? (i := 7) rfl)), rfl⟩)) rfl
theorem tws1_8 : Cond.selects RX5 yX5_add yX5_add ∈ uw := uw_of (List.mem_append_left tables_1 (List.mem_map.mpr ⟨(yX5_add, _), (List.mem_append_left _ (List.mem_of_getElem? (i := 8) rfl)), rfl⟩)) rfl
theorem tws1_9 : Cond.selects RX10 yX10_refusalOfHeard yX10_refusalOfHeard ∈ uw := uw_of (List.mem_append_left tables_1 (List.mem_map.mpr ⟨(yX10_refusalOfHeard, _), (List.mem_append_left _ (List.mem_of_getElem? (i := 9) rfl)), rfl⟩)) rfl
theorem tws1_10 : Cond.selects RX1 yX1_misfit yX1_misfit ∈ uw := uw_of (List.mem_append_left tables_1 (List.mem_map.mpr ⟨(yX1_misfit, _), (List.mem_append_left _ (List.mem_of_getElem? (i := 10) rfl)), rfl⟩)) rfl
theorem tws1_11 : Cond.selects RX1 yX1_offer yX1_offer ∈ uw := uw_of (List.mem_append_left tables_1 (List.mem_map.mpr ⟨(yX1_offer, _), (List.mem_append_left _ (List.mem_of_getElem? (i := 11) rfl)), rfl⟩)) rfl
theorem tws1_12 : Cond.selects RX1 yX1_offerOut yX1_offerOut ∈ uw := uw_of (List.mem_append_left tables_1 (List.mem_map.mpr ⟨(yX1_offerOut, _), (List.mem_append_left _ (List.mem_of_getElem? (i := 12) rfl)), rfl⟩)) rfl
theorem tws1_13 : Cond.selects RX1 yX1_misfitOfNone yX1_misfitOfNone ∈ uw := uw_of (List.mem_append_left tables_1 (List.mem_map.mpr ⟨(yX1_misfitOfNone, _), (List.mem_append_left _ (List.mem_of_getElem? (i := 13) rfl)), rfl⟩)) rfl
theorem tws1_14 : Cond.selects RX1 yX1_offerNotches yX1_offerNotches ∈ uw := uw_of (List.mem_append_left tables_1 (List.mem_map.mpr ⟨(yX1_offerNotches, _), (List.mem_append_left _ (List.mem_of_getElem? (i := 14) rfl)), rfl⟩)) rfl
theorem tws1_15 : Cond.selects RX1 yX1_misfitsAtHour yX1_misfitsAtHour ∈ uw := uw_of (List.mem_append_left tables_1 (List.mem_map.mpr ⟨(yX1_misfitsAtHour, _), (List.mem_append_left _ (List.mem_of_getElem? (i := 15) rfl)), rfl⟩)) rfl
theorem tws2_0 : Cond.selects RX1 yX1_offerDeaf yX1_offerDeaf ∈ uw := uw_of (List.mem_append_left tables_1 (List.mem_map.mpr ⟨(yX1_offerDeaf, _), (List.mem_append_right _ (List.mem_append_left _ (List.mem_of_getElem? (i := 0) rfl))), rfl⟩)) rfl
theorem tws2_1 : Cond.selects RX2 yX2_offer yX2_offer ∈ uw := uw_of (List.mem_append_left tables_1 (List.mem_map.mpr ⟨(yX2_offer, _), (List.mem_append_right _ (List.mem_append_left _ (List.mem_of_getElem? (i := 1) rfl))), rfl⟩)) rfl
theorem tws2_2 : Cond.selects RX2 yX2_teethOr1 yX2_teethOr1 ∈ uw := uw_of (List.mem_append_left tables_1 (List.mem_map.mpr ⟨(yX2_teethOr1, _), (List.mem_append_right _ (List.mem_append_left _ (List.mem_of_getElem? (i := 2) rfl))), rfl⟩)) rfl
theorem tws2_3 : Cond.selects RX2 yX2_offerSecondPairs yX2_offerSecondPairs ∈ uw := uw_of (List.mem_append_left tables_1 (List.mem_map.mpr ⟨(yX2_offerSecondPairs, _), (List.mem_append_right _ (List.mem_append_left _ (List.mem_of_getElem? (i := 3) rfl))), rfl⟩)) rfl
theorem tws2_4 : Cond.selects RX2 yX2_reduce yX2_reduce ∈ uw := uw_of (List.mem_append_left tables_1 (List.mem_map.mpr ⟨(yX2_reduce, _), (List.mem_append_right _ (List.mem_append_left _ (List.mem_of_getElem? (i := 4) rfl))), rfl⟩)) rfl
theorem tws2_5 : Cond.selects RX10 yX10_towersThere yX10_towersThere ∈ uw := uw_of (List.mem_append_left tables_1 (List.mem_map.mpr ⟨(yX10_towersThere, _), (List.mem_append_right _ (List.mem_append_left _ (List.mem_of_getElem? (i := 5) rfl))), rfl⟩)) rfl
theorem tws2_6 : Cond.selects RX10 yX10_rowsThere yX10_rowsThere ∈ uw := uw_of (List.mem_append_left tables_1 (List.mem_map.mpr ⟨(yX10_rowsThere, _), (List.mem_append_right _ (List.mem_append_left _ (List.mem_of_getElem? (i := 6) rfl))), rfl⟩)) rfl
theorem tws2_7 : Cond.selects RX10 yX10_strokesEver yX10_strokesEver ∈ uw := uw_of (List.mem_append_left tables_1 (List.mem_map.mpr ⟨(yX10_strokesEver, _), (List.mem_append_right _ (List.mem_append_left _ (List.mem_of_getElem? (i := 7) rfl))), rfl⟩)) rfl
theorem tws2_8 : Cond.selects RX10 yX10_mixTrain yX10_mixTrain ∈ uw := uw_of (List.mem_append_left tables_1 (List.mem_map.mpr ⟨(yX10_mixTrain, _), (List.mem_append_right _ (List.mem_append_left _ (List.mem_of_getElem? (i := 8) rfl))), rfl⟩)) rfl
theorem tws2_9 : Cond.selects RX10 yX10_mixTower yX10_mixTower ∈ uw := uw_of (List.mem_append_left tables_1 (List.mem_map.mpr ⟨(yX10_mixTower, _), (List.mem_append_right _ (List.mem_append_left _ (List.mem_of_getElem? (i := 9) rfl))), rfl⟩)) rfl
theorem tws2_10 : Cond.selects RX11 yX11_meets yX11_meets ∈ uw := uw_of (List.mem_append_left tables_1 (List.mem_map.mpr ⟨(yX11_meets, _), (List.mem_append_right _ (List.mem_append_left _ (List.mem_of_getElem? (i := 10) rfl))), rfl⟩)) rfl
theorem tws2_11 : Cond.selects RX11 yX11_looked yX11_looked ∈ uw := uw_of (List.mem_append_left tables_1 (List.mem_map.mpr ⟨(yX11_looked, _), (List.mem_append_right _ (List.mem_append_left _ (List.mem_of_getElem? (i := 11) rfl))), rfl⟩)) rfl
theorem tws2_12 : Cond.selects RX11 yX11_makes yX11_makes ∈ uw := uw_of (List.mem_append_left tables_1 (List.mem_map.mpr ⟨(yX11_makes, _), (List.mem_append_right _ (List.mem_append_left _ (List.mem_of_getElem? (i := 12) rfl))), rfl⟩)) rfl
theorem tws2_13 : Cond.selects RX11 yX11_plateOf yX11_plateOf ∈ uw := uw_of (List.mem_append_left tables_1 (List.mem_map.mpr ⟨(yX11_plateOf, _), (List.mem_append_right _ (List.mem_append_left _ (List.mem_of_getElem? (i := 13) rfl))), rfl⟩)) rfl
theorem tws2_14 : Cond.selects RX11 yX11_areNotches yX11_areNotches ∈ uw := uw_of (List.mem_append_left tables_1 (List.mem_map.mpr ⟨(yX11_areNotches, _), (List.mem_append_right _ (List.mem_append_left _ (List.mem_of_getElem? (i := 14) rfl))), rfl⟩)) rfl
theorem tws2_15 : Cond.selects RX11 yX11_cutOf yX11_cutOf ∈ uw := uw_of (List.mem_append_left tables_1 (List.mem_map.mpr ⟨(yX11_cutOf, _), (List.mem_append_right _ (List.mem_append_left _ (List.mem_of_getElem? (i := 15) rfl))), rfl⟩)) rfl
theorem tws3_0 : Cond.selects RX11 yX11_isTrain yX11_isTrain ∈ uw := uw_of (List.mem_append_left tables_1 (List.mem_map.mpr ⟨(yX11_isTrain, _), (List.mem_append_right _ (List.mem_append_right _ (List.mem_append_left _ (List.mem_of_getElem? (i := 0) rfl)))), rfl⟩)) rfl
theorem tws3_1 : Cond.selects RX11 yX11_trainTells yX11_trainTells ∈ uw := uw_of (List.mem_append_left tables_1 (List.mem_map.mpr ⟨(yX11_trainTells, _), (List.mem_append_right _ (List.mem_append_right _ (List.mem_append_left _ (List.mem_of_getElem? (i := 1) rfl)))), rfl⟩)) rfl
theorem tws3_2 : Cond.selects RX11 yX11_isPlate yX11_isPlate ∈ uw := uw_of (List.mem_append_left tables_1 (List.mem_map.mpr ⟨(yX11_isPlate, _), (List.mem_append_right _ (List.mem_append_right _ (List.mem_append_left _ (List.mem_of_getElem? (i := 2) rfl)))), rfl⟩)) rfl
theorem tws3_3 : Cond.selects RX11 yX11_over yX11_over ∈ uw := uw_of (List.mem_append_left tables_1 (List.mem_map.mpr ⟨(yX11_over, _), (List.mem_append_right _ (List.mem_append_right _ (List.mem_append_left _ (List.mem_of_getElem? (i := 3) rfl)))), rfl⟩)) rfl
theorem tws3_4 : Cond.selects RX11 yX11_askedNotch yX11_askedNotch ∈ uw := uw_of (List.mem_append_left tables_1 (List.mem_map.mpr ⟨(yX11_askedNotch, _), (List.mem_append_right _ (List.mem_append_right _ (List.mem_append_left _ (List.mem_of_getElem? (i := 4) rfl)))), rfl⟩)) rfl
theorem tws3_5 : Cond.selects RX11 yX11_free yX11_free ∈ uw := uw_of (List.mem_append_left tables_1 (List.mem_map.mpr ⟨(yX11_free, _), (List.mem_append_right _ (List.mem_append_right _ (List.mem_append_left _ (List.mem_of_getElem? (i := 5) rfl)))), rfl⟩)) rfl
theorem tws3_6 : Cond.selects RX11 yX11_askedPlace yX11_askedPlace ∈ uw := uw_of (List.mem_append_left tables_1 (List.mem_map.mpr ⟨(yX11_askedPlace, _), (List.mem_append_right _ (List.mem_append_right _ (List.mem_append_left _ (List.mem_of_getElem? (i := 6) rfl)))), rfl⟩)) rfl
theorem tws3_7 : Cond.selects RX11 yX11_askedFor yX11_askedFor ∈ uw := uw_of (List.mem_append_left tables_1 (List.mem_map.mpr ⟨(yX11_askedFor, _), (List.mem_append_right _ (List.mem_append_right _ (List.mem_append_left _ (List.mem_of_getElem? (i := 7) rfl)))), rfl⟩)) rfl
theorem tws3_8 : Cond.selects RX11 yX11_stepOn yX11_stepOn ∈ uw := uw_of (List.mem_append_left tables_1 (List.mem_map.mpr ⟨(yX11_stepOn, _), (List.mem_append_right _ (List.mem_append_right _ (List.mem_append_left _ (List.mem_of_getElem? (i := 8) rfl)))), rfl⟩)) rfl
theorem tws3_9 : Cond.selects RX11 yX11_warnedGoes yX11_warnedGoes ∈ uw := uw_of (List.mem_append_left tables_1 (List.mem_map.mpr ⟨(yX11_warnedGoes, _), (List.mem_append_right _ (List.mem_append_right _ (List.mem_append_left _ (List.mem_of_getElem? (i := 9) rfl)))), rfl⟩)) rfl
theorem tws3_10 : Cond.selects RX11 yX11_silenceOf yX11_silenceOf ∈ uw := uw_of (List.mem_append_left tables_1 (List.mem_map.mpr ⟨(yX11_silenceOf, _), (List.mem_append_right _ (List.mem_append_right _ (List.mem_append_left _ (List.mem_of_getElem? (i := 10) rfl)))), rfl⟩)) rfl
theorem tws3_11 : Cond.selects RX11 yX11_offGoes yX11_offGoes ∈ uw := uw_of (List.mem_append_left tables_1 (List.mem_map.mpr ⟨(yX11_offGoes, _), (List.mem_append_right _ (List.mem_append_right _ (List.mem_append_left _ (List.mem_of_getElem? (i := 11) rfl)))), rfl⟩)) rfl
theorem tws3_12 : Cond.selects RX11 yX11_quarterNow yX11_quarterNow ∈ uw := uw_of (List.mem_append_left tables_1 (List.mem_map.mpr ⟨(yX11_quarterNow, _), (List.mem_append_right _ (List.mem_append_right _ (List.mem_append_left _ (List.mem_of_getElem? (i := 12) rfl)))), rfl⟩)) rfl
theorem tws3_13 : Cond.selects RX11 yX11_hourNow yX11_hourNow ∈ uw := uw_of (List.mem_append_left tables_1 (List.mem_map.mpr ⟨(yX11_hourNow, _), (List.mem_append_right _ (List.mem_append_right _ (List.mem_append_left _ (List.mem_of_getElem? (i := 13) rfl)))), rfl⟩)) rfl
theorem tws3_14 : Cond.selects RX11 yX11_runs yX11_runs ∈ uw := uw_of (List.mem_append_left tables_1 (List.mem_map.mpr ⟨(yX11_runs, _), (List.mem_append_right _ (List.mem_append_right _ (List.mem_append_left _ (List.mem_of_getElem? (i := 14) rfl)))), rfl⟩)) rfl
theorem tws3_15 : Cond.selects RX11 yX11_writeLog yX11_writeLog ∈ uw := uw_of (List.mem_append_left tables_1 (List.mem_map.mpr ⟨(yX11_writeLog, _), (List.mem_append_right _ (List.mem_append_right _ (List.mem_append_left _ (List.mem_of_getElem? (i := 15) rfl)))), rfl⟩)) rfl
theorem tws4_0 : Cond.selects RX11 yX11_minuteOf yX11_minuteOf ∈ uw := uw_of (List.mem_append_left tables_1 (List.mem_map.mpr ⟨(yX11_minuteOf, _), (List.mem_append_right _ (List.mem_append_right _ (List.mem_append_right _ (List.mem_of_getElem? (i := 0) rfl)))), rfl⟩)) rfl
theorem tws4_1 : Cond.selects RX11 yX11_towerTells yX11_towerTells ∈ uw := uw_of (List.mem_append_left tables_1 (List.mem_map.mpr ⟨(yX11_towerTells, _), (List.mem_append_right _ (List.mem_append_right _ (List.mem_append_right _ (List.mem_of_getElem? (i := 1) rfl)))), rfl⟩)) rfl
theorem tws4_2 : Cond.selects RX11 yX11_askedTwo yX11_askedTwo ∈ uw := uw_of (List.mem_append_left tables_1 (List.mem_map.mpr ⟨(yX11_askedTwo, _), (List.mem_append_right _ (List.mem_append_right _ (List.mem_append_right _ (List.mem_of_getElem? (i := 2) rfl)))), rfl⟩)) rfl
theorem tws4_3 : Cond.selects RX11 yX11_askedPlate yX11_askedPlate ∈ uw := uw_of (List.mem_append_left tables_1 (List.mem_map.mpr ⟨(yX11_askedPlate, _), (List.mem_append_right _ (List.mem_append_right _ (List.mem_append_right _ (List.mem_of_getElem? (i := 3) rfl)))), rfl⟩)) rfl
theorem tws4_4 : Cond.selects RX11 yX11_rightNotch yX11_rightNotch ∈ uw := uw_of (List.mem_append_left tables_1 (List.mem_map.mpr ⟨(yX11_rightNotch, _), (List.mem_append_right _ (List.mem_append_right _ (List.mem_append_right _ (List.mem_of_getElem? (i := 4) rfl)))), rfl⟩)) rfl
theorem tws4_5 : Cond.selects RX11 yX11_nextHour yX11_nextHour ∈ uw := uw_of (List.mem_append_left tables_1 (List.mem_map.mpr ⟨(yX11_nextHour, _), (List.mem_append_right _ (List.mem_append_right _ (List.mem_append_right _ (List.mem_of_getElem? (i := 5) rfl)))), rfl⟩)) rfl
theorem tws4_6 : Cond.selects RX11 yX11_costOf yX11_costOf ∈ uw := uw_of (List.mem_append_left tables_1 (List.mem_map.mpr ⟨(yX11_costOf, _), (List.mem_append_right _ (List.mem_append_right _ (List.mem_append_right _ (List.mem_of_getElem? (i := 6) rfl)))), rfl⟩)) rfl
theorem tws4_7 : Cond.selects RX11 yX11_misfitsOf yX11_misfitsOf ∈ uw := uw_of (List.mem_append_left tables_1 (List.mem_map.mpr ⟨(yX11_misfitsOf, _), (List.mem_append_right _ (List.mem_append_right _ (List.mem_append_right _ (List.mem_of_getElem? (i := 7) rfl)))), rfl⟩)) rfl
theorem tws4_8 : Cond.selects RX11 yX11_tryAll yX11_tryAll ∈ uw := uw_of (List.mem_append_left tables_1 (List.mem_map.mpr ⟨(yX11_tryAll, _), (List.mem_append_right _ (List.mem_append_right _ (List.mem_append_right _ (List.mem_of_getElem? (i := 8) rfl)))), rfl⟩)) rfl
theorem tws4_9 : Cond.selects RX11 yX11_tryFault yX11_tryFault ∈ uw := uw_of (List.mem_append_left tables_1 (List.mem_map.mpr ⟨(yX11_tryFault, _), (List.mem_append_right _ (List.mem_append_right _ (List.mem_append_right _ (List.mem_of_getElem? (i := 9) rfl)))), rfl⟩)) rfl
theorem tws4_10 : Cond.selects RX11 yX11_tryGears yX11_tryGears ∈ uw := uw_of (List.mem_append_left tables_1 (List.mem_map.mpr ⟨(yX11_tryGears, _), (List.mem_append_right _ (List.mem_append_right _ (List.mem_append_right _ (List.mem_of_getElem? (i := 10) rfl)))), rfl⟩)) rfl
theorem tws4_11 : Cond.selects RX11 yX11_tell yX11_tell ∈ uw := uw_of (List.mem_append_left tables_1 (List.mem_map.mpr ⟨(yX11_tell, _), (List.mem_append_right _ (List.mem_append_right _ (List.mem_append_right _ (List.mem_of_getElem? (i := 11) rfl)))), rfl⟩)) rfl
theorem tws4_12 : Cond.selects RX11 yX11_dayOf yX11_dayOf ∈ uw := uw_of (List.mem_append_left tables_1 (List.mem_map.mpr ⟨(yX11_dayOf, _), (List.mem_append_right _ (List.mem_append_right _ (List.mem_append_right _ (List.mem_of_getElem? (i := 12) rfl)))), rfl⟩)) rfl
