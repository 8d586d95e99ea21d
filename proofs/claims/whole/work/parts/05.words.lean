def TW : List Cond := lw_tbl.filter goodWord
theorem twp {w : Cond} (n : Nat) (h : lw_tbl[n]? = some w) (hg : goodWord w = true) : w ∈ TW := List.mem_filter.mpr ⟨List.mem_of_getElem? h, hg⟩
theorem tw_good : ∀ w ∈ TW, goodWord w = true := fun w h => (List.mem_filter.mp h).2
theorem tw_in : ∀ w ∈ TW, w ∈ lw_tbl := fun w h => (List.mem_filter.mp h).1
theorem twq1 {w : Cond} (h : w ∈ tables_1_1) (hg : goodWord w = true) : w ∈ TW := List.mem_filter.mpr ⟨List.mem_append_right _ (show w ∈ tables_1 from List.mem_append_left _ h), hg⟩
theorem twq2 {w : Cond} (h : w ∈ tables_1_2) (hg : goodWord w = true) : w ∈ TW := List.mem_filter.mpr ⟨List.mem_append_right _ (show w ∈ tables_1 from List.mem_append_right _ (List.mem_append_left _ h)), hg⟩
theorem twq3 {w : Cond} (h : w ∈ tables_1_3) (hg : goodWord w = true) : w ∈ TW := List.mem_filter.mpr ⟨List.mem_append_right _ (show w ∈ tables_1 from List.mem_append_right _ (List.mem_append_right _ (List.mem_append_left _ h))), hg⟩
theorem twq4 {w : Cond} (h : w ∈ tables_1_4) (hg : goodWord w = true) : w ∈ TW := List.mem_filter.mpr ⟨List.mem_append_right _ (show w ∈ tables_1 from List.mem_append_right _ (List.mem_append_right _ (List.mem_append_right _ (List.mem_append_left _ h)))), hg⟩
theorem twq5 {w : Cond} (h : w ∈ tables_1_5) (hg : goodWord w = true) : w ∈ TW := List.mem_filter.mpr ⟨List.mem_append_right _ (show w ∈ tables_1 from List.mem_append_right _ (List.mem_append_right _ (List.mem_append_right _ (List.mem_append_right _ (h))))), hg⟩
theorem tw_0 : (Cond.selects RX7 yX7_reset yX7_reset : Cond) ∈ TW := twp 0 (by decide +kernel) (by decide +kernel)
theorem tw_1 : (Cond.selects RX7 yX7_take yX7_take : Cond) ∈ TW := twp 1 (by decide +kernel) (by decide +kernel)
theorem tw_2 : (Cond.selects RX7 yX7_takeFurther yX7_takeFurther : Cond) ∈ TW := twp 2 (by decide +kernel) (by decide +kernel)
theorem tw_3 : (Cond.selects RX5 yX5_regionStart yX5_regionStart : Cond) ∈ TW := twp 3 (by decide +kernel) (by decide +kernel)
theorem tw_4 : (Cond.selects RX5 yX5_regionEnd yX5_regionEnd : Cond) ∈ TW := twp 4 (by decide +kernel) (by decide +kernel)
theorem tw_5 : (Cond.selects RX5 yX5_cell yX5_cell : Cond) ∈ TW := twp 5 (by decide +kernel) (by decide +kernel)
theorem tw_6 : (Cond.selects RX5 yX5_rowStart yX5_rowStart : Cond) ∈ TW := twp 6 (by decide +kernel) (by decide +kernel)
theorem tw_7 : (Cond.selects RX5 yX5_rowEnd yX5_rowEnd : Cond) ∈ TW := twp 7 (by decide +kernel) (by decide +kernel)
theorem tw_8 : (Cond.selects RX7 yX7_control yX7_control : Cond) ∈ TW := twp 8 (by decide +kernel) (by decide +kernel)
theorem tw_9 : (Cond.selects RX7 yX7_takeInGround yX7_takeInGround : Cond) ∈ TW := twp 9 (by decide +kernel) (by decide +kernel)
theorem tw_10 : (Cond.selects RX1 yX1_start yX1_start : Cond) ∈ TW := twp 10 (by decide +kernel) (by decide +kernel)
theorem tw_11 : (Cond.selects RX7 yX7_takeInEscape yX7_takeInEscape : Cond) ∈ TW := twp 11 (by decide +kernel) (by decide +kernel)
theorem tw_12 : (Cond.selects RX7 yX7_takeInTitle yX7_takeInTitle : Cond) ∈ TW := twp 12 (by decide +kernel) (by decide +kernel)
theorem tw_13 : (Cond.selects RX7 yX7_takeBeforeEnd yX7_takeBeforeEnd : Cond) ∈ TW := twp 13 (by decide +kernel) (by decide +kernel)
theorem tw_14 : (Cond.selects RX7 yX7_doSequence yX7_doSequence : Cond) ∈ TW := twp 14 (by decide +kernel) (by decide +kernel)
theorem tw_15 : (Cond.selects RX7 yX7_doPrivate yX7_doPrivate : Cond) ∈ TW := twp 15 (by decide +kernel) (by decide +kernel)
theorem tw_16 : (Cond.selects RX5 yX5_showPage yX5_showPage : Cond) ∈ TW := twp 16 (by decide +kernel) (by decide +kernel)
theorem tw_17 : (Cond.selects RX5 yX5_clearWithin yX5_clearWithin : Cond) ∈ TW := twp 17 (by decide +kernel) (by decide +kernel)
theorem tw_18 : (Cond.selects RX5 yX5_isInRegion yX5_isInRegion : Cond) ∈ TW := twp 18 (by decide +kernel) (by decide +kernel)
theorem tw_19 : (Cond.selects RX7 yX7_paintAll yX7_paintAll : Cond) ∈ TW := twp 19 (by decide +kernel) (by decide +kernel)
theorem tw_20 : (Cond.selects RX0 yX0_setColour yX0_setColour : Cond) ∈ TW := twp 20 (by decide +kernel) (by decide +kernel)
theorem tw_21 : (Cond.selects RX0 yX0_setGround yX0_setGround : Cond) ∈ TW := twp 21 (by decide +kernel) (by decide +kernel)
theorem tw_22 : (Cond.selects RX0 yX0_paintColour yX0_paintColour : Cond) ∈ TW := twp 22 (by decide +kernel) (by decide +kernel)
theorem tw_23 : (Cond.selects RX7 yX7_switchInsert yX7_switchInsert : Cond) ∈ TW := twp 23 (by decide +kernel) (by decide +kernel)
theorem tw_24 : (Cond.selects RX7 yX7_answer yX7_answer : Cond) ∈ TW := twp 24 (by decide +kernel) (by decide +kernel)
theorem tw_25 : (Cond.selects RX4 yX4_hasRoom yX4_hasRoom : Cond) ∈ TW := twp 25 (by decide +kernel) (by decide +kernel)
theorem tw_26 : (Cond.selects RX4 yX4_add yX4_add : Cond) ∈ TW := twp 26 (by decide +kernel) (by decide +kernel)
theorem tw_28 : (Cond.selects RX8 yX8_first yX8_first : Cond) ∈ TW := twp 28 (by decide +kernel) (by decide +kernel)
theorem tw_29 : (Cond.selects RX8 yX8_blank yX8_blank : Cond) ∈ TW := twp 29 (by decide +kernel) (by decide +kernel)
theorem tw_30 : (Cond.selects RX8 yX8_place yX8_place : Cond) ∈ TW := twp 30 (by decide +kernel) (by decide +kernel)
theorem tw_31 : (Cond.selects RX8 yX8_setPen yX8_setPen : Cond) ∈ TW := twp 31 (by decide +kernel) (by decide +kernel)
theorem tw_32 : (Cond.selects RX8 yX8_save yX8_save : Cond) ∈ TW := twp 32 (by decide +kernel) (by decide +kernel)
theorem tw_33 : (Cond.selects RX8 yX8_penNow yX8_penNow : Cond) ∈ TW := twp 33 (by decide +kernel) (by decide +kernel)
theorem tw_34 : (Cond.selects RX8 yX8_take yX8_take : Cond) ∈ TW := twp 34 (by decide +kernel) (by decide +kernel)
theorem tw_35 : (Cond.selects RX8 yX8_further yX8_further : Cond) ∈ TW := twp 35 (by decide +kernel) (by decide +kernel)
theorem tw_36 : (Cond.selects RX8 yX8_print yX8_print : Cond) ∈ TW := twp 36 (by decide +kernel) (by decide +kernel)
theorem tw_37 : (Cond.selects RX8 yX8_feeding yX8_feeding : Cond) ∈ TW := twp 37 (by decide +kernel) (by decide +kernel)
theorem tw_38 : (Cond.selects RX8 yX8_shiftRows yX8_shiftRows : Cond) ∈ TW := twp 38 (by decide +kernel) (by decide +kernel)
theorem tw_39 : (Cond.selects RX8 yX8_remember yX8_remember : Cond) ∈ TW := twp 39 (by decide +kernel) (by decide +kernel)
theorem tw_40 : (Cond.selects RX8 yX8_recall yX8_recall : Cond) ∈ TW := twp 40 (by decide +kernel) (by decide +kernel)
theorem tw_41 : (Cond.selects RX8 yX8_shiftCells yX8_shiftCells : Cond) ∈ TW := twp 41 (by decide +kernel) (by decide +kernel)
theorem tw_42 : (Cond.selects RX8 yX8_control yX8_control : Cond) ∈ TW := twp 42 (by decide +kernel) (by decide +kernel)
theorem tw_43 : (Cond.selects RX8 yX8_letterByte yX8_letterByte : Cond) ∈ TW := twp 43 (by decide +kernel) (by decide +kernel)
theorem tw_44 : (Cond.selects RX8 yX8_sequenceByte yX8_sequenceByte : Cond) ∈ TW := twp 44 (by decide +kernel) (by decide +kernel)
theorem tw_45 : (Cond.selects RX8 yX8_escape yX8_escape : Cond) ∈ TW := twp 45 (by decide +kernel) (by decide +kernel)
theorem tw_46 : (Cond.selects RX8 yX8_bring yX8_bring : Cond) ∈ TW := twp 46 (by decide +kernel) (by decide +kernel)
theorem tw_47 : (Cond.selects RX8 yX8_backing yX8_backing : Cond) ∈ TW := twp 47 (by decide +kernel) (by decide +kernel)
theorem tw_48 : (Cond.selects RX8 yX8_sequence yX8_sequence : Cond) ∈ TW := twp 48 (by decide +kernel) (by decide +kernel)
theorem tw_49 : (Cond.selects RX8 yX8_privately yX8_privately : Cond) ∈ TW := twp 49 (by decide +kernel) (by decide +kernel)
theorem tw_50 : (Cond.selects RX8 yX8_kept yX8_kept : Cond) ∈ TW := twp 50 (by decide +kernel) (by decide +kernel)
theorem tw_51 : (Cond.selects RX8 yX8_home yX8_home : Cond) ∈ TW := twp 51 (by decide +kernel) (by decide +kernel)
theorem tw_52 : (Cond.selects RX8 yX8_clear yX8_clear : Cond) ∈ TW := twp 52 (by decide +kernel) (by decide +kernel)
theorem tw_53 : (Cond.selects RX8 yX8_doIt yX8_doIt : Cond) ∈ TW := twp 53 (by decide +kernel) (by decide +kernel)
theorem tw_54 : (Cond.selects RX8 yX8_above yX8_above : Cond) ∈ TW := twp 54 (by decide +kernel) (by decide +kernel)
theorem tw_55 : (Cond.selects RX8 yX8_below yX8_below : Cond) ∈ TW := twp 55 (by decide +kernel) (by decide +kernel)
theorem tw_56 : (Cond.selects RX8 yX8_change yX8_change : Cond) ∈ TW := twp 56 (by decide +kernel) (by decide +kernel)
theorem tw_57 : (Cond.selects RX8 yX8_set yX8_set : Cond) ∈ TW := twp 57 (by decide +kernel) (by decide +kernel)
theorem tw_58 : (Cond.selects RX8 yX8_dip yX8_dip : Cond) ∈ TW := twp 58 (by decide +kernel) (by decide +kernel)
theorem tw_59 : (Cond.selects RX8 yX8_answer yX8_answer : Cond) ∈ TW := twp 59 (by decide +kernel) (by decide +kernel)
theorem tw_60 : (Cond.selects RX8 yX8_put yX8_put : Cond) ∈ TW := twp 60 (by decide +kernel) (by decide +kernel)
theorem tw_61 : (Cond.selects RX8 yX8_titleByte yX8_titleByte : Cond) ∈ TW := twp 61 (by decide +kernel) (by decide +kernel)
theorem tw_62 : (Cond.selects RX8 yX8_isCell yX8_isCell : Cond) ∈ TW := twp 62 (by decide +kernel) (by decide +kernel)
theorem tw_63 : (Cond.initialized RL : Cond) ∈ TW := twq1 (List.mem_of_getElem? (i := 0) rfl) rfl
theorem tw_64 : (Cond.initialized RX7 : Cond) ∈ TW := twq1 (List.mem_of_getElem? (i := 1) rfl) rfl
theorem tw_65 : (Cond.initialized RX5 : Cond) ∈ TW := twq1 (List.mem_of_getElem? (i := 2) rfl) rfl
theorem tw_66 : (Cond.initialized RX3 : Cond) ∈ TW := twq1 (List.mem_of_getElem? (i := 3) rfl) rfl
theorem tw_67 : (Cond.initialized RX0 : Cond) ∈ TW := twq1 (List.mem_of_getElem? (i := 4) rfl) rfl
theorem tw_68 : (Cond.initialized RX1 : Cond) ∈ TW := twq1 (List.mem_of_getElem? (i := 5) rfl) rfl
theorem tw_69 : (Cond.initialized RX2 : Cond) ∈ TW := twq1 (List.mem_of_getElem? (i := 6) rfl) rfl
theorem tw_70 : (Cond.initialized RX6 : Cond) ∈ TW := twq1 (List.mem_of_getElem? (i := 7) rfl) rfl
theorem tw_71 : (Cond.initialized RX4 : Cond) ∈ TW := twq1 (List.mem_of_getElem? (i := 8) rfl) rfl
theorem tw_72 : (Cond.initialized RX8 : Cond) ∈ TW := twq1 (List.mem_of_getElem? (i := 9) rfl) rfl
theorem tw_73 : (Cond.initialized RJ9 : Cond) ∈ TW := twq1 (List.mem_of_getElem? (i := 10) rfl) rfl
theorem tw_74 : (Cond.initialized "java/lang/Throwable" : Cond) ∈ TW := twq1 (List.mem_of_getElem? (i := 11) rfl) rfl
theorem tw_75 : (Cond.initialized "java/lang/Exception" : Cond) ∈ TW := twq1 (List.mem_of_getElem? (i := 12) rfl) rfl
theorem tw_76 : (Cond.initialized "java/lang/RuntimeException" : Cond) ∈ TW := twq1 (List.mem_of_getElem? (i := 13) rfl) rfl
theorem tw_77 : (Cond.initialized "java/lang/IndexOutOfBoundsException" : Cond) ∈ TW := twq1 (List.mem_of_getElem? (i := 14) rfl) rfl
theorem tw_78 : (Cond.initialized "java/util/NoSuchElementException" : Cond) ∈ TW := twq1 (List.mem_of_getElem? (i := 15) rfl) rfl
theorem tw_79 : (Cond.classLink RL 8 RX7 : Cond) ∈ TW := twq1 (List.mem_of_getElem? (i := 16) rfl) rfl
theorem tw_80 : (Cond.instantiable RX7 7 : Cond) ∈ TW := twq1 (List.mem_of_getElem? (i := 17) rfl) rfl
theorem tw_81 : (Cond.methodLink RL 24 yX7_init : Cond) ∈ TW := twq1 (List.mem_of_getElem? (i := 18) rfl) rfl
theorem tw_82 : (Cond.instanceMethod yX7_init : Cond) ∈ TW := twq1 (List.mem_of_getElem? (i := 19) rfl) rfl
theorem tw_83 : (Cond.code yX7_init cX7_init 1 none : Cond) ∈ TW := twq1 (List.mem_of_getElem? (i := 20) rfl) rfl
theorem tw_84 : (Cond.methodLink RX7 3 objectInit : Cond) ∈ TW := twq1 (List.mem_of_getElem? (i := 21) rfl) rfl
theorem tw_85 : (Cond.instanceMethod objectInit : Cond) ∈ TW := twq1 (List.mem_of_getElem? (i := 22) rfl) rfl
theorem tw_86 : (Cond.code objectInit ⟨#[0xb1]⟩ 1 none : Cond) ∈ TW := twq1 (List.mem_of_getElem? (i := 23) rfl) rfl
theorem tw_87 : (Cond.classLink RX7 9 RX5 : Cond) ∈ TW := twq1 (List.mem_of_getElem? (i := 24) rfl) rfl
theorem tw_88 : (Cond.instantiable RX5 12 : Cond) ∈ TW := twq1 (List.mem_of_getElem? (i := 25) rfl) rfl
theorem tw_90 : (Cond.instanceMethod yX5_init : Cond) ∈ TW := twq1 (List.mem_of_getElem? (i := 27) rfl) rfl
theorem tw_91 : (Cond.code yX5_init cX5_init 1 none : Cond) ∈ TW := twq1 (List.mem_of_getElem? (i := 28) rfl) rfl
theorem tw_92 : (Cond.methodLink RX5 3 objectInit : Cond) ∈ TW := twq1 (List.mem_of_getElem? (i := 29) rfl) rfl
theorem tw_93 : (Cond.classLink RX5 9 RX3 : Cond) ∈ TW := twq1 (List.mem_of_getElem? (i := 30) rfl) rfl
theorem tw_94 : (Cond.instantiable RX3 2 : Cond) ∈ TW := twq1 (List.mem_of_getElem? (i := 31) rfl) rfl
theorem tw_96 : (Cond.instanceMethod yX3_init : Cond) ∈ TW := twq1 (List.mem_of_getElem? (i := 33) rfl) rfl
theorem tw_97 : (Cond.code yX3_init cX3_init 1 none : Cond) ∈ TW := twq1 (List.mem_of_getElem? (i := 34) rfl) rfl
theorem tw_98 : (Cond.methodLink RX3 3 objectInit : Cond) ∈ TW := twq1 (List.mem_of_getElem? (i := 35) rfl) rfl
theorem tw_99 : (Cond.fieldLink RX3 9 "ScreenDesk$Page" "codes" "[I" : Cond) ∈ TW := twq1 (List.mem_of_getElem? (i := 36) rfl) rfl
theorem tw_100 : (Cond.fieldLink RX7 113 "ScreenDesk$Page" "codes" "[I" : Cond) ∈ TW := twq1 (List.mem_of_getElem? (i := 37) rfl) rfl
theorem tw_101 : (Cond.fieldLink RX3 15 "ScreenDesk$Page" "looks" "[I" : Cond) ∈ TW := twq1 (List.mem_of_getElem? (i := 38) rfl) rfl
theorem tw_102 : (Cond.fieldLink RX7 119 "ScreenDesk$Page" "looks" "[I" : Cond) ∈ TW := twq1 (List.mem_of_getElem? (i := 39) rfl) rfl
theorem tw_108 : (Cond.arrayClass .int : Cond) ∈ TW := twq1 (List.mem_of_getElem? (i := 45) rfl) rfl
theorem tw_109 : (Cond.classLink RX5 21 RX0 : Cond) ∈ TW := twq1 (List.mem_of_getElem? (i := 46) rfl) rfl
theorem tw_110 : (Cond.instantiable RX0 5 : Cond) ∈ TW := twq1 (List.mem_of_getElem? (i := 47) rfl) rfl
theorem tw_112 : (Cond.instanceMethod yX0_init : Cond) ∈ TW := twq1 (List.mem_of_getElem? (i := 49) rfl) rfl
theorem tw_113 : (Cond.code yX0_init cX0_init 1 none : Cond) ∈ TW := twq1 (List.mem_of_getElem? (i := 50) rfl) rfl
theorem tw_114 : (Cond.methodLink RX0 3 objectInit : Cond) ∈ TW := twq1 (List.mem_of_getElem? (i := 51) rfl) rfl
theorem tw_115 : (Cond.fieldLink RX0 23 "ScreenDesk$Cursor" "row" "I" : Cond) ∈ TW := twq1 (List.mem_of_getElem? (i := 52) rfl) rfl
theorem tw_116 : (Cond.fieldLink RX7 62 "ScreenDesk$Cursor" "row" "I" : Cond) ∈ TW := twq1 (List.mem_of_getElem? (i := 53) rfl) rfl
theorem tw_117 : (Cond.fieldLink RX5 108 "ScreenDesk$Cursor" "row" "I" : Cond) ∈ TW := twq1 (List.mem_of_getElem? (i := 54) rfl) rfl
theorem tw_118 : (Cond.fieldLink RX0 26 "ScreenDesk$Cursor" "column" "I" : Cond) ∈ TW := twq1 (List.mem_of_getElem? (i := 55) rfl) rfl
theorem tw_119 : (Cond.fieldLink RX7 67 "ScreenDesk$Cursor" "column" "I" : Cond) ∈ TW := twq1 (List.mem_of_getElem? (i := 56) rfl) rfl
theorem tw_120 : (Cond.fieldLink RX5 71 "ScreenDesk$Cursor" "column" "I" : Cond) ∈ TW := twq1 (List.mem_of_getElem? (i := 57) rfl) rfl
theorem tw_121 : (Cond.fieldLink RX0 29 "ScreenDesk$Cursor" "full" "Z" : Cond) ∈ TW := twq1 (List.mem_of_getElem? (i := 58) rfl) rfl
theorem tw_122 : (Cond.fieldLink RX5 68 "ScreenDesk$Cursor" "full" "Z" : Cond) ∈ TW := twq1 (List.mem_of_getElem? (i := 59) rfl) rfl
theorem tw_123 : (Cond.fieldLink RX7 70 "ScreenDesk$Cursor" "full" "Z" : Cond) ∈ TW := twq1 (List.mem_of_getElem? (i := 60) rfl) rfl
theorem tw_124 : (Cond.fieldLink RX0 15 "ScreenDesk$Cursor" "pen" "I" : Cond) ∈ TW := twq1 (List.mem_of_getElem? (i := 61) rfl) rfl
theorem tw_125 : (Cond.fieldLink RX5 92 "ScreenDesk$Cursor" "pen" "I" : Cond) ∈ TW := twq1 (List.mem_of_getElem? (i := 62) rfl) rfl
theorem tw_126 : (Cond.fieldLink RX7 74 "ScreenDesk$Cursor" "pen" "I" : Cond) ∈ TW := twq1 (List.mem_of_getElem? (i := 63) rfl) rfl
theorem tw_127 : (Cond.fieldLink RX0 19 "ScreenDesk$Cursor" "origin" "Z" : Cond) ∈ TW := twq1 (List.mem_of_getElem? (i := 64) rfl) rfl
theorem tw_128 : (Cond.fieldLink RX7 80 "ScreenDesk$Cursor" "origin" "Z" : Cond) ∈ TW := twq1 (List.mem_of_getElem? (i := 65) rfl) rfl
theorem tw_129 : (Cond.fieldLink RX5 139 "ScreenDesk$Cursor" "origin" "Z" : Cond) ∈ TW := twq1 (List.mem_of_getElem? (i := 66) rfl) rfl
theorem tw_141 : (Cond.fieldLink RX5 12 "ScreenDesk$Screen" "firstPage" "LScreenDesk$Page;" : Cond) ∈ TW := twq1 (List.mem_of_getElem? (i := 78) rfl) rfl
theorem tw_142 : (Cond.fieldLink RX5 18 "ScreenDesk$Screen" "secondPage" "LScreenDesk$Page;" : Cond) ∈ TW := twq1 (List.mem_of_getElem? (i := 79) rfl) rfl
theorem tw_143 : (Cond.fieldLink RX5 24 "ScreenDesk$Screen" "cursor" "LScreenDesk$Cursor;" : Cond) ∈ TW := twq1 (List.mem_of_getElem? (i := 80) rfl) rfl
theorem tw_144 : (Cond.fieldLink RX7 58 "ScreenDesk$Screen" "cursor" "LScreenDesk$Cursor;" : Cond) ∈ TW := twq1 (List.mem_of_getElem? (i := 81) rfl) rfl
theorem tw_145 : (Cond.fieldLink RX5 28 "ScreenDesk$Screen" "saved" "LScreenDesk$Cursor;" : Cond) ∈ TW := twq1 (List.mem_of_getElem? (i := 82) rfl) rfl
theorem tw_146 : (Cond.fieldLink RX5 38 "ScreenDesk$Screen" "top" "I" : Cond) ∈ TW := twq1 (List.mem_of_getElem? (i := 83) rfl) rfl
theorem tw_147 : (Cond.fieldLink RX7 89 "ScreenDesk$Screen" "top" "I" : Cond) ∈ TW := twq1 (List.mem_of_getElem? (i := 84) rfl) rfl
theorem tw_148 : (Cond.fieldLink RX5 42 "ScreenDesk$Screen" "bottom" "I" : Cond) ∈ TW := twq1 (List.mem_of_getElem? (i := 85) rfl) rfl
theorem tw_149 : (Cond.fieldLink RX7 92 "ScreenDesk$Screen" "bottom" "I" : Cond) ∈ TW := twq1 (List.mem_of_getElem? (i := 86) rfl) rfl
theorem tw_150 : (Cond.fieldLink RX5 45 "ScreenDesk$Screen" "tabStops" "I" : Cond) ∈ TW := twq1 (List.mem_of_getElem? (i := 87) rfl) rfl
theorem tw_151 : (Cond.fieldLink RX5 48 "ScreenDesk$Screen" "insert" "Z" : Cond) ∈ TW := twq1 (List.mem_of_getElem? (i := 88) rfl) rfl
theorem tw_152 : (Cond.fieldLink RX7 77 "ScreenDesk$Screen" "insert" "Z" : Cond) ∈ TW := twq1 (List.mem_of_getElem? (i := 89) rfl) rfl
theorem tw_153 : (Cond.fieldLink RX5 52 "ScreenDesk$Screen" "wrap" "Z" : Cond) ∈ TW := twq1 (List.mem_of_getElem? (i := 90) rfl) rfl
theorem tw_154 : (Cond.fieldLink RX7 83 "ScreenDesk$Screen" "wrap" "Z" : Cond) ∈ TW := twq1 (List.mem_of_getElem? (i := 91) rfl) rfl
theorem tw_155 : (Cond.fieldLink RX5 55 "ScreenDesk$Screen" "secondShown" "Z" : Cond) ∈ TW := twq1 (List.mem_of_getElem? (i := 92) rfl) rfl
theorem tw_156 : (Cond.fieldLink RX7 86 "ScreenDesk$Screen" "secondShown" "Z" : Cond) ∈ TW := twq1 (List.mem_of_getElem? (i := 93) rfl) rfl
theorem tw_157 : (Cond.fieldLink RX5 58 "ScreenDesk$Screen" "bellsRung" "I" : Cond) ∈ TW := twq1 (List.mem_of_getElem? (i := 94) rfl) rfl
theorem tw_158 : (Cond.fieldLink RX7 99 "ScreenDesk$Screen" "bellsRung" "I" : Cond) ∈ TW := twq1 (List.mem_of_getElem? (i := 95) rfl) rfl
theorem tw_159 : (Cond.fieldLink RX5 61 "ScreenDesk$Screen" "lastCode" "I" : Cond) ∈ TW := twq1 (List.mem_of_getElem? (i := 96) rfl) rfl
theorem tw_185 : (Cond.classLink RX7 16 RX1 : Cond) ∈ TW := twq1 (List.mem_of_getElem? (i := 122) rfl) rfl
theorem tw_186 : (Cond.instantiable RX1 3 : Cond) ∈ TW := twq1 (List.mem_of_getElem? (i := 123) rfl) rfl
theorem tw_188 : (Cond.instanceMethod yX1_init : Cond) ∈ TW := twq1 (List.mem_of_getElem? (i := 125) rfl) rfl
theorem tw_189 : (Cond.code yX1_init cX1_init 1 none : Cond) ∈ TW := twq1 (List.mem_of_getElem? (i := 126) rfl) rfl
theorem tw_190 : (Cond.methodLink RX1 3 objectInit : Cond) ∈ TW := twq1 (List.mem_of_getElem? (i := 127) rfl) rfl
theorem tw_191 : (Cond.fieldLink RX1 9 "ScreenDesk$Letter" "missing" "I" : Cond) ∈ TW := twq1 (List.mem_of_getElem? (i := 128) rfl) rfl
theorem tw_192 : (Cond.fieldLink RX7 151 "ScreenDesk$Letter" "missing" "I" : Cond) ∈ TW := twq1 (List.mem_of_getElem? (i := 129) rfl) rfl
theorem tw_193 : (Cond.fieldLink RX1 20 "ScreenDesk$Letter" "bits" "I" : Cond) ∈ TW := twq1 (List.mem_of_getElem? (i := 130) rfl) rfl
theorem tw_194 : (Cond.fieldLink RX1 23 "ScreenDesk$Letter" "least" "I" : Cond) ∈ TW := twq1 (List.mem_of_getElem? (i := 131) rfl) rfl
theorem tw_202 : (Cond.classLink RX7 23 RX2 : Cond) ∈ TW := twq1 (List.mem_of_getElem? (i := 139) rfl) rfl
theorem tw_203 : (Cond.instantiable RX2 3 : Cond) ∈ TW := twq1 (List.mem_of_getElem? (i := 140) rfl) rfl
theorem tw_205 : (Cond.instanceMethod yX2_init : Cond) ∈ TW := twq1 (List.mem_of_getElem? (i := 142) rfl) rfl
theorem tw_206 : (Cond.code yX2_init cX2_init 1 none : Cond) ∈ TW := twq1 (List.mem_of_getElem? (i := 143) rfl) rfl
theorem tw_207 : (Cond.methodLink RX2 3 objectInit : Cond) ∈ TW := twq1 (List.mem_of_getElem? (i := 144) rfl) rfl
theorem tw_208 : (Cond.fieldLink RX2 9 "ScreenDesk$Numbers" "values" "[I" : Cond) ∈ TW := twq1 (List.mem_of_getElem? (i := 145) rfl) rfl
theorem tw_209 : (Cond.fieldLink RX2 15 "ScreenDesk$Numbers" "begun" "I" : Cond) ∈ TW := twq1 (List.mem_of_getElem? (i := 146) rfl) rfl
theorem tw_210 : (Cond.fieldLink RX2 19 "ScreenDesk$Numbers" "secret" "Z" : Cond) ∈ TW := twq1 (List.mem_of_getElem? (i := 147) rfl) rfl
theorem tw_211 : (Cond.fieldLink RX7 221 "ScreenDesk$Numbers" "secret" "Z" : Cond) ∈ TW := twq1 (List.mem_of_getElem? (i := 148) rfl) rfl
theorem tw_219 : (Cond.classLink RX7 30 RX6 : Cond) ∈ TW := twq1 (List.mem_of_getElem? (i := 156) rfl) rfl
theorem tw_220 : (Cond.instantiable RX6 2 : Cond) ∈ TW := twq1 (List.mem_of_getElem? (i := 157) rfl) rfl
theorem tw_222 : (Cond.instanceMethod yX6_init : Cond) ∈ TW := twq1 (List.mem_of_getElem? (i := 159) rfl) rfl
theorem tw_223 : (Cond.code yX6_init cX6_init 1 none : Cond) ∈ TW := twq1 (List.mem_of_getElem? (i := 160) rfl) rfl
theorem tw_224 : (Cond.methodLink RX6 3 objectInit : Cond) ∈ TW := twq1 (List.mem_of_getElem? (i := 161) rfl) rfl
theorem tw_225 : (Cond.fieldLink RX6 9 "ScreenDesk$Text" "characters" "[I" : Cond) ∈ TW := twq1 (List.mem_of_getElem? (i := 162) rfl) rfl
theorem tw_226 : (Cond.fieldLink RX6 15 "ScreenDesk$Text" "length" "I" : Cond) ∈ TW := twq1 (List.mem_of_getElem? (i := 163) rfl) rfl
theorem tw_232 : (Cond.classLink RX7 40 RX4 : Cond) ∈ TW := twq1 (List.mem_of_getElem? (i := 169) rfl) rfl
theorem tw_233 : (Cond.instantiable RX4 2 : Cond) ∈ TW := twq1 (List.mem_of_getElem? (i := 170) rfl) rfl
theorem tw_235 : (Cond.instanceMethod yX4_init : Cond) ∈ TW := twq1 (List.mem_of_getElem? (i := 172) rfl) rfl
theorem tw_236 : (Cond.code yX4_init cX4_init 1 none : Cond) ∈ TW := twq1 (List.mem_of_getElem? (i := 173) rfl) rfl
theorem tw_237 : (Cond.methodLink RX4 3 objectInit : Cond) ∈ TW := twq1 (List.mem_of_getElem? (i := 174) rfl) rfl
theorem tw_238 : (Cond.fieldLink RX4 9 "ScreenDesk$Replies" "bytes" "[I" : Cond) ∈ TW := twq1 (List.mem_of_getElem? (i := 175) rfl) rfl
theorem tw_239 : (Cond.fieldLink RX4 15 "ScreenDesk$Replies" "held" "I" : Cond) ∈ TW := twq1 (List.mem_of_getElem? (i := 176) rfl) rfl
theorem tw_240 : (Cond.fieldLink RX7 126 "ScreenDesk$Replies" "held" "I" : Cond) ∈ TW := twq1 (List.mem_of_getElem? (i := 177) rfl) rfl
theorem tw_246 : (Cond.methodLink RX7 51 yX7_reset : Cond) ∈ TW := twq1 (List.mem_of_getElem? (i := 183) rfl) rfl
theorem tw_248 : (Cond.instanceMethod yX7_reset : Cond) ∈ TW := twq1 (List.mem_of_getElem? (i := 185) rfl) rfl
theorem tw_249 : (Cond.code yX7_reset cX7_reset 1 none : Cond) ∈ TW := twq1 (List.mem_of_getElem? (i := 186) rfl) rfl
theorem tw_250 : (Cond.methodLink RX7 140 yX5_reset : Cond) ∈ TW := twq1 (List.mem_of_getElem? (i := 187) rfl) rfl
theorem tw_251 : (Cond.instanceMethod yX5_reset : Cond) ∈ TW := twq1 (List.mem_of_getElem? (i := 188) rfl) rfl
theorem tw_252 : (Cond.selects RX5 yX5_reset yX5_reset : Cond) ∈ TW := twq1 (List.mem_of_getElem? (i := 189) rfl) rfl
theorem tw_253 : (Cond.code yX5_reset cX5_reset 1 none : Cond) ∈ TW := twq1 (List.mem_of_getElem? (i := 190) rfl) rfl
theorem tw_254 : (Cond.methodLink RX5 31 yX3_clear : Cond) ∈ TW := twq1 (List.mem_of_getElem? (i := 191) rfl) rfl
theorem tw_255 : (Cond.instanceMethod yX3_clear : Cond) ∈ TW := twq1 (List.mem_of_getElem? (i := 192) rfl) rfl
theorem tw_256 : (Cond.selects RX3 yX3_clear yX3_clear : Cond) ∈ TW := twq1 (List.mem_of_getElem? (i := 193) rfl) rfl
theorem tw_257 : (Cond.code yX3_clear cX3_clear 4 none : Cond) ∈ TW := twq1 (List.mem_of_getElem? (i := 194) rfl) rfl
theorem tw_258 : (Cond.methodLink RX5 35 yX0_reset : Cond) ∈ TW := twq1 (List.mem_of_getElem? (i := 195) rfl) rfl
theorem tw_259 : (Cond.instanceMethod yX0_reset : Cond) ∈ TW := twq1 (List.mem_of_getElem? (i := 196) rfl) rfl
theorem tw_260 : (Cond.selects RX0 yX0_reset yX0_reset : Cond) ∈ TW := twq1 (List.mem_of_getElem? (i := 197) rfl) rfl
theorem tw_261 : (Cond.code yX0_reset cX0_reset 1 none : Cond) ∈ TW := twq1 (List.mem_of_getElem? (i := 198) rfl) rfl
theorem tw_262 : (Cond.methodLink RX0 9 yX0_place : Cond) ∈ TW := twq1 (List.mem_of_getElem? (i := 199) rfl) rfl
theorem tw_263 : (Cond.instanceMethod yX0_place : Cond) ∈ TW := twq1 (List.mem_of_getElem? (i := 200) rfl) rfl
theorem tw_264 : (Cond.selects RX0 yX0_place yX0_place : Cond) ∈ TW := twq1 (List.mem_of_getElem? (i := 201) rfl) rfl
theorem tw_265 : (Cond.code yX0_place cX0_place 3 none : Cond) ∈ TW := twq1 (List.mem_of_getElem? (i := 202) rfl) rfl
theorem tw_266 : (Cond.methodLink RX7 141 yX1_drop : Cond) ∈ TW := twq1 (List.mem_of_getElem? (i := 203) rfl) rfl
theorem tw_267 : (Cond.instanceMethod yX1_drop : Cond) ∈ TW := twq1 (List.mem_of_getElem? (i := 204) rfl) rfl
theorem tw_268 : (Cond.selects RX1 yX1_drop yX1_drop : Cond) ∈ TW := twq1 (List.mem_of_getElem? (i := 205) rfl) rfl
theorem tw_269 : (Cond.code yX1_drop cX1_drop 1 none : Cond) ∈ TW := twq1 (List.mem_of_getElem? (i := 206) rfl) rfl
theorem tw_270 : (Cond.methodLink RX7 144 yX2_begin : Cond) ∈ TW := twq1 (List.mem_of_getElem? (i := 207) rfl) rfl
theorem tw_271 : (Cond.instanceMethod yX2_begin : Cond) ∈ TW := twq1 (List.mem_of_getElem? (i := 208) rfl) rfl
theorem tw_272 : (Cond.selects RX2 yX2_begin yX2_begin : Cond) ∈ TW := twq1 (List.mem_of_getElem? (i := 209) rfl) rfl
theorem tw_273 : (Cond.code yX2_begin cX2_begin 2 none : Cond) ∈ TW := twq1 (List.mem_of_getElem? (i := 210) rfl) rfl
theorem tw_274 : (Cond.methodLink RX7 147 yX6_clear : Cond) ∈ TW := twq1 (List.mem_of_getElem? (i := 211) rfl) rfl
theorem tw_275 : (Cond.instanceMethod yX6_clear : Cond) ∈ TW := twq1 (List.mem_of_getElem? (i := 212) rfl) rfl
theorem tw_276 : (Cond.selects RX6 yX6_clear yX6_clear : Cond) ∈ TW := twq1 (List.mem_of_getElem? (i := 213) rfl) rfl
theorem tw_277 : (Cond.code yX6_clear cX6_clear 1 none : Cond) ∈ TW := twq1 (List.mem_of_getElem? (i := 214) rfl) rfl
theorem tw_278 : (Cond.methodLink RX7 150 yX4_clear : Cond) ∈ TW := twq1 (List.mem_of_getElem? (i := 215) rfl) rfl
theorem tw_279 : (Cond.instanceMethod yX4_clear : Cond) ∈ TW := twq1 (List.mem_of_getElem? (i := 216) rfl) rfl
theorem tw_280 : (Cond.selects RX4 yX4_clear yX4_clear : Cond) ∈ TW := twq1 (List.mem_of_getElem? (i := 217) rfl) rfl
theorem tw_281 : (Cond.code yX4_clear cX4_clear 1 none : Cond) ∈ TW := twq1 (List.mem_of_getElem? (i := 218) rfl) rfl
theorem tw_282 : (Cond.fieldLink RX7 12 "ScreenDesk" "screen" "LScreenDesk$Screen;" : Cond) ∈ TW := twq1 (List.mem_of_getElem? (i := 219) rfl) rfl
theorem tw_283 : (Cond.fieldLink RX7 19 "ScreenDesk" "letter" "LScreenDesk$Letter;" : Cond) ∈ TW := twq1 (List.mem_of_getElem? (i := 220) rfl) rfl
theorem tw_284 : (Cond.fieldLink RX7 26 "ScreenDesk" "numbers" "LScreenDesk$Numbers;" : Cond) ∈ TW := twq1 (List.mem_of_getElem? (i := 221) rfl) rfl
theorem tw_285 : (Cond.fieldLink RX7 33 "ScreenDesk" "name" "LScreenDesk$Text;" : Cond) ∈ TW := twq1 (List.mem_of_getElem? (i := 222) rfl) rfl
theorem tw_286 : (Cond.fieldLink RX7 37 "ScreenDesk" "collected" "LScreenDesk$Text;" : Cond) ∈ TW := twq1 (List.mem_of_getElem? (i := 223) rfl) rfl
theorem tw_287 : (Cond.fieldLink RX7 43 "ScreenDesk" "replies" "LScreenDesk$Replies;" : Cond) ∈ TW := twq1 (List.mem_of_getElem? (i := 224) rfl) rfl
theorem tw_288 : (Cond.fieldLink RX7 47 "ScreenDesk" "stage" "I" : Cond) ∈ TW := twq1 (List.mem_of_getElem? (i := 225) rfl) rfl
theorem tw_304 : (Cond.methodLink RL 28 yX7_feed : Cond) ∈ TW := twq2 (List.mem_of_getElem? (i := 1) rfl) rfl
theorem tw_305 : (Cond.instanceMethod yX7_feed : Cond) ∈ TW := twq2 (List.mem_of_getElem? (i := 2) rfl) rfl
theorem tw_306 : (Cond.selects RX7 yX7_feed yX7_feed : Cond) ∈ TW := twq2 (List.mem_of_getElem? (i := 3) rfl) rfl
theorem tw_307 : (Cond.code yX7_feed cX7_feed 2 (some .boolean) : Cond) ∈ TW := twq2 (List.mem_of_getElem? (i := 4) rfl) rfl
theorem tw_308 : (Cond.methodLink RX7 54 yX7_take : Cond) ∈ TW := twq2 (List.mem_of_getElem? (i := 5) rfl) rfl
theorem tw_310 : (Cond.instanceMethod yX7_take : Cond) ∈ TW := twq2 (List.mem_of_getElem? (i := 7) rfl) rfl
theorem tw_311 : (Cond.code yX7_take cX7_take 2 none : Cond) ∈ TW := twq2 (List.mem_of_getElem? (i := 8) rfl) rfl
theorem tw_312 : (Cond.methodLink RX7 154 yX7_takeFurther : Cond) ∈ TW := twq2 (List.mem_of_getElem? (i := 9) rfl) rfl
theorem tw_314 : (Cond.instanceMethod yX7_takeFurther : Cond) ∈ TW := twq2 (List.mem_of_getElem? (i := 11) rfl) rfl
theorem tw_315 : (Cond.code yX7_takeFurther cX7_takeFurther 2 none : Cond) ∈ TW := twq2 (List.mem_of_getElem? (i := 12) rfl) rfl
theorem tw_316 : (Cond.methodLink RX7 179 yX1_add : Cond) ∈ TW := twq2 (List.mem_of_getElem? (i := 13) rfl) rfl
theorem tw_317 : (Cond.instanceMethod yX1_add : Cond) ∈ TW := twq2 (List.mem_of_getElem? (i := 14) rfl) rfl
theorem tw_318 : (Cond.selects RX1 yX1_add yX1_add : Cond) ∈ TW := twq2 (List.mem_of_getElem? (i := 15) rfl) rfl
theorem tw_319 : (Cond.code yX1_add cX1_add 2 none : Cond) ∈ TW := twq2 (List.mem_of_getElem? (i := 16) rfl) rfl
theorem tw_320 : (Cond.methodLink RX7 182 yX1_whole : Cond) ∈ TW := twq2 (List.mem_of_getElem? (i := 17) rfl) rfl
theorem tw_321 : (Cond.instanceMethod yX1_whole : Cond) ∈ TW := twq2 (List.mem_of_getElem? (i := 18) rfl) rfl
theorem tw_322 : (Cond.selects RX1 yX1_whole yX1_whole : Cond) ∈ TW := twq2 (List.mem_of_getElem? (i := 19) rfl) rfl
theorem tw_323 : (Cond.code yX1_whole cX1_whole 2 (some .int) : Cond) ∈ TW := twq2 (List.mem_of_getElem? (i := 20) rfl) rfl
theorem tw_324 : (Cond.constant RX1 26 (55296) : Cond) ∈ TW := twq2 (List.mem_of_getElem? (i := 21) rfl) rfl
theorem tw_325 : (Cond.constant RX1 27 (57343) : Cond) ∈ TW := twq2 (List.mem_of_getElem? (i := 22) rfl) rfl
theorem tw_326 : (Cond.constant RX1 28 (1114111) : Cond) ∈ TW := twq2 (List.mem_of_getElem? (i := 23) rfl) rfl
theorem tw_327 : (Cond.constant RX1 29 (65533) : Cond) ∈ TW := twq2 (List.mem_of_getElem? (i := 24) rfl) rfl
theorem tw_328 : (Cond.methodLink RX7 158 yX5_print : Cond) ∈ TW := twq2 (List.mem_of_getElem? (i := 25) rfl) rfl
theorem tw_329 : (Cond.instanceMethod yX5_print : Cond) ∈ TW := twq2 (List.mem_of_getElem? (i := 26) rfl) rfl
theorem tw_330 : (Cond.selects RX5 yX5_print yX5_print : Cond) ∈ TW := twq2 (List.mem_of_getElem? (i := 27) rfl) rfl
theorem tw_331 : (Cond.code yX5_print cX5_print 2 none : Cond) ∈ TW := twq2 (List.mem_of_getElem? (i := 28) rfl) rfl
theorem tw_332 : (Cond.methodLink RX5 74 yX5_feedRow : Cond) ∈ TW := twq2 (List.mem_of_getElem? (i := 29) rfl) rfl
theorem tw_333 : (Cond.instanceMethod yX5_feedRow : Cond) ∈ TW := twq2 (List.mem_of_getElem? (i := 30) rfl) rfl
theorem tw_334 : (Cond.selects RX5 yX5_feedRow yX5_feedRow : Cond) ∈ TW := twq2 (List.mem_of_getElem? (i := 31) rfl) rfl
theorem tw_335 : (Cond.code yX5_feedRow cX5_feedRow 1 none : Cond) ∈ TW := twq2 (List.mem_of_getElem? (i := 32) rfl) rfl
theorem tw_336 : (Cond.methodLink RX5 77 yX5_page : Cond) ∈ TW := twq2 (List.mem_of_getElem? (i := 33) rfl) rfl
theorem tw_337 : (Cond.instanceMethod yX5_page : Cond) ∈ TW := twq2 (List.mem_of_getElem? (i := 34) rfl) rfl
theorem tw_338 : (Cond.selects RX5 yX5_page yX5_page : Cond) ∈ TW := twq2 (List.mem_of_getElem? (i := 35) rfl) rfl
theorem tw_339 : (Cond.code yX5_page cX5_page 1 (some (.object "ScreenDesk$Page")) : Cond) ∈ TW := twq2 (List.mem_of_getElem? (i := 36) rfl) rfl
theorem tw_340 : (Cond.methodLink RX5 111 yX5_regionStart : Cond) ∈ TW := twq2 (List.mem_of_getElem? (i := 37) rfl) rfl
theorem tw_342 : (Cond.instanceMethod yX5_regionStart : Cond) ∈ TW := twq2 (List.mem_of_getElem? (i := 39) rfl) rfl
theorem tw_343 : (Cond.code yX5_regionStart cX5_regionStart 1 (some .int) : Cond) ∈ TW := twq2 (List.mem_of_getElem? (i := 40) rfl) rfl
theorem tw_344 : (Cond.methodLink RX5 114 yX5_regionEnd : Cond) ∈ TW := twq2 (List.mem_of_getElem? (i := 41) rfl) rfl
theorem tw_346 : (Cond.instanceMethod yX5_regionEnd : Cond) ∈ TW := twq2 (List.mem_of_getElem? (i := 43) rfl) rfl
theorem tw_347 : (Cond.code yX5_regionEnd cX5_regionEnd 1 (some .int) : Cond) ∈ TW := twq2 (List.mem_of_getElem? (i := 44) rfl) rfl
theorem tw_348 : (Cond.methodLink RX5 117 yX3_pull : Cond) ∈ TW := twq2 (List.mem_of_getElem? (i := 45) rfl) rfl
theorem tw_349 : (Cond.instanceMethod yX3_pull : Cond) ∈ TW := twq2 (List.mem_of_getElem? (i := 46) rfl) rfl
theorem tw_350 : (Cond.selects RX3 yX3_pull yX3_pull : Cond) ∈ TW := twq2 (List.mem_of_getElem? (i := 47) rfl) rfl
theorem tw_351 : (Cond.code yX3_pull cX3_pull 6 none : Cond) ∈ TW := twq2 (List.mem_of_getElem? (i := 48) rfl) rfl
theorem tw_352 : (Cond.methodLink RX5 81 yX5_cell : Cond) ∈ TW := twq2 (List.mem_of_getElem? (i := 49) rfl) rfl
theorem tw_354 : (Cond.instanceMethod yX5_cell : Cond) ∈ TW := twq2 (List.mem_of_getElem? (i := 51) rfl) rfl
theorem tw_355 : (Cond.code yX5_cell cX5_cell 1 (some .int) : Cond) ∈ TW := twq2 (List.mem_of_getElem? (i := 52) rfl) rfl
theorem tw_356 : (Cond.methodLink RX5 124 yX5_rowStart : Cond) ∈ TW := twq2 (List.mem_of_getElem? (i := 53) rfl) rfl
theorem tw_358 : (Cond.instanceMethod yX5_rowStart : Cond) ∈ TW := twq2 (List.mem_of_getElem? (i := 55) rfl) rfl
theorem tw_359 : (Cond.code yX5_rowStart cX5_rowStart 1 (some .int) : Cond) ∈ TW := twq2 (List.mem_of_getElem? (i := 56) rfl) rfl
theorem tw_360 : (Cond.methodLink RX5 85 yX5_rowEnd : Cond) ∈ TW := twq2 (List.mem_of_getElem? (i := 57) rfl) rfl
theorem tw_362 : (Cond.instanceMethod yX5_rowEnd : Cond) ∈ TW := twq2 (List.mem_of_getElem? (i := 59) rfl) rfl
theorem tw_363 : (Cond.code yX5_rowEnd cX5_rowEnd 1 (some .int) : Cond) ∈ TW := twq2 (List.mem_of_getElem? (i := 60) rfl) rfl
theorem tw_364 : (Cond.methodLink RX5 88 yX3_push : Cond) ∈ TW := twq2 (List.mem_of_getElem? (i := 61) rfl) rfl
theorem tw_365 : (Cond.instanceMethod yX3_push : Cond) ∈ TW := twq2 (List.mem_of_getElem? (i := 62) rfl) rfl
theorem tw_366 : (Cond.selects RX3 yX3_push yX3_push : Cond) ∈ TW := twq2 (List.mem_of_getElem? (i := 63) rfl) rfl
theorem tw_367 : (Cond.code yX3_push cX3_push 6 none : Cond) ∈ TW := twq2 (List.mem_of_getElem? (i := 64) rfl) rfl
theorem tw_368 : (Cond.methodLink RX5 95 yX3_put : Cond) ∈ TW := twq2 (List.mem_of_getElem? (i := 65) rfl) rfl
theorem tw_369 : (Cond.instanceMethod yX3_put : Cond) ∈ TW := twq2 (List.mem_of_getElem? (i := 66) rfl) rfl
theorem tw_370 : (Cond.selects RX3 yX3_put yX3_put : Cond) ∈ TW := twq2 (List.mem_of_getElem? (i := 67) rfl) rfl
theorem tw_371 : (Cond.code yX3_put cX3_put 4 none : Cond) ∈ TW := twq2 (List.mem_of_getElem? (i := 68) rfl) rfl
theorem tw_372 : (Cond.constant RX7 157 (65533) : Cond) ∈ TW := twq2 (List.mem_of_getElem? (i := 69) rfl) rfl
theorem tw_373 : (Cond.methodLink RX7 161 yX7_control : Cond) ∈ TW := twq2 (List.mem_of_getElem? (i := 70) rfl) rfl
theorem tw_375 : (Cond.instanceMethod yX7_control : Cond) ∈ TW := twq2 (List.mem_of_getElem? (i := 72) rfl) rfl
theorem tw_376 : (Cond.code yX7_control cX7_control 2 none : Cond) ∈ TW := twq2 (List.mem_of_getElem? (i := 73) rfl) rfl
theorem tw_377 : (Cond.methodLink RX7 187 yX5_moveLeft : Cond) ∈ TW := twq2 (List.mem_of_getElem? (i := 74) rfl) rfl
theorem tw_378 : (Cond.instanceMethod yX5_moveLeft : Cond) ∈ TW := twq2 (List.mem_of_getElem? (i := 75) rfl) rfl
theorem tw_379 : (Cond.selects RX5 yX5_moveLeft yX5_moveLeft : Cond) ∈ TW := twq2 (List.mem_of_getElem? (i := 76) rfl) rfl
theorem tw_380 : (Cond.code yX5_moveLeft cX5_moveLeft 2 none : Cond) ∈ TW := twq2 (List.mem_of_getElem? (i := 77) rfl) rfl
theorem tw_381 : (Cond.methodLink RX5 130 Lib.Math.max.name : Cond) ∈ TW := twq2 (List.mem_of_getElem? (i := 78) rfl) rfl
theorem tw_382 : (Cond.static Lib.Math.max.name : Cond) ∈ TW := twq2 (List.mem_of_getElem? (i := 79) rfl) rfl
theorem tw_383 : (Cond.code Lib.Math.max.name cJ9_max_7cf53 2 (some .int) : Cond) ∈ TW := twq2 (List.mem_of_getElem? (i := 80) rfl) rfl
theorem tw_384 : (Cond.methodLink RX5 136 yX5_moveToColumn : Cond) ∈ TW := twq2 (List.mem_of_getElem? (i := 81) rfl) rfl
theorem tw_385 : (Cond.instanceMethod yX5_moveToColumn : Cond) ∈ TW := twq2 (List.mem_of_getElem? (i := 82) rfl) rfl
theorem tw_386 : (Cond.selects RX5 yX5_moveToColumn yX5_moveToColumn : Cond) ∈ TW := twq2 (List.mem_of_getElem? (i := 83) rfl) rfl
theorem tw_387 : (Cond.code yX5_moveToColumn cX5_moveToColumn 2 none : Cond) ∈ TW := twq2 (List.mem_of_getElem? (i := 84) rfl) rfl
theorem tw_388 : (Cond.methodLink RX5 98 Lib.Math.min.name : Cond) ∈ TW := twq2 (List.mem_of_getElem? (i := 85) rfl) rfl
theorem tw_389 : (Cond.static Lib.Math.min.name : Cond) ∈ TW := twq2 (List.mem_of_getElem? (i := 86) rfl) rfl
theorem tw_390 : (Cond.code Lib.Math.min.name cJ9_min_7cf53 2 (some .int) : Cond) ∈ TW := twq2 (List.mem_of_getElem? (i := 87) rfl) rfl
theorem tw_391 : (Cond.methodLink RX5 133 yX0_place : Cond) ∈ TW := twq2 (List.mem_of_getElem? (i := 88) rfl) rfl
theorem tw_392 : (Cond.methodLink RX7 190 yX5_moveToTabStop : Cond) ∈ TW := twq2 (List.mem_of_getElem? (i := 89) rfl) rfl
theorem tw_393 : (Cond.instanceMethod yX5_moveToTabStop : Cond) ∈ TW := twq2 (List.mem_of_getElem? (i := 90) rfl) rfl
theorem tw_394 : (Cond.selects RX5 yX5_moveToTabStop yX5_moveToTabStop : Cond) ∈ TW := twq2 (List.mem_of_getElem? (i := 91) rfl) rfl
theorem tw_395 : (Cond.code yX5_moveToTabStop cX5_moveToTabStop 2 none : Cond) ∈ TW := twq2 (List.mem_of_getElem? (i := 92) rfl) rfl
theorem tw_396 : (Cond.methodLink RX5 142 yX5_hasTabStop : Cond) ∈ TW := twq2 (List.mem_of_getElem? (i := 93) rfl) rfl
theorem tw_397 : (Cond.instanceMethod yX5_hasTabStop : Cond) ∈ TW := twq2 (List.mem_of_getElem? (i := 94) rfl) rfl
theorem tw_398 : (Cond.selects RX5 yX5_hasTabStop yX5_hasTabStop : Cond) ∈ TW := twq2 (List.mem_of_getElem? (i := 95) rfl) rfl
theorem tw_399 : (Cond.code yX5_hasTabStop cX5_hasTabStop 2 (some .boolean) : Cond) ∈ TW := twq2 (List.mem_of_getElem? (i := 96) rfl) rfl
theorem tw_400 : (Cond.methodLink RX7 193 yX5_feedRow : Cond) ∈ TW := twq2 (List.mem_of_getElem? (i := 97) rfl) rfl
theorem tw_401 : (Cond.methodLink RX7 196 yX5_moveToColumn : Cond) ∈ TW := twq2 (List.mem_of_getElem? (i := 98) rfl) rfl
theorem tw_402 : (Cond.methodLink RX7 164 yX7_takeInGround : Cond) ∈ TW := twq2 (List.mem_of_getElem? (i := 99) rfl) rfl
theorem tw_404 : (Cond.instanceMethod yX7_takeInGround : Cond) ∈ TW := twq2 (List.mem_of_getElem? (i := 101) rfl) rfl
theorem tw_405 : (Cond.code yX7_takeInGround cX7_takeInGround 2 none : Cond) ∈ TW := twq2 (List.mem_of_getElem? (i := 102) rfl) rfl
theorem tw_406 : (Cond.methodLink RX7 185 yX1_begin : Cond) ∈ TW := twq2 (List.mem_of_getElem? (i := 103) rfl) rfl
theorem tw_407 : (Cond.instanceMethod yX1_begin : Cond) ∈ TW := twq2 (List.mem_of_getElem? (i := 104) rfl) rfl
theorem tw_408 : (Cond.selects RX1 yX1_begin yX1_begin : Cond) ∈ TW := twq2 (List.mem_of_getElem? (i := 105) rfl) rfl
theorem tw_409 : (Cond.code yX1_begin cX1_begin 2 none : Cond) ∈ TW := twq2 (List.mem_of_getElem? (i := 106) rfl) rfl
theorem tw_410 : (Cond.methodLink RX1 15 yX1_start : Cond) ∈ TW := twq2 (List.mem_of_getElem? (i := 107) rfl) rfl
theorem tw_412 : (Cond.instanceMethod yX1_start : Cond) ∈ TW := twq2 (List.mem_of_getElem? (i := 109) rfl) rfl
theorem tw_413 : (Cond.code yX1_start cX1_start 4 none : Cond) ∈ TW := twq2 (List.mem_of_getElem? (i := 110) rfl) rfl
theorem tw_414 : (Cond.constant RX1 19 (65536) : Cond) ∈ TW := twq2 (List.mem_of_getElem? (i := 111) rfl) rfl
theorem tw_415 : (Cond.methodLink RX7 167 yX7_takeInEscape : Cond) ∈ TW := twq2 (List.mem_of_getElem? (i := 112) rfl) rfl
theorem tw_417 : (Cond.instanceMethod yX7_takeInEscape : Cond) ∈ TW := twq2 (List.mem_of_getElem? (i := 114) rfl) rfl
theorem tw_418 : (Cond.code yX7_takeInEscape cX7_takeInEscape 2 none : Cond) ∈ TW := twq2 (List.mem_of_getElem? (i := 115) rfl) rfl
theorem tw_419 : (Cond.methodLink RX7 199 yX5_save : Cond) ∈ TW := twq2 (List.mem_of_getElem? (i := 116) rfl) rfl
theorem tw_420 : (Cond.instanceMethod yX5_save : Cond) ∈ TW := twq2 (List.mem_of_getElem? (i := 117) rfl) rfl
theorem tw_421 : (Cond.selects RX5 yX5_save yX5_save : Cond) ∈ TW := twq2 (List.mem_of_getElem? (i := 118) rfl) rfl
theorem tw_422 : (Cond.code yX5_save cX5_save 1 none : Cond) ∈ TW := twq2 (List.mem_of_getElem? (i := 119) rfl) rfl
theorem tw_423 : (Cond.methodLink RX5 64 yX0_copyFrom : Cond) ∈ TW := twq2 (List.mem_of_getElem? (i := 120) rfl) rfl
theorem tw_424 : (Cond.instanceMethod yX0_copyFrom : Cond) ∈ TW := twq2 (List.mem_of_getElem? (i := 121) rfl) rfl
theorem tw_425 : (Cond.selects RX0 yX0_copyFrom yX0_copyFrom : Cond) ∈ TW := twq2 (List.mem_of_getElem? (i := 122) rfl) rfl
theorem tw_426 : (Cond.code yX0_copyFrom cX0_copyFrom 2 none : Cond) ∈ TW := twq2 (List.mem_of_getElem? (i := 123) rfl) rfl
theorem tw_427 : (Cond.methodLink RX7 202 yX5_restore : Cond) ∈ TW := twq2 (List.mem_of_getElem? (i := 124) rfl) rfl
theorem tw_428 : (Cond.instanceMethod yX5_restore : Cond) ∈ TW := twq2 (List.mem_of_getElem? (i := 125) rfl) rfl
theorem tw_429 : (Cond.selects RX5 yX5_restore yX5_restore : Cond) ∈ TW := twq2 (List.mem_of_getElem? (i := 126) rfl) rfl
theorem tw_430 : (Cond.code yX5_restore cX5_restore 1 none : Cond) ∈ TW := twq2 (List.mem_of_getElem? (i := 127) rfl) rfl
theorem tw_431 : (Cond.methodLink RX7 205 yX5_setTabStop : Cond) ∈ TW := twq2 (List.mem_of_getElem? (i := 128) rfl) rfl
theorem tw_432 : (Cond.instanceMethod yX5_setTabStop : Cond) ∈ TW := twq2 (List.mem_of_getElem? (i := 129) rfl) rfl
theorem tw_433 : (Cond.selects RX5 yX5_setTabStop yX5_setTabStop : Cond) ∈ TW := twq2 (List.mem_of_getElem? (i := 130) rfl) rfl
theorem tw_434 : (Cond.code yX5_setTabStop cX5_setTabStop 1 none : Cond) ∈ TW := twq2 (List.mem_of_getElem? (i := 131) rfl) rfl
theorem tw_435 : (Cond.methodLink RX7 208 yX5_backRow : Cond) ∈ TW := twq2 (List.mem_of_getElem? (i := 132) rfl) rfl
theorem tw_436 : (Cond.instanceMethod yX5_backRow : Cond) ∈ TW := twq2 (List.mem_of_getElem? (i := 133) rfl) rfl
theorem tw_437 : (Cond.selects RX5 yX5_backRow yX5_backRow : Cond) ∈ TW := twq2 (List.mem_of_getElem? (i := 134) rfl) rfl
theorem tw_438 : (Cond.code yX5_backRow cX5_backRow 1 none : Cond) ∈ TW := twq2 (List.mem_of_getElem? (i := 135) rfl) rfl
theorem tw_439 : (Cond.methodLink RX7 170 yX7_takeInTitle : Cond) ∈ TW := twq2 (List.mem_of_getElem? (i := 136) rfl) rfl
theorem tw_441 : (Cond.instanceMethod yX7_takeInTitle : Cond) ∈ TW := twq2 (List.mem_of_getElem? (i := 138) rfl) rfl
theorem tw_442 : (Cond.code yX7_takeInTitle cX7_takeInTitle 2 none : Cond) ∈ TW := twq2 (List.mem_of_getElem? (i := 139) rfl) rfl
theorem tw_443 : (Cond.methodLink RX7 224 yX6_add : Cond) ∈ TW := twq2 (List.mem_of_getElem? (i := 140) rfl) rfl
theorem tw_444 : (Cond.instanceMethod yX6_add : Cond) ∈ TW := twq2 (List.mem_of_getElem? (i := 141) rfl) rfl
theorem tw_445 : (Cond.selects RX6 yX6_add yX6_add : Cond) ∈ TW := twq2 (List.mem_of_getElem? (i := 142) rfl) rfl
theorem tw_446 : (Cond.code yX6_add cX6_add 2 none : Cond) ∈ TW := twq2 (List.mem_of_getElem? (i := 143) rfl) rfl
theorem tw_447 : (Cond.methodLink RX7 225 yX6_copyFrom : Cond) ∈ TW := twq2 (List.mem_of_getElem? (i := 144) rfl) rfl
theorem tw_448 : (Cond.instanceMethod yX6_copyFrom : Cond) ∈ TW := twq2 (List.mem_of_getElem? (i := 145) rfl) rfl
theorem tw_449 : (Cond.selects RX6 yX6_copyFrom yX6_copyFrom : Cond) ∈ TW := twq2 (List.mem_of_getElem? (i := 146) rfl) rfl
theorem tw_450 : (Cond.code yX6_copyFrom cX6_copyFrom 3 none : Cond) ∈ TW := twq2 (List.mem_of_getElem? (i := 147) rfl) rfl
theorem tw_451 : (Cond.methodLink RX7 173 yX7_takeBeforeEnd : Cond) ∈ TW := twq2 (List.mem_of_getElem? (i := 148) rfl) rfl
theorem tw_453 : (Cond.instanceMethod yX7_takeBeforeEnd : Cond) ∈ TW := twq2 (List.mem_of_getElem? (i := 150) rfl) rfl
theorem tw_454 : (Cond.code yX7_takeBeforeEnd cX7_takeBeforeEnd 2 none : Cond) ∈ TW := twq2 (List.mem_of_getElem? (i := 151) rfl) rfl
theorem tw_455 : (Cond.methodLink RX7 211 yX2_addDigit : Cond) ∈ TW := twq2 (List.mem_of_getElem? (i := 152) rfl) rfl
theorem tw_456 : (Cond.instanceMethod yX2_addDigit : Cond) ∈ TW := twq2 (List.mem_of_getElem? (i := 153) rfl) rfl
theorem tw_457 : (Cond.selects RX2 yX2_addDigit yX2_addDigit : Cond) ∈ TW := twq2 (List.mem_of_getElem? (i := 154) rfl) rfl
theorem tw_458 : (Cond.code yX2_addDigit cX2_addDigit 3 none : Cond) ∈ TW := twq2 (List.mem_of_getElem? (i := 155) rfl) rfl
theorem tw_459 : (Cond.methodLink RX2 23 Lib.Math.max.name : Cond) ∈ TW := twq2 (List.mem_of_getElem? (i := 156) rfl) rfl
theorem tw_460 : (Cond.methodLink RX2 29 Lib.Math.min.name : Cond) ∈ TW := twq2 (List.mem_of_getElem? (i := 157) rfl) rfl
theorem tw_461 : (Cond.methodLink RX7 214 yX2_next : Cond) ∈ TW := twq2 (List.mem_of_getElem? (i := 158) rfl) rfl
theorem tw_462 : (Cond.instanceMethod yX2_next : Cond) ∈ TW := twq2 (List.mem_of_getElem? (i := 159) rfl) rfl
theorem tw_463 : (Cond.selects RX2 yX2_next yX2_next : Cond) ∈ TW := twq2 (List.mem_of_getElem? (i := 160) rfl) rfl
theorem tw_464 : (Cond.code yX2_next cX2_next 1 none : Cond) ∈ TW := twq2 (List.mem_of_getElem? (i := 161) rfl) rfl
theorem tw_465 : (Cond.methodLink RX7 217 yX2_isUntouched : Cond) ∈ TW := twq2 (List.mem_of_getElem? (i := 162) rfl) rfl
theorem tw_466 : (Cond.instanceMethod yX2_isUntouched : Cond) ∈ TW := twq2 (List.mem_of_getElem? (i := 163) rfl) rfl
theorem tw_467 : (Cond.selects RX2 yX2_isUntouched yX2_isUntouched : Cond) ∈ TW := twq2 (List.mem_of_getElem? (i := 164) rfl) rfl
theorem tw_468 : (Cond.code yX2_isUntouched cX2_isUntouched 1 (some .boolean) : Cond) ∈ TW := twq2 (List.mem_of_getElem? (i := 165) rfl) rfl
theorem tw_469 : (Cond.methodLink RX7 176 yX7_doSequence : Cond) ∈ TW := twq2 (List.mem_of_getElem? (i := 166) rfl) rfl
theorem tw_471 : (Cond.instanceMethod yX7_doSequence : Cond) ∈ TW := twq2 (List.mem_of_getElem? (i := 168) rfl) rfl
theorem tw_472 : (Cond.code yX7_doSequence cX7_doSequence 5 none : Cond) ∈ TW := twq2 (List.mem_of_getElem? (i := 169) rfl) rfl
theorem tw_473 : (Cond.methodLink RX7 229 yX7_doPrivate : Cond) ∈ TW := twq2 (List.mem_of_getElem? (i := 170) rfl) rfl
theorem tw_475 : (Cond.instanceMethod yX7_doPrivate : Cond) ∈ TW := twq2 (List.mem_of_getElem? (i := 172) rfl) rfl
theorem tw_476 : (Cond.code yX7_doPrivate cX7_doPrivate 3 none : Cond) ∈ TW := twq2 (List.mem_of_getElem? (i := 173) rfl) rfl
theorem tw_477 : (Cond.methodLink RX7 297 yX2_kept : Cond) ∈ TW := twq2 (List.mem_of_getElem? (i := 174) rfl) rfl
theorem tw_478 : (Cond.instanceMethod yX2_kept : Cond) ∈ TW := twq2 (List.mem_of_getElem? (i := 175) rfl) rfl
theorem tw_479 : (Cond.selects RX2 yX2_kept yX2_kept : Cond) ∈ TW := twq2 (List.mem_of_getElem? (i := 176) rfl) rfl
theorem tw_480 : (Cond.code yX2_kept cX2_kept 1 (some .int) : Cond) ∈ TW := twq2 (List.mem_of_getElem? (i := 177) rfl) rfl
theorem tw_481 : (Cond.methodLink RX7 232 yX2_valueAt : Cond) ∈ TW := twq2 (List.mem_of_getElem? (i := 178) rfl) rfl
theorem tw_482 : (Cond.instanceMethod yX2_valueAt : Cond) ∈ TW := twq2 (List.mem_of_getElem? (i := 179) rfl) rfl
theorem tw_483 : (Cond.selects RX2 yX2_valueAt yX2_valueAt : Cond) ∈ TW := twq2 (List.mem_of_getElem? (i := 180) rfl) rfl
theorem tw_484 : (Cond.code yX2_valueAt cX2_valueAt 2 (some .int) : Cond) ∈ TW := twq2 (List.mem_of_getElem? (i := 181) rfl) rfl
theorem tw_485 : (Cond.methodLink RX7 300 yX5_switchPrivate : Cond) ∈ TW := twq2 (List.mem_of_getElem? (i := 182) rfl) rfl
theorem tw_486 : (Cond.instanceMethod yX5_switchPrivate : Cond) ∈ TW := twq2 (List.mem_of_getElem? (i := 183) rfl) rfl
theorem tw_487 : (Cond.selects RX5 yX5_switchPrivate yX5_switchPrivate : Cond) ∈ TW := twq2 (List.mem_of_getElem? (i := 184) rfl) rfl
theorem tw_488 : (Cond.code yX5_switchPrivate cX5_switchPrivate 3 none : Cond) ∈ TW := twq2 (List.mem_of_getElem? (i := 185) rfl) rfl
theorem tw_489 : (Cond.methodLink RX5 146 yX5_moveTo : Cond) ∈ TW := twq2 (List.mem_of_getElem? (i := 186) rfl) rfl
theorem tw_490 : (Cond.instanceMethod yX5_moveTo : Cond) ∈ TW := twq2 (List.mem_of_getElem? (i := 187) rfl) rfl
theorem tw_491 : (Cond.selects RX5 yX5_moveTo yX5_moveTo : Cond) ∈ TW := twq2 (List.mem_of_getElem? (i := 188) rfl) rfl
theorem tw_492 : (Cond.code yX5_moveTo cX5_moveTo 5 none : Cond) ∈ TW := twq2 (List.mem_of_getElem? (i := 189) rfl) rfl
theorem tw_493 : (Cond.methodLink RX5 149 yX5_showPage : Cond) ∈ TW := twq2 (List.mem_of_getElem? (i := 190) rfl) rfl
theorem tw_495 : (Cond.instanceMethod yX5_showPage : Cond) ∈ TW := twq2 (List.mem_of_getElem? (i := 192) rfl) rfl
theorem tw_496 : (Cond.code yX5_showPage cX5_showPage 2 none : Cond) ∈ TW := twq2 (List.mem_of_getElem? (i := 193) rfl) rfl
theorem tw_497 : (Cond.methodLink RX7 235 yX5_moveUp : Cond) ∈ TW := twq2 (List.mem_of_getElem? (i := 194) rfl) rfl
theorem tw_498 : (Cond.instanceMethod yX5_moveUp : Cond) ∈ TW := twq2 (List.mem_of_getElem? (i := 195) rfl) rfl
theorem tw_499 : (Cond.selects RX5 yX5_moveUp yX5_moveUp : Cond) ∈ TW := twq2 (List.mem_of_getElem? (i := 196) rfl) rfl
theorem tw_500 : (Cond.code yX5_moveUp cX5_moveUp 3 none : Cond) ∈ TW := twq2 (List.mem_of_getElem? (i := 197) rfl) rfl
theorem tw_501 : (Cond.methodLink RX7 238 yX5_moveDown : Cond) ∈ TW := twq2 (List.mem_of_getElem? (i := 198) rfl) rfl
theorem tw_502 : (Cond.instanceMethod yX5_moveDown : Cond) ∈ TW := twq2 (List.mem_of_getElem? (i := 199) rfl) rfl
theorem tw_503 : (Cond.selects RX5 yX5_moveDown yX5_moveDown : Cond) ∈ TW := twq2 (List.mem_of_getElem? (i := 200) rfl) rfl
theorem tw_504 : (Cond.code yX5_moveDown cX5_moveDown 3 none : Cond) ∈ TW := twq2 (List.mem_of_getElem? (i := 201) rfl) rfl
theorem tw_505 : (Cond.methodLink RX7 241 yX5_moveRight : Cond) ∈ TW := twq2 (List.mem_of_getElem? (i := 202) rfl) rfl
theorem tw_506 : (Cond.instanceMethod yX5_moveRight : Cond) ∈ TW := twq2 (List.mem_of_getElem? (i := 203) rfl) rfl
theorem tw_507 : (Cond.selects RX5 yX5_moveRight yX5_moveRight : Cond) ∈ TW := twq2 (List.mem_of_getElem? (i := 204) rfl) rfl
theorem tw_508 : (Cond.code yX5_moveRight cX5_moveRight 2 none : Cond) ∈ TW := twq2 (List.mem_of_getElem? (i := 205) rfl) rfl
theorem tw_509 : (Cond.methodLink RX7 244 yX5_moveToRow : Cond) ∈ TW := twq2 (List.mem_of_getElem? (i := 206) rfl) rfl
theorem tw_510 : (Cond.instanceMethod yX5_moveToRow : Cond) ∈ TW := twq2 (List.mem_of_getElem? (i := 207) rfl) rfl
theorem tw_511 : (Cond.selects RX5 yX5_moveToRow yX5_moveToRow : Cond) ∈ TW := twq2 (List.mem_of_getElem? (i := 208) rfl) rfl
theorem tw_512 : (Cond.code yX5_moveToRow cX5_moveToRow 2 none : Cond) ∈ TW := twq2 (List.mem_of_getElem? (i := 209) rfl) rfl
theorem tw_513 : (Cond.methodLink RX7 247 yX5_moveTo : Cond) ∈ TW := twq2 (List.mem_of_getElem? (i := 210) rfl) rfl
theorem tw_514 : (Cond.methodLink RX7 251 yX5_clearInPage : Cond) ∈ TW := twq2 (List.mem_of_getElem? (i := 211) rfl) rfl
theorem tw_515 : (Cond.instanceMethod yX5_clearInPage : Cond) ∈ TW := twq2 (List.mem_of_getElem? (i := 212) rfl) rfl
theorem tw_516 : (Cond.selects RX5 yX5_clearInPage yX5_clearInPage : Cond) ∈ TW := twq2 (List.mem_of_getElem? (i := 213) rfl) rfl
theorem tw_517 : (Cond.code yX5_clearInPage cX5_clearInPage 2 none : Cond) ∈ TW := twq2 (List.mem_of_getElem? (i := 214) rfl) rfl
theorem tw_518 : (Cond.methodLink RX5 127 yX5_clearWithin : Cond) ∈ TW := twq2 (List.mem_of_getElem? (i := 215) rfl) rfl
theorem tw_520 : (Cond.instanceMethod yX5_clearWithin : Cond) ∈ TW := twq2 (List.mem_of_getElem? (i := 217) rfl) rfl
theorem tw_521 : (Cond.code yX5_clearWithin cX5_clearWithin 4 none : Cond) ∈ TW := twq2 (List.mem_of_getElem? (i := 218) rfl) rfl
theorem tw_522 : (Cond.methodLink RX7 254 yX5_clearInRow : Cond) ∈ TW := twq2 (List.mem_of_getElem? (i := 219) rfl) rfl
theorem tw_523 : (Cond.instanceMethod yX5_clearInRow : Cond) ∈ TW := twq2 (List.mem_of_getElem? (i := 220) rfl) rfl
theorem tw_524 : (Cond.selects RX5 yX5_clearInRow yX5_clearInRow : Cond) ∈ TW := twq2 (List.mem_of_getElem? (i := 221) rfl) rfl
theorem tw_525 : (Cond.code yX5_clearInRow cX5_clearInRow 2 none : Cond) ∈ TW := twq2 (List.mem_of_getElem? (i := 222) rfl) rfl
theorem tw_526 : (Cond.methodLink RX7 257 yX5_clearCells : Cond) ∈ TW := twq2 (List.mem_of_getElem? (i := 223) rfl) rfl
theorem tw_527 : (Cond.instanceMethod yX5_clearCells : Cond) ∈ TW := twq2 (List.mem_of_getElem? (i := 224) rfl) rfl
theorem tw_528 : (Cond.selects RX5 yX5_clearCells yX5_clearCells : Cond) ∈ TW := twq2 (List.mem_of_getElem? (i := 225) rfl) rfl
theorem tw_529 : (Cond.code yX5_clearCells cX5_clearCells 2 none : Cond) ∈ TW := twq2 (List.mem_of_getElem? (i := 226) rfl) rfl
theorem tw_530 : (Cond.methodLink RX7 260 yX5_putInCells : Cond) ∈ TW := twq2 (List.mem_of_getElem? (i := 227) rfl) rfl
theorem tw_531 : (Cond.instanceMethod yX5_putInCells : Cond) ∈ TW := twq2 (List.mem_of_getElem? (i := 228) rfl) rfl
theorem tw_532 : (Cond.selects RX5 yX5_putInCells yX5_putInCells : Cond) ∈ TW := twq2 (List.mem_of_getElem? (i := 229) rfl) rfl
theorem tw_533 : (Cond.code yX5_putInCells cX5_putInCells 2 none : Cond) ∈ TW := twq2 (List.mem_of_getElem? (i := 230) rfl) rfl
theorem tw_534 : (Cond.methodLink RX7 263 yX5_takeOutCells : Cond) ∈ TW := twq2 (List.mem_of_getElem? (i := 231) rfl) rfl
theorem tw_535 : (Cond.instanceMethod yX5_takeOutCells : Cond) ∈ TW := twq2 (List.mem_of_getElem? (i := 232) rfl) rfl
theorem tw_536 : (Cond.selects RX5 yX5_takeOutCells yX5_takeOutCells : Cond) ∈ TW := twq2 (List.mem_of_getElem? (i := 233) rfl) rfl
theorem tw_537 : (Cond.code yX5_takeOutCells cX5_takeOutCells 2 none : Cond) ∈ TW := twq2 (List.mem_of_getElem? (i := 234) rfl) rfl
theorem tw_538 : (Cond.methodLink RX7 266 yX5_putInRows : Cond) ∈ TW := twq2 (List.mem_of_getElem? (i := 235) rfl) rfl
theorem tw_539 : (Cond.instanceMethod yX5_putInRows : Cond) ∈ TW := twq2 (List.mem_of_getElem? (i := 236) rfl) rfl
theorem tw_540 : (Cond.selects RX5 yX5_putInRows yX5_putInRows : Cond) ∈ TW := twq2 (List.mem_of_getElem? (i := 237) rfl) rfl
theorem tw_541 : (Cond.code yX5_putInRows cX5_putInRows 2 none : Cond) ∈ TW := twq2 (List.mem_of_getElem? (i := 238) rfl) rfl
theorem tw_542 : (Cond.methodLink RX5 120 yX5_isInRegion : Cond) ∈ TW := twq2 (List.mem_of_getElem? (i := 239) rfl) rfl
theorem tw_544 : (Cond.instanceMethod yX5_isInRegion : Cond) ∈ TW := twq3 (List.mem_of_getElem? (i := 1) rfl) rfl
theorem tw_545 : (Cond.code yX5_isInRegion cX5_isInRegion 1 (some .boolean) : Cond) ∈ TW := twq3 (List.mem_of_getElem? (i := 2) rfl) rfl
theorem tw_546 : (Cond.methodLink RX7 269 yX5_takeOutRows : Cond) ∈ TW := twq3 (List.mem_of_getElem? (i := 3) rfl) rfl
theorem tw_547 : (Cond.instanceMethod yX5_takeOutRows : Cond) ∈ TW := twq3 (List.mem_of_getElem? (i := 4) rfl) rfl
theorem tw_548 : (Cond.selects RX5 yX5_takeOutRows yX5_takeOutRows : Cond) ∈ TW := twq3 (List.mem_of_getElem? (i := 5) rfl) rfl
theorem tw_549 : (Cond.code yX5_takeOutRows cX5_takeOutRows 2 none : Cond) ∈ TW := twq3 (List.mem_of_getElem? (i := 6) rfl) rfl
theorem tw_550 : (Cond.methodLink RX7 272 yX5_scrollUp : Cond) ∈ TW := twq3 (List.mem_of_getElem? (i := 7) rfl) rfl
theorem tw_551 : (Cond.instanceMethod yX5_scrollUp : Cond) ∈ TW := twq3 (List.mem_of_getElem? (i := 8) rfl) rfl
theorem tw_552 : (Cond.selects RX5 yX5_scrollUp yX5_scrollUp : Cond) ∈ TW := twq3 (List.mem_of_getElem? (i := 9) rfl) rfl
theorem tw_553 : (Cond.code yX5_scrollUp cX5_scrollUp 2 none : Cond) ∈ TW := twq3 (List.mem_of_getElem? (i := 10) rfl) rfl
theorem tw_554 : (Cond.methodLink RX7 275 yX5_scrollDown : Cond) ∈ TW := twq3 (List.mem_of_getElem? (i := 11) rfl) rfl
theorem tw_555 : (Cond.instanceMethod yX5_scrollDown : Cond) ∈ TW := twq3 (List.mem_of_getElem? (i := 12) rfl) rfl
theorem tw_556 : (Cond.selects RX5 yX5_scrollDown yX5_scrollDown : Cond) ∈ TW := twq3 (List.mem_of_getElem? (i := 13) rfl) rfl
theorem tw_557 : (Cond.code yX5_scrollDown cX5_scrollDown 2 none : Cond) ∈ TW := twq3 (List.mem_of_getElem? (i := 14) rfl) rfl
theorem tw_558 : (Cond.methodLink RX7 278 yX5_repeat : Cond) ∈ TW := twq3 (List.mem_of_getElem? (i := 15) rfl) rfl
theorem tw_559 : (Cond.instanceMethod yX5_repeat : Cond) ∈ TW := twq3 (List.mem_of_getElem? (i := 16) rfl) rfl
theorem tw_560 : (Cond.selects RX5 yX5_repeat yX5_repeat : Cond) ∈ TW := twq3 (List.mem_of_getElem? (i := 17) rfl) rfl
theorem tw_561 : (Cond.code yX5_repeat cX5_repeat 4 none : Cond) ∈ TW := twq3 (List.mem_of_getElem? (i := 18) rfl) rfl
theorem tw_562 : (Cond.methodLink RX5 104 yX5_print : Cond) ∈ TW := twq3 (List.mem_of_getElem? (i := 19) rfl) rfl
theorem tw_563 : (Cond.methodLink RX7 281 yX7_paintAll : Cond) ∈ TW := twq3 (List.mem_of_getElem? (i := 20) rfl) rfl
theorem tw_565 : (Cond.instanceMethod yX7_paintAll : Cond) ∈ TW := twq3 (List.mem_of_getElem? (i := 22) rfl) rfl
theorem tw_566 : (Cond.code yX7_paintAll cX7_paintAll 3 none : Cond) ∈ TW := twq3 (List.mem_of_getElem? (i := 23) rfl) rfl
theorem tw_567 : (Cond.methodLink RX7 304 Lib.Math.max.name : Cond) ∈ TW := twq3 (List.mem_of_getElem? (i := 24) rfl) rfl
theorem tw_568 : (Cond.methodLink RX7 309 yX0_paint : Cond) ∈ TW := twq3 (List.mem_of_getElem? (i := 25) rfl) rfl
theorem tw_569 : (Cond.instanceMethod yX0_paint : Cond) ∈ TW := twq3 (List.mem_of_getElem? (i := 26) rfl) rfl
theorem tw_570 : (Cond.selects RX0 yX0_paint yX0_paint : Cond) ∈ TW := twq3 (List.mem_of_getElem? (i := 27) rfl) rfl
theorem tw_571 : (Cond.code yX0_paint cX0_paint 2 none : Cond) ∈ TW := twq3 (List.mem_of_getElem? (i := 28) rfl) rfl
theorem tw_572 : (Cond.methodLink RX0 32 yX0_setColour : Cond) ∈ TW := twq3 (List.mem_of_getElem? (i := 29) rfl) rfl
theorem tw_574 : (Cond.instanceMethod yX0_setColour : Cond) ∈ TW := twq3 (List.mem_of_getElem? (i := 31) rfl) rfl
theorem tw_575 : (Cond.code yX0_setColour cX0_setColour 2 none : Cond) ∈ TW := twq3 (List.mem_of_getElem? (i := 32) rfl) rfl
theorem tw_576 : (Cond.methodLink RX0 36 yX0_setGround : Cond) ∈ TW := twq3 (List.mem_of_getElem? (i := 33) rfl) rfl
theorem tw_578 : (Cond.instanceMethod yX0_setGround : Cond) ∈ TW := twq3 (List.mem_of_getElem? (i := 35) rfl) rfl
theorem tw_579 : (Cond.code yX0_setGround cX0_setGround 2 none : Cond) ∈ TW := twq3 (List.mem_of_getElem? (i := 36) rfl) rfl
theorem tw_580 : (Cond.methodLink RX0 39 yX0_paintColour : Cond) ∈ TW := twq3 (List.mem_of_getElem? (i := 37) rfl) rfl
theorem tw_582 : (Cond.instanceMethod yX0_paintColour : Cond) ∈ TW := twq3 (List.mem_of_getElem? (i := 39) rfl) rfl
theorem tw_583 : (Cond.code yX0_paintColour cX0_paintColour 2 none : Cond) ∈ TW := twq3 (List.mem_of_getElem? (i := 40) rfl) rfl
theorem tw_584 : (Cond.methodLink RX7 284 yX5_setRegion : Cond) ∈ TW := twq3 (List.mem_of_getElem? (i := 41) rfl) rfl
theorem tw_585 : (Cond.instanceMethod yX5_setRegion : Cond) ∈ TW := twq3 (List.mem_of_getElem? (i := 42) rfl) rfl
theorem tw_586 : (Cond.selects RX5 yX5_setRegion yX5_setRegion : Cond) ∈ TW := twq3 (List.mem_of_getElem? (i := 43) rfl) rfl
theorem tw_587 : (Cond.code yX5_setRegion cX5_setRegion 3 none : Cond) ∈ TW := twq3 (List.mem_of_getElem? (i := 44) rfl) rfl
theorem tw_588 : (Cond.methodLink RX7 287 yX5_removeTabStops : Cond) ∈ TW := twq3 (List.mem_of_getElem? (i := 45) rfl) rfl
theorem tw_589 : (Cond.instanceMethod yX5_removeTabStops : Cond) ∈ TW := twq3 (List.mem_of_getElem? (i := 46) rfl) rfl
theorem tw_590 : (Cond.selects RX5 yX5_removeTabStops yX5_removeTabStops : Cond) ∈ TW := twq3 (List.mem_of_getElem? (i := 47) rfl) rfl
theorem tw_591 : (Cond.code yX5_removeTabStops cX5_removeTabStops 2 none : Cond) ∈ TW := twq3 (List.mem_of_getElem? (i := 48) rfl) rfl
theorem tw_592 : (Cond.methodLink RX7 290 yX7_switchInsert : Cond) ∈ TW := twq3 (List.mem_of_getElem? (i := 49) rfl) rfl
theorem tw_594 : (Cond.instanceMethod yX7_switchInsert : Cond) ∈ TW := twq3 (List.mem_of_getElem? (i := 51) rfl) rfl
theorem tw_595 : (Cond.code yX7_switchInsert cX7_switchInsert 3 none : Cond) ∈ TW := twq3 (List.mem_of_getElem? (i := 52) rfl) rfl
theorem tw_596 : (Cond.methodLink RX7 294 yX7_answer : Cond) ∈ TW := twq3 (List.mem_of_getElem? (i := 53) rfl) rfl
theorem tw_598 : (Cond.instanceMethod yX7_answer : Cond) ∈ TW := twq3 (List.mem_of_getElem? (i := 55) rfl) rfl
theorem tw_599 : (Cond.code yX7_answer cX7_answer 2 none : Cond) ∈ TW := twq3 (List.mem_of_getElem? (i := 56) rfl) rfl
theorem tw_600 : (Cond.methodLink RX7 312 yX4_addWell : Cond) ∈ TW := twq3 (List.mem_of_getElem? (i := 57) rfl) rfl
theorem tw_601 : (Cond.instanceMethod yX4_addWell : Cond) ∈ TW := twq3 (List.mem_of_getElem? (i := 58) rfl) rfl
theorem tw_602 : (Cond.selects RX4 yX4_addWell yX4_addWell : Cond) ∈ TW := twq3 (List.mem_of_getElem? (i := 59) rfl) rfl
theorem tw_603 : (Cond.code yX4_addWell cX4_addWell 1 none : Cond) ∈ TW := twq3 (List.mem_of_getElem? (i := 60) rfl) rfl
theorem tw_604 : (Cond.methodLink RX4 19 yX4_hasRoom : Cond) ∈ TW := twq3 (List.mem_of_getElem? (i := 61) rfl) rfl
theorem tw_606 : (Cond.instanceMethod yX4_hasRoom : Cond) ∈ TW := twq3 (List.mem_of_getElem? (i := 63) rfl) rfl
theorem tw_607 : (Cond.code yX4_hasRoom cX4_hasRoom 2 (some .boolean) : Cond) ∈ TW := twq3 (List.mem_of_getElem? (i := 64) rfl) rfl
theorem tw_608 : (Cond.methodLink RX4 23 yX4_add : Cond) ∈ TW := twq3 (List.mem_of_getElem? (i := 65) rfl) rfl
theorem tw_610 : (Cond.instanceMethod yX4_add : Cond) ∈ TW := twq3 (List.mem_of_getElem? (i := 67) rfl) rfl
theorem tw_611 : (Cond.code yX4_add cX4_add 2 none : Cond) ∈ TW := twq3 (List.mem_of_getElem? (i := 68) rfl) rfl
theorem tw_612 : (Cond.methodLink RX7 315 yX5_rowToTell : Cond) ∈ TW := twq3 (List.mem_of_getElem? (i := 69) rfl) rfl
theorem tw_613 : (Cond.instanceMethod yX5_rowToTell : Cond) ∈ TW := twq3 (List.mem_of_getElem? (i := 70) rfl) rfl
theorem tw_614 : (Cond.selects RX5 yX5_rowToTell yX5_rowToTell : Cond) ∈ TW := twq3 (List.mem_of_getElem? (i := 71) rfl) rfl
theorem tw_615 : (Cond.code yX5_rowToTell cX5_rowToTell 1 (some .int) : Cond) ∈ TW := twq3 (List.mem_of_getElem? (i := 72) rfl) rfl
theorem tw_616 : (Cond.methodLink RX7 318 yX4_addPosition : Cond) ∈ TW := twq3 (List.mem_of_getElem? (i := 73) rfl) rfl
theorem tw_617 : (Cond.instanceMethod yX4_addPosition : Cond) ∈ TW := twq3 (List.mem_of_getElem? (i := 74) rfl) rfl
theorem tw_618 : (Cond.selects RX4 yX4_addPosition yX4_addPosition : Cond) ∈ TW := twq3 (List.mem_of_getElem? (i := 75) rfl) rfl
theorem tw_619 : (Cond.code yX4_addPosition cX4_addPosition 4 none : Cond) ∈ TW := twq3 (List.mem_of_getElem? (i := 76) rfl) rfl
theorem tw_620 : (Cond.methodLink RL 35 yX7_feedAll : Cond) ∈ TW := twq3 (List.mem_of_getElem? (i := 77) rfl) rfl
theorem tw_621 : (Cond.instanceMethod yX7_feedAll : Cond) ∈ TW := twq3 (List.mem_of_getElem? (i := 78) rfl) rfl
theorem tw_622 : (Cond.selects RX7 yX7_feedAll yX7_feedAll : Cond) ∈ TW := twq3 (List.mem_of_getElem? (i := 79) rfl) rfl
theorem tw_623 : (Cond.code yX7_feedAll cX7_feedAll 6 (some .int) : Cond) ∈ TW := twq3 (List.mem_of_getElem? (i := 80) rfl) rfl
theorem tw_624 : (Cond.methodLink RL 40 yX7_row : Cond) ∈ TW := twq3 (List.mem_of_getElem? (i := 81) rfl) rfl
theorem tw_625 : (Cond.instanceMethod yX7_row : Cond) ∈ TW := twq3 (List.mem_of_getElem? (i := 82) rfl) rfl
theorem tw_626 : (Cond.selects RX7 yX7_row yX7_row : Cond) ∈ TW := twq3 (List.mem_of_getElem? (i := 83) rfl) rfl
theorem tw_627 : (Cond.code yX7_row cX7_row 1 (some .int) : Cond) ∈ TW := twq3 (List.mem_of_getElem? (i := 84) rfl) rfl
theorem tw_628 : (Cond.methodLink RL 44 yX7_column : Cond) ∈ TW := twq3 (List.mem_of_getElem? (i := 85) rfl) rfl
theorem tw_629 : (Cond.instanceMethod yX7_column : Cond) ∈ TW := twq3 (List.mem_of_getElem? (i := 86) rfl) rfl
theorem tw_630 : (Cond.selects RX7 yX7_column yX7_column : Cond) ∈ TW := twq3 (List.mem_of_getElem? (i := 87) rfl) rfl
theorem tw_631 : (Cond.code yX7_column cX7_column 1 (some .int) : Cond) ∈ TW := twq3 (List.mem_of_getElem? (i := 88) rfl) rfl
theorem tw_632 : (Cond.methodLink RL 48 yX7_full : Cond) ∈ TW := twq3 (List.mem_of_getElem? (i := 89) rfl) rfl
theorem tw_633 : (Cond.instanceMethod yX7_full : Cond) ∈ TW := twq3 (List.mem_of_getElem? (i := 90) rfl) rfl
theorem tw_634 : (Cond.selects RX7 yX7_full yX7_full : Cond) ∈ TW := twq3 (List.mem_of_getElem? (i := 91) rfl) rfl
theorem tw_635 : (Cond.code yX7_full cX7_full 1 (some .boolean) : Cond) ∈ TW := twq3 (List.mem_of_getElem? (i := 92) rfl) rfl
theorem tw_636 : (Cond.methodLink RL 53 yX7_pen : Cond) ∈ TW := twq3 (List.mem_of_getElem? (i := 93) rfl) rfl
theorem tw_637 : (Cond.instanceMethod yX7_pen : Cond) ∈ TW := twq3 (List.mem_of_getElem? (i := 94) rfl) rfl
theorem tw_638 : (Cond.selects RX7 yX7_pen yX7_pen : Cond) ∈ TW := twq3 (List.mem_of_getElem? (i := 95) rfl) rfl
theorem tw_639 : (Cond.code yX7_pen cX7_pen 1 (some .int) : Cond) ∈ TW := twq3 (List.mem_of_getElem? (i := 96) rfl) rfl
theorem tw_640 : (Cond.methodLink RL 57 yX7_mode : Cond) ∈ TW := twq3 (List.mem_of_getElem? (i := 97) rfl) rfl
theorem tw_641 : (Cond.instanceMethod yX7_mode : Cond) ∈ TW := twq3 (List.mem_of_getElem? (i := 98) rfl) rfl
theorem tw_642 : (Cond.selects RX7 yX7_mode yX7_mode : Cond) ∈ TW := twq3 (List.mem_of_getElem? (i := 99) rfl) rfl
theorem tw_643 : (Cond.code yX7_mode cX7_mode 2 (some .int) : Cond) ∈ TW := twq3 (List.mem_of_getElem? (i := 100) rfl) rfl
theorem tw_644 : (Cond.methodLink RL 62 yX7_region : Cond) ∈ TW := twq3 (List.mem_of_getElem? (i := 101) rfl) rfl
theorem tw_645 : (Cond.instanceMethod yX7_region : Cond) ∈ TW := twq3 (List.mem_of_getElem? (i := 102) rfl) rfl
theorem tw_646 : (Cond.selects RX7 yX7_region yX7_region : Cond) ∈ TW := twq3 (List.mem_of_getElem? (i := 103) rfl) rfl
theorem tw_647 : (Cond.code yX7_region cX7_region 1 (some .int) : Cond) ∈ TW := twq3 (List.mem_of_getElem? (i := 104) rfl) rfl
theorem tw_648 : (Cond.methodLink RL 66 yX7_tab : Cond) ∈ TW := twq3 (List.mem_of_getElem? (i := 105) rfl) rfl
theorem tw_649 : (Cond.instanceMethod yX7_tab : Cond) ∈ TW := twq3 (List.mem_of_getElem? (i := 106) rfl) rfl
theorem tw_650 : (Cond.selects RX7 yX7_tab yX7_tab : Cond) ∈ TW := twq3 (List.mem_of_getElem? (i := 107) rfl) rfl
theorem tw_651 : (Cond.code yX7_tab cX7_tab 2 (some .boolean) : Cond) ∈ TW := twq3 (List.mem_of_getElem? (i := 108) rfl) rfl
theorem tw_652 : (Cond.methodLink RX7 95 yX5_hasTabStop : Cond) ∈ TW := twq3 (List.mem_of_getElem? (i := 109) rfl) rfl
theorem tw_653 : (Cond.methodLink RL 70 yX7_bells : Cond) ∈ TW := twq3 (List.mem_of_getElem? (i := 110) rfl) rfl
theorem tw_654 : (Cond.instanceMethod yX7_bells : Cond) ∈ TW := twq3 (List.mem_of_getElem? (i := 111) rfl) rfl
theorem tw_655 : (Cond.selects RX7 yX7_bells yX7_bells : Cond) ∈ TW := twq3 (List.mem_of_getElem? (i := 112) rfl) rfl
theorem tw_656 : (Cond.code yX7_bells cX7_bells 1 (some .int) : Cond) ∈ TW := twq3 (List.mem_of_getElem? (i := 113) rfl) rfl
theorem tw_657 : (Cond.methodLink RL 74 yX7_state : Cond) ∈ TW := twq3 (List.mem_of_getElem? (i := 114) rfl) rfl
theorem tw_658 : (Cond.instanceMethod yX7_state : Cond) ∈ TW := twq3 (List.mem_of_getElem? (i := 115) rfl) rfl
theorem tw_659 : (Cond.selects RX7 yX7_state yX7_state : Cond) ∈ TW := twq3 (List.mem_of_getElem? (i := 116) rfl) rfl
theorem tw_660 : (Cond.code yX7_state cX7_state 1 (some .int) : Cond) ∈ TW := twq3 (List.mem_of_getElem? (i := 117) rfl) rfl
theorem tw_661 : (Cond.methodLink RL 90 yX7_cells : Cond) ∈ TW := twq3 (List.mem_of_getElem? (i := 118) rfl) rfl
theorem tw_662 : (Cond.instanceMethod yX7_cells : Cond) ∈ TW := twq3 (List.mem_of_getElem? (i := 119) rfl) rfl
theorem tw_663 : (Cond.selects RX7 yX7_cells yX7_cells : Cond) ∈ TW := twq3 (List.mem_of_getElem? (i := 120) rfl) rfl
theorem tw_664 : (Cond.code yX7_cells cX7_cells 3 (some .int) : Cond) ∈ TW := twq3 (List.mem_of_getElem? (i := 121) rfl) rfl
theorem tw_665 : (Cond.methodLink RX7 109 yX5_page : Cond) ∈ TW := twq3 (List.mem_of_getElem? (i := 122) rfl) rfl
theorem tw_666 : (Cond.methodLink RX7 122 yX3_count : Cond) ∈ TW := twq3 (List.mem_of_getElem? (i := 123) rfl) rfl
theorem tw_667 : (Cond.instanceMethod yX3_count : Cond) ∈ TW := twq3 (List.mem_of_getElem? (i := 124) rfl) rfl
theorem tw_668 : (Cond.selects RX3 yX3_count yX3_count : Cond) ∈ TW := twq3 (List.mem_of_getElem? (i := 125) rfl) rfl
theorem tw_669 : (Cond.code yX3_count cX3_count 5 (some .int) : Cond) ∈ TW := twq3 (List.mem_of_getElem? (i := 126) rfl) rfl
theorem tw_670 : (Cond.methodLink RL 94 yX7_waiting : Cond) ∈ TW := twq3 (List.mem_of_getElem? (i := 127) rfl) rfl
theorem tw_671 : (Cond.instanceMethod yX7_waiting : Cond) ∈ TW := twq3 (List.mem_of_getElem? (i := 128) rfl) rfl
theorem tw_672 : (Cond.selects RX7 yX7_waiting yX7_waiting : Cond) ∈ TW := twq3 (List.mem_of_getElem? (i := 129) rfl) rfl
theorem tw_673 : (Cond.code yX7_waiting cX7_waiting 1 (some .int) : Cond) ∈ TW := twq3 (List.mem_of_getElem? (i := 130) rfl) rfl
theorem tw_674 : (Cond.methodLink RL 102 yX7_title : Cond) ∈ TW := twq3 (List.mem_of_getElem? (i := 131) rfl) rfl
theorem tw_675 : (Cond.instanceMethod yX7_title : Cond) ∈ TW := twq3 (List.mem_of_getElem? (i := 132) rfl) rfl
theorem tw_676 : (Cond.selects RX7 yX7_title yX7_title : Cond) ∈ TW := twq3 (List.mem_of_getElem? (i := 133) rfl) rfl
theorem tw_677 : (Cond.code yX7_title cX7_title 2 (some .int) : Cond) ∈ TW := twq3 (List.mem_of_getElem? (i := 134) rfl) rfl
theorem tw_678 : (Cond.methodLink RX7 136 yX6_characterAt : Cond) ∈ TW := twq3 (List.mem_of_getElem? (i := 135) rfl) rfl
theorem tw_679 : (Cond.instanceMethod yX6_characterAt : Cond) ∈ TW := twq3 (List.mem_of_getElem? (i := 136) rfl) rfl
theorem tw_680 : (Cond.selects RX6 yX6_characterAt yX6_characterAt : Cond) ∈ TW := twq3 (List.mem_of_getElem? (i := 137) rfl) rfl
theorem tw_681 : (Cond.code yX6_characterAt cX6_characterAt 2 (some .int) : Cond) ∈ TW := twq3 (List.mem_of_getElem? (i := 138) rfl) rfl
theorem tw_682 : (Cond.methodLink RL 78 yL_code : Cond) ∈ TW := twq3 (List.mem_of_getElem? (i := 139) rfl) rfl
theorem tw_683 : (Cond.static yL_code : Cond) ∈ TW := twq3 (List.mem_of_getElem? (i := 140) rfl) rfl
theorem tw_684 : (Cond.codeWith yL_code cL_code 5 (some .int) [(0, 10, 13, 13)] : Cond) ∈ TW := twq3 (List.mem_of_getElem? (i := 141) rfl) rfl
theorem tw_685 : (Cond.classLink RL 13 "java/lang/IndexOutOfBoundsException" : Cond) ∈ TW := twq3 (List.mem_of_getElem? (i := 142) rfl) rfl
theorem tw_686 : (Cond.methodLink RL 7 yX7_code : Cond) ∈ TW := twq3 (List.mem_of_getElem? (i := 143) rfl) rfl
theorem tw_687 : (Cond.instanceMethod yX7_code : Cond) ∈ TW := twq3 (List.mem_of_getElem? (i := 144) rfl) rfl
theorem tw_688 : (Cond.selects RX7 yX7_code yX7_code : Cond) ∈ TW := twq3 (List.mem_of_getElem? (i := 145) rfl) rfl
theorem tw_689 : (Cond.code yX7_code cX7_code 3 (some .int) : Cond) ∈ TW := twq3 (List.mem_of_getElem? (i := 146) rfl) rfl
theorem tw_690 : (Cond.methodLink RX7 102 yX7_isCell : Cond) ∈ TW := twq3 (List.mem_of_getElem? (i := 147) rfl) rfl
theorem tw_691 : (Cond.static yX7_isCell : Cond) ∈ TW := twq3 (List.mem_of_getElem? (i := 148) rfl) rfl
theorem tw_692 : (Cond.code yX7_isCell cX7_isCell 2 (some .boolean) : Cond) ∈ TW := twq3 (List.mem_of_getElem? (i := 149) rfl) rfl
theorem tw_693 : (Cond.classLink RX7 106 "java/lang/IndexOutOfBoundsException" : Cond) ∈ TW := twq3 (List.mem_of_getElem? (i := 150) rfl) rfl
theorem tw_694 : (Cond.instantiable "java/lang/IndexOutOfBoundsException" 6 : Cond) ∈ TW := twq3 (List.mem_of_getElem? (i := 151) rfl) rfl
theorem tw_718 : (Cond.methodLink "java/lang/Throwable" 1 objectInit : Cond) ∈ TW := twq3 (List.mem_of_getElem? (i := 175) rfl) rfl
theorem tw_731 : (Cond.instantiable "java/lang/Throwable" 6 : Cond) ∈ TW := twq3 (List.mem_of_getElem? (i := 188) rfl) rfl
theorem tw_755 : (Cond.methodLink RL 87 yL_look : Cond) ∈ TW := twq3 (List.mem_of_getElem? (i := 212) rfl) rfl
theorem tw_756 : (Cond.static yL_look : Cond) ∈ TW := twq3 (List.mem_of_getElem? (i := 213) rfl) rfl
theorem tw_757 : (Cond.codeWith yL_look cL_look 5 (some .int) [(0, 10, 13, 13)] : Cond) ∈ TW := twq3 (List.mem_of_getElem? (i := 214) rfl) rfl
theorem tw_758 : (Cond.methodLink RL 15 yX7_look : Cond) ∈ TW := twq3 (List.mem_of_getElem? (i := 215) rfl) rfl
theorem tw_759 : (Cond.instanceMethod yX7_look : Cond) ∈ TW := twq3 (List.mem_of_getElem? (i := 216) rfl) rfl
theorem tw_760 : (Cond.selects RX7 yX7_look yX7_look : Cond) ∈ TW := twq3 (List.mem_of_getElem? (i := 217) rfl) rfl
theorem tw_761 : (Cond.code yX7_look cX7_look 3 (some .int) : Cond) ∈ TW := twq3 (List.mem_of_getElem? (i := 218) rfl) rfl
theorem tw_762 : (Cond.methodLink RL 98 yL_reply : Cond) ∈ TW := twq3 (List.mem_of_getElem? (i := 219) rfl) rfl
theorem tw_763 : (Cond.static yL_reply : Cond) ∈ TW := twq3 (List.mem_of_getElem? (i := 220) rfl) rfl
theorem tw_764 : (Cond.codeWith yL_reply cL_reply 3 (some .int) [(0, 8, 11, 22)] : Cond) ∈ TW := twq3 (List.mem_of_getElem? (i := 221) rfl) rfl
theorem tw_765 : (Cond.classLink RL 22 "java/util/NoSuchElementException" : Cond) ∈ TW := twq3 (List.mem_of_getElem? (i := 222) rfl) rfl
theorem tw_766 : (Cond.methodLink RL 18 yX7_reply : Cond) ∈ TW := twq3 (List.mem_of_getElem? (i := 223) rfl) rfl
theorem tw_767 : (Cond.instanceMethod yX7_reply : Cond) ∈ TW := twq3 (List.mem_of_getElem? (i := 224) rfl) rfl
theorem tw_768 : (Cond.selects RX7 yX7_reply yX7_reply : Cond) ∈ TW := twq3 (List.mem_of_getElem? (i := 225) rfl) rfl
theorem tw_769 : (Cond.code yX7_reply cX7_reply 1 (some .int) : Cond) ∈ TW := twq3 (List.mem_of_getElem? (i := 226) rfl) rfl
theorem tw_770 : (Cond.classLink RX7 129 "java/util/NoSuchElementException" : Cond) ∈ TW := twq3 (List.mem_of_getElem? (i := 227) rfl) rfl
theorem tw_771 : (Cond.instantiable "java/util/NoSuchElementException" 6 : Cond) ∈ TW := twq3 (List.mem_of_getElem? (i := 228) rfl) rfl
theorem tw_785 : (Cond.methodLink RX7 132 yX4_takeFirst : Cond) ∈ TW := twq4 (List.mem_of_getElem? (i := 2) rfl) rfl
theorem tw_786 : (Cond.instanceMethod yX4_takeFirst : Cond) ∈ TW := twq4 (List.mem_of_getElem? (i := 3) rfl) rfl
theorem tw_787 : (Cond.selects RX4 yX4_takeFirst yX4_takeFirst : Cond) ∈ TW := twq4 (List.mem_of_getElem? (i := 4) rfl) rfl
theorem tw_788 : (Cond.code yX4_takeFirst cX4_takeFirst 3 (some .int) : Cond) ∈ TW := twq4 (List.mem_of_getElem? (i := 5) rfl) rfl
theorem tw_789 : (Cond.classLink RL 25 RX8 : Cond) ∈ TW := twq4 (List.mem_of_getElem? (i := 6) rfl) rfl
theorem tw_790 : (Cond.instantiable RX8 40 : Cond) ∈ TW := twq4 (List.mem_of_getElem? (i := 7) rfl) rfl
theorem tw_791 : (Cond.methodLink RL 27 yX8_init : Cond) ∈ TW := twq4 (List.mem_of_getElem? (i := 8) rfl) rfl
theorem tw_792 : (Cond.instanceMethod yX8_init : Cond) ∈ TW := twq4 (List.mem_of_getElem? (i := 9) rfl) rfl
theorem tw_793 : (Cond.code yX8_init cX8_init 1 none : Cond) ∈ TW := twq4 (List.mem_of_getElem? (i := 10) rfl) rfl
theorem tw_794 : (Cond.methodLink RX8 1 objectInit : Cond) ∈ TW := twq4 (List.mem_of_getElem? (i := 11) rfl) rfl
theorem tw_795 : (Cond.methodLink RX8 38 yX8_first : Cond) ∈ TW := twq4 (List.mem_of_getElem? (i := 12) rfl) rfl
theorem tw_797 : (Cond.instanceMethod yX8_first : Cond) ∈ TW := twq4 (List.mem_of_getElem? (i := 14) rfl) rfl
theorem tw_798 : (Cond.code yX8_first cX8_first 2 none : Cond) ∈ TW := twq4 (List.mem_of_getElem? (i := 15) rfl) rfl
theorem tw_799 : (Cond.methodLink RX8 45 yX8_blank : Cond) ∈ TW := twq4 (List.mem_of_getElem? (i := 16) rfl) rfl
theorem tw_801 : (Cond.instanceMethod yX8_blank : Cond) ∈ TW := twq4 (List.mem_of_getElem? (i := 18) rfl) rfl
theorem tw_802 : (Cond.code yX8_blank cX8_blank 2 none : Cond) ∈ TW := twq4 (List.mem_of_getElem? (i := 19) rfl) rfl
theorem tw_803 : (Cond.methodLink RX8 52 yX8_place : Cond) ∈ TW := twq4 (List.mem_of_getElem? (i := 20) rfl) rfl
theorem tw_805 : (Cond.instanceMethod yX8_place : Cond) ∈ TW := twq4 (List.mem_of_getElem? (i := 22) rfl) rfl
theorem tw_806 : (Cond.code yX8_place cX8_place 3 none : Cond) ∈ TW := twq4 (List.mem_of_getElem? (i := 23) rfl) rfl
theorem tw_807 : (Cond.methodLink RX8 56 yX8_setPen : Cond) ∈ TW := twq4 (List.mem_of_getElem? (i := 24) rfl) rfl
theorem tw_809 : (Cond.instanceMethod yX8_setPen : Cond) ∈ TW := twq4 (List.mem_of_getElem? (i := 26) rfl) rfl
theorem tw_810 : (Cond.code yX8_setPen cX8_setPen 2 none : Cond) ∈ TW := twq4 (List.mem_of_getElem? (i := 27) rfl) rfl
theorem tw_811 : (Cond.methodLink RX8 75 yX8_save : Cond) ∈ TW := twq4 (List.mem_of_getElem? (i := 28) rfl) rfl
theorem tw_813 : (Cond.instanceMethod yX8_save : Cond) ∈ TW := twq4 (List.mem_of_getElem? (i := 30) rfl) rfl
theorem tw_814 : (Cond.code yX8_save cX8_save 1 none : Cond) ∈ TW := twq4 (List.mem_of_getElem? (i := 31) rfl) rfl
theorem tw_815 : (Cond.methodLink RX8 129 yX8_penNow : Cond) ∈ TW := twq4 (List.mem_of_getElem? (i := 32) rfl) rfl
theorem tw_817 : (Cond.instanceMethod yX8_penNow : Cond) ∈ TW := twq4 (List.mem_of_getElem? (i := 34) rfl) rfl
theorem tw_818 : (Cond.code yX8_penNow cX8_penNow 1 (some .int) : Cond) ∈ TW := twq4 (List.mem_of_getElem? (i := 35) rfl) rfl
theorem tw_819 : (Cond.fieldLink RX8 7 "ScreenDeskModel" "codes" "[I" : Cond) ∈ TW := twq4 (List.mem_of_getElem? (i := 36) rfl) rfl
theorem tw_820 : (Cond.fieldLink RX8 13 "ScreenDeskModel" "looks" "[I" : Cond) ∈ TW := twq4 (List.mem_of_getElem? (i := 37) rfl) rfl
theorem tw_821 : (Cond.fieldLink RX8 16 "ScreenDeskModel" "copyCodes" "[I" : Cond) ∈ TW := twq4 (List.mem_of_getElem? (i := 38) rfl) rfl
theorem tw_822 : (Cond.fieldLink RX8 19 "ScreenDeskModel" "copyLooks" "[I" : Cond) ∈ TW := twq4 (List.mem_of_getElem? (i := 39) rfl) rfl
theorem tw_823 : (Cond.fieldLink RX8 49 "ScreenDeskModel" "page" "I" : Cond) ∈ TW := twq4 (List.mem_of_getElem? (i := 40) rfl) rfl
theorem tw_824 : (Cond.fieldLink RX8 96 "ScreenDeskModel" "row" "I" : Cond) ∈ TW := twq4 (List.mem_of_getElem? (i := 41) rfl) rfl
theorem tw_825 : (Cond.fieldLink RX8 99 "ScreenDeskModel" "column" "I" : Cond) ∈ TW := twq4 (List.mem_of_getElem? (i := 42) rfl) rfl
theorem tw_826 : (Cond.fieldLink RX8 59 "ScreenDeskModel" "top" "I" : Cond) ∈ TW := twq4 (List.mem_of_getElem? (i := 43) rfl) rfl
theorem tw_827 : (Cond.fieldLink RX8 62 "ScreenDeskModel" "bottom" "I" : Cond) ∈ TW := twq4 (List.mem_of_getElem? (i := 44) rfl) rfl
theorem tw_828 : (Cond.fieldLink RX8 102 "ScreenDeskModel" "full" "Z" : Cond) ∈ TW := twq4 (List.mem_of_getElem? (i := 45) rfl) rfl
theorem tw_829 : (Cond.fieldLink RX8 65 "ScreenDeskModel" "insert" "Z" : Cond) ∈ TW := twq4 (List.mem_of_getElem? (i := 46) rfl) rfl
theorem tw_830 : (Cond.fieldLink RX8 69 "ScreenDeskModel" "origin" "Z" : Cond) ∈ TW := twq4 (List.mem_of_getElem? (i := 47) rfl) rfl
theorem tw_831 : (Cond.fieldLink RX8 72 "ScreenDeskModel" "wrap" "Z" : Cond) ∈ TW := twq4 (List.mem_of_getElem? (i := 48) rfl) rfl
theorem tw_832 : (Cond.fieldLink RX8 105 "ScreenDeskModel" "bold" "I" : Cond) ∈ TW := twq4 (List.mem_of_getElem? (i := 49) rfl) rfl
theorem tw_833 : (Cond.fieldLink RX8 108 "ScreenDeskModel" "under" "I" : Cond) ∈ TW := twq4 (List.mem_of_getElem? (i := 50) rfl) rfl
theorem tw_834 : (Cond.fieldLink RX8 111 "ScreenDeskModel" "reverse" "I" : Cond) ∈ TW := twq4 (List.mem_of_getElem? (i := 51) rfl) rfl
theorem tw_835 : (Cond.fieldLink RX8 114 "ScreenDeskModel" "colour" "I" : Cond) ∈ TW := twq4 (List.mem_of_getElem? (i := 52) rfl) rfl
theorem tw_836 : (Cond.fieldLink RX8 117 "ScreenDeskModel" "ground" "I" : Cond) ∈ TW := twq4 (List.mem_of_getElem? (i := 53) rfl) rfl
theorem tw_837 : (Cond.fieldLink RX8 120 "ScreenDeskModel" "savedRow" "I" : Cond) ∈ TW := twq4 (List.mem_of_getElem? (i := 54) rfl) rfl
theorem tw_838 : (Cond.fieldLink RX8 123 "ScreenDeskModel" "savedColumn" "I" : Cond) ∈ TW := twq4 (List.mem_of_getElem? (i := 55) rfl) rfl
theorem tw_839 : (Cond.fieldLink RX8 133 "ScreenDeskModel" "savedPen" "I" : Cond) ∈ TW := twq4 (List.mem_of_getElem? (i := 56) rfl) rfl
theorem tw_840 : (Cond.fieldLink RX8 126 "ScreenDeskModel" "savedFull" "Z" : Cond) ∈ TW := twq4 (List.mem_of_getElem? (i := 57) rfl) rfl
theorem tw_841 : (Cond.fieldLink RX8 136 "ScreenDeskModel" "savedOrigin" "Z" : Cond) ∈ TW := twq4 (List.mem_of_getElem? (i := 58) rfl) rfl
theorem tw_842 : (Cond.fieldLink RX8 22 "ScreenDeskModel" "stops" "[Z" : Cond) ∈ TW := twq4 (List.mem_of_getElem? (i := 59) rfl) rfl
theorem tw_843 : (Cond.fieldLink RX8 90 "ScreenDeskModel" "state" "I" : Cond) ∈ TW := twq4 (List.mem_of_getElem? (i := 60) rfl) rfl
theorem tw_844 : (Cond.fieldLink RX8 78 "ScreenDeskModel" "printed" "I" : Cond) ∈ TW := twq4 (List.mem_of_getElem? (i := 61) rfl) rfl
theorem tw_845 : (Cond.fieldLink RX8 81 "ScreenDeskModel" "bells" "I" : Cond) ∈ TW := twq4 (List.mem_of_getElem? (i := 62) rfl) rfl
theorem tw_846 : (Cond.fieldLink RX8 26 "ScreenDeskModel" "replies" "[I" : Cond) ∈ TW := twq4 (List.mem_of_getElem? (i := 63) rfl) rfl
theorem tw_847 : (Cond.fieldLink RX8 84 "ScreenDeskModel" "waits" "I" : Cond) ∈ TW := twq4 (List.mem_of_getElem? (i := 64) rfl) rfl
theorem tw_848 : (Cond.fieldLink RX8 29 "ScreenDeskModel" "title" "[I" : Cond) ∈ TW := twq4 (List.mem_of_getElem? (i := 65) rfl) rfl
theorem tw_849 : (Cond.fieldLink RX8 32 "ScreenDeskModel" "collected" "[I" : Cond) ∈ TW := twq4 (List.mem_of_getElem? (i := 66) rfl) rfl
theorem tw_850 : (Cond.fieldLink RX8 87 "ScreenDeskModel" "titleSize" "I" : Cond) ∈ TW := twq4 (List.mem_of_getElem? (i := 67) rfl) rfl
theorem tw_851 : (Cond.fieldLink RX8 192 "ScreenDeskModel" "collectedSize" "I" : Cond) ∈ TW := twq4 (List.mem_of_getElem? (i := 68) rfl) rfl
theorem tw_852 : (Cond.fieldLink RX8 93 "ScreenDeskModel" "bytes" "I" : Cond) ∈ TW := twq4 (List.mem_of_getElem? (i := 69) rfl) rfl
theorem tw_853 : (Cond.fieldLink RX8 185 "ScreenDeskModel" "there" "I" : Cond) ∈ TW := twq4 (List.mem_of_getElem? (i := 70) rfl) rfl
theorem tw_854 : (Cond.fieldLink RX8 182 "ScreenDeskModel" "letter" "I" : Cond) ∈ TW := twq4 (List.mem_of_getElem? (i := 71) rfl) rfl
theorem tw_855 : (Cond.fieldLink RX8 35 "ScreenDeskModel" "numbers" "[I" : Cond) ∈ TW := twq4 (List.mem_of_getElem? (i := 72) rfl) rfl
theorem tw_856 : (Cond.fieldLink RX8 195 "ScreenDeskModel" "begun" "I" : Cond) ∈ TW := twq4 (List.mem_of_getElem? (i := 73) rfl) rfl
theorem tw_857 : (Cond.fieldLink RX8 198 "ScreenDeskModel" "isPrivate" "Z" : Cond) ∈ TW := twq4 (List.mem_of_getElem? (i := 74) rfl) rfl
theorem tw_858 : (Cond.fieldLink RX8 41 "ScreenDeskModel" "thrown" "I" : Cond) ∈ TW := twq4 (List.mem_of_getElem? (i := 75) rfl) rfl
theorem tw_940 : (Cond.arrayClass .boolean : Cond) ∈ TW := twq4 (List.mem_of_getElem? (i := 157) rfl) rfl
theorem tw_941 : (Cond.methodLink RL 84 yX8_thrown : Cond) ∈ TW := twq4 (List.mem_of_getElem? (i := 158) rfl) rfl
theorem tw_942 : (Cond.instanceMethod yX8_thrown : Cond) ∈ TW := twq4 (List.mem_of_getElem? (i := 159) rfl) rfl
theorem tw_943 : (Cond.selects RX8 yX8_thrown yX8_thrown : Cond) ∈ TW := twq4 (List.mem_of_getElem? (i := 160) rfl) rfl
theorem tw_944 : (Cond.code yX8_thrown cX8_thrown 1 (some .int) : Cond) ∈ TW := twq4 (List.mem_of_getElem? (i := 161) rfl) rfl
theorem tw_945 : (Cond.methodLink RL 32 yX8_feed : Cond) ∈ TW := twq4 (List.mem_of_getElem? (i := 162) rfl) rfl
theorem tw_946 : (Cond.instanceMethod yX8_feed : Cond) ∈ TW := twq4 (List.mem_of_getElem? (i := 163) rfl) rfl
theorem tw_947 : (Cond.selects RX8 yX8_feed yX8_feed : Cond) ∈ TW := twq4 (List.mem_of_getElem? (i := 164) rfl) rfl
theorem tw_948 : (Cond.code yX8_feed cX8_feed 2 (some .boolean) : Cond) ∈ TW := twq4 (List.mem_of_getElem? (i := 165) rfl) rfl
theorem tw_949 : (Cond.methodLink RX8 154 yX8_take : Cond) ∈ TW := twq4 (List.mem_of_getElem? (i := 166) rfl) rfl
theorem tw_951 : (Cond.instanceMethod yX8_take : Cond) ∈ TW := twq4 (List.mem_of_getElem? (i := 168) rfl) rfl
theorem tw_952 : (Cond.code yX8_take cX8_take 2 none : Cond) ∈ TW := twq4 (List.mem_of_getElem? (i := 169) rfl) rfl
theorem tw_953 : (Cond.methodLink RX8 157 yX8_further : Cond) ∈ TW := twq4 (List.mem_of_getElem? (i := 170) rfl) rfl
theorem tw_955 : (Cond.instanceMethod yX8_further : Cond) ∈ TW := twq4 (List.mem_of_getElem? (i := 172) rfl) rfl
theorem tw_956 : (Cond.code yX8_further cX8_further 4 none : Cond) ∈ TW := twq4 (List.mem_of_getElem? (i := 173) rfl) rfl
theorem tw_957 : (Cond.constant RX8 188 (65536) : Cond) ∈ TW := twq4 (List.mem_of_getElem? (i := 174) rfl) rfl
theorem tw_958 : (Cond.constant RX8 189 (55296) : Cond) ∈ TW := twq4 (List.mem_of_getElem? (i := 175) rfl) rfl
theorem tw_959 : (Cond.constant RX8 190 (57343) : Cond) ∈ TW := twq4 (List.mem_of_getElem? (i := 176) rfl) rfl
theorem tw_960 : (Cond.constant RX8 191 (1114111) : Cond) ∈ TW := twq4 (List.mem_of_getElem? (i := 177) rfl) rfl
theorem tw_961 : (Cond.constant RX8 160 (65533) : Cond) ∈ TW := twq4 (List.mem_of_getElem? (i := 178) rfl) rfl
theorem tw_962 : (Cond.methodLink RX8 161 yX8_print : Cond) ∈ TW := twq4 (List.mem_of_getElem? (i := 179) rfl) rfl
theorem tw_964 : (Cond.instanceMethod yX8_print : Cond) ∈ TW := twq4 (List.mem_of_getElem? (i := 181) rfl) rfl
theorem tw_965 : (Cond.code yX8_print cX8_print 3 none : Cond) ∈ TW := twq4 (List.mem_of_getElem? (i := 182) rfl) rfl
theorem tw_966 : (Cond.methodLink RX8 148 yX8_feeding : Cond) ∈ TW := twq4 (List.mem_of_getElem? (i := 183) rfl) rfl
theorem tw_968 : (Cond.instanceMethod yX8_feeding : Cond) ∈ TW := twq4 (List.mem_of_getElem? (i := 185) rfl) rfl
theorem tw_969 : (Cond.code yX8_feeding cX8_feeding 1 none : Cond) ∈ TW := twq4 (List.mem_of_getElem? (i := 186) rfl) rfl
theorem tw_970 : (Cond.methodLink RX8 145 yX8_shiftRows : Cond) ∈ TW := twq4 (List.mem_of_getElem? (i := 187) rfl) rfl
theorem tw_972 : (Cond.instanceMethod yX8_shiftRows : Cond) ∈ TW := twq4 (List.mem_of_getElem? (i := 189) rfl) rfl
theorem tw_973 : (Cond.code yX8_shiftRows cX8_shiftRows 6 none : Cond) ∈ TW := twq4 (List.mem_of_getElem? (i := 190) rfl) rfl
theorem tw_974 : (Cond.methodLink RX8 139 yX8_remember : Cond) ∈ TW := twq4 (List.mem_of_getElem? (i := 191) rfl) rfl
theorem tw_976 : (Cond.instanceMethod yX8_remember : Cond) ∈ TW := twq4 (List.mem_of_getElem? (i := 193) rfl) rfl
theorem tw_977 : (Cond.code yX8_remember cX8_remember 2 none : Cond) ∈ TW := twq4 (List.mem_of_getElem? (i := 194) rfl) rfl
theorem tw_978 : (Cond.methodLink RX8 142 yX8_recall : Cond) ∈ TW := twq4 (List.mem_of_getElem? (i := 195) rfl) rfl
theorem tw_980 : (Cond.instanceMethod yX8_recall : Cond) ∈ TW := twq4 (List.mem_of_getElem? (i := 197) rfl) rfl
theorem tw_981 : (Cond.code yX8_recall cX8_recall 4 none : Cond) ∈ TW := twq4 (List.mem_of_getElem? (i := 198) rfl) rfl
theorem tw_982 : (Cond.methodLink RX8 151 yX8_shiftCells : Cond) ∈ TW := twq4 (List.mem_of_getElem? (i := 199) rfl) rfl
theorem tw_984 : (Cond.instanceMethod yX8_shiftCells : Cond) ∈ TW := twq4 (List.mem_of_getElem? (i := 201) rfl) rfl
theorem tw_985 : (Cond.code yX8_shiftCells cX8_shiftCells 4 none : Cond) ∈ TW := twq4 (List.mem_of_getElem? (i := 202) rfl) rfl
theorem tw_986 : (Cond.methodLink RX8 164 yX8_control : Cond) ∈ TW := twq4 (List.mem_of_getElem? (i := 203) rfl) rfl
theorem tw_988 : (Cond.instanceMethod yX8_control : Cond) ∈ TW := twq4 (List.mem_of_getElem? (i := 205) rfl) rfl
theorem tw_989 : (Cond.code yX8_control cX8_control 5 none : Cond) ∈ TW := twq4 (List.mem_of_getElem? (i := 206) rfl) rfl
theorem tw_990 : (Cond.methodLink RX8 167 yX8_letterByte : Cond) ∈ TW := twq4 (List.mem_of_getElem? (i := 207) rfl) rfl
theorem tw_992 : (Cond.instanceMethod yX8_letterByte : Cond) ∈ TW := twq4 (List.mem_of_getElem? (i := 209) rfl) rfl
theorem tw_993 : (Cond.code yX8_letterByte cX8_letterByte 2 none : Cond) ∈ TW := twq4 (List.mem_of_getElem? (i := 210) rfl) rfl
theorem tw_994 : (Cond.methodLink RX8 170 yX8_sequenceByte : Cond) ∈ TW := twq4 (List.mem_of_getElem? (i := 211) rfl) rfl
theorem tw_996 : (Cond.instanceMethod yX8_sequenceByte : Cond) ∈ TW := twq4 (List.mem_of_getElem? (i := 213) rfl) rfl
theorem tw_997 : (Cond.code yX8_sequenceByte cX8_sequenceByte 2 none : Cond) ∈ TW := twq4 (List.mem_of_getElem? (i := 214) rfl) rfl
theorem tw_998 : (Cond.methodLink RX8 173 yX8_escape : Cond) ∈ TW := twq4 (List.mem_of_getElem? (i := 215) rfl) rfl
theorem tw_1000 : (Cond.instanceMethod yX8_escape : Cond) ∈ TW := twq4 (List.mem_of_getElem? (i := 217) rfl) rfl
theorem tw_1001 : (Cond.code yX8_escape cX8_escape 3 none : Cond) ∈ TW := twq4 (List.mem_of_getElem? (i := 218) rfl) rfl
theorem tw_1002 : (Cond.methodLink RX8 201 yX8_bring : Cond) ∈ TW := twq4 (List.mem_of_getElem? (i := 219) rfl) rfl
theorem tw_1004 : (Cond.instanceMethod yX8_bring : Cond) ∈ TW := twq4 (List.mem_of_getElem? (i := 221) rfl) rfl
theorem tw_1005 : (Cond.code yX8_bring cX8_bring 1 none : Cond) ∈ TW := twq4 (List.mem_of_getElem? (i := 222) rfl) rfl
theorem tw_1006 : (Cond.methodLink RX8 204 yX8_backing : Cond) ∈ TW := twq4 (List.mem_of_getElem? (i := 223) rfl) rfl
theorem tw_1008 : (Cond.instanceMethod yX8_backing : Cond) ∈ TW := twq4 (List.mem_of_getElem? (i := 225) rfl) rfl
theorem tw_1009 : (Cond.code yX8_backing cX8_backing 1 none : Cond) ∈ TW := twq4 (List.mem_of_getElem? (i := 226) rfl) rfl
theorem tw_1010 : (Cond.methodLink RX8 176 yX8_sequence : Cond) ∈ TW := twq4 (List.mem_of_getElem? (i := 227) rfl) rfl
theorem tw_1012 : (Cond.instanceMethod yX8_sequence : Cond) ∈ TW := twq4 (List.mem_of_getElem? (i := 229) rfl) rfl
theorem tw_1013 : (Cond.code yX8_sequence cX8_sequence 3 none : Cond) ∈ TW := twq4 (List.mem_of_getElem? (i := 230) rfl) rfl
theorem tw_1014 : (Cond.methodLink RX8 207 yX8_privately : Cond) ∈ TW := twq4 (List.mem_of_getElem? (i := 231) rfl) rfl
theorem tw_1016 : (Cond.instanceMethod yX8_privately : Cond) ∈ TW := twq4 (List.mem_of_getElem? (i := 233) rfl) rfl
theorem tw_1017 : (Cond.code yX8_privately cX8_privately 4 none : Cond) ∈ TW := twq4 (List.mem_of_getElem? (i := 234) rfl) rfl
theorem tw_1018 : (Cond.methodLink RX8 213 yX8_kept : Cond) ∈ TW := twq4 (List.mem_of_getElem? (i := 235) rfl) rfl
theorem tw_1020 : (Cond.instanceMethod yX8_kept : Cond) ∈ TW := twq4 (List.mem_of_getElem? (i := 237) rfl) rfl
theorem tw_1021 : (Cond.code yX8_kept cX8_kept 1 (some .int) : Cond) ∈ TW := twq4 (List.mem_of_getElem? (i := 238) rfl) rfl
theorem tw_1022 : (Cond.methodLink RX8 216 yX8_home : Cond) ∈ TW := twq4 (List.mem_of_getElem? (i := 239) rfl) rfl
theorem tw_1024 : (Cond.instanceMethod yX8_home : Cond) ∈ TW := twq5 (List.mem_of_getElem? (i := 1) rfl) rfl
theorem tw_1025 : (Cond.code yX8_home cX8_home 4 none : Cond) ∈ TW := twq5 (List.mem_of_getElem? (i := 2) rfl) rfl
theorem tw_1026 : (Cond.methodLink RX8 222 yX8_atMost : Cond) ∈ TW := twq5 (List.mem_of_getElem? (i := 3) rfl) rfl
theorem tw_1027 : (Cond.static yX8_atMost : Cond) ∈ TW := twq5 (List.mem_of_getElem? (i := 4) rfl) rfl
theorem tw_1028 : (Cond.code yX8_atMost cX8_atMost 2 (some .int) : Cond) ∈ TW := twq5 (List.mem_of_getElem? (i := 5) rfl) rfl
theorem tw_1029 : (Cond.methodLink RX8 219 yX8_clear : Cond) ∈ TW := twq5 (List.mem_of_getElem? (i := 6) rfl) rfl
theorem tw_1031 : (Cond.instanceMethod yX8_clear : Cond) ∈ TW := twq5 (List.mem_of_getElem? (i := 8) rfl) rfl
theorem tw_1032 : (Cond.code yX8_clear cX8_clear 4 none : Cond) ∈ TW := twq5 (List.mem_of_getElem? (i := 9) rfl) rfl
theorem tw_1033 : (Cond.methodLink RX8 210 yX8_doIt : Cond) ∈ TW := twq5 (List.mem_of_getElem? (i := 10) rfl) rfl
theorem tw_1035 : (Cond.instanceMethod yX8_doIt : Cond) ∈ TW := twq5 (List.mem_of_getElem? (i := 12) rfl) rfl
theorem tw_1036 : (Cond.code yX8_doIt cX8_doIt 3 none : Cond) ∈ TW := twq5 (List.mem_of_getElem? (i := 13) rfl) rfl
theorem tw_1037 : (Cond.methodLink RX8 229 yX8_above : Cond) ∈ TW := twq5 (List.mem_of_getElem? (i := 14) rfl) rfl
theorem tw_1039 : (Cond.instanceMethod yX8_above : Cond) ∈ TW := twq5 (List.mem_of_getElem? (i := 16) rfl) rfl
theorem tw_1040 : (Cond.code yX8_above cX8_above 2 (some .int) : Cond) ∈ TW := twq5 (List.mem_of_getElem? (i := 17) rfl) rfl
theorem tw_1041 : (Cond.methodLink RX8 226 yX8_atLeast : Cond) ∈ TW := twq5 (List.mem_of_getElem? (i := 18) rfl) rfl
theorem tw_1042 : (Cond.static yX8_atLeast : Cond) ∈ TW := twq5 (List.mem_of_getElem? (i := 19) rfl) rfl
theorem tw_1043 : (Cond.code yX8_atLeast cX8_atLeast 2 (some .int) : Cond) ∈ TW := twq5 (List.mem_of_getElem? (i := 20) rfl) rfl
theorem tw_1044 : (Cond.methodLink RX8 233 yX8_below : Cond) ∈ TW := twq5 (List.mem_of_getElem? (i := 21) rfl) rfl
theorem tw_1046 : (Cond.instanceMethod yX8_below : Cond) ∈ TW := twq5 (List.mem_of_getElem? (i := 23) rfl) rfl
theorem tw_1047 : (Cond.code yX8_below cX8_below 2 (some .int) : Cond) ∈ TW := twq5 (List.mem_of_getElem? (i := 24) rfl) rfl
theorem tw_1048 : (Cond.methodLink RX8 236 yX8_change : Cond) ∈ TW := twq5 (List.mem_of_getElem? (i := 25) rfl) rfl
theorem tw_1050 : (Cond.instanceMethod yX8_change : Cond) ∈ TW := twq5 (List.mem_of_getElem? (i := 27) rfl) rfl
theorem tw_1051 : (Cond.code yX8_change cX8_change 6 none : Cond) ∈ TW := twq5 (List.mem_of_getElem? (i := 28) rfl) rfl
theorem tw_1052 : (Cond.methodLink RX8 239 yX8_set : Cond) ∈ TW := twq5 (List.mem_of_getElem? (i := 29) rfl) rfl
theorem tw_1054 : (Cond.instanceMethod yX8_set : Cond) ∈ TW := twq5 (List.mem_of_getElem? (i := 31) rfl) rfl
theorem tw_1055 : (Cond.code yX8_set cX8_set 5 none : Cond) ∈ TW := twq5 (List.mem_of_getElem? (i := 32) rfl) rfl
theorem tw_1056 : (Cond.methodLink RX8 242 yX8_dip : Cond) ∈ TW := twq5 (List.mem_of_getElem? (i := 33) rfl) rfl
theorem tw_1058 : (Cond.instanceMethod yX8_dip : Cond) ∈ TW := twq5 (List.mem_of_getElem? (i := 35) rfl) rfl
theorem tw_1059 : (Cond.code yX8_dip cX8_dip 2 none : Cond) ∈ TW := twq5 (List.mem_of_getElem? (i := 36) rfl) rfl
theorem tw_1060 : (Cond.methodLink RX8 245 yX8_answer : Cond) ∈ TW := twq5 (List.mem_of_getElem? (i := 37) rfl) rfl
theorem tw_1062 : (Cond.instanceMethod yX8_answer : Cond) ∈ TW := twq5 (List.mem_of_getElem? (i := 39) rfl) rfl
theorem tw_1063 : (Cond.code yX8_answer cX8_answer 4 none : Cond) ∈ TW := twq5 (List.mem_of_getElem? (i := 40) rfl) rfl
theorem tw_1064 : (Cond.methodLink RX8 248 yX8_put : Cond) ∈ TW := twq5 (List.mem_of_getElem? (i := 41) rfl) rfl
theorem tw_1066 : (Cond.instanceMethod yX8_put : Cond) ∈ TW := twq5 (List.mem_of_getElem? (i := 43) rfl) rfl
theorem tw_1067 : (Cond.code yX8_put cX8_put 2 none : Cond) ∈ TW := twq5 (List.mem_of_getElem? (i := 44) rfl) rfl
theorem tw_1068 : (Cond.methodLink RX8 179 yX8_titleByte : Cond) ∈ TW := twq5 (List.mem_of_getElem? (i := 45) rfl) rfl
theorem tw_1070 : (Cond.instanceMethod yX8_titleByte : Cond) ∈ TW := twq5 (List.mem_of_getElem? (i := 47) rfl) rfl
theorem tw_1071 : (Cond.code yX8_titleByte cX8_titleByte 3 none : Cond) ∈ TW := twq5 (List.mem_of_getElem? (i := 48) rfl) rfl
theorem tw_1072 : (Cond.methodLink RL 39 yX8_feedAll : Cond) ∈ TW := twq5 (List.mem_of_getElem? (i := 49) rfl) rfl
theorem tw_1073 : (Cond.instanceMethod yX8_feedAll : Cond) ∈ TW := twq5 (List.mem_of_getElem? (i := 50) rfl) rfl
theorem tw_1074 : (Cond.selects RX8 yX8_feedAll yX8_feedAll : Cond) ∈ TW := twq5 (List.mem_of_getElem? (i := 51) rfl) rfl
theorem tw_1075 : (Cond.code yX8_feedAll cX8_feedAll 7 (some .int) : Cond) ∈ TW := twq5 (List.mem_of_getElem? (i := 52) rfl) rfl
theorem tw_1076 : (Cond.methodLink RL 43 yX8_row : Cond) ∈ TW := twq5 (List.mem_of_getElem? (i := 53) rfl) rfl
theorem tw_1077 : (Cond.instanceMethod yX8_row : Cond) ∈ TW := twq5 (List.mem_of_getElem? (i := 54) rfl) rfl
theorem tw_1078 : (Cond.selects RX8 yX8_row yX8_row : Cond) ∈ TW := twq5 (List.mem_of_getElem? (i := 55) rfl) rfl
theorem tw_1079 : (Cond.code yX8_row cX8_row 1 (some .int) : Cond) ∈ TW := twq5 (List.mem_of_getElem? (i := 56) rfl) rfl
theorem tw_1080 : (Cond.methodLink RL 47 yX8_column : Cond) ∈ TW := twq5 (List.mem_of_getElem? (i := 57) rfl) rfl
theorem tw_1081 : (Cond.instanceMethod yX8_column : Cond) ∈ TW := twq5 (List.mem_of_getElem? (i := 58) rfl) rfl
theorem tw_1082 : (Cond.selects RX8 yX8_column yX8_column : Cond) ∈ TW := twq5 (List.mem_of_getElem? (i := 59) rfl) rfl
theorem tw_1083 : (Cond.code yX8_column cX8_column 1 (some .int) : Cond) ∈ TW := twq5 (List.mem_of_getElem? (i := 60) rfl) rfl
theorem tw_1084 : (Cond.methodLink RL 52 yX8_full : Cond) ∈ TW := twq5 (List.mem_of_getElem? (i := 61) rfl) rfl
theorem tw_1085 : (Cond.instanceMethod yX8_full : Cond) ∈ TW := twq5 (List.mem_of_getElem? (i := 62) rfl) rfl
theorem tw_1086 : (Cond.selects RX8 yX8_full yX8_full : Cond) ∈ TW := twq5 (List.mem_of_getElem? (i := 63) rfl) rfl
theorem tw_1087 : (Cond.code yX8_full cX8_full 1 (some .boolean) : Cond) ∈ TW := twq5 (List.mem_of_getElem? (i := 64) rfl) rfl
theorem tw_1088 : (Cond.methodLink RL 56 yX8_pen : Cond) ∈ TW := twq5 (List.mem_of_getElem? (i := 65) rfl) rfl
theorem tw_1089 : (Cond.instanceMethod yX8_pen : Cond) ∈ TW := twq5 (List.mem_of_getElem? (i := 66) rfl) rfl
theorem tw_1090 : (Cond.selects RX8 yX8_pen yX8_pen : Cond) ∈ TW := twq5 (List.mem_of_getElem? (i := 67) rfl) rfl
theorem tw_1091 : (Cond.code yX8_pen cX8_pen 1 (some .int) : Cond) ∈ TW := twq5 (List.mem_of_getElem? (i := 68) rfl) rfl
theorem tw_1092 : (Cond.methodLink RL 61 yX8_mode : Cond) ∈ TW := twq5 (List.mem_of_getElem? (i := 69) rfl) rfl
theorem tw_1093 : (Cond.instanceMethod yX8_mode : Cond) ∈ TW := twq5 (List.mem_of_getElem? (i := 70) rfl) rfl
theorem tw_1094 : (Cond.selects RX8 yX8_mode yX8_mode : Cond) ∈ TW := twq5 (List.mem_of_getElem? (i := 71) rfl) rfl
theorem tw_1095 : (Cond.code yX8_mode cX8_mode 3 (some .int) : Cond) ∈ TW := twq5 (List.mem_of_getElem? (i := 72) rfl) rfl
theorem tw_1096 : (Cond.methodLink RL 65 yX8_region : Cond) ∈ TW := twq5 (List.mem_of_getElem? (i := 73) rfl) rfl
theorem tw_1097 : (Cond.instanceMethod yX8_region : Cond) ∈ TW := twq5 (List.mem_of_getElem? (i := 74) rfl) rfl
theorem tw_1098 : (Cond.selects RX8 yX8_region yX8_region : Cond) ∈ TW := twq5 (List.mem_of_getElem? (i := 75) rfl) rfl
theorem tw_1099 : (Cond.code yX8_region cX8_region 1 (some .int) : Cond) ∈ TW := twq5 (List.mem_of_getElem? (i := 76) rfl) rfl
theorem tw_1100 : (Cond.methodLink RL 69 yX8_tab : Cond) ∈ TW := twq5 (List.mem_of_getElem? (i := 77) rfl) rfl
theorem tw_1101 : (Cond.instanceMethod yX8_tab : Cond) ∈ TW := twq5 (List.mem_of_getElem? (i := 78) rfl) rfl
theorem tw_1102 : (Cond.selects RX8 yX8_tab yX8_tab : Cond) ∈ TW := twq5 (List.mem_of_getElem? (i := 79) rfl) rfl
theorem tw_1103 : (Cond.code yX8_tab cX8_tab 2 (some .boolean) : Cond) ∈ TW := twq5 (List.mem_of_getElem? (i := 80) rfl) rfl
theorem tw_1104 : (Cond.methodLink RL 73 yX8_bells : Cond) ∈ TW := twq5 (List.mem_of_getElem? (i := 81) rfl) rfl
theorem tw_1105 : (Cond.instanceMethod yX8_bells : Cond) ∈ TW := twq5 (List.mem_of_getElem? (i := 82) rfl) rfl
theorem tw_1106 : (Cond.selects RX8 yX8_bells yX8_bells : Cond) ∈ TW := twq5 (List.mem_of_getElem? (i := 83) rfl) rfl
theorem tw_1107 : (Cond.code yX8_bells cX8_bells 1 (some .int) : Cond) ∈ TW := twq5 (List.mem_of_getElem? (i := 84) rfl) rfl
theorem tw_1108 : (Cond.methodLink RL 77 yX8_state : Cond) ∈ TW := twq5 (List.mem_of_getElem? (i := 85) rfl) rfl
theorem tw_1109 : (Cond.instanceMethod yX8_state : Cond) ∈ TW := twq5 (List.mem_of_getElem? (i := 86) rfl) rfl
theorem tw_1110 : (Cond.selects RX8 yX8_state yX8_state : Cond) ∈ TW := twq5 (List.mem_of_getElem? (i := 87) rfl) rfl
theorem tw_1111 : (Cond.code yX8_state cX8_state 1 (some .int) : Cond) ∈ TW := twq5 (List.mem_of_getElem? (i := 88) rfl) rfl
theorem tw_1112 : (Cond.methodLink RL 83 yX8_code : Cond) ∈ TW := twq5 (List.mem_of_getElem? (i := 89) rfl) rfl
theorem tw_1113 : (Cond.instanceMethod yX8_code : Cond) ∈ TW := twq5 (List.mem_of_getElem? (i := 90) rfl) rfl
theorem tw_1114 : (Cond.selects RX8 yX8_code yX8_code : Cond) ∈ TW := twq5 (List.mem_of_getElem? (i := 91) rfl) rfl
theorem tw_1115 : (Cond.code yX8_code cX8_code 3 (some .int) : Cond) ∈ TW := twq5 (List.mem_of_getElem? (i := 92) rfl) rfl
theorem tw_1116 : (Cond.methodLink RX8 251 yX8_isCell : Cond) ∈ TW := twq5 (List.mem_of_getElem? (i := 93) rfl) rfl
theorem tw_1118 : (Cond.instanceMethod yX8_isCell : Cond) ∈ TW := twq5 (List.mem_of_getElem? (i := 95) rfl) rfl
theorem tw_1119 : (Cond.code yX8_isCell cX8_isCell 3 (some .boolean) : Cond) ∈ TW := twq5 (List.mem_of_getElem? (i := 96) rfl) rfl
theorem tw_1120 : (Cond.methodLink RL 89 yX8_look : Cond) ∈ TW := twq5 (List.mem_of_getElem? (i := 97) rfl) rfl
theorem tw_1121 : (Cond.instanceMethod yX8_look : Cond) ∈ TW := twq5 (List.mem_of_getElem? (i := 98) rfl) rfl
theorem tw_1122 : (Cond.selects RX8 yX8_look yX8_look : Cond) ∈ TW := twq5 (List.mem_of_getElem? (i := 99) rfl) rfl
theorem tw_1123 : (Cond.code yX8_look cX8_look 3 (some .int) : Cond) ∈ TW := twq5 (List.mem_of_getElem? (i := 100) rfl) rfl
theorem tw_1124 : (Cond.methodLink RL 93 yX8_cells : Cond) ∈ TW := twq5 (List.mem_of_getElem? (i := 101) rfl) rfl
theorem tw_1125 : (Cond.instanceMethod yX8_cells : Cond) ∈ TW := twq5 (List.mem_of_getElem? (i := 102) rfl) rfl
theorem tw_1126 : (Cond.selects RX8 yX8_cells yX8_cells : Cond) ∈ TW := twq5 (List.mem_of_getElem? (i := 103) rfl) rfl
theorem tw_1127 : (Cond.code yX8_cells cX8_cells 5 (some .int) : Cond) ∈ TW := twq5 (List.mem_of_getElem? (i := 104) rfl) rfl
theorem tw_1128 : (Cond.methodLink RL 97 yX8_waiting : Cond) ∈ TW := twq5 (List.mem_of_getElem? (i := 105) rfl) rfl
theorem tw_1129 : (Cond.instanceMethod yX8_waiting : Cond) ∈ TW := twq5 (List.mem_of_getElem? (i := 106) rfl) rfl
theorem tw_1130 : (Cond.selects RX8 yX8_waiting yX8_waiting : Cond) ∈ TW := twq5 (List.mem_of_getElem? (i := 107) rfl) rfl
theorem tw_1131 : (Cond.code yX8_waiting cX8_waiting 1 (some .int) : Cond) ∈ TW := twq5 (List.mem_of_getElem? (i := 108) rfl) rfl
theorem tw_1132 : (Cond.methodLink RL 101 yX8_reply : Cond) ∈ TW := twq5 (List.mem_of_getElem? (i := 109) rfl) rfl
theorem tw_1133 : (Cond.instanceMethod yX8_reply : Cond) ∈ TW := twq5 (List.mem_of_getElem? (i := 110) rfl) rfl
theorem tw_1134 : (Cond.selects RX8 yX8_reply yX8_reply : Cond) ∈ TW := twq5 (List.mem_of_getElem? (i := 111) rfl) rfl
theorem tw_1135 : (Cond.code yX8_reply cX8_reply 3 (some .int) : Cond) ∈ TW := twq5 (List.mem_of_getElem? (i := 112) rfl) rfl
theorem tw_1136 : (Cond.methodLink RL 105 yX8_title : Cond) ∈ TW := twq5 (List.mem_of_getElem? (i := 113) rfl) rfl
theorem tw_1137 : (Cond.instanceMethod yX8_title : Cond) ∈ TW := twq5 (List.mem_of_getElem? (i := 114) rfl) rfl
theorem tw_1138 : (Cond.selects RX8 yX8_title yX8_title : Cond) ∈ TW := twq5 (List.mem_of_getElem? (i := 115) rfl) rfl
theorem tw_1139 : (Cond.code yX8_title cX8_title 2 (some .int) : Cond) ∈ TW := twq5 (List.mem_of_getElem? (i := 116) rfl) rfl
theorem tw_1140 : (Cond.constantLong RL 33 (4294967295) : Cond) ∈ TW := twq5 (List.mem_of_getElem? (i := 117) rfl) rfl
theorem tw_1141 : (Cond.arrayClass .long : Cond) ∈ TW := twq5 (List.mem_of_getElem? (i := 118) rfl) rfl
theorem tw_mx1 : Cond.static Lib.Math.max.name ∈ TW := tw_382
theorem tw_mx2 : Cond.initialized "java/lang/Math" ∈ TW := tw_73
theorem tw_mx3 : Cond.code Lib.Math.max.name Lib.Math.max.code 2 (some .int) ∈ TW := tw_383
theorem tw_mn1 : Cond.static Lib.Math.min.name ∈ TW := tw_389
theorem tw_mn3 : Cond.code Lib.Math.min.name Lib.Math.min.code 2 (some .int) ∈ TW := tw_390
theorem tw_X0 : ∀ w ∈ wsX00, w ∈ TW := by
  have h : wsX00 = [130, 132, 134, 136, 138].filterMap (fun i => lw_tbl[i]?) := by decide +kernel
  have g : wsX00.all goodWord = true := by decide +kernel
  intro w hw
  refine List.mem_filter.mpr ⟨?_, List.all_eq_true.mp g w hw⟩
  rw [h] at hw
  obtain ⟨i, -, hi⟩ := List.mem_filterMap.mp hw
  exact List.mem_of_getElem? hi
theorem tw_X1 : ∀ w ∈ wsX10, w ∈ TW := by
  have h : wsX10 = [195, 197, 199].filterMap (fun i => lw_tbl[i]?) := by decide +kernel
  have g : wsX10.all goodWord = true := by decide +kernel
  intro w hw
  refine List.mem_filter.mpr ⟨?_, List.all_eq_true.mp g w hw⟩
  rw [h] at hw
  obtain ⟨i, -, hi⟩ := List.mem_filterMap.mp hw
  exact List.mem_of_getElem? hi
theorem tw_X2 : ∀ w ∈ wsX20, w ∈ TW := by
  have h : wsX20 = [212, 214, 216].filterMap (fun i => lw_tbl[i]?) := by decide +kernel
  have g : wsX20.all goodWord = true := by decide +kernel
  intro w hw
  refine List.mem_filter.mpr ⟨?_, List.all_eq_true.mp g w hw⟩
  rw [h] at hw
  obtain ⟨i, -, hi⟩ := List.mem_filterMap.mp hw
  exact List.mem_of_getElem? hi
theorem tw_X3 : ∀ w ∈ wsX30, w ∈ TW := by
  have h : wsX30 = [103, 105].filterMap (fun i => lw_tbl[i]?) := by decide +kernel
  have g : wsX30.all goodWord = true := by decide +kernel
  intro w hw
  refine List.mem_filter.mpr ⟨?_, List.all_eq_true.mp g w hw⟩
  rw [h] at hw
  obtain ⟨i, -, hi⟩ := List.mem_filterMap.mp hw
  exact List.mem_of_getElem? hi
theorem tw_X4 : ∀ w ∈ wsX40, w ∈ TW := by
  have h : wsX40 = [241, 243].filterMap (fun i => lw_tbl[i]?) := by decide +kernel
  have g : wsX40.all goodWord = true := by decide +kernel
  intro w hw
  refine List.mem_filter.mpr ⟨?_, List.all_eq_true.mp g w hw⟩
  rw [h] at hw
  obtain ⟨i, -, hi⟩ := List.mem_filterMap.mp hw
  exact List.mem_of_getElem? hi
theorem tw_X5 : ∀ w ∈ wsX50, w ∈ TW := by
  have h : wsX50 = [160, 162, 164, 166, 168, 170, 172, 174, 176, 178, 180, 182].filterMap (fun i => lw_tbl[i]?) := by decide +kernel
  have g : wsX50.all goodWord = true := by decide +kernel
  intro w hw
  refine List.mem_filter.mpr ⟨?_, List.all_eq_true.mp g w hw⟩
  rw [h] at hw
  obtain ⟨i, -, hi⟩ := List.mem_filterMap.mp hw
  exact List.mem_of_getElem? hi
theorem tw_X6 : ∀ w ∈ wsX60, w ∈ TW := by
  have h : wsX60 = [227, 229].filterMap (fun i => lw_tbl[i]?) := by decide +kernel
  have g : wsX60.all goodWord = true := by decide +kernel
  intro w hw
  refine List.mem_filter.mpr ⟨?_, List.all_eq_true.mp g w hw⟩
  rw [h] at hw
  obtain ⟨i, -, hi⟩ := List.mem_filterMap.mp hw
  exact List.mem_of_getElem? hi
theorem tw_X7 : ∀ w ∈ wsX70, w ∈ TW := by
  have h : wsX70 = [289, 291, 293, 295, 297, 299, 301].filterMap (fun i => lw_tbl[i]?) := by decide +kernel
  have g : wsX70.all goodWord = true := by decide +kernel
  intro w hw
  refine List.mem_filter.mpr ⟨?_, List.all_eq_true.mp g w hw⟩
  rw [h] at hw
  obtain ⟨i, -, hi⟩ := List.mem_filterMap.mp hw
  exact List.mem_of_getElem? hi
theorem tw_X8 : ∀ w ∈ wsX80, w ∈ TW := by
  have h : wsX80 = [859, 861, 863, 865, 867, 869, 871, 873, 875, 877, 879, 881, 883, 885, 887, 889, 891, 893, 895, 897, 899, 901, 903, 905, 907, 909, 911, 913, 915, 917, 919, 921, 923, 925, 927, 929, 931, 933, 935, 937].filterMap (fun i => lw_tbl[i]?) := by decide +kernel
  have g : wsX80.all goodWord = true := by decide +kernel
  intro w hw
  refine List.mem_filter.mpr ⟨?_, List.all_eq_true.mp g w hw⟩
  rw [h] at hw
  obtain ⟨i, -, hi⟩ := List.mem_filterMap.mp hw
  exact List.mem_of_getElem? hi
