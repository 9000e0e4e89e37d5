abbrev BW : List Cond := lw_tbl.filter goodWord
theorem bw_of {w : Cond} (i : Nat) (h : lw_tbl[i]? = some w) (g : goodWord w = true) : w ∈ BW := List.mem_filter.mpr ⟨List.mem_of_getElem? h, g⟩
theorem bw_list {ws : List Cond} (is : List Nat) (h : ws = is.filterMap (fun i => lw_tbl[i]?)) (g : ws.all goodWord = true) : ∀ w ∈ ws, w ∈ BW := by
  intro w hw
  have g1 := List.all_eq_true.mp g w hw
  rw [h] at hw
  obtain ⟨i, -, hi⟩ := List.mem_filterMap.mp hw
  exact bw_of i hi g1
theorem bw_good {w : Cond} (h : w ∈ BW) : goodWord w = true := (List.mem_filter.mp h).2
theorem bw_tbl {w : Cond} (h : w ∈ BW) : w ∈ lw_tbl := (List.mem_filter.mp h).1
theorem w_se_X6_checkGap : Cond.selects yX6_checkGap.cls yX6_checkGap yX6_checkGap ∈ BW := bw_of 0 (by decide +kernel) (by decide +kernel)
theorem w_se_X6_who : Cond.selects yX6_who.cls yX6_who yX6_who ∈ BW := bw_of 2 (by decide +kernel) (by decide +kernel)
theorem w_se_X0_size : Cond.selects yX0_size.cls yX0_size yX0_size ∈ BW := bw_of 3 (by decide +kernel) (by decide +kernel)
theorem w_se_X6_checkCopyNotFull : Cond.selects yX6_checkCopyNotFull.cls yX6_checkCopyNotFull yX6_checkCopyNotFull ∈ BW := bw_of 4 (by decide +kernel) (by decide +kernel)
theorem w_se_X6_checkWayNotFull : Cond.selects yX6_checkWayNotFull.cls yX6_checkWayNotFull yX6_checkWayNotFull ∈ BW := bw_of 5 (by decide +kernel) (by decide +kernel)
theorem w_se_X6_other : Cond.selects yX6_other.cls yX6_other yX6_other ∈ BW := bw_of 6 (by decide +kernel) (by decide +kernel)
theorem w_se_X5_size : Cond.selects yX5_size.cls yX5_size yX5_size ∈ BW := bw_of 7 (by decide +kernel) (by decide +kernel)
theorem w_se_X6_newMark : Cond.selects yX6_newMark.cls yX6_newMark yX6_newMark ∈ BW := bw_of 8 (by decide +kernel) (by decide +kernel)
theorem w_se_X6_write : Cond.selects yX6_write.cls yX6_write yX6_write ∈ BW := bw_of 9 (by decide +kernel) (by decide +kernel)
theorem w_se_X3_doStroke : Cond.selects yX3_doStroke.cls yX3_doStroke yX3_doStroke ∈ BW := bw_of 10 (by decide +kernel) (by decide +kernel)
theorem w_se_X0_insert : Cond.selects yX0_insert.cls yX0_insert yX0_insert ∈ BW := bw_of 11 (by decide +kernel) (by decide +kernel)
theorem w_se_X2_insert : Cond.selects yX2_insert.cls yX2_insert yX2_insert ∈ BW := bw_of 12 (by decide +kernel) (by decide +kernel)
theorem w_se_X1_shiftBehind : Cond.selects yX1_shiftBehind.cls yX1_shiftBehind yX1_shiftBehind ∈ BW := bw_of 13 (by decide +kernel) (by decide +kernel)
theorem w_se_X2_at : Cond.selects yX2_at.cls yX2_at yX2_at ∈ BW := bw_of 14 (by decide +kernel) (by decide +kernel)
theorem w_se_X2_has : Cond.selects yX2_has.cls yX2_has yX2_has ∈ BW := bw_of 15 (by decide +kernel) (by decide +kernel)
theorem w_se_X2_change : Cond.selects yX2_change.cls yX2_change yX2_change ∈ BW := bw_of 16 (by decide +kernel) (by decide +kernel)
theorem w_se_X0_remove : Cond.selects yX0_remove.cls yX0_remove yX0_remove ∈ BW := bw_of 17 (by decide +kernel) (by decide +kernel)
theorem w_se_X2_remove : Cond.selects yX2_remove.cls yX2_remove yX2_remove ∈ BW := bw_of 18 (by decide +kernel) (by decide +kernel)
theorem w_se_X5_read : Cond.selects yX5_read.cls yX5_read yX5_read ∈ BW := bw_of 19 (by decide +kernel) (by decide +kernel)
theorem w_se_X6_meetOne : Cond.selects yX6_meetOne.cls yX6_meetOne yX6_meetOne ∈ BW := bw_of 20 (by decide +kernel) (by decide +kernel)
theorem w_se_X6_goesFirst : Cond.selects yX6_goesFirst.cls yX6_goesFirst yX6_goesFirst ∈ BW := bw_of 21 (by decide +kernel) (by decide +kernel)
theorem w_se_X4_moveBy : Cond.selects yX4_moveBy.cls yX4_moveBy yX4_moveBy ∈ BW := bw_of 22 (by decide +kernel) (by decide +kernel)
theorem w_se_X4_moveBySet : Cond.selects yX4_moveBySet.cls yX4_moveBySet yX4_moveBySet ∈ BW := bw_of 23 (by decide +kernel) (by decide +kernel)
theorem w_se_X4_moveByStrike : Cond.selects yX4_moveByStrike.cls yX4_moveByStrike yX4_moveByStrike ∈ BW := bw_of 24 (by decide +kernel) (by decide +kernel)
theorem w_se_X5_move : Cond.selects yX5_move.cls yX5_move yX5_move ∈ BW := bw_of 25 (by decide +kernel) (by decide +kernel)
theorem w_se_X5_append : Cond.selects yX5_append.cls yX5_append yX5_append ∈ BW := bw_of 26 (by decide +kernel) (by decide +kernel)
theorem w_se_X2_append : Cond.selects yX2_append.cls yX2_append yX2_append ∈ BW := bw_of 27 (by decide +kernel) (by decide +kernel)
theorem w_se_X1_addSet : Cond.selects yX1_addSet.cls yX1_addSet yX1_addSet ∈ BW := bw_of 28 (by decide +kernel) (by decide +kernel)
theorem w_se_X6_checkPlace : Cond.selects yX6_checkPlace.cls yX6_checkPlace yX6_checkPlace ∈ BW := bw_of 29 (by decide +kernel) (by decide +kernel)
theorem w_se_X1_addStrike : Cond.selects yX1_addStrike.cls yX1_addStrike yX1_addStrike ∈ BW := bw_of 30 (by decide +kernel) (by decide +kernel)
theorem w_se_X1_size : Cond.selects yX1_size.cls yX1_size yX1_size ∈ BW := bw_of 31 (by decide +kernel) (by decide +kernel)
theorem w_se_X6_placeOfUndoing : Cond.selects yX6_placeOfUndoing.cls yX6_placeOfUndoing yX6_placeOfUndoing ∈ BW := bw_of 32 (by decide +kernel) (by decide +kernel)
theorem w_se_X1_lastStruck : Cond.selects yX1_lastStruck.cls yX1_lastStruck yX1_lastStruck ∈ BW := bw_of 33 (by decide +kernel) (by decide +kernel)
theorem w_se_X1_lastPlace : Cond.selects yX1_lastPlace.cls yX1_lastPlace yX1_lastPlace ∈ BW := bw_of 34 (by decide +kernel) (by decide +kernel)
theorem w_se_X1_lastMark : Cond.selects yX1_lastMark.cls yX1_lastMark yX1_lastMark ∈ BW := bw_of 35 (by decide +kernel) (by decide +kernel)
theorem w_se_X0_placeOf : Cond.selects yX0_placeOf.cls yX0_placeOf yX0_placeOf ∈ BW := bw_of 36 (by decide +kernel) (by decide +kernel)
theorem w_se_X1_lastLetter : Cond.selects yX1_lastLetter.cls yX1_lastLetter yX1_lastLetter ∈ BW := bw_of 37 (by decide +kernel) (by decide +kernel)
theorem w_se_X1_forgetLast : Cond.selects yX1_forgetLast.cls yX1_forgetLast yX1_forgetLast ∈ BW := bw_of 38 (by decide +kernel) (by decide +kernel)
theorem w_se_X6_takeFirst : Cond.selects yX6_takeFirst.cls yX6_takeFirst yX6_takeFirst ∈ BW := bw_of 39 (by decide +kernel) (by decide +kernel)
theorem w_se_X5_dropFirst : Cond.selects yX5_dropFirst.cls yX5_dropFirst yX5_dropFirst ∈ BW := bw_of 40 (by decide +kernel) (by decide +kernel)
theorem w_se_X0_lettersOf : Cond.selects yX0_lettersOf.cls yX0_lettersOf yX0_lettersOf ∈ BW := bw_of 41 (by decide +kernel) (by decide +kernel)
theorem w_se_X6_strokesOnWay : Cond.selects yX6_strokesOnWay.cls yX6_strokesOnWay yX6_strokesOnWay ∈ BW := bw_of 42 (by decide +kernel) (by decide +kernel)
theorem w_se_X6_lettersOfPage : Cond.selects yX6_lettersOfPage.cls yX6_lettersOfPage yX6_lettersOfPage ∈ BW := bw_of 43 (by decide +kernel) (by decide +kernel)
theorem w_se_X5_growth : Cond.selects yX5_growth.cls yX5_growth yX5_growth ∈ BW := bw_of 44 (by decide +kernel) (by decide +kernel)
theorem w_se_X6_differences : Cond.selects yX6_differences.cls yX6_differences yX6_differences ∈ BW := bw_of 45 (by decide +kernel) (by decide +kernel)
theorem w_se_X6_longerCopy : Cond.selects yX6_longerCopy.cls yX6_longerCopy yX6_longerCopy ∈ BW := bw_of 46 (by decide +kernel) (by decide +kernel)
theorem w_se_X6_differAt : Cond.selects yX6_differAt.cls yX6_differAt yX6_differAt ∈ BW := bw_of 47 (by decide +kernel) (by decide +kernel)
theorem w_se_X6_letterOfPage : Cond.selects yX6_letterOfPage.cls yX6_letterOfPage yX6_letterOfPage ∈ BW := bw_of 48 (by decide +kernel) (by decide +kernel)
theorem w_se_X6_placeOnPage : Cond.selects yX6_placeOnPage.cls yX6_placeOnPage yX6_placeOnPage ∈ BW := bw_of 49 (by decide +kernel) (by decide +kernel)
theorem w_se_X6_takeAll : Cond.selects yX6_takeAll.cls yX6_takeAll yX6_takeAll ∈ BW := bw_of 50 (by decide +kernel) (by decide +kernel)
theorem w_n_L : Cond.initialized RL ∈ BW := bw_of 51 (by decide +kernel) (by decide +kernel)
theorem w_n_X6 : Cond.initialized RX6 ∈ BW := bw_of 52 (by decide +kernel) (by decide +kernel)
theorem w_n_X3 : Cond.initialized RX3 ∈ BW := bw_of 53 (by decide +kernel) (by decide +kernel)
theorem w_n_X0 : Cond.initialized RX0 ∈ BW := bw_of 54 (by decide +kernel) (by decide +kernel)
theorem w_n_X2 : Cond.initialized RX2 ∈ BW := bw_of 55 (by decide +kernel) (by decide +kernel)
theorem w_n_X5 : Cond.initialized RX5 ∈ BW := bw_of 56 (by decide +kernel) (by decide +kernel)
theorem w_n_X1 : Cond.initialized RX1 ∈ BW := bw_of 57 (by decide +kernel) (by decide +kernel)
theorem w_n_X4 : Cond.initialized RX4 ∈ BW := bw_of 58 (by decide +kernel) (by decide +kernel)
theorem w_n_X7 : Cond.initialized RX7 ∈ BW := bw_of 59 (by decide +kernel) (by decide +kernel)
theorem w_n_Throwable : Cond.initialized "java/lang/Throwable" ∈ BW := bw_of 60 (by decide +kernel) (by decide +kernel)
theorem w_n_Exception : Cond.initialized "java/lang/Exception" ∈ BW := bw_of 61 (by decide +kernel) (by decide +kernel)
theorem w_n_RuntimeException : Cond.initialized "java/lang/RuntimeException" ∈ BW := bw_of 62 (by decide +kernel) (by decide +kernel)
theorem w_n_IndexOutOfBoundsException : Cond.initialized "java/lang/IndexOutOfBoundsException" ∈ BW := bw_of 63 (by decide +kernel) (by decide +kernel)
theorem w_n_IllegalStateException : Cond.initialized "java/lang/IllegalStateException" ∈ BW := bw_of 64 (by decide +kernel) (by decide +kernel)
theorem w_n_IllegalArgumentException : Cond.initialized "java/lang/IllegalArgumentException" ∈ BW := bw_of 65 (by decide +kernel) (by decide +kernel)
theorem w_n_J9 : Cond.initialized RJ9 ∈ BW := bw_of 66 (by decide +kernel) (by decide +kernel)
theorem w_k_L_32 : Cond.classLink RL 32 RX6 ∈ BW := bw_of 67 (by decide +kernel) (by decide +kernel)
theorem w_i_X6 : Cond.instantiable RX6 6 ∈ BW := bw_of 68 (by decide +kernel) (by decide +kernel)
theorem w_m_L_73 : Cond.methodLink RL 73 yX6_init ∈ BW := bw_of 69 (by decide +kernel) (by decide +kernel)
theorem w_im_X6_init : Cond.instanceMethod yX6_init ∈ BW := bw_of 70 (by decide +kernel) (by decide +kernel)
set_option maxRecDepth 100000 in
theorem w_co_X6_init : Cond.code yX6_init cX6_init 1 (Option.none : Option Jvm.ClassFile.FieldType) ∈ BW := bw_of 71 rfl rfl
theorem w_m_X6_1 : Cond.methodLink RX6 1 objectInit ∈ BW := bw_of 72 (by decide +kernel) (by decide +kernel)
theorem w_im_objectInit : Cond.instanceMethod objectInit ∈ BW := bw_of 73 (by decide +kernel) (by decide +kernel)
theorem w_co_objectInit : Cond.code objectInit ⟨#[0xb1]⟩ 1 none ∈ BW := bw_of 74 (by decide +kernel) (by decide +kernel)
theorem w_k_X6_7 : Cond.classLink RX6 7 RX3 ∈ BW := bw_of 75 (by decide +kernel) (by decide +kernel)
theorem w_i_X3 : Cond.instantiable RX3 6 ∈ BW := bw_of 76 (by decide +kernel) (by decide +kernel)
theorem w_im_X3_init : Cond.instanceMethod yX3_init ∈ BW := bw_of 78 (by decide +kernel) (by decide +kernel)
set_option maxRecDepth 100000 in
theorem w_co_X3_init : Cond.code yX3_init cX3_init 1 (Option.none : Option Jvm.ClassFile.FieldType) ∈ BW := bw_of 79 rfl rfl
theorem w_m_X3_3 : Cond.methodLink RX3 3 objectInit ∈ BW := bw_of 80 (by decide +kernel) (by decide +kernel)
theorem w_k_X3_9 : Cond.classLink RX3 9 RX0 ∈ BW := bw_of 81 (by decide +kernel) (by decide +kernel)
theorem w_i_X0 : Cond.instantiable RX0 3 ∈ BW := bw_of 82 (by decide +kernel) (by decide +kernel)
theorem w_im_X0_init : Cond.instanceMethod yX0_init ∈ BW := bw_of 84 (by decide +kernel) (by decide +kernel)
set_option maxRecDepth 100000 in
theorem w_co_X0_init : Cond.code yX0_init cX0_init 1 (Option.none : Option Jvm.ClassFile.FieldType) ∈ BW := bw_of 85 rfl rfl
theorem w_m_X0_3 : Cond.methodLink RX0 3 objectInit ∈ BW := bw_of 86 (by decide +kernel) (by decide +kernel)
theorem w_k_X0_9 : Cond.classLink RX0 9 RX2 ∈ BW := bw_of 87 (by decide +kernel) (by decide +kernel)
theorem w_i_X2 : Cond.instantiable RX2 2 ∈ BW := bw_of 88 (by decide +kernel) (by decide +kernel)
theorem w_im_X2_init : Cond.instanceMethod yX2_init ∈ BW := bw_of 90 (by decide +kernel) (by decide +kernel)
set_option maxRecDepth 100000 in
theorem w_co_X2_init : Cond.code yX2_init cX2_init 2 (Option.none : Option Jvm.ClassFile.FieldType) ∈ BW := bw_of 91 rfl rfl
theorem w_m_X2_1 : Cond.methodLink RX2 1 objectInit ∈ BW := bw_of 92 (by decide +kernel) (by decide +kernel)
theorem w_f_X2_7 : Cond.fieldLink RX2 7 "TwoScribes$Row" "numbers" "[I" ∈ BW := bw_of 93 (by decide +kernel) (by decide +kernel)
theorem w_f_X2_13 : Cond.fieldLink RX2 13 "TwoScribes$Row" "size" "I" ∈ BW := bw_of 97 (by decide +kernel) (by decide +kernel)
theorem w_ac_int : Cond.arrayClass FieldType.int ∈ BW := bw_of 103 (by decide +kernel) (by decide +kernel)
theorem w_f_X0_14 : Cond.fieldLink RX0 14 "TwoScribes$Copy" "letters" "LTwoScribes$Row;" ∈ BW := bw_of 104 (by decide +kernel) (by decide +kernel)
theorem w_f_X0_20 : Cond.fieldLink RX0 20 "TwoScribes$Copy" "authors" "LTwoScribes$Row;" ∈ BW := bw_of 106 (by decide +kernel) (by decide +kernel)
theorem w_f_X0_23 : Cond.fieldLink RX0 23 "TwoScribes$Copy" "marks" "LTwoScribes$Row;" ∈ BW := bw_of 108 (by decide +kernel) (by decide +kernel)
theorem w_k_X3_18 : Cond.classLink RX3 18 RX5 ∈ BW := bw_of 116 (by decide +kernel) (by decide +kernel)
theorem w_i_X5 : Cond.instantiable RX5 4 ∈ BW := bw_of 117 (by decide +kernel) (by decide +kernel)
theorem w_im_X5_init : Cond.instanceMethod yX5_init ∈ BW := bw_of 119 (by decide +kernel) (by decide +kernel)
set_option maxRecDepth 100000 in
theorem w_co_X5_init : Cond.code yX5_init cX5_init 1 (Option.none : Option Jvm.ClassFile.FieldType) ∈ BW := bw_of 120 rfl rfl
theorem w_m_X5_3 : Cond.methodLink RX5 3 objectInit ∈ BW := bw_of 121 (by decide +kernel) (by decide +kernel)
theorem w_k_X5_9 : Cond.classLink RX5 9 RX2 ∈ BW := bw_of 122 (by decide +kernel) (by decide +kernel)
theorem w_f_X5_14 : Cond.fieldLink RX5 14 "TwoScribes$Way" "kinds" "LTwoScribes$Row;" ∈ BW := bw_of 124 (by decide +kernel) (by decide +kernel)
theorem w_f_X5_20 : Cond.fieldLink RX5 20 "TwoScribes$Way" "places" "LTwoScribes$Row;" ∈ BW := bw_of 126 (by decide +kernel) (by decide +kernel)
theorem w_f_X5_23 : Cond.fieldLink RX5 23 "TwoScribes$Way" "letters" "LTwoScribes$Row;" ∈ BW := bw_of 128 (by decide +kernel) (by decide +kernel)
theorem w_f_X5_26 : Cond.fieldLink RX5 26 "TwoScribes$Way" "intents" "LTwoScribes$Row;" ∈ BW := bw_of 130 (by decide +kernel) (by decide +kernel)
theorem w_k_X3_25 : Cond.classLink RX3 25 RX1 ∈ BW := bw_of 141 (by decide +kernel) (by decide +kernel)
theorem w_i_X1 : Cond.instantiable RX1 3 ∈ BW := bw_of 142 (by decide +kernel) (by decide +kernel)
theorem w_im_X1_init : Cond.instanceMethod yX1_init ∈ BW := bw_of 144 (by decide +kernel) (by decide +kernel)
set_option maxRecDepth 100000 in
theorem w_co_X1_init : Cond.code yX1_init cX1_init 1 (Option.none : Option Jvm.ClassFile.FieldType) ∈ BW := bw_of 145 rfl rfl
theorem w_m_X1_3 : Cond.methodLink RX1 3 objectInit ∈ BW := bw_of 146 (by decide +kernel) (by decide +kernel)
theorem w_k_X1_9 : Cond.classLink RX1 9 RX2 ∈ BW := bw_of 147 (by decide +kernel) (by decide +kernel)
theorem w_f_X1_14 : Cond.fieldLink RX1 14 "TwoScribes$Past" "places" "LTwoScribes$Row;" ∈ BW := bw_of 149 (by decide +kernel) (by decide +kernel)
theorem w_f_X1_20 : Cond.fieldLink RX1 20 "TwoScribes$Past" "letters" "LTwoScribes$Row;" ∈ BW := bw_of 150 (by decide +kernel) (by decide +kernel)
theorem w_f_X1_23 : Cond.fieldLink RX1 23 "TwoScribes$Past" "marks" "LTwoScribes$Row;" ∈ BW := bw_of 151 (by decide +kernel) (by decide +kernel)
theorem w_f_X3_12 : Cond.fieldLink RX3 12 "TwoScribes$Scribe" "copy" "LTwoScribes$Copy;" ∈ BW := bw_of 159 (by decide +kernel) (by decide +kernel)
theorem w_f_X3_21 : Cond.fieldLink RX3 21 "TwoScribes$Scribe" "way" "LTwoScribes$Way;" ∈ BW := bw_of 161 (by decide +kernel) (by decide +kernel)
theorem w_f_X3_28 : Cond.fieldLink RX3 28 "TwoScribes$Scribe" "past" "LTwoScribes$Past;" ∈ BW := bw_of 163 (by decide +kernel) (by decide +kernel)
theorem w_k_X6_19 : Cond.classLink RX6 19 RX4 ∈ BW := bw_of 181 (by decide +kernel) (by decide +kernel)
theorem w_i_X4 : Cond.instantiable RX4 5 ∈ BW := bw_of 182 (by decide +kernel) (by decide +kernel)
theorem w_im_X4_init : Cond.instanceMethod yX4_init ∈ BW := bw_of 184 (by decide +kernel) (by decide +kernel)
set_option maxRecDepth 100000 in
theorem w_co_X4_init : Cond.code yX4_init cX4_init 6 (Option.none : Option Jvm.ClassFile.FieldType) ∈ BW := bw_of 185 rfl rfl
theorem w_m_X4_3 : Cond.methodLink RX4 3 objectInit ∈ BW := bw_of 186 (by decide +kernel) (by decide +kernel)
theorem w_f_X4_9 : Cond.fieldLink RX4 9 "TwoScribes$Stroke" "kind" "I" ∈ BW := bw_of 187 (by decide +kernel) (by decide +kernel)
theorem w_f_X4_15 : Cond.fieldLink RX4 15 "TwoScribes$Stroke" "place" "I" ∈ BW := bw_of 191 (by decide +kernel) (by decide +kernel)
theorem w_f_X4_18 : Cond.fieldLink RX4 18 "TwoScribes$Stroke" "letter" "I" ∈ BW := bw_of 195 (by decide +kernel) (by decide +kernel)
theorem w_f_X4_21 : Cond.fieldLink RX4 21 "TwoScribes$Stroke" "intent" "I" ∈ BW := bw_of 199 (by decide +kernel) (by decide +kernel)
theorem w_f_X4_24 : Cond.fieldLink RX4 24 "TwoScribes$Stroke" "mark" "I" ∈ BW := bw_of 202 (by decide +kernel) (by decide +kernel)
theorem w_f_X6_10 : Cond.fieldLink RX6 10 "TwoScribes" "zero" "LTwoScribes$Scribe;" ∈ BW := bw_of 215 (by decide +kernel) (by decide +kernel)
theorem w_f_X6_16 : Cond.fieldLink RX6 16 "TwoScribes" "one" "LTwoScribes$Scribe;" ∈ BW := bw_of 216 (by decide +kernel) (by decide +kernel)
theorem w_f_X6_24 : Cond.fieldLink RX6 24 "TwoScribes" "met" "LTwoScribes$Stroke;" ∈ BW := bw_of 217 (by decide +kernel) (by decide +kernel)
theorem w_f_X6_44 : Cond.fieldLink RX6 44 "TwoScribes" "rule" "I" ∈ BW := bw_of 218 (by decide +kernel) (by decide +kernel)
theorem w_f_X6_185 : Cond.fieldLink RX6 185 "TwoScribes" "ties" "I" ∈ BW := bw_of 219 (by decide +kernel) (by decide +kernel)
theorem w_f_X6_253 : Cond.fieldLink RX6 253 "TwoScribes" "marks" "I" ∈ BW := bw_of 220 (by decide +kernel) (by decide +kernel)
theorem w_m_L_61 : Cond.methodLink RL 61 yX6_set ∈ BW := bw_of 234 (by decide +kernel) (by decide +kernel)
theorem w_im_X6_set : Cond.instanceMethod yX6_set ∈ BW := bw_of 235 (by decide +kernel) (by decide +kernel)
theorem w_se_X6_set : Cond.selects yX6_set.cls yX6_set yX6_set ∈ BW := bw_of 236 (by decide +kernel) (by decide +kernel)
set_option maxRecDepth 100000 in
theorem w_co_X6_set : Cond.code yX6_set cX6_set 6 (Option.some .int) ∈ BW := bw_of 237 rfl rfl
theorem w_m_X6_48 : Cond.methodLink RX6 48 yX6_checkGap ∈ BW := bw_of 238 (by decide +kernel) (by decide +kernel)
theorem w_im_X6_checkGap : Cond.instanceMethod yX6_checkGap ∈ BW := bw_of 240 (by decide +kernel) (by decide +kernel)
set_option maxRecDepth 100000 in
theorem w_co_X6_checkGap : Cond.code yX6_checkGap cX6_checkGap 3 (Option.none : Option Jvm.ClassFile.FieldType) ∈ BW := bw_of 241 rfl rfl
theorem w_m_X6_120 : Cond.methodLink RX6 120 yX6_checkScribe ∈ BW := bw_of 242 (by decide +kernel) (by decide +kernel)
theorem w_st_X6_checkScribe : Cond.static yX6_checkScribe ∈ BW := bw_of 243 (by decide +kernel) (by decide +kernel)
set_option maxRecDepth 100000 in
theorem w_co_X6_checkScribe : Cond.code yX6_checkScribe cX6_checkScribe 1 (Option.none : Option Jvm.ClassFile.FieldType) ∈ BW := bw_of 244 rfl rfl
theorem w_k_X6_28 : Cond.classLink RX6 28 "java/lang/IndexOutOfBoundsException" ∈ BW := bw_of 245 (by decide +kernel) (by decide +kernel)
theorem w_m_X6_32 : Cond.methodLink RX6 32 ⟨"java/lang/IndexOutOfBoundsException", "<init>", "(Ljava/lang/String;)V"⟩ ∈ BW := bw_of 287 (by decide +kernel) (by decide +kernel)
theorem w_ac_byte : Cond.arrayClass FieldType.byte ∈ BW := bw_of 312 (by decide +kernel) (by decide +kernel)
theorem w_m_X6_69 : Cond.methodLink RX6 69 yX6_who ∈ BW := bw_of 313 (by decide +kernel) (by decide +kernel)
theorem w_im_X6_who : Cond.instanceMethod yX6_who ∈ BW := bw_of 315 (by decide +kernel) (by decide +kernel)
set_option maxRecDepth 100000 in
theorem w_co_X6_who : Cond.code yX6_who cX6_who 2 (Option.some (.object "TwoScribes$Scribe")) ∈ BW := bw_of 316 rfl rfl
theorem w_im_X0_size : Cond.instanceMethod yX0_size ∈ BW := bw_of 319 (by decide +kernel) (by decide +kernel)
set_option maxRecDepth 100000 in
theorem w_co_X0_size : Cond.code yX0_size cX0_size 1 (Option.some .int) ∈ BW := bw_of 320 rfl rfl
theorem w_m_X6_52 : Cond.methodLink RX6 52 yX6_checkLetter ∈ BW := bw_of 322 (by decide +kernel) (by decide +kernel)
theorem w_st_X6_checkLetter : Cond.static yX6_checkLetter ∈ BW := bw_of 323 (by decide +kernel) (by decide +kernel)
set_option maxRecDepth 100000 in
theorem w_co_X6_checkLetter : Cond.code yX6_checkLetter cX6_checkLetter 2 (Option.none : Option Jvm.ClassFile.FieldType) ∈ BW := bw_of 324 rfl rfl
theorem w_k_X6_242 : Cond.classLink RX6 242 "java/lang/IllegalArgumentException" ∈ BW := bw_of 325 (by decide +kernel) (by decide +kernel)
theorem w_m_X6_246 : Cond.methodLink RX6 246 ⟨"java/lang/IllegalArgumentException", "<init>", "(Ljava/lang/String;)V"⟩ ∈ BW := bw_of 335 (by decide +kernel) (by decide +kernel)
theorem w_m_X6_55 : Cond.methodLink RX6 55 yX6_checkCopyNotFull ∈ BW := bw_of 342 (by decide +kernel) (by decide +kernel)
theorem w_im_X6_checkCopyNotFull : Cond.instanceMethod yX6_checkCopyNotFull ∈ BW := bw_of 344 (by decide +kernel) (by decide +kernel)
set_option maxRecDepth 100000 in
theorem w_co_X6_checkCopyNotFull : Cond.code yX6_checkCopyNotFull cX6_checkCopyNotFull 2 (Option.none : Option Jvm.ClassFile.FieldType) ∈ BW := bw_of 345 rfl rfl
theorem w_k_X6_39 : Cond.classLink RX6 39 "java/lang/IllegalStateException" ∈ BW := bw_of 346 (by decide +kernel) (by decide +kernel)
theorem w_m_X6_43 : Cond.methodLink RX6 43 ⟨"java/lang/IllegalStateException", "<init>", "(Ljava/lang/String;)V"⟩ ∈ BW := bw_of 356 (by decide +kernel) (by decide +kernel)
theorem w_m_X6_59 : Cond.methodLink RX6 59 yX6_checkWayNotFull ∈ BW := bw_of 362 (by decide +kernel) (by decide +kernel)
theorem w_im_X6_checkWayNotFull : Cond.instanceMethod yX6_checkWayNotFull ∈ BW := bw_of 364 (by decide +kernel) (by decide +kernel)
set_option maxRecDepth 100000 in
theorem w_co_X6_checkWayNotFull : Cond.code yX6_checkWayNotFull cX6_checkWayNotFull 2 (Option.none : Option Jvm.ClassFile.FieldType) ∈ BW := bw_of 365 rfl rfl
theorem w_m_X6_82 : Cond.methodLink RX6 82 yX6_other ∈ BW := bw_of 366 (by decide +kernel) (by decide +kernel)
theorem w_im_X6_other : Cond.instanceMethod yX6_other ∈ BW := bw_of 368 (by decide +kernel) (by decide +kernel)
set_option maxRecDepth 100000 in
theorem w_co_X6_other : Cond.code yX6_other cX6_other 2 (Option.some (.object "TwoScribes$Scribe")) ∈ BW := bw_of 369 rfl rfl
theorem w_im_X5_size : Cond.instanceMethod yX5_size ∈ BW := bw_of 372 (by decide +kernel) (by decide +kernel)
set_option maxRecDepth 100000 in
theorem w_co_X5_size : Cond.code yX5_size cX5_size 1 (Option.some .int) ∈ BW := bw_of 373 rfl rfl
theorem w_m_X6_62 : Cond.methodLink RX6 62 yX6_newMark ∈ BW := bw_of 375 (by decide +kernel) (by decide +kernel)
theorem w_im_X6_newMark : Cond.instanceMethod yX6_newMark ∈ BW := bw_of 377 (by decide +kernel) (by decide +kernel)
set_option maxRecDepth 100000 in
theorem w_co_X6_newMark : Cond.code yX6_newMark cX6_newMark 1 (Option.some .int) ∈ BW := bw_of 378 rfl rfl
theorem w_m_X6_65 : Cond.methodLink RX6 65 yX6_write ∈ BW := bw_of 379 (by decide +kernel) (by decide +kernel)
theorem w_im_X6_write : Cond.instanceMethod yX6_write ∈ BW := bw_of 381 (by decide +kernel) (by decide +kernel)
set_option maxRecDepth 100000 in
theorem w_co_X6_write : Cond.code yX6_write cX6_write 6 (Option.none : Option Jvm.ClassFile.FieldType) ∈ BW := bw_of 382 rfl rfl
theorem w_im_X3_doStroke : Cond.instanceMethod yX3_doStroke ∈ BW := bw_of 385 (by decide +kernel) (by decide +kernel)
set_option maxRecDepth 100000 in
theorem w_co_X3_doStroke : Cond.code yX3_doStroke cX3_doStroke 3 (Option.none : Option Jvm.ClassFile.FieldType) ∈ BW := bw_of 386 rfl rfl
theorem w_im_X0_insert : Cond.instanceMethod yX0_insert ∈ BW := bw_of 389 (by decide +kernel) (by decide +kernel)
set_option maxRecDepth 100000 in
theorem w_co_X0_insert : Cond.code yX0_insert cX0_insert 5 (Option.none : Option Jvm.ClassFile.FieldType) ∈ BW := bw_of 390 rfl rfl
theorem w_im_X2_insert : Cond.instanceMethod yX2_insert ∈ BW := bw_of 393 (by decide +kernel) (by decide +kernel)
set_option maxRecDepth 100000 in
theorem w_co_X2_insert : Cond.code yX2_insert cX2_insert 4 (Option.none : Option Jvm.ClassFile.FieldType) ∈ BW := bw_of 394 rfl rfl
theorem w_im_X1_shiftBehind : Cond.instanceMethod yX1_shiftBehind ∈ BW := bw_of 397 (by decide +kernel) (by decide +kernel)
set_option maxRecDepth 100000 in
theorem w_co_X1_shiftBehind : Cond.code yX1_shiftBehind cX1_shiftBehind 5 (Option.none : Option Jvm.ClassFile.FieldType) ∈ BW := bw_of 398 rfl rfl
theorem w_im_X2_at : Cond.instanceMethod yX2_at ∈ BW := bw_of 401 (by decide +kernel) (by decide +kernel)
set_option maxRecDepth 100000 in
theorem w_co_X2_at : Cond.code yX2_at cX2_at 2 (Option.some .int) ∈ BW := bw_of 402 rfl rfl
theorem w_m_X2_17 : Cond.methodLink RX2 17 yX2_has ∈ BW := bw_of 403 (by decide +kernel) (by decide +kernel)
theorem w_im_X2_has : Cond.instanceMethod yX2_has ∈ BW := bw_of 405 (by decide +kernel) (by decide +kernel)
set_option maxRecDepth 100000 in
theorem w_co_X2_has : Cond.code yX2_has cX2_has 2 (Option.some .boolean) ∈ BW := bw_of 406 rfl rfl
theorem w_im_X2_change : Cond.instanceMethod yX2_change ∈ BW := bw_of 409 (by decide +kernel) (by decide +kernel)
set_option maxRecDepth 100000 in
theorem w_co_X2_change : Cond.code yX2_change cX2_change 3 (Option.none : Option Jvm.ClassFile.FieldType) ∈ BW := bw_of 410 rfl rfl
theorem w_im_X0_remove : Cond.instanceMethod yX0_remove ∈ BW := bw_of 413 (by decide +kernel) (by decide +kernel)
set_option maxRecDepth 100000 in
theorem w_co_X0_remove : Cond.code yX0_remove cX0_remove 2 (Option.none : Option Jvm.ClassFile.FieldType) ∈ BW := bw_of 414 rfl rfl
theorem w_im_X2_remove : Cond.instanceMethod yX2_remove ∈ BW := bw_of 417 (by decide +kernel) (by decide +kernel)
set_option maxRecDepth 100000 in
theorem w_co_X2_remove : Cond.code yX2_remove cX2_remove 3 (Option.none : Option Jvm.ClassFile.FieldType) ∈ BW := bw_of 418 rfl rfl
theorem w_im_X5_read : Cond.instanceMethod yX5_read ∈ BW := bw_of 421 (by decide +kernel) (by decide +kernel)
set_option maxRecDepth 100000 in
theorem w_co_X5_read : Cond.code yX5_read cX5_read 3 (Option.none : Option Jvm.ClassFile.FieldType) ∈ BW := bw_of 422 rfl rfl
theorem w_m_X6_260 : Cond.methodLink RX6 260 yX6_meetOne ∈ BW := bw_of 424 (by decide +kernel) (by decide +kernel)
theorem w_im_X6_meetOne : Cond.instanceMethod yX6_meetOne ∈ BW := bw_of 426 (by decide +kernel) (by decide +kernel)
set_option maxRecDepth 100000 in
theorem w_co_X6_meetOne : Cond.code yX6_meetOne cX6_meetOne 6 (Option.none : Option Jvm.ClassFile.FieldType) ∈ BW := bw_of 427 rfl rfl
theorem w_m_X6_215 : Cond.methodLink RX6 215 yX6_goesFirst ∈ BW := bw_of 428 (by decide +kernel) (by decide +kernel)
theorem w_im_X6_goesFirst : Cond.instanceMethod yX6_goesFirst ∈ BW := bw_of 430 (by decide +kernel) (by decide +kernel)
set_option maxRecDepth 100000 in
theorem w_co_X6_goesFirst : Cond.code yX6_goesFirst cX6_goesFirst 4 (Option.some .boolean) ∈ BW := bw_of 431 rfl rfl
theorem w_im_X4_moveBy : Cond.instanceMethod yX4_moveBy ∈ BW := bw_of 434 (by decide +kernel) (by decide +kernel)
set_option maxRecDepth 100000 in
theorem w_co_X4_moveBy : Cond.code yX4_moveBy cX4_moveBy 4 (Option.none : Option Jvm.ClassFile.FieldType) ∈ BW := bw_of 435 rfl rfl
theorem w_m_X4_27 : Cond.methodLink RX4 27 yX4_moveBySet ∈ BW := bw_of 436 (by decide +kernel) (by decide +kernel)
theorem w_im_X4_moveBySet : Cond.instanceMethod yX4_moveBySet ∈ BW := bw_of 438 (by decide +kernel) (by decide +kernel)
set_option maxRecDepth 100000 in
theorem w_co_X4_moveBySet : Cond.code yX4_moveBySet cX4_moveBySet 4 (Option.none : Option Jvm.ClassFile.FieldType) ∈ BW := bw_of 439 rfl rfl
theorem w_m_X4_31 : Cond.methodLink RX4 31 yX4_moveByStrike ∈ BW := bw_of 440 (by decide +kernel) (by decide +kernel)
theorem w_im_X4_moveByStrike : Cond.instanceMethod yX4_moveByStrike ∈ BW := bw_of 442 (by decide +kernel) (by decide +kernel)
set_option maxRecDepth 100000 in
theorem w_co_X4_moveByStrike : Cond.code yX4_moveByStrike cX4_moveByStrike 2 (Option.none : Option Jvm.ClassFile.FieldType) ∈ BW := bw_of 443 rfl rfl
theorem w_im_X5_move : Cond.instanceMethod yX5_move ∈ BW := bw_of 446 (by decide +kernel) (by decide +kernel)
set_option maxRecDepth 100000 in
theorem w_co_X5_move : Cond.code yX5_move cX5_move 3 (Option.none : Option Jvm.ClassFile.FieldType) ∈ BW := bw_of 447 rfl rfl
theorem w_im_X5_append : Cond.instanceMethod yX5_append ∈ BW := bw_of 451 (by decide +kernel) (by decide +kernel)
set_option maxRecDepth 100000 in
theorem w_co_X5_append : Cond.code yX5_append cX5_append 2 (Option.none : Option Jvm.ClassFile.FieldType) ∈ BW := bw_of 452 rfl rfl
theorem w_im_X2_append : Cond.instanceMethod yX2_append ∈ BW := bw_of 455 (by decide +kernel) (by decide +kernel)
set_option maxRecDepth 100000 in
theorem w_co_X2_append : Cond.code yX2_append cX2_append 2 (Option.none : Option Jvm.ClassFile.FieldType) ∈ BW := bw_of 456 rfl rfl
theorem w_m_X2_21 : Cond.methodLink RX2 21 yX2_insert ∈ BW := bw_of 457 (by decide +kernel) (by decide +kernel)
theorem w_im_X1_addSet : Cond.instanceMethod yX1_addSet ∈ BW := bw_of 460 (by decide +kernel) (by decide +kernel)
set_option maxRecDepth 100000 in
theorem w_co_X1_addSet : Cond.code yX1_addSet cX1_addSet 2 (Option.none : Option Jvm.ClassFile.FieldType) ∈ BW := bw_of 461 rfl rfl
theorem w_m_L_53 : Cond.methodLink RL 53 yX6_strike ∈ BW := bw_of 463 (by decide +kernel) (by decide +kernel)
theorem w_im_X6_strike : Cond.instanceMethod yX6_strike ∈ BW := bw_of 464 (by decide +kernel) (by decide +kernel)
theorem w_se_X6_strike : Cond.selects yX6_strike.cls yX6_strike yX6_strike ∈ BW := bw_of 465 (by decide +kernel) (by decide +kernel)
set_option maxRecDepth 100000 in
theorem w_co_X6_strike : Cond.code yX6_strike cX6_strike 4 (Option.some .int) ∈ BW := bw_of 466 rfl rfl
theorem w_m_X6_94 : Cond.methodLink RX6 94 yX6_checkPlace ∈ BW := bw_of 467 (by decide +kernel) (by decide +kernel)
theorem w_im_X6_checkPlace : Cond.instanceMethod yX6_checkPlace ∈ BW := bw_of 469 (by decide +kernel) (by decide +kernel)
set_option maxRecDepth 100000 in
theorem w_co_X6_checkPlace : Cond.code yX6_checkPlace cX6_checkPlace 3 (Option.none : Option Jvm.ClassFile.FieldType) ∈ BW := bw_of 470 rfl rfl
theorem w_m_X6_113 : Cond.methodLink RX6 113 yX6_strikeAt ∈ BW := bw_of 473 (by decide +kernel) (by decide +kernel)
theorem w_st_X6_strikeAt : Cond.static yX6_strikeAt ∈ BW := bw_of 474 (by decide +kernel) (by decide +kernel)
set_option maxRecDepth 100000 in
theorem w_co_X6_strikeAt : Cond.code yX6_strikeAt cX6_strikeAt 1 (Option.some (.object "TwoScribes$Stroke")) ∈ BW := bw_of 475 rfl rfl
theorem w_im_X1_addStrike : Cond.instanceMethod yX1_addStrike ∈ BW := bw_of 478 (by decide +kernel) (by decide +kernel)
set_option maxRecDepth 100000 in
theorem w_co_X1_addStrike : Cond.code yX1_addStrike cX1_addStrike 3 (Option.none : Option Jvm.ClassFile.FieldType) ∈ BW := bw_of 479 rfl rfl
theorem w_m_L_45 : Cond.methodLink RL 45 yX6_undo ∈ BW := bw_of 480 (by decide +kernel) (by decide +kernel)
theorem w_im_X6_undo : Cond.instanceMethod yX6_undo ∈ BW := bw_of 481 (by decide +kernel) (by decide +kernel)
theorem w_se_X6_undo : Cond.selects yX6_undo.cls yX6_undo yX6_undo ∈ BW := bw_of 482 (by decide +kernel) (by decide +kernel)
set_option maxRecDepth 100000 in
theorem w_co_X6_undo : Cond.code yX6_undo cX6_undo 6 (Option.some .int) ∈ BW := bw_of 483 rfl rfl
theorem w_im_X1_size : Cond.instanceMethod yX1_size ∈ BW := bw_of 486 (by decide +kernel) (by decide +kernel)
set_option maxRecDepth 100000 in
theorem w_co_X1_size : Cond.code yX1_size cX1_size 1 (Option.some .int) ∈ BW := bw_of 487 rfl rfl
theorem w_m_X6_126 : Cond.methodLink RX6 126 yX6_placeOfUndoing ∈ BW := bw_of 489 (by decide +kernel) (by decide +kernel)
theorem w_im_X6_placeOfUndoing : Cond.instanceMethod yX6_placeOfUndoing ∈ BW := bw_of 491 (by decide +kernel) (by decide +kernel)
set_option maxRecDepth 100000 in
theorem w_co_X6_placeOfUndoing : Cond.code yX6_placeOfUndoing cX6_placeOfUndoing 3 (Option.some .int) ∈ BW := bw_of 492 rfl rfl
theorem w_im_X1_lastStruck : Cond.instanceMethod yX1_lastStruck ∈ BW := bw_of 495 (by decide +kernel) (by decide +kernel)
set_option maxRecDepth 100000 in
theorem w_co_X1_lastStruck : Cond.code yX1_lastStruck cX1_lastStruck 1 (Option.some .boolean) ∈ BW := bw_of 496 rfl rfl
theorem w_im_X1_lastPlace : Cond.instanceMethod yX1_lastPlace ∈ BW := bw_of 499 (by decide +kernel) (by decide +kernel)
set_option maxRecDepth 100000 in
theorem w_co_X1_lastPlace : Cond.code yX1_lastPlace cX1_lastPlace 1 (Option.some .int) ∈ BW := bw_of 500 rfl rfl
theorem w_im_X1_lastMark : Cond.instanceMethod yX1_lastMark ∈ BW := bw_of 503 (by decide +kernel) (by decide +kernel)
set_option maxRecDepth 100000 in
theorem w_co_X1_lastMark : Cond.code yX1_lastMark cX1_lastMark 1 (Option.some .int) ∈ BW := bw_of 504 rfl rfl
theorem w_im_X0_placeOf : Cond.instanceMethod yX0_placeOf ∈ BW := bw_of 507 (by decide +kernel) (by decide +kernel)
set_option maxRecDepth 100000 in
theorem w_co_X0_placeOf : Cond.code yX0_placeOf cX0_placeOf 3 (Option.some .int) ∈ BW := bw_of 508 rfl rfl
theorem w_im_X1_lastLetter : Cond.instanceMethod yX1_lastLetter ∈ BW := bw_of 512 (by decide +kernel) (by decide +kernel)
set_option maxRecDepth 100000 in
theorem w_co_X1_lastLetter : Cond.code yX1_lastLetter cX1_lastLetter 1 (Option.some .int) ∈ BW := bw_of 513 rfl rfl
theorem w_im_X1_forgetLast : Cond.instanceMethod yX1_forgetLast ∈ BW := bw_of 516 (by decide +kernel) (by decide +kernel)
set_option maxRecDepth 100000 in
theorem w_co_X1_forgetLast : Cond.code yX1_forgetLast cX1_forgetLast 1 (Option.none : Option Jvm.ClassFile.FieldType) ∈ BW := bw_of 517 rfl rfl
theorem w_m_L_49 : Cond.methodLink RL 49 yX6_come ∈ BW := bw_of 519 (by decide +kernel) (by decide +kernel)
theorem w_im_X6_come : Cond.instanceMethod yX6_come ∈ BW := bw_of 520 (by decide +kernel) (by decide +kernel)
theorem w_se_X6_come : Cond.selects yX6_come.cls yX6_come yX6_come ∈ BW := bw_of 521 (by decide +kernel) (by decide +kernel)
set_option maxRecDepth 100000 in
theorem w_co_X6_come : Cond.code yX6_come cX6_come 2 (Option.some .int) ∈ BW := bw_of 522 rfl rfl
theorem w_m_X6_141 : Cond.methodLink RX6 141 yX6_takeFirst ∈ BW := bw_of 524 (by decide +kernel) (by decide +kernel)
theorem w_im_X6_takeFirst : Cond.instanceMethod yX6_takeFirst ∈ BW := bw_of 526 (by decide +kernel) (by decide +kernel)
set_option maxRecDepth 100000 in
theorem w_co_X6_takeFirst : Cond.code yX6_takeFirst cX6_takeFirst 3 (Option.some .int) ∈ BW := bw_of 527 rfl rfl
theorem w_im_X5_dropFirst : Cond.instanceMethod yX5_dropFirst ∈ BW := bw_of 530 (by decide +kernel) (by decide +kernel)
set_option maxRecDepth 100000 in
theorem w_co_X5_dropFirst : Cond.code yX5_dropFirst cX5_dropFirst 1 (Option.none : Option Jvm.ClassFile.FieldType) ∈ BW := bw_of 531 rfl rfl
theorem w_m_L_93 : Cond.methodLink RL 93 yX6_letter ∈ BW := bw_of 533 (by decide +kernel) (by decide +kernel)
theorem w_im_X6_letter : Cond.instanceMethod yX6_letter ∈ BW := bw_of 534 (by decide +kernel) (by decide +kernel)
theorem w_se_X6_letter : Cond.selects yX6_letter.cls yX6_letter yX6_letter ∈ BW := bw_of 535 (by decide +kernel) (by decide +kernel)
set_option maxRecDepth 100000 in
theorem w_co_X6_letter : Cond.code yX6_letter cX6_letter 3 (Option.some .int) ∈ BW := bw_of 536 rfl rfl
theorem w_m_L_96 : Cond.methodLink RL 96 yX6_author ∈ BW := bw_of 537 (by decide +kernel) (by decide +kernel)
theorem w_im_X6_author : Cond.instanceMethod yX6_author ∈ BW := bw_of 538 (by decide +kernel) (by decide +kernel)
theorem w_se_X6_author : Cond.selects yX6_author.cls yX6_author yX6_author ∈ BW := bw_of 539 (by decide +kernel) (by decide +kernel)
set_option maxRecDepth 100000 in
theorem w_co_X6_author : Cond.code yX6_author cX6_author 3 (Option.some .int) ∈ BW := bw_of 540 rfl rfl
theorem w_m_L_84 : Cond.methodLink RL 84 yX6_about ∈ BW := bw_of 541 (by decide +kernel) (by decide +kernel)
theorem w_im_X6_about : Cond.instanceMethod yX6_about ∈ BW := bw_of 542 (by decide +kernel) (by decide +kernel)
theorem w_se_X6_about : Cond.selects yX6_about.cls yX6_about yX6_about ∈ BW := bw_of 543 (by decide +kernel) (by decide +kernel)
set_option maxRecDepth 100000 in
theorem w_co_X6_about : Cond.code yX6_about cX6_about 4 (Option.some .int) ∈ BW := bw_of 544 rfl rfl
theorem w_im_X0_lettersOf : Cond.instanceMethod yX0_lettersOf ∈ BW := bw_of 547 (by decide +kernel) (by decide +kernel)
set_option maxRecDepth 100000 in
theorem w_co_X0_lettersOf : Cond.code yX0_lettersOf cX0_lettersOf 4 (Option.some .int) ∈ BW := bw_of 548 rfl rfl
theorem w_m_L_99 : Cond.methodLink RL 99 yX6_way ∈ BW := bw_of 550 (by decide +kernel) (by decide +kernel)
theorem w_im_X6_way : Cond.instanceMethod yX6_way ∈ BW := bw_of 551 (by decide +kernel) (by decide +kernel)
theorem w_se_X6_way : Cond.selects yX6_way.cls yX6_way yX6_way ∈ BW := bw_of 552 (by decide +kernel) (by decide +kernel)
set_option maxRecDepth 100000 in
theorem w_co_X6_way : Cond.code yX6_way cX6_way 5 (Option.some .int) ∈ BW := bw_of 553 rfl rfl
theorem w_m_L_78 : Cond.methodLink RL 78 yX6_count ∈ BW := bw_of 556 (by decide +kernel) (by decide +kernel)
theorem w_im_X6_count : Cond.instanceMethod yX6_count ∈ BW := bw_of 557 (by decide +kernel) (by decide +kernel)
theorem w_se_X6_count : Cond.selects yX6_count.cls yX6_count yX6_count ∈ BW := bw_of 558 (by decide +kernel) (by decide +kernel)
set_option maxRecDepth 100000 in
theorem w_co_X6_count : Cond.code yX6_count cX6_count 2 (Option.some .int) ∈ BW := bw_of 559 rfl rfl
theorem w_m_X6_35 : Cond.methodLink RX6 35 yX6_strokesOnWay ∈ BW := bw_of 560 (by decide +kernel) (by decide +kernel)
theorem w_im_X6_strokesOnWay : Cond.instanceMethod yX6_strokesOnWay ∈ BW := bw_of 562 (by decide +kernel) (by decide +kernel)
set_option maxRecDepth 100000 in
theorem w_co_X6_strokesOnWay : Cond.code yX6_strokesOnWay cX6_strokesOnWay 1 (Option.some .int) ∈ BW := bw_of 563 rfl rfl
theorem w_m_X6_179 : Cond.methodLink RX6 179 yX6_lettersOfPage ∈ BW := bw_of 564 (by decide +kernel) (by decide +kernel)
theorem w_im_X6_lettersOfPage : Cond.instanceMethod yX6_lettersOfPage ∈ BW := bw_of 566 (by decide +kernel) (by decide +kernel)
set_option maxRecDepth 100000 in
theorem w_co_X6_lettersOfPage : Cond.code yX6_lettersOfPage cX6_lettersOfPage 1 (Option.some .int) ∈ BW := bw_of 567 rfl rfl
theorem w_im_X5_growth : Cond.instanceMethod yX5_growth ∈ BW := bw_of 570 (by decide +kernel) (by decide +kernel)
set_option maxRecDepth 100000 in
theorem w_co_X5_growth : Cond.code yX5_growth cX5_growth 4 (Option.some .int) ∈ BW := bw_of 571 rfl rfl
theorem w_m_X6_182 : Cond.methodLink RX6 182 yX6_differences ∈ BW := bw_of 572 (by decide +kernel) (by decide +kernel)
theorem w_im_X6_differences : Cond.instanceMethod yX6_differences ∈ BW := bw_of 574 (by decide +kernel) (by decide +kernel)
set_option maxRecDepth 100000 in
theorem w_co_X6_differences : Cond.code yX6_differences cX6_differences 4 (Option.some .int) ∈ BW := bw_of 575 rfl rfl
theorem w_m_X6_190 : Cond.methodLink RX6 190 yX6_longerCopy ∈ BW := bw_of 576 (by decide +kernel) (by decide +kernel)
theorem w_im_X6_longerCopy : Cond.instanceMethod yX6_longerCopy ∈ BW := bw_of 578 (by decide +kernel) (by decide +kernel)
set_option maxRecDepth 100000 in
theorem w_co_X6_longerCopy : Cond.code yX6_longerCopy cX6_longerCopy 1 (Option.some .int) ∈ BW := bw_of 579 rfl rfl
theorem w_m_X6_288 : Cond.methodLink RX6 288 yJ9_max_7cf53 ∈ BW := bw_of 580 (by decide +kernel) (by decide +kernel)
theorem w_st_J9_max_7cf53 : Cond.static yJ9_max_7cf53 ∈ BW := bw_of 581 (by decide +kernel) (by decide +kernel)
set_option maxRecDepth 100000 in
theorem w_co_J9_max_7cf53 : Cond.code yJ9_max_7cf53 cJ9_max_7cf53 2 (Option.some .int) ∈ BW := bw_of 582 rfl rfl
theorem w_m_X6_193 : Cond.methodLink RX6 193 yX6_differAt ∈ BW := bw_of 583 (by decide +kernel) (by decide +kernel)
theorem w_im_X6_differAt : Cond.instanceMethod yX6_differAt ∈ BW := bw_of 585 (by decide +kernel) (by decide +kernel)
set_option maxRecDepth 100000 in
theorem w_co_X6_differAt : Cond.code yX6_differAt cX6_differAt 2 (Option.some .boolean) ∈ BW := bw_of 586 rfl rfl
theorem w_m_L_81 : Cond.methodLink RL 81 yX6_page ∈ BW := bw_of 588 (by decide +kernel) (by decide +kernel)
theorem w_im_X6_page : Cond.instanceMethod yX6_page ∈ BW := bw_of 589 (by decide +kernel) (by decide +kernel)
theorem w_se_X6_page : Cond.selects yX6_page.cls yX6_page yX6_page ∈ BW := bw_of 590 (by decide +kernel) (by decide +kernel)
set_option maxRecDepth 100000 in
theorem w_co_X6_page : Cond.code yX6_page cX6_page 2 (Option.some .int) ∈ BW := bw_of 591 rfl rfl
theorem w_m_X6_199 : Cond.methodLink RX6 199 yX6_letterOfPage ∈ BW := bw_of 593 (by decide +kernel) (by decide +kernel)
theorem w_im_X6_letterOfPage : Cond.instanceMethod yX6_letterOfPage ∈ BW := bw_of 595 (by decide +kernel) (by decide +kernel)
set_option maxRecDepth 100000 in
theorem w_co_X6_letterOfPage : Cond.code yX6_letterOfPage cX6_letterOfPage 7 (Option.some .int) ∈ BW := bw_of 596 rfl rfl
theorem w_m_L_90 : Cond.methodLink RL 90 yX6_goes ∈ BW := bw_of 597 (by decide +kernel) (by decide +kernel)
theorem w_im_X6_goes : Cond.instanceMethod yX6_goes ∈ BW := bw_of 598 (by decide +kernel) (by decide +kernel)
theorem w_se_X6_goes : Cond.selects yX6_goes.cls yX6_goes yX6_goes ∈ BW := bw_of 599 (by decide +kernel) (by decide +kernel)
set_option maxRecDepth 100000 in
theorem w_co_X6_goes : Cond.code yX6_goes cX6_goes 3 (Option.some .int) ∈ BW := bw_of 600 rfl rfl
theorem w_m_X6_202 : Cond.methodLink RX6 202 yX6_placeOnPage ∈ BW := bw_of 601 (by decide +kernel) (by decide +kernel)
theorem w_im_X6_placeOnPage : Cond.instanceMethod yX6_placeOnPage ∈ BW := bw_of 603 (by decide +kernel) (by decide +kernel)
set_option maxRecDepth 100000 in
theorem w_co_X6_placeOnPage : Cond.code yX6_placeOnPage cX6_placeOnPage 9 (Option.some .int) ∈ BW := bw_of 604 rfl rfl
theorem w_m_L_87 : Cond.methodLink RL 87 yX6_would ∈ BW := bw_of 605 (by decide +kernel) (by decide +kernel)
theorem w_im_X6_would : Cond.instanceMethod yX6_would ∈ BW := bw_of 606 (by decide +kernel) (by decide +kernel)
theorem w_se_X6_would : Cond.selects yX6_would.cls yX6_would yX6_would ∈ BW := bw_of 607 (by decide +kernel) (by decide +kernel)
set_option maxRecDepth 100000 in
theorem w_co_X6_would : Cond.code yX6_would cX6_would 9 (Option.some .int) ∈ BW := bw_of 608 rfl rfl
theorem w_m_L_103 : Cond.methodLink RL 103 yX6_undoes ∈ BW := bw_of 609 (by decide +kernel) (by decide +kernel)
theorem w_im_X6_undoes : Cond.instanceMethod yX6_undoes ∈ BW := bw_of 610 (by decide +kernel) (by decide +kernel)
theorem w_se_X6_undoes : Cond.selects yX6_undoes.cls yX6_undoes yX6_undoes ∈ BW := bw_of 611 (by decide +kernel) (by decide +kernel)
set_option maxRecDepth 100000 in
theorem w_co_X6_undoes : Cond.code yX6_undoes cX6_undoes 2 (Option.some .int) ∈ BW := bw_of 612 rfl rfl
theorem w_m_L_57 : Cond.methodLink RL 57 yX7_set ∈ BW := bw_of 613 (by decide +kernel) (by decide +kernel)
theorem w_im_X7_set : Cond.instanceMethod yX7_set ∈ BW := bw_of 614 (by decide +kernel) (by decide +kernel)
theorem w_se_X7_set : Cond.selects yX7_set.cls yX7_set yX7_set ∈ BW := bw_of 615 (by decide +kernel) (by decide +kernel)
set_option maxRecDepth 100000 in
theorem w_co_X7_set : Cond.code yX7_set cX7_set 6 (Option.none : Option Jvm.ClassFile.FieldType) ∈ BW := bw_of 616 rfl rfl
theorem w_m_X7_76 : Cond.methodLink RX7 76 yX7_fresh ∈ BW := bw_of 617 (by decide +kernel) (by decide +kernel)
theorem w_im_X7_fresh : Cond.instanceMethod yX7_fresh ∈ BW := bw_of 618 (by decide +kernel) (by decide +kernel)
theorem w_se_X7_fresh : Cond.selects yX7_fresh.cls yX7_fresh yX7_fresh ∈ BW := bw_of 619 (by decide +kernel) (by decide +kernel)
set_option maxRecDepth 100000 in
theorem w_co_X7_fresh : Cond.code yX7_fresh cX7_fresh 3 (Option.some .int) ∈ BW := bw_of 620 rfl rfl
theorem w_st_L_with : Cond.static yL_with ∈ BW := bw_of 622 (by decide +kernel) (by decide +kernel)
set_option maxRecDepth 100000 in
theorem w_co_L_with : Cond.code yL_with cL_with 5 (Option.some (.array .int)) ∈ BW := bw_of 623 rfl rfl
theorem w_m_X7_80 : Cond.methodLink RX7 80 yX7_write ∈ BW := bw_of 624 (by decide +kernel) (by decide +kernel)
theorem w_im_X7_write : Cond.instanceMethod yX7_write ∈ BW := bw_of 625 (by decide +kernel) (by decide +kernel)
theorem w_se_X7_write : Cond.selects yX7_write.cls yX7_write yX7_write ∈ BW := bw_of 626 (by decide +kernel) (by decide +kernel)
set_option maxRecDepth 100000 in
theorem w_co_X7_write : Cond.code yX7_write cX7_write 7 (Option.none : Option Jvm.ClassFile.FieldType) ∈ BW := bw_of 627 rfl rfl
theorem w_m_X7_64 : Cond.methodLink RX7 64 yX7_carry ∈ BW := bw_of 628 (by decide +kernel) (by decide +kernel)
theorem w_im_X7_carry : Cond.instanceMethod yX7_carry ∈ BW := bw_of 629 (by decide +kernel) (by decide +kernel)
theorem w_se_X7_carry : Cond.selects yX7_carry.cls yX7_carry yX7_carry ∈ BW := bw_of 630 (by decide +kernel) (by decide +kernel)
set_option maxRecDepth 100000 in
theorem w_co_X7_carry : Cond.code yX7_carry cX7_carry 7 (Option.none : Option Jvm.ClassFile.FieldType) ∈ BW := bw_of 631 rfl rfl
theorem w_st_L_without : Cond.static yL_without ∈ BW := bw_of 633 (by decide +kernel) (by decide +kernel)
set_option maxRecDepth 100000 in
theorem w_co_L_without : Cond.code yL_without cL_without 4 (Option.some (.array .int)) ∈ BW := bw_of 634 rfl rfl
theorem w_m_X7_68 : Cond.methodLink RX7 68 yX7_by ∈ BW := bw_of 635 (by decide +kernel) (by decide +kernel)
theorem w_im_X7_by : Cond.instanceMethod yX7_by ∈ BW := bw_of 636 (by decide +kernel) (by decide +kernel)
theorem w_se_X7_by : Cond.selects yX7_by.cls yX7_by yX7_by ∈ BW := bw_of 637 (by decide +kernel) (by decide +kernel)
set_option maxRecDepth 100000 in
theorem w_co_X7_by : Cond.code yX7_by cX7_by 6 (Option.some (.array .int)) ∈ BW := bw_of 638 rfl rfl
theorem w_m_X7_46 : Cond.methodLink RX7 46 ⟨"[I", "clone", "()Ljava/lang/Object;"⟩ ∈ BW := bw_of 639 (by decide +kernel) (by decide +kernel)
theorem w_sm_clone : Cond.sameMethod "[I" "java/lang/Object" "clone" "()Ljava/lang/Object;" ∈ BW := bw_of 640 (by decide +kernel) (by decide +kernel)
theorem w_na_clone : Cond.native ⟨"java/lang/Object", "clone", "()Ljava/lang/Object;"⟩ ∈ BW := bw_of 641 (by decide +kernel) (by decide +kernel)
theorem w_im_clone : Cond.instanceMethod ⟨"java/lang/Object", "clone", "()Ljava/lang/Object;"⟩ ∈ BW := bw_of 642 (by decide +kernel) (by decide +kernel)
theorem w_se_clone : Cond.selects "[I" ⟨"[I", "clone", "()Ljava/lang/Object;"⟩ ⟨"java/lang/Object", "clone", "()Ljava/lang/Object;"⟩ ∈ BW := bw_of 643 (by decide +kernel) (by decide +kernel)
theorem w_k_X7_16 : Cond.classLink RX7 16 "[I" ∈ BW := bw_of 645 (by decide +kernel) (by decide +kernel)
theorem w_m_X7_50 : Cond.methodLink RX7 50 yX7_first ∈ BW := bw_of 646 (by decide +kernel) (by decide +kernel)
theorem w_im_X7_first : Cond.instanceMethod yX7_first ∈ BW := bw_of 647 (by decide +kernel) (by decide +kernel)
theorem w_se_X7_first : Cond.selects yX7_first.cls yX7_first yX7_first ∈ BW := bw_of 648 (by decide +kernel) (by decide +kernel)
set_option maxRecDepth 100000 in
theorem w_co_X7_first : Cond.code yX7_first cX7_first 4 (Option.some .boolean) ∈ BW := bw_of 649 rfl rfl
theorem w_st_L_more : Cond.static yL_more ∈ BW := bw_of 651 (by decide +kernel) (by decide +kernel)
set_option maxRecDepth 100000 in
theorem w_co_L_more : Cond.code yL_more cL_more 4 (Option.some (.array (.array .int))) ∈ BW := bw_of 652 rfl rfl
theorem w_k_L_9 : Cond.classLink RL 9 "[I" ∈ BW := bw_of 653 (by decide +kernel) (by decide +kernel)
theorem w_m_L_56 : Cond.methodLink RL 56 yX7_strike ∈ BW := bw_of 655 (by decide +kernel) (by decide +kernel)
theorem w_im_X7_strike : Cond.instanceMethod yX7_strike ∈ BW := bw_of 656 (by decide +kernel) (by decide +kernel)
theorem w_se_X7_strike : Cond.selects yX7_strike.cls yX7_strike yX7_strike ∈ BW := bw_of 657 (by decide +kernel) (by decide +kernel)
set_option maxRecDepth 100000 in
theorem w_co_X7_strike : Cond.code yX7_strike cX7_strike 4 (Option.some .int) ∈ BW := bw_of 658 rfl rfl
theorem w_m_L_48 : Cond.methodLink RL 48 yX7_undo ∈ BW := bw_of 659 (by decide +kernel) (by decide +kernel)
theorem w_im_X7_undo : Cond.instanceMethod yX7_undo ∈ BW := bw_of 660 (by decide +kernel) (by decide +kernel)
theorem w_se_X7_undo : Cond.selects yX7_undo.cls yX7_undo yX7_undo ∈ BW := bw_of 661 (by decide +kernel) (by decide +kernel)
set_option maxRecDepth 100000 in
theorem w_co_X7_undo : Cond.code yX7_undo cX7_undo 7 (Option.some .int) ∈ BW := bw_of 662 rfl rfl
theorem w_m_X7_86 : Cond.methodLink RX7 86 yX7_undoes ∈ BW := bw_of 663 (by decide +kernel) (by decide +kernel)
theorem w_im_X7_undoes : Cond.instanceMethod yX7_undoes ∈ BW := bw_of 664 (by decide +kernel) (by decide +kernel)
theorem w_se_X7_undoes : Cond.selects yX7_undoes.cls yX7_undoes yX7_undoes ∈ BW := bw_of 665 (by decide +kernel) (by decide +kernel)
set_option maxRecDepth 100000 in
theorem w_co_X7_undoes : Cond.code yX7_undoes cX7_undoes 3 (Option.some .int) ∈ BW := bw_of 666 rfl rfl
theorem w_m_X7_83 : Cond.methodLink RX7 83 yX7_find ∈ BW := bw_of 667 (by decide +kernel) (by decide +kernel)
theorem w_im_X7_find : Cond.instanceMethod yX7_find ∈ BW := bw_of 668 (by decide +kernel) (by decide +kernel)
theorem w_se_X7_find : Cond.selects yX7_find.cls yX7_find yX7_find ∈ BW := bw_of 669 (by decide +kernel) (by decide +kernel)
set_option maxRecDepth 100000 in
theorem w_co_X7_find : Cond.code yX7_find cX7_find 4 (Option.some .int) ∈ BW := bw_of 670 rfl rfl
theorem w_m_L_52 : Cond.methodLink RL 52 yX7_come ∈ BW := bw_of 671 (by decide +kernel) (by decide +kernel)
theorem w_im_X7_come : Cond.instanceMethod yX7_come ∈ BW := bw_of 672 (by decide +kernel) (by decide +kernel)
theorem w_se_X7_come : Cond.selects yX7_come.cls yX7_come yX7_come ∈ BW := bw_of 673 (by decide +kernel) (by decide +kernel)
set_option maxRecDepth 100000 in
theorem w_co_X7_come : Cond.code yX7_come cX7_come 5 (Option.some .int) ∈ BW := bw_of 674 rfl rfl
theorem w_m_L_111 : Cond.methodLink RL 111 yX7_isSame ∈ BW := bw_of 675 (by decide +kernel) (by decide +kernel)
theorem w_im_X7_isSame : Cond.instanceMethod yX7_isSame ∈ BW := bw_of 676 (by decide +kernel) (by decide +kernel)
theorem w_se_X7_isSame : Cond.selects yX7_isSame.cls yX7_isSame yX7_isSame ∈ BW := bw_of 677 (by decide +kernel) (by decide +kernel)
set_option maxRecDepth 100000 in
theorem w_co_X7_isSame : Cond.code yX7_isSame cX7_isSame 12 (Option.some .boolean) ∈ BW := bw_of 678 rfl rfl
theorem w_m_X7_93 : Cond.methodLink RX7 93 yX7_copy ∈ BW := bw_of 679 (by decide +kernel) (by decide +kernel)
theorem w_im_X7_copy : Cond.instanceMethod yX7_copy ∈ BW := bw_of 680 (by decide +kernel) (by decide +kernel)
theorem w_se_X7_copy : Cond.selects yX7_copy.cls yX7_copy yX7_copy ∈ BW := bw_of 681 (by decide +kernel) (by decide +kernel)
set_option maxRecDepth 100000 in
theorem w_co_X7_copy : Cond.code yX7_copy cX7_copy 4 (Option.some (.object "TwoScribesLaw$Sim")) ∈ BW := bw_of 682 rfl rfl
theorem w_k_X7_8 : Cond.classLink RX7 8 RX7 ∈ BW := bw_of 683 (by decide +kernel) (by decide +kernel)
theorem w_i_X7 : Cond.instantiable RX7 10 ∈ BW := bw_of 684 (by decide +kernel) (by decide +kernel)
theorem w_m_X7_38 : Cond.methodLink RX7 38 yX7_init ∈ BW := bw_of 685 (by decide +kernel) (by decide +kernel)
theorem w_im_X7_init : Cond.instanceMethod yX7_init ∈ BW := bw_of 686 (by decide +kernel) (by decide +kernel)
set_option maxRecDepth 100000 in
theorem w_co_X7_init : Cond.code yX7_init cX7_init 1 (Option.none : Option Jvm.ClassFile.FieldType) ∈ BW := bw_of 687 rfl rfl
theorem w_m_X7_1 : Cond.methodLink RX7 1 objectInit ∈ BW := bw_of 688 (by decide +kernel) (by decide +kernel)
theorem w_k_X7_21 : Cond.classLink RX7 21 "[[I" ∈ BW := bw_of 689 (by decide +kernel) (by decide +kernel)
theorem w_f_X7_39 : Cond.fieldLink RX7 39 "TwoScribesLaw$Sim" "rule" "I" ∈ BW := bw_of 691 (by decide +kernel) (by decide +kernel)
theorem w_f_L_27 : Cond.fieldLink RL 27 "TwoScribesLaw$Sim" "rule" "I" ∈ BW := bw_of 692 (by decide +kernel) (by decide +kernel)
theorem w_f_X7_43 : Cond.fieldLink RX7 43 "TwoScribesLaw$Sim" "ties" "I" ∈ BW := bw_of 693 (by decide +kernel) (by decide +kernel)
theorem w_f_X7_7 : Cond.fieldLink RX7 7 "TwoScribesLaw$Sim" "letters" "[I" ∈ BW := bw_of 694 (by decide +kernel) (by decide +kernel)
theorem w_f_X7_13 : Cond.fieldLink RX7 13 "TwoScribesLaw$Sim" "authors" "[I" ∈ BW := bw_of 695 (by decide +kernel) (by decide +kernel)
theorem w_f_X7_17 : Cond.fieldLink RX7 17 "TwoScribesLaw$Sim" "copies" "[[I" ∈ BW := bw_of 696 (by decide +kernel) (by decide +kernel)
theorem w_f_L_17 : Cond.fieldLink RL 17 "TwoScribesLaw$Sim" "copies" "[[I" ∈ BW := bw_of 697 (by decide +kernel) (by decide +kernel)
theorem w_f_X7_22 : Cond.fieldLink RX7 22 "TwoScribesLaw$Sim" "ways" "[[[I" ∈ BW := bw_of 698 (by decide +kernel) (by decide +kernel)
theorem w_f_L_23 : Cond.fieldLink RL 23 "TwoScribesLaw$Sim" "ways" "[[[I" ∈ BW := bw_of 699 (by decide +kernel) (by decide +kernel)
theorem w_f_X7_26 : Cond.fieldLink RX7 26 "TwoScribesLaw$Sim" "done" "[[[I" ∈ BW := bw_of 700 (by decide +kernel) (by decide +kernel)
theorem w_f_L_42 : Cond.fieldLink RL 42 "TwoScribesLaw$Sim" "done" "[[[I" ∈ BW := bw_of 701 (by decide +kernel) (by decide +kernel)
theorem w_f_X7_29 : Cond.fieldLink RX7 29 "TwoScribesLaw$Sim" "written" "[I" ∈ BW := bw_of 702 (by decide +kernel) (by decide +kernel)
theorem w_f_X7_32 : Cond.fieldLink RX7 32 "TwoScribesLaw$Sim" "came" "[I" ∈ BW := bw_of 703 (by decide +kernel) (by decide +kernel)
theorem w_f_X7_35 : Cond.fieldLink RX7 35 "TwoScribesLaw$Sim" "idle" "[I" ∈ BW := bw_of 704 (by decide +kernel) (by decide +kernel)
theorem w_m_X7_97 : Cond.methodLink RX7 97 yX7_meet ∈ BW := bw_of 726 (by decide +kernel) (by decide +kernel)
theorem w_im_X7_meet : Cond.instanceMethod yX7_meet ∈ BW := bw_of 727 (by decide +kernel) (by decide +kernel)
theorem w_se_X7_meet : Cond.selects yX7_meet.cls yX7_meet yX7_meet ∈ BW := bw_of 728 (by decide +kernel) (by decide +kernel)
set_option maxRecDepth 100000 in
theorem w_co_X7_meet : Cond.code yX7_meet cX7_meet 3 (Option.some .int) ∈ BW := bw_of 729 rfl rfl
theorem w_m_X7_90 : Cond.methodLink RX7 90 yX7_come ∈ BW := bw_of 730 (by decide +kernel) (by decide +kernel)
theorem w_m_X7_101 : Cond.methodLink RX7 101 yX6_letter ∈ BW := bw_of 731 (by decide +kernel) (by decide +kernel)
theorem w_m_X7_106 : Cond.methodLink RX7 106 yX6_author ∈ BW := bw_of 732 (by decide +kernel) (by decide +kernel)
theorem w_m_X7_109 : Cond.methodLink RX7 109 yX6_about ∈ BW := bw_of 733 (by decide +kernel) (by decide +kernel)
theorem w_m_X7_112 : Cond.methodLink RX7 112 yX6_way ∈ BW := bw_of 734 (by decide +kernel) (by decide +kernel)
theorem w_m_X7_116 : Cond.methodLink RX7 116 yX6_undoes ∈ BW := bw_of 735 (by decide +kernel) (by decide +kernel)
theorem w_m_X7_117 : Cond.methodLink RX7 117 yX6_count ∈ BW := bw_of 736 (by decide +kernel) (by decide +kernel)
theorem w_m_X7_120 : Cond.methodLink RX7 120 yX6_first ∈ BW := bw_of 737 (by decide +kernel) (by decide +kernel)
theorem w_im_X6_first : Cond.instanceMethod yX6_first ∈ BW := bw_of 738 (by decide +kernel) (by decide +kernel)
theorem w_se_X6_first : Cond.selects yX6_first.cls yX6_first yX6_first ∈ BW := bw_of 739 (by decide +kernel) (by decide +kernel)
set_option maxRecDepth 100000 in
theorem w_co_X6_first : Cond.code yX6_first cX6_first 3 (Option.some .int) ∈ BW := bw_of 740 rfl rfl
theorem w_m_X7_122 : Cond.methodLink RX7 122 yX6_mean ∈ BW := bw_of 741 (by decide +kernel) (by decide +kernel)
theorem w_im_X6_mean : Cond.instanceMethod yX6_mean ∈ BW := bw_of 742 (by decide +kernel) (by decide +kernel)
theorem w_se_X6_mean : Cond.selects yX6_mean.cls yX6_mean yX6_mean ∈ BW := bw_of 743 (by decide +kernel) (by decide +kernel)
set_option maxRecDepth 100000 in
theorem w_co_X6_mean : Cond.code yX6_mean cX6_mean 1 (Option.some .double) ∈ BW := bw_of 744 rfl rfl
theorem w_cd_X6_223 : Cond.constantDouble RX6 223 4611686018427387904 ∈ BW := bw_of 745 (by decide +kernel) (by decide +kernel)
theorem w_cd_X7_126 : Cond.constantDouble RX7 126 4611686018427387904 ∈ BW := bw_of 746 (by decide +kernel) (by decide +kernel)
theorem w_m_L_11 : Cond.methodLink RL 11 yL_below ∈ BW := bw_of 747 (by decide +kernel) (by decide +kernel)
theorem w_st_L_below : Cond.static yL_below ∈ BW := bw_of 748 (by decide +kernel) (by decide +kernel)
set_option maxRecDepth 100000 in
theorem w_co_L_below : Cond.code yL_below cL_below 2 (Option.some .int) ∈ BW := bw_of 749 rfl rfl
theorem w_cl_L_7 : Cond.constant RL 7 2147483647 ∈ BW := bw_of 750 (by decide +kernel) (by decide +kernel)
theorem w_m_L_65 : Cond.methodLink RL 65 yL_cell ∈ BW := bw_of 751 (by decide +kernel) (by decide +kernel)
theorem w_st_L_cell : Cond.static yL_cell ∈ BW := bw_of 752 (by decide +kernel) (by decide +kernel)
set_option maxRecDepth 100000 in
theorem w_co_L_cell : Cond.code yL_cell cL_cell 2 (Option.some .int) ∈ BW := bw_of 753 rfl rfl
theorem w_cl_L_8 : Cond.constant RL 8 790386105 ∈ BW := bw_of 754 (by decide +kernel) (by decide +kernel)
theorem w_m_L_69 : Cond.methodLink RL 69 yL_act ∈ BW := bw_of 755 (by decide +kernel) (by decide +kernel)
theorem w_st_L_act : Cond.static yL_act ∈ BW := bw_of 756 (by decide +kernel) (by decide +kernel)
set_option maxRecDepth 100000 in
theorem w_co_L_act : Cond.code yL_act cL_act 11 (Option.some .boolean) ∈ BW := bw_of 757 rfl rfl
theorem w_m_L_31 : Cond.methodLink RL 31 yX6_setRule ∈ BW := bw_of 758 (by decide +kernel) (by decide +kernel)
theorem w_im_X6_setRule : Cond.instanceMethod yX6_setRule ∈ BW := bw_of 759 (by decide +kernel) (by decide +kernel)
theorem w_se_X6_setRule : Cond.selects yX6_setRule.cls yX6_setRule yX6_setRule ∈ BW := bw_of 760 (by decide +kernel) (by decide +kernel)
set_option maxRecDepth 100000 in
theorem w_co_X6_setRule : Cond.code yX6_setRule cX6_setRule 3 (Option.some .int) ∈ BW := bw_of 761 rfl rfl
theorem w_m_L_37 : Cond.methodLink RL 37 yX6_meet ∈ BW := bw_of 764 (by decide +kernel) (by decide +kernel)
theorem w_im_X6_meet : Cond.instanceMethod yX6_meet ∈ BW := bw_of 765 (by decide +kernel) (by decide +kernel)
theorem w_se_X6_meet : Cond.selects yX6_meet.cls yX6_meet yX6_meet ∈ BW := bw_of 766 (by decide +kernel) (by decide +kernel)
set_option maxRecDepth 100000 in
theorem w_co_X6_meet : Cond.code yX6_meet cX6_meet 2 (Option.some .int) ∈ BW := bw_of 767 rfl rfl
theorem w_m_X6_144 : Cond.methodLink RX6 144 yX6_takeAll ∈ BW := bw_of 768 (by decide +kernel) (by decide +kernel)
theorem w_im_X6_takeAll : Cond.instanceMethod yX6_takeAll ∈ BW := bw_of 770 (by decide +kernel) (by decide +kernel)
set_option maxRecDepth 100000 in
theorem w_co_X6_takeAll : Cond.code yX6_takeAll cX6_takeAll 3 (Option.none : Option Jvm.ClassFile.FieldType) ∈ BW := bw_of 771 rfl rfl
theorem w_m_L_41 : Cond.methodLink RL 41 yX7_meet ∈ BW := bw_of 772 (by decide +kernel) (by decide +kernel)
theorem w_m_L_74 : Cond.methodLink RL 74 yL_build ∈ BW := bw_of 773 (by decide +kernel) (by decide +kernel)
theorem w_st_L_build : Cond.static yL_build ∈ BW := bw_of 774 (by decide +kernel) (by decide +kernel)
set_option maxRecDepth 100000 in
theorem w_co_L_build : Cond.code yL_build cL_build 5 (Option.some (.object "TwoScribesLaw$Sim")) ∈ BW := bw_of 775 rfl rfl
theorem w_k_L_18 : Cond.classLink RL 18 RX7 ∈ BW := bw_of 776 (by decide +kernel) (by decide +kernel)
theorem w_m_L_106 : Cond.methodLink RL 106 yJ9_abs_0f7a4 ∈ BW := bw_of 778 (by decide +kernel) (by decide +kernel)
theorem w_st_J9_abs_0f7a4 : Cond.static yJ9_abs_0f7a4 ∈ BW := bw_of 779 (by decide +kernel) (by decide +kernel)
set_option maxRecDepth 100000 in
theorem w_co_J9_abs_0f7a4 : Cond.code yJ9_abs_0f7a4 cJ9_abs_0f7a4 1 (Option.some .int) ∈ BW := bw_of 780 rfl rfl
def nwL : List Cond := [Cond.methodLinkNest RX6 9 yX3_init RX6, Cond.methodLinkNest RX3 11 yX0_init RX6, Cond.methodLinkNest RX0 11 yX2_init RX6, Cond.fieldLinkNest RX5 29 "TwoScribes$Row" "size" "I" RX6, Cond.fieldLinkNest RX1 26 "TwoScribes$Row" "size" "I" RX6, Cond.fieldLinkNest RX0 26 "TwoScribes$Row" "size" "I" RX6, Cond.fieldLinkNest RX6 101 "TwoScribes$Copy" "letters" "LTwoScribes$Row;" RX6, Cond.fieldLinkNest RX6 147 "TwoScribes$Copy" "authors" "LTwoScribes$Row;" RX6, Cond.methodLinkNest RX3 20 yX5_init RX6, Cond.methodLinkNest RX5 11 yX2_init RX6, Cond.fieldLinkNest RX6 167 "TwoScribes$Way" "kinds" "LTwoScribes$Row;" RX6, Cond.fieldLinkNest RX6 170 "TwoScribes$Way" "places" "LTwoScribes$Row;" RX6, Cond.fieldLinkNest RX6 173 "TwoScribes$Way" "letters" "LTwoScribes$Row;" RX6, Cond.fieldLinkNest RX6 174 "TwoScribes$Way" "intents" "LTwoScribes$Row;" RX6, Cond.methodLinkNest RX3 27 yX1_init RX6, Cond.methodLinkNest RX1 11 yX2_init RX6, Cond.fieldLinkNest RX6 97 "TwoScribes$Scribe" "copy" "LTwoScribes$Copy;" RX6, Cond.fieldLinkNest RX6 85 "TwoScribes$Scribe" "way" "LTwoScribes$Way;" RX6, Cond.fieldLinkNest RX6 73 "TwoScribes$Scribe" "past" "LTwoScribes$Past;" RX6, Cond.fieldLinkNest RX6 151 "TwoScribes$Scribe" "wrote" "I" RX6, Cond.fieldLinkNest RX6 154 "TwoScribes$Scribe" "came" "I" RX6, Cond.fieldLinkNest RX6 157 "TwoScribes$Scribe" "cameIdle" "I" RX6, Cond.methodLinkNest RX6 21 yX4_init RX6, Cond.fieldLinkNest RX3 32 "TwoScribes$Stroke" "kind" "I" RX6, Cond.fieldLinkNest RX5 37 "TwoScribes$Stroke" "kind" "I" RX6, Cond.fieldLinkNest RX6 209 "TwoScribes$Stroke" "kind" "I" RX6, Cond.fieldLinkNest RX3 38 "TwoScribes$Stroke" "place" "I" RX6, Cond.fieldLinkNest RX5 42 "TwoScribes$Stroke" "place" "I" RX6, Cond.fieldLinkNest RX6 212 "TwoScribes$Stroke" "place" "I" RX6, Cond.fieldLinkNest RX3 41 "TwoScribes$Stroke" "letter" "I" RX6, Cond.fieldLinkNest RX5 45 "TwoScribes$Stroke" "letter" "I" RX6, Cond.fieldLinkNest RX6 273 "TwoScribes$Stroke" "letter" "I" RX6, Cond.fieldLinkNest RX5 48 "TwoScribes$Stroke" "intent" "I" RX6, Cond.fieldLinkNest RX6 270 "TwoScribes$Stroke" "intent" "I" RX6, Cond.fieldLinkNest RX3 44 "TwoScribes$Stroke" "mark" "I" RX6, Cond.methodLinkNest RX6 150 yX0_size RX6, Cond.methodLinkNest RX6 89 yX5_size RX6, Cond.methodLinkNest RX6 256 yX3_doStroke RX6, Cond.methodLinkNest RX3 47 yX0_insert RX6, Cond.methodLinkNest RX0 30 yX2_insert RX6, Cond.methodLinkNest RX3 51 yX1_shiftBehind RX6, Cond.methodLinkNest RX1 33 yX2_at RX6, Cond.methodLinkNest RX1 40 yX2_change RX6, Cond.methodLinkNest RX3 55 yX0_remove RX6, Cond.methodLinkNest RX0 34 yX2_remove RX6, Cond.methodLinkNest RX6 206 yX5_read RX6, Cond.methodLinkNest RX5 33 yX2_at RX6, Cond.methodLinkNest RX6 219 yX4_moveBy RX6, Cond.methodLinkNest RX6 263 yX5_move RX6, Cond.methodLinkNest RX5 54 yX2_change RX6, Cond.methodLinkNest RX6 266 yX5_append RX6, Cond.methodLinkNest RX5 51 yX2_append RX6, Cond.methodLinkNest RX6 77 yX1_addSet RX6, Cond.methodLinkNest RX1 30 yX2_append RX6, Cond.methodLinkNest RX6 107 yX2_at RX6, Cond.methodLinkNest RX6 117 yX1_addStrike RX6, Cond.methodLinkNest RX6 123 yX1_size RX6, Cond.methodLinkNest RX6 132 yX1_lastStruck RX6, Cond.methodLinkNest RX6 279 yX1_lastPlace RX6, Cond.methodLinkNest RX6 282 yX1_lastMark RX6, Cond.methodLinkNest RX6 285 yX0_placeOf RX6, Cond.methodLinkNest RX0 37 yX2_at RX6, Cond.methodLinkNest RX6 129 yX1_lastLetter RX6, Cond.methodLinkNest RX6 136 yX1_forgetLast RX6, Cond.methodLinkNest RX1 37 yX2_remove RX6, Cond.methodLinkNest RX6 276 yX5_dropFirst RX6, Cond.methodLinkNest RX5 58 yX2_remove RX6, Cond.methodLinkNest RX6 160 yX0_lettersOf RX6, Cond.methodLinkNest RX6 293 yX5_growth RX6, Cond.methodLinkNest RX7 54 yL_with RL, Cond.methodLinkNest RX7 60 yL_without RL, Cond.castable "[I" "java/lang/Cloneable", Cond.methodLinkNest RX7 72 yL_more RL, Cond.arrayOver (.array .int), Cond.arrayOver (.array (.array .int)), Cond.methodLinkNest RL 64 yX7_init RL]
theorem w_nm_X6_9 : Cond.methodLinkNest RX6 9 yX3_init RX6 ∈ nwL := List.mem_of_getElem? (i := 0) (by decide +kernel)
theorem w_nm_X3_11 : Cond.methodLinkNest RX3 11 yX0_init RX6 ∈ nwL := List.mem_of_getElem? (i := 1) (by decide +kernel)
theorem w_nm_X0_11 : Cond.methodLinkNest RX0 11 yX2_init RX6 ∈ nwL := List.mem_of_getElem? (i := 2) (by decide +kernel)
theorem w_nf_X5_29 : Cond.fieldLinkNest RX5 29 "TwoScribes$Row" "size" "I" RX6 ∈ nwL := List.mem_of_getElem? (i := 3) (by decide +kernel)
theorem w_nf_X1_26 : Cond.fieldLinkNest RX1 26 "TwoScribes$Row" "size" "I" RX6 ∈ nwL := List.mem_of_getElem? (i := 4) (by decide +kernel)
theorem w_nf_X0_26 : Cond.fieldLinkNest RX0 26 "TwoScribes$Row" "size" "I" RX6 ∈ nwL := List.mem_of_getElem? (i := 5) (by decide +kernel)
theorem w_nf_X6_101 : Cond.fieldLinkNest RX6 101 "TwoScribes$Copy" "letters" "LTwoScribes$Row;" RX6 ∈ nwL := List.mem_of_getElem? (i := 6) (by decide +kernel)
theorem w_nf_X6_147 : Cond.fieldLinkNest RX6 147 "TwoScribes$Copy" "authors" "LTwoScribes$Row;" RX6 ∈ nwL := List.mem_of_getElem? (i := 7) (by decide +kernel)
theorem w_nm_X3_20 : Cond.methodLinkNest RX3 20 yX5_init RX6 ∈ nwL := List.mem_of_getElem? (i := 8) (by decide +kernel)
theorem w_nm_X5_11 : Cond.methodLinkNest RX5 11 yX2_init RX6 ∈ nwL := List.mem_of_getElem? (i := 9) (by decide +kernel)
theorem w_nf_X6_167 : Cond.fieldLinkNest RX6 167 "TwoScribes$Way" "kinds" "LTwoScribes$Row;" RX6 ∈ nwL := List.mem_of_getElem? (i := 10) (by decide +kernel)
theorem w_nf_X6_170 : Cond.fieldLinkNest RX6 170 "TwoScribes$Way" "places" "LTwoScribes$Row;" RX6 ∈ nwL := List.mem_of_getElem? (i := 11) (by decide +kernel)
theorem w_nf_X6_173 : Cond.fieldLinkNest RX6 173 "TwoScribes$Way" "letters" "LTwoScribes$Row;" RX6 ∈ nwL := List.mem_of_getElem? (i := 12) (by decide +kernel)
theorem w_nf_X6_174 : Cond.fieldLinkNest RX6 174 "TwoScribes$Way" "intents" "LTwoScribes$Row;" RX6 ∈ nwL := List.mem_of_getElem? (i := 13) (by decide +kernel)
theorem w_nm_X3_27 : Cond.methodLinkNest RX3 27 yX1_init RX6 ∈ nwL := List.mem_of_getElem? (i := 14) (by decide +kernel)
theorem w_nm_X1_11 : Cond.methodLinkNest RX1 11 yX2_init RX6 ∈ nwL := List.mem_of_getElem? (i := 15) (by decide +kernel)
theorem w_nf_X6_97 : Cond.fieldLinkNest RX6 97 "TwoScribes$Scribe" "copy" "LTwoScribes$Copy;" RX6 ∈ nwL := List.mem_of_getElem? (i := 16) (by decide +kernel)
theorem w_nf_X6_85 : Cond.fieldLinkNest RX6 85 "TwoScribes$Scribe" "way" "LTwoScribes$Way;" RX6 ∈ nwL := List.mem_of_getElem? (i := 17) (by decide +kernel)
theorem w_nf_X6_73 : Cond.fieldLinkNest RX6 73 "TwoScribes$Scribe" "past" "LTwoScribes$Past;" RX6 ∈ nwL := List.mem_of_getElem? (i := 18) (by decide +kernel)
theorem w_nf_X6_151 : Cond.fieldLinkNest RX6 151 "TwoScribes$Scribe" "wrote" "I" RX6 ∈ nwL := List.mem_of_getElem? (i := 19) (by decide +kernel)
theorem w_nf_X6_154 : Cond.fieldLinkNest RX6 154 "TwoScribes$Scribe" "came" "I" RX6 ∈ nwL := List.mem_of_getElem? (i := 20) (by decide +kernel)
theorem w_nf_X6_157 : Cond.fieldLinkNest RX6 157 "TwoScribes$Scribe" "cameIdle" "I" RX6 ∈ nwL := List.mem_of_getElem? (i := 21) (by decide +kernel)
theorem w_nm_X6_21 : Cond.methodLinkNest RX6 21 yX4_init RX6 ∈ nwL := List.mem_of_getElem? (i := 22) (by decide +kernel)
theorem w_nf_X3_32 : Cond.fieldLinkNest RX3 32 "TwoScribes$Stroke" "kind" "I" RX6 ∈ nwL := List.mem_of_getElem? (i := 23) (by decide +kernel)
theorem w_nf_X5_37 : Cond.fieldLinkNest RX5 37 "TwoScribes$Stroke" "kind" "I" RX6 ∈ nwL := List.mem_of_getElem? (i := 24) (by decide +kernel)
theorem w_nf_X6_209 : Cond.fieldLinkNest RX6 209 "TwoScribes$Stroke" "kind" "I" RX6 ∈ nwL := List.mem_of_getElem? (i := 25) (by decide +kernel)
theorem w_nf_X3_38 : Cond.fieldLinkNest RX3 38 "TwoScribes$Stroke" "place" "I" RX6 ∈ nwL := List.mem_of_getElem? (i := 26) (by decide +kernel)
theorem w_nf_X5_42 : Cond.fieldLinkNest RX5 42 "TwoScribes$Stroke" "place" "I" RX6 ∈ nwL := List.mem_of_getElem? (i := 27) (by decide +kernel)
theorem w_nf_X6_212 : Cond.fieldLinkNest RX6 212 "TwoScribes$Stroke" "place" "I" RX6 ∈ nwL := List.mem_of_getElem? (i := 28) (by decide +kernel)
theorem w_nf_X3_41 : Cond.fieldLinkNest RX3 41 "TwoScribes$Stroke" "letter" "I" RX6 ∈ nwL := List.mem_of_getElem? (i := 29) (by decide +kernel)
theorem w_nf_X5_45 : Cond.fieldLinkNest RX5 45 "TwoScribes$Stroke" "letter" "I" RX6 ∈ nwL := List.mem_of_getElem? (i := 30) (by decide +kernel)
theorem w_nf_X6_273 : Cond.fieldLinkNest RX6 273 "TwoScribes$Stroke" "letter" "I" RX6 ∈ nwL := List.mem_of_getElem? (i := 31) (by decide +kernel)
theorem w_nf_X5_48 : Cond.fieldLinkNest RX5 48 "TwoScribes$Stroke" "intent" "I" RX6 ∈ nwL := List.mem_of_getElem? (i := 32) (by decide +kernel)
theorem w_nf_X6_270 : Cond.fieldLinkNest RX6 270 "TwoScribes$Stroke" "intent" "I" RX6 ∈ nwL := List.mem_of_getElem? (i := 33) (by decide +kernel)
theorem w_nf_X3_44 : Cond.fieldLinkNest RX3 44 "TwoScribes$Stroke" "mark" "I" RX6 ∈ nwL := List.mem_of_getElem? (i := 34) (by decide +kernel)
theorem w_nm_X6_150 : Cond.methodLinkNest RX6 150 yX0_size RX6 ∈ nwL := List.mem_of_getElem? (i := 35) (by decide +kernel)
theorem w_nm_X6_89 : Cond.methodLinkNest RX6 89 yX5_size RX6 ∈ nwL := List.mem_of_getElem? (i := 36) (by decide +kernel)
theorem w_nm_X6_256 : Cond.methodLinkNest RX6 256 yX3_doStroke RX6 ∈ nwL := List.mem_of_getElem? (i := 37) (by decide +kernel)
theorem w_nm_X3_47 : Cond.methodLinkNest RX3 47 yX0_insert RX6 ∈ nwL := List.mem_of_getElem? (i := 38) (by decide +kernel)
theorem w_nm_X0_30 : Cond.methodLinkNest RX0 30 yX2_insert RX6 ∈ nwL := List.mem_of_getElem? (i := 39) (by decide +kernel)
theorem w_nm_X3_51 : Cond.methodLinkNest RX3 51 yX1_shiftBehind RX6 ∈ nwL := List.mem_of_getElem? (i := 40) (by decide +kernel)
theorem w_nm_X1_33 : Cond.methodLinkNest RX1 33 yX2_at RX6 ∈ nwL := List.mem_of_getElem? (i := 41) (by decide +kernel)
theorem w_nm_X1_40 : Cond.methodLinkNest RX1 40 yX2_change RX6 ∈ nwL := List.mem_of_getElem? (i := 42) (by decide +kernel)
theorem w_nm_X3_55 : Cond.methodLinkNest RX3 55 yX0_remove RX6 ∈ nwL := List.mem_of_getElem? (i := 43) (by decide +kernel)
theorem w_nm_X0_34 : Cond.methodLinkNest RX0 34 yX2_remove RX6 ∈ nwL := List.mem_of_getElem? (i := 44) (by decide +kernel)
theorem w_nm_X6_206 : Cond.methodLinkNest RX6 206 yX5_read RX6 ∈ nwL := List.mem_of_getElem? (i := 45) (by decide +kernel)
theorem w_nm_X5_33 : Cond.methodLinkNest RX5 33 yX2_at RX6 ∈ nwL := List.mem_of_getElem? (i := 46) (by decide +kernel)
theorem w_nm_X6_219 : Cond.methodLinkNest RX6 219 yX4_moveBy RX6 ∈ nwL := List.mem_of_getElem? (i := 47) (by decide +kernel)
theorem w_nm_X6_263 : Cond.methodLinkNest RX6 263 yX5_move RX6 ∈ nwL := List.mem_of_getElem? (i := 48) (by decide +kernel)
theorem w_nm_X5_54 : Cond.methodLinkNest RX5 54 yX2_change RX6 ∈ nwL := List.mem_of_getElem? (i := 49) (by decide +kernel)
theorem w_nm_X6_266 : Cond.methodLinkNest RX6 266 yX5_append RX6 ∈ nwL := List.mem_of_getElem? (i := 50) (by decide +kernel)
theorem w_nm_X5_51 : Cond.methodLinkNest RX5 51 yX2_append RX6 ∈ nwL := List.mem_of_getElem? (i := 51) (by decide +kernel)
theorem w_nm_X6_77 : Cond.methodLinkNest RX6 77 yX1_addSet RX6 ∈ nwL := List.mem_of_getElem? (i := 52) (by decide +kernel)
theorem w_nm_X1_30 : Cond.methodLinkNest RX1 30 yX2_append RX6 ∈ nwL := List.mem_of_getElem? (i := 53) (by decide +kernel)
theorem w_nm_X6_107 : Cond.methodLinkNest RX6 107 yX2_at RX6 ∈ nwL := List.mem_of_getElem? (i := 54) (by decide +kernel)
theorem w_nm_X6_117 : Cond.methodLinkNest RX6 117 yX1_addStrike RX6 ∈ nwL := List.mem_of_getElem? (i := 55) (by decide +kernel)
theorem w_nm_X6_123 : Cond.methodLinkNest RX6 123 yX1_size RX6 ∈ nwL := List.mem_of_getElem? (i := 56) (by decide +kernel)
theorem w_nm_X6_132 : Cond.methodLinkNest RX6 132 yX1_lastStruck RX6 ∈ nwL := List.mem_of_getElem? (i := 57) (by decide +kernel)
theorem w_nm_X6_279 : Cond.methodLinkNest RX6 279 yX1_lastPlace RX6 ∈ nwL := List.mem_of_getElem? (i := 58) (by decide +kernel)
theorem w_nm_X6_282 : Cond.methodLinkNest RX6 282 yX1_lastMark RX6 ∈ nwL := List.mem_of_getElem? (i := 59) (by decide +kernel)
theorem w_nm_X6_285 : Cond.methodLinkNest RX6 285 yX0_placeOf RX6 ∈ nwL := List.mem_of_getElem? (i := 60) (by decide +kernel)
theorem w_nm_X0_37 : Cond.methodLinkNest RX0 37 yX2_at RX6 ∈ nwL := List.mem_of_getElem? (i := 61) (by decide +kernel)
theorem w_nm_X6_129 : Cond.methodLinkNest RX6 129 yX1_lastLetter RX6 ∈ nwL := List.mem_of_getElem? (i := 62) (by decide +kernel)
theorem w_nm_X6_136 : Cond.methodLinkNest RX6 136 yX1_forgetLast RX6 ∈ nwL := List.mem_of_getElem? (i := 63) (by decide +kernel)
theorem w_nm_X1_37 : Cond.methodLinkNest RX1 37 yX2_remove RX6 ∈ nwL := List.mem_of_getElem? (i := 64) (by decide +kernel)
theorem w_nm_X6_276 : Cond.methodLinkNest RX6 276 yX5_dropFirst RX6 ∈ nwL := List.mem_of_getElem? (i := 65) (by decide +kernel)
theorem w_nm_X5_58 : Cond.methodLinkNest RX5 58 yX2_remove RX6 ∈ nwL := List.mem_of_getElem? (i := 66) (by decide +kernel)
theorem w_nm_X6_160 : Cond.methodLinkNest RX6 160 yX0_lettersOf RX6 ∈ nwL := List.mem_of_getElem? (i := 67) (by decide +kernel)
theorem w_nm_X6_293 : Cond.methodLinkNest RX6 293 yX5_growth RX6 ∈ nwL := List.mem_of_getElem? (i := 68) (by decide +kernel)
theorem w_nm_X7_54 : Cond.methodLinkNest RX7 54 yL_with RL ∈ nwL := List.mem_of_getElem? (i := 69) (by decide +kernel)
theorem w_nm_X7_60 : Cond.methodLinkNest RX7 60 yL_without RL ∈ nwL := List.mem_of_getElem? (i := 70) (by decide +kernel)
theorem w_ca_int : Cond.castable "[I" "java/lang/Cloneable" ∈ nwL := List.mem_of_getElem? (i := 71) (by decide +kernel)
theorem w_nm_X7_72 : Cond.methodLinkNest RX7 72 yL_more RL ∈ nwL := List.mem_of_getElem? (i := 72) (by decide +kernel)
theorem w_ao_aint : Cond.arrayOver (.array .int) ∈ nwL := List.mem_of_getElem? (i := 73) (by decide +kernel)
theorem w_ao_aaint : Cond.arrayOver (.array (.array .int)) ∈ nwL := List.mem_of_getElem? (i := 74) (by decide +kernel)
theorem w_nm_L_64 : Cond.methodLinkNest RL 64 yX7_init RL ∈ nwL := List.mem_of_getElem? (i := 75) (by decide +kernel)
theorem nwL_tbl : ∀ w ∈ nwL, w ∈ lw_tbl := by
  have h : nwL = [77, 83, 89, 94, 95, 96, 105, 107, 118, 123, 125, 127, 129, 131, 143, 148, 160, 162, 164, 165, 166, 167, 183, 188, 189, 190, 192, 193, 194, 196, 197, 198, 200, 201, 203, 317, 370, 383, 387, 391, 395, 399, 407, 411, 415, 419, 423, 432, 444, 448, 449, 453, 458, 462, 472, 476, 484, 493, 497, 501, 505, 509, 510, 514, 518, 528, 532, 545, 568, 621, 632, 644, 650, 654, 690, 777].filterMap (fun i => lw_tbl[i]?) := by decide +kernel
  intro w hw
  rw [h] at hw
  obtain ⟨i, -, hi⟩ := List.mem_filterMap.mp hw
  exact List.mem_of_getElem? hi
theorem inBX0 : ∀ w ∈ u_ws RX0 TX0 3, w ∈ BW := bw_list [109, 111, 113] (by decide +kernel) (by decide +kernel)
theorem inBX1 : ∀ w ∈ u_ws RX1 TX1 3, w ∈ BW := bw_list [152, 154, 156] (by decide +kernel) (by decide +kernel)
theorem inBX2 : ∀ w ∈ u_ws RX2 TX2 2, w ∈ BW := bw_list [98, 100] (by decide +kernel) (by decide +kernel)
theorem inBX3 : ∀ w ∈ u_ws RX3 TX3 6, w ∈ BW := bw_list [168, 170, 172, 174, 176, 178] (by decide +kernel) (by decide +kernel)
theorem inBX4 : ∀ w ∈ u_ws RX4 TX4 5, w ∈ BW := bw_list [204, 206, 208, 210, 212] (by decide +kernel) (by decide +kernel)
theorem inBX5 : ∀ w ∈ u_ws RX5 TX5 4, w ∈ BW := bw_list [132, 134, 136, 138] (by decide +kernel) (by decide +kernel)
theorem inBX6 : ∀ w ∈ u_ws RX6 TX6 6, w ∈ BW := bw_list [221, 223, 225, 227, 229, 231] (by decide +kernel) (by decide +kernel)
theorem inBX7 : ∀ w ∈ u_ws RX7 TX7 10, w ∈ BW := bw_list [705, 707, 709, 711, 713, 715, 717, 719, 721, 723] (by decide +kernel) (by decide +kernel)
