/-! what the links of the code say, by their places in the tables -/
set_option maxRecDepth 20000 in
theorem gk_X0_init : eg_YOK mX0_init 0 := ⟨eg_inT (i := 81) rfl rfl, eg_inT (i := 4) rfl rfl, ⟨by decide, by decide⟩, by decide, by decide, by decide +kernel⟩
set_option maxRecDepth 20000 in
theorem gi_X0_init : Cond.instanceMethod yX0_init ∈ eg_gw ∧ yX0_init.name = "<init>" := ⟨eg_inT (i := 80) rfl rfl, rfl⟩
set_option maxRecDepth 20000 in
theorem gk_X0_prepare : eg_YOK mX0_prepare 3 := ⟨eg_inT (i := 318) rfl rfl, eg_inT (i := 4) rfl rfl, ⟨by decide, by decide⟩, by decide, by decide, by decide +kernel⟩
set_option maxRecDepth 20000 in
theorem gi_X0_prepare : Cond.instanceMethod yX0_prepare ∈ eg_gw ∧ Cond.selects yX0_prepare.cls yX0_prepare yX0_prepare ∈ eg_gw := ⟨eg_inT (i := 317) rfl rfl, eg_inP (i := 23) rfl⟩
set_option maxRecDepth 20000 in
theorem gk_X0_run : eg_YOK mX0_run 3 := ⟨eg_inT (i := 330) rfl rfl, eg_inT (i := 4) rfl rfl, ⟨by decide, by decide⟩, by decide, by decide, by decide +kernel⟩
set_option maxRecDepth 20000 in
theorem gi_X0_run : Cond.instanceMethod yX0_run ∈ eg_gw ∧ Cond.selects yX0_run.cls yX0_run yX0_run ∈ eg_gw := ⟨eg_inT (i := 329) rfl rfl, eg_inP (i := 25) rfl⟩
set_option maxRecDepth 20000 in
theorem gk_X0_findGiven : eg_YOK mX0_findGiven 0 := ⟨eg_inT (i := 334) rfl rfl, eg_inT (i := 4) rfl rfl, ⟨by decide, by decide⟩, by decide, by decide, by decide +kernel⟩
set_option maxRecDepth 20000 in
theorem gi_X0_findGiven : Cond.instanceMethod yX0_findGiven ∈ eg_gw ∧ Cond.selects yX0_findGiven.cls yX0_findGiven yX0_findGiven ∈ eg_gw := ⟨eg_inT (i := 333) rfl rfl, eg_inP (i := 26) rfl⟩
set_option maxRecDepth 20000 in
theorem gk_X0_isOver : eg_YOK mX0_isOver 0 := ⟨eg_inT (i := 345) rfl rfl, eg_inT (i := 4) rfl rfl, ⟨by decide, by decide⟩, by decide, by decide, by decide +kernel⟩
set_option maxRecDepth 20000 in
theorem gi_X0_isOver : Cond.instanceMethod yX0_isOver ∈ eg_gw ∧ Cond.selects yX0_isOver.cls yX0_isOver yX0_isOver ∈ eg_gw := ⟨eg_inT (i := 344) rfl rfl, eg_inP (i := 28) rfl⟩
set_option maxRecDepth 20000 in
theorem gk_X0_fill : eg_YOK mX0_fill 2 := ⟨eg_inT (i := 341) rfl rfl, eg_inT (i := 4) rfl rfl, ⟨by decide, by decide⟩, by decide, by decide, by decide +kernel⟩
set_option maxRecDepth 20000 in
theorem gi_X0_fill : Cond.instanceMethod yX0_fill ∈ eg_gw ∧ Cond.selects yX0_fill.cls yX0_fill yX0_fill ∈ eg_gw := ⟨eg_inT (i := 340) rfl rfl, eg_inP (i := 27) rfl⟩
set_option maxRecDepth 20000 in
theorem gk_X0_fillWith : eg_YOK mX0_fillWith 3 := ⟨eg_inT (i := 349) rfl rfl, eg_inT (i := 4) rfl rfl, ⟨by decide, by decide⟩, by decide, by decide, by decide +kernel⟩
set_option maxRecDepth 20000 in
theorem gi_X0_fillWith : Cond.instanceMethod yX0_fillWith ∈ eg_gw ∧ Cond.selects yX0_fillWith.cls yX0_fillWith yX0_fillWith ∈ eg_gw := ⟨eg_inT (i := 348) rfl rfl, eg_inP (i := 29) rfl⟩
set_option maxRecDepth 20000 in
theorem gk_X0_attempt : eg_YOK mX0_attempt 5 := ⟨eg_inT (i := 357) rfl rfl, eg_inT (i := 4) rfl rfl, ⟨by decide, by decide⟩, by decide, by decide, by decide +kernel⟩
set_option maxRecDepth 20000 in
theorem gi_X0_attempt : Cond.instanceMethod yX0_attempt ∈ eg_gw ∧ Cond.selects yX0_attempt.cls yX0_attempt yX0_attempt ∈ eg_gw := ⟨eg_inT (i := 356) rfl rfl, eg_inP (i := 30) rfl⟩
set_option maxRecDepth 20000 in
theorem gk_X0_hit : eg_YOK mX0_hit 2 := ⟨eg_inT (i := 366) rfl rfl, eg_inT (i := 4) rfl rfl, ⟨by decide, by decide⟩, by decide, by decide, by decide +kernel⟩
set_option maxRecDepth 20000 in
theorem gi_X0_hit : Cond.instanceMethod yX0_hit ∈ eg_gw ∧ Cond.selects yX0_hit.cls yX0_hit yX0_hit ∈ eg_gw := ⟨eg_inT (i := 365) rfl rfl, eg_inP (i := 32) rfl⟩
set_option maxRecDepth 20000 in
theorem gk_X1_init : eg_YOK mX1_init 0 := ⟨eg_inT (i := 52) rfl rfl, eg_inT (i := 3) rfl rfl, ⟨by decide, by decide⟩, by decide, by decide, by decide +kernel⟩
set_option maxRecDepth 20000 in
theorem gi_X1_init : Cond.instanceMethod yX1_init ∈ eg_gw ∧ yX1_init.name = "<init>" := ⟨eg_inT (i := 51) rfl rfl, rfl⟩
set_option maxRecDepth 20000 in
theorem gk_X1_empty : eg_YOK mX1_empty 1 := ⟨eg_inT (i := 166) rfl rfl, eg_inT (i := 3) rfl rfl, ⟨by decide, by decide⟩, by decide, by decide, by decide +kernel⟩
set_option maxRecDepth 20000 in
theorem gi_X1_empty : Cond.instanceMethod yX1_empty ∈ eg_gw ∧ Cond.selects yX1_empty.cls yX1_empty yX1_empty ∈ eg_gw := ⟨eg_inT (i := 165) rfl rfl, eg_inP (i := 1) rfl⟩
set_option maxRecDepth 20000 in
theorem gk_X1_put : eg_YOK mX1_put 4 := ⟨eg_inT (i := 221) rfl rfl, eg_inT (i := 3) rfl rfl, ⟨by decide, by decide⟩, by decide, by decide, by decide +kernel⟩
set_option maxRecDepth 20000 in
theorem gi_X1_put : Cond.instanceMethod yX1_put ∈ eg_gw ∧ Cond.selects yX1_put.cls yX1_put yX1_put ∈ eg_gw := ⟨eg_inT (i := 220) rfl rfl, eg_inP (i := 8) rfl⟩
set_option maxRecDepth 20000 in
theorem gk_X1_copyFrom : eg_YOK mX1_copyFrom 1 := ⟨eg_inT (i := 370) rfl rfl, eg_inT (i := 3) rfl rfl, ⟨by decide, by decide⟩, by decide, by decide, by decide +kernel⟩
set_option maxRecDepth 20000 in
theorem gi_X1_copyFrom : Cond.instanceMethod yX1_copyFrom ∈ eg_gw ∧ Cond.selects yX1_copyFrom.cls yX1_copyFrom yX1_copyFrom ∈ eg_gw := ⟨eg_inT (i := 369) rfl rfl, eg_inP (i := 33) rfl⟩
set_option maxRecDepth 20000 in
theorem gk_X1_remove : eg_YOK mX1_remove 3 := ⟨eg_inT (i := 298) rfl rfl, eg_inT (i := 3) rfl rfl, ⟨by decide, by decide⟩, by decide, by decide, by decide +kernel⟩
set_option maxRecDepth 20000 in
theorem gi_X1_remove : Cond.instanceMethod yX1_remove ∈ eg_gw ∧ Cond.selects yX1_remove.cls yX1_remove yX1_remove ∈ eg_gw := ⟨eg_inT (i := 297) rfl rfl, eg_inP (i := 20) rfl⟩
set_option maxRecDepth 20000 in
theorem gk_X1_renumbered : eg_YOK mX1_renumbered 3 := ⟨eg_inT (i := 301) rfl rfl, eg_inT (i := 3) rfl rfl, ⟨by decide, by decide⟩, by decide, by decide, by decide +kernel⟩
set_option maxRecDepth 20000 in
theorem gi_X1_renumbered : Cond.static yX1_renumbered ∈ eg_gw := eg_inT (i := 300) rfl rfl
set_option maxRecDepth 20000 in
theorem gk_X2_init : eg_YOK mX2_init 0 := ⟨eg_inT (i := 19) rfl rfl, eg_inT (i := 2) rfl rfl, ⟨by decide, by decide⟩, by decide, by decide, by decide +kernel⟩
set_option maxRecDepth 20000 in
theorem gi_X2_init : Cond.instanceMethod yX2_init ∈ eg_gw ∧ yX2_init.name = "<init>" := ⟨eg_inT (i := 18) rfl rfl, rfl⟩
set_option maxRecDepth 20000 in
theorem gk_X2_setInputs : eg_YOK mX2_setInputs 2 := ⟨eg_inT (i := 133) rfl rfl, eg_inT (i := 2) rfl rfl, ⟨by decide, by decide⟩, by decide, by decide, by decide +kernel⟩
set_option maxRecDepth 20000 in
theorem gi_X2_setInputs : Cond.instanceMethod yX2_setInputs ∈ eg_gw ∧ Cond.selects yX2_setInputs.cls yX2_setInputs yX2_setInputs ∈ eg_gw := ⟨eg_inT (i := 132) rfl rfl, eg_inP (i := 0) rfl⟩
set_option maxRecDepth 20000 in
theorem gk_X2_appendConstant : eg_YOK mX2_appendConstant 1 := ⟨eg_inT (i := 178) rfl rfl, eg_inT (i := 2) rfl rfl, ⟨by decide, by decide⟩, by decide, by decide, by decide +kernel⟩
set_option maxRecDepth 20000 in
theorem gi_X2_appendConstant : Cond.instanceMethod yX2_appendConstant ∈ eg_gw ∧ Cond.selects yX2_appendConstant.cls yX2_appendConstant yX2_appendConstant ∈ eg_gw := ⟨eg_inT (i := 177) rfl rfl, eg_inP (i := 3) rfl⟩
set_option maxRecDepth 20000 in
theorem gk_X2_copyGiven : eg_YOK mX2_copyGiven 1 := ⟨eg_inT (i := 322) rfl rfl, eg_inT (i := 2) rfl rfl, ⟨by decide, by decide⟩, by decide, by decide, by decide +kernel⟩
set_option maxRecDepth 20000 in
theorem gi_X2_copyGiven : Cond.instanceMethod yX2_copyGiven ∈ eg_gw ∧ Cond.selects yX2_copyGiven.cls yX2_copyGiven yX2_copyGiven ∈ eg_gw := ⟨eg_inT (i := 321) rfl rfl, eg_inP (i := 24) rfl⟩
set_option maxRecDepth 20000 in
theorem gk_X2_given : eg_YOK mX2_given 0 := ⟨eg_inT (i := 182) rfl rfl, eg_inT (i := 2) rfl rfl, ⟨by decide, by decide⟩, by decide, by decide, by decide +kernel⟩
set_option maxRecDepth 20000 in
theorem gi_X2_given : Cond.instanceMethod yX2_given ∈ eg_gw ∧ Cond.selects yX2_given.cls yX2_given yX2_given ∈ eg_gw := ⟨eg_inT (i := 181) rfl rfl, eg_inP (i := 4) rfl⟩
set_option maxRecDepth 20000 in
theorem gk_X2_isWord : eg_YOK mX2_isWord 1 := ⟨eg_inT (i := 174) rfl rfl, eg_inT (i := 2) rfl rfl, ⟨by decide, by decide⟩, by decide, by decide, by decide +kernel⟩
set_option maxRecDepth 20000 in
theorem gi_X2_isWord : Cond.instanceMethod yX2_isWord ∈ eg_gw ∧ Cond.selects yX2_isWord.cls yX2_isWord yX2_isWord ∈ eg_gw := ⟨eg_inT (i := 173) rfl rfl, eg_inP (i := 2) rfl⟩
set_option maxRecDepth 20000 in
theorem gk_X2_isAssignment : eg_YOK mX2_isAssignment 1 := ⟨eg_inT (i := 198) rfl rfl, eg_inT (i := 2) rfl rfl, ⟨by decide, by decide⟩, by decide, by decide, by decide +kernel⟩
set_option maxRecDepth 20000 in
theorem gi_X2_isAssignment : Cond.instanceMethod yX2_isAssignment ∈ eg_gw ∧ Cond.selects yX2_isAssignment.cls yX2_isAssignment yX2_isAssignment ∈ eg_gw := ⟨eg_inT (i := 197) rfl rfl, eg_inP (i := 5) rfl⟩
set_option maxRecDepth 20000 in
theorem gk_X2_make : eg_YOK mX2_make 4 := ⟨eg_inT (i := 229) rfl rfl, eg_inT (i := 2) rfl rfl, ⟨by decide, by decide⟩, by decide, by decide, by decide +kernel⟩
set_option maxRecDepth 20000 in
theorem gi_X2_make : Cond.instanceMethod yX2_make ∈ eg_gw ∧ Cond.selects yX2_make.cls yX2_make yX2_make ∈ eg_gw := ⟨eg_inT (i := 228) rfl rfl, eg_inP (i := 10) rfl⟩
set_option maxRecDepth 20000 in
theorem gk_X2_makes : eg_YOK mX2_makes 4 := ⟨eg_inT (i := 362) rfl rfl, eg_inT (i := 2) rfl rfl, ⟨by decide, by decide⟩, by decide, by decide, by decide +kernel⟩
set_option maxRecDepth 20000 in
theorem gi_X2_makes : Cond.instanceMethod yX2_makes ∈ eg_gw ∧ Cond.selects yX2_makes.cls yX2_makes yX2_makes ∈ eg_gw := ⟨eg_inT (i := 361) rfl rfl, eg_inP (i := 31) rfl⟩
set_option maxRecDepth 20000 in
theorem gk_X2_firstDifference : eg_YOK mX2_firstDifference 2 := ⟨eg_inT (i := 273) rfl rfl, eg_inT (i := 2) rfl rfl, ⟨by decide, by decide⟩, by decide, by decide, by decide +kernel⟩
set_option maxRecDepth 20000 in
theorem gi_X2_firstDifference : Cond.instanceMethod yX2_firstDifference ∈ eg_gw ∧ Cond.selects yX2_firstDifference.cls yX2_firstDifference yX2_firstDifference ∈ eg_gw := ⟨eg_inT (i := 272) rfl rfl, eg_inP (i := 15) rfl⟩
set_option maxRecDepth 20000 in
theorem gk_X2_leastBelow : eg_YOK mX2_leastBelow 2 := ⟨eg_inT (i := 289) rfl rfl, eg_inT (i := 2) rfl rfl, ⟨by decide, by decide⟩, by decide, by decide, by decide +kernel⟩
set_option maxRecDepth 20000 in
theorem gi_X2_leastBelow : Cond.instanceMethod yX2_leastBelow ∈ eg_gw ∧ Cond.selects yX2_leastBelow.cls yX2_leastBelow yX2_leastBelow ∈ eg_gw := ⟨eg_inT (i := 288) rfl rfl, eg_inP (i := 18) rfl⟩
set_option maxRecDepth 20000 in
theorem gk_X2_leastSame : eg_YOK mX2_leastSame 1 := ⟨eg_inT (i := 285) rfl rfl, eg_inT (i := 2) rfl rfl, ⟨by decide, by decide⟩, by decide, by decide, by decide +kernel⟩
set_option maxRecDepth 20000 in
theorem gi_X2_leastSame : Cond.instanceMethod yX2_leastSame ∈ eg_gw ∧ Cond.selects yX2_leastSame.cls yX2_leastSame yX2_leastSame ∈ eg_gw := ⟨eg_inT (i := 284) rfl rfl, eg_inP (i := 17) rfl⟩
set_option maxRecDepth 20000 in
theorem gk_X2_reckon : eg_YOK mX2_reckon 3 := ⟨eg_inT (i := 233) rfl rfl, eg_inT (i := 2) rfl rfl, ⟨by decide, by decide⟩, by decide, by decide, by decide +kernel⟩
set_option maxRecDepth 20000 in
theorem gi_X2_reckon : Cond.instanceMethod yX2_reckon ∈ eg_gw ∧ Cond.selects yX2_reckon.cls yX2_reckon yX2_reckon ∈ eg_gw := ⟨eg_inT (i := 232) rfl rfl, eg_inP (i := 11) rfl⟩
set_option maxRecDepth 20000 in
theorem gk_X2_distance : eg_YOK mX2_distance 1 := ⟨eg_inT (i := 237) rfl rfl, eg_inT (i := 2) rfl rfl, ⟨by decide, by decide⟩, by decide, by decide, by decide +kernel⟩
set_option maxRecDepth 20000 in
theorem gi_X2_distance : Cond.instanceMethod yX2_distance ∈ eg_gw ∧ Cond.selects yX2_distance.cls yX2_distance yX2_distance ∈ eg_gw := ⟨eg_inT (i := 236) rfl rfl, eg_inP (i := 12) rfl⟩
set_option maxRecDepth 20000 in
theorem gk_X2_signed : eg_YOK mX2_signed 1 := ⟨eg_inT (i := 241) rfl rfl, eg_inT (i := 2) rfl rfl, ⟨by decide, by decide⟩, by decide, by decide, by decide +kernel⟩
set_option maxRecDepth 20000 in
theorem gi_X2_signed : Cond.instanceMethod yX2_signed ∈ eg_gw ∧ Cond.selects yX2_signed.cls yX2_signed yX2_signed ∈ eg_gw := ⟨eg_inT (i := 240) rfl rfl, eg_inP (i := 13) rfl⟩
set_option maxRecDepth 20000 in
theorem gk_X3_init : eg_YOK mX3_init 0 := ⟨eg_inT (i := 11) rfl rfl, eg_inT (i := 1) rfl rfl, ⟨by decide, by decide⟩, by decide, by decide, by decide +kernel⟩
set_option maxRecDepth 20000 in
theorem gi_X3_init : Cond.instanceMethod yX3_init ∈ eg_gw ∧ yX3_init.name = "<init>" := ⟨eg_inT (i := 10) rfl rfl, rfl⟩
set_option maxRecDepth 20000 in
theorem gk_X3_words : eg_YOK mX3_words 2 := ⟨eg_inT (i := 162) rfl rfl, eg_inT (i := 1) rfl rfl, ⟨by decide, by decide⟩, by decide, by decide, by decide +kernel⟩
set_option maxRecDepth 20000 in
theorem gi_X3_words : Cond.instanceMethod yX3_words ∈ eg_gw ∧ Cond.selects yX3_words.cls yX3_words yX3_words ∈ eg_gw := ⟨eg_inT (i := 160) rfl rfl, eg_inT (i := 161) rfl rfl⟩
set_option maxRecDepth 20000 in
theorem gk_X3_constant : eg_YOK mX3_constant 1 := ⟨eg_inT (i := 170) rfl rfl, eg_inT (i := 1) rfl rfl, ⟨by decide, by decide⟩, by decide, by decide, by decide +kernel⟩
set_option maxRecDepth 20000 in
theorem gi_X3_constant : Cond.instanceMethod yX3_constant ∈ eg_gw ∧ Cond.selects yX3_constant.cls yX3_constant yX3_constant ∈ eg_gw := ⟨eg_inT (i := 168) rfl rfl, eg_inT (i := 169) rfl rfl⟩
set_option maxRecDepth 20000 in
theorem gk_X3_cost : eg_YOK mX3_cost 2 := ⟨eg_inT (i := 187) rfl rfl, eg_inT (i := 1) rfl rfl, ⟨by decide, by decide⟩, by decide, by decide, by decide +kernel⟩
set_option maxRecDepth 20000 in
theorem gi_X3_cost : Cond.instanceMethod yX3_cost ∈ eg_gw ∧ Cond.selects yX3_cost.cls yX3_cost yX3_cost ∈ eg_gw := ⟨eg_inT (i := 185) rfl rfl, eg_inT (i := 186) rfl rfl⟩
set_option maxRecDepth 20000 in
theorem gk_X3_target : eg_YOK mX3_target 2 := ⟨eg_inT (i := 194) rfl rfl, eg_inT (i := 1) rfl rfl, ⟨by decide, by decide⟩, by decide, by decide, by decide +kernel⟩
set_option maxRecDepth 20000 in
theorem gi_X3_target : Cond.instanceMethod yX3_target ∈ eg_gw ∧ Cond.selects yX3_target.cls yX3_target yX3_target ∈ eg_gw := ⟨eg_inT (i := 192) rfl rfl, eg_inT (i := 193) rfl rfl⟩
set_option maxRecDepth 20000 in
theorem gk_X3_aim : eg_YOK mX3_aim 0 := ⟨eg_inT (i := 202) rfl rfl, eg_inT (i := 1) rfl rfl, ⟨by decide, by decide⟩, by decide, by decide, by decide +kernel⟩
set_option maxRecDepth 20000 in
theorem gi_X3_aim : Cond.instanceMethod yX3_aim ∈ eg_gw ∧ Cond.selects yX3_aim.cls yX3_aim yX3_aim ∈ eg_gw := ⟨eg_inT (i := 200) rfl rfl, eg_inT (i := 201) rfl rfl⟩
set_option maxRecDepth 20000 in
theorem gk_X3_add : eg_YOK mX3_add 3 := ⟨eg_inT (i := 206) rfl rfl, eg_inT (i := 1) rfl rfl, ⟨by decide, by decide⟩, by decide, by decide, by decide +kernel⟩
set_option maxRecDepth 20000 in
theorem gi_X3_add : Cond.instanceMethod yX3_add ∈ eg_gw ∧ Cond.selects yX3_add.cls yX3_add yX3_add ∈ eg_gw := ⟨eg_inT (i := 204) rfl rfl, eg_inT (i := 205) rfl rfl⟩
set_option maxRecDepth 20000 in
theorem gk_X3_drop : eg_YOK mX3_drop 0 := ⟨eg_inT (i := 245) rfl rfl, eg_inT (i := 1) rfl rfl, ⟨by decide, by decide⟩, by decide, by decide, by decide +kernel⟩
set_option maxRecDepth 20000 in
theorem gi_X3_drop : Cond.instanceMethod yX3_drop ∈ eg_gw ∧ Cond.selects yX3_drop.cls yX3_drop yX3_drop ∈ eg_gw := ⟨eg_inT (i := 243) rfl rfl, eg_inT (i := 244) rfl rfl⟩
set_option maxRecDepth 20000 in
theorem gk_X3_result : eg_YOK mX3_result 1 := ⟨eg_inT (i := 249) rfl rfl, eg_inT (i := 1) rfl rfl, ⟨by decide, by decide⟩, by decide, by decide, by decide +kernel⟩
set_option maxRecDepth 20000 in
theorem gi_X3_result : Cond.instanceMethod yX3_result ∈ eg_gw ∧ Cond.selects yX3_result.cls yX3_result yX3_result ∈ eg_gw := ⟨eg_inT (i := 247) rfl rfl, eg_inT (i := 248) rfl rfl⟩
set_option maxRecDepth 20000 in
theorem gk_X3_instruction : eg_YOK mX3_instruction 2 := ⟨eg_inT (i := 253) rfl rfl, eg_inT (i := 1) rfl rfl, ⟨by decide, by decide⟩, by decide, by decide, by decide +kernel⟩
set_option maxRecDepth 20000 in
theorem gi_X3_instruction : Cond.instanceMethod yX3_instruction ∈ eg_gw ∧ Cond.selects yX3_instruction.cls yX3_instruction yX3_instruction ∈ eg_gw := ⟨eg_inT (i := 251) rfl rfl, eg_inT (i := 252) rfl rfl⟩
set_option maxRecDepth 20000 in
theorem gk_X3_count : eg_YOK mX3_count 1 := ⟨eg_inT (i := 257) rfl rfl, eg_inT (i := 1) rfl rfl, ⟨by decide, by decide⟩, by decide, by decide, by decide +kernel⟩
set_option maxRecDepth 20000 in
theorem gi_X3_count : Cond.instanceMethod yX3_count ∈ eg_gw ∧ Cond.selects yX3_count.cls yX3_count yX3_count ∈ eg_gw := ⟨eg_inT (i := 255) rfl rfl, eg_inT (i := 256) rfl rfl⟩
set_option maxRecDepth 20000 in
theorem gk_X3_value : eg_YOK mX3_value 2 := ⟨eg_inT (i := 265) rfl rfl, eg_inT (i := 1) rfl rfl, ⟨by decide, by decide⟩, by decide, by decide, by decide +kernel⟩
set_option maxRecDepth 20000 in
theorem gi_X3_value : Cond.instanceMethod yX3_value ∈ eg_gw ∧ Cond.selects yX3_value.cls yX3_value yX3_value ∈ eg_gw := ⟨eg_inT (i := 263) rfl rfl, eg_inT (i := 264) rfl rfl⟩
set_option maxRecDepth 20000 in
theorem gk_X3_differ : eg_YOK mX3_differ 2 := ⟨eg_inT (i := 269) rfl rfl, eg_inT (i := 1) rfl rfl, ⟨by decide, by decide⟩, by decide, by decide, by decide +kernel⟩
set_option maxRecDepth 20000 in
theorem gi_X3_differ : Cond.instanceMethod yX3_differ ∈ eg_gw ∧ Cond.selects yX3_differ.cls yX3_differ yX3_differ ∈ eg_gw := ⟨eg_inT (i := 267) rfl rfl, eg_inT (i := 268) rfl rfl⟩
set_option maxRecDepth 20000 in
theorem gk_X3_clean : eg_YOK mX3_clean 0 := ⟨eg_inT (i := 277) rfl rfl, eg_inT (i := 1) rfl rfl, ⟨by decide, by decide⟩, by decide, by decide, by decide +kernel⟩
set_option maxRecDepth 20000 in
theorem gi_X3_clean : Cond.instanceMethod yX3_clean ∈ eg_gw ∧ Cond.selects yX3_clean.cls yX3_clean yX3_clean ∈ eg_gw := ⟨eg_inT (i := 275) rfl rfl, eg_inT (i := 276) rfl rfl⟩
set_option maxRecDepth 20000 in
theorem gk_X3_search : eg_YOK mX3_search 3 := ⟨eg_inT (i := 314) rfl rfl, eg_inT (i := 1) rfl rfl, ⟨by decide, by decide⟩, by decide, by decide, by decide +kernel⟩
set_option maxRecDepth 20000 in
theorem gi_X3_search : Cond.instanceMethod yX3_search ∈ eg_gw ∧ Cond.selects yX3_search.cls yX3_search yX3_search ∈ eg_gw := ⟨eg_inT (i := 312) rfl rfl, eg_inT (i := 313) rfl rfl⟩
set_option maxRecDepth 20000 in
theorem gk_X3_told : eg_YOK mX3_told 1 := ⟨eg_inT (i := 377) rfl rfl, eg_inT (i := 1) rfl rfl, ⟨by decide, by decide⟩, by decide, by decide, by decide +kernel⟩
set_option maxRecDepth 20000 in
theorem gi_X3_told : Cond.instanceMethod yX3_told ∈ eg_gw ∧ Cond.selects yX3_told.cls yX3_told yX3_told ∈ eg_gw := ⟨eg_inT (i := 375) rfl rfl, eg_inT (i := 376) rfl rfl⟩
set_option maxRecDepth 20000 in
theorem gk_X3_take : eg_YOK mX3_take 0 := ⟨eg_inT (i := 381) rfl rfl, eg_inT (i := 1) rfl rfl, ⟨by decide, by decide⟩, by decide, by decide, by decide +kernel⟩
set_option maxRecDepth 20000 in
theorem gi_X3_take : Cond.instanceMethod yX3_take ∈ eg_gw ∧ Cond.selects yX3_take.cls yX3_take yX3_take ∈ eg_gw := ⟨eg_inT (i := 379) rfl rfl, eg_inT (i := 380) rfl rfl⟩
set_option maxRecDepth 20000 in
theorem gk_X3_isOperation : eg_YOK mX3_isOperation 1 := ⟨eg_inT (i := 190) rfl rfl, eg_inT (i := 1) rfl rfl, ⟨by decide, by decide⟩, by decide, by decide, by decide +kernel⟩
set_option maxRecDepth 20000 in
theorem gi_X3_isOperation : Cond.static yX3_isOperation ∈ eg_gw := eg_inT (i := 189) rfl rfl
set_option maxRecDepth 20000 in
theorem gk_X3_takesOne : eg_YOK mX3_takesOne 1 := ⟨eg_inT (i := 217) rfl rfl, eg_inT (i := 1) rfl rfl, ⟨by decide, by decide⟩, by decide, by decide, by decide +kernel⟩
set_option maxRecDepth 20000 in
theorem gi_X3_takesOne : Cond.static yX3_takesOne ∈ eg_gw := eg_inT (i := 216) rfl rfl
set_option maxRecDepth 20000 in
theorem gk_X3_isOrdered : eg_YOK mX3_isOrdered 1 := ⟨eg_inT (i := 353) rfl rfl, eg_inT (i := 1) rfl rfl, ⟨by decide, by decide⟩, by decide, by decide, by decide +kernel⟩
set_option maxRecDepth 20000 in
theorem gi_X3_isOrdered : Cond.static yX3_isOrdered ∈ eg_gw := eg_inT (i := 352) rfl rfl
set_option maxRecDepth 20000 in
theorem gk_X3_valueCount : eg_YOK mX3_valueCount 0 := ⟨eg_inT (i := 214) rfl rfl, eg_inT (i := 1) rfl rfl, ⟨by decide, by decide⟩, by decide, by decide, by decide +kernel⟩
set_option maxRecDepth 20000 in
theorem gi_X3_valueCount : Cond.instanceMethod yX3_valueCount ∈ eg_gw ∧ Cond.selects yX3_valueCount.cls yX3_valueCount yX3_valueCount ∈ eg_gw := ⟨eg_inT (i := 213) rfl rfl, eg_inP (i := 7) rfl⟩
set_option maxRecDepth 20000 in
theorem gk_X3_isValue : eg_YOK mX3_isValue 1 := ⟨eg_inT (i := 210) rfl rfl, eg_inT (i := 1) rfl rfl, ⟨by decide, by decide⟩, by decide, by decide, by decide +kernel⟩
set_option maxRecDepth 20000 in
theorem gi_X3_isValue : Cond.instanceMethod yX3_isValue ∈ eg_gw ∧ Cond.selects yX3_isValue.cls yX3_isValue yX3_isValue ∈ eg_gw := ⟨eg_inT (i := 209) rfl rfl, eg_inP (i := 6) rfl⟩
set_option maxRecDepth 20000 in
theorem gk_X3_programCost : eg_YOK mX3_programCost 0 := ⟨eg_inT (i := 261) rfl rfl, eg_inT (i := 1) rfl rfl, ⟨by decide, by decide⟩, by decide, by decide, by decide +kernel⟩
set_option maxRecDepth 20000 in
theorem gi_X3_programCost : Cond.instanceMethod yX3_programCost ∈ eg_gw ∧ Cond.selects yX3_programCost.cls yX3_programCost yX3_programCost ∈ eg_gw := ⟨eg_inT (i := 260) rfl rfl, eg_inP (i := 14) rfl⟩
set_option maxRecDepth 20000 in
theorem gk_X3_makeFrom : eg_YOK mX3_makeFrom 1 := ⟨eg_inT (i := 225) rfl rfl, eg_inT (i := 1) rfl rfl, ⟨by decide, by decide⟩, by decide, by decide, by decide +kernel⟩
set_option maxRecDepth 20000 in
theorem gi_X3_makeFrom : Cond.instanceMethod yX3_makeFrom ∈ eg_gw ∧ Cond.selects yX3_makeFrom.cls yX3_makeFrom yX3_makeFrom ∈ eg_gw := ⟨eg_inT (i := 224) rfl rfl, eg_inP (i := 9) rfl⟩
set_option maxRecDepth 20000 in
theorem gk_X3_takeOutRepeated : eg_YOK mX3_takeOutRepeated 0 := ⟨eg_inT (i := 281) rfl rfl, eg_inT (i := 1) rfl rfl, ⟨by decide, by decide⟩, by decide, by decide, by decide +kernel⟩
set_option maxRecDepth 20000 in
theorem gi_X3_takeOutRepeated : Cond.instanceMethod yX3_takeOutRepeated ∈ eg_gw ∧ Cond.selects yX3_takeOutRepeated.cls yX3_takeOutRepeated yX3_takeOutRepeated ∈ eg_gw := ⟨eg_inT (i := 280) rfl rfl, eg_inP (i := 16) rfl⟩
set_option maxRecDepth 20000 in
theorem gk_X3_takeOutNeedless : eg_YOK mX3_takeOutNeedless 0 := ⟨eg_inT (i := 306) rfl rfl, eg_inT (i := 1) rfl rfl, ⟨by decide, by decide⟩, by decide, by decide, by decide +kernel⟩
set_option maxRecDepth 20000 in
theorem gi_X3_takeOutNeedless : Cond.instanceMethod yX3_takeOutNeedless ∈ eg_gw ∧ Cond.selects yX3_takeOutNeedless.cls yX3_takeOutNeedless yX3_takeOutNeedless ∈ eg_gw := ⟨eg_inT (i := 305) rfl rfl, eg_inP (i := 21) rfl⟩
set_option maxRecDepth 20000 in
theorem gk_X3_takeOut : eg_YOK mX3_takeOut 2 := ⟨eg_inT (i := 294) rfl rfl, eg_inT (i := 1) rfl rfl, ⟨by decide, by decide⟩, by decide, by decide, by decide +kernel⟩
set_option maxRecDepth 20000 in
theorem gi_X3_takeOut : Cond.instanceMethod yX3_takeOut ∈ eg_gw ∧ Cond.selects yX3_takeOut.cls yX3_takeOut yX3_takeOut ∈ eg_gw := ⟨eg_inT (i := 293) rfl rfl, eg_inP (i := 19) rfl⟩
set_option maxRecDepth 20000 in
theorem gk_X3_markNeeded : eg_YOK mX3_markNeeded 0 := ⟨eg_inT (i := 310) rfl rfl, eg_inT (i := 1) rfl rfl, ⟨by decide, by decide⟩, by decide, by decide, by decide +kernel⟩
set_option maxRecDepth 20000 in
theorem gi_X3_markNeeded : Cond.instanceMethod yX3_markNeeded ∈ eg_gw ∧ Cond.selects yX3_markNeeded.cls yX3_markNeeded yX3_markNeeded ∈ eg_gw := ⟨eg_inT (i := 309) rfl rfl, eg_inP (i := 22) rfl⟩
set_option maxRecDepth 20000 in
theorem gk_X4_init : eg_YOK mX4_init 0 := ⟨eg_inT (i := 386) rfl rfl, eg_inT (i := 5) rfl rfl, ⟨by decide, by decide⟩, by decide, by decide, by decide +kernel⟩
set_option maxRecDepth 20000 in
theorem gi_X4_init : Cond.instanceMethod yX4_init ∈ eg_gw ∧ yX4_init.name = "<init>" := ⟨eg_inT (i := 385) rfl rfl, rfl⟩
set_option maxRecDepth 20000 in
theorem gk_X4_within : eg_YOK mX4_within 3 := ⟨eg_inT (i := 510) rfl rfl, eg_inT (i := 5) rfl rfl, ⟨by decide, by decide⟩, by decide, by decide, by decide +kernel⟩
set_option maxRecDepth 20000 in
theorem gi_X4_within : Cond.static yX4_within ∈ eg_gw := eg_inT (i := 509) rfl rfl
set_option maxRecDepth 20000 in
theorem gk_X4_firsts : eg_YOK mX4_firsts 0 := ⟨eg_inT (i := 399) rfl rfl, eg_inT (i := 5) rfl rfl, ⟨by decide, by decide⟩, by decide, by decide, by decide +kernel⟩
set_option maxRecDepth 20000 in
theorem gi_X4_firsts : Cond.instanceMethod yX4_firsts ∈ eg_gw ∧ Cond.selects yX4_firsts.cls yX4_firsts yX4_firsts ∈ eg_gw := ⟨eg_inT (i := 398) rfl rfl, eg_inP (i := 36) rfl⟩
set_option maxRecDepth 20000 in
theorem gk_X4_all : eg_YOK mX4_all 0 := ⟨eg_inT (i := 542) rfl rfl, eg_inT (i := 5) rfl rfl, ⟨by decide, by decide⟩, by decide, by decide, by decide +kernel⟩
set_option maxRecDepth 20000 in
theorem gi_X4_all : Cond.instanceMethod yX4_all ∈ eg_gw ∧ Cond.selects yX4_all.cls yX4_all yX4_all ∈ eg_gw := ⟨eg_inT (i := 541) rfl rfl, eg_inP (i := 40) rfl⟩
set_option maxRecDepth 20000 in
theorem gk_X4_reckon : eg_YOK mX4_reckon 3 := ⟨eg_inT (i := 403) rfl rfl, eg_inT (i := 5) rfl rfl, ⟨by decide, by decide⟩, by decide, by decide, by decide +kernel⟩
set_option maxRecDepth 20000 in
theorem gi_X4_reckon : Cond.instanceMethod yX4_reckon ∈ eg_gw ∧ Cond.selects yX4_reckon.cls yX4_reckon yX4_reckon ∈ eg_gw := ⟨eg_inT (i := 402) rfl rfl, eg_inP (i := 37) rfl⟩
set_option maxRecDepth 20000 in
theorem gk_X4_layFirsts : eg_YOK mX4_layFirsts 1 := ⟨eg_inT (i := 395) rfl rfl, eg_inT (i := 5) rfl rfl, ⟨by decide, by decide⟩, by decide, by decide, by decide +kernel⟩
set_option maxRecDepth 20000 in
theorem gi_X4_layFirsts : Cond.instanceMethod yX4_layFirsts ∈ eg_gw ∧ Cond.selects yX4_layFirsts.cls yX4_layFirsts yX4_layFirsts ∈ eg_gw := ⟨eg_inT (i := 394) rfl rfl, eg_inP (i := 35) rfl⟩
set_option maxRecDepth 20000 in
theorem gk_X4_reckonAll : eg_YOK mX4_reckonAll 0 := ⟨eg_inT (i := 391) rfl rfl, eg_inT (i := 5) rfl rfl, ⟨by decide, by decide⟩, by decide, by decide, by decide +kernel⟩
set_option maxRecDepth 20000 in
theorem gi_X4_reckonAll : Cond.instanceMethod yX4_reckonAll ∈ eg_gw ∧ Cond.selects yX4_reckonAll.cls yX4_reckonAll yX4_reckonAll ∈ eg_gw := ⟨eg_inT (i := 390) rfl rfl, eg_inP (i := 34) rfl⟩
set_option maxRecDepth 20000 in
theorem gk_X4_words : eg_YOK mX4_words 2 := ⟨eg_inT (i := 507) rfl rfl, eg_inT (i := 5) rfl rfl, ⟨by decide, by decide⟩, by decide, by decide, by decide +kernel⟩
set_option maxRecDepth 20000 in
theorem gi_X4_words : Cond.instanceMethod yX4_words ∈ eg_gw ∧ Cond.selects yX4_words.cls yX4_words yX4_words ∈ eg_gw := ⟨eg_inT (i := 505) rfl rfl, eg_inT (i := 506) rfl rfl⟩
set_option maxRecDepth 20000 in
theorem gk_X4_constant : eg_YOK mX4_constant 1 := ⟨eg_inT (i := 514) rfl rfl, eg_inT (i := 5) rfl rfl, ⟨by decide, by decide⟩, by decide, by decide, by decide +kernel⟩
set_option maxRecDepth 20000 in
theorem gi_X4_constant : Cond.instanceMethod yX4_constant ∈ eg_gw ∧ Cond.selects yX4_constant.cls yX4_constant yX4_constant ∈ eg_gw := ⟨eg_inT (i := 512) rfl rfl, eg_inT (i := 513) rfl rfl⟩
set_option maxRecDepth 20000 in
theorem gk_X4_cost : eg_YOK mX4_cost 2 := ⟨eg_inT (i := 518) rfl rfl, eg_inT (i := 5) rfl rfl, ⟨by decide, by decide⟩, by decide, by decide, by decide +kernel⟩
set_option maxRecDepth 20000 in
theorem gi_X4_cost : Cond.instanceMethod yX4_cost ∈ eg_gw ∧ Cond.selects yX4_cost.cls yX4_cost yX4_cost ∈ eg_gw := ⟨eg_inT (i := 516) rfl rfl, eg_inT (i := 517) rfl rfl⟩
set_option maxRecDepth 20000 in
theorem gk_X4_isAssignment : eg_YOK mX4_isAssignment 1 := ⟨eg_inT (i := 526) rfl rfl, eg_inT (i := 5) rfl rfl, ⟨by decide, by decide⟩, by decide, by decide, by decide +kernel⟩
set_option maxRecDepth 20000 in
theorem gi_X4_isAssignment : Cond.instanceMethod yX4_isAssignment ∈ eg_gw ∧ Cond.selects yX4_isAssignment.cls yX4_isAssignment yX4_isAssignment ∈ eg_gw := ⟨eg_inT (i := 525) rfl rfl, eg_inP (i := 38) rfl⟩
set_option maxRecDepth 20000 in
theorem gk_X4_target : eg_YOK mX4_target 2 := ⟨eg_inT (i := 522) rfl rfl, eg_inT (i := 5) rfl rfl, ⟨by decide, by decide⟩, by decide, by decide, by decide +kernel⟩
set_option maxRecDepth 20000 in
theorem gi_X4_target : Cond.instanceMethod yX4_target ∈ eg_gw ∧ Cond.selects yX4_target.cls yX4_target yX4_target ∈ eg_gw := ⟨eg_inT (i := 520) rfl rfl, eg_inT (i := 521) rfl rfl⟩
set_option maxRecDepth 20000 in
theorem gk_X4_aim : eg_YOK mX4_aim 0 := ⟨eg_inT (i := 530) rfl rfl, eg_inT (i := 5) rfl rfl, ⟨by decide, by decide⟩, by decide, by decide, by decide +kernel⟩
set_option maxRecDepth 20000 in
theorem gi_X4_aim : Cond.instanceMethod yX4_aim ∈ eg_gw ∧ Cond.selects yX4_aim.cls yX4_aim yX4_aim ∈ eg_gw := ⟨eg_inT (i := 528) rfl rfl, eg_inT (i := 529) rfl rfl⟩
set_option maxRecDepth 20000 in
theorem gk_X4_isValue : eg_YOK mX4_isValue 1 := ⟨eg_inT (i := 538) rfl rfl, eg_inT (i := 5) rfl rfl, ⟨by decide, by decide⟩, by decide, by decide, by decide +kernel⟩
set_option maxRecDepth 20000 in
theorem gi_X4_isValue : Cond.instanceMethod yX4_isValue ∈ eg_gw ∧ Cond.selects yX4_isValue.cls yX4_isValue yX4_isValue ∈ eg_gw := ⟨eg_inT (i := 537) rfl rfl, eg_inP (i := 39) rfl⟩
set_option maxRecDepth 20000 in
theorem gk_X4_add : eg_YOK mX4_add 3 := ⟨eg_inT (i := 534) rfl rfl, eg_inT (i := 5) rfl rfl, ⟨by decide, by decide⟩, by decide, by decide, by decide +kernel⟩
set_option maxRecDepth 20000 in
theorem gi_X4_add : Cond.instanceMethod yX4_add ∈ eg_gw ∧ Cond.selects yX4_add.cls yX4_add yX4_add ∈ eg_gw := ⟨eg_inT (i := 532) rfl rfl, eg_inT (i := 533) rfl rfl⟩
set_option maxRecDepth 20000 in
theorem gk_X4_drop : eg_YOK mX4_drop 0 := ⟨eg_inT (i := 546) rfl rfl, eg_inT (i := 5) rfl rfl, ⟨by decide, by decide⟩, by decide, by decide, by decide +kernel⟩
set_option maxRecDepth 20000 in
theorem gi_X4_drop : Cond.instanceMethod yX4_drop ∈ eg_gw ∧ Cond.selects yX4_drop.cls yX4_drop yX4_drop ∈ eg_gw := ⟨eg_inT (i := 544) rfl rfl, eg_inT (i := 545) rfl rfl⟩
set_option maxRecDepth 20000 in
theorem gk_X4_result : eg_YOK mX4_result 1 := ⟨eg_inT (i := 550) rfl rfl, eg_inT (i := 5) rfl rfl, ⟨by decide, by decide⟩, by decide, by decide, by decide +kernel⟩
set_option maxRecDepth 20000 in
theorem gi_X4_result : Cond.instanceMethod yX4_result ∈ eg_gw ∧ Cond.selects yX4_result.cls yX4_result yX4_result ∈ eg_gw := ⟨eg_inT (i := 548) rfl rfl, eg_inT (i := 549) rfl rfl⟩
set_option maxRecDepth 20000 in
theorem gk_X4_instruction : eg_YOK mX4_instruction 2 := ⟨eg_inT (i := 554) rfl rfl, eg_inT (i := 5) rfl rfl, ⟨by decide, by decide⟩, by decide, by decide, by decide +kernel⟩
set_option maxRecDepth 20000 in
theorem gi_X4_instruction : Cond.instanceMethod yX4_instruction ∈ eg_gw ∧ Cond.selects yX4_instruction.cls yX4_instruction yX4_instruction ∈ eg_gw := ⟨eg_inT (i := 552) rfl rfl, eg_inT (i := 553) rfl rfl⟩
set_option maxRecDepth 20000 in
theorem gk_X4_count : eg_YOK mX4_count 1 := ⟨eg_inT (i := 558) rfl rfl, eg_inT (i := 5) rfl rfl, ⟨by decide, by decide⟩, by decide, by decide, by decide +kernel⟩
set_option maxRecDepth 20000 in
theorem gi_X4_count : Cond.instanceMethod yX4_count ∈ eg_gw ∧ Cond.selects yX4_count.cls yX4_count yX4_count ∈ eg_gw := ⟨eg_inT (i := 556) rfl rfl, eg_inT (i := 557) rfl rfl⟩
set_option maxRecDepth 20000 in
theorem gk_X4_value : eg_YOK mX4_value 2 := ⟨eg_inT (i := 562) rfl rfl, eg_inT (i := 5) rfl rfl, ⟨by decide, by decide⟩, by decide, by decide, by decide +kernel⟩
set_option maxRecDepth 20000 in
theorem gi_X4_value : Cond.instanceMethod yX4_value ∈ eg_gw ∧ Cond.selects yX4_value.cls yX4_value yX4_value ∈ eg_gw := ⟨eg_inT (i := 560) rfl rfl, eg_inT (i := 561) rfl rfl⟩
set_option maxRecDepth 20000 in
theorem gk_X4_differ : eg_YOK mX4_differ 2 := ⟨eg_inT (i := 566) rfl rfl, eg_inT (i := 5) rfl rfl, ⟨by decide, by decide⟩, by decide, by decide, by decide +kernel⟩
set_option maxRecDepth 20000 in
theorem gi_X4_differ : Cond.instanceMethod yX4_differ ∈ eg_gw ∧ Cond.selects yX4_differ.cls yX4_differ yX4_differ ∈ eg_gw := ⟨eg_inT (i := 564) rfl rfl, eg_inT (i := 565) rfl rfl⟩
set_option maxRecDepth 20000 in
theorem gk_X4_isSame : eg_YOK mX4_isSame 4 := ⟨eg_inT (i := 577) rfl rfl, eg_inT (i := 5) rfl rfl, ⟨by decide, by decide⟩, by decide, by decide, by decide +kernel⟩
set_option maxRecDepth 20000 in
theorem gi_X4_isSame : Cond.static yX4_isSame ∈ eg_gw := eg_inT (i := 576) rfl rfl
set_option maxRecDepth 20000 in
theorem gk_X4_lose : eg_YOK mX4_lose 2 := ⟨eg_inT (i := 581) rfl rfl, eg_inT (i := 5) rfl rfl, ⟨by decide, by decide⟩, by decide, by decide, by decide +kernel⟩
set_option maxRecDepth 20000 in
theorem gi_X4_lose : Cond.instanceMethod yX4_lose ∈ eg_gw ∧ Cond.selects yX4_lose.cls yX4_lose yX4_lose ∈ eg_gw := ⟨eg_inT (i := 580) rfl rfl, eg_inP (i := 42) rfl⟩
set_option maxRecDepth 20000 in
theorem gk_X4_loseTwin : eg_YOK mX4_loseTwin 0 := ⟨eg_inT (i := 574) rfl rfl, eg_inT (i := 5) rfl rfl, ⟨by decide, by decide⟩, by decide, by decide, by decide +kernel⟩
set_option maxRecDepth 20000 in
theorem gi_X4_loseTwin : Cond.instanceMethod yX4_loseTwin ∈ eg_gw ∧ Cond.selects yX4_loseTwin.cls yX4_loseTwin yX4_loseTwin ∈ eg_gw := ⟨eg_inT (i := 573) rfl rfl, eg_inP (i := 41) rfl⟩
set_option maxRecDepth 20000 in
theorem gk_X4_loseIdle : eg_YOK mX4_loseIdle 0 := ⟨eg_inT (i := 585) rfl rfl, eg_inT (i := 5) rfl rfl, ⟨by decide, by decide⟩, by decide, by decide, by decide +kernel⟩
set_option maxRecDepth 20000 in
theorem gi_X4_loseIdle : Cond.instanceMethod yX4_loseIdle ∈ eg_gw ∧ Cond.selects yX4_loseIdle.cls yX4_loseIdle yX4_loseIdle ∈ eg_gw := ⟨eg_inT (i := 584) rfl rfl, eg_inP (i := 43) rfl⟩
set_option maxRecDepth 20000 in
theorem gk_X4_clean : eg_YOK mX4_clean 0 := ⟨eg_inT (i := 570) rfl rfl, eg_inT (i := 5) rfl rfl, ⟨by decide, by decide⟩, by decide, by decide, by decide +kernel⟩
set_option maxRecDepth 20000 in
theorem gi_X4_clean : Cond.instanceMethod yX4_clean ∈ eg_gw ∧ Cond.selects yX4_clean.cls yX4_clean yX4_clean ∈ eg_gw := ⟨eg_inT (i := 568) rfl rfl, eg_inT (i := 569) rfl rfl⟩
set_option maxRecDepth 20000 in
theorem gk_X4_turns : eg_YOK mX4_turns 1 := ⟨eg_inT (i := 608) rfl rfl, eg_inT (i := 5) rfl rfl, ⟨by decide, by decide⟩, by decide, by decide, by decide +kernel⟩
set_option maxRecDepth 20000 in
theorem gi_X4_turns : Cond.static yX4_turns ∈ eg_gw := eg_inT (i := 607) rfl rfl
set_option maxRecDepth 20000 in
theorem gk_X4_advance : eg_YOK mX4_advance 1 := ⟨eg_inT (i := 605) rfl rfl, eg_inT (i := 5) rfl rfl, ⟨by decide, by decide⟩, by decide, by decide, by decide +kernel⟩
set_option maxRecDepth 20000 in
theorem gi_X4_advance : Cond.instanceMethod yX4_advance ∈ eg_gw ∧ Cond.selects yX4_advance.cls yX4_advance yX4_advance ∈ eg_gw := ⟨eg_inT (i := 604) rfl rfl, eg_inP (i := 47) rfl⟩
set_option maxRecDepth 20000 in
theorem gk_X4_open : eg_YOK mX4_open 2 := ⟨eg_inT (i := 601) rfl rfl, eg_inT (i := 5) rfl rfl, ⟨by decide, by decide⟩, by decide, by decide, by decide +kernel⟩
set_option maxRecDepth 20000 in
theorem gi_X4_open : Cond.instanceMethod yX4_open ∈ eg_gw ∧ Cond.selects yX4_open.cls yX4_open yX4_open ∈ eg_gw := ⟨eg_inT (i := 600) rfl rfl, eg_inP (i := 46) rfl⟩
set_option maxRecDepth 20000 in
theorem gk_X4_isTarget : eg_YOK mX4_isTarget 1 := ⟨eg_inT (i := 593) rfl rfl, eg_inT (i := 5) rfl rfl, ⟨by decide, by decide⟩, by decide, by decide, by decide +kernel⟩
set_option maxRecDepth 20000 in
theorem gi_X4_isTarget : Cond.instanceMethod yX4_isTarget ∈ eg_gw ∧ Cond.selects yX4_isTarget.cls yX4_isTarget yX4_isTarget ∈ eg_gw := ⟨eg_inT (i := 592) rfl rfl, eg_inP (i := 44) rfl⟩
set_option maxRecDepth 20000 in
theorem gk_X4_isNew : eg_YOK mX4_isNew 1 := ⟨eg_inT (i := 616) rfl rfl, eg_inT (i := 5) rfl rfl, ⟨by decide, by decide⟩, by decide, by decide, by decide +kernel⟩
set_option maxRecDepth 20000 in
theorem gi_X4_isNew : Cond.instanceMethod yX4_isNew ∈ eg_gw ∧ Cond.selects yX4_isNew.cls yX4_isNew yX4_isNew ∈ eg_gw := ⟨eg_inT (i := 615) rfl rfl, eg_inP (i := 49) rfl⟩
set_option maxRecDepth 20000 in
theorem gk_X4_note : eg_YOK mX4_note 1 := ⟨eg_inT (i := 612) rfl rfl, eg_inT (i := 5) rfl rfl, ⟨by decide, by decide⟩, by decide, by decide, by decide +kernel⟩
set_option maxRecDepth 20000 in
theorem gi_X4_note : Cond.instanceMethod yX4_note ∈ eg_gw ∧ Cond.selects yX4_note.cls yX4_note yX4_note ∈ eg_gw := ⟨eg_inT (i := 611) rfl rfl, eg_inP (i := 48) rfl⟩
set_option maxRecDepth 20000 in
theorem gk_X4_round : eg_YOK mX4_round 3 := ⟨eg_inT (i := 597) rfl rfl, eg_inT (i := 5) rfl rfl, ⟨by decide, by decide⟩, by decide, by decide, by decide +kernel⟩
set_option maxRecDepth 20000 in
theorem gi_X4_round : Cond.instanceMethod yX4_round ∈ eg_gw ∧ Cond.selects yX4_round.cls yX4_round yX4_round ∈ eg_gw := ⟨eg_inT (i := 596) rfl rfl, eg_inP (i := 45) rfl⟩
set_option maxRecDepth 20000 in
theorem gk_X4_keepFirst : eg_YOK mX4_keepFirst 1 := ⟨eg_inT (i := 620) rfl rfl, eg_inT (i := 5) rfl rfl, ⟨by decide, by decide⟩, by decide, by decide, by decide +kernel⟩
set_option maxRecDepth 20000 in
theorem gi_X4_keepFirst : Cond.instanceMethod yX4_keepFirst ∈ eg_gw ∧ Cond.selects yX4_keepFirst.cls yX4_keepFirst yX4_keepFirst ∈ eg_gw := ⟨eg_inT (i := 619) rfl rfl, eg_inP (i := 50) rfl⟩
set_option maxRecDepth 20000 in
theorem gk_X4_search : eg_YOK mX4_search 3 := ⟨eg_inT (i := 589) rfl rfl, eg_inT (i := 5) rfl rfl, ⟨by decide, by decide⟩, by decide, by decide, by decide +kernel⟩
set_option maxRecDepth 20000 in
theorem gi_X4_search : Cond.instanceMethod yX4_search ∈ eg_gw ∧ Cond.selects yX4_search.cls yX4_search yX4_search ∈ eg_gw := ⟨eg_inT (i := 587) rfl rfl, eg_inT (i := 588) rfl rfl⟩
set_option maxRecDepth 20000 in
theorem gk_X4_told : eg_YOK mX4_told 1 := ⟨eg_inT (i := 624) rfl rfl, eg_inT (i := 5) rfl rfl, ⟨by decide, by decide⟩, by decide, by decide, by decide +kernel⟩
set_option maxRecDepth 20000 in
theorem gi_X4_told : Cond.instanceMethod yX4_told ∈ eg_gw ∧ Cond.selects yX4_told.cls yX4_told yX4_told ∈ eg_gw := ⟨eg_inT (i := 622) rfl rfl, eg_inT (i := 623) rfl rfl⟩
set_option maxRecDepth 20000 in
theorem gk_X4_take : eg_YOK mX4_take 0 := ⟨eg_inT (i := 628) rfl rfl, eg_inT (i := 5) rfl rfl, ⟨by decide, by decide⟩, by decide, by decide, by decide +kernel⟩
set_option maxRecDepth 20000 in
theorem gi_X4_take : Cond.instanceMethod yX4_take ∈ eg_gw ∧ Cond.selects yX4_take.cls yX4_take yX4_take ∈ eg_gw := ⟨eg_inT (i := 626) rfl rfl, eg_inT (i := 627) rfl rfl⟩
set_option maxRecDepth 20000 in
theorem gc_RL_7 : Cond.classLink RL 7 RX3 ∈ eg_gw ∧ Cond.instantiable RX3 8 ∈ eg_gw ∧ Cond.initialized RX3 ∈ eg_gw := ⟨eg_inT (i := 7) rfl rfl, eg_inT (i := 8) rfl rfl, eg_inT (i := 1) rfl rfl⟩
set_option maxRecDepth 20000 in
theorem gl_RL_9 : Cond.methodLink RL 9 yX3_init ∈ eg_gw ∨ ∃ host, Cond.methodLinkNest RL 9 yX3_init host ∈ eg_nw := Or.inl (eg_inT (i := 9) rfl rfl)
set_option maxRecDepth 20000 in
theorem gl_RX3_3 : Cond.methodLink RX3 3 Lib.objectInit ∈ eg_gw ∧ Cond.instanceMethod Lib.objectInit ∈ eg_gw ∧ Cond.code Lib.objectInit ⟨#[0xb1]⟩ 1 none ∈ eg_gw := ⟨eg_inT (i := 12) rfl rfl, eg_inT (i := 13) rfl rfl, eg_inT (i := 14) rfl rfl⟩
set_option maxRecDepth 20000 in
theorem gc_RX3_16 : Cond.classLink RX3 16 RX2 ∈ eg_gw ∧ Cond.instantiable RX2 6 ∈ eg_gw ∧ Cond.initialized RX2 ∈ eg_gw := ⟨eg_inT (i := 15) rfl rfl, eg_inT (i := 16) rfl rfl, eg_inT (i := 2) rfl rfl⟩
set_option maxRecDepth 20000 in
theorem gl_RX3_18 : Cond.methodLink RX3 18 yX2_init ∈ eg_gw ∨ ∃ host, Cond.methodLinkNest RX3 18 yX2_init host ∈ eg_nw := Or.inr ⟨"ShortestCode", eg_inN (i := 17) rfl rfl⟩
set_option maxRecDepth 20000 in
theorem gl_RX2_3 : Cond.methodLink RX2 3 Lib.objectInit ∈ eg_gw ∧ Cond.instanceMethod Lib.objectInit ∈ eg_gw ∧ Cond.code Lib.objectInit ⟨#[0xb1]⟩ 1 none ∈ eg_gw := ⟨eg_inT (i := 20) rfl rfl, eg_inT (i := 13) rfl rfl, eg_inT (i := 14) rfl rfl⟩
set_option maxRecDepth 20000 in
theorem gc_RX2_9 : Cond.classLink RX2 9 "[[I" ∈ eg_gw := eg_inT (i := 21) rfl rfl
set_option maxRecDepth 20000 in
theorem gf_RX2_11 : eg_FG RX2 11 2 0 := ⟨RX2, TX2, 6, rfl, by decide, Or.inl (eg_inT (i := 23) rfl rfl)⟩
set_option maxRecDepth 20000 in
theorem gp_RX2_11 : eg_FL RX2 11 2 0 true := ⟨RX2, TX2, 6, rfl, by decide, rfl, (fun _ => rfl), Or.inl (eg_inT (i := 23) rfl rfl)⟩
set_option maxRecDepth 20000 in
theorem gf_RX3_83 : eg_FG RX3 83 2 0 := ⟨RX2, TX2, 6, rfl, by decide, Or.inr ⟨"ShortestCode", eg_inN (i := 24) rfl rfl⟩⟩
set_option maxRecDepth 20000 in
theorem gf_RX2_16 : eg_FG RX2 16 2 1 := ⟨RX2, TX2, 6, rfl, by decide, Or.inl (eg_inT (i := 25) rfl rfl)⟩
set_option maxRecDepth 20000 in
theorem gp_RX2_16 : eg_FL RX2 16 2 1 false := ⟨RX2, TX2, 6, rfl, by decide, rfl, (fun h => by cases h), Or.inl (eg_inT (i := 25) rfl rfl)⟩
set_option maxRecDepth 20000 in
theorem gf_RX3_115 : eg_FG RX3 115 2 1 := ⟨RX2, TX2, 6, rfl, by decide, Or.inr ⟨"ShortestCode", eg_inN (i := 26) rfl rfl⟩⟩
set_option maxRecDepth 20000 in
theorem gp_RX3_115 : eg_FL RX3 115 2 1 false := ⟨RX2, TX2, 6, rfl, by decide, rfl, (fun h => by cases h), Or.inr ⟨rfl, "ShortestCode", eg_inN (i := 26) rfl rfl⟩⟩
set_option maxRecDepth 20000 in
theorem gf_RX2_20 : eg_FG RX2 20 2 2 := ⟨RX2, TX2, 6, rfl, by decide, Or.inl (eg_inT (i := 27) rfl rfl)⟩
set_option maxRecDepth 20000 in
theorem gp_RX2_20 : eg_FL RX2 20 2 2 false := ⟨RX2, TX2, 6, rfl, by decide, rfl, (fun h => by cases h), Or.inl (eg_inT (i := 27) rfl rfl)⟩
set_option maxRecDepth 20000 in
theorem gf_RX2_23 : eg_FG RX2 23 2 3 := ⟨RX2, TX2, 6, rfl, by decide, Or.inl (eg_inT (i := 28) rfl rfl)⟩
set_option maxRecDepth 20000 in
theorem gp_RX2_23 : eg_FL RX2 23 2 3 false := ⟨RX2, TX2, 6, rfl, by decide, rfl, (fun h => by cases h), Or.inl (eg_inT (i := 28) rfl rfl)⟩
set_option maxRecDepth 20000 in
theorem gf_RX3_118 : eg_FG RX3 118 2 3 := ⟨RX2, TX2, 6, rfl, by decide, Or.inr ⟨"ShortestCode", eg_inN (i := 29) rfl rfl⟩⟩
set_option maxRecDepth 20000 in
theorem gp_RX3_118 : eg_FL RX3 118 2 3 false := ⟨RX2, TX2, 6, rfl, by decide, rfl, (fun h => by cases h), Or.inr ⟨rfl, "ShortestCode", eg_inN (i := 29) rfl rfl⟩⟩
set_option maxRecDepth 20000 in
theorem gf_RX2_29 : eg_FG RX2 29 2 4 := ⟨RX2, TX2, 6, rfl, by decide, Or.inl (eg_inT (i := 30) rfl rfl)⟩
set_option maxRecDepth 20000 in
theorem gp_RX2_29 : eg_FL RX2 29 2 4 false := ⟨RX2, TX2, 6, rfl, by decide, rfl, (fun h => by cases h), Or.inl (eg_inT (i := 30) rfl rfl)⟩
set_option maxRecDepth 20000 in
theorem gf_RX3_67 : eg_FG RX3 67 2 4 := ⟨RX2, TX2, 6, rfl, by decide, Or.inr ⟨"ShortestCode", eg_inN (i := 31) rfl rfl⟩⟩
set_option maxRecDepth 20000 in
theorem gp_RX3_67 : eg_FL RX3 67 2 4 false := ⟨RX2, TX2, 6, rfl, by decide, rfl, (fun h => by cases h), Or.inr ⟨rfl, "ShortestCode", eg_inN (i := 31) rfl rfl⟩⟩
set_option maxRecDepth 20000 in
theorem gf_RX2_26 : eg_FG RX2 26 2 5 := ⟨RX2, TX2, 6, rfl, by decide, Or.inl (eg_inT (i := 32) rfl rfl)⟩
set_option maxRecDepth 20000 in
theorem gp_RX2_26 : eg_FL RX2 26 2 5 false := ⟨RX2, TX2, 6, rfl, by decide, rfl, (fun h => by cases h), Or.inl (eg_inT (i := 32) rfl rfl)⟩
set_option maxRecDepth 20000 in
theorem gf_RX3_56 : eg_FG RX3 56 2 5 := ⟨RX2, TX2, 6, rfl, by decide, Or.inr ⟨"ShortestCode", eg_inN (i := 33) rfl rfl⟩⟩
set_option maxRecDepth 20000 in
theorem gp_RX3_56 : eg_FL RX3 56 2 5 false := ⟨RX2, TX2, 6, rfl, by decide, rfl, (fun h => by cases h), Or.inr ⟨rfl, "ShortestCode", eg_inN (i := 33) rfl rfl⟩⟩
set_option maxRecDepth 20000 in
theorem ga_int : Cond.arrayClass .int ∈ eg_gw := eg_inT (i := 47) rfl rfl
set_option maxRecDepth 20000 in
theorem gc_RX3_23 : Cond.classLink RX3 23 RX1 ∈ eg_gw ∧ Cond.instantiable RX1 5 ∈ eg_gw ∧ Cond.initialized RX1 ∈ eg_gw := ⟨eg_inT (i := 48) rfl rfl, eg_inT (i := 49) rfl rfl, eg_inT (i := 3) rfl rfl⟩
set_option maxRecDepth 20000 in
theorem gl_RX3_25 : Cond.methodLink RX3 25 yX1_init ∈ eg_gw ∨ ∃ host, Cond.methodLinkNest RX3 25 yX1_init host ∈ eg_nw := Or.inr ⟨"ShortestCode", eg_inN (i := 50) rfl rfl⟩
set_option maxRecDepth 20000 in
theorem gl_RX1_3 : Cond.methodLink RX1 3 Lib.objectInit ∈ eg_gw ∧ Cond.instanceMethod Lib.objectInit ∈ eg_gw ∧ Cond.code Lib.objectInit ⟨#[0xb1]⟩ 1 none ∈ eg_gw := ⟨eg_inT (i := 53) rfl rfl, eg_inT (i := 13) rfl rfl, eg_inT (i := 14) rfl rfl⟩
set_option maxRecDepth 20000 in
theorem gf_RX1_9 : eg_FG RX1 9 1 0 := ⟨RX1, TX1, 5, rfl, by decide, Or.inl (eg_inT (i := 54) rfl rfl)⟩
set_option maxRecDepth 20000 in
theorem gp_RX1_9 : eg_FL RX1 9 1 0 true := ⟨RX1, TX1, 5, rfl, by decide, rfl, (fun _ => rfl), Or.inl (eg_inT (i := 54) rfl rfl)⟩
set_option maxRecDepth 20000 in
theorem gf_RX3_106 : eg_FG RX3 106 1 0 := ⟨RX1, TX1, 5, rfl, by decide, Or.inr ⟨"ShortestCode", eg_inN (i := 55) rfl rfl⟩⟩
set_option maxRecDepth 20000 in
theorem gf_RX1_15 : eg_FG RX1 15 1 1 := ⟨RX1, TX1, 5, rfl, by decide, Or.inl (eg_inT (i := 56) rfl rfl)⟩
set_option maxRecDepth 20000 in
theorem gp_RX1_15 : eg_FL RX1 15 1 1 true := ⟨RX1, TX1, 5, rfl, by decide, rfl, (fun _ => rfl), Or.inl (eg_inT (i := 56) rfl rfl)⟩
set_option maxRecDepth 20000 in
theorem gf_RX3_109 : eg_FG RX3 109 1 1 := ⟨RX1, TX1, 5, rfl, by decide, Or.inr ⟨"ShortestCode", eg_inN (i := 57) rfl rfl⟩⟩
set_option maxRecDepth 20000 in
theorem gf_RX1_18 : eg_FG RX1 18 1 2 := ⟨RX1, TX1, 5, rfl, by decide, Or.inl (eg_inT (i := 58) rfl rfl)⟩
set_option maxRecDepth 20000 in
theorem gp_RX1_18 : eg_FL RX1 18 1 2 true := ⟨RX1, TX1, 5, rfl, by decide, rfl, (fun _ => rfl), Or.inl (eg_inT (i := 58) rfl rfl)⟩
set_option maxRecDepth 20000 in
theorem gf_RX3_112 : eg_FG RX3 112 1 2 := ⟨RX1, TX1, 5, rfl, by decide, Or.inr ⟨"ShortestCode", eg_inN (i := 59) rfl rfl⟩⟩
set_option maxRecDepth 20000 in
theorem gf_RX1_21 : eg_FG RX1 21 1 3 := ⟨RX1, TX1, 5, rfl, by decide, Or.inl (eg_inT (i := 60) rfl rfl)⟩
set_option maxRecDepth 20000 in
theorem gp_RX1_21 : eg_FL RX1 21 1 3 false := ⟨RX1, TX1, 5, rfl, by decide, rfl, (fun h => by cases h), Or.inl (eg_inT (i := 60) rfl rfl)⟩
set_option maxRecDepth 20000 in
theorem gf_RX3_64 : eg_FG RX3 64 1 3 := ⟨RX1, TX1, 5, rfl, by decide, Or.inr ⟨"ShortestCode", eg_inN (i := 61) rfl rfl⟩⟩
set_option maxRecDepth 20000 in
theorem gp_RX3_64 : eg_FL RX3 64 1 3 false := ⟨RX1, TX1, 5, rfl, by decide, rfl, (fun h => by cases h), Or.inr ⟨rfl, "ShortestCode", eg_inN (i := 61) rfl rfl⟩⟩
set_option maxRecDepth 20000 in
theorem gf_RX0_124 : eg_FG RX0 124 1 3 := ⟨RX1, TX1, 5, rfl, by decide, Or.inr ⟨"ShortestCode", eg_inN (i := 62) rfl rfl⟩⟩
set_option maxRecDepth 20000 in
theorem gp_RX0_124 : eg_FL RX0 124 1 3 false := ⟨RX1, TX1, 5, rfl, by decide, rfl, (fun h => by cases h), Or.inr ⟨rfl, "ShortestCode", eg_inN (i := 62) rfl rfl⟩⟩
set_option maxRecDepth 20000 in
theorem gf_RX1_25 : eg_FG RX1 25 1 4 := ⟨RX1, TX1, 5, rfl, by decide, Or.inl (eg_inT (i := 63) rfl rfl)⟩
set_option maxRecDepth 20000 in
theorem gp_RX1_25 : eg_FL RX1 25 1 4 false := ⟨RX1, TX1, 5, rfl, by decide, rfl, (fun h => by cases h), Or.inl (eg_inT (i := 63) rfl rfl)⟩
set_option maxRecDepth 20000 in
theorem gf_RX3_87 : eg_FG RX3 87 1 4 := ⟨RX1, TX1, 5, rfl, by decide, Or.inr ⟨"ShortestCode", eg_inN (i := 64) rfl rfl⟩⟩
set_option maxRecDepth 20000 in
theorem gp_RX3_87 : eg_FL RX3 87 1 4 false := ⟨RX1, TX1, 5, rfl, by decide, rfl, (fun h => by cases h), Or.inr ⟨rfl, "ShortestCode", eg_inN (i := 64) rfl rfl⟩⟩
set_option maxRecDepth 20000 in
theorem gf_RX0_127 : eg_FG RX0 127 1 4 := ⟨RX1, TX1, 5, rfl, by decide, Or.inr ⟨"ShortestCode", eg_inN (i := 65) rfl rfl⟩⟩
set_option maxRecDepth 20000 in
theorem gp_RX0_127 : eg_FL RX0 127 1 4 false := ⟨RX1, TX1, 5, rfl, by decide, rfl, (fun h => by cases h), Or.inr ⟨rfl, "ShortestCode", eg_inN (i := 65) rfl rfl⟩⟩
set_option maxRecDepth 20000 in
theorem gc_RX3_37 : Cond.classLink RX3 37 RX0 ∈ eg_gw ∧ Cond.instantiable RX0 12 ∈ eg_gw ∧ Cond.initialized RX0 ∈ eg_gw := ⟨eg_inT (i := 77) rfl rfl, eg_inT (i := 78) rfl rfl, eg_inT (i := 4) rfl rfl⟩
set_option maxRecDepth 20000 in
theorem gl_RX3_39 : Cond.methodLink RX3 39 yX0_init ∈ eg_gw ∨ ∃ host, Cond.methodLinkNest RX3 39 yX0_init host ∈ eg_nw := Or.inr ⟨"ShortestCode", eg_inN (i := 79) rfl rfl⟩
set_option maxRecDepth 20000 in
theorem gl_RX0_3 : Cond.methodLink RX0 3 Lib.objectInit ∈ eg_gw ∧ Cond.instanceMethod Lib.objectInit ∈ eg_gw ∧ Cond.code Lib.objectInit ⟨#[0xb1]⟩ 1 none ∈ eg_gw := ⟨eg_inT (i := 82) rfl rfl, eg_inT (i := 13) rfl rfl, eg_inT (i := 14) rfl rfl⟩
set_option maxRecDepth 20000 in
theorem gc_RX0_18 : Cond.classLink RX0 18 RX2 ∈ eg_gw ∧ Cond.instantiable RX2 6 ∈ eg_gw ∧ Cond.initialized RX2 ∈ eg_gw := ⟨eg_inT (i := 83) rfl rfl, eg_inT (i := 16) rfl rfl, eg_inT (i := 2) rfl rfl⟩
set_option maxRecDepth 20000 in
theorem gl_RX0_20 : Cond.methodLink RX0 20 yX2_init ∈ eg_gw ∨ ∃ host, Cond.methodLinkNest RX0 20 yX2_init host ∈ eg_nw := Or.inr ⟨"ShortestCode", eg_inN (i := 84) rfl rfl⟩
set_option maxRecDepth 20000 in
theorem gc_RX0_25 : Cond.classLink RX0 25 RX1 ∈ eg_gw ∧ Cond.instantiable RX1 5 ∈ eg_gw ∧ Cond.initialized RX1 ∈ eg_gw := ⟨eg_inT (i := 85) rfl rfl, eg_inT (i := 49) rfl rfl, eg_inT (i := 3) rfl rfl⟩
set_option maxRecDepth 20000 in
theorem gl_RX0_27 : Cond.methodLink RX0 27 yX1_init ∈ eg_gw ∨ ∃ host, Cond.methodLinkNest RX0 27 yX1_init host ∈ eg_nw := Or.inr ⟨"ShortestCode", eg_inN (i := 86) rfl rfl⟩
set_option maxRecDepth 20000 in
theorem gf_RX0_9 : eg_FG RX0 9 0 0 := ⟨RX0, TX0, 12, rfl, by decide, Or.inl (eg_inT (i := 87) rfl rfl)⟩
set_option maxRecDepth 20000 in
theorem gp_RX0_9 : eg_FL RX0 9 0 0 true := ⟨RX0, TX0, 12, rfl, by decide, rfl, (fun _ => rfl), Or.inl (eg_inT (i := 87) rfl rfl)⟩
set_option maxRecDepth 20000 in
theorem gf_RX0_15 : eg_FG RX0 15 0 1 := ⟨RX0, TX0, 12, rfl, by decide, Or.inl (eg_inT (i := 88) rfl rfl)⟩
set_option maxRecDepth 20000 in
theorem gp_RX0_15 : eg_FL RX0 15 0 1 true := ⟨RX0, TX0, 12, rfl, by decide, rfl, (fun _ => rfl), Or.inl (eg_inT (i := 88) rfl rfl)⟩
set_option maxRecDepth 20000 in
theorem gf_RX0_21 : eg_FG RX0 21 0 2 := ⟨RX0, TX0, 12, rfl, by decide, Or.inl (eg_inT (i := 89) rfl rfl)⟩
set_option maxRecDepth 20000 in
theorem gp_RX0_21 : eg_FL RX0 21 0 2 true := ⟨RX0, TX0, 12, rfl, by decide, rfl, (fun _ => rfl), Or.inl (eg_inT (i := 89) rfl rfl)⟩
set_option maxRecDepth 20000 in
theorem gf_RX0_28 : eg_FG RX0 28 0 3 := ⟨RX0, TX0, 12, rfl, by decide, Or.inl (eg_inT (i := 90) rfl rfl)⟩
set_option maxRecDepth 20000 in
theorem gp_RX0_28 : eg_FL RX0 28 0 3 true := ⟨RX0, TX0, 12, rfl, by decide, rfl, (fun _ => rfl), Or.inl (eg_inT (i := 90) rfl rfl)⟩
set_option maxRecDepth 20000 in
theorem gf_RX0_32 : eg_FG RX0 32 0 4 := ⟨RX0, TX0, 12, rfl, by decide, Or.inl (eg_inT (i := 91) rfl rfl)⟩
set_option maxRecDepth 20000 in
theorem gp_RX0_32 : eg_FL RX0 32 0 4 true := ⟨RX0, TX0, 12, rfl, by decide, rfl, (fun _ => rfl), Or.inl (eg_inT (i := 91) rfl rfl)⟩
set_option maxRecDepth 20000 in
theorem gf_RX3_143 : eg_FG RX3 143 0 4 := ⟨RX0, TX0, 12, rfl, by decide, Or.inr ⟨"ShortestCode", eg_inN (i := 92) rfl rfl⟩⟩
set_option maxRecDepth 20000 in
theorem gf_RX0_49 : eg_FG RX0 49 0 5 := ⟨RX0, TX0, 12, rfl, by decide, Or.inl (eg_inT (i := 93) rfl rfl)⟩
set_option maxRecDepth 20000 in
theorem gp_RX0_49 : eg_FL RX0 49 0 5 false := ⟨RX0, TX0, 12, rfl, by decide, rfl, (fun h => by cases h), Or.inl (eg_inT (i := 93) rfl rfl)⟩
set_option maxRecDepth 20000 in
theorem gf_RX0_52 : eg_FG RX0 52 0 6 := ⟨RX0, TX0, 12, rfl, by decide, Or.inl (eg_inT (i := 94) rfl rfl)⟩
set_option maxRecDepth 20000 in
theorem gp_RX0_52 : eg_FL RX0 52 0 6 false := ⟨RX0, TX0, 12, rfl, by decide, rfl, (fun h => by cases h), Or.inl (eg_inT (i := 94) rfl rfl)⟩
set_option maxRecDepth 20000 in
theorem gf_RX0_56 : eg_FG RX0 56 0 7 := ⟨RX0, TX0, 12, rfl, by decide, Or.inl (eg_inT (i := 95) rfl rfl)⟩
set_option maxRecDepth 20000 in
theorem gp_RX0_56 : eg_FL RX0 56 0 7 false := ⟨RX0, TX0, 12, rfl, by decide, rfl, (fun h => by cases h), Or.inl (eg_inT (i := 95) rfl rfl)⟩
set_option maxRecDepth 20000 in
theorem gf_RX0_59 : eg_FG RX0 59 0 8 := ⟨RX0, TX0, 12, rfl, by decide, Or.inl (eg_inT (i := 96) rfl rfl)⟩
set_option maxRecDepth 20000 in
theorem gp_RX0_59 : eg_FL RX0 59 0 8 false := ⟨RX0, TX0, 12, rfl, by decide, rfl, (fun h => by cases h), Or.inl (eg_inT (i := 96) rfl rfl)⟩
set_option maxRecDepth 20000 in
theorem gf_RX3_150 : eg_FG RX3 150 0 8 := ⟨RX0, TX0, 12, rfl, by decide, Or.inr ⟨"ShortestCode", eg_inN (i := 97) rfl rfl⟩⟩
set_option maxRecDepth 20000 in
theorem gp_RX3_150 : eg_FL RX3 150 0 8 false := ⟨RX0, TX0, 12, rfl, by decide, rfl, (fun h => by cases h), Or.inr ⟨rfl, "ShortestCode", eg_inN (i := 97) rfl rfl⟩⟩
set_option maxRecDepth 20000 in
theorem gf_RX0_62 : eg_FG RX0 62 0 9 := ⟨RX0, TX0, 12, rfl, by decide, Or.inl (eg_inT (i := 98) rfl rfl)⟩
set_option maxRecDepth 20000 in
theorem gp_RX0_62 : eg_FL RX0 62 0 9 false := ⟨RX0, TX0, 12, rfl, by decide, rfl, (fun h => by cases h), Or.inl (eg_inT (i := 98) rfl rfl)⟩
set_option maxRecDepth 20000 in
theorem gf_RX3_153 : eg_FG RX3 153 0 9 := ⟨RX0, TX0, 12, rfl, by decide, Or.inr ⟨"ShortestCode", eg_inN (i := 99) rfl rfl⟩⟩
set_option maxRecDepth 20000 in
theorem gp_RX3_153 : eg_FL RX3 153 0 9 false := ⟨RX0, TX0, 12, rfl, by decide, rfl, (fun h => by cases h), Or.inr ⟨rfl, "ShortestCode", eg_inN (i := 99) rfl rfl⟩⟩
set_option maxRecDepth 20000 in
theorem gf_RX0_65 : eg_FG RX0 65 0 10 := ⟨RX0, TX0, 12, rfl, by decide, Or.inl (eg_inT (i := 100) rfl rfl)⟩
set_option maxRecDepth 20000 in
theorem gp_RX0_65 : eg_FL RX0 65 0 10 false := ⟨RX0, TX0, 12, rfl, by decide, rfl, (fun h => by cases h), Or.inl (eg_inT (i := 100) rfl rfl)⟩
set_option maxRecDepth 20000 in
theorem gf_RX3_156 : eg_FG RX3 156 0 10 := ⟨RX0, TX0, 12, rfl, by decide, Or.inr ⟨"ShortestCode", eg_inN (i := 101) rfl rfl⟩⟩
set_option maxRecDepth 20000 in
theorem gp_RX3_156 : eg_FL RX3 156 0 10 false := ⟨RX0, TX0, 12, rfl, by decide, rfl, (fun h => by cases h), Or.inr ⟨rfl, "ShortestCode", eg_inN (i := 101) rfl rfl⟩⟩
set_option maxRecDepth 20000 in
theorem gf_RX0_35 : eg_FG RX0 35 0 11 := ⟨RX0, TX0, 12, rfl, by decide, Or.inl (eg_inT (i := 102) rfl rfl)⟩
set_option maxRecDepth 20000 in
theorem gp_RX0_35 : eg_FL RX0 35 0 11 false := ⟨RX0, TX0, 12, rfl, by decide, rfl, (fun h => by cases h), Or.inl (eg_inT (i := 102) rfl rfl)⟩
set_option maxRecDepth 20000 in
theorem gf_RX3_159 : eg_FG RX3 159 0 11 := ⟨RX0, TX0, 12, rfl, by decide, Or.inr ⟨"ShortestCode", eg_inN (i := 103) rfl rfl⟩⟩
set_option maxRecDepth 20000 in
theorem gp_RX3_159 : eg_FL RX3 159 0 11 false := ⟨RX0, TX0, 12, rfl, by decide, rfl, (fun h => by cases h), Or.inr ⟨rfl, "ShortestCode", eg_inN (i := 103) rfl rfl⟩⟩
set_option maxRecDepth 20000 in
theorem ga_boolean : Cond.arrayClass .boolean ∈ eg_gw := eg_inT (i := 129) rfl rfl
set_option maxRecDepth 20000 in
theorem gl_RX3_44 : Cond.methodLink RX3 44 yX2_setInputs ∈ eg_gw ∨ ∃ host, Cond.methodLinkNest RX3 44 yX2_setInputs host ∈ eg_nw := Or.inr ⟨"ShortestCode", eg_inN (i := 130) rfl rfl⟩
set_option maxRecDepth 20000 in
theorem gf_RX3_9 : eg_FG RX3 9 3 0 := ⟨RX3, TX3, 8, rfl, by decide, Or.inl (eg_inT (i := 134) rfl rfl)⟩
set_option maxRecDepth 20000 in
theorem gp_RX3_9 : eg_FL RX3 9 3 0 true := ⟨RX3, TX3, 8, rfl, by decide, rfl, (fun _ => rfl), Or.inl (eg_inT (i := 134) rfl rfl)⟩
set_option maxRecDepth 20000 in
theorem gf_RX3_13 : eg_FG RX3 13 3 1 := ⟨RX3, TX3, 8, rfl, by decide, Or.inl (eg_inT (i := 135) rfl rfl)⟩
set_option maxRecDepth 20000 in
theorem gp_RX3_13 : eg_FL RX3 13 3 1 true := ⟨RX3, TX3, 8, rfl, by decide, rfl, (fun _ => rfl), Or.inl (eg_inT (i := 135) rfl rfl)⟩
set_option maxRecDepth 20000 in
theorem gf_RX3_19 : eg_FG RX3 19 3 2 := ⟨RX3, TX3, 8, rfl, by decide, Or.inl (eg_inT (i := 136) rfl rfl)⟩
set_option maxRecDepth 20000 in
theorem gp_RX3_19 : eg_FL RX3 19 3 2 true := ⟨RX3, TX3, 8, rfl, by decide, rfl, (fun _ => rfl), Or.inl (eg_inT (i := 136) rfl rfl)⟩
set_option maxRecDepth 20000 in
theorem gf_RX3_26 : eg_FG RX3 26 3 3 := ⟨RX3, TX3, 8, rfl, by decide, Or.inl (eg_inT (i := 137) rfl rfl)⟩
set_option maxRecDepth 20000 in
theorem gp_RX3_26 : eg_FL RX3 26 3 3 true := ⟨RX3, TX3, 8, rfl, by decide, rfl, (fun _ => rfl), Or.inl (eg_inT (i := 137) rfl rfl)⟩
set_option maxRecDepth 20000 in
theorem gf_RX3_30 : eg_FG RX3 30 3 4 := ⟨RX3, TX3, 8, rfl, by decide, Or.inl (eg_inT (i := 138) rfl rfl)⟩
set_option maxRecDepth 20000 in
theorem gp_RX3_30 : eg_FL RX3 30 3 4 true := ⟨RX3, TX3, 8, rfl, by decide, rfl, (fun _ => rfl), Or.inl (eg_inT (i := 138) rfl rfl)⟩
set_option maxRecDepth 20000 in
theorem gf_RX3_33 : eg_FG RX3 33 3 5 := ⟨RX3, TX3, 8, rfl, by decide, Or.inl (eg_inT (i := 139) rfl rfl)⟩
set_option maxRecDepth 20000 in
theorem gp_RX3_33 : eg_FL RX3 33 3 5 true := ⟨RX3, TX3, 8, rfl, by decide, rfl, (fun _ => rfl), Or.inl (eg_inT (i := 139) rfl rfl)⟩
set_option maxRecDepth 20000 in
theorem gf_RX3_40 : eg_FG RX3 40 3 6 := ⟨RX3, TX3, 8, rfl, by decide, Or.inl (eg_inT (i := 140) rfl rfl)⟩
set_option maxRecDepth 20000 in
theorem gp_RX3_40 : eg_FL RX3 40 3 6 true := ⟨RX3, TX3, 8, rfl, by decide, rfl, (fun _ => rfl), Or.inl (eg_inT (i := 140) rfl rfl)⟩
set_option maxRecDepth 20000 in
theorem gf_RX3_52 : eg_FG RX3 52 3 7 := ⟨RX3, TX3, 8, rfl, by decide, Or.inl (eg_inT (i := 141) rfl rfl)⟩
set_option maxRecDepth 20000 in
theorem gp_RX3_52 : eg_FL RX3 52 3 7 false := ⟨RX3, TX3, 8, rfl, by decide, rfl, (fun h => by cases h), Or.inl (eg_inT (i := 141) rfl rfl)⟩
set_option maxRecDepth 20000 in
theorem gl_RL_13 : Cond.methodLink RL 13 yX3_words ∈ eg_gw ∨ ∃ host, Cond.methodLinkNest RL 13 yX3_words host ∈ eg_nw := Or.inl (eg_inT (i := 159) rfl rfl)
set_option maxRecDepth 20000 in
theorem gl_RX3_48 : Cond.methodLink RX3 48 yX1_empty ∈ eg_gw ∨ ∃ host, Cond.methodLinkNest RX3 48 yX1_empty host ∈ eg_nw := Or.inr ⟨"ShortestCode", eg_inN (i := 163) rfl rfl⟩
set_option maxRecDepth 20000 in
theorem gl_RL_18 : Cond.methodLink RL 18 yX3_constant ∈ eg_gw ∨ ∃ host, Cond.methodLinkNest RL 18 yX3_constant host ∈ eg_nw := Or.inl (eg_inT (i := 167) rfl rfl)
set_option maxRecDepth 20000 in
theorem gl_RX3_60 : Cond.methodLink RX3 60 yX2_isWord ∈ eg_gw ∨ ∃ host, Cond.methodLinkNest RX3 60 yX2_isWord host ∈ eg_nw := Or.inr ⟨"ShortestCode", eg_inN (i := 171) rfl rfl⟩
set_option maxRecDepth 20000 in
theorem gl_RX3_70 : Cond.methodLink RX3 70 yX2_appendConstant ∈ eg_gw ∨ ∃ host, Cond.methodLinkNest RX3 70 yX2_appendConstant host ∈ eg_nw := Or.inr ⟨"ShortestCode", eg_inN (i := 175) rfl rfl⟩
set_option maxRecDepth 20000 in
theorem gl_RX2_32 : Cond.methodLink RX2 32 yX2_given ∈ eg_gw ∨ ∃ host, Cond.methodLinkNest RX2 32 yX2_given host ∈ eg_nw := Or.inl (eg_inT (i := 179) rfl rfl)
set_option maxRecDepth 20000 in
theorem gl_RX3_73 : Cond.methodLink RX3 73 yX2_given ∈ eg_gw ∨ ∃ host, Cond.methodLinkNest RX3 73 yX2_given host ∈ eg_nw := Or.inr ⟨"ShortestCode", eg_inN (i := 183) rfl rfl⟩
set_option maxRecDepth 20000 in
theorem gl_RL_23 : Cond.methodLink RL 23 yX3_cost ∈ eg_gw ∨ ∃ host, Cond.methodLinkNest RL 23 yX3_cost host ∈ eg_nw := Or.inl (eg_inT (i := 184) rfl rfl)
set_option maxRecDepth 20000 in
theorem gl_RX3_77 : Cond.methodLink RX3 77 yX3_isOperation ∈ eg_gw ∨ ∃ host, Cond.methodLinkNest RX3 77 yX3_isOperation host ∈ eg_nw := Or.inl (eg_inT (i := 188) rfl rfl)
set_option maxRecDepth 20000 in
theorem gl_RL_27 : Cond.methodLink RL 27 yX3_target ∈ eg_gw ∨ ∃ host, Cond.methodLinkNest RL 27 yX3_target host ∈ eg_nw := Or.inl (eg_inT (i := 191) rfl rfl)
set_option maxRecDepth 20000 in
theorem gl_RX3_80 : Cond.methodLink RX3 80 yX2_isAssignment ∈ eg_gw ∨ ∃ host, Cond.methodLinkNest RX3 80 yX2_isAssignment host ∈ eg_nw := Or.inr ⟨"ShortestCode", eg_inN (i := 195) rfl rfl⟩
set_option maxRecDepth 20000 in
theorem gl_RL_31 : Cond.methodLink RL 31 yX3_aim ∈ eg_gw ∨ ∃ host, Cond.methodLinkNest RL 31 yX3_aim host ∈ eg_nw := Or.inl (eg_inT (i := 199) rfl rfl)
set_option maxRecDepth 20000 in
theorem gl_RL_36 : Cond.methodLink RL 36 yX3_add ∈ eg_gw ∨ ∃ host, Cond.methodLinkNest RL 36 yX3_add host ∈ eg_nw := Or.inl (eg_inT (i := 203) rfl rfl)
set_option maxRecDepth 20000 in
theorem gl_RX3_90 : Cond.methodLink RX3 90 yX3_isValue ∈ eg_gw ∨ ∃ host, Cond.methodLinkNest RX3 90 yX3_isValue host ∈ eg_nw := Or.inl (eg_inT (i := 207) rfl rfl)
set_option maxRecDepth 20000 in
theorem gl_RX3_93 : Cond.methodLink RX3 93 yX3_valueCount ∈ eg_gw ∨ ∃ host, Cond.methodLinkNest RX3 93 yX3_valueCount host ∈ eg_nw := Or.inl (eg_inT (i := 211) rfl rfl)
set_option maxRecDepth 20000 in
theorem gl_RX3_96 : Cond.methodLink RX3 96 yX3_takesOne ∈ eg_gw ∨ ∃ host, Cond.methodLinkNest RX3 96 yX3_takesOne host ∈ eg_nw := Or.inl (eg_inT (i := 215) rfl rfl)
set_option maxRecDepth 20000 in
theorem gl_RX3_99 : Cond.methodLink RX3 99 yX1_put ∈ eg_gw ∨ ∃ host, Cond.methodLinkNest RX3 99 yX1_put host ∈ eg_nw := Or.inr ⟨"ShortestCode", eg_inN (i := 218) rfl rfl⟩
set_option maxRecDepth 20000 in
theorem gl_RX3_103 : Cond.methodLink RX3 103 yX3_makeFrom ∈ eg_gw ∨ ∃ host, Cond.methodLinkNest RX3 103 yX3_makeFrom host ∈ eg_nw := Or.inl (eg_inT (i := 222) rfl rfl)
set_option maxRecDepth 20000 in
theorem gl_RX3_162 : Cond.methodLink RX3 162 yX2_make ∈ eg_gw ∨ ∃ host, Cond.methodLinkNest RX3 162 yX2_make host ∈ eg_nw := Or.inr ⟨"ShortestCode", eg_inN (i := 226) rfl rfl⟩
set_option maxRecDepth 20000 in
theorem gl_RX2_42 : Cond.methodLink RX2 42 yX2_reckon ∈ eg_gw ∨ ∃ host, Cond.methodLinkNest RX2 42 yX2_reckon host ∈ eg_nw := Or.inl (eg_inT (i := 230) rfl rfl)
set_option maxRecDepth 20000 in
theorem gl_RX2_54 : Cond.methodLink RX2 54 yX2_distance ∈ eg_gw ∨ ∃ host, Cond.methodLinkNest RX2 54 yX2_distance host ∈ eg_nw := Or.inl (eg_inT (i := 234) rfl rfl)
set_option maxRecDepth 20000 in
theorem gl_RX2_58 : Cond.methodLink RX2 58 yX2_signed ∈ eg_gw ∨ ∃ host, Cond.methodLinkNest RX2 58 yX2_signed host ∈ eg_nw := Or.inl (eg_inT (i := 238) rfl rfl)
set_option maxRecDepth 20000 in
theorem gl_RL_41 : Cond.methodLink RL 41 yX3_drop ∈ eg_gw ∨ ∃ host, Cond.methodLinkNest RL 41 yX3_drop host ∈ eg_nw := Or.inl (eg_inT (i := 242) rfl rfl)
set_option maxRecDepth 20000 in
theorem gl_RL_45 : Cond.methodLink RL 45 yX3_result ∈ eg_gw ∨ ∃ host, Cond.methodLinkNest RL 45 yX3_result host ∈ eg_nw := Or.inl (eg_inT (i := 246) rfl rfl)
set_option maxRecDepth 20000 in
theorem gl_RL_49 : Cond.methodLink RL 49 yX3_instruction ∈ eg_gw ∨ ∃ host, Cond.methodLinkNest RL 49 yX3_instruction host ∈ eg_nw := Or.inl (eg_inT (i := 250) rfl rfl)
set_option maxRecDepth 20000 in
theorem gl_RL_53 : Cond.methodLink RL 53 yX3_count ∈ eg_gw ∨ ∃ host, Cond.methodLinkNest RL 53 yX3_count host ∈ eg_nw := Or.inl (eg_inT (i := 254) rfl rfl)
set_option maxRecDepth 20000 in
theorem gl_RX3_121 : Cond.methodLink RX3 121 yX3_programCost ∈ eg_gw ∨ ∃ host, Cond.methodLinkNest RX3 121 yX3_programCost host ∈ eg_nw := Or.inl (eg_inT (i := 258) rfl rfl)
set_option maxRecDepth 20000 in
theorem gl_RL_57 : Cond.methodLink RL 57 yX3_value ∈ eg_gw ∨ ∃ host, Cond.methodLinkNest RL 57 yX3_value host ∈ eg_nw := Or.inl (eg_inT (i := 262) rfl rfl)
set_option maxRecDepth 20000 in
theorem gl_RL_61 : Cond.methodLink RL 61 yX3_differ ∈ eg_gw ∨ ∃ host, Cond.methodLinkNest RL 61 yX3_differ host ∈ eg_nw := Or.inl (eg_inT (i := 266) rfl rfl)
set_option maxRecDepth 20000 in
theorem gl_RX3_124 : Cond.methodLink RX3 124 yX2_firstDifference ∈ eg_gw ∨ ∃ host, Cond.methodLinkNest RX3 124 yX2_firstDifference host ∈ eg_nw := Or.inr ⟨"ShortestCode", eg_inN (i := 270) rfl rfl⟩
set_option maxRecDepth 20000 in
theorem gl_RL_65 : Cond.methodLink RL 65 yX3_clean ∈ eg_gw ∨ ∃ host, Cond.methodLinkNest RL 65 yX3_clean host ∈ eg_nw := Or.inl (eg_inT (i := 274) rfl rfl)
set_option maxRecDepth 20000 in
theorem gl_RX3_128 : Cond.methodLink RX3 128 yX3_takeOutRepeated ∈ eg_gw ∨ ∃ host, Cond.methodLinkNest RX3 128 yX3_takeOutRepeated host ∈ eg_nw := Or.inl (eg_inT (i := 278) rfl rfl)
set_option maxRecDepth 20000 in
theorem gl_RX3_165 : Cond.methodLink RX3 165 yX2_leastSame ∈ eg_gw ∨ ∃ host, Cond.methodLinkNest RX3 165 yX2_leastSame host ∈ eg_nw := Or.inr ⟨"ShortestCode", eg_inN (i := 282) rfl rfl⟩
set_option maxRecDepth 20000 in
theorem gl_RX2_50 : Cond.methodLink RX2 50 yX2_leastBelow ∈ eg_gw ∨ ∃ host, Cond.methodLinkNest RX2 50 yX2_leastBelow host ∈ eg_nw := Or.inl (eg_inT (i := 286) rfl rfl)
set_option maxRecDepth 20000 in
theorem gl_RX2_46 : Cond.methodLink RX2 46 yX2_firstDifference ∈ eg_gw ∨ ∃ host, Cond.methodLinkNest RX2 46 yX2_firstDifference host ∈ eg_nw := Or.inl (eg_inT (i := 290) rfl rfl)
set_option maxRecDepth 20000 in
theorem gl_RX3_169 : Cond.methodLink RX3 169 yX3_takeOut ∈ eg_gw ∨ ∃ host, Cond.methodLinkNest RX3 169 yX3_takeOut host ∈ eg_nw := Or.inl (eg_inT (i := 291) rfl rfl)
set_option maxRecDepth 20000 in
theorem gl_RX3_175 : Cond.methodLink RX3 175 yX1_remove ∈ eg_gw ∨ ∃ host, Cond.methodLinkNest RX3 175 yX1_remove host ∈ eg_nw := Or.inr ⟨"ShortestCode", eg_inN (i := 295) rfl rfl⟩
set_option maxRecDepth 20000 in
theorem gl_RX1_32 : Cond.methodLink RX1 32 yX1_renumbered ∈ eg_gw ∨ ∃ host, Cond.methodLinkNest RX1 32 yX1_renumbered host ∈ eg_nw := Or.inl (eg_inT (i := 299) rfl rfl)
set_option maxRecDepth 20000 in
theorem gl_RX1_28 : Cond.methodLink RX1 28 yX1_put ∈ eg_gw ∨ ∃ host, Cond.methodLinkNest RX1 28 yX1_put host ∈ eg_nw := Or.inl (eg_inT (i := 302) rfl rfl)
set_option maxRecDepth 20000 in
theorem gl_RX3_132 : Cond.methodLink RX3 132 yX3_takeOutNeedless ∈ eg_gw ∨ ∃ host, Cond.methodLinkNest RX3 132 yX3_takeOutNeedless host ∈ eg_nw := Or.inl (eg_inT (i := 303) rfl rfl)
set_option maxRecDepth 20000 in
theorem gl_RX3_172 : Cond.methodLink RX3 172 yX3_markNeeded ∈ eg_gw ∨ ∃ host, Cond.methodLinkNest RX3 172 yX3_markNeeded host ∈ eg_nw := Or.inl (eg_inT (i := 307) rfl rfl)
set_option maxRecDepth 20000 in
theorem gl_RL_69 : Cond.methodLink RL 69 yX3_search ∈ eg_gw ∨ ∃ host, Cond.methodLinkNest RL 69 yX3_search host ∈ eg_nw := Or.inl (eg_inT (i := 311) rfl rfl)
set_option maxRecDepth 20000 in
theorem gl_RX3_135 : Cond.methodLink RX3 135 yX0_prepare ∈ eg_gw ∨ ∃ host, Cond.methodLinkNest RX3 135 yX0_prepare host ∈ eg_nw := Or.inr ⟨"ShortestCode", eg_inN (i := 315) rfl rfl⟩
set_option maxRecDepth 20000 in
theorem gl_RX0_39 : Cond.methodLink RX0 39 yX2_copyGiven ∈ eg_gw ∨ ∃ host, Cond.methodLinkNest RX0 39 yX2_copyGiven host ∈ eg_nw := Or.inr ⟨"ShortestCode", eg_inN (i := 319) rfl rfl⟩
set_option maxRecDepth 20000 in
theorem gl_RX2_36 : Cond.methodLink RX2 36 arraycopyName ∈ eg_gw ∧ Cond.native arraycopyName ∈ eg_gw ∧ Cond.static arraycopyName ∈ eg_gw ∧ Cond.initialized "java/lang/System" ∈ eg_gw := ⟨eg_inT (i := 323) rfl rfl, eg_inT (i := 325) rfl rfl, eg_inT (i := 324) rfl rfl, eg_inT (i := 6) rfl rfl⟩
set_option maxRecDepth 20000 in
theorem gl_RX0_43 : Cond.methodLink RX0 43 arraycopyName ∈ eg_gw ∧ Cond.native arraycopyName ∈ eg_gw ∧ Cond.static arraycopyName ∈ eg_gw ∧ Cond.initialized "java/lang/System" ∈ eg_gw := ⟨eg_inT (i := 326) rfl rfl, eg_inT (i := 325) rfl rfl, eg_inT (i := 324) rfl rfl, eg_inT (i := 6) rfl rfl⟩
set_option maxRecDepth 20000 in
theorem gl_RX3_139 : Cond.methodLink RX3 139 yX0_run ∈ eg_gw ∨ ∃ host, Cond.methodLinkNest RX3 139 yX0_run host ∈ eg_nw := Or.inr ⟨"ShortestCode", eg_inN (i := 327) rfl rfl⟩
set_option maxRecDepth 20000 in
theorem gl_RX0_68 : Cond.methodLink RX0 68 yX0_findGiven ∈ eg_gw ∨ ∃ host, Cond.methodLinkNest RX0 68 yX0_findGiven host ∈ eg_nw := Or.inl (eg_inT (i := 331) rfl rfl)
set_option maxRecDepth 20000 in
theorem gl_RX0_75 : Cond.methodLink RX0 75 yX2_given ∈ eg_gw ∨ ∃ host, Cond.methodLinkNest RX0 75 yX2_given host ∈ eg_nw := Or.inr ⟨"ShortestCode", eg_inN (i := 335) rfl rfl⟩
set_option maxRecDepth 20000 in
theorem gl_RX0_79 : Cond.methodLink RX0 79 yX2_leastBelow ∈ eg_gw ∨ ∃ host, Cond.methodLinkNest RX0 79 yX2_leastBelow host ∈ eg_nw := Or.inr ⟨"ShortestCode", eg_inN (i := 336) rfl rfl⟩
set_option maxRecDepth 20000 in
theorem gl_RX0_83 : Cond.methodLink RX0 83 yX1_empty ∈ eg_gw ∨ ∃ host, Cond.methodLinkNest RX0 83 yX1_empty host ∈ eg_nw := Or.inr ⟨"ShortestCode", eg_inN (i := 337) rfl rfl⟩
set_option maxRecDepth 20000 in
theorem gl_RX0_71 : Cond.methodLink RX0 71 yX0_fill ∈ eg_gw ∨ ∃ host, Cond.methodLinkNest RX0 71 yX0_fill host ∈ eg_nw := Or.inl (eg_inT (i := 338) rfl rfl)
set_option maxRecDepth 20000 in
theorem gl_RX0_87 : Cond.methodLink RX0 87 yX0_isOver ∈ eg_gw ∨ ∃ host, Cond.methodLinkNest RX0 87 yX0_isOver host ∈ eg_nw := Or.inl (eg_inT (i := 342) rfl rfl)
set_option maxRecDepth 20000 in
theorem gl_RX0_91 : Cond.methodLink RX0 91 yX0_fillWith ∈ eg_gw ∨ ∃ host, Cond.methodLinkNest RX0 91 yX0_fillWith host ∈ eg_nw := Or.inl (eg_inT (i := 346) rfl rfl)
set_option maxRecDepth 20000 in
theorem gl_RX0_95 : Cond.methodLink RX0 95 yX3_takesOne ∈ eg_gw ∨ ∃ host, Cond.methodLinkNest RX0 95 yX3_takesOne host ∈ eg_nw := Or.inr ⟨"ShortestCode", eg_inN (i := 350) rfl rfl⟩
set_option maxRecDepth 20000 in
theorem gl_RX0_99 : Cond.methodLink RX0 99 yX3_isOrdered ∈ eg_gw ∨ ∃ host, Cond.methodLinkNest RX0 99 yX3_isOrdered host ∈ eg_nw := Or.inr ⟨"ShortestCode", eg_inN (i := 351) rfl rfl⟩
set_option maxRecDepth 20000 in
theorem gl_RX0_102 : Cond.methodLink RX0 102 yX0_attempt ∈ eg_gw ∨ ∃ host, Cond.methodLinkNest RX0 102 yX0_attempt host ∈ eg_nw := Or.inl (eg_inT (i := 354) rfl rfl)
set_option maxRecDepth 20000 in
theorem gl_RX0_106 : Cond.methodLink RX0 106 yX1_put ∈ eg_gw ∨ ∃ host, Cond.methodLinkNest RX0 106 yX1_put host ∈ eg_nw := Or.inr ⟨"ShortestCode", eg_inN (i := 358) rfl rfl⟩
set_option maxRecDepth 20000 in
theorem gl_RX0_110 : Cond.methodLink RX0 110 yX2_makes ∈ eg_gw ∨ ∃ host, Cond.methodLinkNest RX0 110 yX2_makes host ∈ eg_nw := Or.inr ⟨"ShortestCode", eg_inN (i := 359) rfl rfl⟩
set_option maxRecDepth 20000 in
theorem gl_RX0_114 : Cond.methodLink RX0 114 yX0_hit ∈ eg_gw ∨ ∃ host, Cond.methodLinkNest RX0 114 yX0_hit host ∈ eg_nw := Or.inl (eg_inT (i := 363) rfl rfl)
set_option maxRecDepth 20000 in
theorem gl_RX0_130 : Cond.methodLink RX0 130 yX1_copyFrom ∈ eg_gw ∨ ∃ host, Cond.methodLinkNest RX0 130 yX1_copyFrom host ∈ eg_nw := Or.inr ⟨"ShortestCode", eg_inN (i := 367) rfl rfl⟩
set_option maxRecDepth 20000 in
theorem gl_RX0_117 : Cond.methodLink RX0 117 yX2_make ∈ eg_gw ∨ ∃ host, Cond.methodLinkNest RX0 117 yX2_make host ∈ eg_nw := Or.inr ⟨"ShortestCode", eg_inN (i := 371) rfl rfl⟩
set_option maxRecDepth 20000 in
theorem gl_RX0_120 : Cond.methodLink RX0 120 yX2_leastSame ∈ eg_gw ∨ ∃ host, Cond.methodLinkNest RX0 120 yX2_leastSame host ∈ eg_nw := Or.inr ⟨"ShortestCode", eg_inN (i := 372) rfl rfl⟩
set_option maxRecDepth 20000 in
theorem gl_RX3_146 : Cond.methodLink RX3 146 yX1_copyFrom ∈ eg_gw ∨ ∃ host, Cond.methodLinkNest RX3 146 yX1_copyFrom host ∈ eg_nw := Or.inr ⟨"ShortestCode", eg_inN (i := 373) rfl rfl⟩
set_option maxRecDepth 20000 in
theorem gl_RL_73 : Cond.methodLink RL 73 yX3_told ∈ eg_gw ∨ ∃ host, Cond.methodLinkNest RL 73 yX3_told host ∈ eg_nw := Or.inl (eg_inT (i := 374) rfl rfl)
set_option maxRecDepth 20000 in
theorem gl_RL_77 : Cond.methodLink RL 77 yX3_take ∈ eg_gw ∨ ∃ host, Cond.methodLinkNest RL 77 yX3_take host ∈ eg_nw := Or.inl (eg_inT (i := 378) rfl rfl)
set_option maxRecDepth 20000 in
theorem gc_RL_10 : Cond.classLink RL 10 RX4 ∈ eg_gw ∧ Cond.instantiable RX4 33 ∈ eg_gw ∧ Cond.initialized RX4 ∈ eg_gw := ⟨eg_inT (i := 382) rfl rfl, eg_inT (i := 383) rfl rfl, eg_inT (i := 5) rfl rfl⟩
set_option maxRecDepth 20000 in
theorem gl_RL_12 : Cond.methodLink RL 12 yX4_init ∈ eg_gw ∨ ∃ host, Cond.methodLinkNest RL 12 yX4_init host ∈ eg_nw := Or.inl (eg_inT (i := 384) rfl rfl)
set_option maxRecDepth 20000 in
theorem gl_RX4_1 : Cond.methodLink RX4 1 Lib.objectInit ∈ eg_gw ∧ Cond.instanceMethod Lib.objectInit ∈ eg_gw ∧ Cond.code Lib.objectInit ⟨#[0xb1]⟩ 1 none ∈ eg_gw := ⟨eg_inT (i := 387) rfl rfl, eg_inT (i := 13) rfl rfl, eg_inT (i := 14) rfl rfl⟩
set_option maxRecDepth 20000 in
theorem gl_RX4_80 : Cond.methodLink RX4 80 yX4_reckonAll ∈ eg_gw ∨ ∃ host, Cond.methodLinkNest RX4 80 yX4_reckonAll host ∈ eg_nw := Or.inl (eg_inT (i := 388) rfl rfl)
set_option maxRecDepth 20000 in
theorem gl_RX4_93 : Cond.methodLink RX4 93 yX4_layFirsts ∈ eg_gw ∨ ∃ host, Cond.methodLinkNest RX4 93 yX4_layFirsts host ∈ eg_nw := Or.inl (eg_inT (i := 392) rfl rfl)
set_option maxRecDepth 20000 in
theorem gl_RX4_86 : Cond.methodLink RX4 86 yX4_firsts ∈ eg_gw ∨ ∃ host, Cond.methodLinkNest RX4 86 yX4_firsts host ∈ eg_nw := Or.inl (eg_inT (i := 396) rfl rfl)
set_option maxRecDepth 20000 in
theorem gl_RX4_97 : Cond.methodLink RX4 97 yX4_reckon ∈ eg_gw ∨ ∃ host, Cond.methodLinkNest RX4 97 yX4_reckon host ∈ eg_nw := Or.inl (eg_inT (i := 400) rfl rfl)
set_option maxRecDepth 20000 in
theorem gf_RX4_7 : eg_FG RX4 7 4 0 := ⟨RX4, TX4, 33, rfl, by decide, Or.inl (eg_inT (i := 404) rfl rfl)⟩
set_option maxRecDepth 20000 in
theorem gp_RX4_7 : eg_FL RX4 7 4 0 false := ⟨RX4, TX4, 33, rfl, by decide, rfl, (fun h => by cases h), Or.inl (eg_inT (i := 404) rfl rfl)⟩
set_option maxRecDepth 20000 in
theorem gf_RX4_13 : eg_FG RX4 13 4 1 := ⟨RX4, TX4, 33, rfl, by decide, Or.inl (eg_inT (i := 405) rfl rfl)⟩
set_option maxRecDepth 20000 in
theorem gp_RX4_13 : eg_FL RX4 13 4 1 false := ⟨RX4, TX4, 33, rfl, by decide, rfl, (fun h => by cases h), Or.inl (eg_inT (i := 405) rfl rfl)⟩
set_option maxRecDepth 20000 in
theorem gf_RX4_16 : eg_FG RX4 16 4 2 := ⟨RX4, TX4, 33, rfl, by decide, Or.inl (eg_inT (i := 406) rfl rfl)⟩
set_option maxRecDepth 20000 in
theorem gp_RX4_16 : eg_FL RX4 16 4 2 false := ⟨RX4, TX4, 33, rfl, by decide, rfl, (fun h => by cases h), Or.inl (eg_inT (i := 406) rfl rfl)⟩
set_option maxRecDepth 20000 in
theorem gf_RX4_19 : eg_FG RX4 19 4 3 := ⟨RX4, TX4, 33, rfl, by decide, Or.inl (eg_inT (i := 407) rfl rfl)⟩
set_option maxRecDepth 20000 in
theorem gp_RX4_19 : eg_FL RX4 19 4 3 false := ⟨RX4, TX4, 33, rfl, by decide, rfl, (fun h => by cases h), Or.inl (eg_inT (i := 407) rfl rfl)⟩
set_option maxRecDepth 20000 in
theorem gf_RX4_83 : eg_FG RX4 83 4 4 := ⟨RX4, TX4, 33, rfl, by decide, Or.inl (eg_inT (i := 408) rfl rfl)⟩
set_option maxRecDepth 20000 in
theorem gp_RX4_83 : eg_FL RX4 83 4 4 false := ⟨RX4, TX4, 33, rfl, by decide, rfl, (fun h => by cases h), Or.inl (eg_inT (i := 408) rfl rfl)⟩
set_option maxRecDepth 20000 in
theorem gf_RX4_22 : eg_FG RX4 22 4 5 := ⟨RX4, TX4, 33, rfl, by decide, Or.inl (eg_inT (i := 409) rfl rfl)⟩
set_option maxRecDepth 20000 in
theorem gp_RX4_22 : eg_FL RX4 22 4 5 true := ⟨RX4, TX4, 33, rfl, by decide, rfl, (fun _ => rfl), Or.inl (eg_inT (i := 409) rfl rfl)⟩
set_option maxRecDepth 20000 in
theorem gf_RX4_26 : eg_FG RX4 26 4 6 := ⟨RX4, TX4, 33, rfl, by decide, Or.inl (eg_inT (i := 410) rfl rfl)⟩
set_option maxRecDepth 20000 in
theorem gp_RX4_26 : eg_FL RX4 26 4 6 true := ⟨RX4, TX4, 33, rfl, by decide, rfl, (fun _ => rfl), Or.inl (eg_inT (i := 410) rfl rfl)⟩
set_option maxRecDepth 20000 in
theorem gf_RX4_29 : eg_FG RX4 29 4 7 := ⟨RX4, TX4, 33, rfl, by decide, Or.inl (eg_inT (i := 411) rfl rfl)⟩
set_option maxRecDepth 20000 in
theorem gp_RX4_29 : eg_FL RX4 29 4 7 true := ⟨RX4, TX4, 33, rfl, by decide, rfl, (fun _ => rfl), Or.inl (eg_inT (i := 411) rfl rfl)⟩
set_option maxRecDepth 20000 in
theorem gf_RX4_90 : eg_FG RX4 90 4 8 := ⟨RX4, TX4, 33, rfl, by decide, Or.inl (eg_inT (i := 412) rfl rfl)⟩
set_option maxRecDepth 20000 in
theorem gp_RX4_90 : eg_FL RX4 90 4 8 false := ⟨RX4, TX4, 33, rfl, by decide, rfl, (fun h => by cases h), Or.inl (eg_inT (i := 412) rfl rfl)⟩
set_option maxRecDepth 20000 in
theorem gf_RX4_32 : eg_FG RX4 32 4 9 := ⟨RX4, TX4, 33, rfl, by decide, Or.inl (eg_inT (i := 413) rfl rfl)⟩
set_option maxRecDepth 20000 in
theorem gp_RX4_32 : eg_FL RX4 32 4 9 true := ⟨RX4, TX4, 33, rfl, by decide, rfl, (fun _ => rfl), Or.inl (eg_inT (i := 413) rfl rfl)⟩
set_option maxRecDepth 20000 in
theorem gf_RX4_35 : eg_FG RX4 35 4 10 := ⟨RX4, TX4, 33, rfl, by decide, Or.inl (eg_inT (i := 414) rfl rfl)⟩
set_option maxRecDepth 20000 in
theorem gp_RX4_35 : eg_FL RX4 35 4 10 true := ⟨RX4, TX4, 33, rfl, by decide, rfl, (fun _ => rfl), Or.inl (eg_inT (i := 414) rfl rfl)⟩
set_option maxRecDepth 20000 in
theorem gf_RX4_38 : eg_FG RX4 38 4 11 := ⟨RX4, TX4, 33, rfl, by decide, Or.inl (eg_inT (i := 415) rfl rfl)⟩
set_option maxRecDepth 20000 in
theorem gp_RX4_38 : eg_FL RX4 38 4 11 true := ⟨RX4, TX4, 33, rfl, by decide, rfl, (fun _ => rfl), Or.inl (eg_inT (i := 415) rfl rfl)⟩
set_option maxRecDepth 20000 in
theorem gf_RX4_105 : eg_FG RX4 105 4 12 := ⟨RX4, TX4, 33, rfl, by decide, Or.inl (eg_inT (i := 416) rfl rfl)⟩
set_option maxRecDepth 20000 in
theorem gp_RX4_105 : eg_FL RX4 105 4 12 false := ⟨RX4, TX4, 33, rfl, by decide, rfl, (fun h => by cases h), Or.inl (eg_inT (i := 416) rfl rfl)⟩
set_option maxRecDepth 20000 in
theorem gf_RX4_41 : eg_FG RX4 41 4 13 := ⟨RX4, TX4, 33, rfl, by decide, Or.inl (eg_inT (i := 417) rfl rfl)⟩
set_option maxRecDepth 20000 in
theorem gp_RX4_41 : eg_FL RX4 41 4 13 true := ⟨RX4, TX4, 33, rfl, by decide, rfl, (fun _ => rfl), Or.inl (eg_inT (i := 417) rfl rfl)⟩
set_option maxRecDepth 20000 in
theorem gf_RX4_44 : eg_FG RX4 44 4 14 := ⟨RX4, TX4, 33, rfl, by decide, Or.inl (eg_inT (i := 418) rfl rfl)⟩
set_option maxRecDepth 20000 in
theorem gp_RX4_44 : eg_FL RX4 44 4 14 true := ⟨RX4, TX4, 33, rfl, by decide, rfl, (fun _ => rfl), Or.inl (eg_inT (i := 418) rfl rfl)⟩
set_option maxRecDepth 20000 in
theorem gf_RX4_108 : eg_FG RX4 108 4 15 := ⟨RX4, TX4, 33, rfl, by decide, Or.inl (eg_inT (i := 419) rfl rfl)⟩
set_option maxRecDepth 20000 in
theorem gp_RX4_108 : eg_FL RX4 108 4 15 false := ⟨RX4, TX4, 33, rfl, by decide, rfl, (fun h => by cases h), Or.inl (eg_inT (i := 419) rfl rfl)⟩
set_option maxRecDepth 20000 in
theorem gf_RX4_165 : eg_FG RX4 165 4 16 := ⟨RX4, TX4, 33, rfl, by decide, Or.inl (eg_inT (i := 420) rfl rfl)⟩
set_option maxRecDepth 20000 in
theorem gp_RX4_165 : eg_FL RX4 165 4 16 false := ⟨RX4, TX4, 33, rfl, by decide, rfl, (fun h => by cases h), Or.inl (eg_inT (i := 420) rfl rfl)⟩
set_option maxRecDepth 20000 in
theorem gf_RX4_168 : eg_FG RX4 168 4 17 := ⟨RX4, TX4, 33, rfl, by decide, Or.inl (eg_inT (i := 421) rfl rfl)⟩
set_option maxRecDepth 20000 in
theorem gp_RX4_168 : eg_FL RX4 168 4 17 false := ⟨RX4, TX4, 33, rfl, by decide, rfl, (fun h => by cases h), Or.inl (eg_inT (i := 421) rfl rfl)⟩
set_option maxRecDepth 20000 in
theorem gf_RX4_47 : eg_FG RX4 47 4 18 := ⟨RX4, TX4, 33, rfl, by decide, Or.inl (eg_inT (i := 422) rfl rfl)⟩
set_option maxRecDepth 20000 in
theorem gp_RX4_47 : eg_FL RX4 47 4 18 true := ⟨RX4, TX4, 33, rfl, by decide, rfl, (fun _ => rfl), Or.inl (eg_inT (i := 422) rfl rfl)⟩
set_option maxRecDepth 20000 in
theorem gf_RX4_50 : eg_FG RX4 50 4 19 := ⟨RX4, TX4, 33, rfl, by decide, Or.inl (eg_inT (i := 423) rfl rfl)⟩
set_option maxRecDepth 20000 in
theorem gp_RX4_50 : eg_FL RX4 50 4 19 true := ⟨RX4, TX4, 33, rfl, by decide, rfl, (fun _ => rfl), Or.inl (eg_inT (i := 423) rfl rfl)⟩
set_option maxRecDepth 20000 in
theorem gf_RX4_53 : eg_FG RX4 53 4 20 := ⟨RX4, TX4, 33, rfl, by decide, Or.inl (eg_inT (i := 424) rfl rfl)⟩
set_option maxRecDepth 20000 in
theorem gp_RX4_53 : eg_FL RX4 53 4 20 true := ⟨RX4, TX4, 33, rfl, by decide, rfl, (fun _ => rfl), Or.inl (eg_inT (i := 424) rfl rfl)⟩
set_option maxRecDepth 20000 in
theorem gf_RX4_152 : eg_FG RX4 152 4 21 := ⟨RX4, TX4, 33, rfl, by decide, Or.inl (eg_inT (i := 425) rfl rfl)⟩
set_option maxRecDepth 20000 in
theorem gp_RX4_152 : eg_FL RX4 152 4 21 false := ⟨RX4, TX4, 33, rfl, by decide, rfl, (fun h => by cases h), Or.inl (eg_inT (i := 425) rfl rfl)⟩
set_option maxRecDepth 20000 in
theorem gf_RX4_171 : eg_FG RX4 171 4 22 := ⟨RX4, TX4, 33, rfl, by decide, Or.inl (eg_inT (i := 426) rfl rfl)⟩
set_option maxRecDepth 20000 in
theorem gp_RX4_171 : eg_FL RX4 171 4 22 false := ⟨RX4, TX4, 33, rfl, by decide, rfl, (fun h => by cases h), Or.inl (eg_inT (i := 426) rfl rfl)⟩
set_option maxRecDepth 20000 in
theorem gf_RX4_140 : eg_FG RX4 140 4 23 := ⟨RX4, TX4, 33, rfl, by decide, Or.inl (eg_inT (i := 427) rfl rfl)⟩
set_option maxRecDepth 20000 in
theorem gp_RX4_140 : eg_FL RX4 140 4 23 false := ⟨RX4, TX4, 33, rfl, by decide, rfl, (fun h => by cases h), Or.inl (eg_inT (i := 427) rfl rfl)⟩
set_option maxRecDepth 20000 in
theorem gf_RX4_56 : eg_FG RX4 56 4 24 := ⟨RX4, TX4, 33, rfl, by decide, Or.inl (eg_inT (i := 428) rfl rfl)⟩
set_option maxRecDepth 20000 in
theorem gp_RX4_56 : eg_FL RX4 56 4 24 false := ⟨RX4, TX4, 33, rfl, by decide, rfl, (fun h => by cases h), Or.inl (eg_inT (i := 428) rfl rfl)⟩
set_option maxRecDepth 20000 in
theorem gf_RX4_59 : eg_FG RX4 59 4 25 := ⟨RX4, TX4, 33, rfl, by decide, Or.inl (eg_inT (i := 429) rfl rfl)⟩
set_option maxRecDepth 20000 in
theorem gp_RX4_59 : eg_FL RX4 59 4 25 true := ⟨RX4, TX4, 33, rfl, by decide, rfl, (fun _ => rfl), Or.inl (eg_inT (i := 429) rfl rfl)⟩
set_option maxRecDepth 20000 in
theorem gf_RX4_62 : eg_FG RX4 62 4 26 := ⟨RX4, TX4, 33, rfl, by decide, Or.inl (eg_inT (i := 430) rfl rfl)⟩
set_option maxRecDepth 20000 in
theorem gp_RX4_62 : eg_FL RX4 62 4 26 true := ⟨RX4, TX4, 33, rfl, by decide, rfl, (fun _ => rfl), Or.inl (eg_inT (i := 430) rfl rfl)⟩
set_option maxRecDepth 20000 in
theorem gf_RX4_65 : eg_FG RX4 65 4 27 := ⟨RX4, TX4, 33, rfl, by decide, Or.inl (eg_inT (i := 431) rfl rfl)⟩
set_option maxRecDepth 20000 in
theorem gp_RX4_65 : eg_FL RX4 65 4 27 true := ⟨RX4, TX4, 33, rfl, by decide, rfl, (fun _ => rfl), Or.inl (eg_inT (i := 431) rfl rfl)⟩
set_option maxRecDepth 20000 in
theorem gf_RX4_68 : eg_FG RX4 68 4 28 := ⟨RX4, TX4, 33, rfl, by decide, Or.inl (eg_inT (i := 432) rfl rfl)⟩
set_option maxRecDepth 20000 in
theorem gp_RX4_68 : eg_FL RX4 68 4 28 true := ⟨RX4, TX4, 33, rfl, by decide, rfl, (fun _ => rfl), Or.inl (eg_inT (i := 432) rfl rfl)⟩
set_option maxRecDepth 20000 in
theorem gf_RX4_143 : eg_FG RX4 143 4 29 := ⟨RX4, TX4, 33, rfl, by decide, Or.inl (eg_inT (i := 433) rfl rfl)⟩
set_option maxRecDepth 20000 in
theorem gp_RX4_143 : eg_FL RX4 143 4 29 false := ⟨RX4, TX4, 33, rfl, by decide, rfl, (fun h => by cases h), Or.inl (eg_inT (i := 433) rfl rfl)⟩
set_option maxRecDepth 20000 in
theorem gf_RX4_71 : eg_FG RX4 71 4 30 := ⟨RX4, TX4, 33, rfl, by decide, Or.inl (eg_inT (i := 434) rfl rfl)⟩
set_option maxRecDepth 20000 in
theorem gp_RX4_71 : eg_FL RX4 71 4 30 true := ⟨RX4, TX4, 33, rfl, by decide, rfl, (fun _ => rfl), Or.inl (eg_inT (i := 434) rfl rfl)⟩
set_option maxRecDepth 20000 in
theorem gf_RX4_74 : eg_FG RX4 74 4 31 := ⟨RX4, TX4, 33, rfl, by decide, Or.inl (eg_inT (i := 435) rfl rfl)⟩
set_option maxRecDepth 20000 in
theorem gp_RX4_74 : eg_FL RX4 74 4 31 true := ⟨RX4, TX4, 33, rfl, by decide, rfl, (fun _ => rfl), Or.inl (eg_inT (i := 435) rfl rfl)⟩
set_option maxRecDepth 20000 in
theorem gf_RX4_77 : eg_FG RX4 77 4 32 := ⟨RX4, TX4, 33, rfl, by decide, Or.inl (eg_inT (i := 436) rfl rfl)⟩
set_option maxRecDepth 20000 in
theorem gp_RX4_77 : eg_FL RX4 77 4 32 true := ⟨RX4, TX4, 33, rfl, by decide, rfl, (fun _ => rfl), Or.inl (eg_inT (i := 436) rfl rfl)⟩
set_option maxRecDepth 20000 in
theorem gl_RL_17 : Cond.methodLink RL 17 yX4_words ∈ eg_gw ∨ ∃ host, Cond.methodLinkNest RL 17 yX4_words host ∈ eg_nw := Or.inl (eg_inT (i := 504) rfl rfl)
set_option maxRecDepth 20000 in
theorem gl_RX4_101 : Cond.methodLink RX4 101 yX4_within ∈ eg_gw ∨ ∃ host, Cond.methodLinkNest RX4 101 yX4_within host ∈ eg_nw := Or.inl (eg_inT (i := 508) rfl rfl)
set_option maxRecDepth 20000 in
theorem gl_RL_22 : Cond.methodLink RL 22 yX4_constant ∈ eg_gw ∨ ∃ host, Cond.methodLinkNest RL 22 yX4_constant host ∈ eg_nw := Or.inl (eg_inT (i := 511) rfl rfl)
set_option maxRecDepth 20000 in
theorem gl_RL_26 : Cond.methodLink RL 26 yX4_cost ∈ eg_gw ∨ ∃ host, Cond.methodLinkNest RL 26 yX4_cost host ∈ eg_nw := Or.inl (eg_inT (i := 515) rfl rfl)
set_option maxRecDepth 20000 in
theorem gl_RL_30 : Cond.methodLink RL 30 yX4_target ∈ eg_gw ∨ ∃ host, Cond.methodLinkNest RL 30 yX4_target host ∈ eg_nw := Or.inl (eg_inT (i := 519) rfl rfl)
set_option maxRecDepth 20000 in
theorem gl_RX4_112 : Cond.methodLink RX4 112 yX4_isAssignment ∈ eg_gw ∨ ∃ host, Cond.methodLinkNest RX4 112 yX4_isAssignment host ∈ eg_nw := Or.inl (eg_inT (i := 523) rfl rfl)
set_option maxRecDepth 20000 in
theorem gl_RL_35 : Cond.methodLink RL 35 yX4_aim ∈ eg_gw ∨ ∃ host, Cond.methodLinkNest RL 35 yX4_aim host ∈ eg_nw := Or.inl (eg_inT (i := 527) rfl rfl)
set_option maxRecDepth 20000 in
theorem gl_RL_40 : Cond.methodLink RL 40 yX4_add ∈ eg_gw ∨ ∃ host, Cond.methodLinkNest RL 40 yX4_add host ∈ eg_nw := Or.inl (eg_inT (i := 531) rfl rfl)
set_option maxRecDepth 20000 in
theorem gl_RX4_119 : Cond.methodLink RX4 119 yX4_isValue ∈ eg_gw ∨ ∃ host, Cond.methodLinkNest RX4 119 yX4_isValue host ∈ eg_nw := Or.inl (eg_inT (i := 535) rfl rfl)
set_option maxRecDepth 20000 in
theorem gl_RX4_116 : Cond.methodLink RX4 116 yX4_all ∈ eg_gw ∨ ∃ host, Cond.methodLinkNest RX4 116 yX4_all host ∈ eg_nw := Or.inl (eg_inT (i := 539) rfl rfl)
set_option maxRecDepth 20000 in
theorem gl_RL_44 : Cond.methodLink RL 44 yX4_drop ∈ eg_gw ∨ ∃ host, Cond.methodLinkNest RL 44 yX4_drop host ∈ eg_nw := Or.inl (eg_inT (i := 543) rfl rfl)
set_option maxRecDepth 20000 in
theorem gl_RL_48 : Cond.methodLink RL 48 yX4_result ∈ eg_gw ∨ ∃ host, Cond.methodLinkNest RL 48 yX4_result host ∈ eg_nw := Or.inl (eg_inT (i := 547) rfl rfl)
set_option maxRecDepth 20000 in
theorem gl_RL_52 : Cond.methodLink RL 52 yX4_instruction ∈ eg_gw ∨ ∃ host, Cond.methodLinkNest RL 52 yX4_instruction host ∈ eg_nw := Or.inl (eg_inT (i := 551) rfl rfl)
set_option maxRecDepth 20000 in
theorem gl_RL_56 : Cond.methodLink RL 56 yX4_count ∈ eg_gw ∨ ∃ host, Cond.methodLinkNest RL 56 yX4_count host ∈ eg_nw := Or.inl (eg_inT (i := 555) rfl rfl)
set_option maxRecDepth 20000 in
theorem gl_RL_60 : Cond.methodLink RL 60 yX4_value ∈ eg_gw ∨ ∃ host, Cond.methodLinkNest RL 60 yX4_value host ∈ eg_nw := Or.inl (eg_inT (i := 559) rfl rfl)
set_option maxRecDepth 20000 in
theorem gl_RL_64 : Cond.methodLink RL 64 yX4_differ ∈ eg_gw ∨ ∃ host, Cond.methodLinkNest RL 64 yX4_differ host ∈ eg_nw := Or.inl (eg_inT (i := 563) rfl rfl)
set_option maxRecDepth 20000 in
theorem gl_RL_68 : Cond.methodLink RL 68 yX4_clean ∈ eg_gw ∨ ∃ host, Cond.methodLinkNest RL 68 yX4_clean host ∈ eg_nw := Or.inl (eg_inT (i := 567) rfl rfl)
set_option maxRecDepth 20000 in
theorem gl_RX4_130 : Cond.methodLink RX4 130 yX4_loseTwin ∈ eg_gw ∨ ∃ host, Cond.methodLinkNest RX4 130 yX4_loseTwin host ∈ eg_nw := Or.inl (eg_inT (i := 571) rfl rfl)
set_option maxRecDepth 20000 in
theorem gl_RX4_122 : Cond.methodLink RX4 122 yX4_isSame ∈ eg_gw ∨ ∃ host, Cond.methodLinkNest RX4 122 yX4_isSame host ∈ eg_nw := Or.inl (eg_inT (i := 575) rfl rfl)
set_option maxRecDepth 20000 in
theorem gl_RX4_126 : Cond.methodLink RX4 126 yX4_lose ∈ eg_gw ∨ ∃ host, Cond.methodLinkNest RX4 126 yX4_lose host ∈ eg_nw := Or.inl (eg_inT (i := 578) rfl rfl)
set_option maxRecDepth 20000 in
theorem gl_RX4_134 : Cond.methodLink RX4 134 yX4_loseIdle ∈ eg_gw ∨ ∃ host, Cond.methodLinkNest RX4 134 yX4_loseIdle host ∈ eg_nw := Or.inl (eg_inT (i := 582) rfl rfl)
set_option maxRecDepth 20000 in
theorem gl_RL_72 : Cond.methodLink RL 72 yX4_search ∈ eg_gw ∨ ∃ host, Cond.methodLinkNest RL 72 yX4_search host ∈ eg_nw := Or.inl (eg_inT (i := 586) rfl rfl)
set_option maxRecDepth 20000 in
theorem gl_RX4_155 : Cond.methodLink RX4 155 yX4_isTarget ∈ eg_gw ∨ ∃ host, Cond.methodLinkNest RX4 155 yX4_isTarget host ∈ eg_nw := Or.inl (eg_inT (i := 590) rfl rfl)
set_option maxRecDepth 20000 in
theorem gl_RX4_174 : Cond.methodLink RX4 174 yX4_round ∈ eg_gw ∨ ∃ host, Cond.methodLinkNest RX4 174 yX4_round host ∈ eg_nw := Or.inl (eg_inT (i := 594) rfl rfl)
set_option maxRecDepth 20000 in
theorem gl_RX4_146 : Cond.methodLink RX4 146 yX4_open ∈ eg_gw ∨ ∃ host, Cond.methodLinkNest RX4 146 yX4_open host ∈ eg_nw := Or.inl (eg_inT (i := 598) rfl rfl)
set_option maxRecDepth 20000 in
theorem gl_RX4_149 : Cond.methodLink RX4 149 yX4_advance ∈ eg_gw ∨ ∃ host, Cond.methodLinkNest RX4 149 yX4_advance host ∈ eg_nw := Or.inl (eg_inT (i := 602) rfl rfl)
set_option maxRecDepth 20000 in
theorem gl_RX4_137 : Cond.methodLink RX4 137 yX4_turns ∈ eg_gw ∨ ∃ host, Cond.methodLinkNest RX4 137 yX4_turns host ∈ eg_nw := Or.inl (eg_inT (i := 606) rfl rfl)
set_option maxRecDepth 20000 in
theorem gl_RX4_158 : Cond.methodLink RX4 158 yX4_note ∈ eg_gw ∨ ∃ host, Cond.methodLinkNest RX4 158 yX4_note host ∈ eg_nw := Or.inl (eg_inT (i := 609) rfl rfl)
set_option maxRecDepth 20000 in
theorem gl_RX4_162 : Cond.methodLink RX4 162 yX4_isNew ∈ eg_gw ∨ ∃ host, Cond.methodLinkNest RX4 162 yX4_isNew host ∈ eg_nw := Or.inl (eg_inT (i := 613) rfl rfl)
set_option maxRecDepth 20000 in
theorem gl_RX4_178 : Cond.methodLink RX4 178 yX4_keepFirst ∈ eg_gw ∨ ∃ host, Cond.methodLinkNest RX4 178 yX4_keepFirst host ∈ eg_nw := Or.inl (eg_inT (i := 617) rfl rfl)
set_option maxRecDepth 20000 in
theorem gl_RL_76 : Cond.methodLink RL 76 yX4_told ∈ eg_gw ∨ ∃ host, Cond.methodLinkNest RL 76 yX4_told host ∈ eg_nw := Or.inl (eg_inT (i := 621) rfl rfl)
set_option maxRecDepth 20000 in
theorem gl_RL_80 : Cond.methodLink RL 80 yX4_take ∈ eg_gw ∨ ∃ host, Cond.methodLinkNest RL 80 yX4_take host ∈ eg_nw := Or.inl (eg_inT (i := 625) rfl rfl)
