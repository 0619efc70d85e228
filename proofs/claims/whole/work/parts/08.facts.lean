theorem Y_X6_isBerth : gY yX6_isBerth cX6_isBerth 1 (some .boolean) 1 := ⟨w248, w1, ⟨by decide, by decide⟩, by decide +kernel⟩
theorem S_X6_isBerth : Cond.static yX6_isBerth ∈ gU := w247
theorem Y_X5_hasShip : gY yX5_hasShip cX5_hasShip 2 (some .boolean) 1 := ⟨w245, w2, ⟨by decide, by decide⟩, by decide +kernel⟩
theorem V_X5_hasShip : Cond.instanceMethod yX5_hasShip ∈ gU ∧ Cond.selects yX5_hasShip.cls yX5_hasShip yX5_hasShip ∈ gU := ⟨w243, sel_X5_hasShip⟩
theorem Y_X0_copyFrom : gY yX0_copyFrom cX0_copyFrom 2 none 1 := ⟨w434, w3, ⟨by decide, by decide⟩, by decide +kernel⟩
theorem V_X0_copyFrom : Cond.instanceMethod yX0_copyFrom ∈ gU ∧ Cond.selects yX0_copyFrom.cls yX0_copyFrom yX0_copyFrom ∈ gU := ⟨w432, sel_X0_copyFrom⟩
theorem Y_X1_stateAt : gY yX1_stateAt cX1_stateAt 2 (some (.object "ContainerTerminal$State")) 1 := ⟨w602, w4, ⟨by decide, by decide⟩, by decide +kernel⟩
theorem V_X1_stateAt : Cond.instanceMethod yX1_stateAt ∈ gU ∧ Cond.selects yX1_stateAt.cls yX1_stateAt yX1_stateAt ∈ gU := ⟨w601, sel_X1_stateAt⟩
theorem Y_X5_copyFrom : gY yX5_copyFrom cX5_copyFrom 2 none 1 := ⟨w430, w2, ⟨by decide, by decide⟩, by decide +kernel⟩
theorem V_X5_copyFrom : Cond.instanceMethod yX5_copyFrom ∈ gU ∧ Cond.selects yX5_copyFrom.cls yX5_copyFrom yX5_copyFrom ∈ gU := ⟨w428, sel_X5_copyFrom⟩
theorem Y_X5_mooringFault : gY yX5_mooringFault cX5_mooringFault 4 (some .int) 3 := ⟨w530, w2, ⟨by decide, by decide⟩, by decide +kernel⟩
theorem V_X5_mooringFault : Cond.instanceMethod yX5_mooringFault ∈ gU ∧ Cond.selects yX5_mooringFault.cls yX5_mooringFault yX5_mooringFault ∈ gU := ⟨w528, sel_X5_mooringFault⟩
theorem Y_X6_raise : gY yX6_raise cX6_raise 1 none 1 := ⟨w533, w1, ⟨by decide, by decide⟩, by decide +kernel⟩
theorem S_X6_raise : Cond.static yX6_raise ∈ gU := w532
theorem Y_X1_push : gY yX1_push cX1_push 3 none 1 := ⟨w598, w4, ⟨by decide, by decide⟩, by decide +kernel⟩
theorem V_X1_push : Cond.instanceMethod yX1_push ∈ gU ∧ Cond.selects yX1_push.cls yX1_push yX1_push ∈ gU := ⟨w596, sel_X1_push⟩
theorem Y_X5_putShip : gY yX5_putShip cX5_putShip 4 none 3 := ⟨w607, w2, ⟨by decide, by decide⟩, by decide +kernel⟩
theorem V_X5_putShip : Cond.instanceMethod yX5_putShip ∈ gU ∧ Cond.selects yX5_putShip.cls yX5_putShip yX5_putShip ∈ gU := ⟨w605, sel_X5_putShip⟩
theorem Y_X5_ships : gY yX5_ships cX5_ships 3 (some .int) 0 := ⟨w241, w2, ⟨by decide, by decide⟩, by decide +kernel⟩
theorem V_X5_ships : Cond.instanceMethod yX5_ships ∈ gU ∧ Cond.selects yX5_ships.cls yX5_ships yX5_ships ∈ gU := ⟨w239, sel_X5_ships⟩
theorem Y_X6_isStack : gY yX6_isStack cX6_isStack 1 (some .boolean) 1 := ⟨w621, w1, ⟨by decide, by decide⟩, by decide +kernel⟩
theorem S_X6_isStack : Cond.static yX6_isStack ∈ gU := w620
theorem Y_X6_pileOf : gY yX6_pileOf cX6_pileOf 2 (some .int) 2 := ⟨w363, w1, ⟨by decide, by decide⟩, by decide +kernel⟩
theorem S_X6_pileOf : Cond.static yX6_pileOf ∈ gU := w362
theorem Y_X0_height : gY yX0_height cX0_height 4 (some .int) 1 := ⟨w332, w3, ⟨by decide, by decide⟩, by decide +kernel⟩
theorem V_X0_height : Cond.instanceMethod yX0_height ∈ gU ∧ Cond.selects yX0_height.cls yX0_height yX0_height ∈ gU := ⟨w330, sel_X0_height⟩
theorem Y_X0_add : gY yX0_add cX0_add 6 none 4 := ⟨w631, w3, ⟨by decide, by decide⟩, by decide +kernel⟩
theorem V_X0_add : Cond.instanceMethod yX0_add ∈ gU ∧ Cond.selects yX0_add.cls yX0_add yX0_add ∈ gU := ⟨w629, sel_X0_add⟩
theorem Y_X5_stowingFault : gY yX5_stowingFault cX5_stowingFault 6 (some .int) 4 := ⟨w618, w2, ⟨by decide, by decide⟩, by decide +kernel⟩
theorem V_X5_stowingFault : Cond.instanceMethod yX5_stowingFault ∈ gU ∧ Cond.selects yX5_stowingFault.cls yX5_stowingFault yX5_stowingFault ∈ gU := ⟨w616, sel_X5_stowingFault⟩
theorem Y_X5_putContainer : gY yX5_putContainer cX5_putContainer 6 (some .int) 4 := ⟨w627, w2, ⟨by decide, by decide⟩, by decide +kernel⟩
theorem V_X5_putContainer : Cond.instanceMethod yX5_putContainer ∈ gU ∧ Cond.selects yX5_putContainer.cls yX5_putContainer yX5_putContainer ∈ gU := ⟨w625, sel_X5_putContainer⟩
theorem Y_X0_rowAt : gY yX0_rowAt cX0_rowAt 4 (some .int) 2 := ⟨w367, w3, ⟨by decide, by decide⟩, by decide +kernel⟩
theorem V_X0_rowAt : Cond.instanceMethod yX0_rowAt ∈ gU ∧ Cond.selects yX0_rowAt.cls yX0_rowAt yX0_rowAt ∈ gU := ⟨w365, sel_X0_rowAt⟩
theorem Y_X0_hasRow : gY yX0_hasRow cX0_hasRow 2 (some .boolean) 1 := ⟨w268, w3, ⟨by decide, by decide⟩, by decide +kernel⟩
theorem V_X0_hasRow : Cond.instanceMethod yX0_hasRow ∈ gU ∧ Cond.selects yX0_hasRow.cls yX0_hasRow yX0_hasRow ∈ gU := ⟨w267, sel_X0_hasRow⟩
theorem Y_X0_key : gY yX0_key cX0_key 2 (some .int) 1 := ⟨w292, w3, ⟨by decide, by decide⟩, by decide +kernel⟩
theorem V_X0_key : Cond.instanceMethod yX0_key ∈ gU ∧ Cond.selects yX0_key.cls yX0_key yX0_key ∈ gU := ⟨w290, sel_X0_key⟩
theorem Y_X0_weight : gY yX0_weight cX0_weight 2 (some .int) 1 := ⟨w308, w3, ⟨by decide, by decide⟩, by decide +kernel⟩
theorem V_X0_weight : Cond.instanceMethod yX0_weight ∈ gU ∧ Cond.selects yX0_weight.cls yX0_weight yX0_weight ∈ gU := ⟨w306, sel_X0_weight⟩
theorem Y_X0_topRow : gY yX0_topRow cX0_topRow 2 (some .int) 1 := ⟨w650, w3, ⟨by decide, by decide⟩, by decide +kernel⟩
theorem V_X0_topRow : Cond.instanceMethod yX0_topRow ∈ gU ∧ Cond.selects yX0_topRow.cls yX0_topRow yX0_topRow ∈ gU := ⟨w648, sel_X0_topRow⟩
theorem Y_X0_answer : gY yX0_answer cX0_answer 2 (some .int) 1 := ⟨w654, w3, ⟨by decide, by decide⟩, by decide +kernel⟩
theorem V_X0_answer : Cond.instanceMethod yX0_answer ∈ gU ∧ Cond.selects yX0_answer.cls yX0_answer yX0_answer ∈ gU := ⟨w652, sel_X0_answer⟩
theorem Y_X0_put : gY yX0_put cX0_put 3 none 2 := ⟨w662, w3, ⟨by decide, by decide⟩, by decide +kernel⟩
theorem V_X0_put : Cond.instanceMethod yX0_put ∈ gU ∧ Cond.selects yX0_put.cls yX0_put yX0_put ∈ gU := ⟨w660, sel_X0_put⟩
theorem Y_X5_countWrongAnswer : gY yX5_countWrongAnswer cX5_countWrongAnswer 2 none 1 := ⟨w658, w2, ⟨by decide, by decide⟩, by decide +kernel⟩
theorem V_X5_countWrongAnswer : Cond.instanceMethod yX5_countWrongAnswer ∈ gU ∧ Cond.selects yX5_countWrongAnswer.cls yX5_countWrongAnswer yX5_countWrongAnswer ∈ gU := ⟨w657, sel_X5_countWrongAnswer⟩
theorem Y_X5_clearingFault : gY yX5_clearingFault cX5_clearingFault 6 (some .int) 3 := ⟨w642, w2, ⟨by decide, by decide⟩, by decide +kernel⟩
theorem V_X5_clearingFault : Cond.instanceMethod yX5_clearingFault ∈ gU ∧ Cond.selects yX5_clearingFault.cls yX5_clearingFault yX5_clearingFault ∈ gU := ⟨w640, sel_X5_clearingFault⟩
theorem Y_X5_tryAnswer : gY yX5_tryAnswer cX5_tryAnswer 5 (some .boolean) 3 := ⟨w646, w2, ⟨by decide, by decide⟩, by decide +kernel⟩
theorem V_X5_tryAnswer : Cond.instanceMethod yX5_tryAnswer ∈ gU ∧ Cond.selects yX5_tryAnswer.cls yX5_tryAnswer yX5_tryAnswer ∈ gU := ⟨w644, sel_X5_tryAnswer⟩
theorem Y_X0_id : gY yX0_id cX0_id 2 (some .int) 1 := ⟨w414, w3, ⟨by decide, by decide⟩, by decide +kernel⟩
theorem V_X0_id : Cond.instanceMethod yX0_id ∈ gU ∧ Cond.selects yX0_id.cls yX0_id yX0_id ∈ gU := ⟨w412, sel_X0_id⟩
theorem Y_X5_movingFault : gY yX5_movingFault cX5_movingFault 6 (some .int) 3 := ⟨w673, w2, ⟨by decide, by decide⟩, by decide +kernel⟩
theorem V_X5_movingFault : Cond.instanceMethod yX5_movingFault ∈ gU ∧ Cond.selects yX5_movingFault.cls yX5_movingFault yX5_movingFault ∈ gU := ⟨w671, sel_X5_movingFault⟩
theorem Y_X5_shiftTop : gY yX5_shiftTop cX5_shiftTop 5 (some .int) 3 := ⟨w677, w2, ⟨by decide, by decide⟩, by decide +kernel⟩
theorem V_X5_shiftTop : Cond.instanceMethod yX5_shiftTop ∈ gU ∧ Cond.selects yX5_shiftTop.cls yX5_shiftTop yX5_shiftTop ∈ gU := ⟨w675, sel_X5_shiftTop⟩
theorem Y_X0_rowOf : gY yX0_rowOf cX0_rowOf 3 (some .int) 1 := ⟨w260, w3, ⟨by decide, by decide⟩, by decide +kernel⟩
theorem V_X0_rowOf : Cond.instanceMethod yX0_rowOf ∈ gU ∧ Cond.selects yX0_rowOf.cls yX0_rowOf yX0_rowOf ∈ gU := ⟨w258, sel_X0_rowOf⟩
theorem Y_X0_pile : gY yX0_pile cX0_pile 2 (some .int) 1 := ⟨w264, w3, ⟨by decide, by decide⟩, by decide +kernel⟩
theorem V_X0_pile : Cond.instanceMethod yX0_pile ∈ gU ∧ Cond.selects yX0_pile.cls yX0_pile yX0_pile ∈ gU := ⟨w262, sel_X0_pile⟩
theorem Y_X0_yardRowOf : gY yX0_yardRowOf cX0_yardRowOf 3 (some .int) 1 := ⟨w276, w3, ⟨by decide, by decide⟩, by decide +kernel⟩
theorem V_X0_yardRowOf : Cond.instanceMethod yX0_yardRowOf ∈ gU ∧ Cond.selects yX0_yardRowOf.cls yX0_yardRowOf yX0_yardRowOf ∈ gU := ⟨w274, sel_X0_yardRowOf⟩
theorem Y_X0_copyRow : gY yX0_copyRow cX0_copyRow 3 none 2 := ⟨w707, w3, ⟨by decide, by decide⟩, by decide +kernel⟩
theorem V_X0_copyRow : Cond.instanceMethod yX0_copyRow ∈ gU ∧ Cond.selects yX0_copyRow.cls yX0_copyRow yX0_copyRow ∈ gU := ⟨w706, sel_X0_copyRow⟩
theorem Y_X0_isAbove : gY yX0_isAbove cX0_isAbove 3 (some .boolean) 2 := ⟨w401, w3, ⟨by decide, by decide⟩, by decide +kernel⟩
theorem V_X0_isAbove : Cond.instanceMethod yX0_isAbove ∈ gU ∧ Cond.selects yX0_isAbove.cls yX0_isAbove yX0_isAbove ∈ gU := ⟨w400, sel_X0_isAbove⟩
theorem Y_X0_lower : gY yX0_lower cX0_lower 2 none 1 := ⟨w703, w3, ⟨by decide, by decide⟩, by decide +kernel⟩
theorem V_X0_lower : Cond.instanceMethod yX0_lower ∈ gU ∧ Cond.selects yX0_lower.cls yX0_lower yX0_lower ∈ gU := ⟨w702, sel_X0_lower⟩
theorem Y_X0_remove : gY yX0_remove cX0_remove 3 none 1 := ⟨w699, w3, ⟨by decide, by decide⟩, by decide +kernel⟩
theorem V_X0_remove : Cond.instanceMethod yX0_remove ∈ gU ∧ Cond.selects yX0_remove.cls yX0_remove yX0_remove ∈ gU := ⟨w697, sel_X0_remove⟩
theorem Y_X5_deliveringFault : gY yX5_deliveringFault cX5_deliveringFault 2 (some .int) 1 := ⟨w690, w2, ⟨by decide, by decide⟩, by decide +kernel⟩
theorem V_X5_deliveringFault : Cond.instanceMethod yX5_deliveringFault ∈ gU ∧ Cond.selects yX5_deliveringFault.cls yX5_deliveringFault yX5_deliveringFault ∈ gU := ⟨w688, sel_X5_deliveringFault⟩
theorem Y_X5_handOver : gY yX5_handOver cX5_handOver 2 none 1 := ⟨w695, w2, ⟨by decide, by decide⟩, by decide +kernel⟩
theorem V_X5_handOver : Cond.instanceMethod yX5_handOver ∈ gU ∧ Cond.selects yX5_handOver.cls yX5_handOver yX5_handOver ∈ gU := ⟨w693, sel_X5_handOver⟩
theorem Y_J9_floorMod_7cf53 : gY yJ9_floorMod_7cf53 cJ9_floorMod_7cf53 3 (some .int) 2 := ⟨w233, w19, ⟨by decide, by decide⟩, by decide +kernel⟩
theorem S_J9_floorMod_7cf53 : Cond.static yJ9_floorMod_7cf53 ∈ gU := w232
theorem Y_X6_tideAt : gY yX6_tideAt cX6_tideAt 2 (some .int) 1 := ⟨w230, w1, ⟨by decide, by decide⟩, by decide +kernel⟩
theorem S_X6_tideAt : Cond.static yX6_tideAt ∈ gU := w229
theorem Y_X0_loadOf : gY yX0_loadOf cX0_loadOf 4 (some .int) 1 := ⟨w722, w3, ⟨by decide, by decide⟩, by decide +kernel⟩
theorem V_X0_loadOf : Cond.instanceMethod yX0_loadOf ∈ gU ∧ Cond.selects yX0_loadOf.cls yX0_loadOf yX0_loadOf ∈ gU := ⟨w720, sel_X0_loadOf⟩
theorem Y_X5_floatsAfter : gY yX5_floatsAfter cX5_floatsAfter 3 (some .boolean) 2 := ⟨w383, w2, ⟨by decide, by decide⟩, by decide +kernel⟩
theorem V_X5_floatsAfter : Cond.instanceMethod yX5_floatsAfter ∈ gU ∧ Cond.selects yX5_floatsAfter.cls yX5_floatsAfter yX5_floatsAfter ∈ gU := ⟨w381, sel_X5_floatsAfter⟩
theorem Y_X5_leavingFault : gY yX5_leavingFault cX5_leavingFault 3 (some .int) 1 := ⟨w718, w2, ⟨by decide, by decide⟩, by decide +kernel⟩
theorem V_X5_leavingFault : Cond.instanceMethod yX5_leavingFault ∈ gU ∧ Cond.selects yX5_leavingFault.cls yX5_leavingFault yX5_leavingFault ∈ gU := ⟨w716, sel_X5_leavingFault⟩
theorem Y_X5_takeShip : gY yX5_takeShip cX5_takeShip 2 none 1 := ⟨w726, w2, ⟨by decide, by decide⟩, by decide +kernel⟩
theorem V_X5_takeShip : Cond.instanceMethod yX5_takeShip ∈ gU ∧ Cond.selects yX5_takeShip.cls yX5_takeShip yX5_takeShip ∈ gU := ⟨w724, sel_X5_takeShip⟩
theorem Y_X5_letHourPass : gY yX5_letHourPass cX5_letHourPass 3 (some .int) 0 := ⟨w744, w2, ⟨by decide, by decide⟩, by decide +kernel⟩
theorem V_X5_letHourPass : Cond.instanceMethod yX5_letHourPass ∈ gU ∧ Cond.selects yX5_letHourPass.cls yX5_letHourPass yX5_letHourPass ∈ gU := ⟨w743, sel_X5_letHourPass⟩
theorem Y_X6_passingFault : gY yX6_passingFault cX6_passingFault 1 (some .int) 1 := ⟨w736, w1, ⟨by decide, by decide⟩, by decide +kernel⟩
theorem S_X6_passingFault : Cond.static yX6_passingFault ∈ gU := w735
theorem Y_X5_letHoursPass : gY yX5_letHoursPass cX5_letHoursPass 4 (some .int) 1 := ⟨w740, w2, ⟨by decide, by decide⟩, by decide +kernel⟩
theorem V_X5_letHoursPass : Cond.instanceMethod yX5_letHoursPass ∈ gU ∧ Cond.selects yX5_letHoursPass.cls yX5_letHoursPass yX5_letHoursPass ∈ gU := ⟨w738, sel_X5_letHoursPass⟩
theorem Y_X6_requireBerth : gY yX6_requireBerth cX6_requireBerth 1 none 1 := ⟨w754, w1, ⟨by decide, by decide⟩, by decide +kernel⟩
theorem S_X6_requireBerth : Cond.static yX6_requireBerth ∈ gU := w753
theorem Y_X6_requireShip : gY yX6_requireShip cX6_requireShip 2 none 1 := ⟨w767, w1, ⟨by decide, by decide⟩, by decide +kernel⟩
theorem V_X6_requireShip : Cond.instanceMethod yX6_requireShip ∈ gU ∧ Cond.selects yX6_requireShip.cls yX6_requireShip yX6_requireShip ∈ gU := ⟨w766, sel_X6_requireShip⟩
theorem Y_X5_waitHourByHour : gY yX5_waitHourByHour cX5_waitHourByHour 3 (some .int) 1 := ⟨w379, w2, ⟨by decide, by decide⟩, by decide +kernel⟩
theorem V_X5_waitHourByHour : Cond.instanceMethod yX5_waitHourByHour ∈ gU ∧ Cond.selects yX5_waitHourByHour.cls yX5_waitHourByHour yX5_waitHourByHour ∈ gU := ⟨w377, sel_X5_waitHourByHour⟩
theorem Y_X5_waitByTide : gY yX5_waitByTide cX5_waitByTide 4 (some .int) 1 := ⟨w388, w2, ⟨by decide, by decide⟩, by decide +kernel⟩
theorem V_X5_waitByTide : Cond.instanceMethod yX5_waitByTide ∈ gU ∧ Cond.selects yX5_waitByTide.cls yX5_waitByTide yX5_waitByTide ∈ gU := ⟨w386, sel_X5_waitByTide⟩
theorem Y_X5_dueAt : gY yX5_dueAt cX5_dueAt 2 (some .int) 1 := ⟨w817, w2, ⟨by decide, by decide⟩, by decide +kernel⟩
theorem V_X5_dueAt : Cond.instanceMethod yX5_dueAt ∈ gU ∧ Cond.selects yX5_dueAt.cls yX5_dueAt yX5_dueAt ∈ gU := ⟨w816, sel_X5_dueAt⟩
theorem Y_X5_isMoreUrgent : gY yX5_isMoreUrgent cX5_isMoreUrgent 3 (some .boolean) 2 := ⟨w813, w2, ⟨by decide, by decide⟩, by decide +kernel⟩
theorem V_X5_isMoreUrgent : Cond.instanceMethod yX5_isMoreUrgent ∈ gU ∧ Cond.selects yX5_isMoreUrgent.cls yX5_isMoreUrgent yX5_isMoreUrgent ∈ gU := ⟨w812, sel_X5_isMoreUrgent⟩
theorem Y_X5_urgentBerth : gY yX5_urgentBerth cX5_urgentBerth 3 (some .int) 0 := ⟨w809, w2, ⟨by decide, by decide⟩, by decide +kernel⟩
theorem V_X5_urgentBerth : Cond.instanceMethod yX5_urgentBerth ∈ gU ∧ Cond.selects yX5_urgentBerth.cls yX5_urgentBerth yX5_urgentBerth ∈ gU := ⟨w807, sel_X5_urgentBerth⟩
theorem Y_X6_requireStack : gY yX6_requireStack cX6_requireStack 3 none 2 := ⟨w850, w1, ⟨by decide, by decide⟩, by decide +kernel⟩
theorem V_X6_requireStack : Cond.instanceMethod yX6_requireStack ∈ gU ∧ Cond.selects yX6_requireStack.cls yX6_requireStack yX6_requireStack ∈ gU := ⟨w849, sel_X6_requireStack⟩
theorem Y_X6_found : gY yX6_found cX6_found 1 (some .int) 1 := ⟨w863, w1, ⟨by decide, by decide⟩, by decide +kernel⟩
theorem S_X6_found : Cond.static yX6_found ∈ gU := w862
theorem Y_X0_weightByStacks : gY yX0_weightByStacks cX0_weightByStacks 6 (some .int) 1 := ⟨w360, w3, ⟨by decide, by decide⟩, by decide +kernel⟩
theorem V_X0_weightByStacks : Cond.instanceMethod yX0_weightByStacks ∈ gU ∧ Cond.selects yX0_weightByStacks.cls yX0_weightByStacks yX0_weightByStacks ∈ gU := ⟨w358, sel_X0_weightByStacks⟩
theorem Y_X0_isAt : gY yX0_isAt cX0_isAt 3 (some .boolean) 2 := ⟨w375, w3, ⟨by decide, by decide⟩, by decide +kernel⟩
theorem V_X0_isAt : Cond.instanceMethod yX0_isAt ∈ gU ∧ Cond.selects yX0_isAt.cls yX0_isAt yX0_isAt ∈ gU := ⟨w374, sel_X0_isAt⟩
theorem Y_X0_weightByIds : gY yX0_weightByIds cX0_weightByIds 4 (some .int) 1 := ⟨w371, w3, ⟨by decide, by decide⟩, by decide +kernel⟩
theorem V_X0_weightByIds : Cond.instanceMethod yX0_weightByIds ∈ gU ∧ Cond.selects yX0_weightByIds.cls yX0_weightByIds yX0_weightByIds ∈ gU := ⟨w369, sel_X0_weightByIds⟩
theorem Y_X0_shipRowOf : gY yX0_shipRowOf cX0_shipRowOf 3 (some .int) 1 := ⟨w256, w3, ⟨by decide, by decide⟩, by decide +kernel⟩
theorem V_X0_shipRowOf : Cond.instanceMethod yX0_shipRowOf ∈ gU ∧ Cond.selects yX0_shipRowOf.cls yX0_shipRowOf yX0_shipRowOf ∈ gU := ⟨w254, sel_X0_shipRowOf⟩
theorem Y_X0_level : gY yX0_level cX0_level 2 (some .int) 1 := ⟨w947, w3, ⟨by decide, by decide⟩, by decide +kernel⟩
theorem V_X0_level : Cond.instanceMethod yX0_level ∈ gU ∧ Cond.selects yX0_level.cls yX0_level yX0_level ∈ gU := ⟨w945, sel_X0_level⟩
theorem Y_X0_countAbove : gY yX0_countAbove cX0_countAbove 4 (some .int) 1 := ⟨w397, w3, ⟨by decide, by decide⟩, by decide +kernel⟩
theorem V_X0_countAbove : Cond.instanceMethod yX0_countAbove ∈ gU ∧ Cond.selects yX0_countAbove.cls yX0_countAbove yX0_countAbove ∈ gU := ⟨w395, sel_X0_countAbove⟩
theorem Y_X0_copyStack : gY yX0_copyStack cX0_copyStack 4 (some .int) 1 := ⟨w409, w3, ⟨by decide, by decide⟩, by decide +kernel⟩
theorem V_X0_copyStack : Cond.instanceMethod yX0_copyStack ∈ gU ∧ Cond.selects yX0_copyStack.cls yX0_copyStack yX0_copyStack ∈ gU := ⟨w408, sel_X0_copyStack⟩
theorem Y_X0_digOnCopy : gY yX0_digOnCopy cX0_digOnCopy 4 (some .int) 1 := ⟨w405, w3, ⟨by decide, by decide⟩, by decide +kernel⟩
theorem V_X0_digOnCopy : Cond.instanceMethod yX0_digOnCopy ∈ gU ∧ Cond.selects yX0_digOnCopy.cls yX0_digOnCopy yX0_digOnCopy ∈ gU := ⟨w403, sel_X0_digOnCopy⟩
theorem Y_X0_heaviestRowAbove : gY yX0_heaviestRowAbove cX0_heaviestRowAbove 4 (some .int) 1 := ⟨w974, w3, ⟨by decide, by decide⟩, by decide +kernel⟩
theorem V_X0_heaviestRowAbove : Cond.instanceMethod yX0_heaviestRowAbove ∈ gU ∧ Cond.selects yX0_heaviestRowAbove.cls yX0_heaviestRowAbove yX0_heaviestRowAbove ∈ gU := ⟨w972, sel_X0_heaviestRowAbove⟩
theorem Y_X0_rankOf : gY yX0_rankOf cX0_rankOf 5 (some .int) 1 := ⟨w989, w3, ⟨by decide, by decide⟩, by decide +kernel⟩
theorem V_X0_rankOf : Cond.instanceMethod yX0_rankOf ∈ gU ∧ Cond.selects yX0_rankOf.cls yX0_rankOf yX0_rankOf ∈ gU := ⟨w988, sel_X0_rankOf⟩
theorem Y_X0_rowByWeight : gY yX0_rowByWeight cX0_rowByWeight 3 (some .int) 1 := ⟨w985, w3, ⟨by decide, by decide⟩, by decide +kernel⟩
theorem V_X0_rowByWeight : Cond.instanceMethod yX0_rowByWeight ∈ gU ∧ Cond.selects yX0_rowByWeight.cls yX0_rowByWeight yX0_rowByWeight ∈ gU := ⟨w983, sel_X0_rowByWeight⟩
theorem Y_X0_lowestStack : gY yX0_lowestStack cX0_lowestStack 4 (some .int) 1 := ⟨w1000, w3, ⟨by decide, by decide⟩, by decide +kernel⟩
theorem V_X0_lowestStack : Cond.instanceMethod yX0_lowestStack ∈ gU ∧ Cond.selects yX0_lowestStack.cls yX0_lowestStack yX0_lowestStack ∈ gU := ⟨w998, sel_X0_lowestStack⟩
theorem Y_X0_heavyOverLightPairs : gY yX0_heavyOverLightPairs cX0_heavyOverLightPairs 5 (some .int) 1 := ⟨w1011, w3, ⟨by decide, by decide⟩, by decide +kernel⟩
theorem V_X0_heavyOverLightPairs : Cond.instanceMethod yX0_heavyOverLightPairs ∈ gU ∧ Cond.selects yX0_heavyOverLightPairs.cls yX0_heavyOverLightPairs yX0_heavyOverLightPairs ∈ gU := ⟨w1009, sel_X0_heavyOverLightPairs⟩
theorem Y_X0_isFirstWithKey : gY yX0_isFirstWithKey cX0_isFirstWithKey 3 (some .boolean) 1 := ⟨w288, w3, ⟨by decide, by decide⟩, by decide +kernel⟩
theorem V_X0_isFirstWithKey : Cond.instanceMethod yX0_isFirstWithKey ∈ gU ∧ Cond.selects yX0_isFirstWithKey.cls yX0_isFirstWithKey yX0_isFirstWithKey ∈ gU := ⟨w287, sel_X0_isFirstWithKey⟩
theorem Y_X0_countKeys : gY yX0_countKeys cX0_countKeys 3 (some .int) 0 := ⟨w284, w3, ⟨by decide, by decide⟩, by decide +kernel⟩
theorem V_X0_countKeys : Cond.instanceMethod yX0_countKeys ∈ gU ∧ Cond.selects yX0_countKeys.cls yX0_countKeys yX0_countKeys ∈ gU := ⟨w282, sel_X0_countKeys⟩
theorem Y_X0_areTwins : gY yX0_areTwins cX0_areTwins 3 (some .boolean) 2 := ⟨w304, w3, ⟨by decide, by decide⟩, by decide +kernel⟩
theorem V_X0_areTwins : Cond.instanceMethod yX0_areTwins ∈ gU ∧ Cond.selects yX0_areTwins.cls yX0_areTwins yX0_areTwins ∈ gU := ⟨w303, sel_X0_areTwins⟩
theorem Y_X0_twinsByPairs : gY yX0_twinsByPairs cX0_twinsByPairs 4 (some .int) 0 := ⟨w300, w3, ⟨by decide, by decide⟩, by decide +kernel⟩
theorem V_X0_twinsByPairs : Cond.instanceMethod yX0_twinsByPairs ∈ gU ∧ Cond.selects yX0_twinsByPairs.cls yX0_twinsByPairs yX0_twinsByPairs ∈ gU := ⟨w298, sel_X0_twinsByPairs⟩
theorem Y_X0_startsGroup : gY yX0_startsGroup cX0_startsGroup 3 (some .boolean) 1 := ⟨w320, w3, ⟨by decide, by decide⟩, by decide +kernel⟩
theorem V_X0_startsGroup : Cond.instanceMethod yX0_startsGroup ∈ gU ∧ Cond.selects yX0_startsGroup.cls yX0_startsGroup yX0_startsGroup ∈ gU := ⟨w319, sel_X0_startsGroup⟩
theorem Y_X0_groupSize : gY yX0_groupSize cX0_groupSize 4 (some .int) 1 := ⟨w324, w3, ⟨by decide, by decide⟩, by decide +kernel⟩
theorem V_X0_groupSize : Cond.instanceMethod yX0_groupSize ∈ gU ∧ Cond.selects yX0_groupSize.cls yX0_groupSize yX0_groupSize ∈ gU := ⟨w323, sel_X0_groupSize⟩
theorem Y_X0_twinsInGroups : gY yX0_twinsInGroups cX0_twinsInGroups 4 (some .int) 0 := ⟨w316, w3, ⟨by decide, by decide⟩, by decide +kernel⟩
theorem V_X0_twinsInGroups : Cond.instanceMethod yX0_twinsInGroups ∈ gU ∧ Cond.selects yX0_twinsInGroups.cls yX0_twinsInGroups yX0_twinsInGroups ∈ gU := ⟨w314, sel_X0_twinsInGroups⟩
theorem Y_X0_onShips : gY yX0_onShips cX0_onShips 1 (some .int) 0 := ⟨w418, w3, ⟨by decide, by decide⟩, by decide +kernel⟩
theorem V_X0_onShips : Cond.instanceMethod yX0_onShips ∈ gU ∧ Cond.selects yX0_onShips.cls yX0_onShips yX0_onShips ∈ gU := ⟨w416, sel_X0_onShips⟩
theorem Y_X5_shipsAgree : gY yX5_shipsAgree cX5_shipsAgree 4 (some .boolean) 0 := ⟨w356, w2, ⟨by decide, by decide⟩, by decide +kernel⟩
theorem V_X5_shipsAgree : Cond.instanceMethod yX5_shipsAgree ∈ gU ∧ Cond.selects yX5_shipsAgree.cls yX5_shipsAgree yX5_shipsAgree ∈ gU := ⟨w354, sel_X5_shipsAgree⟩
theorem Y_X0_digsAgree : gY yX0_digsAgree cX0_digsAgree 2 (some .boolean) 0 := ⟨w393, w3, ⟨by decide, by decide⟩, by decide +kernel⟩
theorem V_X0_digsAgree : Cond.instanceMethod yX0_digsAgree ∈ gU ∧ Cond.selects yX0_digsAgree.cls yX0_digsAgree yX0_digsAgree ∈ gU := ⟨w391, sel_X0_digsAgree⟩
theorem Y_X3_put : gY yX3_put cX3_put 2 none 1 := ⟨w1073, w7, ⟨by decide, by decide⟩, by decide +kernel⟩
theorem V_X3_put : Cond.instanceMethod yX3_put ∈ gU ∧ Cond.selects yX3_put.cls yX3_put yX3_put ∈ gU := ⟨w1072, sel_X3_put⟩
theorem Y_X3_putNumber : gY yX3_putNumber cX3_putNumber 3 none 1 := ⟨w1078, w7, ⟨by decide, by decide⟩, by decide +kernel⟩
theorem V_X3_putNumber : Cond.instanceMethod yX3_putNumber ∈ gU ∧ Cond.selects yX3_putNumber.cls yX3_putNumber yX3_putNumber ∈ gU := ⟨w1077, sel_X3_putNumber⟩
theorem Y_X3_writeStack : gY yX3_writeStack cX3_writeStack 6 none 2 := ⟨w1067, w7, ⟨by decide, by decide⟩, by decide +kernel⟩
theorem V_X3_writeStack : Cond.instanceMethod yX3_writeStack ∈ gU ∧ Cond.selects yX3_writeStack.cls yX3_writeStack yX3_writeStack ∈ gU := ⟨w1065, sel_X3_writeStack⟩
theorem Y_X3_putPart : gY yX3_putPart cX3_putPart 3 none 2 := ⟨w1097, w7, ⟨by decide, by decide⟩, by decide +kernel⟩
theorem V_X3_putPart : Cond.instanceMethod yX3_putPart ∈ gU ∧ Cond.selects yX3_putPart.cls yX3_putPart yX3_putPart ∈ gU := ⟨w1096, sel_X3_putPart⟩
theorem Y_X3_writeBerth : gY yX3_writeBerth cX3_writeBerth 3 none 2 := ⟨w1092, w7, ⟨by decide, by decide⟩, by decide +kernel⟩
theorem V_X3_writeBerth : Cond.instanceMethod yX3_writeBerth ∈ gU ∧ Cond.selects yX3_writeBerth.cls yX3_writeBerth yX3_writeBerth ∈ gU := ⟨w1090, sel_X3_writeBerth⟩
theorem Y_X3_hasIndex : gY yX3_hasIndex cX3_hasIndex 2 (some .boolean) 1 := ⟨w1109, w7, ⟨by decide, by decide⟩, by decide +kernel⟩
theorem V_X3_hasIndex : Cond.instanceMethod yX3_hasIndex ∈ gU ∧ Cond.selects yX3_hasIndex.cls yX3_hasIndex yX3_hasIndex ∈ gU := ⟨w1107, sel_X3_hasIndex⟩
theorem Y_X2_take : gY yX2_take cX2_take 2 none 1 := ⟨w1123, w6, ⟨by decide, by decide⟩, by decide +kernel⟩
theorem V_X2_take : Cond.instanceMethod yX2_take ∈ gU ∧ Cond.selects yX2_take.cls yX2_take yX2_take ∈ gU := ⟨w1121, sel_X2_take⟩
theorem Y_X2_nextChar : gY yX2_nextChar cX2_nextChar 1 (some .char) 0 := ⟨w1142, w6, ⟨by decide, by decide⟩, by decide +kernel⟩
theorem V_X2_nextChar : Cond.instanceMethod yX2_nextChar ∈ gU ∧ Cond.selects yX2_nextChar.cls yX2_nextChar yX2_nextChar ∈ gU := ⟨w1141, sel_X2_nextChar⟩
theorem Y_X4_isRow : gY yX4_isRow cX4_isRow 1 (some .boolean) 1 := ⟨w1157, w5, ⟨by decide, by decide⟩, by decide +kernel⟩
theorem S_X4_isRow : Cond.static yX4_isRow ∈ gU := w1156
theorem Y_X2_read : gY yX2_read cX2_read 2 (some .boolean) 1 := ⟨w1146, w6, ⟨by decide, by decide⟩, by decide +kernel⟩
theorem V_X2_read : Cond.instanceMethod yX2_read ∈ gU ∧ Cond.selects yX2_read.cls yX2_read yX2_read ∈ gU := ⟨w1145, sel_X2_read⟩
theorem Y_X4_isPlace : gY yX4_isPlace cX4_isPlace 1 (some .boolean) 1 := ⟨w1225, w5, ⟨by decide, by decide⟩, by decide +kernel⟩
theorem S_X4_isPlace : Cond.static yX4_isPlace ∈ gU := w1224
theorem Y_X2_nextIsDigit : gY yX2_nextIsDigit cX2_nextIsDigit 1 (some .boolean) 0 := ⟨w1218, w6, ⟨by decide, by decide⟩, by decide +kernel⟩
theorem V_X2_nextIsDigit : Cond.instanceMethod yX2_nextIsDigit ∈ gU ∧ Cond.selects yX2_nextIsDigit.cls yX2_nextIsDigit yX2_nextIsDigit ∈ gU := ⟨w1217, sel_X2_nextIsDigit⟩
theorem Y_X4_keep : gY yX4_keep cX4_keep 3 none 2 := ⟨w1222, w5, ⟨by decide, by decide⟩, by decide +kernel⟩
theorem V_X4_keep : Cond.instanceMethod yX4_keep ∈ gU ∧ Cond.selects yX4_keep.cls yX4_keep yX4_keep ∈ gU := ⟨w1220, sel_X4_keep⟩
theorem Y_X4_begin : gY yX4_begin cX4_begin 2 none 1 := ⟨w1154, w5, ⟨by decide, by decide⟩, by decide +kernel⟩
theorem V_X4_begin : Cond.instanceMethod yX4_begin ∈ gU ∧ Cond.selects yX4_begin.cls yX4_begin yX4_begin ∈ gU := ⟨w1152, sel_X4_begin⟩
theorem Y_X2_readWord : gY yX2_readWord cX2_readWord 3 (some .boolean) 1 := ⟨w1162, w6, ⟨by decide, by decide⟩, by decide +kernel⟩
theorem V_X2_readWord : Cond.instanceMethod yX2_readWord ∈ gU ∧ Cond.selects yX2_readWord.cls yX2_readWord yX2_readWord ∈ gU := ⟨w1161, sel_X2_readWord⟩
theorem Y_X2_readDigit : gY yX2_readDigit cX2_readDigit 3 (some .boolean) 2 := ⟨w1214, w6, ⟨by decide, by decide⟩, by decide +kernel⟩
theorem V_X2_readDigit : Cond.instanceMethod yX2_readDigit ∈ gU ∧ Cond.selects yX2_readDigit.cls yX2_readDigit yX2_readDigit ∈ gU := ⟨w1213, sel_X2_readDigit⟩
theorem Y_X2_readNumber : gY yX2_readNumber cX2_readNumber 5 (some .boolean) 2 := ⟨w1234, w6, ⟨by decide, by decide⟩, by decide +kernel⟩
theorem V_X2_readNumber : Cond.instanceMethod yX2_readNumber ∈ gU ∧ Cond.selects yX2_readNumber.cls yX2_readNumber yX2_readNumber ∈ gU := ⟨w1233, sel_X2_readNumber⟩
theorem Y_X2_readClear : gY yX2_readClear cX2_readClear 2 (some .boolean) 1 := ⟨w1243, w6, ⟨by decide, by decide⟩, by decide +kernel⟩
theorem V_X2_readClear : Cond.instanceMethod yX2_readClear ∈ gU ∧ Cond.selects yX2_readClear.cls yX2_readClear yX2_readClear ∈ gU := ⟨w1242, sel_X2_readClear⟩
theorem Y_X2_readMoor : gY yX2_readMoor cX2_readMoor 2 (some .boolean) 1 := ⟨w1229, w6, ⟨by decide, by decide⟩, by decide +kernel⟩
theorem V_X2_readMoor : Cond.instanceMethod yX2_readMoor ∈ gU ∧ Cond.selects yX2_readMoor.cls yX2_readMoor yX2_readMoor ∈ gU := ⟨w1228, sel_X2_readMoor⟩
theorem Y_X2_readMove : gY yX2_readMove cX2_readMove 2 (some .boolean) 1 := ⟨w1150, w6, ⟨by decide, by decide⟩, by decide +kernel⟩
theorem V_X2_readMove : Cond.instanceMethod yX2_readMove ∈ gU ∧ Cond.selects yX2_readMove.cls yX2_readMove yX2_readMove ∈ gU := ⟨w1149, sel_X2_readMove⟩
theorem Y_X2_readStow : gY yX2_readStow cX2_readStow 2 (some .boolean) 1 := ⟨w1238, w6, ⟨by decide, by decide⟩, by decide +kernel⟩
theorem V_X2_readStow : Cond.instanceMethod yX2_readStow ∈ gU ∧ Cond.selects yX2_readStow.cls yX2_readStow yX2_readStow ∈ gU := ⟨w1237, sel_X2_readStow⟩
theorem Y_X2_readCommand : gY yX2_readCommand cX2_readCommand 2 (some .boolean) 1 := ⟨w1138, w6, ⟨by decide, by decide⟩, by decide +kernel⟩
theorem V_X2_readCommand : Cond.instanceMethod yX2_readCommand ∈ gU ∧ Cond.selects yX2_readCommand.cls yX2_readCommand yX2_readCommand ∈ gU := ⟨w1137, sel_X2_readCommand⟩
theorem Y_X4_given : gY yX4_given cX4_given 3 (some .int) 2 := ⟨w1260, w5, ⟨by decide, by decide⟩, by decide +kernel⟩
theorem V_X4_given : Cond.instanceMethod yX4_given ∈ gU ∧ Cond.selects yX4_given.cls yX4_given yX4_given ∈ gU := ⟨w1259, sel_X4_given⟩
theorem Y_X4_kind : gY yX4_kind cX4_kind 2 (some .int) 1 := ⟨w1264, w5, ⟨by decide, by decide⟩, by decide +kernel⟩
theorem V_X4_kind : Cond.instanceMethod yX4_kind ∈ gU ∧ Cond.selects yX4_kind.cls yX4_kind yX4_kind ∈ gU := ⟨w1263, sel_X4_kind⟩
theorem Y_X4_faultOf : gY yX4_faultOf cX4_faultOf 6 (some .int) 2 := ⟨w1256, w5, ⟨by decide, by decide⟩, by decide +kernel⟩
theorem V_X4_faultOf : Cond.instanceMethod yX4_faultOf ∈ gU ∧ Cond.selects yX4_faultOf.cls yX4_faultOf yX4_faultOf ∈ gU := ⟨w1255, sel_X4_faultOf⟩
theorem Y_X4_carryOut : gY yX4_carryOut cX4_carryOut 6 none 2 := ⟨w1275, w5, ⟨by decide, by decide⟩, by decide +kernel⟩
theorem V_X4_carryOut : Cond.instanceMethod yX4_carryOut ∈ gU ∧ Cond.selects yX4_carryOut.cls yX4_carryOut yX4_carryOut ∈ gU := ⟨w1274, sel_X4_carryOut⟩
theorem Y_X2_readInto : gY yX2_readInto cX2_readInto 3 (some .boolean) 1 := ⟨w1134, w6, ⟨by decide, by decide⟩, by decide +kernel⟩
theorem V_X2_readInto : Cond.instanceMethod yX2_readInto ∈ gU ∧ Cond.selects yX2_readInto.cls yX2_readInto yX2_readInto ∈ gU := ⟨w1132, sel_X2_readInto⟩
theorem Y_X4_firstFailureOn : gY yX4_firstFailureOn cX4_firstFailureOn 3 (some .int) 1 := ⟨w1252, w5, ⟨by decide, by decide⟩, by decide +kernel⟩
theorem V_X4_firstFailureOn : Cond.instanceMethod yX4_firstFailureOn ∈ gU ∧ Cond.selects yX4_firstFailureOn.cls yX4_firstFailureOn yX4_firstFailureOn ∈ gU := ⟨w1250, sel_X4_firstFailureOn⟩
theorem Y_X1_popInto : gY yX1_popInto cX1_popInto 4 none 1 := ⟨w1309, w4, ⟨by decide, by decide⟩, by decide +kernel⟩
theorem V_X1_popInto : Cond.instanceMethod yX1_popInto ∈ gU ∧ Cond.selects yX1_popInto.cls yX1_popInto yX1_popInto ∈ gU := ⟨w1307, sel_X1_popInto⟩
theorem Y_X7_copy : gY yX7_copy cX7_copy 5 none 4 := ⟨w1390, w8, ⟨by decide, by decide⟩, by decide +kernel⟩
theorem S_X7_copy : Cond.static yX7_copy ∈ gU := w1389
theorem Y_X7_in : gY yX7_in cX7_in 3 (some .boolean) 3 := ⟨w1400, w8, ⟨by decide, by decide⟩, by decide +kernel⟩
theorem S_X7_in : Cond.static yX7_in ∈ gU := w1399
theorem Y_X7_isBerth : gY yX7_isBerth cX7_isBerth 1 (some .boolean) 1 := ⟨w1397, w8, ⟨by decide, by decide⟩, by decide +kernel⟩
theorem S_X7_isBerth : Cond.static yX7_isBerth ∈ gU := w1396
theorem Y_X7_isFull : gY yX7_isFull cX7_isFull 2 (some .boolean) 1 := ⟨w1605, w8, ⟨by decide, by decide⟩, by decide +kernel⟩
theorem V_X7_isFull : Cond.instanceMethod yX7_isFull ∈ gU ∧ Cond.selects yX7_isFull.cls yX7_isFull yX7_isFull ∈ gU := ⟨w1604, sel_X7_isFull⟩
theorem Y_X7_height : gY yX7_height cX7_height 3 (some .int) 2 := ⟨w1431, w8, ⟨by decide, by decide⟩, by decide +kernel⟩
theorem V_X7_height : Cond.instanceMethod yX7_height ∈ gU ∧ Cond.selects yX7_height.cls yX7_height yX7_height ∈ gU := ⟨w1430, sel_X7_height⟩
theorem Y_X7_fails : gY yX7_fails cX7_fails 2 (some .int) 1 := ⟨w1404, w8, ⟨by decide, by decide⟩, by decide +kernel⟩
theorem V_X7_fails : Cond.instanceMethod yX7_fails ∈ gU ∧ Cond.selects yX7_fails.cls yX7_fails yX7_fails ∈ gU := ⟨w1403, sel_X7_fails⟩
theorem Y_X7_ships : gY yX7_ships cX7_ships 1 (some .int) 0 := ⟨w1408, w8, ⟨by decide, by decide⟩, by decide +kernel⟩
theorem V_X7_ships : Cond.instanceMethod yX7_ships ∈ gU ∧ Cond.selects yX7_ships.cls yX7_ships yX7_ships ∈ gU := ⟨w1407, sel_X7_ships⟩
theorem Y_X7_done : gY yX7_done cX7_done 2 (some .int) 1 := ⟨w1412, w8, ⟨by decide, by decide⟩, by decide +kernel⟩
theorem V_X7_done : Cond.instanceMethod yX7_done ∈ gU ∧ Cond.selects yX7_done.cls yX7_done yX7_done ∈ gU := ⟨w1411, sel_X7_done⟩
theorem Y_X7_begin : gY yX7_begin cX7_begin 1 none 0 := ⟨w1387, w8, ⟨by decide, by decide⟩, by decide +kernel⟩
theorem V_X7_begin : Cond.instanceMethod yX7_begin ∈ gU ∧ Cond.selects yX7_begin.cls yX7_begin yX7_begin ∈ gU := ⟨w1386, sel_X7_begin⟩
theorem Y_X7_moors : gY yX7_moors cX7_moors 4 (some .int) 3 := ⟨w1394, w8, ⟨by decide, by decide⟩, by decide +kernel⟩
theorem V_X7_moors : Cond.instanceMethod yX7_moors ∈ gU ∧ Cond.selects yX7_moors.cls yX7_moors yX7_moors ∈ gU := ⟨w1393, sel_X7_moors⟩
theorem Y_X7_kept : gY yX7_kept cX7_kept 3 (some .int) 1 := ⟨w1416, w8, ⟨by decide, by decide⟩, by decide +kernel⟩
theorem V_X7_kept : Cond.instanceMethod yX7_kept ∈ gU ∧ Cond.selects yX7_kept.cls yX7_kept yX7_kept ∈ gU := ⟨w1415, sel_X7_kept⟩
theorem Y_X7_isStack : gY yX7_isStack cX7_isStack 2 (some .boolean) 2 := ⟨w1427, w8, ⟨by decide, by decide⟩, by decide +kernel⟩
theorem S_X7_isStack : Cond.static yX7_isStack ∈ gU := w1426
theorem Y_X7_cell : gY yX7_cell cX7_cell 3 (some .int) 3 := ⟨w1434, w8, ⟨by decide, by decide⟩, by decide +kernel⟩
theorem S_X7_cell : Cond.static yX7_cell ∈ gU := w1433
theorem Y_X7_puts : gY yX7_puts cX7_puts 5 none 4 := ⟨w1438, w8, ⟨by decide, by decide⟩, by decide +kernel⟩
theorem V_X7_puts : Cond.instanceMethod yX7_puts ∈ gU ∧ Cond.selects yX7_puts.cls yX7_puts yX7_puts ∈ gU := ⟨w1437, sel_X7_puts⟩
theorem Y_X7_stows : gY yX7_stows cX7_stows 6 (some .int) 4 := ⟨w1424, w8, ⟨by decide, by decide⟩, by decide +kernel⟩
theorem V_X7_stows : Cond.instanceMethod yX7_stows ∈ gU ∧ Cond.selects yX7_stows.cls yX7_stows yX7_stows ∈ gU := ⟨w1423, sel_X7_stows⟩
theorem Y_X7_answer : gY yX7_answer cX7_answer 2 (some .int) 2 := ⟨w1449, w8, ⟨by decide, by decide⟩, by decide +kernel⟩
theorem S_X7_answer : Cond.static yX7_answer ∈ gU := w1448
theorem Y_X7_isWrongAt : gY yX7_isWrongAt cX7_isWrongAt 2 none 1 := ⟨w1453, w8, ⟨by decide, by decide⟩, by decide +kernel⟩
theorem V_X7_isWrongAt : Cond.instanceMethod yX7_isWrongAt ∈ gU ∧ Cond.selects yX7_isWrongAt.cls yX7_isWrongAt yX7_isWrongAt ∈ gU := ⟨w1452, sel_X7_isWrongAt⟩
theorem Y_X7_clears : gY yX7_clears cX7_clears 6 (some .int) 3 := ⟨w1446, w8, ⟨by decide, by decide⟩, by decide +kernel⟩
theorem V_X7_clears : Cond.instanceMethod yX7_clears ∈ gU ∧ Cond.selects yX7_clears.cls yX7_clears yX7_clears ∈ gU := ⟨w1445, sel_X7_clears⟩
theorem Y_X7_moves : gY yX7_moves cX7_moves 5 (some .int) 3 := ⟨w1461, w8, ⟨by decide, by decide⟩, by decide +kernel⟩
theorem V_X7_moves : Cond.instanceMethod yX7_moves ∈ gU ∧ Cond.selects yX7_moves.cls yX7_moves yX7_moves ∈ gU := ⟨w1460, sel_X7_moves⟩
theorem Y_X7_placeOf : gY yX7_placeOf cX7_placeOf 3 (some .int) 1 := ⟨w1473, w8, ⟨by decide, by decide⟩, by decide +kernel⟩
theorem V_X7_placeOf : Cond.instanceMethod yX7_placeOf ∈ gU ∧ Cond.selects yX7_placeOf.cls yX7_placeOf yX7_placeOf ∈ gU := ⟨w1472, sel_X7_placeOf⟩
theorem Y_X7_delivers : gY yX7_delivers cX7_delivers 5 (some .int) 1 := ⟨w1469, w8, ⟨by decide, by decide⟩, by decide +kernel⟩
theorem V_X7_delivers : Cond.instanceMethod yX7_delivers ∈ gU ∧ Cond.selects yX7_delivers.cls yX7_delivers yX7_delivers ∈ gU := ⟨w1468, sel_X7_delivers⟩
theorem Y_X7_tideAt : gY yX7_tideAt cX7_tideAt 1 (some .int) 1 := ⟨w1496, w8, ⟨by decide, by decide⟩, by decide +kernel⟩
theorem S_X7_tideAt : Cond.static yX7_tideAt ∈ gU := w1495
theorem Y_X7_load : gY yX7_load cX7_load 4 (some .int) 1 := ⟨w1489, w8, ⟨by decide, by decide⟩, by decide +kernel⟩
theorem V_X7_load : Cond.instanceMethod yX7_load ∈ gU ∧ Cond.selects yX7_load.cls yX7_load yX7_load ∈ gU := ⟨w1488, sel_X7_load⟩
theorem Y_X7_floatsAt : gY yX7_floatsAt cX7_floatsAt 3 (some .boolean) 2 := ⟨w1493, w8, ⟨by decide, by decide⟩, by decide +kernel⟩
theorem V_X7_floatsAt : Cond.instanceMethod yX7_floatsAt ∈ gU ∧ Cond.selects yX7_floatsAt.cls yX7_floatsAt yX7_floatsAt ∈ gU := ⟨w1492, sel_X7_floatsAt⟩
theorem Y_X7_mayLeave : gY yX7_mayLeave cX7_mayLeave 2 (some .boolean) 1 := ⟨w1485, w8, ⟨by decide, by decide⟩, by decide +kernel⟩
theorem V_X7_mayLeave : Cond.instanceMethod yX7_mayLeave ∈ gU ∧ Cond.selects yX7_mayLeave.cls yX7_mayLeave yX7_mayLeave ∈ gU := ⟨w1484, sel_X7_mayLeave⟩
theorem Y_X7_leaves : gY yX7_leaves cX7_leaves 2 (some .int) 1 := ⟨w1481, w8, ⟨by decide, by decide⟩, by decide +kernel⟩
theorem V_X7_leaves : Cond.instanceMethod yX7_leaves ∈ gU ∧ Cond.selects yX7_leaves.cls yX7_leaves yX7_leaves ∈ gU := ⟨w1480, sel_X7_leaves⟩
theorem Y_X7_passesHour : gY yX7_passesHour cX7_passesHour 3 none 0 := ⟨w1508, w8, ⟨by decide, by decide⟩, by decide +kernel⟩
theorem V_X7_passesHour : Cond.instanceMethod yX7_passesHour ∈ gU ∧ Cond.selects yX7_passesHour.cls yX7_passesHour yX7_passesHour ∈ gU := ⟨w1507, sel_X7_passesHour⟩
theorem Y_X7_passes : gY yX7_passes cX7_passes 4 (some .int) 1 := ⟨w1504, w8, ⟨by decide, by decide⟩, by decide +kernel⟩
theorem V_X7_passes : Cond.instanceMethod yX7_passes ∈ gU ∧ Cond.selects yX7_passes.cls yX7_passes yX7_passes ∈ gU := ⟨w1503, sel_X7_passes⟩
theorem Y_X7_isShip : gY yX7_isShip cX7_isShip 2 (some .boolean) 1 := ⟨w1528, w8, ⟨by decide, by decide⟩, by decide +kernel⟩
theorem V_X7_isShip : Cond.instanceMethod yX7_isShip ∈ gU ∧ Cond.selects yX7_isShip.cls yX7_isShip yX7_isShip ∈ gU := ⟨w1527, sel_X7_isShip⟩
theorem Y_X7_whyNoShip : gY yX7_whyNoShip cX7_whyNoShip 2 (some .int) 1 := ⟨w1540, w8, ⟨by decide, by decide⟩, by decide +kernel⟩
theorem V_X7_whyNoShip : Cond.instanceMethod yX7_whyNoShip ∈ gU ∧ Cond.selects yX7_whyNoShip.cls yX7_whyNoShip yX7_whyNoShip ∈ gU := ⟨w1539, sel_X7_whyNoShip⟩
theorem Y_X7_shipNumber : gY yX7_shipNumber cX7_shipNumber 4 (some .int) 2 := ⟨w1536, w8, ⟨by decide, by decide⟩, by decide +kernel⟩
theorem V_X7_shipNumber : Cond.instanceMethod yX7_shipNumber ∈ gU ∧ Cond.selects yX7_shipNumber.cls yX7_shipNumber yX7_shipNumber ∈ gU := ⟨w1535, sel_X7_shipNumber⟩
theorem Y_X7_hoursUntilFloating : gY yX7_hoursUntilFloating cX7_hoursUntilFloating 4 (some .int) 1 := ⟨w1552, w8, ⟨by decide, by decide⟩, by decide +kernel⟩
theorem V_X7_hoursUntilFloating : Cond.instanceMethod yX7_hoursUntilFloating ∈ gU ∧ Cond.selects yX7_hoursUntilFloating.cls yX7_hoursUntilFloating yX7_hoursUntilFloating ∈ gU := ⟨w1550, sel_X7_hoursUntilFloating⟩
theorem Y_X7_isMoreUrgent : gY yX7_isMoreUrgent cX7_isMoreUrgent 4 (some .boolean) 2 := ⟨w1565, w8, ⟨by decide, by decide⟩, by decide +kernel⟩
theorem V_X7_isMoreUrgent : Cond.instanceMethod yX7_isMoreUrgent ∈ gU ∧ Cond.selects yX7_isMoreUrgent.cls yX7_isMoreUrgent yX7_isMoreUrgent ∈ gU := ⟨w1564, sel_X7_isMoreUrgent⟩
theorem Y_X7_whyNoStack : gY yX7_whyNoStack cX7_whyNoStack 3 (some .int) 2 := ⟨w1585, w8, ⟨by decide, by decide⟩, by decide +kernel⟩
theorem V_X7_whyNoStack : Cond.instanceMethod yX7_whyNoStack ∈ gU ∧ Cond.selects yX7_whyNoStack.cls yX7_whyNoStack yX7_whyNoStack ∈ gU := ⟨w1584, sel_X7_whyNoStack⟩
theorem Y_X7_weightOn : gY yX7_weightOn cX7_weightOn 5 (some .int) 1 := ⟨w1601, w8, ⟨by decide, by decide⟩, by decide +kernel⟩
theorem V_X7_weightOn : Cond.instanceMethod yX7_weightOn ∈ gU ∧ Cond.selects yX7_weightOn.cls yX7_weightOn yX7_weightOn ∈ gU := ⟨w1599, sel_X7_weightOn⟩
theorem Y_X7_cellOf : gY yX7_cellOf cX7_cellOf 3 (some .int) 1 := ⟨w1618, w8, ⟨by decide, by decide⟩, by decide +kernel⟩
theorem V_X7_cellOf : Cond.instanceMethod yX7_cellOf ∈ gU ∧ Cond.selects yX7_cellOf.cls yX7_cellOf yX7_cellOf ∈ gU := ⟨w1617, sel_X7_cellOf⟩
theorem Y_X7_containerNumber : gY yX7_containerNumber cX7_containerNumber 6 (some .int) 3 := ⟨w1630, w8, ⟨by decide, by decide⟩, by decide +kernel⟩
theorem V_X7_containerNumber : Cond.instanceMethod yX7_containerNumber ∈ gU ∧ Cond.selects yX7_containerNumber.cls yX7_containerNumber yX7_containerNumber ∈ gU := ⟨w1629, sel_X7_containerNumber⟩
theorem Y_X7_keyOf : gY yX7_keyOf cX7_keyOf 2 (some .int) 1 := ⟨w1634, w8, ⟨by decide, by decide⟩, by decide +kernel⟩
theorem V_X7_keyOf : Cond.instanceMethod yX7_keyOf ∈ gU ∧ Cond.selects yX7_keyOf.cls yX7_keyOf yX7_keyOf ∈ gU := ⟨w1632, sel_X7_keyOf⟩
theorem Y_X7_weightOf : gY yX7_weightOf cX7_weightOf 2 (some .int) 1 := ⟨w1626, w8, ⟨by decide, by decide⟩, by decide +kernel⟩
theorem V_X7_weightOf : Cond.instanceMethod yX7_weightOf ∈ gU ∧ Cond.selects yX7_weightOf.cls yX7_weightOf yX7_weightOf ∈ gU := ⟨w1624, sel_X7_weightOf⟩
theorem Y_X7_above : gY yX7_above cX7_above 2 (some .int) 1 := ⟨w1660, w8, ⟨by decide, by decide⟩, by decide +kernel⟩
theorem V_X7_above : Cond.instanceMethod yX7_above ∈ gU ∧ Cond.selects yX7_above.cls yX7_above yX7_above ∈ gU := ⟨w1659, sel_X7_above⟩
theorem Y_X7_movesToReach : gY yX7_movesToReach cX7_movesToReach 3 (some .int) 1 := ⟨w1656, w8, ⟨by decide, by decide⟩, by decide +kernel⟩
theorem V_X7_movesToReach : Cond.instanceMethod yX7_movesToReach ∈ gU ∧ Cond.selects yX7_movesToReach.cls yX7_movesToReach yX7_movesToReach ∈ gU := ⟨w1654, sel_X7_movesToReach⟩
theorem Y_X7_isHeavier : gY yX7_isHeavier cX7_isHeavier 4 (some .boolean) 2 := ⟨w1673, w8, ⟨by decide, by decide⟩, by decide +kernel⟩
theorem V_X7_isHeavier : Cond.instanceMethod yX7_isHeavier ∈ gU ∧ Cond.selects yX7_isHeavier.cls yX7_isHeavier yX7_isHeavier ∈ gU := ⟨w1672, sel_X7_isHeavier⟩
theorem Y_X7_countOf : gY yX7_countOf cX7_countOf 5 (some .int) 2 := ⟨w1693, w8, ⟨by decide, by decide⟩, by decide +kernel⟩
theorem V_X7_countOf : Cond.instanceMethod yX7_countOf ∈ gU ∧ Cond.selects yX7_countOf.cls yX7_countOf yX7_countOf ∈ gU := ⟨w1692, sel_X7_countOf⟩
theorem Y_X7_keyTwins : gY yX7_keyTwins cX7_keyTwins 5 (some .int) 0 := ⟨w1697, w8, ⟨by decide, by decide⟩, by decide +kernel⟩
theorem V_X7_keyTwins : Cond.instanceMethod yX7_keyTwins ∈ gU ∧ Cond.selects yX7_keyTwins.cls yX7_keyTwins yX7_keyTwins ∈ gU := ⟨w1695, sel_X7_keyTwins⟩
theorem Y_X7_writes : gY yX7_writes cX7_writes 2 none 1 := ⟨w1750, w8, ⟨by decide, by decide⟩, by decide +kernel⟩
theorem V_X7_writes : Cond.instanceMethod yX7_writes ∈ gU ∧ Cond.selects yX7_writes.cls yX7_writes yX7_writes ∈ gU := ⟨w1749, sel_X7_writes⟩
theorem Y_X7_writesNumber : gY yX7_writesNumber cX7_writesNumber 3 none 1 := ⟨w1754, w8, ⟨by decide, by decide⟩, by decide +kernel⟩
theorem V_X7_writesNumber : Cond.instanceMethod yX7_writesNumber ∈ gU ∧ Cond.selects yX7_writesNumber.cls yX7_writesNumber yX7_writesNumber ∈ gU := ⟨w1753, sel_X7_writesNumber⟩
theorem Y_X7_writesBehind : gY yX7_writesBehind cX7_writesBehind 3 none 2 := ⟨w1762, w8, ⟨by decide, by decide⟩, by decide +kernel⟩
theorem V_X7_writesBehind : Cond.instanceMethod yX7_writesBehind ∈ gU ∧ Cond.selects yX7_writesBehind.cls yX7_writesBehind yX7_writesBehind ∈ gU := ⟨w1761, sel_X7_writesBehind⟩
theorem Y_X7_here : gY yX7_here cX7_here 1 (some .int) 0 := ⟨w1782, w8, ⟨by decide, by decide⟩, by decide +kernel⟩
theorem V_X7_here : Cond.instanceMethod yX7_here ∈ gU ∧ Cond.selects yX7_here.cls yX7_here yX7_here ∈ gU := ⟨w1781, sel_X7_here⟩
theorem Y_X7_needs : gY yX7_needs cX7_needs 2 none 1 := ⟨w1790, w8, ⟨by decide, by decide⟩, by decide +kernel⟩
theorem V_X7_needs : Cond.instanceMethod yX7_needs ∈ gU ∧ Cond.selects yX7_needs.cls yX7_needs yX7_needs ∈ gU := ⟨w1789, sel_X7_needs⟩
theorem Y_X7_digits : gY yX7_digits cX7_digits 4 (some .int) 1 := ⟨w1798, w8, ⟨by decide, by decide⟩, by decide +kernel⟩
theorem V_X7_digits : Cond.instanceMethod yX7_digits ∈ gU ∧ Cond.selects yX7_digits.cls yX7_digits yX7_digits ∈ gU := ⟨w1797, sel_X7_digits⟩
theorem Y_X7_digitsAfter : gY yX7_digitsAfter cX7_digitsAfter 3 (some .int) 2 := ⟨w1794, w8, ⟨by decide, by decide⟩, by decide +kernel⟩
theorem V_X7_digitsAfter : Cond.instanceMethod yX7_digitsAfter ∈ gU ∧ Cond.selects yX7_digitsAfter.cls yX7_digitsAfter yX7_digitsAfter ∈ gU := ⟨w1793, sel_X7_digitsAfter⟩
theorem Y_X7_needsThree : gY yX7_needsThree cX7_needsThree 4 none 3 := ⟨w1806, w8, ⟨by decide, by decide⟩, by decide +kernel⟩
theorem V_X7_needsThree : Cond.instanceMethod yX7_needsThree ∈ gU ∧ Cond.selects yX7_needsThree.cls yX7_needsThree yX7_needsThree ∈ gU := ⟨w1805, sel_X7_needsThree⟩
theorem Y_X7_parsesClear : gY yX7_parsesClear cX7_parsesClear 2 none 1 := ⟨w1810, w8, ⟨by decide, by decide⟩, by decide +kernel⟩
theorem V_X7_parsesClear : Cond.instanceMethod yX7_parsesClear ∈ gU ∧ Cond.selects yX7_parsesClear.cls yX7_parsesClear yX7_parsesClear ∈ gU := ⟨w1809, sel_X7_parsesClear⟩
theorem Y_X7_parsesM : gY yX7_parsesM cX7_parsesM 2 none 1 := ⟨w1786, w8, ⟨by decide, by decide⟩, by decide +kernel⟩
theorem V_X7_parsesM : Cond.instanceMethod yX7_parsesM ∈ gU ∧ Cond.selects yX7_parsesM.cls yX7_parsesM yX7_parsesM ∈ gU := ⟨w1785, sel_X7_parsesM⟩
theorem Y_X7_parsesStow : gY yX7_parsesStow cX7_parsesStow 2 none 1 := ⟨w1802, w8, ⟨by decide, by decide⟩, by decide +kernel⟩
theorem V_X7_parsesStow : Cond.instanceMethod yX7_parsesStow ∈ gU ∧ Cond.selects yX7_parsesStow.cls yX7_parsesStow yX7_parsesStow ∈ gU := ⟨w1801, sel_X7_parsesStow⟩
theorem Y_X7_carriesOut : gY yX7_carriesOut cX7_carriesOut 4 (some .int) 1 := ⟨w1814, w8, ⟨by decide, by decide⟩, by decide +kernel⟩
theorem V_X7_carriesOut : Cond.instanceMethod yX7_carriesOut ∈ gU ∧ Cond.selects yX7_carriesOut.cls yX7_carriesOut yX7_carriesOut ∈ gU := ⟨w1813, sel_X7_carriesOut⟩
theorem Y_X7_parsesCommand : gY yX7_parsesCommand cX7_parsesCommand 3 none 1 := ⟨w1778, w8, ⟨by decide, by decide⟩, by decide +kernel⟩
theorem V_X7_parsesCommand : Cond.instanceMethod yX7_parsesCommand ∈ gU ∧ Cond.selects yX7_parsesCommand.cls yX7_parsesCommand yX7_parsesCommand ∈ gU := ⟨w1777, sel_X7_parsesCommand⟩
theorem Y_X6_moor : gY yX6_moor cX6_moor 4 (some .int) 3 := ⟨w526, w1, ⟨by decide, by decide⟩, by decide +kernel⟩
theorem V_X6_moor : Cond.instanceMethod yX6_moor ∈ gU ∧ Cond.selects yX6_moor.cls yX6_moor yX6_moor ∈ gU := ⟨w524, sel_X6_moor⟩
theorem Y_X6_stow : gY yX6_stow cX6_stow 5 (some .int) 4 := ⟨w614, w1, ⟨by decide, by decide⟩, by decide +kernel⟩
theorem V_X6_stow : Cond.instanceMethod yX6_stow ∈ gU ∧ Cond.selects yX6_stow.cls yX6_stow yX6_stow ∈ gU := ⟨w612, sel_X6_stow⟩
theorem Y_X6_clear : gY yX6_clear cX6_clear 4 (some .boolean) 3 := ⟨w638, w1, ⟨by decide, by decide⟩, by decide +kernel⟩
theorem V_X6_clear : Cond.instanceMethod yX6_clear ∈ gU ∧ Cond.selects yX6_clear.cls yX6_clear yX6_clear ∈ gU := ⟨w636, sel_X6_clear⟩
theorem Y_X6_move : gY yX6_move cX6_move 4 (some .int) 3 := ⟨w669, w1, ⟨by decide, by decide⟩, by decide +kernel⟩
theorem V_X6_move : Cond.instanceMethod yX6_move ∈ gU ∧ Cond.selects yX6_move.cls yX6_move yX6_move ∈ gU := ⟨w667, sel_X6_move⟩
theorem Y_X6_deliver : gY yX6_deliver cX6_deliver 2 (some .int) 1 := ⟨w686, w1, ⟨by decide, by decide⟩, by decide +kernel⟩
theorem V_X6_deliver : Cond.instanceMethod yX6_deliver ∈ gU ∧ Cond.selects yX6_deliver.cls yX6_deliver yX6_deliver ∈ gU := ⟨w684, sel_X6_deliver⟩
theorem Y_X6_leave : gY yX6_leave cX6_leave 2 (some .int) 1 := ⟨w714, w1, ⟨by decide, by decide⟩, by decide +kernel⟩
theorem V_X6_leave : Cond.instanceMethod yX6_leave ∈ gU ∧ Cond.selects yX6_leave.cls yX6_leave yX6_leave ∈ gU := ⟨w712, sel_X6_leave⟩
theorem Y_X6_pass : gY yX6_pass cX6_pass 2 (some .int) 1 := ⟨w733, w1, ⟨by decide, by decide⟩, by decide +kernel⟩
theorem V_X6_pass : Cond.instanceMethod yX6_pass ∈ gU ∧ Cond.selects yX6_pass.cls yX6_pass yX6_pass ∈ gU := ⟨w731, sel_X6_pass⟩
theorem Y_X6_hour : gY yX6_hour cX6_hour 1 (some .int) 0 := ⟨w223, w1, ⟨by decide, by decide⟩, by decide +kernel⟩
theorem V_X6_hour : Cond.instanceMethod yX6_hour ∈ gU ∧ Cond.selects yX6_hour.cls yX6_hour yX6_hour ∈ gU := ⟨w221, sel_X6_hour⟩
theorem Y_X6_tide : gY yX6_tide cX6_tide 1 (some .int) 0 := ⟨w227, w1, ⟨by decide, by decide⟩, by decide +kernel⟩
theorem V_X6_tide : Cond.instanceMethod yX6_tide ∈ gU ∧ Cond.selects yX6_tide.cls yX6_tide yX6_tide ∈ gU := ⟨w225, sel_X6_tide⟩
theorem Y_X6_shipCount : gY yX6_shipCount cX6_shipCount 1 (some .int) 0 := ⟨w237, w1, ⟨by decide, by decide⟩, by decide +kernel⟩
theorem V_X6_shipCount : Cond.instanceMethod yX6_shipCount ∈ gU ∧ Cond.selects yX6_shipCount.cls yX6_shipCount yX6_shipCount ∈ gU := ⟨w235, sel_X6_shipCount⟩
theorem Y_X6_isMoored : gY yX6_isMoored cX6_isMoored 2 (some .boolean) 1 := ⟨w751, w1, ⟨by decide, by decide⟩, by decide +kernel⟩
theorem V_X6_isMoored : Cond.instanceMethod yX6_isMoored ∈ gU ∧ Cond.selects yX6_isMoored.cls yX6_isMoored yX6_isMoored ∈ gU := ⟨w749, sel_X6_isMoored⟩
theorem Y_X6_draught : gY yX6_draught cX6_draught 2 (some .int) 1 := ⟨w763, w1, ⟨by decide, by decide⟩, by decide +kernel⟩
theorem V_X6_draught : Cond.instanceMethod yX6_draught ∈ gU ∧ Cond.selects yX6_draught.cls yX6_draught yX6_draught ∈ gU := ⟨w761, sel_X6_draught⟩
theorem Y_X6_dueHour : gY yX6_dueHour cX6_dueHour 2 (some .int) 1 := ⟨w774, w1, ⟨by decide, by decide⟩, by decide +kernel⟩
theorem V_X6_dueHour : Cond.instanceMethod yX6_dueHour ∈ gU ∧ Cond.selects yX6_dueHour.cls yX6_dueHour yX6_dueHour ∈ gU := ⟨w772, sel_X6_dueHour⟩
theorem Y_X6_floats : gY yX6_floats cX6_floats 2 (some .boolean) 1 := ⟨w781, w1, ⟨by decide, by decide⟩, by decide +kernel⟩
theorem V_X6_floats : Cond.instanceMethod yX6_floats ∈ gU ∧ Cond.selects yX6_floats.cls yX6_floats yX6_floats ∈ gU := ⟨w779, sel_X6_floats⟩
theorem Y_X6_hoursUntilFloating : gY yX6_hoursUntilFloating cX6_hoursUntilFloating 2 (some .int) 1 := ⟨w789, w1, ⟨by decide, by decide⟩, by decide +kernel⟩
theorem V_X6_hoursUntilFloating : Cond.instanceMethod yX6_hoursUntilFloating ∈ gU ∧ Cond.selects yX6_hoursUntilFloating.cls yX6_hoursUntilFloating yX6_hoursUntilFloating ∈ gU := ⟨w787, sel_X6_hoursUntilFloating⟩
theorem Y_X6_hoursUntilFloatingByTide : gY yX6_hoursUntilFloatingByTide cX6_hoursUntilFloatingByTide 2 (some .int) 1 := ⟨w797, w1, ⟨by decide, by decide⟩, by decide +kernel⟩
theorem V_X6_hoursUntilFloatingByTide : Cond.instanceMethod yX6_hoursUntilFloatingByTide ∈ gU ∧ Cond.selects yX6_hoursUntilFloatingByTide.cls yX6_hoursUntilFloatingByTide yX6_hoursUntilFloatingByTide ∈ gU := ⟨w795, sel_X6_hoursUntilFloatingByTide⟩
theorem Y_X6_mostUrgent : gY yX6_mostUrgent cX6_mostUrgent 2 (some .int) 0 := ⟨w805, w1, ⟨by decide, by decide⟩, by decide +kernel⟩
theorem V_X6_mostUrgent : Cond.instanceMethod yX6_mostUrgent ∈ gU ∧ Cond.selects yX6_mostUrgent.cls yX6_mostUrgent yX6_mostUrgent ∈ gU := ⟨w803, sel_X6_mostUrgent⟩
theorem Y_X6_canLeave : gY yX6_canLeave cX6_canLeave 2 (some .boolean) 1 := ⟨w825, w1, ⟨by decide, by decide⟩, by decide +kernel⟩
theorem V_X6_canLeave : Cond.instanceMethod yX6_canLeave ∈ gU ∧ Cond.selects yX6_canLeave.cls yX6_canLeave yX6_canLeave ∈ gU := ⟨w823, sel_X6_canLeave⟩
theorem Y_X6_lockedHours : gY yX6_lockedHours cX6_lockedHours 2 (some .int) 1 := ⟨w832, w1, ⟨by decide, by decide⟩, by decide +kernel⟩
theorem V_X6_lockedHours : Cond.instanceMethod yX6_lockedHours ∈ gU ∧ Cond.selects yX6_lockedHours.cls yX6_lockedHours yX6_lockedHours ∈ gU := ⟨w830, sel_X6_lockedHours⟩
theorem Y_X6_wrongAnswers : gY yX6_wrongAnswers cX6_wrongAnswers 2 (some .int) 1 := ⟨w839, w1, ⟨by decide, by decide⟩, by decide +kernel⟩
theorem V_X6_wrongAnswers : Cond.instanceMethod yX6_wrongAnswers ∈ gU ∧ Cond.selects yX6_wrongAnswers.cls yX6_wrongAnswers yX6_wrongAnswers ∈ gU := ⟨w837, sel_X6_wrongAnswers⟩
theorem Y_X6_stackHeight : gY yX6_stackHeight cX6_stackHeight 3 (some .int) 2 := ⟨w846, w1, ⟨by decide, by decide⟩, by decide +kernel⟩
theorem V_X6_stackHeight : Cond.instanceMethod yX6_stackHeight ∈ gU ∧ Cond.selects yX6_stackHeight.cls yX6_stackHeight yX6_stackHeight ∈ gU := ⟨w844, sel_X6_stackHeight⟩
theorem Y_X6_containerAt : gY yX6_containerAt cX6_containerAt 4 (some .int) 3 := ⟨w859, w1, ⟨by decide, by decide⟩, by decide +kernel⟩
theorem V_X6_containerAt : Cond.instanceMethod yX6_containerAt ∈ gU ∧ Cond.selects yX6_containerAt.cls yX6_containerAt yX6_containerAt ∈ gU := ⟨w857, sel_X6_containerAt⟩
theorem Y_X6_topOf : gY yX6_topOf cX6_topOf 3 (some .int) 2 := ⟨w871, w1, ⟨by decide, by decide⟩, by decide +kernel⟩
theorem V_X6_topOf : Cond.instanceMethod yX6_topOf ∈ gU ∧ Cond.selects yX6_topOf.cls yX6_topOf yX6_topOf ∈ gU := ⟨w869, sel_X6_topOf⟩
theorem Y_X6_containersOn : gY yX6_containersOn cX6_containersOn 2 (some .int) 1 := ⟨w879, w1, ⟨by decide, by decide⟩, by decide +kernel⟩
theorem V_X6_containersOn : Cond.instanceMethod yX6_containersOn ∈ gU ∧ Cond.selects yX6_containersOn.cls yX6_containersOn yX6_containersOn ∈ gU := ⟨w877, sel_X6_containersOn⟩
theorem Y_X6_weightOn : gY yX6_weightOn cX6_weightOn 2 (some .int) 1 := ⟨w887, w1, ⟨by decide, by decide⟩, by decide +kernel⟩
theorem V_X6_weightOn : Cond.instanceMethod yX6_weightOn ∈ gU ∧ Cond.selects yX6_weightOn.cls yX6_weightOn yX6_weightOn ∈ gU := ⟨w885, sel_X6_weightOn⟩
theorem Y_X6_weightOnByContainers : gY yX6_weightOnByContainers cX6_weightOnByContainers 2 (some .int) 1 := ⟨w895, w1, ⟨by decide, by decide⟩, by decide +kernel⟩
theorem V_X6_weightOnByContainers : Cond.instanceMethod yX6_weightOnByContainers ∈ gU ∧ Cond.selects yX6_weightOnByContainers.cls yX6_weightOnByContainers yX6_weightOnByContainers ∈ gU := ⟨w893, sel_X6_weightOnByContainers⟩
theorem Y_X6_isOnShip : gY yX6_isOnShip cX6_isOnShip 2 (some .boolean) 1 := ⟨w252, w1, ⟨by decide, by decide⟩, by decide +kernel⟩
theorem V_X6_isOnShip : Cond.instanceMethod yX6_isOnShip ∈ gU ∧ Cond.selects yX6_isOnShip.cls yX6_isOnShip yX6_isOnShip ∈ gU := ⟨w250, sel_X6_isOnShip⟩
theorem Y_X6_isInYard : gY yX6_isInYard cX6_isInYard 2 (some .boolean) 1 := ⟨w272, w1, ⟨by decide, by decide⟩, by decide +kernel⟩
theorem V_X6_isInYard : Cond.instanceMethod yX6_isInYard ∈ gU ∧ Cond.selects yX6_isInYard.cls yX6_isInYard yX6_isInYard ∈ gU := ⟨w270, sel_X6_isInYard⟩
theorem Y_X6_weightOf : gY yX6_weightOf cX6_weightOf 2 (some .int) 1 := ⟨w903, w1, ⟨by decide, by decide⟩, by decide +kernel⟩
theorem V_X6_weightOf : Cond.instanceMethod yX6_weightOf ∈ gU ∧ Cond.selects yX6_weightOf.cls yX6_weightOf yX6_weightOf ∈ gU := ⟨w901, sel_X6_weightOf⟩
theorem Y_X6_keyOf : gY yX6_keyOf cX6_keyOf 2 (some .int) 1 := ⟨w912, w1, ⟨by decide, by decide⟩, by decide +kernel⟩
theorem V_X6_keyOf : Cond.instanceMethod yX6_keyOf ∈ gU ∧ Cond.selects yX6_keyOf.cls yX6_keyOf yX6_keyOf ∈ gU := ⟨w910, sel_X6_keyOf⟩
theorem Y_X6_answerOf : gY yX6_answerOf cX6_answerOf 2 (some .int) 1 := ⟨w920, w1, ⟨by decide, by decide⟩, by decide +kernel⟩
theorem V_X6_answerOf : Cond.instanceMethod yX6_answerOf ∈ gU ∧ Cond.selects yX6_answerOf.cls yX6_answerOf yX6_answerOf ∈ gU := ⟨w918, sel_X6_answerOf⟩
theorem Y_X6_berthOf : gY yX6_berthOf cX6_berthOf 2 (some .int) 1 := ⟨w928, w1, ⟨by decide, by decide⟩, by decide +kernel⟩
theorem V_X6_berthOf : Cond.instanceMethod yX6_berthOf ∈ gU ∧ Cond.selects yX6_berthOf.cls yX6_berthOf yX6_berthOf ∈ gU := ⟨w926, sel_X6_berthOf⟩
theorem Y_X6_stackOf : gY yX6_stackOf cX6_stackOf 2 (some .int) 1 := ⟨w936, w1, ⟨by decide, by decide⟩, by decide +kernel⟩
theorem V_X6_stackOf : Cond.instanceMethod yX6_stackOf ∈ gU ∧ Cond.selects yX6_stackOf.cls yX6_stackOf yX6_stackOf ∈ gU := ⟨w934, sel_X6_stackOf⟩
theorem Y_X6_levelOf : gY yX6_levelOf cX6_levelOf 2 (some .int) 1 := ⟨w943, w1, ⟨by decide, by decide⟩, by decide +kernel⟩
theorem V_X6_levelOf : Cond.instanceMethod yX6_levelOf ∈ gU ∧ Cond.selects yX6_levelOf.cls yX6_levelOf yX6_levelOf ∈ gU := ⟨w941, sel_X6_levelOf⟩
theorem Y_X6_movesToReach : gY yX6_movesToReach cX6_movesToReach 2 (some .int) 1 := ⟨w954, w1, ⟨by decide, by decide⟩, by decide +kernel⟩
theorem V_X6_movesToReach : Cond.instanceMethod yX6_movesToReach ∈ gU ∧ Cond.selects yX6_movesToReach.cls yX6_movesToReach yX6_movesToReach ∈ gU := ⟨w952, sel_X6_movesToReach⟩
theorem Y_X6_movesToReachByCopy : gY yX6_movesToReachByCopy cX6_movesToReachByCopy 2 (some .int) 1 := ⟨w962, w1, ⟨by decide, by decide⟩, by decide +kernel⟩
theorem V_X6_movesToReachByCopy : Cond.instanceMethod yX6_movesToReachByCopy ∈ gU ∧ Cond.selects yX6_movesToReachByCopy.cls yX6_movesToReachByCopy yX6_movesToReachByCopy ∈ gU := ⟨w960, sel_X6_movesToReachByCopy⟩
theorem Y_X6_heaviestAbove : gY yX6_heaviestAbove cX6_heaviestAbove 2 (some .int) 1 := ⟨w970, w1, ⟨by decide, by decide⟩, by decide +kernel⟩
theorem V_X6_heaviestAbove : Cond.instanceMethod yX6_heaviestAbove ∈ gU ∧ Cond.selects yX6_heaviestAbove.cls yX6_heaviestAbove yX6_heaviestAbove ∈ gU := ⟨w968, sel_X6_heaviestAbove⟩
theorem Y_X6_containerByWeight : gY yX6_containerByWeight cX6_containerByWeight 2 (some .int) 1 := ⟨w981, w1, ⟨by decide, by decide⟩, by decide +kernel⟩
theorem V_X6_containerByWeight : Cond.instanceMethod yX6_containerByWeight ∈ gU ∧ Cond.selects yX6_containerByWeight.cls yX6_containerByWeight yX6_containerByWeight ∈ gU := ⟨w979, sel_X6_containerByWeight⟩
theorem Y_X6_emptiestStack : gY yX6_emptiestStack cX6_emptiestStack 2 (some .int) 1 := ⟨w996, w1, ⟨by decide, by decide⟩, by decide +kernel⟩
theorem V_X6_emptiestStack : Cond.instanceMethod yX6_emptiestStack ∈ gU ∧ Cond.selects yX6_emptiestStack.cls yX6_emptiestStack yX6_emptiestStack ∈ gU := ⟨w994, sel_X6_emptiestStack⟩
theorem Y_X6_heavyOverLight : gY yX6_heavyOverLight cX6_heavyOverLight 3 (some .int) 2 := ⟨w1007, w1, ⟨by decide, by decide⟩, by decide +kernel⟩
theorem V_X6_heavyOverLight : Cond.instanceMethod yX6_heavyOverLight ∈ gU ∧ Cond.selects yX6_heavyOverLight.cls yX6_heavyOverLight yX6_heavyOverLight ∈ gU := ⟨w1005, sel_X6_heavyOverLight⟩
theorem Y_X6_differentKeys : gY yX6_differentKeys cX6_differentKeys 1 (some .int) 0 := ⟨w280, w1, ⟨by decide, by decide⟩, by decide +kernel⟩
theorem V_X6_differentKeys : Cond.instanceMethod yX6_differentKeys ∈ gU ∧ Cond.selects yX6_differentKeys.cls yX6_differentKeys yX6_differentKeys ∈ gU := ⟨w278, sel_X6_differentKeys⟩
theorem Y_X6_keyTwins : gY yX6_keyTwins cX6_keyTwins 1 (some .int) 0 := ⟨w296, w1, ⟨by decide, by decide⟩, by decide +kernel⟩
theorem V_X6_keyTwins : Cond.instanceMethod yX6_keyTwins ∈ gU ∧ Cond.selects yX6_keyTwins.cls yX6_keyTwins yX6_keyTwins ∈ gU := ⟨w294, sel_X6_keyTwins⟩
theorem Y_X6_keyTwinsByGroups : gY yX6_keyTwinsByGroups cX6_keyTwinsByGroups 1 (some .int) 0 := ⟨w312, w1, ⟨by decide, by decide⟩, by decide +kernel⟩
theorem V_X6_keyTwinsByGroups : Cond.instanceMethod yX6_keyTwinsByGroups ∈ gU ∧ Cond.selects yX6_keyTwinsByGroups.cls yX6_keyTwinsByGroups yX6_keyTwinsByGroups ∈ gU := ⟨w310, sel_X6_keyTwinsByGroups⟩
theorem Y_X6_yardCount : gY yX6_yardCount cX6_yardCount 1 (some .int) 0 := ⟨w328, w1, ⟨by decide, by decide⟩, by decide +kernel⟩
theorem V_X6_yardCount : Cond.instanceMethod yX6_yardCount ∈ gU ∧ Cond.selects yX6_yardCount.cls yX6_yardCount yX6_yardCount ∈ gU := ⟨w326, sel_X6_yardCount⟩
theorem Y_X6_yardAt : gY yX6_yardAt cX6_yardAt 2 (some .int) 1 := ⟨w1018, w1, ⟨by decide, by decide⟩, by decide +kernel⟩
theorem V_X6_yardAt : Cond.instanceMethod yX6_yardAt ∈ gU ∧ Cond.selects yX6_yardAt.cls yX6_yardAt yX6_yardAt ∈ gU := ⟨w1016, sel_X6_yardAt⟩
theorem Y_X6_feesAfter : gY yX6_feesAfter cX6_feesAfter 2 (some .int) 1 := ⟨w1025, w1, ⟨by decide, by decide⟩, by decide +kernel⟩
theorem V_X6_feesAfter : Cond.instanceMethod yX6_feesAfter ∈ gU ∧ Cond.selects yX6_feesAfter.cls yX6_feesAfter yX6_feesAfter ∈ gU := ⟨w1023, sel_X6_feesAfter⟩
theorem Y_X6_fees : gY yX6_fees cX6_fees 1 (some .int) 0 := ⟨w336, w1, ⟨by decide, by decide⟩, by decide +kernel⟩
theorem V_X6_fees : Cond.instanceMethod yX6_fees ∈ gU ∧ Cond.selects yX6_fees.cls yX6_fees yX6_fees ∈ gU := ⟨w334, sel_X6_fees⟩
theorem Y_X6_clearedTotal : gY yX6_clearedTotal cX6_clearedTotal 1 (some .int) 0 := ⟨w340, w1, ⟨by decide, by decide⟩, by decide +kernel⟩
theorem V_X6_clearedTotal : Cond.instanceMethod yX6_clearedTotal ∈ gU ∧ Cond.selects yX6_clearedTotal.cls yX6_clearedTotal yX6_clearedTotal ∈ gU := ⟨w338, sel_X6_clearedTotal⟩
theorem Y_X6_deliveredTotal : gY yX6_deliveredTotal cX6_deliveredTotal 1 (some .int) 0 := ⟨w344, w1, ⟨by decide, by decide⟩, by decide +kernel⟩
theorem V_X6_deliveredTotal : Cond.instanceMethod yX6_deliveredTotal ∈ gU ∧ Cond.selects yX6_deliveredTotal.cls yX6_deliveredTotal yX6_deliveredTotal ∈ gU := ⟨w342, sel_X6_deliveredTotal⟩
theorem Y_X6_wrongTotal : gY yX6_wrongTotal cX6_wrongTotal 1 (some .int) 0 := ⟨w348, w1, ⟨by decide, by decide⟩, by decide +kernel⟩
theorem V_X6_wrongTotal : Cond.instanceMethod yX6_wrongTotal ∈ gU ∧ Cond.selects yX6_wrongTotal.cls yX6_wrongTotal yX6_wrongTotal ∈ gU := ⟨w346, sel_X6_wrongTotal⟩
theorem Y_X6_meanHeight : gY yX6_meanHeight cX6_meanHeight 2 (some .double) 0 := ⟨w1046, w1, ⟨by decide, by decide⟩, by decide +kernel⟩
theorem V_X6_meanHeight : Cond.instanceMethod yX6_meanHeight ∈ gU ∧ Cond.selects yX6_meanHeight.cls yX6_meanHeight yX6_meanHeight ∈ gU := ⟨w1044, sel_X6_meanHeight⟩
theorem Y_X6_rightShare : gY yX6_rightShare cX6_rightShare 2 (some .float) 0 := ⟨w1055, w1, ⟨by decide, by decide⟩, by decide +kernel⟩
theorem V_X6_rightShare : Cond.instanceMethod yX6_rightShare ∈ gU ∧ Cond.selects yX6_rightShare.cls yX6_rightShare yX6_rightShare ∈ gU := ⟨w1053, sel_X6_rightShare⟩
theorem Y_X6_isConsistent : gY yX6_isConsistent cX6_isConsistent 1 (some .boolean) 0 := ⟨w352, w1, ⟨by decide, by decide⟩, by decide +kernel⟩
theorem V_X6_isConsistent : Cond.instanceMethod yX6_isConsistent ∈ gU ∧ Cond.selects yX6_isConsistent.cls yX6_isConsistent yX6_isConsistent ∈ gU := ⟨w350, sel_X6_isConsistent⟩
theorem Y_X6_formatStack : gY yX6_formatStack cX6_formatStack 3 (some .int) 2 := ⟨w1063, w1, ⟨by decide, by decide⟩, by decide +kernel⟩
theorem V_X6_formatStack : Cond.instanceMethod yX6_formatStack ∈ gU ∧ Cond.selects yX6_formatStack.cls yX6_formatStack yX6_formatStack ∈ gU := ⟨w1061, sel_X6_formatStack⟩
theorem Y_X6_formatBerth : gY yX6_formatBerth cX6_formatBerth 2 (some .int) 1 := ⟨w1088, w1, ⟨by decide, by decide⟩, by decide +kernel⟩
theorem V_X6_formatBerth : Cond.instanceMethod yX6_formatBerth ∈ gU ∧ Cond.selects yX6_formatBerth.cls yX6_formatBerth yX6_formatBerth ∈ gU := ⟨w1086, sel_X6_formatBerth⟩
theorem Y_X6_lineChar : gY yX6_lineChar cX6_lineChar 2 (some .char) 1 := ⟨w1105, w1, ⟨by decide, by decide⟩, by decide +kernel⟩
theorem V_X6_lineChar : Cond.instanceMethod yX6_lineChar ∈ gU ∧ Cond.selects yX6_lineChar.cls yX6_lineChar yX6_lineChar ∈ gU := ⟨w1103, sel_X6_lineChar⟩
theorem Y_X6_append : gY yX6_append cX6_append 2 (some .int) 1 := ⟨w1117, w1, ⟨by decide, by decide⟩, by decide +kernel⟩
theorem V_X6_append : Cond.instanceMethod yX6_append ∈ gU ∧ Cond.selects yX6_append.cls yX6_append yX6_append ∈ gU := ⟨w1115, sel_X6_append⟩
theorem Y_X6_run : gY yX6_run cX6_run 3 (some .int) 0 := ⟨w1130, w1, ⟨by decide, by decide⟩, by decide +kernel⟩
theorem V_X6_run : Cond.instanceMethod yX6_run ∈ gU ∧ Cond.selects yX6_run.cls yX6_run yX6_run ∈ gU := ⟨w1128, sel_X6_run⟩
theorem Y_X6_errorPosition : gY yX6_errorPosition cX6_errorPosition 1 (some .int) 0 := ⟨w1290, w1, ⟨by decide, by decide⟩, by decide +kernel⟩
theorem V_X6_errorPosition : Cond.instanceMethod yX6_errorPosition ∈ gU ∧ Cond.selects yX6_errorPosition.cls yX6_errorPosition yX6_errorPosition ∈ gU := ⟨w1288, sel_X6_errorPosition⟩
theorem Y_X6_failedCommand : gY yX6_failedCommand cX6_failedCommand 1 (some .int) 0 := ⟨w1297, w1, ⟨by decide, by decide⟩, by decide +kernel⟩
theorem V_X6_failedCommand : Cond.instanceMethod yX6_failedCommand ∈ gU ∧ Cond.selects yX6_failedCommand.cls yX6_failedCommand yX6_failedCommand ∈ gU := ⟨w1295, sel_X6_failedCommand⟩
theorem Y_X6_undoableCount : gY yX6_undoableCount cX6_undoableCount 1 (some .int) 0 := ⟨w422, w1, ⟨by decide, by decide⟩, by decide +kernel⟩
theorem V_X6_undoableCount : Cond.instanceMethod yX6_undoableCount ∈ gU ∧ Cond.selects yX6_undoableCount.cls yX6_undoableCount yX6_undoableCount ∈ gU := ⟨w420, sel_X6_undoableCount⟩
theorem Y_X6_undo : gY yX6_undo cX6_undo 1 (some .int) 0 := ⟨w1304, w1, ⟨by decide, by decide⟩, by decide +kernel⟩
theorem V_X6_undo : Cond.instanceMethod yX6_undo ∈ gU ∧ Cond.selects yX6_undo.cls yX6_undo yX6_undo ∈ gU := ⟨w1302, sel_X6_undo⟩
theorem Y_X6_save : gY yX6_save cX6_save 1 (some .int) 0 := ⟨w426, w1, ⟨by decide, by decide⟩, by decide +kernel⟩
theorem V_X6_save : Cond.instanceMethod yX6_save ∈ gU ∧ Cond.selects yX6_save.cls yX6_save yX6_save ∈ gU := ⟨w424, sel_X6_save⟩
theorem Y_X6_restore : gY yX6_restore cX6_restore 1 (some .int) 0 := ⟨w1316, w1, ⟨by decide, by decide⟩, by decide +kernel⟩
theorem V_X6_restore : Cond.instanceMethod yX6_restore ∈ gU ∧ Cond.selects yX6_restore.cls yX6_restore yX6_restore ∈ gU := ⟨w1314, sel_X6_restore⟩
theorem Y_X7_thrown : gY yX7_thrown cX7_thrown 1 (some .int) 0 := ⟨w1379, w8, ⟨by decide, by decide⟩, by decide +kernel⟩
theorem V_X7_thrown : Cond.instanceMethod yX7_thrown ∈ gU ∧ Cond.selects yX7_thrown.cls yX7_thrown yX7_thrown ∈ gU := ⟨w1377, sel_X7_thrown⟩
theorem Y_X7_moor : gY yX7_moor cX7_moor 4 (some .int) 3 := ⟨w1383, w8, ⟨by decide, by decide⟩, by decide +kernel⟩
theorem V_X7_moor : Cond.instanceMethod yX7_moor ∈ gU ∧ Cond.selects yX7_moor.cls yX7_moor yX7_moor ∈ gU := ⟨w1381, sel_X7_moor⟩
theorem Y_X7_stow : gY yX7_stow cX7_stow 5 (some .int) 4 := ⟨w1420, w8, ⟨by decide, by decide⟩, by decide +kernel⟩
theorem V_X7_stow : Cond.instanceMethod yX7_stow ∈ gU ∧ Cond.selects yX7_stow.cls yX7_stow yX7_stow ∈ gU := ⟨w1418, sel_X7_stow⟩
theorem Y_X7_clear : gY yX7_clear cX7_clear 4 (some .boolean) 3 := ⟨w1442, w8, ⟨by decide, by decide⟩, by decide +kernel⟩
theorem V_X7_clear : Cond.instanceMethod yX7_clear ∈ gU ∧ Cond.selects yX7_clear.cls yX7_clear yX7_clear ∈ gU := ⟨w1440, sel_X7_clear⟩
theorem Y_X7_move : gY yX7_move cX7_move 4 (some .int) 3 := ⟨w1457, w8, ⟨by decide, by decide⟩, by decide +kernel⟩
theorem V_X7_move : Cond.instanceMethod yX7_move ∈ gU ∧ Cond.selects yX7_move.cls yX7_move yX7_move ∈ gU := ⟨w1455, sel_X7_move⟩
theorem Y_X7_deliver : gY yX7_deliver cX7_deliver 2 (some .int) 1 := ⟨w1465, w8, ⟨by decide, by decide⟩, by decide +kernel⟩
theorem V_X7_deliver : Cond.instanceMethod yX7_deliver ∈ gU ∧ Cond.selects yX7_deliver.cls yX7_deliver yX7_deliver ∈ gU := ⟨w1463, sel_X7_deliver⟩
theorem Y_X7_leave : gY yX7_leave cX7_leave 2 (some .int) 1 := ⟨w1477, w8, ⟨by decide, by decide⟩, by decide +kernel⟩
theorem V_X7_leave : Cond.instanceMethod yX7_leave ∈ gU ∧ Cond.selects yX7_leave.cls yX7_leave yX7_leave ∈ gU := ⟨w1475, sel_X7_leave⟩
theorem Y_X7_pass : gY yX7_pass cX7_pass 2 (some .int) 1 := ⟨w1500, w8, ⟨by decide, by decide⟩, by decide +kernel⟩
theorem V_X7_pass : Cond.instanceMethod yX7_pass ∈ gU ∧ Cond.selects yX7_pass.cls yX7_pass yX7_pass ∈ gU := ⟨w1498, sel_X7_pass⟩
theorem Y_X7_hour : gY yX7_hour cX7_hour 1 (some .int) 0 := ⟨w1512, w8, ⟨by decide, by decide⟩, by decide +kernel⟩
theorem V_X7_hour : Cond.instanceMethod yX7_hour ∈ gU ∧ Cond.selects yX7_hour.cls yX7_hour yX7_hour ∈ gU := ⟨w1510, sel_X7_hour⟩
theorem Y_X7_tide : gY yX7_tide cX7_tide 1 (some .int) 0 := ⟨w1516, w8, ⟨by decide, by decide⟩, by decide +kernel⟩
theorem V_X7_tide : Cond.instanceMethod yX7_tide ∈ gU ∧ Cond.selects yX7_tide.cls yX7_tide yX7_tide ∈ gU := ⟨w1514, sel_X7_tide⟩
theorem Y_X7_shipCount : gY yX7_shipCount cX7_shipCount 1 (some .int) 0 := ⟨w1520, w8, ⟨by decide, by decide⟩, by decide +kernel⟩
theorem V_X7_shipCount : Cond.instanceMethod yX7_shipCount ∈ gU ∧ Cond.selects yX7_shipCount.cls yX7_shipCount yX7_shipCount ∈ gU := ⟨w1518, sel_X7_shipCount⟩
theorem Y_X7_isMoored : gY yX7_isMoored cX7_isMoored 2 (some .boolean) 1 := ⟨w1524, w8, ⟨by decide, by decide⟩, by decide +kernel⟩
theorem V_X7_isMoored : Cond.instanceMethod yX7_isMoored ∈ gU ∧ Cond.selects yX7_isMoored.cls yX7_isMoored yX7_isMoored ∈ gU := ⟨w1522, sel_X7_isMoored⟩
theorem Y_X7_draught : gY yX7_draught cX7_draught 2 (some .int) 1 := ⟨w1532, w8, ⟨by decide, by decide⟩, by decide +kernel⟩
theorem V_X7_draught : Cond.instanceMethod yX7_draught ∈ gU ∧ Cond.selects yX7_draught.cls yX7_draught yX7_draught ∈ gU := ⟨w1530, sel_X7_draught⟩
theorem Y_X7_dueHour : gY yX7_dueHour cX7_dueHour 2 (some .int) 1 := ⟨w1544, w8, ⟨by decide, by decide⟩, by decide +kernel⟩
theorem V_X7_dueHour : Cond.instanceMethod yX7_dueHour ∈ gU ∧ Cond.selects yX7_dueHour.cls yX7_dueHour yX7_dueHour ∈ gU := ⟨w1542, sel_X7_dueHour⟩
theorem Y_X7_floats : gY yX7_floats cX7_floats 2 (some .boolean) 1 := ⟨w1548, w8, ⟨by decide, by decide⟩, by decide +kernel⟩
theorem V_X7_floats : Cond.instanceMethod yX7_floats ∈ gU ∧ Cond.selects yX7_floats.cls yX7_floats yX7_floats ∈ gU := ⟨w1546, sel_X7_floats⟩
theorem Y_X7_hoursUntilFloatingByTide : gY yX7_hoursUntilFloatingByTide cX7_hoursUntilFloatingByTide 2 (some .int) 1 := ⟨w1556, w8, ⟨by decide, by decide⟩, by decide +kernel⟩
theorem V_X7_hoursUntilFloatingByTide : Cond.instanceMethod yX7_hoursUntilFloatingByTide ∈ gU ∧ Cond.selects yX7_hoursUntilFloatingByTide.cls yX7_hoursUntilFloatingByTide yX7_hoursUntilFloatingByTide ∈ gU := ⟨w1554, sel_X7_hoursUntilFloatingByTide⟩
theorem Y_X7_mostUrgent : gY yX7_mostUrgent cX7_mostUrgent 3 (some .int) 0 := ⟨w1561, w8, ⟨by decide, by decide⟩, by decide +kernel⟩
theorem V_X7_mostUrgent : Cond.instanceMethod yX7_mostUrgent ∈ gU ∧ Cond.selects yX7_mostUrgent.cls yX7_mostUrgent yX7_mostUrgent ∈ gU := ⟨w1559, sel_X7_mostUrgent⟩
theorem Y_X7_canLeave : gY yX7_canLeave cX7_canLeave 2 (some .boolean) 1 := ⟨w1569, w8, ⟨by decide, by decide⟩, by decide +kernel⟩
theorem V_X7_canLeave : Cond.instanceMethod yX7_canLeave ∈ gU ∧ Cond.selects yX7_canLeave.cls yX7_canLeave yX7_canLeave ∈ gU := ⟨w1567, sel_X7_canLeave⟩
theorem Y_X7_lockedHours : gY yX7_lockedHours cX7_lockedHours 2 (some .int) 1 := ⟨w1573, w8, ⟨by decide, by decide⟩, by decide +kernel⟩
theorem V_X7_lockedHours : Cond.instanceMethod yX7_lockedHours ∈ gU ∧ Cond.selects yX7_lockedHours.cls yX7_lockedHours yX7_lockedHours ∈ gU := ⟨w1571, sel_X7_lockedHours⟩
theorem Y_X7_wrongAnswers : gY yX7_wrongAnswers cX7_wrongAnswers 2 (some .int) 1 := ⟨w1577, w8, ⟨by decide, by decide⟩, by decide +kernel⟩
theorem V_X7_wrongAnswers : Cond.instanceMethod yX7_wrongAnswers ∈ gU ∧ Cond.selects yX7_wrongAnswers.cls yX7_wrongAnswers yX7_wrongAnswers ∈ gU := ⟨w1575, sel_X7_wrongAnswers⟩
theorem Y_X7_stackHeight : gY yX7_stackHeight cX7_stackHeight 4 (some .int) 2 := ⟨w1581, w8, ⟨by decide, by decide⟩, by decide +kernel⟩
theorem V_X7_stackHeight : Cond.instanceMethod yX7_stackHeight ∈ gU ∧ Cond.selects yX7_stackHeight.cls yX7_stackHeight yX7_stackHeight ∈ gU := ⟨w1579, sel_X7_stackHeight⟩
theorem Y_X7_containerAt : gY yX7_containerAt cX7_containerAt 5 (some .int) 3 := ⟨w1589, w8, ⟨by decide, by decide⟩, by decide +kernel⟩
theorem V_X7_containerAt : Cond.instanceMethod yX7_containerAt ∈ gU ∧ Cond.selects yX7_containerAt.cls yX7_containerAt yX7_containerAt ∈ gU := ⟨w1587, sel_X7_containerAt⟩
theorem Y_X7_topOf : gY yX7_topOf cX7_topOf 5 (some .int) 2 := ⟨w1593, w8, ⟨by decide, by decide⟩, by decide +kernel⟩
theorem V_X7_topOf : Cond.instanceMethod yX7_topOf ∈ gU ∧ Cond.selects yX7_topOf.cls yX7_topOf yX7_topOf ∈ gU := ⟨w1591, sel_X7_topOf⟩
theorem Y_X7_containersOn : gY yX7_containersOn cX7_containersOn 3 (some .int) 1 := ⟨w1597, w8, ⟨by decide, by decide⟩, by decide +kernel⟩
theorem V_X7_containersOn : Cond.instanceMethod yX7_containersOn ∈ gU ∧ Cond.selects yX7_containersOn.cls yX7_containersOn yX7_containersOn ∈ gU := ⟨w1595, sel_X7_containersOn⟩
theorem Y_X7_weightOnByContainers : gY yX7_weightOnByContainers cX7_weightOnByContainers 2 (some .int) 1 := ⟨w1609, w8, ⟨by decide, by decide⟩, by decide +kernel⟩
theorem V_X7_weightOnByContainers : Cond.instanceMethod yX7_weightOnByContainers ∈ gU ∧ Cond.selects yX7_weightOnByContainers.cls yX7_weightOnByContainers yX7_weightOnByContainers ∈ gU := ⟨w1607, sel_X7_weightOnByContainers⟩
theorem Y_X7_isOnShip : gY yX7_isOnShip cX7_isOnShip 2 (some .boolean) 1 := ⟨w1614, w8, ⟨by decide, by decide⟩, by decide +kernel⟩
theorem V_X7_isOnShip : Cond.instanceMethod yX7_isOnShip ∈ gU ∧ Cond.selects yX7_isOnShip.cls yX7_isOnShip yX7_isOnShip ∈ gU := ⟨w1612, sel_X7_isOnShip⟩
theorem Y_X7_isInYard : gY yX7_isInYard cX7_isInYard 2 (some .boolean) 1 := ⟨w1622, w8, ⟨by decide, by decide⟩, by decide +kernel⟩
theorem V_X7_isInYard : Cond.instanceMethod yX7_isInYard ∈ gU ∧ Cond.selects yX7_isInYard.cls yX7_isInYard yX7_isInYard ∈ gU := ⟨w1620, sel_X7_isInYard⟩
theorem Y_X7_answerOf : gY yX7_answerOf cX7_answerOf 4 (some .int) 1 := ⟨w1638, w8, ⟨by decide, by decide⟩, by decide +kernel⟩
theorem V_X7_answerOf : Cond.instanceMethod yX7_answerOf ∈ gU ∧ Cond.selects yX7_answerOf.cls yX7_answerOf yX7_answerOf ∈ gU := ⟨w1636, sel_X7_answerOf⟩
theorem Y_X7_berthOf : gY yX7_berthOf cX7_berthOf 3 (some .int) 1 := ⟨w1644, w8, ⟨by decide, by decide⟩, by decide +kernel⟩
theorem V_X7_berthOf : Cond.instanceMethod yX7_berthOf ∈ gU ∧ Cond.selects yX7_berthOf.cls yX7_berthOf yX7_berthOf ∈ gU := ⟨w1642, sel_X7_berthOf⟩
theorem Y_X7_stackOf : gY yX7_stackOf cX7_stackOf 3 (some .int) 1 := ⟨w1648, w8, ⟨by decide, by decide⟩, by decide +kernel⟩
theorem V_X7_stackOf : Cond.instanceMethod yX7_stackOf ∈ gU ∧ Cond.selects yX7_stackOf.cls yX7_stackOf yX7_stackOf ∈ gU := ⟨w1646, sel_X7_stackOf⟩
theorem Y_X7_levelOf : gY yX7_levelOf cX7_levelOf 3 (some .int) 1 := ⟨w1652, w8, ⟨by decide, by decide⟩, by decide +kernel⟩
theorem V_X7_levelOf : Cond.instanceMethod yX7_levelOf ∈ gU ∧ Cond.selects yX7_levelOf.cls yX7_levelOf yX7_levelOf ∈ gU := ⟨w1650, sel_X7_levelOf⟩
theorem Y_X7_movesToReachByCopy : gY yX7_movesToReachByCopy cX7_movesToReachByCopy 2 (some .int) 1 := ⟨w1664, w8, ⟨by decide, by decide⟩, by decide +kernel⟩
theorem V_X7_movesToReachByCopy : Cond.instanceMethod yX7_movesToReachByCopy ∈ gU ∧ Cond.selects yX7_movesToReachByCopy.cls yX7_movesToReachByCopy yX7_movesToReachByCopy ∈ gU := ⟨w1662, sel_X7_movesToReachByCopy⟩
theorem Y_X7_heaviestAbove : gY yX7_heaviestAbove cX7_heaviestAbove 5 (some .int) 1 := ⟨w1669, w8, ⟨by decide, by decide⟩, by decide +kernel⟩
theorem V_X7_heaviestAbove : Cond.instanceMethod yX7_heaviestAbove ∈ gU ∧ Cond.selects yX7_heaviestAbove.cls yX7_heaviestAbove yX7_heaviestAbove ∈ gU := ⟨w1667, sel_X7_heaviestAbove⟩
theorem Y_X7_containerByWeight : gY yX7_containerByWeight cX7_containerByWeight 5 (some .int) 1 := ⟨w1677, w8, ⟨by decide, by decide⟩, by decide +kernel⟩
theorem V_X7_containerByWeight : Cond.instanceMethod yX7_containerByWeight ∈ gU ∧ Cond.selects yX7_containerByWeight.cls yX7_containerByWeight yX7_containerByWeight ∈ gU := ⟨w1675, sel_X7_containerByWeight⟩
theorem Y_X7_emptiestStack : gY yX7_emptiestStack cX7_emptiestStack 5 (some .int) 1 := ⟨w1681, w8, ⟨by decide, by decide⟩, by decide +kernel⟩
theorem V_X7_emptiestStack : Cond.instanceMethod yX7_emptiestStack ∈ gU ∧ Cond.selects yX7_emptiestStack.cls yX7_emptiestStack yX7_emptiestStack ∈ gU := ⟨w1679, sel_X7_emptiestStack⟩
theorem Y_X7_heavyOverLight : gY yX7_heavyOverLight cX7_heavyOverLight 7 (some .int) 2 := ⟨w1685, w8, ⟨by decide, by decide⟩, by decide +kernel⟩
theorem V_X7_heavyOverLight : Cond.instanceMethod yX7_heavyOverLight ∈ gU ∧ Cond.selects yX7_heavyOverLight.cls yX7_heavyOverLight yX7_heavyOverLight ∈ gU := ⟨w1683, sel_X7_heavyOverLight⟩
theorem Y_X7_differentKeys : gY yX7_differentKeys cX7_differentKeys 3 (some .int) 0 := ⟨w1689, w8, ⟨by decide, by decide⟩, by decide +kernel⟩
theorem V_X7_differentKeys : Cond.instanceMethod yX7_differentKeys ∈ gU ∧ Cond.selects yX7_differentKeys.cls yX7_differentKeys yX7_differentKeys ∈ gU := ⟨w1687, sel_X7_differentKeys⟩
theorem Y_X7_keyTwinsByGroups : gY yX7_keyTwinsByGroups cX7_keyTwinsByGroups 1 (some .int) 0 := ⟨w1701, w8, ⟨by decide, by decide⟩, by decide +kernel⟩
theorem V_X7_keyTwinsByGroups : Cond.instanceMethod yX7_keyTwinsByGroups ∈ gU ∧ Cond.selects yX7_keyTwinsByGroups.cls yX7_keyTwinsByGroups yX7_keyTwinsByGroups ∈ gU := ⟨w1699, sel_X7_keyTwinsByGroups⟩
theorem Y_X7_yardCount : gY yX7_yardCount cX7_yardCount 1 (some .int) 0 := ⟨w1706, w8, ⟨by decide, by decide⟩, by decide +kernel⟩
theorem V_X7_yardCount : Cond.instanceMethod yX7_yardCount ∈ gU ∧ Cond.selects yX7_yardCount.cls yX7_yardCount yX7_yardCount ∈ gU := ⟨w1704, sel_X7_yardCount⟩
theorem Y_X7_yardAt : gY yX7_yardAt cX7_yardAt 2 (some .int) 1 := ⟨w1710, w8, ⟨by decide, by decide⟩, by decide +kernel⟩
theorem V_X7_yardAt : Cond.instanceMethod yX7_yardAt ∈ gU ∧ Cond.selects yX7_yardAt.cls yX7_yardAt yX7_yardAt ∈ gU := ⟨w1708, sel_X7_yardAt⟩
theorem Y_X7_feesAfter : gY yX7_feesAfter cX7_feesAfter 3 (some .int) 1 := ⟨w1714, w8, ⟨by decide, by decide⟩, by decide +kernel⟩
theorem V_X7_feesAfter : Cond.instanceMethod yX7_feesAfter ∈ gU ∧ Cond.selects yX7_feesAfter.cls yX7_feesAfter yX7_feesAfter ∈ gU := ⟨w1712, sel_X7_feesAfter⟩
theorem Y_X7_fees : gY yX7_fees cX7_fees 1 (some .int) 0 := ⟨w1718, w8, ⟨by decide, by decide⟩, by decide +kernel⟩
theorem V_X7_fees : Cond.instanceMethod yX7_fees ∈ gU ∧ Cond.selects yX7_fees.cls yX7_fees yX7_fees ∈ gU := ⟨w1716, sel_X7_fees⟩
theorem Y_X7_clearedTotal : gY yX7_clearedTotal cX7_clearedTotal 1 (some .int) 0 := ⟨w1722, w8, ⟨by decide, by decide⟩, by decide +kernel⟩
theorem V_X7_clearedTotal : Cond.instanceMethod yX7_clearedTotal ∈ gU ∧ Cond.selects yX7_clearedTotal.cls yX7_clearedTotal yX7_clearedTotal ∈ gU := ⟨w1720, sel_X7_clearedTotal⟩
theorem Y_X7_deliveredTotal : gY yX7_deliveredTotal cX7_deliveredTotal 1 (some .int) 0 := ⟨w1726, w8, ⟨by decide, by decide⟩, by decide +kernel⟩
theorem V_X7_deliveredTotal : Cond.instanceMethod yX7_deliveredTotal ∈ gU ∧ Cond.selects yX7_deliveredTotal.cls yX7_deliveredTotal yX7_deliveredTotal ∈ gU := ⟨w1724, sel_X7_deliveredTotal⟩
theorem Y_X7_wrongTotal : gY yX7_wrongTotal cX7_wrongTotal 1 (some .int) 0 := ⟨w1730, w8, ⟨by decide, by decide⟩, by decide +kernel⟩
theorem V_X7_wrongTotal : Cond.instanceMethod yX7_wrongTotal ∈ gU ∧ Cond.selects yX7_wrongTotal.cls yX7_wrongTotal yX7_wrongTotal ∈ gU := ⟨w1728, sel_X7_wrongTotal⟩
theorem Y_X7_meanHeight : gY yX7_meanHeight cX7_meanHeight 1 (some .double) 0 := ⟨w1734, w8, ⟨by decide, by decide⟩, by decide +kernel⟩
theorem V_X7_meanHeight : Cond.instanceMethod yX7_meanHeight ∈ gU ∧ Cond.selects yX7_meanHeight.cls yX7_meanHeight yX7_meanHeight ∈ gU := ⟨w1732, sel_X7_meanHeight⟩
theorem Y_X7_rightShare : gY yX7_rightShare cX7_rightShare 2 (some .float) 0 := ⟨w1738, w8, ⟨by decide, by decide⟩, by decide +kernel⟩
theorem V_X7_rightShare : Cond.instanceMethod yX7_rightShare ∈ gU ∧ Cond.selects yX7_rightShare.cls yX7_rightShare yX7_rightShare ∈ gU := ⟨w1736, sel_X7_rightShare⟩
theorem Y_X7_isConsistent : gY yX7_isConsistent cX7_isConsistent 1 (some .boolean) 0 := ⟨w1742, w8, ⟨by decide, by decide⟩, by decide +kernel⟩
theorem V_X7_isConsistent : Cond.instanceMethod yX7_isConsistent ∈ gU ∧ Cond.selects yX7_isConsistent.cls yX7_isConsistent yX7_isConsistent ∈ gU := ⟨w1740, sel_X7_isConsistent⟩
theorem Y_X7_formatStack : gY yX7_formatStack cX7_formatStack 6 (some .int) 2 := ⟨w1746, w8, ⟨by decide, by decide⟩, by decide +kernel⟩
theorem V_X7_formatStack : Cond.instanceMethod yX7_formatStack ∈ gU ∧ Cond.selects yX7_formatStack.cls yX7_formatStack yX7_formatStack ∈ gU := ⟨w1744, sel_X7_formatStack⟩
theorem Y_X7_formatBerth : gY yX7_formatBerth cX7_formatBerth 2 (some .int) 1 := ⟨w1758, w8, ⟨by decide, by decide⟩, by decide +kernel⟩
theorem V_X7_formatBerth : Cond.instanceMethod yX7_formatBerth ∈ gU ∧ Cond.selects yX7_formatBerth.cls yX7_formatBerth yX7_formatBerth ∈ gU := ⟨w1756, sel_X7_formatBerth⟩
theorem Y_X7_lineChar : gY yX7_lineChar cX7_lineChar 2 (some .char) 1 := ⟨w1766, w8, ⟨by decide, by decide⟩, by decide +kernel⟩
theorem V_X7_lineChar : Cond.instanceMethod yX7_lineChar ∈ gU ∧ Cond.selects yX7_lineChar.cls yX7_lineChar yX7_lineChar ∈ gU := ⟨w1764, sel_X7_lineChar⟩
theorem Y_X7_append : gY yX7_append cX7_append 2 (some .int) 1 := ⟨w1770, w8, ⟨by decide, by decide⟩, by decide +kernel⟩
theorem V_X7_append : Cond.instanceMethod yX7_append ∈ gU ∧ Cond.selects yX7_append.cls yX7_append yX7_append ∈ gU := ⟨w1768, sel_X7_append⟩
theorem Y_X7_run : gY yX7_run cX7_run 5 (some .int) 0 := ⟨w1774, w8, ⟨by decide, by decide⟩, by decide +kernel⟩
theorem V_X7_run : Cond.instanceMethod yX7_run ∈ gU ∧ Cond.selects yX7_run.cls yX7_run yX7_run ∈ gU := ⟨w1772, sel_X7_run⟩
theorem Y_X7_errorPosition : gY yX7_errorPosition cX7_errorPosition 1 (some .int) 0 := ⟨w1818, w8, ⟨by decide, by decide⟩, by decide +kernel⟩
theorem V_X7_errorPosition : Cond.instanceMethod yX7_errorPosition ∈ gU ∧ Cond.selects yX7_errorPosition.cls yX7_errorPosition yX7_errorPosition ∈ gU := ⟨w1816, sel_X7_errorPosition⟩
theorem Y_X7_failedCommand : gY yX7_failedCommand cX7_failedCommand 1 (some .int) 0 := ⟨w1822, w8, ⟨by decide, by decide⟩, by decide +kernel⟩
theorem V_X7_failedCommand : Cond.instanceMethod yX7_failedCommand ∈ gU ∧ Cond.selects yX7_failedCommand.cls yX7_failedCommand yX7_failedCommand ∈ gU := ⟨w1820, sel_X7_failedCommand⟩
theorem Y_X7_undoableCount : gY yX7_undoableCount cX7_undoableCount 1 (some .int) 0 := ⟨w1826, w8, ⟨by decide, by decide⟩, by decide +kernel⟩
theorem V_X7_undoableCount : Cond.instanceMethod yX7_undoableCount ∈ gU ∧ Cond.selects yX7_undoableCount.cls yX7_undoableCount yX7_undoableCount ∈ gU := ⟨w1824, sel_X7_undoableCount⟩
theorem Y_X7_undo : gY yX7_undo cX7_undo 1 (some .int) 0 := ⟨w1830, w8, ⟨by decide, by decide⟩, by decide +kernel⟩
theorem V_X7_undo : Cond.instanceMethod yX7_undo ∈ gU ∧ Cond.selects yX7_undo.cls yX7_undo yX7_undo ∈ gU := ⟨w1828, sel_X7_undo⟩
theorem Y_X7_save : gY yX7_save cX7_save 1 (some .int) 0 := ⟨w1834, w8, ⟨by decide, by decide⟩, by decide +kernel⟩
theorem V_X7_save : Cond.instanceMethod yX7_save ∈ gU ∧ Cond.selects yX7_save.cls yX7_save yX7_save ∈ gU := ⟨w1832, sel_X7_save⟩
theorem Y_X7_restore : gY yX7_restore cX7_restore 1 (some .int) 0 := ⟨w1838, w8, ⟨by decide, by decide⟩, by decide +kernel⟩
theorem V_X7_restore : Cond.instanceMethod yX7_restore ∈ gU ∧ Cond.selects yX7_restore.cls yX7_restore yX7_restore ∈ gU := ⟨w1836, sel_X7_restore⟩
section GF
variable {p : Program} {l : Launch} {e : Env} {R : Room} {s : State} {m : MethodId} {args : Array Value} {below : List Frame} {meth : Method} {c : Code} {H : Heap} {locs : List Loc} {cells slots : Nat} {Q : State → Prop}
variable {E : gE} {M : gM} {x : gX} {cc : ByteArray} {nL pc : Nat} {ls : Array Slot} {rest : List Value}
theorem gt_X5_X5_draughts (hC : gC p s m args c cc nL RX5 E) (hI : gI E s M x H locs) {o : Nat} (ho : gOk o) (hdg : decode cc pc = .ok (.getfield 18, 3)) (kk : W p l e R s m args below meth c H locs cells slots Q (F0 m (pc + 3) ls (.ref (E.2.1 (o + 8)) :: rest))) : W p l e R s m args below meth c H locs cells slots Q (F0 m pc ls (.ref (E.2.1 o) :: rest)) := g_get hC hI (k := 1) (gOk_lt ho (k := 0) (by decide)) (gct_st ho (k := 0) (by decide) E _ x) rfl uX5 (by decide) rfl w70 hdg kk
theorem gt_X5_X5_hour (hC : gC p s m args c cc nL RX5 E) (hI : gI E s M x H locs) {o : Nat} (ho : gOk o) (hdg : decode cc pc = .ok (.getfield 31, 3)) (kk : W p l e R s m args below meth c H locs cells slots Q (F0 m (pc + 3) ls (.int (M o 5) :: rest))) : W p l e R s m args below meth c H locs cells slots Q (F0 m pc ls (.ref (E.2.1 o) :: rest)) := g_get hC hI (k := 5) (gOk_lt ho (k := 0) (by decide)) (gct_st ho (k := 0) (by decide) E _ x) rfl uX5 (by decide) rfl w82 hdg kk
theorem gt_X0_X0_ids (hC : gC p s m args c cc nL RX0 E) (hI : gI E s M x H locs) {o : Nat} (ho : gOk o) (hdg : decode cc pc = .ok (.getfield 9, 3)) (kk : W p l e R s m args below meth c H locs cells slots Q (F0 m (pc + 3) ls (.ref (E.2.1 (o + 2)) :: rest))) : W p l e R s m args below meth c H locs cells slots Q (F0 m pc ls (.ref (E.2.1 (o + 1)) :: rest)) := g_get hC hI (k := 0) (gOk_lt ho (k := 1) (by decide)) (gct_st ho (k := 1) (by decide) E _ x) rfl uX0 (by decide) rfl w44 hdg kk
theorem gt_X0_X0_weights (hC : gC p s m args c cc nL RX0 E) (hI : gI E s M x H locs) {o : Nat} (ho : gOk o) (hdg : decode cc pc = .ok (.getfield 15, 3)) (kk : W p l e R s m args below meth c H locs cells slots Q (F0 m (pc + 3) ls (.ref (E.2.1 (o + 3)) :: rest))) : W p l e R s m args below meth c H locs cells slots Q (F0 m pc ls (.ref (E.2.1 (o + 1)) :: rest)) := g_get hC hI (k := 1) (gOk_lt ho (k := 1) (by decide)) (gct_st ho (k := 1) (by decide) E _ x) rfl uX0 (by decide) rfl w45 hdg kk
theorem gt_X0_X0_keys (hC : gC p s m args c cc nL RX0 E) (hI : gI E s M x H locs) {o : Nat} (ho : gOk o) (hdg : decode cc pc = .ok (.getfield 18, 3)) (kk : W p l e R s m args below meth c H locs cells slots Q (F0 m (pc + 3) ls (.ref (E.2.1 (o + 4)) :: rest))) : W p l e R s m args below meth c H locs cells slots Q (F0 m pc ls (.ref (E.2.1 (o + 1)) :: rest)) := g_get hC hI (k := 2) (gOk_lt ho (k := 1) (by decide)) (gct_st ho (k := 1) (by decide) E _ x) rfl uX0 (by decide) rfl w46 hdg kk
theorem gt_X0_X0_piles (hC : gC p s m args c cc nL RX0 E) (hI : gI E s M x H locs) {o : Nat} (ho : gOk o) (hdg : decode cc pc = .ok (.getfield 21, 3)) (kk : W p l e R s m args below meth c H locs cells slots Q (F0 m (pc + 3) ls (.ref (E.2.1 (o + 5)) :: rest))) : W p l e R s m args below meth c H locs cells slots Q (F0 m pc ls (.ref (E.2.1 (o + 1)) :: rest)) := g_get hC hI (k := 3) (gOk_lt ho (k := 1) (by decide)) (gct_st ho (k := 1) (by decide) E _ x) rfl uX0 (by decide) rfl w47 hdg kk
theorem gt_X0_X0_levels (hC : gC p s m args c cc nL RX0 E) (hI : gI E s M x H locs) {o : Nat} (ho : gOk o) (hdg : decode cc pc = .ok (.getfield 24, 3)) (kk : W p l e R s m args below meth c H locs cells slots Q (F0 m (pc + 3) ls (.ref (E.2.1 (o + 6)) :: rest))) : W p l e R s m args below meth c H locs cells slots Q (F0 m pc ls (.ref (E.2.1 (o + 1)) :: rest)) := g_get hC hI (k := 4) (gOk_lt ho (k := 1) (by decide)) (gct_st ho (k := 1) (by decide) E _ x) rfl uX0 (by decide) rfl w48 hdg kk
theorem gt_X0_X0_count (hC : gC p s m args c cc nL RX0 E) (hI : gI E s M x H locs) {o : Nat} (ho : gOk o) (hdg : decode cc pc = .ok (.getfield 30, 3)) (kk : W p l e R s m args below meth c H locs cells slots Q (F0 m (pc + 3) ls (.int (M (o + 1) 6) :: rest))) : W p l e R s m args below meth c H locs cells slots Q (F0 m pc ls (.ref (E.2.1 (o + 1)) :: rest)) := g_get hC hI (k := 6) (gOk_lt ho (k := 1) (by decide)) (gct_st ho (k := 1) (by decide) E _ x) rfl uX0 (by decide) rfl w50 hdg kk
theorem pt_X0_X0_count (hC : gC p s m args c cc nL RX0 E) (hI : gI E s M x H locs) {o : Nat} (ho : gOk o) {v : Int32} (hdg : decode cc pc = .ok (.putfield 30, 3)) (kk : ∀ H1 locs1, gI E s (gs M (o + 1) 6 v) x H1 locs1 → W p l e R s m args below meth c H1 locs1 cells slots Q (F0 m (pc + 3) ls rest)) : W p l e R s m args below meth c H locs cells slots Q (F0 m pc ls (.int v :: .ref (E.2.1 (o + 1)) :: rest)) := g_put hC hI (k := 6) (ty := .int) (gOk_lt ho (k := 1) (by decide)) tyX0 tyX0_ok nmX0 (gct_st ho (k := 1) (by decide) E _ x) rfl uX0 (by decide) w50 rfl (by decide +kernel) rfl rfl (Nat.le_of_ble_eq_true rfl) ((gct_st ho (k := 1) (by decide) E _ x).trans rfl) hdg kk
theorem gt_X5_X5_cargo (hC : gC p s m args c cc nL RX5 E) (hI : gI E s M x H locs) {o : Nat} (ho : gOk o) (hdg : decode cc pc = .ok (.getfield 12, 3)) (kk : W p l e R s m args below meth c H locs cells slots Q (F0 m (pc + 3) ls (.ref (E.2.1 (o + 1)) :: rest))) : W p l e R s m args below meth c H locs cells slots Q (F0 m pc ls (.ref (E.2.1 o) :: rest)) := g_get hC hI (k := 0) (gOk_lt ho (k := 0) (by decide)) (gct_st ho (k := 0) (by decide) E _ x) rfl uX5 (by decide) rfl w67 hdg kk
theorem gt_X5_X5_dueHours (hC : gC p s m args c cc nL RX5 E) (hI : gI E s M x H locs) {o : Nat} (ho : gOk o) (hdg : decode cc pc = .ok (.getfield 22, 3)) (kk : W p l e R s m args below meth c H locs cells slots Q (F0 m (pc + 3) ls (.ref (E.2.1 (o + 9)) :: rest))) : W p l e R s m args below meth c H locs cells slots Q (F0 m pc ls (.ref (E.2.1 o) :: rest)) := g_get hC hI (k := 2) (gOk_lt ho (k := 0) (by decide)) (gct_st ho (k := 0) (by decide) E _ x) rfl uX5 (by decide) rfl w73 hdg kk
theorem gt_X5_X5_wrongs (hC : gC p s m args c cc nL RX5 E) (hI : gI E s M x H locs) {o : Nat} (ho : gOk o) (hdg : decode cc pc = .ok (.getfield 25, 3)) (kk : W p l e R s m args below meth c H locs cells slots Q (F0 m (pc + 3) ls (.ref (E.2.1 (o + 10)) :: rest))) : W p l e R s m args below meth c H locs cells slots Q (F0 m pc ls (.ref (E.2.1 o) :: rest)) := g_get hC hI (k := 3) (gOk_lt ho (k := 0) (by decide)) (gct_st ho (k := 0) (by decide) E _ x) rfl uX5 (by decide) rfl w76 hdg kk
theorem gt_X5_X5_locks (hC : gC p s m args c cc nL RX5 E) (hI : gI E s M x H locs) {o : Nat} (ho : gOk o) (hdg : decode cc pc = .ok (.getfield 28, 3)) (kk : W p l e R s m args below meth c H locs cells slots Q (F0 m (pc + 3) ls (.ref (E.2.1 (o + 11)) :: rest))) : W p l e R s m args below meth c H locs cells slots Q (F0 m pc ls (.ref (E.2.1 o) :: rest)) := g_get hC hI (k := 4) (gOk_lt ho (k := 0) (by decide)) (gct_st ho (k := 0) (by decide) E _ x) rfl uX5 (by decide) rfl w79 hdg kk
theorem pt_X5_X5_hour (hC : gC p s m args c cc nL RX5 E) (hI : gI E s M x H locs) {o : Nat} (ho : gOk o) {v : Int32} (hdg : decode cc pc = .ok (.putfield 31, 3)) (kk : ∀ H1 locs1, gI E s (gs M o 5 v) x H1 locs1 → W p l e R s m args below meth c H1 locs1 cells slots Q (F0 m (pc + 3) ls rest)) : W p l e R s m args below meth c H locs cells slots Q (F0 m pc ls (.int v :: .ref (E.2.1 o) :: rest)) := g_put hC hI (k := 5) (ty := .int) (gOk_lt ho (k := 0) (by decide)) tyX5 tyX5_ok nmX5 (gct_st ho (k := 0) (by decide) E _ x) rfl uX5 (by decide) w82 rfl (by decide +kernel) rfl rfl (Nat.le_of_ble_eq_true rfl) ((gct_st ho (k := 0) (by decide) E _ x).trans rfl) hdg kk
theorem gt_X5_X5_fees (hC : gC p s m args c cc nL RX5 E) (hI : gI E s M x H locs) {o : Nat} (ho : gOk o) (hdg : decode cc pc = .ok (.getfield 35, 3)) (kk : W p l e R s m args below meth c H locs cells slots Q (F0 m (pc + 3) ls (.int (M o 6) :: rest))) : W p l e R s m args below meth c H locs cells slots Q (F0 m pc ls (.ref (E.2.1 o) :: rest)) := g_get hC hI (k := 6) (gOk_lt ho (k := 0) (by decide)) (gct_st ho (k := 0) (by decide) E _ x) rfl uX5 (by decide) rfl w84 hdg kk
theorem pt_X5_X5_fees (hC : gC p s m args c cc nL RX5 E) (hI : gI E s M x H locs) {o : Nat} (ho : gOk o) {v : Int32} (hdg : decode cc pc = .ok (.putfield 35, 3)) (kk : ∀ H1 locs1, gI E s (gs M o 6 v) x H1 locs1 → W p l e R s m args below meth c H1 locs1 cells slots Q (F0 m (pc + 3) ls rest)) : W p l e R s m args below meth c H locs cells slots Q (F0 m pc ls (.int v :: .ref (E.2.1 o) :: rest)) := g_put hC hI (k := 6) (ty := .int) (gOk_lt ho (k := 0) (by decide)) tyX5 tyX5_ok nmX5 (gct_st ho (k := 0) (by decide) E _ x) rfl uX5 (by decide) w84 rfl (by decide +kernel) rfl rfl (Nat.le_of_ble_eq_true rfl) ((gct_st ho (k := 0) (by decide) E _ x).trans rfl) hdg kk
theorem gt_X5_X5_nextId (hC : gC p s m args c cc nL RX5 E) (hI : gI E s M x H locs) {o : Nat} (ho : gOk o) (hdg : decode cc pc = .ok (.getfield 38, 3)) (kk : W p l e R s m args below meth c H locs cells slots Q (F0 m (pc + 3) ls (.int (M o 7) :: rest))) : W p l e R s m args below meth c H locs cells slots Q (F0 m pc ls (.ref (E.2.1 o) :: rest)) := g_get hC hI (k := 7) (gOk_lt ho (k := 0) (by decide)) (gct_st ho (k := 0) (by decide) E _ x) rfl uX5 (by decide) rfl w86 hdg kk
theorem pt_X5_X5_nextId (hC : gC p s m args c cc nL RX5 E) (hI : gI E s M x H locs) {o : Nat} (ho : gOk o) {v : Int32} (hdg : decode cc pc = .ok (.putfield 38, 3)) (kk : ∀ H1 locs1, gI E s (gs M o 7 v) x H1 locs1 → W p l e R s m args below meth c H1 locs1 cells slots Q (F0 m (pc + 3) ls rest)) : W p l e R s m args below meth c H locs cells slots Q (F0 m pc ls (.int v :: .ref (E.2.1 o) :: rest)) := g_put hC hI (k := 7) (ty := .int) (gOk_lt ho (k := 0) (by decide)) tyX5 tyX5_ok nmX5 (gct_st ho (k := 0) (by decide) E _ x) rfl uX5 (by decide) w86 rfl (by decide +kernel) rfl rfl (Nat.le_of_ble_eq_true rfl) ((gct_st ho (k := 0) (by decide) E _ x).trans rfl) hdg kk
theorem gt_X5_X5_cleared (hC : gC p s m args c cc nL RX5 E) (hI : gI E s M x H locs) {o : Nat} (ho : gOk o) (hdg : decode cc pc = .ok (.getfield 41, 3)) (kk : W p l e R s m args below meth c H locs cells slots Q (F0 m (pc + 3) ls (.int (M o 8) :: rest))) : W p l e R s m args below meth c H locs cells slots Q (F0 m pc ls (.ref (E.2.1 o) :: rest)) := g_get hC hI (k := 8) (gOk_lt ho (k := 0) (by decide)) (gct_st ho (k := 0) (by decide) E _ x) rfl uX5 (by decide) rfl w88 hdg kk
theorem pt_X5_X5_cleared (hC : gC p s m args c cc nL RX5 E) (hI : gI E s M x H locs) {o : Nat} (ho : gOk o) {v : Int32} (hdg : decode cc pc = .ok (.putfield 41, 3)) (kk : ∀ H1 locs1, gI E s (gs M o 8 v) x H1 locs1 → W p l e R s m args below meth c H1 locs1 cells slots Q (F0 m (pc + 3) ls rest)) : W p l e R s m args below meth c H locs cells slots Q (F0 m pc ls (.int v :: .ref (E.2.1 o) :: rest)) := g_put hC hI (k := 8) (ty := .int) (gOk_lt ho (k := 0) (by decide)) tyX5 tyX5_ok nmX5 (gct_st ho (k := 0) (by decide) E _ x) rfl uX5 (by decide) w88 rfl (by decide +kernel) rfl rfl (Nat.le_of_ble_eq_true rfl) ((gct_st ho (k := 0) (by decide) E _ x).trans rfl) hdg kk
theorem gt_X5_X5_delivered (hC : gC p s m args c cc nL RX5 E) (hI : gI E s M x H locs) {o : Nat} (ho : gOk o) (hdg : decode cc pc = .ok (.getfield 44, 3)) (kk : W p l e R s m args below meth c H locs cells slots Q (F0 m (pc + 3) ls (.int (M o 9) :: rest))) : W p l e R s m args below meth c H locs cells slots Q (F0 m pc ls (.ref (E.2.1 o) :: rest)) := g_get hC hI (k := 9) (gOk_lt ho (k := 0) (by decide)) (gct_st ho (k := 0) (by decide) E _ x) rfl uX5 (by decide) rfl w90 hdg kk
theorem pt_X5_X5_delivered (hC : gC p s m args c cc nL RX5 E) (hI : gI E s M x H locs) {o : Nat} (ho : gOk o) {v : Int32} (hdg : decode cc pc = .ok (.putfield 44, 3)) (kk : ∀ H1 locs1, gI E s (gs M o 9 v) x H1 locs1 → W p l e R s m args below meth c H1 locs1 cells slots Q (F0 m (pc + 3) ls rest)) : W p l e R s m args below meth c H locs cells slots Q (F0 m pc ls (.int v :: .ref (E.2.1 o) :: rest)) := g_put hC hI (k := 9) (ty := .int) (gOk_lt ho (k := 0) (by decide)) tyX5 tyX5_ok nmX5 (gct_st ho (k := 0) (by decide) E _ x) rfl uX5 (by decide) w90 rfl (by decide +kernel) rfl rfl (Nat.le_of_ble_eq_true rfl) ((gct_st ho (k := 0) (by decide) E _ x).trans rfl) hdg kk
theorem gt_X5_X5_wrong (hC : gC p s m args c cc nL RX5 E) (hI : gI E s M x H locs) {o : Nat} (ho : gOk o) (hdg : decode cc pc = .ok (.getfield 47, 3)) (kk : W p l e R s m args below meth c H locs cells slots Q (F0 m (pc + 3) ls (.int (M o 10) :: rest))) : W p l e R s m args below meth c H locs cells slots Q (F0 m pc ls (.ref (E.2.1 o) :: rest)) := g_get hC hI (k := 10) (gOk_lt ho (k := 0) (by decide)) (gct_st ho (k := 0) (by decide) E _ x) rfl uX5 (by decide) rfl w92 hdg kk
theorem pt_X5_X5_wrong (hC : gC p s m args c cc nL RX5 E) (hI : gI E s M x H locs) {o : Nat} (ho : gOk o) {v : Int32} (hdg : decode cc pc = .ok (.putfield 47, 3)) (kk : ∀ H1 locs1, gI E s (gs M o 10 v) x H1 locs1 → W p l e R s m args below meth c H1 locs1 cells slots Q (F0 m (pc + 3) ls rest)) : W p l e R s m args below meth c H locs cells slots Q (F0 m pc ls (.int v :: .ref (E.2.1 o) :: rest)) := g_put hC hI (k := 10) (ty := .int) (gOk_lt ho (k := 0) (by decide)) tyX5 tyX5_ok nmX5 (gct_st ho (k := 0) (by decide) E _ x) rfl uX5 (by decide) w92 rfl (by decide +kernel) rfl rfl (Nat.le_of_ble_eq_true rfl) ((gct_st ho (k := 0) (by decide) E _ x).trans rfl) hdg kk
theorem gt_X1_X1_next (hC : gC p s m args c cc nL RX1 E) (hI : gI E s M x H locs) (hdg : decode cc pc = .ok (.getfield 17, 3)) (kk : W p l e R s m args below meth c H locs cells slots Q (F0 m (pc + 3) ls (.int (M 133 1) :: rest))) : W p l e R s m args below meth c H locs cells slots Q (F0 m pc ls (.ref (E.2.1 133) :: rest)) := g_get hC hI (k := 1) (by decide) (rfl : gct E _ x 133 = _) rfl uX1 (by decide) rfl w127 hdg kk
theorem pt_X1_X1_next (hC : gC p s m args c cc nL RX1 E) (hI : gI E s M x H locs) {v : Int32} (hdg : decode cc pc = .ok (.putfield 17, 3)) (kk : ∀ H1 locs1, gI E s (gs M 133 1 v) x H1 locs1 → W p l e R s m args below meth c H1 locs1 cells slots Q (F0 m (pc + 3) ls rest)) : W p l e R s m args below meth c H locs cells slots Q (F0 m pc ls (.int v :: .ref (E.2.1 133) :: rest)) := g_put hC hI (k := 1) (ty := .int) (by decide) tyX1 tyX1_ok nmX1 (rfl : gct E _ x 133 = _) rfl uX1 (by decide) w127 rfl (by decide +kernel) rfl rfl (Nat.le_of_ble_eq_true rfl) ((rfl : gct E _ x 133 = _).trans rfl) hdg kk
theorem gt_X1_X1_count (hC : gC p s m args c cc nL RX1 E) (hI : gI E s M x H locs) (hdg : decode cc pc = .ok (.getfield 21, 3)) (kk : W p l e R s m args below meth c H locs cells slots Q (F0 m (pc + 3) ls (.int (M 133 2) :: rest))) : W p l e R s m args below meth c H locs cells slots Q (F0 m pc ls (.ref (E.2.1 133) :: rest)) := g_get hC hI (k := 2) (by decide) (rfl : gct E _ x 133 = _) rfl uX1 (by decide) rfl w128 hdg kk
theorem pt_X1_X1_count (hC : gC p s m args c cc nL RX1 E) (hI : gI E s M x H locs) {v : Int32} (hdg : decode cc pc = .ok (.putfield 21, 3)) (kk : ∀ H1 locs1, gI E s (gs M 133 2 v) x H1 locs1 → W p l e R s m args below meth c H1 locs1 cells slots Q (F0 m (pc + 3) ls rest)) : W p l e R s m args below meth c H locs cells slots Q (F0 m pc ls (.int v :: .ref (E.2.1 133) :: rest)) := g_put hC hI (k := 2) (ty := .int) (by decide) tyX1 tyX1_ok nmX1 (rfl : gct E _ x 133 = _) rfl uX1 (by decide) w128 rfl (by decide +kernel) rfl rfl (Nat.le_of_ble_eq_true rfl) ((rfl : gct E _ x 133 = _).trans rfl) hdg kk
theorem gt_X6_X6_now (hC : gC p s m args c cc nL RX6 E) (hI : gI E s M x H locs) (hdg : decode cc pc = .ok (.getfield 10, 3)) (kk : W p l e R s m args below meth c H locs cells slots Q (F0 m (pc + 3) ls (.ref (E.2.1 0) :: rest))) : W p l e R s m args below meth c H locs cells slots Q (F0 m pc ls (.ref (E.2.1 132) :: rest)) := g_get hC hI (k := 0) (by decide) (rfl : gct E _ x 132 = _) rfl uX6 (by decide) rfl w189 hdg kk
theorem gt_X6_X6_history (hC : gC p s m args c cc nL RX6 E) (hI : gI E s M x H locs) (hdg : decode cc pc = .ok (.getfield 29, 3)) (kk : W p l e R s m args below meth c H locs cells slots Q (F0 m (pc + 3) ls (.ref (E.2.1 133) :: rest))) : W p l e R s m args below meth c H locs cells slots Q (F0 m pc ls (.ref (E.2.1 132) :: rest)) := g_get hC hI (k := 4) (by decide) (rfl : gct E _ x 132 = _) rfl uX6 (by decide) rfl w193 hdg kk
theorem gt_X6_X5_cargo (hC : gC p s m args c cc nL RX6 E) (hI : gI E s M x H locs) {o : Nat} (ho : gOk o) (hdg : decode cc pc = .ok (.getfield 108, 3)) (kk : W p l e R s m args below meth c H locs cells slots Q (F0 m (pc + 3) ls (.ref (E.2.1 (o + 1)) :: rest))) : W p l e R s m args below meth c H locs cells slots Q (F0 m pc ls (.ref (E.2.1 o) :: rest)) := g_getN hC hI (k := 0) (gOk_lt ho (k := 0) (by decide)) (gct_st ho (k := 0) (by decide) E _ x) rfl uX5 (by decide) rfl (List.mem_of_getElem? (i := 1) rfl) hdg kk
theorem gt_X6_X5_hour (hC : gC p s m args c cc nL RX6 E) (hI : gI E s M x H locs) {o : Nat} (ho : gOk o) (hdg : decode cc pc = .ok (.getfield 129, 3)) (kk : W p l e R s m args below meth c H locs cells slots Q (F0 m (pc + 3) ls (.int (M o 5) :: rest))) : W p l e R s m args below meth c H locs cells slots Q (F0 m pc ls (.ref (E.2.1 o) :: rest)) := g_getN hC hI (k := 5) (gOk_lt ho (k := 0) (by decide)) (gct_st ho (k := 0) (by decide) E _ x) rfl uX5 (by decide) rfl (List.mem_of_getElem? (i := 10) rfl) hdg kk
theorem gt_X6_X5_draughts (hC : gC p s m args c cc nL RX6 E) (hI : gI E s M x H locs) {o : Nat} (ho : gOk o) (hdg : decode cc pc = .ok (.getfield 145, 3)) (kk : W p l e R s m args below meth c H locs cells slots Q (F0 m (pc + 3) ls (.ref (E.2.1 (o + 8)) :: rest))) : W p l e R s m args below meth c H locs cells slots Q (F0 m pc ls (.ref (E.2.1 o) :: rest)) := g_getN hC hI (k := 1) (gOk_lt ho (k := 0) (by decide)) (gct_st ho (k := 0) (by decide) E _ x) rfl uX5 (by decide) rfl (List.mem_of_getElem? (i := 3) rfl) hdg kk
theorem gt_X6_X5_dueHours (hC : gC p s m args c cc nL RX6 E) (hI : gI E s M x H locs) {o : Nat} (ho : gOk o) (hdg : decode cc pc = .ok (.getfield 149, 3)) (kk : W p l e R s m args below meth c H locs cells slots Q (F0 m (pc + 3) ls (.ref (E.2.1 (o + 9)) :: rest))) : W p l e R s m args below meth c H locs cells slots Q (F0 m pc ls (.ref (E.2.1 o) :: rest)) := g_getN hC hI (k := 2) (gOk_lt ho (k := 0) (by decide)) (gct_st ho (k := 0) (by decide) E _ x) rfl uX5 (by decide) rfl (List.mem_of_getElem? (i := 5) rfl) hdg kk
theorem gt_X6_X5_locks (hC : gC p s m args c cc nL RX6 E) (hI : gI E s M x H locs) {o : Nat} (ho : gOk o) (hdg : decode cc pc = .ok (.getfield 172, 3)) (kk : W p l e R s m args below meth c H locs cells slots Q (F0 m (pc + 3) ls (.ref (E.2.1 (o + 11)) :: rest))) : W p l e R s m args below meth c H locs cells slots Q (F0 m pc ls (.ref (E.2.1 o) :: rest)) := g_getN hC hI (k := 4) (gOk_lt ho (k := 0) (by decide)) (gct_st ho (k := 0) (by decide) E _ x) rfl uX5 (by decide) rfl (List.mem_of_getElem? (i := 9) rfl) hdg kk
theorem gt_X6_X5_wrongs (hC : gC p s m args c cc nL RX6 E) (hI : gI E s M x H locs) {o : Nat} (ho : gOk o) (hdg : decode cc pc = .ok (.getfield 175, 3)) (kk : W p l e R s m args below meth c H locs cells slots Q (F0 m (pc + 3) ls (.ref (E.2.1 (o + 10)) :: rest))) : W p l e R s m args below meth c H locs cells slots Q (F0 m pc ls (.ref (E.2.1 o) :: rest)) := g_getN hC hI (k := 3) (gOk_lt ho (k := 0) (by decide)) (gct_st ho (k := 0) (by decide) E _ x) rfl uX5 (by decide) rfl (List.mem_of_getElem? (i := 7) rfl) hdg kk
theorem gt_X0_X0_copiedStack (hC : gC p s m args c cc nL RX0 E) (hI : gI E s M x H locs) {o : Nat} (ho : gOk o) (hdg : decode cc pc = .ok (.getfield 27, 3)) (kk : W p l e R s m args below meth c H locs cells slots Q (F0 m (pc + 3) ls (.ref (E.2.1 (o + 7)) :: rest))) : W p l e R s m args below meth c H locs cells slots Q (F0 m pc ls (.ref (E.2.1 (o + 1)) :: rest)) := g_get hC hI (k := 5) (gOk_lt ho (k := 1) (by decide)) (gct_st ho (k := 1) (by decide) E _ x) rfl uX0 (by decide) rfl w49 hdg kk
theorem gt_X6_X6_trial (hC : gC p s m args c cc nL RX6 E) (hI : gI E s M x H locs) (hdg : decode cc pc = .ok (.getfield 16, 3)) (kk : W p l e R s m args below meth c H locs cells slots Q (F0 m (pc + 3) ls (.ref (E.2.1 12) :: rest))) : W p l e R s m args below meth c H locs cells slots Q (F0 m pc ls (.ref (E.2.1 132) :: rest)) := g_get hC hI (k := 1) (by decide) (rfl : gct E _ x 132 = _) rfl uX6 (by decide) rfl w190 hdg kk
theorem gt_X6_X5_fees (hC : gC p s m args c cc nL RX6 E) (hI : gI E s M x H locs) {o : Nat} (ho : gOk o) (hdg : decode cc pc = .ok (.getfield 261, 3)) (kk : W p l e R s m args below meth c H locs cells slots Q (F0 m (pc + 3) ls (.int (M o 6) :: rest))) : W p l e R s m args below meth c H locs cells slots Q (F0 m pc ls (.ref (E.2.1 o) :: rest)) := g_getN hC hI (k := 6) (gOk_lt ho (k := 0) (by decide)) (gct_st ho (k := 0) (by decide) E _ x) rfl uX5 (by decide) rfl (List.mem_of_getElem? (i := 11) rfl) hdg kk
theorem gt_X6_X5_cleared (hC : gC p s m args c cc nL RX6 E) (hI : gI E s M x H locs) {o : Nat} (ho : gOk o) (hdg : decode cc pc = .ok (.getfield 264, 3)) (kk : W p l e R s m args below meth c H locs cells slots Q (F0 m (pc + 3) ls (.int (M o 8) :: rest))) : W p l e R s m args below meth c H locs cells slots Q (F0 m pc ls (.ref (E.2.1 o) :: rest)) := g_getN hC hI (k := 8) (gOk_lt ho (k := 0) (by decide)) (gct_st ho (k := 0) (by decide) E _ x) rfl uX5 (by decide) rfl (List.mem_of_getElem? (i := 13) rfl) hdg kk
theorem gt_X6_X5_delivered (hC : gC p s m args c cc nL RX6 E) (hI : gI E s M x H locs) {o : Nat} (ho : gOk o) (hdg : decode cc pc = .ok (.getfield 267, 3)) (kk : W p l e R s m args below meth c H locs cells slots Q (F0 m (pc + 3) ls (.int (M o 9) :: rest))) : W p l e R s m args below meth c H locs cells slots Q (F0 m pc ls (.ref (E.2.1 o) :: rest)) := g_getN hC hI (k := 9) (gOk_lt ho (k := 0) (by decide)) (gct_st ho (k := 0) (by decide) E _ x) rfl uX5 (by decide) rfl (List.mem_of_getElem? (i := 14) rfl) hdg kk
theorem gt_X6_X5_wrong (hC : gC p s m args c cc nL RX6 E) (hI : gI E s M x H locs) {o : Nat} (ho : gOk o) (hdg : decode cc pc = .ok (.getfield 270, 3)) (kk : W p l e R s m args below meth c H locs cells slots Q (F0 m (pc + 3) ls (.int (M o 10) :: rest))) : W p l e R s m args below meth c H locs cells slots Q (F0 m pc ls (.ref (E.2.1 o) :: rest)) := g_getN hC hI (k := 10) (gOk_lt ho (k := 0) (by decide)) (gct_st ho (k := 0) (by decide) E _ x) rfl uX5 (by decide) rfl (List.mem_of_getElem? (i := 15) rfl) hdg kk
theorem gt_X6_X5_nextId (hC : gC p s m args c cc nL RX6 E) (hI : gI E s M x H locs) {o : Nat} (ho : gOk o) (hdg : decode cc pc = .ok (.getfield 288, 3)) (kk : W p l e R s m args below meth c H locs cells slots Q (F0 m (pc + 3) ls (.int (M o 7) :: rest))) : W p l e R s m args below meth c H locs cells slots Q (F0 m pc ls (.ref (E.2.1 o) :: rest)) := g_getN hC hI (k := 7) (gOk_lt ho (k := 0) (by decide)) (gct_st ho (k := 0) (by decide) E _ x) rfl uX5 (by decide) rfl (List.mem_of_getElem? (i := 12) rfl) hdg kk
theorem gt_X3_X3_length (hC : gC p s m args c cc nL RX3 E) (hI : gI E s M x H locs) (hdg : decode cc pc = .ok (.getfield 15, 3)) (kk : W p l e R s m args below meth c H locs cells slots Q (F0 m (pc + 3) ls (.int (M 148 1) :: rest))) : W p l e R s m args below meth c H locs cells slots Q (F0 m pc ls (.ref (E.2.1 148) :: rest)) := g_get hC hI (k := 1) (by decide) (rfl : gct E _ x 148 = _) rfl uX3 (by decide) rfl w182 hdg kk
theorem gt_X3_X3_text (hC : gC p s m args c cc nL RX3 E) (hI : gI E s M x H locs) (hdg : decode cc pc = .ok (.getfield 9, 3)) (kk : W p l e R s m args below meth c H locs cells slots Q (F0 m (pc + 3) ls (.ref (E.2.1 149) :: rest))) : W p l e R s m args below meth c H locs cells slots Q (F0 m pc ls (.ref (E.2.1 148) :: rest)) := g_get hC hI (k := 0) (by decide) (rfl : gct E _ x 148 = _) rfl uX3 (by decide) rfl w180 hdg kk
theorem pt_X3_X3_length (hC : gC p s m args c cc nL RX3 E) (hI : gI E s M x H locs) {v : Int32} (hdg : decode cc pc = .ok (.putfield 15, 3)) (kk : ∀ H1 locs1, gI E s (gs M 148 1 v) x H1 locs1 → W p l e R s m args below meth c H1 locs1 cells slots Q (F0 m (pc + 3) ls rest)) : W p l e R s m args below meth c H locs cells slots Q (F0 m pc ls (.int v :: .ref (E.2.1 148) :: rest)) := g_put hC hI (k := 1) (ty := .int) (by decide) tyX3 tyX3_ok nmX3 (rfl : gct E _ x 148 = _) rfl uX3 (by decide) w182 rfl (by decide +kernel) rfl rfl (Nat.le_of_ble_eq_true rfl) ((rfl : gct E _ x 148 = _).trans rfl) hdg kk
theorem gt_X6_X6_line (hC : gC p s m args c cc nL RX6 E) (hI : gI E s M x H locs) (hdg : decode cc pc = .ok (.getfield 50, 3)) (kk : W p l e R s m args below meth c H locs cells slots Q (F0 m (pc + 3) ls (.ref (E.2.1 148) :: rest))) : W p l e R s m args below meth c H locs cells slots Q (F0 m pc ls (.ref (E.2.1 132) :: rest)) := g_get hC hI (k := 7) (by decide) (rfl : gct E _ x 132 = _) rfl uX6 (by decide) rfl w196 hdg kk
theorem gt_X6_X3_length (hC : gC p s m args c cc nL RX6 E) (hI : gI E s M x H locs) (hdg : decode cc pc = .ok (.getfield 295, 3)) (kk : W p l e R s m args below meth c H locs cells slots Q (F0 m (pc + 3) ls (.int (M 148 1) :: rest))) : W p l e R s m args below meth c H locs cells slots Q (F0 m pc ls (.ref (E.2.1 148) :: rest)) := g_getN hC hI (k := 1) (by decide) (rfl : gct E _ x 148 = _) rfl uX3 (by decide) rfl (List.mem_of_getElem? (i := 22) rfl) hdg kk
theorem gt_X3_X5_draughts (hC : gC p s m args c cc nL RX3 E) (hI : gI E s M x H locs) {o : Nat} (ho : gOk o) (hdg : decode cc pc = .ok (.getfield 52, 3)) (kk : W p l e R s m args below meth c H locs cells slots Q (F0 m (pc + 3) ls (.ref (E.2.1 (o + 8)) :: rest))) : W p l e R s m args below meth c H locs cells slots Q (F0 m pc ls (.ref (E.2.1 o) :: rest)) := g_getN hC hI (k := 1) (gOk_lt ho (k := 0) (by decide)) (gct_st ho (k := 0) (by decide) E _ x) rfl uX5 (by decide) rfl (List.mem_of_getElem? (i := 2) rfl) hdg kk
theorem gt_X3_X5_dueHours (hC : gC p s m args c cc nL RX3 E) (hI : gI E s M x H locs) {o : Nat} (ho : gOk o) (hdg : decode cc pc = .ok (.getfield 60, 3)) (kk : W p l e R s m args below meth c H locs cells slots Q (F0 m (pc + 3) ls (.ref (E.2.1 (o + 9)) :: rest))) : W p l e R s m args below meth c H locs cells slots Q (F0 m pc ls (.ref (E.2.1 o) :: rest)) := g_getN hC hI (k := 2) (gOk_lt ho (k := 0) (by decide)) (gct_st ho (k := 0) (by decide) E _ x) rfl uX5 (by decide) rfl (List.mem_of_getElem? (i := 4) rfl) hdg kk
theorem gt_X3_X5_cargo (hC : gC p s m args c cc nL RX3 E) (hI : gI E s M x H locs) {o : Nat} (ho : gOk o) (hdg : decode cc pc = .ok (.getfield 63, 3)) (kk : W p l e R s m args below meth c H locs cells slots Q (F0 m (pc + 3) ls (.ref (E.2.1 (o + 1)) :: rest))) : W p l e R s m args below meth c H locs cells slots Q (F0 m pc ls (.ref (E.2.1 o) :: rest)) := g_getN hC hI (k := 0) (gOk_lt ho (k := 0) (by decide)) (gct_st ho (k := 0) (by decide) E _ x) rfl uX5 (by decide) rfl (List.mem_of_getElem? (i := 0) rfl) hdg kk
theorem gt_X3_X5_wrongs (hC : gC p s m args c cc nL RX3 E) (hI : gI E s M x H locs) {o : Nat} (ho : gOk o) (hdg : decode cc pc = .ok (.getfield 70, 3)) (kk : W p l e R s m args below meth c H locs cells slots Q (F0 m (pc + 3) ls (.ref (E.2.1 (o + 10)) :: rest))) : W p l e R s m args below meth c H locs cells slots Q (F0 m pc ls (.ref (E.2.1 o) :: rest)) := g_getN hC hI (k := 3) (gOk_lt ho (k := 0) (by decide)) (gct_st ho (k := 0) (by decide) E _ x) rfl uX5 (by decide) rfl (List.mem_of_getElem? (i := 6) rfl) hdg kk
theorem gt_X3_X5_locks (hC : gC p s m args c cc nL RX3 E) (hI : gI E s M x H locs) {o : Nat} (ho : gOk o) (hdg : decode cc pc = .ok (.getfield 73, 3)) (kk : W p l e R s m args below meth c H locs cells slots Q (F0 m (pc + 3) ls (.ref (E.2.1 (o + 11)) :: rest))) : W p l e R s m args below meth c H locs cells slots Q (F0 m pc ls (.ref (E.2.1 o) :: rest)) := g_getN hC hI (k := 4) (gOk_lt ho (k := 0) (by decide)) (gct_st ho (k := 0) (by decide) E _ x) rfl uX5 (by decide) rfl (List.mem_of_getElem? (i := 8) rfl) hdg kk
theorem gt_X6_X3_text (hC : gC p s m args c cc nL RX6 E) (hI : gI E s M x H locs) (hdg : decode cc pc = .ok (.getfield 310, 3)) (kk : W p l e R s m args below meth c H locs cells slots Q (F0 m (pc + 3) ls (.ref (E.2.1 149) :: rest))) : W p l e R s m args below meth c H locs cells slots Q (F0 m pc ls (.ref (E.2.1 148) :: rest)) := g_getN hC hI (k := 0) (by decide) (rfl : gct E _ x 148 = _) rfl uX3 (by decide) rfl (List.mem_of_getElem? (i := 21) rfl) hdg kk
theorem gt_X2_X2_length (hC : gC p s m args c cc nL RX2 E) (hI : gI E s M x H locs) (hdg : decode cc pc = .ok (.getfield 15, 3)) (kk : W p l e R s m args below meth c H locs cells slots Q (F0 m (pc + 3) ls (.int (M 146 1) :: rest))) : W p l e R s m args below meth c H locs cells slots Q (F0 m pc ls (.ref (E.2.1 146) :: rest)) := g_get hC hI (k := 1) (by decide) (rfl : gct E _ x 146 = _) rfl uX2 (by decide) rfl w162 hdg kk
theorem gt_X2_X2_text (hC : gC p s m args c cc nL RX2 E) (hI : gI E s M x H locs) (hdg : decode cc pc = .ok (.getfield 9, 3)) (kk : W p l e R s m args below meth c H locs cells slots Q (F0 m (pc + 3) ls (.ref (E.2.1 147) :: rest))) : W p l e R s m args below meth c H locs cells slots Q (F0 m pc ls (.ref (E.2.1 146) :: rest)) := g_get hC hI (k := 0) (by decide) (rfl : gct E _ x 146 = _) rfl uX2 (by decide) rfl w161 hdg kk
theorem pt_X2_X2_length (hC : gC p s m args c cc nL RX2 E) (hI : gI E s M x H locs) {v : Int32} (hdg : decode cc pc = .ok (.putfield 15, 3)) (kk : ∀ H1 locs1, gI E s (gs M 146 1 v) x H1 locs1 → W p l e R s m args below meth c H1 locs1 cells slots Q (F0 m (pc + 3) ls rest)) : W p l e R s m args below meth c H locs cells slots Q (F0 m pc ls (.int v :: .ref (E.2.1 146) :: rest)) := g_put hC hI (k := 1) (ty := .int) (by decide) tyX2 tyX2_ok nmX2 (rfl : gct E _ x 146 = _) rfl uX2 (by decide) w162 rfl (by decide +kernel) rfl rfl (Nat.le_of_ble_eq_true rfl) ((rfl : gct E _ x 146 = _).trans rfl) hdg kk
theorem gt_X6_X6_input (hC : gC p s m args c cc nL RX6 E) (hI : gI E s M x H locs) (hdg : decode cc pc = .ok (.getfield 43, 3)) (kk : W p l e R s m args below meth c H locs cells slots Q (F0 m (pc + 3) ls (.ref (E.2.1 146) :: rest))) : W p l e R s m args below meth c H locs cells slots Q (F0 m pc ls (.ref (E.2.1 132) :: rest)) := g_get hC hI (k := 6) (by decide) (rfl : gct E _ x 132 = _) rfl uX6 (by decide) rfl w195 hdg kk
theorem gt_X6_X2_length (hC : gC p s m args c cc nL RX6 E) (hI : gI E s M x H locs) (hdg : decode cc pc = .ok (.getfield 319, 3)) (kk : W p l e R s m args below meth c H locs cells slots Q (F0 m (pc + 3) ls (.int (M 146 1) :: rest))) : W p l e R s m args below meth c H locs cells slots Q (F0 m pc ls (.ref (E.2.1 146) :: rest)) := g_getN hC hI (k := 1) (by decide) (rfl : gct E _ x 146 = _) rfl uX2 (by decide) rfl (List.mem_of_getElem? (i := 19) rfl) hdg kk
theorem gt_X2_X2_position (hC : gC p s m args c cc nL RX2 E) (hI : gI E s M x H locs) (hdg : decode cc pc = .ok (.getfield 19, 3)) (kk : W p l e R s m args below meth c H locs cells slots Q (F0 m (pc + 3) ls (.int (M 146 2) :: rest))) : W p l e R s m args below meth c H locs cells slots Q (F0 m pc ls (.ref (E.2.1 146) :: rest)) := g_get hC hI (k := 2) (by decide) (rfl : gct E _ x 146 = _) rfl uX2 (by decide) rfl w164 hdg kk
theorem pt_X2_X2_position (hC : gC p s m args c cc nL RX2 E) (hI : gI E s M x H locs) {v : Int32} (hdg : decode cc pc = .ok (.putfield 19, 3)) (kk : ∀ H1 locs1, gI E s (gs M 146 2 v) x H1 locs1 → W p l e R s m args below meth c H1 locs1 cells slots Q (F0 m (pc + 3) ls rest)) : W p l e R s m args below meth c H locs cells slots Q (F0 m pc ls (.int v :: .ref (E.2.1 146) :: rest)) := g_put hC hI (k := 2) (ty := .int) (by decide) tyX2 tyX2_ok nmX2 (rfl : gct E _ x 146 = _) rfl uX2 (by decide) w164 rfl (by decide +kernel) rfl rfl (Nat.le_of_ble_eq_true rfl) ((rfl : gct E _ x 146 = _).trans rfl) hdg kk
theorem gt_X4_X4_count (hC : gC p s m args c cc nL RX4 E) (hI : gI E s M x H locs) (hdg : decode cc pc = .ok (.getfield 18, 3)) (kk : W p l e R s m args below meth c H locs cells slots Q (F0 m (pc + 3) ls (.int (M 135 2) :: rest))) : W p l e R s m args below meth c H locs cells slots Q (F0 m pc ls (.ref (E.2.1 135) :: rest)) := g_get hC hI (k := 2) (by decide) (rfl : gct E _ x 135 = _) rfl uX4 (by decide) rfl w145 hdg kk
theorem gt_X4_X4_kinds (hC : gC p s m args c cc nL RX4 E) (hI : gI E s M x H locs) (hdg : decode cc pc = .ok (.getfield 9, 3)) (kk : W p l e R s m args below meth c H locs cells slots Q (F0 m (pc + 3) ls (.ref (E.2.1 136) :: rest))) : W p l e R s m args below meth c H locs cells slots Q (F0 m pc ls (.ref (E.2.1 135) :: rest)) := g_get hC hI (k := 0) (by decide) (rfl : gct E _ x 135 = _) rfl uX4 (by decide) rfl w143 hdg kk
theorem pt_X4_X4_count (hC : gC p s m args c cc nL RX4 E) (hI : gI E s M x H locs) {v : Int32} (hdg : decode cc pc = .ok (.putfield 18, 3)) (kk : ∀ H1 locs1, gI E s (gs M 135 2 v) x H1 locs1 → W p l e R s m args below meth c H1 locs1 cells slots Q (F0 m (pc + 3) ls rest)) : W p l e R s m args below meth c H locs cells slots Q (F0 m pc ls (.int v :: .ref (E.2.1 135) :: rest)) := g_put hC hI (k := 2) (ty := .int) (by decide) tyX4 tyX4_ok nmX4 (rfl : gct E _ x 135 = _) rfl uX4 (by decide) w145 rfl (by decide +kernel) rfl rfl (Nat.le_of_ble_eq_true rfl) ((rfl : gct E _ x 135 = _).trans rfl) hdg kk
theorem gt_X4_X4_arguments (hC : gC p s m args c cc nL RX4 E) (hI : gI E s M x H locs) (hdg : decode cc pc = .ok (.getfield 15, 3)) (kk : W p l e R s m args below meth c H locs cells slots Q (F0 m (pc + 3) ls (.ref (E.2.1 137) :: rest))) : W p l e R s m args below meth c H locs cells slots Q (F0 m pc ls (.ref (E.2.1 135) :: rest)) := g_get hC hI (k := 1) (by decide) (rfl : gct E _ x 135 = _) rfl uX4 (by decide) rfl w144 hdg kk
theorem pt_X2_X4_count (hC : gC p s m args c cc nL RX2 E) (hI : gI E s M x H locs) {v : Int32} (hdg : decode cc pc = .ok (.putfield 22, 3)) (kk : ∀ H1 locs1, gI E s (gs M 135 2 v) x H1 locs1 → W p l e R s m args below meth c H1 locs1 cells slots Q (F0 m (pc + 3) ls rest)) : W p l e R s m args below meth c H locs cells slots Q (F0 m pc ls (.int v :: .ref (E.2.1 135) :: rest)) := g_putN hC hI (k := 2) (ty := .int) (by decide) tyX4 tyX4_ok nmX4 (rfl : gct E _ x 135 = _) rfl uX4 (by decide) (List.mem_of_getElem? (i := 17) rfl) rfl (by decide +kernel) rfl rfl (Nat.le_of_ble_eq_true rfl) ((rfl : gct E _ x 135 = _).trans rfl) hdg kk
theorem gt_X6_X6_program (hC : gC p s m args c cc nL RX6 E) (hI : gI E s M x H locs) (hdg : decode cc pc = .ok (.getfield 36, 3)) (kk : W p l e R s m args below meth c H locs cells slots Q (F0 m (pc + 3) ls (.ref (E.2.1 135) :: rest))) : W p l e R s m args below meth c H locs cells slots Q (F0 m pc ls (.ref (E.2.1 132) :: rest)) := g_get hC hI (k := 5) (by decide) (rfl : gct E _ x 132 = _) rfl uX6 (by decide) rfl w194 hdg kk
theorem pt_X6_X2_length (hC : gC p s m args c cc nL RX6 E) (hI : gI E s M x H locs) {v : Int32} (hdg : decode cc pc = .ok (.putfield 319, 3)) (kk : ∀ H1 locs1, gI E s (gs M 146 1 v) x H1 locs1 → W p l e R s m args below meth c H1 locs1 cells slots Q (F0 m (pc + 3) ls rest)) : W p l e R s m args below meth c H locs cells slots Q (F0 m pc ls (.int v :: .ref (E.2.1 146) :: rest)) := g_putN hC hI (k := 1) (ty := .int) (by decide) tyX2 tyX2_ok nmX2 (rfl : gct E _ x 146 = _) rfl uX2 (by decide) (List.mem_of_getElem? (i := 19) rfl) rfl (by decide +kernel) rfl rfl (Nat.le_of_ble_eq_true rfl) ((rfl : gct E _ x 146 = _).trans rfl) hdg kk
theorem gt_X6_X4_count (hC : gC p s m args c cc nL RX6 E) (hI : gI E s M x H locs) (hdg : decode cc pc = .ok (.getfield 344, 3)) (kk : W p l e R s m args below meth c H locs cells slots Q (F0 m (pc + 3) ls (.int (M 135 2) :: rest))) : W p l e R s m args below meth c H locs cells slots Q (F0 m pc ls (.ref (E.2.1 135) :: rest)) := g_getN hC hI (k := 2) (by decide) (rfl : gct E _ x 135 = _) rfl uX4 (by decide) rfl (List.mem_of_getElem? (i := 18) rfl) hdg kk
theorem pt_X6_X6_storedFailedCommand (hC : gC p s m args c cc nL RX6 E) (hI : gI E s M x H locs) {v : Int32} (hdg : decode cc pc = .ok (.putfield 58, 3)) (kk : ∀ H1 locs1, gI E s (gs M 132 9 v) x H1 locs1 → W p l e R s m args below meth c H1 locs1 cells slots Q (F0 m (pc + 3) ls rest)) : W p l e R s m args below meth c H locs cells slots Q (F0 m pc ls (.int v :: .ref (E.2.1 132) :: rest)) := g_put hC hI (k := 9) (ty := .int) (by decide) tyX6 tyX6_ok nmX6 (rfl : gct E _ x 132 = _) rfl uX6 (by decide) w198 rfl (by decide +kernel) rfl rfl (Nat.le_of_ble_eq_true rfl) ((rfl : gct E _ x 132 = _).trans rfl) hdg kk
theorem gt_X6_X2_position (hC : gC p s m args c cc nL RX6 E) (hI : gI E s M x H locs) (hdg : decode cc pc = .ok (.getfield 333, 3)) (kk : W p l e R s m args below meth c H locs cells slots Q (F0 m (pc + 3) ls (.int (M 146 2) :: rest))) : W p l e R s m args below meth c H locs cells slots Q (F0 m pc ls (.ref (E.2.1 146) :: rest)) := g_getN hC hI (k := 2) (by decide) (rfl : gct E _ x 146 = _) rfl uX2 (by decide) rfl (List.mem_of_getElem? (i := 20) rfl) hdg kk
theorem pt_X6_X6_storedErrorPosition (hC : gC p s m args c cc nL RX6 E) (hI : gI E s M x H locs) {v : Int32} (hdg : decode cc pc = .ok (.putfield 54, 3)) (kk : ∀ H1 locs1, gI E s (gs M 132 8 v) x H1 locs1 → W p l e R s m args below meth c H1 locs1 cells slots Q (F0 m (pc + 3) ls rest)) : W p l e R s m args below meth c H locs cells slots Q (F0 m pc ls (.int v :: .ref (E.2.1 132) :: rest)) := g_put hC hI (k := 8) (ty := .int) (by decide) tyX6 tyX6_ok nmX6 (rfl : gct E _ x 132 = _) rfl uX6 (by decide) w197 rfl (by decide +kernel) rfl rfl (Nat.le_of_ble_eq_true rfl) ((rfl : gct E _ x 132 = _).trans rfl) hdg kk
theorem gt_X6_X6_storedErrorPosition (hC : gC p s m args c cc nL RX6 E) (hI : gI E s M x H locs) (hdg : decode cc pc = .ok (.getfield 54, 3)) (kk : W p l e R s m args below meth c H locs cells slots Q (F0 m (pc + 3) ls (.int (M 132 8) :: rest))) : W p l e R s m args below meth c H locs cells slots Q (F0 m pc ls (.ref (E.2.1 132) :: rest)) := g_get hC hI (k := 8) (by decide) (rfl : gct E _ x 132 = _) rfl uX6 (by decide) rfl w197 hdg kk
theorem gt_X6_X6_storedFailedCommand (hC : gC p s m args c cc nL RX6 E) (hI : gI E s M x H locs) (hdg : decode cc pc = .ok (.getfield 58, 3)) (kk : W p l e R s m args below meth c H locs cells slots Q (F0 m (pc + 3) ls (.int (M 132 9) :: rest))) : W p l e R s m args below meth c H locs cells slots Q (F0 m pc ls (.ref (E.2.1 132) :: rest)) := g_get hC hI (k := 9) (by decide) (rfl : gct E _ x 132 = _) rfl uX6 (by decide) rfl w198 hdg kk
theorem gt_X6_X1_count (hC : gC p s m args c cc nL RX6 E) (hI : gI E s M x H locs) (hdg : decode cc pc = .ok (.getfield 347, 3)) (kk : W p l e R s m args below meth c H locs cells slots Q (F0 m (pc + 3) ls (.int (M 133 2) :: rest))) : W p l e R s m args below meth c H locs cells slots Q (F0 m pc ls (.ref (E.2.1 133) :: rest)) := g_getN hC hI (k := 2) (by decide) (rfl : gct E _ x 133 = _) rfl uX1 (by decide) rfl (List.mem_of_getElem? (i := 16) rfl) hdg kk
theorem gt_X6_X6_saved (hC : gC p s m args c cc nL RX6 E) (hI : gI E s M x H locs) (hdg : decode cc pc = .ok (.getfield 19, 3)) (kk : W p l e R s m args below meth c H locs cells slots Q (F0 m (pc + 3) ls (.ref (E.2.1 24) :: rest))) : W p l e R s m args below meth c H locs cells slots Q (F0 m pc ls (.ref (E.2.1 132) :: rest)) := g_get hC hI (k := 2) (by decide) (rfl : gct E _ x 132 = _) rfl uX6 (by decide) rfl w191 hdg kk
theorem pt_X6_X6_hasSaved (hC : gC p s m args c cc nL RX6 E) (hI : gI E s M x H locs) {v : Int32} (hn : narrow .boolean (.int v) = .int v) (hft : fits .boolean (.int v) = true) (hdg : decode cc pc = .ok (.putfield 22, 3)) (kk : ∀ H1 locs1, gI E s (gs M 132 3 v) x H1 locs1 → W p l e R s m args below meth c H1 locs1 cells slots Q (F0 m (pc + 3) ls rest)) : W p l e R s m args below meth c H locs cells slots Q (F0 m pc ls (.int v :: .ref (E.2.1 132) :: rest)) := g_put hC hI (k := 3) (ty := .boolean) (by decide) tyX6 tyX6_ok nmX6 (rfl : gct E _ x 132 = _) rfl uX6 (by decide) w192 rfl (by decide +kernel) hn hft (Nat.le_of_ble_eq_true rfl) ((rfl : gct E _ x 132 = _).trans rfl) hdg kk
theorem gt_X6_X6_hasSaved (hC : gC p s m args c cc nL RX6 E) (hI : gI E s M x H locs) (hdg : decode cc pc = .ok (.getfield 22, 3)) (kk : W p l e R s m args below meth c H locs cells slots Q (F0 m (pc + 3) ls (.int (M 132 3) :: rest))) : W p l e R s m args below meth c H locs cells slots Q (F0 m pc ls (.ref (E.2.1 132) :: rest)) := g_get hC hI (k := 3) (by decide) (rfl : gct E _ x 132 = _) rfl uX6 (by decide) rfl w192 hdg kk
theorem pt_X6_X1_count (hC : gC p s m args c cc nL RX6 E) (hI : gI E s M x H locs) {v : Int32} (hdg : decode cc pc = .ok (.putfield 347, 3)) (kk : ∀ H1 locs1, gI E s (gs M 133 2 v) x H1 locs1 → W p l e R s m args below meth c H1 locs1 cells slots Q (F0 m (pc + 3) ls rest)) : W p l e R s m args below meth c H locs cells slots Q (F0 m pc ls (.int v :: .ref (E.2.1 133) :: rest)) := g_putN hC hI (k := 2) (ty := .int) (by decide) tyX1 tyX1_ok nmX1 (rfl : gct E _ x 133 = _) rfl uX1 (by decide) (List.mem_of_getElem? (i := 16) rfl) rfl (by decide +kernel) rfl rfl (Nat.le_of_ble_eq_true rfl) ((rfl : gct E _ x 133 = _).trans rfl) hdg kk
theorem gt_X7_X7_thrown (hC : gC p s m args c cc nL RX7 E) (hI : gI E s M x H locs) (hdg : decode cc pc = .ok (.getfield 42, 3)) (kk : W p l e R s m args below meth c H locs cells slots Q (F0 m (pc + 3) ls (.int (M 150 13) :: rest))) : W p l e R s m args below meth c H locs cells slots Q (F0 m pc ls (.ref (E.2.1 150) :: rest)) := g_get hC hI (k := 13) (by decide) (rfl : gct E _ x 150 = _) rfl uX7 (by decide) rfl w1337 hdg kk
theorem pt_X7_X7_thrown (hC : gC p s m args c cc nL RX7 E) (hI : gI E s M x H locs) {v : Int32} (hdg : decode cc pc = .ok (.putfield 42, 3)) (kk : ∀ H1 locs1, gI E s (gs M 150 13 v) x H1 locs1 → W p l e R s m args below meth c H1 locs1 cells slots Q (F0 m (pc + 3) ls rest)) : W p l e R s m args below meth c H locs cells slots Q (F0 m pc ls (.int v :: .ref (E.2.1 150) :: rest)) := g_put hC hI (k := 13) (ty := .int) (by decide) tyX7 tyX7_ok nmX7 (rfl : gct E _ x 150 = _) rfl uX7 (by decide) w1337 rfl (by decide +kernel) rfl rfl (Nat.le_of_ble_eq_true rfl) ((rfl : gct E _ x 150 = _).trans rfl) hdg kk
theorem gt_X7_X7_g (hC : gC p s m args c cc nL RX7 E) (hI : gI E s M x H locs) (hdg : decode cc pc = .ok (.getfield 7, 3)) (kk : W p l e R s m args below meth c H locs cells slots Q (F0 m (pc + 3) ls (.ref (E.2.1 151) :: rest))) : W p l e R s m args below meth c H locs cells slots Q (F0 m pc ls (.ref (E.2.1 150) :: rest)) := g_get hC hI (k := 0) (by decide) (rfl : gct E _ x 150 = _) rfl uX7 (by decide) rfl w1324 hdg kk
theorem gt_X7_X7_before (hC : gC p s m args c cc nL RX7 E) (hI : gI E s M x H locs) (hdg : decode cc pc = .ok (.getfield 13, 3)) (kk : W p l e R s m args below meth c H locs cells slots Q (F0 m (pc + 3) ls (.ref (E.2.1 152) :: rest))) : W p l e R s m args below meth c H locs cells slots Q (F0 m pc ls (.ref (E.2.1 150) :: rest)) := g_get hC hI (k := 1) (by decide) (rfl : gct E _ x 150 = _) rfl uX7 (by decide) rfl w1325 hdg kk
theorem gt_X7_X7_changes (hC : gC p s m args c cc nL RX7 E) (hI : gI E s M x H locs) (hdg : decode cc pc = .ok (.getfield 49, 3)) (kk : W p l e R s m args below meth c H locs cells slots Q (F0 m (pc + 3) ls (.int (M 150 4) :: rest))) : W p l e R s m args below meth c H locs cells slots Q (F0 m pc ls (.ref (E.2.1 150) :: rest)) := g_get hC hI (k := 4) (by decide) (rfl : gct E _ x 150 = _) rfl uX7 (by decide) rfl w1328 hdg kk
theorem gt_X7_X7_history (hC : gC p s m args c cc nL RX7 E) (hI : gI E s M x H locs) (hdg : decode cc pc = .ok (.getfield 19, 3)) (kk : W p l e R s m args below meth c H locs cells slots Q (F0 m (pc + 3) ls (.ref (E.2.1 154) :: rest))) : W p l e R s m args below meth c H locs cells slots Q (F0 m pc ls (.ref (E.2.1 150) :: rest)) := g_get hC hI (k := 3) (by decide) (rfl : gct E _ x 150 = _) rfl uX7 (by decide) rfl w1327 hdg kk
theorem pt_X7_X7_changes (hC : gC p s m args c cc nL RX7 E) (hI : gI E s M x H locs) {v : Int32} (hdg : decode cc pc = .ok (.putfield 49, 3)) (kk : ∀ H1 locs1, gI E s (gs M 150 4 v) x H1 locs1 → W p l e R s m args below meth c H1 locs1 cells slots Q (F0 m (pc + 3) ls rest)) : W p l e R s m args below meth c H locs cells slots Q (F0 m pc ls (.int v :: .ref (E.2.1 150) :: rest)) := g_put hC hI (k := 4) (ty := .int) (by decide) tyX7 tyX7_ok nmX7 (rfl : gct E _ x 150 = _) rfl uX7 (by decide) w1328 rfl (by decide +kernel) rfl rfl (Nat.le_of_ble_eq_true rfl) ((rfl : gct E _ x 150 = _).trans rfl) hdg kk
theorem gt_X7_X7_ahead (hC : gC p s m args c cc nL RX7 E) (hI : gI E s M x H locs) (hdg : decode cc pc = .ok (.getfield 16, 3)) (kk : W p l e R s m args below meth c H locs cells slots Q (F0 m (pc + 3) ls (.ref (E.2.1 153) :: rest))) : W p l e R s m args below meth c H locs cells slots Q (F0 m pc ls (.ref (E.2.1 150) :: rest)) := g_get hC hI (k := 2) (by decide) (rfl : gct E _ x 150 = _) rfl uX7 (by decide) rfl w1326 hdg kk
theorem gt_X7_X7_letters (hC : gC p s m args c cc nL RX7 E) (hI : gI E s M x H locs) (hdg : decode cc pc = .ok (.getfield 36, 3)) (kk : W p l e R s m args below meth c H locs cells slots Q (F0 m (pc + 3) ls (.ref (E.2.1 157) :: rest))) : W p l e R s m args below meth c H locs cells slots Q (F0 m pc ls (.ref (E.2.1 150) :: rest)) := g_get hC hI (k := 11) (by decide) (rfl : gct E _ x 150 = _) rfl uX7 (by decide) rfl w1335 hdg kk
theorem gt_X7_X7_lineLength (hC : gC p s m args c cc nL RX7 E) (hI : gI E s M x H locs) (hdg : decode cc pc = .ok (.getfield 191, 3)) (kk : W p l e R s m args below meth c H locs cells slots Q (F0 m (pc + 3) ls (.int (M 150 12) :: rest))) : W p l e R s m args below meth c H locs cells slots Q (F0 m pc ls (.ref (E.2.1 150) :: rest)) := g_get hC hI (k := 12) (by decide) (rfl : gct E _ x 150 = _) rfl uX7 (by decide) rfl w1336 hdg kk
theorem pt_X7_X7_lineLength (hC : gC p s m args c cc nL RX7 E) (hI : gI E s M x H locs) {v : Int32} (hdg : decode cc pc = .ok (.putfield 191, 3)) (kk : ∀ H1 locs1, gI E s (gs M 150 12 v) x H1 locs1 → W p l e R s m args below meth c H1 locs1 cells slots Q (F0 m (pc + 3) ls rest)) : W p l e R s m args below meth c H locs cells slots Q (F0 m pc ls (.int v :: .ref (E.2.1 150) :: rest)) := g_put hC hI (k := 12) (ty := .int) (by decide) tyX7 tyX7_ok nmX7 (rfl : gct E _ x 150 = _) rfl uX7 (by decide) w1336 rfl (by decide +kernel) rfl rfl (Nat.le_of_ble_eq_true rfl) ((rfl : gct E _ x 150 = _).trans rfl) hdg kk
theorem gt_X7_X7_typed (hC : gC p s m args c cc nL RX7 E) (hI : gI E s M x H locs) (hdg : decode cc pc = .ok (.getfield 204, 3)) (kk : W p l e R s m args below meth c H locs cells slots Q (F0 m (pc + 3) ls (.int (M 150 8) :: rest))) : W p l e R s m args below meth c H locs cells slots Q (F0 m pc ls (.ref (E.2.1 150) :: rest)) := g_get hC hI (k := 8) (by decide) (rfl : gct E _ x 150 = _) rfl uX7 (by decide) rfl w1332 hdg kk
theorem gt_X7_X7_buffer (hC : gC p s m args c cc nL RX7 E) (hI : gI E s M x H locs) (hdg : decode cc pc = .ok (.getfield 25, 3)) (kk : W p l e R s m args below meth c H locs cells slots Q (F0 m (pc + 3) ls (.ref (E.2.1 156) :: rest))) : W p l e R s m args below meth c H locs cells slots Q (F0 m pc ls (.ref (E.2.1 150) :: rest)) := g_get hC hI (k := 7) (by decide) (rfl : gct E _ x 150 = _) rfl uX7 (by decide) rfl w1331 hdg kk
theorem pt_X7_X7_typed (hC : gC p s m args c cc nL RX7 E) (hI : gI E s M x H locs) {v : Int32} (hdg : decode cc pc = .ok (.putfield 204, 3)) (kk : ∀ H1 locs1, gI E s (gs M 150 8 v) x H1 locs1 → W p l e R s m args below meth c H1 locs1 cells slots Q (F0 m (pc + 3) ls rest)) : W p l e R s m args below meth c H locs cells slots Q (F0 m pc ls (.int v :: .ref (E.2.1 150) :: rest)) := g_put hC hI (k := 8) (ty := .int) (by decide) tyX7 tyX7_ok nmX7 (rfl : gct E _ x 150 = _) rfl uX7 (by decide) w1332 rfl (by decide +kernel) rfl rfl (Nat.le_of_ble_eq_true rfl) ((rfl : gct E _ x 150 = _).trans rfl) hdg kk
theorem gt_X7_X7_spot (hC : gC p s m args c cc nL RX7 E) (hI : gI E s M x H locs) (hdg : decode cc pc = .ok (.getfield 207, 3)) (kk : W p l e R s m args below meth c H locs cells slots Q (F0 m (pc + 3) ls (.int (M 150 14) :: rest))) : W p l e R s m args below meth c H locs cells slots Q (F0 m pc ls (.ref (E.2.1 150) :: rest)) := g_get hC hI (k := 14) (by decide) (rfl : gct E _ x 150 = _) rfl uX7 (by decide) rfl w1338 hdg kk
theorem gt_X7_X7_isWrong (hC : gC p s m args c cc nL RX7 E) (hI : gI E s M x H locs) (hdg : decode cc pc = .ok (.getfield 210, 3)) (kk : W p l e R s m args below meth c H locs cells slots Q (F0 m (pc + 3) ls (.int (M 150 15) :: rest))) : W p l e R s m args below meth c H locs cells slots Q (F0 m pc ls (.ref (E.2.1 150) :: rest)) := g_get hC hI (k := 15) (by decide) (rfl : gct E _ x 150 = _) rfl uX7 (by decide) rfl w1339 hdg kk
theorem pt_X7_X7_isWrong (hC : gC p s m args c cc nL RX7 E) (hI : gI E s M x H locs) {v : Int32} (hn : narrow .boolean (.int v) = .int v) (hft : fits .boolean (.int v) = true) (hdg : decode cc pc = .ok (.putfield 210, 3)) (kk : ∀ H1 locs1, gI E s (gs M 150 15 v) x H1 locs1 → W p l e R s m args below meth c H1 locs1 cells slots Q (F0 m (pc + 3) ls rest)) : W p l e R s m args below meth c H locs cells slots Q (F0 m pc ls (.int v :: .ref (E.2.1 150) :: rest)) := g_put hC hI (k := 15) (ty := .boolean) (by decide) tyX7 tyX7_ok nmX7 (rfl : gct E _ x 150 = _) rfl uX7 (by decide) w1339 rfl (by decide +kernel) hn hft (Nat.le_of_ble_eq_true rfl) ((rfl : gct E _ x 150 = _).trans rfl) hdg kk
theorem pt_X7_X7_spot (hC : gC p s m args c cc nL RX7 E) (hI : gI E s M x H locs) {v : Int32} (hdg : decode cc pc = .ok (.putfield 207, 3)) (kk : ∀ H1 locs1, gI E s (gs M 150 14 v) x H1 locs1 → W p l e R s m args below meth c H1 locs1 cells slots Q (F0 m (pc + 3) ls rest)) : W p l e R s m args below meth c H locs cells slots Q (F0 m pc ls (.int v :: .ref (E.2.1 150) :: rest)) := g_put hC hI (k := 14) (ty := .int) (by decide) tyX7 tyX7_ok nmX7 (rfl : gct E _ x 150 = _) rfl uX7 (by decide) w1338 rfl (by decide +kernel) rfl rfl (Nat.le_of_ble_eq_true rfl) ((rfl : gct E _ x 150 = _).trans rfl) hdg kk
theorem gt_X7_X7_parsed (hC : gC p s m args c cc nL RX7 E) (hI : gI E s M x H locs) (hdg : decode cc pc = .ok (.getfield 39, 3)) (kk : W p l e R s m args below meth c H locs cells slots Q (F0 m (pc + 3) ls (.ref (E.2.1 158) :: rest))) : W p l e R s m args below meth c H locs cells slots Q (F0 m pc ls (.ref (E.2.1 150) :: rest)) := g_get hC hI (k := 16) (by decide) (rfl : gct E _ x 150 = _) rfl uX7 (by decide) rfl w1340 hdg kk
theorem pt_X7_X7_failedAt (hC : gC p s m args c cc nL RX7 E) (hI : gI E s M x H locs) {v : Int32} (hdg : decode cc pc = .ok (.putfield 33, 3)) (kk : ∀ H1 locs1, gI E s (gs M 150 10 v) x H1 locs1 → W p l e R s m args below meth c H1 locs1 cells slots Q (F0 m (pc + 3) ls rest)) : W p l e R s m args below meth c H locs cells slots Q (F0 m pc ls (.int v :: .ref (E.2.1 150) :: rest)) := g_put hC hI (k := 10) (ty := .int) (by decide) tyX7 tyX7_ok nmX7 (rfl : gct E _ x 150 = _) rfl uX7 (by decide) w1334 rfl (by decide +kernel) rfl rfl (Nat.le_of_ble_eq_true rfl) ((rfl : gct E _ x 150 = _).trans rfl) hdg kk
theorem pt_X7_X7_errorAt (hC : gC p s m args c cc nL RX7 E) (hI : gI E s M x H locs) {v : Int32} (hdg : decode cc pc = .ok (.putfield 29, 3)) (kk : ∀ H1 locs1, gI E s (gs M 150 9 v) x H1 locs1 → W p l e R s m args below meth c H1 locs1 cells slots Q (F0 m (pc + 3) ls rest)) : W p l e R s m args below meth c H locs cells slots Q (F0 m pc ls (.int v :: .ref (E.2.1 150) :: rest)) := g_put hC hI (k := 9) (ty := .int) (by decide) tyX7 tyX7_ok nmX7 (rfl : gct E _ x 150 = _) rfl uX7 (by decide) w1333 rfl (by decide +kernel) rfl rfl (Nat.le_of_ble_eq_true rfl) ((rfl : gct E _ x 150 = _).trans rfl) hdg kk
theorem gt_X7_X7_errorAt (hC : gC p s m args c cc nL RX7 E) (hI : gI E s M x H locs) (hdg : decode cc pc = .ok (.getfield 29, 3)) (kk : W p l e R s m args below meth c H locs cells slots Q (F0 m (pc + 3) ls (.int (M 150 9) :: rest))) : W p l e R s m args below meth c H locs cells slots Q (F0 m pc ls (.ref (E.2.1 150) :: rest)) := g_get hC hI (k := 9) (by decide) (rfl : gct E _ x 150 = _) rfl uX7 (by decide) rfl w1333 hdg kk
theorem gt_X7_X7_failedAt (hC : gC p s m args c cc nL RX7 E) (hI : gI E s M x H locs) (hdg : decode cc pc = .ok (.getfield 33, 3)) (kk : W p l e R s m args below meth c H locs cells slots Q (F0 m (pc + 3) ls (.int (M 150 10) :: rest))) : W p l e R s m args below meth c H locs cells slots Q (F0 m pc ls (.ref (E.2.1 150) :: rest)) := g_get hC hI (k := 10) (by decide) (rfl : gct E _ x 150 = _) rfl uX7 (by decide) rfl w1334 hdg kk
theorem gt_X7_X7_savedState (hC : gC p s m args c cc nL RX7 E) (hI : gI E s M x H locs) (hdg : decode cc pc = .ok (.getfield 22, 3)) (kk : W p l e R s m args below meth c H locs cells slots Q (F0 m (pc + 3) ls (.ref (E.2.1 155) :: rest))) : W p l e R s m args below meth c H locs cells slots Q (F0 m pc ls (.ref (E.2.1 150) :: rest)) := g_get hC hI (k := 5) (by decide) (rfl : gct E _ x 150 = _) rfl uX7 (by decide) rfl w1329 hdg kk
theorem pt_X7_X7_hasSaved (hC : gC p s m args c cc nL RX7 E) (hI : gI E s M x H locs) {v : Int32} (hn : narrow .boolean (.int v) = .int v) (hft : fits .boolean (.int v) = true) (hdg : decode cc pc = .ok (.putfield 245, 3)) (kk : ∀ H1 locs1, gI E s (gs M 150 6 v) x H1 locs1 → W p l e R s m args below meth c H1 locs1 cells slots Q (F0 m (pc + 3) ls rest)) : W p l e R s m args below meth c H locs cells slots Q (F0 m pc ls (.int v :: .ref (E.2.1 150) :: rest)) := g_put hC hI (k := 6) (ty := .boolean) (by decide) tyX7 tyX7_ok nmX7 (rfl : gct E _ x 150 = _) rfl uX7 (by decide) w1330 rfl (by decide +kernel) hn hft (Nat.le_of_ble_eq_true rfl) ((rfl : gct E _ x 150 = _).trans rfl) hdg kk
theorem gt_X7_X7_hasSaved (hC : gC p s m args c cc nL RX7 E) (hI : gI E s M x H locs) (hdg : decode cc pc = .ok (.getfield 245, 3)) (kk : W p l e R s m args below meth c H locs cells slots Q (F0 m (pc + 3) ls (.int (M 150 6) :: rest))) : W p l e R s m args below meth c H locs cells slots Q (F0 m pc ls (.ref (E.2.1 150) :: rest)) := g_get hC hI (k := 6) (by decide) (rfl : gct E _ x 150 = _) rfl uX7 (by decide) rfl w1330 hdg kk
end GF
