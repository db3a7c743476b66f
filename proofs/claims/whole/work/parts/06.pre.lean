theorem hd_X0_init : yX0_init.cls = RX0 ∧ yX0_init.cls ≠ "java/lang/invoke/MethodHandle" ∧ yX0_init.cls ≠ "java/lang/invoke/VarHandle" ∧ (parseMethodDescriptor yX0_init.desc).map (fun d => d.parameters.length) = some 0 := by decide +kernel
theorem hd_X0_admitTune : yX0_admitTune.cls = RX0 ∧ yX0_admitTune.cls ≠ "java/lang/invoke/MethodHandle" ∧ yX0_admitTune.cls ≠ "java/lang/invoke/VarHandle" ∧ (parseMethodDescriptor yX0_admitTune.desc).map (fun d => d.parameters.length) = some 0 := by decide +kernel
theorem hd_X0_areLinked : yX0_areLinked.cls = RX0 ∧ yX0_areLinked.cls ≠ "java/lang/invoke/MethodHandle" ∧ yX0_areLinked.cls ≠ "java/lang/invoke/VarHandle" ∧ (parseMethodDescriptor yX0_areLinked.desc).map (fun d => d.parameters.length) = some 2 := by decide +kernel
theorem hd_X0_toggle : yX0_toggle.cls = RX0 ∧ yX0_toggle.cls ≠ "java/lang/invoke/MethodHandle" ∧ yX0_toggle.cls ≠ "java/lang/invoke/VarHandle" ∧ (parseMethodDescriptor yX0_toggle.desc).map (fun d => d.parameters.length) = some 2 := by decide +kernel
theorem hd_X0_countFamilies : yX0_countFamilies.cls = RX0 ∧ yX0_countFamilies.cls ≠ "java/lang/invoke/MethodHandle" ∧ yX0_countFamilies.cls ≠ "java/lang/invoke/VarHandle" ∧ (parseMethodDescriptor yX0_countFamilies.desc).map (fun d => d.parameters.length) = some 0 := by decide +kernel
theorem hd_X0_lowestOfFamily : yX0_lowestOfFamily.cls = RX0 ∧ yX0_lowestOfFamily.cls ≠ "java/lang/invoke/MethodHandle" ∧ yX0_lowestOfFamily.cls ≠ "java/lang/invoke/VarHandle" ∧ (parseMethodDescriptor yX0_lowestOfFamily.desc).map (fun d => d.parameters.length) = some 1 := by decide +kernel
theorem hd_X0_withPartners : yX0_withPartners.cls = RX0 ∧ yX0_withPartners.cls ≠ "java/lang/invoke/MethodHandle" ∧ yX0_withPartners.cls ≠ "java/lang/invoke/VarHandle" ∧ (parseMethodDescriptor yX0_withPartners.desc).map (fun d => d.parameters.length) = some 1 := by decide +kernel
theorem hd_X0_setOf : yX0_setOf.cls = RX0 ∧ yX0_setOf.cls ≠ "java/lang/invoke/MethodHandle" ∧ yX0_setOf.cls ≠ "java/lang/invoke/VarHandle" ∧ (parseMethodDescriptor yX0_setOf.desc).map (fun d => d.parameters.length) = some 1 := by decide +kernel
theorem hd_X1_init : yX1_init.cls = RX1 ∧ yX1_init.cls ≠ "java/lang/invoke/MethodHandle" ∧ yX1_init.cls ≠ "java/lang/invoke/VarHandle" ∧ (parseMethodDescriptor yX1_init.desc).map (fun d => d.parameters.length) = some 0 := by decide +kernel
theorem hd_X1_cheapestByTable : yX1_cheapestByTable.cls = RX1 ∧ yX1_cheapestByTable.cls ≠ "java/lang/invoke/MethodHandle" ∧ yX1_cheapestByTable.cls ≠ "java/lang/invoke/VarHandle" ∧ (parseMethodDescriptor yX1_cheapestByTable.desc).map (fun d => d.parameters.length) = some 1 := by decide +kernel
theorem hd_X1_cheapestByTrying : yX1_cheapestByTrying.cls = RX1 ∧ yX1_cheapestByTrying.cls ≠ "java/lang/invoke/MethodHandle" ∧ yX1_cheapestByTrying.cls ≠ "java/lang/invoke/VarHandle" ∧ (parseMethodDescriptor yX1_cheapestByTrying.desc).map (fun d => d.parameters.length) = some 1 := by decide +kernel
theorem hd_X1_tableAt : yX1_tableAt.cls = RX1 ∧ yX1_tableAt.cls ≠ "java/lang/invoke/MethodHandle" ∧ yX1_tableAt.cls ≠ "java/lang/invoke/VarHandle" ∧ (parseMethodDescriptor yX1_tableAt.desc).map (fun d => d.parameters.length) = some 2 := by decide +kernel
theorem hd_X1_setTableAt : yX1_setTableAt.cls = RX1 ∧ yX1_setTableAt.cls ≠ "java/lang/invoke/MethodHandle" ∧ yX1_setTableAt.cls ≠ "java/lang/invoke/VarHandle" ∧ (parseMethodDescriptor yX1_setTableAt.desc).map (fun d => d.parameters.length) = some 3 := by decide +kernel
theorem hd_X1_cheapestTo : yX1_cheapestTo.cls = RX1 ∧ yX1_cheapestTo.cls ≠ "java/lang/invoke/MethodHandle" ∧ yX1_cheapestTo.cls ≠ "java/lang/invoke/VarHandle" ∧ (parseMethodDescriptor yX1_cheapestTo.desc).map (fun d => d.parameters.length) = some 3 := by decide +kernel
theorem hd_X1_costBy : yX1_costBy.cls = RX1 ∧ yX1_costBy.cls ≠ "java/lang/invoke/MethodHandle" ∧ yX1_costBy.cls ≠ "java/lang/invoke/VarHandle" ∧ (parseMethodDescriptor yX1_costBy.desc).map (fun d => d.parameters.length) = some 5 := by decide +kernel
theorem hd_X1_cheapestOnward : yX1_cheapestOnward.cls = RX1 ∧ yX1_cheapestOnward.cls ≠ "java/lang/invoke/MethodHandle" ∧ yX1_cheapestOnward.cls ≠ "java/lang/invoke/VarHandle" ∧ (parseMethodDescriptor yX1_cheapestOnward.desc).map (fun d => d.parameters.length) = some 4 := by decide +kernel
theorem hd_X1_costOnwardBy : yX1_costOnwardBy.cls = RX1 ∧ yX1_costOnwardBy.cls ≠ "java/lang/invoke/MethodHandle" ∧ yX1_costOnwardBy.cls ≠ "java/lang/invoke/VarHandle" ∧ (parseMethodDescriptor yX1_costOnwardBy.desc).map (fun d => d.parameters.length) = some 6 := by decide +kernel
theorem hd_X1_costOfMove : yX1_costOfMove.cls = RX1 ∧ yX1_costOfMove.cls ≠ "java/lang/invoke/MethodHandle" ∧ yX1_costOfMove.cls ≠ "java/lang/invoke/VarHandle" ∧ (parseMethodDescriptor yX1_costOfMove.desc).map (fun d => d.parameters.length) = some 5 := by decide +kernel
theorem hd_X1_cheaper : yX1_cheaper.cls = RX1 ∧ yX1_cheaper.cls ≠ "java/lang/invoke/MethodHandle" ∧ yX1_cheaper.cls ≠ "java/lang/invoke/VarHandle" ∧ (parseMethodDescriptor yX1_cheaper.desc).map (fun d => d.parameters.length) = some 2 := by decide +kernel
theorem hd_X2_init : yX2_init.cls = RX2 ∧ yX2_init.cls ≠ "java/lang/invoke/MethodHandle" ∧ yX2_init.cls ≠ "java/lang/invoke/VarHandle" ∧ (parseMethodDescriptor yX2_init.desc).map (fun d => d.parameters.length) = some 1 := by decide +kernel
theorem hd_X2_size : yX2_size.cls = RX2 ∧ yX2_size.cls ≠ "java/lang/invoke/MethodHandle" ∧ yX2_size.cls ≠ "java/lang/invoke/VarHandle" ∧ (parseMethodDescriptor yX2_size.desc).map (fun d => d.parameters.length) = some 0 := by decide +kernel
theorem hd_X2_isFull : yX2_isFull.cls = RX2 ∧ yX2_isFull.cls ≠ "java/lang/invoke/MethodHandle" ∧ yX2_isFull.cls ≠ "java/lang/invoke/VarHandle" ∧ (parseMethodDescriptor yX2_isFull.desc).map (fun d => d.parameters.length) = some 0 := by decide +kernel
theorem hd_X2_at : yX2_at.cls = RX2 ∧ yX2_at.cls ≠ "java/lang/invoke/MethodHandle" ∧ yX2_at.cls ≠ "java/lang/invoke/VarHandle" ∧ (parseMethodDescriptor yX2_at.desc).map (fun d => d.parameters.length) = some 1 := by decide +kernel
theorem hd_X2_put : yX2_put.cls = RX2 ∧ yX2_put.cls ≠ "java/lang/invoke/MethodHandle" ∧ yX2_put.cls ≠ "java/lang/invoke/VarHandle" ∧ (parseMethodDescriptor yX2_put.desc).map (fun d => d.parameters.length) = some 2 := by decide +kernel
theorem hd_X2_append : yX2_append.cls = RX2 ∧ yX2_append.cls ≠ "java/lang/invoke/MethodHandle" ∧ yX2_append.cls ≠ "java/lang/invoke/VarHandle" ∧ (parseMethodDescriptor yX2_append.desc).map (fun d => d.parameters.length) = some 1 := by decide +kernel
theorem hd_X2_clear : yX2_clear.cls = RX2 ∧ yX2_clear.cls ≠ "java/lang/invoke/MethodHandle" ∧ yX2_clear.cls ≠ "java/lang/invoke/VarHandle" ∧ (parseMethodDescriptor yX2_clear.desc).map (fun d => d.parameters.length) = some 0 := by decide +kernel
theorem hd_X2_stepFrom : yX2_stepFrom.cls = RX2 ∧ yX2_stepFrom.cls ≠ "java/lang/invoke/MethodHandle" ∧ yX2_stepFrom.cls ≠ "java/lang/invoke/VarHandle" ∧ (parseMethodDescriptor yX2_stepFrom.desc).map (fun d => d.parameters.length) = some 1 := by decide +kernel
theorem hd_X2_stepsInCommon : yX2_stepsInCommon.cls = RX2 ∧ yX2_stepsInCommon.cls ≠ "java/lang/invoke/MethodHandle" ∧ yX2_stepsInCommon.cls ≠ "java/lang/invoke/VarHandle" ∧ (parseMethodDescriptor yX2_stepsInCommon.desc).map (fun d => d.parameters.length) = some 3 := by decide +kernel
theorem hd_X2_beginsWithContourOf : yX2_beginsWithContourOf.cls = RX2 ∧ yX2_beginsWithContourOf.cls ≠ "java/lang/invoke/MethodHandle" ∧ yX2_beginsWithContourOf.cls ≠ "java/lang/invoke/VarHandle" ∧ (parseMethodDescriptor yX2_beginsWithContourOf.desc).map (fun d => d.parameters.length) = some 1 := by decide +kernel
theorem hd_X2_direction : yX2_direction.cls = RX2 ∧ yX2_direction.cls ≠ "java/lang/invoke/MethodHandle" ∧ yX2_direction.cls ≠ "java/lang/invoke/VarHandle" ∧ (parseMethodDescriptor yX2_direction.desc).map (fun d => d.parameters.length) = some 1 := by decide +kernel
theorem hd_X3_init : yX3_init.cls = RX3 ∧ yX3_init.cls ≠ "java/lang/invoke/MethodHandle" ∧ yX3_init.cls ≠ "java/lang/invoke/VarHandle" ∧ (parseMethodDescriptor yX3_init.desc).map (fun d => d.parameters.length) = some 0 := by decide +kernel
theorem hd_X3_size : yX3_size.cls = RX3 ∧ yX3_size.cls ≠ "java/lang/invoke/MethodHandle" ∧ yX3_size.cls ≠ "java/lang/invoke/VarHandle" ∧ (parseMethodDescriptor yX3_size.desc).map (fun d => d.parameters.length) = some 0 := by decide +kernel
theorem hd_X3_append : yX3_append.cls = RX3 ∧ yX3_append.cls ≠ "java/lang/invoke/MethodHandle" ∧ yX3_append.cls ≠ "java/lang/invoke/VarHandle" ∧ (parseMethodDescriptor yX3_append.desc).map (fun d => d.parameters.length) = some 2 := by decide +kernel
theorem hd_X4_init : yX4_init.cls = RX4 ∧ yX4_init.cls ≠ "java/lang/invoke/MethodHandle" ∧ yX4_init.cls ≠ "java/lang/invoke/VarHandle" ∧ (parseMethodDescriptor yX4_init.desc).map (fun d => d.parameters.length) = some 0 := by decide +kernel
theorem hd_X4_add : yX4_add.cls = RX4 ∧ yX4_add.cls ≠ "java/lang/invoke/MethodHandle" ∧ yX4_add.cls ≠ "java/lang/invoke/VarHandle" ∧ (parseMethodDescriptor yX4_add.desc).map (fun d => d.parameters.length) = some 2 := by decide +kernel
theorem hd_X4_note : yX4_note.cls = RX4 ∧ yX4_note.cls ≠ "java/lang/invoke/MethodHandle" ∧ yX4_note.cls ≠ "java/lang/invoke/VarHandle" ∧ (parseMethodDescriptor yX4_note.desc).map (fun d => d.parameters.length) = some 3 := by decide +kernel
theorem hd_X4_correct : yX4_correct.cls = RX4 ∧ yX4_correct.cls ≠ "java/lang/invoke/MethodHandle" ∧ yX4_correct.cls ≠ "java/lang/invoke/VarHandle" ∧ (parseMethodDescriptor yX4_correct.desc).map (fun d => d.parameters.length) = some 4 := by decide +kernel
theorem hd_X4_shift : yX4_shift.cls = RX4 ∧ yX4_shift.cls ≠ "java/lang/invoke/MethodHandle" ∧ yX4_shift.cls ≠ "java/lang/invoke/VarHandle" ∧ (parseMethodDescriptor yX4_shift.desc).map (fun d => d.parameters.length) = some 2 := by decide +kernel
theorem hd_X4_retire : yX4_retire.cls = RX4 ∧ yX4_retire.cls ≠ "java/lang/invoke/MethodHandle" ∧ yX4_retire.cls ≠ "java/lang/invoke/VarHandle" ∧ (parseMethodDescriptor yX4_retire.desc).map (fun d => d.parameters.length) = some 1 := by decide +kernel
theorem hd_X4_tunes : yX4_tunes.cls = RX4 ∧ yX4_tunes.cls ≠ "java/lang/invoke/MethodHandle" ∧ yX4_tunes.cls ≠ "java/lang/invoke/VarHandle" ∧ (parseMethodDescriptor yX4_tunes.desc).map (fun d => d.parameters.length) = some 0 := by decide +kernel
theorem hd_X4_notes : yX4_notes.cls = RX4 ∧ yX4_notes.cls ≠ "java/lang/invoke/MethodHandle" ∧ yX4_notes.cls ≠ "java/lang/invoke/VarHandle" ∧ (parseMethodDescriptor yX4_notes.desc).map (fun d => d.parameters.length) = some 1 := by decide +kernel
theorem hd_X4_step : yX4_step.cls = RX4 ∧ yX4_step.cls ≠ "java/lang/invoke/MethodHandle" ∧ yX4_step.cls ≠ "java/lang/invoke/VarHandle" ∧ (parseMethodDescriptor yX4_step.desc).map (fun d => d.parameters.length) = some 2 := by decide +kernel
theorem hd_X4_shared : yX4_shared.cls = RX4 ∧ yX4_shared.cls ≠ "java/lang/invoke/MethodHandle" ∧ yX4_shared.cls ≠ "java/lang/invoke/VarHandle" ∧ (parseMethodDescriptor yX4_shared.desc).map (fun d => d.parameters.length) = some 2 := by decide +kernel
theorem hd_X4_hum : yX4_hum.cls = RX4 ∧ yX4_hum.cls ≠ "java/lang/invoke/MethodHandle" ∧ yX4_hum.cls ≠ "java/lang/invoke/VarHandle" ∧ (parseMethodDescriptor yX4_hum.desc).map (fun d => d.parameters.length) = some 1 := by decide +kernel
theorem hd_X4_hush : yX4_hush.cls = RX4 ∧ yX4_hush.cls ≠ "java/lang/invoke/MethodHandle" ∧ yX4_hush.cls ≠ "java/lang/invoke/VarHandle" ∧ (parseMethodDescriptor yX4_hush.desc).map (fun d => d.parameters.length) = some 0 := by decide +kernel
theorem hd_X4_hummed : yX4_hummed.cls = RX4 ∧ yX4_hummed.cls ≠ "java/lang/invoke/MethodHandle" ∧ yX4_hummed.cls ≠ "java/lang/invoke/VarHandle" ∧ (parseMethodDescriptor yX4_hummed.desc).map (fun d => d.parameters.length) = some 0 := by decide +kernel
theorem hd_X4_setCosts : yX4_setCosts.cls = RX4 ∧ yX4_setCosts.cls ≠ "java/lang/invoke/MethodHandle" ∧ yX4_setCosts.cls ≠ "java/lang/invoke/VarHandle" ∧ (parseMethodDescriptor yX4_setCosts.desc).map (fun d => d.parameters.length) = some 3 := by decide +kernel
theorem hd_X4_cost : yX4_cost.cls = RX4 ∧ yX4_cost.cls ≠ "java/lang/invoke/MethodHandle" ∧ yX4_cost.cls ≠ "java/lang/invoke/VarHandle" ∧ (parseMethodDescriptor yX4_cost.desc).map (fun d => d.parameters.length) = some 1 := by decide +kernel
theorem hd_X4_costByAll : yX4_costByAll.cls = RX4 ∧ yX4_costByAll.cls ≠ "java/lang/invoke/MethodHandle" ∧ yX4_costByAll.cls ≠ "java/lang/invoke/VarHandle" ∧ (parseMethodDescriptor yX4_costByAll.desc).map (fun d => d.parameters.length) = some 1 := by decide +kernel
theorem hd_X4_matches : yX4_matches.cls = RX4 ∧ yX4_matches.cls ≠ "java/lang/invoke/MethodHandle" ∧ yX4_matches.cls ≠ "java/lang/invoke/VarHandle" ∧ (parseMethodDescriptor yX4_matches.desc).map (fun d => d.parameters.length) = some 0 := by decide +kernel
theorem hd_X4_found : yX4_found.cls = RX4 ∧ yX4_found.cls ≠ "java/lang/invoke/MethodHandle" ∧ yX4_found.cls ≠ "java/lang/invoke/VarHandle" ∧ (parseMethodDescriptor yX4_found.desc).map (fun d => d.parameters.length) = some 1 := by decide +kernel
theorem hd_X4_likeContour : yX4_likeContour.cls = RX4 ∧ yX4_likeContour.cls ≠ "java/lang/invoke/MethodHandle" ∧ yX4_likeContour.cls ≠ "java/lang/invoke/VarHandle" ∧ (parseMethodDescriptor yX4_likeContour.desc).map (fun d => d.parameters.length) = some 0 := by decide +kernel
theorem hd_X4_places : yX4_places.cls = RX4 ∧ yX4_places.cls ≠ "java/lang/invoke/MethodHandle" ∧ yX4_places.cls ≠ "java/lang/invoke/VarHandle" ∧ (parseMethodDescriptor yX4_places.desc).map (fun d => d.parameters.length) = some 1 := by decide +kernel
theorem hd_X4_place : yX4_place.cls = RX4 ∧ yX4_place.cls ≠ "java/lang/invoke/MethodHandle" ∧ yX4_place.cls ≠ "java/lang/invoke/VarHandle" ∧ (parseMethodDescriptor yX4_place.desc).map (fun d => d.parameters.length) = some 2 := by decide +kernel
theorem hd_X4_link : yX4_link.cls = RX4 ∧ yX4_link.cls ≠ "java/lang/invoke/MethodHandle" ∧ yX4_link.cls ≠ "java/lang/invoke/VarHandle" ∧ (parseMethodDescriptor yX4_link.desc).map (fun d => d.parameters.length) = some 2 := by decide +kernel
theorem hd_X4_cut : yX4_cut.cls = RX4 ∧ yX4_cut.cls ≠ "java/lang/invoke/MethodHandle" ∧ yX4_cut.cls ≠ "java/lang/invoke/VarHandle" ∧ (parseMethodDescriptor yX4_cut.desc).map (fun d => d.parameters.length) = some 2 := by decide +kernel
theorem hd_X4_family : yX4_family.cls = RX4 ∧ yX4_family.cls ≠ "java/lang/invoke/MethodHandle" ∧ yX4_family.cls ≠ "java/lang/invoke/VarHandle" ∧ (parseMethodDescriptor yX4_family.desc).map (fun d => d.parameters.length) = some 1 := by decide +kernel
theorem hd_X4_families : yX4_families.cls = RX4 ∧ yX4_families.cls ≠ "java/lang/invoke/MethodHandle" ∧ yX4_families.cls ≠ "java/lang/invoke/VarHandle" ∧ (parseMethodDescriptor yX4_families.desc).map (fun d => d.parameters.length) = some 0 := by decide +kernel
theorem hd_X4_isWithin : yX4_isWithin.cls = RX4 ∧ yX4_isWithin.cls ≠ "java/lang/invoke/MethodHandle" ∧ yX4_isWithin.cls ≠ "java/lang/invoke/VarHandle" ∧ (parseMethodDescriptor yX4_isWithin.desc).map (fun d => d.parameters.length) = some 3 := by decide +kernel
theorem hd_X4_refuseUnlessWithin : yX4_refuseUnlessWithin.cls = RX4 ∧ yX4_refuseUnlessWithin.cls ≠ "java/lang/invoke/MethodHandle" ∧ yX4_refuseUnlessWithin.cls ≠ "java/lang/invoke/VarHandle" ∧ (parseMethodDescriptor yX4_refuseUnlessWithin.desc).map (fun d => d.parameters.length) = some 3 := by decide +kernel
theorem hd_X4_refuseUnlessNote : yX4_refuseUnlessNote.cls = RX4 ∧ yX4_refuseUnlessNote.cls ≠ "java/lang/invoke/MethodHandle" ∧ yX4_refuseUnlessNote.cls ≠ "java/lang/invoke/VarHandle" ∧ (parseMethodDescriptor yX4_refuseUnlessNote.desc).map (fun d => d.parameters.length) = some 2 := by decide +kernel
theorem hd_X4_refuseUnlessRunOfHum : yX4_refuseUnlessRunOfHum.cls = RX4 ∧ yX4_refuseUnlessRunOfHum.cls ≠ "java/lang/invoke/MethodHandle" ∧ yX4_refuseUnlessRunOfHum.cls ≠ "java/lang/invoke/VarHandle" ∧ (parseMethodDescriptor yX4_refuseUnlessRunOfHum.desc).map (fun d => d.parameters.length) = some 1 := by decide +kernel
theorem hd_X4_refuseUnlessEntered : yX4_refuseUnlessEntered.cls = RX4 ∧ yX4_refuseUnlessEntered.cls ≠ "java/lang/invoke/MethodHandle" ∧ yX4_refuseUnlessEntered.cls ≠ "java/lang/invoke/VarHandle" ∧ (parseMethodDescriptor yX4_refuseUnlessEntered.desc).map (fun d => d.parameters.length) = some 2 := by decide +kernel
theorem hd_X4_enteredOrNull : yX4_enteredOrNull.cls = RX4 ∧ yX4_enteredOrNull.cls ≠ "java/lang/invoke/MethodHandle" ∧ yX4_enteredOrNull.cls ≠ "java/lang/invoke/VarHandle" ∧ (parseMethodDescriptor yX4_enteredOrNull.desc).map (fun d => d.parameters.length) = some 1 := by decide +kernel
theorem hd_X4_knownOrNull : yX4_knownOrNull.cls = RX4 ∧ yX4_knownOrNull.cls ≠ "java/lang/invoke/MethodHandle" ∧ yX4_knownOrNull.cls ≠ "java/lang/invoke/VarHandle" ∧ (parseMethodDescriptor yX4_knownOrNull.desc).map (fun d => d.parameters.length) = some 1 := by decide +kernel
theorem hd_X4_enteredOrThrow : yX4_enteredOrThrow.cls = RX4 ∧ yX4_enteredOrThrow.cls ≠ "java/lang/invoke/MethodHandle" ∧ yX4_enteredOrThrow.cls ≠ "java/lang/invoke/VarHandle" ∧ (parseMethodDescriptor yX4_enteredOrThrow.desc).map (fun d => d.parameters.length) = some 1 := by decide +kernel
theorem hd_X4_knownOrThrow : yX4_knownOrThrow.cls = RX4 ∧ yX4_knownOrThrow.cls ≠ "java/lang/invoke/MethodHandle" ∧ yX4_knownOrThrow.cls ≠ "java/lang/invoke/VarHandle" ∧ (parseMethodDescriptor yX4_knownOrThrow.desc).map (fun d => d.parameters.length) = some 1 := by decide +kernel
theorem hd_X4_priceTunes : yX4_priceTunes.cls = RX4 ∧ yX4_priceTunes.cls ≠ "java/lang/invoke/MethodHandle" ∧ yX4_priceTunes.cls ≠ "java/lang/invoke/VarHandle" ∧ (parseMethodDescriptor yX4_priceTunes.desc).map (fun d => d.parameters.length) = some 0 := by decide +kernel
theorem hd_X4_rankByPrice : yX4_rankByPrice.cls = RX4 ∧ yX4_rankByPrice.cls ≠ "java/lang/invoke/MethodHandle" ∧ yX4_rankByPrice.cls ≠ "java/lang/invoke/VarHandle" ∧ (parseMethodDescriptor yX4_rankByPrice.desc).map (fun d => d.parameters.length) = some 1 := by decide +kernel
theorem hd_X4_collectPlaces : yX4_collectPlaces.cls = RX4 ∧ yX4_collectPlaces.cls ≠ "java/lang/invoke/MethodHandle" ∧ yX4_collectPlaces.cls ≠ "java/lang/invoke/VarHandle" ∧ (parseMethodDescriptor yX4_collectPlaces.desc).map (fun d => d.parameters.length) = some 1 := by decide +kernel
theorem hd_X4_collectPlacesOf : yX4_collectPlacesOf.cls = RX4 ∧ yX4_collectPlacesOf.cls ≠ "java/lang/invoke/MethodHandle" ∧ yX4_collectPlacesOf.cls ≠ "java/lang/invoke/VarHandle" ∧ (parseMethodDescriptor yX4_collectPlacesOf.desc).map (fun d => d.parameters.length) = some 3 := by decide +kernel
theorem hd_X5_init : yX5_init.cls = RX5 ∧ yX5_init.cls ≠ "java/lang/invoke/MethodHandle" ∧ yX5_init.cls ≠ "java/lang/invoke/VarHandle" ∧ (parseMethodDescriptor yX5_init.desc).map (fun d => d.parameters.length) = some 0 := by decide +kernel
theorem hd_X5_thrown : yX5_thrown.cls = RX5 ∧ yX5_thrown.cls ≠ "java/lang/invoke/MethodHandle" ∧ yX5_thrown.cls ≠ "java/lang/invoke/VarHandle" ∧ (parseMethodDescriptor yX5_thrown.desc).map (fun d => d.parameters.length) = some 0 := by decide +kernel
theorem hd_X5_holds : yX5_holds.cls = RX5 ∧ yX5_holds.cls ≠ "java/lang/invoke/MethodHandle" ∧ yX5_holds.cls ≠ "java/lang/invoke/VarHandle" ∧ (parseMethodDescriptor yX5_holds.desc).map (fun d => d.parameters.length) = some 1 := by decide +kernel
theorem hd_X5_in : yX5_in.cls = RX5 ∧ yX5_in.cls ≠ "java/lang/invoke/MethodHandle" ∧ yX5_in.cls ≠ "java/lang/invoke/VarHandle" ∧ (parseMethodDescriptor yX5_in.desc).map (fun d => d.parameters.length) = some 3 := by decide +kernel
theorem hd_X5_isTune : yX5_isTune.cls = RX5 ∧ yX5_isTune.cls ≠ "java/lang/invoke/MethodHandle" ∧ yX5_isTune.cls ≠ "java/lang/invoke/VarHandle" ∧ (parseMethodDescriptor yX5_isTune.desc).map (fun d => d.parameters.length) = some 1 := by decide +kernel
theorem hd_X5_isKnown : yX5_isKnown.cls = RX5 ∧ yX5_isKnown.cls ≠ "java/lang/invoke/MethodHandle" ∧ yX5_isKnown.cls ≠ "java/lang/invoke/VarHandle" ∧ (parseMethodDescriptor yX5_isKnown.desc).map (fun d => d.parameters.length) = some 1 := by decide +kernel
theorem hd_X5_isNote : yX5_isNote.cls = RX5 ∧ yX5_isNote.cls ≠ "java/lang/invoke/MethodHandle" ∧ yX5_isNote.cls ≠ "java/lang/invoke/VarHandle" ∧ (parseMethodDescriptor yX5_isNote.desc).map (fun d => d.parameters.length) = some 2 := by decide +kernel
theorem hd_X5_sets : yX5_sets.cls = RX5 ∧ yX5_sets.cls ≠ "java/lang/invoke/MethodHandle" ∧ yX5_sets.cls ≠ "java/lang/invoke/VarHandle" ∧ (parseMethodDescriptor yX5_sets.desc).map (fun d => d.parameters.length) = some 4 := by decide +kernel
theorem hd_X5_add : yX5_add.cls = RX5 ∧ yX5_add.cls ≠ "java/lang/invoke/MethodHandle" ∧ yX5_add.cls ≠ "java/lang/invoke/VarHandle" ∧ (parseMethodDescriptor yX5_add.desc).map (fun d => d.parameters.length) = some 2 := by decide +kernel
theorem hd_X5_note : yX5_note.cls = RX5 ∧ yX5_note.cls ≠ "java/lang/invoke/MethodHandle" ∧ yX5_note.cls ≠ "java/lang/invoke/VarHandle" ∧ (parseMethodDescriptor yX5_note.desc).map (fun d => d.parameters.length) = some 3 := by decide +kernel
theorem hd_X5_correct : yX5_correct.cls = RX5 ∧ yX5_correct.cls ≠ "java/lang/invoke/MethodHandle" ∧ yX5_correct.cls ≠ "java/lang/invoke/VarHandle" ∧ (parseMethodDescriptor yX5_correct.desc).map (fun d => d.parameters.length) = some 4 := by decide +kernel
theorem hd_X5_mayShift : yX5_mayShift.cls = RX5 ∧ yX5_mayShift.cls ≠ "java/lang/invoke/MethodHandle" ∧ yX5_mayShift.cls ≠ "java/lang/invoke/VarHandle" ∧ (parseMethodDescriptor yX5_mayShift.desc).map (fun d => d.parameters.length) = some 2 := by decide +kernel
theorem hd_X5_shift : yX5_shift.cls = RX5 ∧ yX5_shift.cls ≠ "java/lang/invoke/MethodHandle" ∧ yX5_shift.cls ≠ "java/lang/invoke/VarHandle" ∧ (parseMethodDescriptor yX5_shift.desc).map (fun d => d.parameters.length) = some 2 := by decide +kernel
theorem hd_X5_retire : yX5_retire.cls = RX5 ∧ yX5_retire.cls ≠ "java/lang/invoke/MethodHandle" ∧ yX5_retire.cls ≠ "java/lang/invoke/VarHandle" ∧ (parseMethodDescriptor yX5_retire.desc).map (fun d => d.parameters.length) = some 1 := by decide +kernel
theorem hd_X5_tunes : yX5_tunes.cls = RX5 ∧ yX5_tunes.cls ≠ "java/lang/invoke/MethodHandle" ∧ yX5_tunes.cls ≠ "java/lang/invoke/VarHandle" ∧ (parseMethodDescriptor yX5_tunes.desc).map (fun d => d.parameters.length) = some 0 := by decide +kernel
theorem hd_X5_notes : yX5_notes.cls = RX5 ∧ yX5_notes.cls ≠ "java/lang/invoke/MethodHandle" ∧ yX5_notes.cls ≠ "java/lang/invoke/VarHandle" ∧ (parseMethodDescriptor yX5_notes.desc).map (fun d => d.parameters.length) = some 1 := by decide +kernel
theorem hd_X5_stepOf : yX5_stepOf.cls = RX5 ∧ yX5_stepOf.cls ≠ "java/lang/invoke/MethodHandle" ∧ yX5_stepOf.cls ≠ "java/lang/invoke/VarHandle" ∧ (parseMethodDescriptor yX5_stepOf.desc).map (fun d => d.parameters.length) = some 2 := by decide +kernel
theorem hd_X5_step : yX5_step.cls = RX5 ∧ yX5_step.cls ≠ "java/lang/invoke/MethodHandle" ∧ yX5_step.cls ≠ "java/lang/invoke/VarHandle" ∧ (parseMethodDescriptor yX5_step.desc).map (fun d => d.parameters.length) = some 2 := by decide +kernel
theorem hd_X5_alike : yX5_alike.cls = RX5 ∧ yX5_alike.cls ≠ "java/lang/invoke/MethodHandle" ∧ yX5_alike.cls ≠ "java/lang/invoke/VarHandle" ∧ (parseMethodDescriptor yX5_alike.desc).map (fun d => d.parameters.length) = some 4 := by decide +kernel
theorem hd_X5_shared : yX5_shared.cls = RX5 ∧ yX5_shared.cls ≠ "java/lang/invoke/MethodHandle" ∧ yX5_shared.cls ≠ "java/lang/invoke/VarHandle" ∧ (parseMethodDescriptor yX5_shared.desc).map (fun d => d.parameters.length) = some 2 := by decide +kernel
theorem hd_X5_hum : yX5_hum.cls = RX5 ∧ yX5_hum.cls ≠ "java/lang/invoke/MethodHandle" ∧ yX5_hum.cls ≠ "java/lang/invoke/VarHandle" ∧ (parseMethodDescriptor yX5_hum.desc).map (fun d => d.parameters.length) = some 1 := by decide +kernel
theorem hd_X5_hush : yX5_hush.cls = RX5 ∧ yX5_hush.cls ≠ "java/lang/invoke/MethodHandle" ∧ yX5_hush.cls ≠ "java/lang/invoke/VarHandle" ∧ (parseMethodDescriptor yX5_hush.desc).map (fun d => d.parameters.length) = some 0 := by decide +kernel
theorem hd_X5_hummed : yX5_hummed.cls = RX5 ∧ yX5_hummed.cls ≠ "java/lang/invoke/MethodHandle" ∧ yX5_hummed.cls ≠ "java/lang/invoke/VarHandle" ∧ (parseMethodDescriptor yX5_hummed.desc).map (fun d => d.parameters.length) = some 0 := by decide +kernel
theorem hd_X5_setCosts : yX5_setCosts.cls = RX5 ∧ yX5_setCosts.cls ≠ "java/lang/invoke/MethodHandle" ∧ yX5_setCosts.cls ≠ "java/lang/invoke/VarHandle" ∧ (parseMethodDescriptor yX5_setCosts.desc).map (fun d => d.parameters.length) = some 3 := by decide +kernel
theorem hd_X5_costOfNotes : yX5_costOfNotes.cls = RX5 ∧ yX5_costOfNotes.cls ≠ "java/lang/invoke/MethodHandle" ∧ yX5_costOfNotes.cls ≠ "java/lang/invoke/VarHandle" ∧ (parseMethodDescriptor yX5_costOfNotes.desc).map (fun d => d.parameters.length) = some 3 := by decide +kernel
theorem hd_X5_costOfPitches : yX5_costOfPitches.cls = RX5 ∧ yX5_costOfPitches.cls ≠ "java/lang/invoke/MethodHandle" ∧ yX5_costOfPitches.cls ≠ "java/lang/invoke/VarHandle" ∧ (parseMethodDescriptor yX5_costOfPitches.desc).map (fun d => d.parameters.length) = some 2 := by decide +kernel
theorem hd_X5_laid : yX5_laid.cls = RX5 ∧ yX5_laid.cls ≠ "java/lang/invoke/MethodHandle" ∧ yX5_laid.cls ≠ "java/lang/invoke/VarHandle" ∧ (parseMethodDescriptor yX5_laid.desc).map (fun d => d.parameters.length) = some 5 := by decide +kernel
theorem hd_X5_least : yX5_least.cls = RX5 ∧ yX5_least.cls ≠ "java/lang/invoke/MethodHandle" ∧ yX5_least.cls ≠ "java/lang/invoke/VarHandle" ∧ (parseMethodDescriptor yX5_least.desc).map (fun d => d.parameters.length) = some 2 := by decide +kernel
theorem hd_X5_costOf : yX5_costOf.cls = RX5 ∧ yX5_costOf.cls ≠ "java/lang/invoke/MethodHandle" ∧ yX5_costOf.cls ≠ "java/lang/invoke/VarHandle" ∧ (parseMethodDescriptor yX5_costOf.desc).map (fun d => d.parameters.length) = some 1 := by decide +kernel
theorem hd_X5_cost : yX5_cost.cls = RX5 ∧ yX5_cost.cls ≠ "java/lang/invoke/MethodHandle" ∧ yX5_cost.cls ≠ "java/lang/invoke/VarHandle" ∧ (parseMethodDescriptor yX5_cost.desc).map (fun d => d.parameters.length) = some 1 := by decide +kernel
theorem hd_X5_costByAll : yX5_costByAll.cls = RX5 ∧ yX5_costByAll.cls ≠ "java/lang/invoke/MethodHandle" ∧ yX5_costByAll.cls ≠ "java/lang/invoke/VarHandle" ∧ (parseMethodDescriptor yX5_costByAll.desc).map (fun d => d.parameters.length) = some 1 := by decide +kernel
theorem hd_X5_many : yX5_many.cls = RX5 ∧ yX5_many.cls ≠ "java/lang/invoke/MethodHandle" ∧ yX5_many.cls ≠ "java/lang/invoke/VarHandle" ∧ (parseMethodDescriptor yX5_many.desc).map (fun d => d.parameters.length) = some 0 := by decide +kernel
theorem hd_X5_matches : yX5_matches.cls = RX5 ∧ yX5_matches.cls ≠ "java/lang/invoke/MethodHandle" ∧ yX5_matches.cls ≠ "java/lang/invoke/VarHandle" ∧ (parseMethodDescriptor yX5_matches.desc).map (fun d => d.parameters.length) = some 0 := by decide +kernel
theorem hd_X5_rank : yX5_rank.cls = RX5 ∧ yX5_rank.cls ≠ "java/lang/invoke/MethodHandle" ∧ yX5_rank.cls ≠ "java/lang/invoke/VarHandle" ∧ (parseMethodDescriptor yX5_rank.desc).map (fun d => d.parameters.length) = some 1 := by decide +kernel
theorem hd_X5_found : yX5_found.cls = RX5 ∧ yX5_found.cls ≠ "java/lang/invoke/MethodHandle" ∧ yX5_found.cls ≠ "java/lang/invoke/VarHandle" ∧ (parseMethodDescriptor yX5_found.desc).map (fun d => d.parameters.length) = some 1 := by decide +kernel
theorem hd_X5_sign : yX5_sign.cls = RX5 ∧ yX5_sign.cls ≠ "java/lang/invoke/MethodHandle" ∧ yX5_sign.cls ≠ "java/lang/invoke/VarHandle" ∧ (parseMethodDescriptor yX5_sign.desc).map (fun d => d.parameters.length) = some 1 := by decide +kernel
theorem hd_X5_isLike : yX5_isLike.cls = RX5 ∧ yX5_isLike.cls ≠ "java/lang/invoke/MethodHandle" ∧ yX5_isLike.cls ≠ "java/lang/invoke/VarHandle" ∧ (parseMethodDescriptor yX5_isLike.desc).map (fun d => d.parameters.length) = some 1 := by decide +kernel
theorem hd_X5_likeContour : yX5_likeContour.cls = RX5 ∧ yX5_likeContour.cls ≠ "java/lang/invoke/MethodHandle" ∧ yX5_likeContour.cls ≠ "java/lang/invoke/VarHandle" ∧ (parseMethodDescriptor yX5_likeContour.desc).map (fun d => d.parameters.length) = some 0 := by decide +kernel
theorem hd_X5_isRun : yX5_isRun.cls = RX5 ∧ yX5_isRun.cls ≠ "java/lang/invoke/MethodHandle" ∧ yX5_isRun.cls ≠ "java/lang/invoke/VarHandle" ∧ (parseMethodDescriptor yX5_isRun.desc).map (fun d => d.parameters.length) = some 3 := by decide +kernel
theorem hd_X5_errorOfRun : yX5_errorOfRun.cls = RX5 ∧ yX5_errorOfRun.cls ≠ "java/lang/invoke/MethodHandle" ∧ yX5_errorOfRun.cls ≠ "java/lang/invoke/VarHandle" ∧ (parseMethodDescriptor yX5_errorOfRun.desc).map (fun d => d.parameters.length) = some 1 := by decide +kernel
theorem hd_X5_placesOf : yX5_placesOf.cls = RX5 ∧ yX5_placesOf.cls ≠ "java/lang/invoke/MethodHandle" ∧ yX5_placesOf.cls ≠ "java/lang/invoke/VarHandle" ∧ (parseMethodDescriptor yX5_placesOf.desc).map (fun d => d.parameters.length) = some 1 := by decide +kernel
theorem hd_X5_places : yX5_places.cls = RX5 ∧ yX5_places.cls ≠ "java/lang/invoke/MethodHandle" ∧ yX5_places.cls ≠ "java/lang/invoke/VarHandle" ∧ (parseMethodDescriptor yX5_places.desc).map (fun d => d.parameters.length) = some 1 := by decide +kernel
theorem hd_X5_place : yX5_place.cls = RX5 ∧ yX5_place.cls ≠ "java/lang/invoke/MethodHandle" ∧ yX5_place.cls ≠ "java/lang/invoke/VarHandle" ∧ (parseMethodDescriptor yX5_place.desc).map (fun d => d.parameters.length) = some 2 := by decide +kernel
theorem hd_X5_familyOf : yX5_familyOf.cls = RX5 ∧ yX5_familyOf.cls ≠ "java/lang/invoke/MethodHandle" ∧ yX5_familyOf.cls ≠ "java/lang/invoke/VarHandle" ∧ (parseMethodDescriptor yX5_familyOf.desc).map (fun d => d.parameters.length) = some 1 := by decide +kernel
theorem hd_X5_lowest : yX5_lowest.cls = RX5 ∧ yX5_lowest.cls ≠ "java/lang/invoke/MethodHandle" ∧ yX5_lowest.cls ≠ "java/lang/invoke/VarHandle" ∧ (parseMethodDescriptor yX5_lowest.desc).map (fun d => d.parameters.length) = some 1 := by decide +kernel
theorem hd_X5_familiesOf : yX5_familiesOf.cls = RX5 ∧ yX5_familiesOf.cls ≠ "java/lang/invoke/MethodHandle" ∧ yX5_familiesOf.cls ≠ "java/lang/invoke/VarHandle" ∧ (parseMethodDescriptor yX5_familiesOf.desc).map (fun d => d.parameters.length) = some 0 := by decide +kernel
theorem hd_X5_areLinked : yX5_areLinked.cls = RX5 ∧ yX5_areLinked.cls ≠ "java/lang/invoke/MethodHandle" ∧ yX5_areLinked.cls ≠ "java/lang/invoke/VarHandle" ∧ (parseMethodDescriptor yX5_areLinked.desc).map (fun d => d.parameters.length) = some 2 := by decide +kernel
theorem hd_X5_link : yX5_link.cls = RX5 ∧ yX5_link.cls ≠ "java/lang/invoke/MethodHandle" ∧ yX5_link.cls ≠ "java/lang/invoke/VarHandle" ∧ (parseMethodDescriptor yX5_link.desc).map (fun d => d.parameters.length) = some 2 := by decide +kernel
theorem hd_X5_cut : yX5_cut.cls = RX5 ∧ yX5_cut.cls ≠ "java/lang/invoke/MethodHandle" ∧ yX5_cut.cls ≠ "java/lang/invoke/VarHandle" ∧ (parseMethodDescriptor yX5_cut.desc).map (fun d => d.parameters.length) = some 2 := by decide +kernel
theorem hd_X5_family : yX5_family.cls = RX5 ∧ yX5_family.cls ≠ "java/lang/invoke/MethodHandle" ∧ yX5_family.cls ≠ "java/lang/invoke/VarHandle" ∧ (parseMethodDescriptor yX5_family.desc).map (fun d => d.parameters.length) = some 1 := by decide +kernel
theorem hd_X5_families : yX5_families.cls = RX5 ∧ yX5_families.cls ≠ "java/lang/invoke/MethodHandle" ∧ yX5_families.cls ≠ "java/lang/invoke/VarHandle" ∧ (parseMethodDescriptor yX5_families.desc).map (fun d => d.parameters.length) = some 0 := by decide +kernel
theorem hd_L_add : yL_add.cls = RL ∧ yL_add.cls ≠ "java/lang/invoke/MethodHandle" ∧ yL_add.cls ≠ "java/lang/invoke/VarHandle" ∧ (parseMethodDescriptor yL_add.desc).map (fun d => d.parameters.length) = some 4 := by decide +kernel
theorem hd_L_note : yL_note.cls = RL ∧ yL_note.cls ≠ "java/lang/invoke/MethodHandle" ∧ yL_note.cls ≠ "java/lang/invoke/VarHandle" ∧ (parseMethodDescriptor yL_note.desc).map (fun d => d.parameters.length) = some 5 := by decide +kernel
theorem hd_L_correct : yL_correct.cls = RL ∧ yL_correct.cls ≠ "java/lang/invoke/MethodHandle" ∧ yL_correct.cls ≠ "java/lang/invoke/VarHandle" ∧ (parseMethodDescriptor yL_correct.desc).map (fun d => d.parameters.length) = some 6 := by decide +kernel
theorem hd_L_shift : yL_shift.cls = RL ∧ yL_shift.cls ≠ "java/lang/invoke/MethodHandle" ∧ yL_shift.cls ≠ "java/lang/invoke/VarHandle" ∧ (parseMethodDescriptor yL_shift.desc).map (fun d => d.parameters.length) = some 3 := by decide +kernel
theorem hd_L_retire : yL_retire.cls = RL ∧ yL_retire.cls ≠ "java/lang/invoke/MethodHandle" ∧ yL_retire.cls ≠ "java/lang/invoke/VarHandle" ∧ (parseMethodDescriptor yL_retire.desc).map (fun d => d.parameters.length) = some 3 := by decide +kernel
theorem hd_L_notes : yL_notes.cls = RL ∧ yL_notes.cls ≠ "java/lang/invoke/MethodHandle" ∧ yL_notes.cls ≠ "java/lang/invoke/VarHandle" ∧ (parseMethodDescriptor yL_notes.desc).map (fun d => d.parameters.length) = some 3 := by decide +kernel
theorem hd_L_step : yL_step.cls = RL ∧ yL_step.cls ≠ "java/lang/invoke/MethodHandle" ∧ yL_step.cls ≠ "java/lang/invoke/VarHandle" ∧ (parseMethodDescriptor yL_step.desc).map (fun d => d.parameters.length) = some 4 := by decide +kernel
theorem hd_L_shared : yL_shared.cls = RL ∧ yL_shared.cls ≠ "java/lang/invoke/MethodHandle" ∧ yL_shared.cls ≠ "java/lang/invoke/VarHandle" ∧ (parseMethodDescriptor yL_shared.desc).map (fun d => d.parameters.length) = some 4 := by decide +kernel
theorem hd_L_hum : yL_hum.cls = RL ∧ yL_hum.cls ≠ "java/lang/invoke/MethodHandle" ∧ yL_hum.cls ≠ "java/lang/invoke/VarHandle" ∧ (parseMethodDescriptor yL_hum.desc).map (fun d => d.parameters.length) = some 3 := by decide +kernel
theorem hd_L_setCosts : yL_setCosts.cls = RL ∧ yL_setCosts.cls ≠ "java/lang/invoke/MethodHandle" ∧ yL_setCosts.cls ≠ "java/lang/invoke/VarHandle" ∧ (parseMethodDescriptor yL_setCosts.desc).map (fun d => d.parameters.length) = some 4 := by decide +kernel
theorem hd_L_cost : yL_cost.cls = RL ∧ yL_cost.cls ≠ "java/lang/invoke/MethodHandle" ∧ yL_cost.cls ≠ "java/lang/invoke/VarHandle" ∧ (parseMethodDescriptor yL_cost.desc).map (fun d => d.parameters.length) = some 3 := by decide +kernel
theorem hd_L_costByAll : yL_costByAll.cls = RL ∧ yL_costByAll.cls ≠ "java/lang/invoke/MethodHandle" ∧ yL_costByAll.cls ≠ "java/lang/invoke/VarHandle" ∧ (parseMethodDescriptor yL_costByAll.desc).map (fun d => d.parameters.length) = some 3 := by decide +kernel
theorem hd_L_found : yL_found.cls = RL ∧ yL_found.cls ≠ "java/lang/invoke/MethodHandle" ∧ yL_found.cls ≠ "java/lang/invoke/VarHandle" ∧ (parseMethodDescriptor yL_found.desc).map (fun d => d.parameters.length) = some 3 := by decide +kernel
theorem hd_L_places : yL_places.cls = RL ∧ yL_places.cls ≠ "java/lang/invoke/MethodHandle" ∧ yL_places.cls ≠ "java/lang/invoke/VarHandle" ∧ (parseMethodDescriptor yL_places.desc).map (fun d => d.parameters.length) = some 3 := by decide +kernel
theorem hd_L_place : yL_place.cls = RL ∧ yL_place.cls ≠ "java/lang/invoke/MethodHandle" ∧ yL_place.cls ≠ "java/lang/invoke/VarHandle" ∧ (parseMethodDescriptor yL_place.desc).map (fun d => d.parameters.length) = some 4 := by decide +kernel
theorem hd_L_link : yL_link.cls = RL ∧ yL_link.cls ≠ "java/lang/invoke/MethodHandle" ∧ yL_link.cls ≠ "java/lang/invoke/VarHandle" ∧ (parseMethodDescriptor yL_link.desc).map (fun d => d.parameters.length) = some 4 := by decide +kernel
theorem hd_L_cut : yL_cut.cls = RL ∧ yL_cut.cls ≠ "java/lang/invoke/MethodHandle" ∧ yL_cut.cls ≠ "java/lang/invoke/VarHandle" ∧ (parseMethodDescriptor yL_cut.desc).map (fun d => d.parameters.length) = some 4 := by decide +kernel
theorem hd_L_family : yL_family.cls = RL ∧ yL_family.cls ≠ "java/lang/invoke/MethodHandle" ∧ yL_family.cls ≠ "java/lang/invoke/VarHandle" ∧ (parseMethodDescriptor yL_family.desc).map (fun d => d.parameters.length) = some 3 := by decide +kernel
theorem hd_L_law : yL_law.cls = RL ∧ yL_law.cls ≠ "java/lang/invoke/MethodHandle" ∧ yL_law.cls ≠ "java/lang/invoke/VarHandle" ∧ (parseMethodDescriptor yL_law.desc).map (fun d => d.parameters.length) = some 1 := by decide +kernel
theorem ha_X4_refuseUnlessWithin_189 {args : Array Value} {s : State} {G : gG} {H0 : Heap} (hX : gX G s H0) (hts : ∀ w ∈ wsX4_refuseUnlessWithin, w.before args s = true) : ∀ w ∈ vx_atS RX4 189 "java/lang/IllegalArgumentException" ["java/lang/RuntimeException", "java/lang/Exception"], w.before args s = true := vx_hat (B := gFc) (fun w h => hts w (List.mem_cons_of_mem _ (List.mem_append_right _ h))) (by decide +kernel) (fun w h => va_Nw.use (gFc_ok w h).2 (hX.1.2.2.2.2.2.1 w h))
theorem ha_X4_add_63 {args : Array Value} {s : State} {G : gG} {H0 : Heap} (hX : gX G s H0) (hts : ∀ w ∈ wsX4_add, w.before args s = true) : ∀ w ∈ vx_atS RX4 63 "java/lang/IllegalStateException" ["java/lang/RuntimeException", "java/lang/Exception"], w.before args s = true := vx_hat (B := gFc) (fun w h => hts w (List.mem_cons_of_mem _ (List.mem_append_left _ (List.mem_append_right _ h)))) (by decide +kernel) (fun w h => va_Nw.use (gFc_ok w h).2 (hX.1.2.2.2.2.2.1 w h))
theorem ha_X4_knownOrThrow_94 {args : Array Value} {s : State} {G : gG} {H0 : Heap} (hX : gX G s H0) (hts : ∀ w ∈ wsX4_knownOrThrow, w.before args s = true) : ∀ w ∈ vx_atS RX4 94 "java/lang/IndexOutOfBoundsException" ["java/lang/RuntimeException", "java/lang/Exception"], w.before args s = true := vx_hat (B := gFc) (fun w h => hts w (List.mem_cons_of_mem _ (List.mem_append_right _ h))) (by decide +kernel) (fun w h => va_Nw.use (gFc_ok w h).2 (hX.1.2.2.2.2.2.1 w h))
theorem ha_X4_note_63 {args : Array Value} {s : State} {G : gG} {H0 : Heap} (hX : gX G s H0) (hts : ∀ w ∈ wsX4_note, w.before args s = true) : ∀ w ∈ vx_atS RX4 63 "java/lang/IllegalStateException" ["java/lang/RuntimeException", "java/lang/Exception"], w.before args s = true := vx_hat (B := gFc) (fun w h => hts w (List.mem_cons_of_mem _ (List.mem_append_left _ (List.mem_append_left _ (List.mem_append_right _ h))))) (by decide +kernel) (fun w h => va_Nw.use (gFc_ok w h).2 (hX.1.2.2.2.2.2.1 w h))
theorem ha_X4_correct_94 {args : Array Value} {s : State} {G : gG} {H0 : Heap} (hX : gX G s H0) (hts : ∀ w ∈ wsX4_correct, w.before args s = true) : ∀ w ∈ vx_atS RX4 94 "java/lang/IndexOutOfBoundsException" ["java/lang/RuntimeException", "java/lang/Exception"], w.before args s = true := vx_hat (B := gFc) (fun w h => hts w (List.mem_cons_of_mem _ (List.mem_append_left _ (List.mem_append_right _ h)))) (by decide +kernel) (fun w h => va_Nw.use (gFc_ok w h).2 (hX.1.2.2.2.2.2.1 w h))
theorem ha_X4_shift_63 {args : Array Value} {s : State} {G : gG} {H0 : Heap} (hX : gX G s H0) (hts : ∀ w ∈ wsX4_shift, w.before args s = true) : ∀ w ∈ vx_atS RX4 63 "java/lang/IllegalStateException" ["java/lang/RuntimeException", "java/lang/Exception"], w.before args s = true := vx_hat (B := gFc) (fun w h => hts w (List.mem_cons_of_mem _ (List.mem_append_left _ (List.mem_append_left _ (List.mem_append_right _ h))))) (by decide +kernel) (fun w h => va_Nw.use (gFc_ok w h).2 (hX.1.2.2.2.2.2.1 w h))
theorem ha_X4_enteredOrThrow_94 {args : Array Value} {s : State} {G : gG} {H0 : Heap} (hX : gX G s H0) (hts : ∀ w ∈ wsX4_enteredOrThrow, w.before args s = true) : ∀ w ∈ vx_atS RX4 94 "java/lang/IndexOutOfBoundsException" ["java/lang/RuntimeException", "java/lang/Exception"], w.before args s = true := vx_hat (B := gFc) (fun w h => hts w (List.mem_cons_of_mem _ (List.mem_append_right _ h))) (by decide +kernel) (fun w h => va_Nw.use (gFc_ok w h).2 (hX.1.2.2.2.2.2.1 w h))
theorem ha_X4_step_94 {args : Array Value} {s : State} {G : gG} {H0 : Heap} (hX : gX G s H0) (hts : ∀ w ∈ wsX4_step, w.before args s = true) : ∀ w ∈ vx_atS RX4 94 "java/lang/IndexOutOfBoundsException" ["java/lang/RuntimeException", "java/lang/Exception"], w.before args s = true := vx_hat (B := gFc) (fun w h => hts w (List.mem_cons_of_mem _ (List.mem_append_right _ h))) (by decide +kernel) (fun w h => va_Nw.use (gFc_ok w h).2 (hX.1.2.2.2.2.2.1 w h))
theorem ha_X4_hum_63 {args : Array Value} {s : State} {G : gG} {H0 : Heap} (hX : gX G s H0) (hts : ∀ w ∈ wsX4_hum, w.before args s = true) : ∀ w ∈ vx_atS RX4 63 "java/lang/IllegalStateException" ["java/lang/RuntimeException", "java/lang/Exception"], w.before args s = true := vx_hat (B := gFc) (fun w h => hts w (List.mem_cons_of_mem _ (List.mem_append_left _ (List.mem_append_right _ h)))) (by decide +kernel) (fun w h => va_Nw.use (gFc_ok w h).2 (hX.1.2.2.2.2.2.1 w h))
theorem ha_X4_costByAll_63 {args : Array Value} {s : State} {G : gG} {H0 : Heap} (hX : gX G s H0) (hts : ∀ w ∈ wsX4_costByAll, w.before args s = true) : ∀ w ∈ vx_atS RX4 63 "java/lang/IllegalStateException" ["java/lang/RuntimeException", "java/lang/Exception"], w.before args s = true := vx_hat (B := gFc) (fun w h => hts w (List.mem_cons_of_mem _ (List.mem_append_left _ (List.mem_append_right _ h)))) (by decide +kernel) (fun w h => va_Nw.use (gFc_ok w h).2 (hX.1.2.2.2.2.2.1 w h))
theorem ha_X4_found_94 {args : Array Value} {s : State} {G : gG} {H0 : Heap} (hX : gX G s H0) (hts : ∀ w ∈ wsX4_found, w.before args s = true) : ∀ w ∈ vx_atS RX4 94 "java/lang/IndexOutOfBoundsException" ["java/lang/RuntimeException", "java/lang/Exception"], w.before args s = true := vx_hat (B := gFc) (fun w h => hts w (List.mem_cons_of_mem _ (List.mem_append_right _ h))) (by decide +kernel) (fun w h => va_Nw.use (gFc_ok w h).2 (hX.1.2.2.2.2.2.1 w h))
theorem ha_X4_refuseUnlessRunOfHum_63 {args : Array Value} {s : State} {G : gG} {H0 : Heap} (hX : gX G s H0) (hts : ∀ w ∈ wsX4_refuseUnlessRunOfHum, w.before args s = true) : ∀ w ∈ vx_atS RX4 63 "java/lang/IllegalStateException" ["java/lang/RuntimeException", "java/lang/Exception"], w.before args s = true := vx_hat (B := gFc) (fun w h => hts w (List.mem_cons_of_mem _ (List.mem_append_left _ (List.mem_append_right _ h)))) (by decide +kernel) (fun w h => va_Nw.use (gFc_ok w h).2 (hX.1.2.2.2.2.2.1 w h))
theorem ha_X4_place_94 {args : Array Value} {s : State} {G : gG} {H0 : Heap} (hX : gX G s H0) (hts : ∀ w ∈ wsX4_place, w.before args s = true) : ∀ w ∈ vx_atS RX4 94 "java/lang/IndexOutOfBoundsException" ["java/lang/RuntimeException", "java/lang/Exception"], w.before args s = true := vx_hat (B := gFc) (fun w h => hts w (List.mem_cons_of_mem _ (List.mem_append_left _ (List.mem_append_left _ (List.mem_append_right _ h))))) (by decide +kernel) (fun w h => va_Nw.use (gFc_ok w h).2 (hX.1.2.2.2.2.2.1 w h))
theorem ha_X4_link_189 {args : Array Value} {s : State} {G : gG} {H0 : Heap} (hX : gX G s H0) (hts : ∀ w ∈ wsX4_link, w.before args s = true) : ∀ w ∈ vx_atS RX4 189 "java/lang/IllegalArgumentException" ["java/lang/RuntimeException", "java/lang/Exception"], w.before args s = true := vx_hat (B := gFc) (fun w h => hts w (List.mem_cons_of_mem _ (List.mem_append_left _ (List.mem_append_left _ (List.mem_append_right _ h))))) (by decide +kernel) (fun w h => va_Nw.use (gFc_ok w h).2 (hX.1.2.2.2.2.2.1 w h))
theorem ha_X4_link_63 {args : Array Value} {s : State} {G : gG} {H0 : Heap} (hX : gX G s H0) (hts : ∀ w ∈ wsX4_link, w.before args s = true) : ∀ w ∈ vx_atS RX4 63 "java/lang/IllegalStateException" ["java/lang/RuntimeException", "java/lang/Exception"], w.before args s = true := vx_hat (B := gFc) (fun w h => hts w (List.mem_cons_of_mem _ (List.mem_append_left _ (List.mem_append_right _ h)))) (by decide +kernel) (fun w h => va_Nw.use (gFc_ok w h).2 (hX.1.2.2.2.2.2.1 w h))
theorem ha_X4_cut_63 {args : Array Value} {s : State} {G : gG} {H0 : Heap} (hX : gX G s H0) (hts : ∀ w ∈ wsX4_cut, w.before args s = true) : ∀ w ∈ vx_atS RX4 63 "java/lang/IllegalStateException" ["java/lang/RuntimeException", "java/lang/Exception"], w.before args s = true := vx_hat (B := gFc) (fun w h => hts w (List.mem_cons_of_mem _ (List.mem_append_left _ (List.mem_append_right _ h)))) (by decide +kernel) (fun w h => va_Nw.use (gFc_ok w h).2 (hX.1.2.2.2.2.2.1 w h))
abbrev rm_X0_init : Room := { frames := 9, cells := 2, slots := 386, locals := 221 }
abbrev rm_X0_admitTune : Room := { frames := 9, cells := 0, slots := 0, locals := 221 }
abbrev rm_X0_areLinked : Room := { frames := 9, cells := 0, slots := 0, locals := 221 }
abbrev rm_X0_toggle : Room := { frames := 9, cells := 0, slots := 0, locals := 222 }
abbrev rm_X0_countFamilies : Room := { frames := 11, cells := 0, slots := 0, locals := 267 }
abbrev rm_X0_lowestOfFamily : Room := { frames := 10, cells := 0, slots := 0, locals := 244 }
abbrev rm_X0_withPartners : Room := { frames := 9, cells := 0, slots := 0, locals := 221 }
abbrev rm_X0_setOf : Room := { frames := 8, cells := 0, slots := 0, locals := 200 }
abbrev rm_X1_init : Room := { frames := 9, cells := 3, slots := 674, locals := 221 }
abbrev rm_X1_cheapestByTable : Room := { frames := 12, cells := 0, slots := 0, locals := 302 }
abbrev rm_X1_cheapestByTrying : Room := { frames := 60, cells := 0, slots := 0, locals := 3000 }
abbrev rm_X1_tableAt : Room := { frames := 9, cells := 0, slots := 0, locals := 222 }
abbrev rm_X1_setTableAt : Room := { frames := 8, cells := 0, slots := 0, locals := 200 }
abbrev rm_X1_cheapestTo : Room := { frames := 11, cells := 0, slots := 0, locals := 277 }
abbrev rm_X1_costBy : Room := { frames := 10, cells := 0, slots := 0, locals := 251 }
abbrev rm_X1_costOfMove : Room := { frames := 9, cells := 0, slots := 0, locals := 221 }
abbrev rm_X1_cheaper : Room := { frames := 8, cells := 0, slots := 0, locals := 200 }
abbrev rm_X2_init : Room := { frames := 8, cells := 1, slots := 384, locals := 200 }
abbrev rm_X2_size : Room := { frames := 8, cells := 0, slots := 0, locals := 200 }
abbrev rm_X2_isFull : Room := { frames := 8, cells := 0, slots := 0, locals := 200 }
abbrev rm_X2_at : Room := { frames := 8, cells := 0, slots := 0, locals := 200 }
abbrev rm_X2_put : Room := { frames := 8, cells := 0, slots := 0, locals := 200 }
abbrev rm_X2_append : Room := { frames := 8, cells := 0, slots := 0, locals := 200 }
abbrev rm_X2_clear : Room := { frames := 8, cells := 0, slots := 0, locals := 200 }
abbrev rm_X2_stepFrom : Room := { frames := 9, cells := 0, slots := 0, locals := 221 }
abbrev rm_X2_stepsInCommon : Room := { frames := 10, cells := 0, slots := 0, locals := 242 }
abbrev rm_X2_beginsWithContourOf : Room := { frames := 10, cells := 0, slots := 0, locals := 242 }
abbrev rm_X2_direction : Room := { frames := 8, cells := 0, slots := 0, locals := 200 }
abbrev rm_X3_init : Room := { frames := 9, cells := 4, slots := 772, locals := 221 }
abbrev rm_X3_size : Room := { frames := 9, cells := 0, slots := 0, locals := 220 }
abbrev rm_X3_append : Room := { frames := 9, cells := 0, slots := 0, locals := 221 }
abbrev rm_X4_init : Room := { frames := 10, cells := 16, slots := 2000, locals := 241 }
abbrev rm_X4_add : Room := { frames := 11, cells := 12, slots := 900, locals := 265 }
abbrev rm_X4_note : Room := { frames := 11, cells := 6, slots := 60, locals := 265 }
abbrev rm_X4_correct : Room := { frames := 11, cells := 6, slots := 60, locals := 265 }
abbrev rm_X4_shift : Room := { frames := 11, cells := 6, slots := 60, locals := 265 }
abbrev rm_X4_retire : Room := { frames := 11, cells := 6, slots := 60, locals := 265 }
abbrev rm_X4_tunes : Room := { frames := 8, cells := 0, slots := 0, locals := 200 }
abbrev rm_X4_notes : Room := { frames := 10, cells := 6, slots := 60, locals := 243 }
abbrev rm_X4_step : Room := { frames := 10, cells := 6, slots := 60, locals := 243 }
abbrev rm_X4_shared : Room := { frames := 11, cells := 6, slots := 60, locals := 267 }
abbrev rm_X4_hum : Room := { frames := 10, cells := 6, slots := 60, locals := 244 }
abbrev rm_X4_hush : Room := { frames := 9, cells := 0, slots := 0, locals := 220 }
abbrev rm_X4_hummed : Room := { frames := 9, cells := 0, slots := 0, locals := 220 }
abbrev rm_X4_setCosts : Room := { frames := 10, cells := 6, slots := 60, locals := 244 }
abbrev rm_X4_cost : Room := { frames := 13, cells := 6, slots := 60, locals := 325 }
abbrev rm_X4_costByAll : Room := { frames := 61, cells := 6, slots := 60, locals := 3021 }
abbrev rm_X4_matches : Room := { frames := 14, cells := 0, slots := 0, locals := 347 }
abbrev rm_X4_found : Room := { frames := 14, cells := 6, slots := 60, locals := 347 }
abbrev rm_X4_likeContour : Room := { frames := 11, cells := 0, slots := 0, locals := 264 }
abbrev rm_X4_places : Room := { frames := 13, cells := 6, slots := 60, locals := 315 }
abbrev rm_X4_place : Room := { frames := 13, cells := 6, slots := 60, locals := 315 }
abbrev rm_X4_link : Room := { frames := 12, cells := 6, slots := 60, locals := 289 }
abbrev rm_X4_cut : Room := { frames := 12, cells := 6, slots := 60, locals := 289 }
abbrev rm_X4_family : Room := { frames := 11, cells := 6, slots := 60, locals := 267 }
abbrev rm_X4_families : Room := { frames := 12, cells := 0, slots := 0, locals := 289 }
abbrev rm_X4_isWithin : Room := { frames := 8, cells := 0, slots := 0, locals := 200 }
abbrev rm_X4_refuseUnlessWithin : Room := { frames := 9, cells := 1, slots := 6, locals := 222 }
abbrev rm_X4_refuseUnlessNote : Room := { frames := 10, cells := 2, slots := 12, locals := 244 }
abbrev rm_X4_refuseUnlessRunOfHum : Room := { frames := 10, cells := 2, slots := 12, locals := 244 }
abbrev rm_X4_refuseUnlessEntered : Room := { frames := 10, cells := 2, slots := 12, locals := 243 }
abbrev rm_X4_enteredOrNull : Room := { frames := 8, cells := 0, slots := 0, locals := 200 }
abbrev rm_X4_knownOrNull : Room := { frames := 9, cells := 0, slots := 0, locals := 221 }
abbrev rm_X4_enteredOrThrow : Room := { frames := 9, cells := 1, slots := 6, locals := 221 }
abbrev rm_X4_knownOrThrow : Room := { frames := 10, cells := 1, slots := 6, locals := 243 }
abbrev rm_X4_priceTunes : Room := { frames := 13, cells := 0, slots := 0, locals := 325 }
abbrev rm_X4_rankByPrice : Room := { frames := 9, cells := 0, slots := 0, locals := 221 }
abbrev rm_X4_collectPlaces : Room := { frames := 12, cells := 0, slots := 0, locals := 292 }
abbrev rm_X4_collectPlacesOf : Room := { frames := 11, cells := 0, slots := 0, locals := 267 }
abbrev rm_X5_init : Room := { frames := 8, cells := 8, slots := 1124, locals := 200 }
abbrev rm_X5_thrown : Room := { frames := 8, cells := 0, slots := 0, locals := 200 }
abbrev rm_X5_holds : Room := { frames := 8, cells := 0, slots := 0, locals := 200 }
abbrev rm_X5_in : Room := { frames := 8, cells := 0, slots := 0, locals := 200 }
abbrev rm_X5_isTune : Room := { frames := 9, cells := 0, slots := 0, locals := 222 }
abbrev rm_X5_isKnown : Room := { frames := 10, cells := 0, slots := 0, locals := 243 }
abbrev rm_X5_isNote : Room := { frames := 9, cells := 0, slots := 0, locals := 222 }
abbrev rm_X5_sets : Room := { frames := 8, cells := 0, slots := 0, locals := 200 }
abbrev rm_X5_add : Room := { frames := 10, cells := 0, slots := 0, locals := 243 }
abbrev rm_X5_note : Room := { frames := 11, cells := 0, slots := 0, locals := 264 }
abbrev rm_X5_correct : Room := { frames := 11, cells := 0, slots := 0, locals := 264 }
abbrev rm_X5_mayShift : Room := { frames := 9, cells := 0, slots := 0, locals := 222 }
abbrev rm_X5_shift : Room := { frames := 11, cells := 0, slots := 0, locals := 264 }
abbrev rm_X5_retire : Room := { frames := 11, cells := 0, slots := 0, locals := 264 }
abbrev rm_X5_tunes : Room := { frames := 8, cells := 0, slots := 0, locals := 200 }
abbrev rm_X5_notes : Room := { frames := 10, cells := 0, slots := 0, locals := 243 }
abbrev rm_X5_stepOf : Room := { frames := 8, cells := 0, slots := 0, locals := 200 }
abbrev rm_X5_step : Room := { frames := 10, cells := 0, slots := 0, locals := 243 }
abbrev rm_X5_alike : Room := { frames := 9, cells := 0, slots := 0, locals := 222 }
abbrev rm_X5_shared : Room := { frames := 10, cells := 0, slots := 0, locals := 247 }
abbrev rm_X5_hum : Room := { frames := 9, cells := 0, slots := 0, locals := 222 }
abbrev rm_X5_hush : Room := { frames := 8, cells := 0, slots := 0, locals := 200 }
abbrev rm_X5_hummed : Room := { frames := 8, cells := 0, slots := 0, locals := 200 }
abbrev rm_X5_setCosts : Room := { frames := 9, cells := 0, slots := 0, locals := 222 }
abbrev rm_X5_costOfNotes : Room := { frames := 8, cells := 0, slots := 0, locals := 200 }
abbrev rm_X5_costOfPitches : Room := { frames := 8, cells := 0, slots := 0, locals := 200 }
abbrev rm_X5_laid : Room := { frames := 9, cells := 0, slots := 0, locals := 225 }
abbrev rm_X5_least : Room := { frames := 8, cells := 0, slots := 0, locals := 200 }
abbrev rm_X5_costOf : Room := { frames := 10, cells := 0, slots := 0, locals := 251 }
abbrev rm_X5_cost : Room := { frames := 11, cells := 0, slots := 0, locals := 277 }
abbrev rm_X5_costByAll : Room := { frames := 11, cells := 0, slots := 0, locals := 277 }
abbrev rm_X5_many : Room := { frames := 11, cells := 0, slots := 0, locals := 277 }
abbrev rm_X5_matches : Room := { frames := 12, cells := 0, slots := 0, locals := 299 }
abbrev rm_X5_rank : Room := { frames := 11, cells := 0, slots := 0, locals := 277 }
abbrev rm_X5_found : Room := { frames := 12, cells := 0, slots := 0, locals := 302 }
abbrev rm_X5_sign : Room := { frames := 8, cells := 0, slots := 0, locals := 200 }
abbrev rm_X5_isLike : Room := { frames := 9, cells := 0, slots := 0, locals := 222 }
abbrev rm_X5_likeContour : Room := { frames := 11, cells := 0, slots := 0, locals := 264 }
abbrev rm_X5_isRun : Room := { frames := 9, cells := 0, slots := 0, locals := 222 }
abbrev rm_X5_errorOfRun : Room := { frames := 9, cells := 0, slots := 0, locals := 222 }
abbrev rm_X5_placesOf : Room := { frames := 10, cells := 0, slots := 0, locals := 247 }
abbrev rm_X5_places : Room := { frames := 11, cells := 0, slots := 0, locals := 270 }
abbrev rm_X5_place : Room := { frames := 11, cells := 0, slots := 0, locals := 270 }
abbrev rm_X5_familyOf : Room := { frames := 8, cells := 0, slots := 0, locals := 200 }
abbrev rm_X5_lowest : Room := { frames := 9, cells := 0, slots := 0, locals := 224 }
abbrev rm_X5_familiesOf : Room := { frames := 10, cells := 0, slots := 0, locals := 247 }
abbrev rm_X5_areLinked : Room := { frames := 8, cells := 0, slots := 0, locals := 200 }
abbrev rm_X5_link : Room := { frames := 11, cells := 0, slots := 0, locals := 269 }
abbrev rm_X5_cut : Room := { frames := 11, cells := 0, slots := 0, locals := 269 }
abbrev rm_X5_family : Room := { frames := 10, cells := 0, slots := 0, locals := 247 }
abbrev rm_X5_families : Room := { frames := 11, cells := 0, slots := 0, locals := 269 }
abbrev rm_L_add : Room := { frames := 12, cells := 12, slots := 900, locals := 288 }
abbrev rm_L_note : Room := { frames := 12, cells := 6, slots := 60, locals := 289 }
abbrev rm_L_correct : Room := { frames := 12, cells := 6, slots := 60, locals := 291 }
abbrev rm_L_shift : Room := { frames := 12, cells := 6, slots := 60, locals := 289 }
abbrev rm_L_retire : Room := { frames := 12, cells := 6, slots := 60, locals := 288 }
abbrev rm_L_notes : Room := { frames := 11, cells := 6, slots := 60, locals := 264 }
abbrev rm_L_step : Room := { frames := 11, cells := 6, slots := 60, locals := 266 }
abbrev rm_L_shared : Room := { frames := 12, cells := 6, slots := 60, locals := 294 }
abbrev rm_L_hum : Room := { frames := 11, cells := 6, slots := 60, locals := 265 }
abbrev rm_L_setCosts : Room := { frames := 11, cells := 6, slots := 60, locals := 267 }
abbrev rm_L_cost : Room := { frames := 14, cells := 6, slots := 60, locals := 346 }
abbrev rm_L_costByAll : Room := { frames := 62, cells := 6, slots := 60, locals := 3043 }
abbrev rm_L_found : Room := { frames := 15, cells := 6, slots := 60, locals := 369 }
abbrev rm_L_places : Room := { frames := 14, cells := 6, slots := 60, locals := 336 }
abbrev rm_L_place : Room := { frames := 14, cells := 6, slots := 60, locals := 337 }
abbrev rm_L_link : Room := { frames := 13, cells := 6, slots := 60, locals := 311 }
abbrev rm_L_cut : Room := { frames := 13, cells := 6, slots := 60, locals := 311 }
abbrev rm_L_family : Room := { frames := 12, cells := 6, slots := 60, locals := 288 }
