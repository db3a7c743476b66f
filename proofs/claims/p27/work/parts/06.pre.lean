theorem hd_X0_init : yX0_init.cls = RX0 ∧ yX0_init.cls ≠ "java/lang/invoke/MethodHandle" ∧ yX0_init.cls ≠ "java/lang/invoke/VarHandle" ∧ (parseMethodDescriptor yX0_init.desc).map (fun d => d.parameters.length) = some 0 := by decide +kernel
theorem hd_X0_admitTune : yX0_admitTune.cls = RX0 ∧ yX0_admitTune.cls ≠ "java/lang/invoke/MethodHandle" ∧ yX0_admitTune.cls ≠ "java/lang/invoke/VarHandle" ∧ (parseMethodDescriptor yX0_admitTune.desc).map (fun d => d.parameters.length) = some 0 := by decide +kernel
theorem hd_X0_areLinked : yX0_areLinked.cls = RX0 ∧ yX0_areLinked.cls ≠ "java/lang/invoke/MethodHandle" ∧ yX0_areLinked.cls ≠ "java/lang/invoke/VarHandle" ∧ (parseMethodDescriptor yX0_areLinked.desc).map (fun d => d.parameters.length) = some 2 := by decide +kernel
theorem hd_X0_toggle : yX0_toggle.cls = RX0 ∧ yX0_toggle.cls ≠ "java/lang/invoke/MethodHandle" ∧ yX0_toggle.cls ≠ "java/lang/invoke/VarHandle" ∧ (parseMethodDescriptor yX0_toggle.desc).map (fun d => d.parameters.length) = some 2 := by decide +kernel
theorem hd_X0_countFamilies : yX0_countFamilies.cls = RX0 ∧ yX0_countFamilies.cls ≠ "java/lang/invoke/MethodHandle" ∧ yX0_countFamilies.cls ≠ "java/lang/invoke/VarHandle" ∧ (parseMethodDescriptor yX0_countFamilies.desc).map (fun d => d.parameters.length) = some 0 := by decide +kernel
theorem hd_X0_lowestOfFamily : yX0_lowestOfFamily.cls = RX0 ∧ yX0_lowestOfFamily.cls ≠ "java/lang/invoke/MethodHandle" ∧ yX0_lowestOfFamily.cls ≠ "java/lang/invoke/VarHandle" ∧ (parseMethodDescriptor yX0_lowestOfFamily.desc).map (fun d => d.parameters.length) = some 1 := by decide +kernel
theorem hd_X0_withPartners : yX0_withPartners.cls = RX0 ∧ yX0_withPartners.cls ≠ "java/lang/invoke/MethodHandle" ∧ yX0_withPartners.cls ≠ "java/lang/invoke/VarHandle" ∧ (parseMethodDescriptor yX0_withPartners.desc).map (fun d => d.parameters.length) = some 1 := by decide +kernel
theorem hd_X0_setOf : yX0_setOf.cls = RX0 ∧ yX0_setOf.cls ≠ "java/lang/invoke/MethodHandle" ∧ yX0_setOf.cls ≠ "java/lang/invoke/VarHandle" ∧ (parseMethodDescriptor yX0_setOf.desc).map (fun d => d.parameters.length) = some 1 := by decide +kernel
theorem hd_X1_init : yX1_init.cls = RX1 ∧ yX1_init.cls ≠ "java/lang/invoke/MethodHandle" ∧ yX1_init.cls ≠ "java/lang/invoke/VarHandle" ∧ (parseMethodDescriptor yX1_init.desc).map (fun d => d.parameters.length) = some 0 := by decide +kernel
theorem hd_X1_cheapestByTable : yX1_cheapestByTable.cls = RX1 ∧ yX1_cheapestByTable.cls ≠ "java/lang/invoke/MethodHandle" ∧ yX1_cheapestByTable.cls ≠ "java/lang/invoke/VarHandle" ∧ (parseMethodDescriptor yX1_cheapestByTable.desc).map (fun d => d.parameters.length) = some 1 := by decide +kernel
theorem hd_X1_tableAt : yX1_tableAt.cls = RX1 ∧ yX1_tableAt.cls ≠ "java/lang/invoke/MethodHandle" ∧ yX1_tableAt.cls ≠ "java/lang/invoke/VarHandle" ∧ (parseMethodDescriptor yX1_tableAt.desc).map (fun d => d.parameters.length) = some 2 := by decide +kernel
theorem hd_X1_setTableAt : yX1_setTableAt.cls = RX1 ∧ yX1_setTableAt.cls ≠ "java/lang/invoke/MethodHandle" ∧ yX1_setTableAt.cls ≠ "java/lang/invoke/VarHandle" ∧ (parseMethodDescriptor yX1_setTableAt.desc).map (fun d => d.parameters.length) = some 3 := by decide +kernel
theorem hd_X1_cheapestTo : yX1_cheapestTo.cls = RX1 ∧ yX1_cheapestTo.cls ≠ "java/lang/invoke/MethodHandle" ∧ yX1_cheapestTo.cls ≠ "java/lang/invoke/VarHandle" ∧ (parseMethodDescriptor yX1_cheapestTo.desc).map (fun d => d.parameters.length) = some 3 := by decide +kernel
theorem hd_X1_costBy : yX1_costBy.cls = RX1 ∧ yX1_costBy.cls ≠ "java/lang/invoke/MethodHandle" ∧ yX1_costBy.cls ≠ "java/lang/invoke/VarHandle" ∧ (parseMethodDescriptor yX1_costBy.desc).map (fun d => d.parameters.length) = some 5 := by decide +kernel
theorem hd_X1_costOfMove : yX1_costOfMove.cls = RX1 ∧ yX1_costOfMove.cls ≠ "java/lang/invoke/MethodHandle" ∧ yX1_costOfMove.cls ≠ "java/lang/invoke/VarHandle" ∧ (parseMethodDescriptor yX1_costOfMove.desc).map (fun d => d.parameters.length) = some 5 := by decide +kernel
theorem hd_X1_cheaper : yX1_cheaper.cls = RX1 ∧ yX1_cheaper.cls ≠ "java/lang/invoke/MethodHandle" ∧ yX1_cheaper.cls ≠ "java/lang/invoke/VarHandle" ∧ (parseMethodDescriptor yX1_cheaper.desc).map (fun d => d.parameters.length) = some 2 := by decide +kernel
theorem hd_X2_init : yX2_init.cls = RX2 ∧ yX2_init.cls ≠ "java/lang/invoke/MethodHandle" ∧ yX2_init.cls ≠ "java/lang/invoke/VarHandle" ∧ (parseMethodDescriptor yX2_init.desc).map (fun d => d.parameters.length) = some 1 := by decide +kernel
theorem hd_X2_size : yX2_size.cls = RX2 ∧ yX2_size.cls ≠ "java/lang/invoke/MethodHandle" ∧ yX2_size.cls ≠ "java/lang/invoke/VarHandle" ∧ (parseMethodDescriptor yX2_size.desc).map (fun d => d.parameters.length) = some 0 := by decide +kernel
theorem hd_X2_isFull : yX2_isFull.cls = RX2 ∧ yX2_isFull.cls ≠ "java/lang/invoke/MethodHandle" ∧ yX2_isFull.cls ≠ "java/lang/invoke/VarHandle" ∧ (parseMethodDescriptor yX2_isFull.desc).map (fun d => d.parameters.length) = some 0 := by decide +kernel
theorem hd_X2_at : yX2_at.cls = RX2 ∧ yX2_at.cls ≠ "java/lang/invoke/MethodHandle" ∧ yX2_at.cls ≠ "java/lang/invoke/VarHandle" ∧ (parseMethodDescriptor yX2_at.desc).map (fun d => d.parameters.length) = some 1 := by decide +kernel
theorem hd_X2_put : yX2_put.cls = RX2 ∧ yX2_put.cls ≠ "java/lang/invoke/MethodHandle" ∧ yX2_put.cls ≠ "java/lang/invoke/VarHandle" ∧ (parseMethodDescriptor yX2_put.desc).map (fun d => d.parameters.length) = some 2 := by decide +kernel
theorem hd_X2_append : yX2_append.cls = RX2 ∧ yX2_append.cls ≠ "java/lang/invoke/MethodHandle" ∧ yX2_append.cls ≠ "java/lang/invoke/VarHandle" ∧ (parseMethodDescriptor yX2_append.desc).map (fun d => d.parameters.length) = some 1 := by decide +kernel
theorem hd_X2_clear : yX2_clear.cls = RX2 ∧ yX2_clear.cls ≠ "java/lang/invoke/MethodHandle" ∧ yX2_clear.cls ≠ "java/lang/invoke/VarHandle" ∧ (parseMethodDescriptor yX2_clear.desc).map (fun d => d.parameters.length) = some 0 := by decide +kernel
theorem hd_X2_stepFrom : yX2_stepFrom.cls = RX2 ∧ yX2_stepFrom.cls ≠ "java/lang/invoke/MethodHandle" ∧ yX2_stepFrom.cls ≠ "java/lang/invoke/VarHandle" ∧ (parseMethodDescriptor yX2_stepFrom.desc).map (fun d => d.parameters.length) = some 1 := by decide +kernel
theorem hd_X2_stepsInCommon : yX2_stepsInCommon.cls = RX2 ∧ yX2_stepsInCommon.cls ≠ "java/lang/invoke/MethodHandle" ∧ yX2_stepsInCommon.cls ≠ "java/lang/invoke/VarHandle" ∧ (parseMethodDescriptor yX2_stepsInCommon.desc).map (fun d => d.parameters.length) = some 3 := by decide +kernel
theorem hd_X2_beginsWithContourOf : yX2_beginsWithContourOf.cls = RX2 ∧ yX2_beginsWithContourOf.cls ≠ "java/lang/invoke/MethodHandle" ∧ yX2_beginsWithContourOf.cls ≠ "java/lang/invoke/VarHandle" ∧ (parseMethodDescriptor yX2_beginsWithContourOf.desc).map (fun d => d.parameters.length) = some 1 := by decide +kernel
theorem hd_X2_direction : yX2_direction.cls = RX2 ∧ yX2_direction.cls ≠ "java/lang/invoke/MethodHandle" ∧ yX2_direction.cls ≠ "java/lang/invoke/VarHandle" ∧ (parseMethodDescriptor yX2_direction.desc).map (fun d => d.parameters.length) = some 1 := by decide +kernel
theorem hd_X3_init : yX3_init.cls = RX3 ∧ yX3_init.cls ≠ "java/lang/invoke/MethodHandle" ∧ yX3_init.cls ≠ "java/lang/invoke/VarHandle" ∧ (parseMethodDescriptor yX3_init.desc).map (fun d => d.parameters.length) = some 0 := by decide +kernel
theorem hd_X3_size : yX3_size.cls = RX3 ∧ yX3_size.cls ≠ "java/lang/invoke/MethodHandle" ∧ yX3_size.cls ≠ "java/lang/invoke/VarHandle" ∧ (parseMethodDescriptor yX3_size.desc).map (fun d => d.parameters.length) = some 0 := by decide +kernel
theorem hd_X3_append : yX3_append.cls = RX3 ∧ yX3_append.cls ≠ "java/lang/invoke/MethodHandle" ∧ yX3_append.cls ≠ "java/lang/invoke/VarHandle" ∧ (parseMethodDescriptor yX3_append.desc).map (fun d => d.parameters.length) = some 2 := by decide +kernel
theorem hd_X4_init : yX4_init.cls = RX4 ∧ yX4_init.cls ≠ "java/lang/invoke/MethodHandle" ∧ yX4_init.cls ≠ "java/lang/invoke/VarHandle" ∧ (parseMethodDescriptor yX4_init.desc).map (fun d => d.parameters.length) = some 0 := by decide +kernel
theorem hd_X4_add : yX4_add.cls = RX4 ∧ yX4_add.cls ≠ "java/lang/invoke/MethodHandle" ∧ yX4_add.cls ≠ "java/lang/invoke/VarHandle" ∧ (parseMethodDescriptor yX4_add.desc).map (fun d => d.parameters.length) = some 2 := by decide +kernel
theorem hd_X4_note : yX4_note.cls = RX4 ∧ yX4_note.cls ≠ "java/lang/invoke/MethodHandle" ∧ yX4_note.cls ≠ "java/lang/invoke/VarHandle" ∧ (parseMethodDescriptor yX4_note.desc).map (fun d => d.parameters.length) = some 3 := by decide +kernel
theorem hd_X4_correct : yX4_correct.cls = RX4 ∧ yX4_correct.cls ≠ "java/lang/invoke/MethodHandle" ∧ yX4_correct.cls ≠ "java/lang/invoke/VarHandle" ∧ (parseMethodDescriptor yX4_correct.desc).map (fun d => d.parameters.length) = some 4 := by decide +kernel
theorem hd_X4_shift : yX4_shift.cls = RX4 ∧ yX4_shift.cls ≠ "java/lang/invoke/MethodHandle" ∧ yX4_shift.cls ≠ "java/lang/invoke/VarHandle" ∧ (parseMethodDescriptor yX4_shift.desc).map (fun d => d.parameters.length) = some 2 := by decide +kernel
theorem hd_X4_retire : yX4_retire.cls = RX4 ∧ yX4_retire.cls ≠ "java/lang/invoke/MethodHandle" ∧ yX4_retire.cls ≠ "java/lang/invoke/VarHandle" ∧ (parseMethodDescriptor yX4_retire.desc).map (fun d => d.parameters.length) = some 1 := by decide +kernel
theorem hd_X4_tunes : yX4_tunes.cls = RX4 ∧ yX4_tunes.cls ≠ "java/lang/invoke/MethodHandle" ∧ yX4_tunes.cls ≠ "java/lang/invoke/VarHandle" ∧ (parseMethodDescriptor yX4_tunes.desc).map (fun d => d.parameters.length) = some 0 := by decide +kernel
theorem hd_X4_notes : yX4_notes.cls = RX4 ∧ yX4_notes.cls ≠ "java/lang/invoke/MethodHandle" ∧ yX4_notes.cls ≠ "java/lang/invoke/VarHandle" ∧ (parseMethodDescriptor yX4_notes.desc).map (fun d => d.parameters.length) = some 1 := by decide +kernel
theorem hd_X4_step : yX4_step.cls = RX4 ∧ yX4_step.cls ≠ "java/lang/invoke/MethodHandle" ∧ yX4_step.cls ≠ "java/lang/invoke/VarHandle" ∧ (parseMethodDescriptor yX4_step.desc).map (fun d => d.parameters.length) = some 2 := by decide +kernel
theorem hd_X4_shared : yX4_shared.cls = RX4 ∧ yX4_shared.cls ≠ "java/lang/invoke/MethodHandle" ∧ yX4_shared.cls ≠ "java/lang/invoke/VarHandle" ∧ (parseMethodDescriptor yX4_shared.desc).map (fun d => d.parameters.length) = some 2 := by decide +kernel
theorem hd_X4_hum : yX4_hum.cls = RX4 ∧ yX4_hum.cls ≠ "java/lang/invoke/MethodHandle" ∧ yX4_hum.cls ≠ "java/lang/invoke/VarHandle" ∧ (parseMethodDescriptor yX4_hum.desc).map (fun d => d.parameters.length) = some 1 := by decide +kernel
theorem hd_X4_hush : yX4_hush.cls = RX4 ∧ yX4_hush.cls ≠ "java/lang/invoke/MethodHandle" ∧ yX4_hush.cls ≠ "java/lang/invoke/VarHandle" ∧ (parseMethodDescriptor yX4_hush.desc).map (fun d => d.parameters.length) = some 0 := by decide +kernel
theorem hd_X4_hummed : yX4_hummed.cls = RX4 ∧ yX4_hummed.cls ≠ "java/lang/invoke/MethodHandle" ∧ yX4_hummed.cls ≠ "java/lang/invoke/VarHandle" ∧ (parseMethodDescriptor yX4_hummed.desc).map (fun d => d.parameters.length) = some 0 := by decide +kernel
theorem hd_X4_setCosts : yX4_setCosts.cls = RX4 ∧ yX4_setCosts.cls ≠ "java/lang/invoke/MethodHandle" ∧ yX4_setCosts.cls ≠ "java/lang/invoke/VarHandle" ∧ (parseMethodDescriptor yX4_setCosts.desc).map (fun d => d.parameters.length) = some 3 := by decide +kernel
theorem hd_X4_cost : yX4_cost.cls = RX4 ∧ yX4_cost.cls ≠ "java/lang/invoke/MethodHandle" ∧ yX4_cost.cls ≠ "java/lang/invoke/VarHandle" ∧ (parseMethodDescriptor yX4_cost.desc).map (fun d => d.parameters.length) = some 1 := by decide +kernel
theorem hd_X4_matches : yX4_matches.cls = RX4 ∧ yX4_matches.cls ≠ "java/lang/invoke/MethodHandle" ∧ yX4_matches.cls ≠ "java/lang/invoke/VarHandle" ∧ (parseMethodDescriptor yX4_matches.desc).map (fun d => d.parameters.length) = some 0 := by decide +kernel
theorem hd_X4_found : yX4_found.cls = RX4 ∧ yX4_found.cls ≠ "java/lang/invoke/MethodHandle" ∧ yX4_found.cls ≠ "java/lang/invoke/VarHandle" ∧ (parseMethodDescriptor yX4_found.desc).map (fun d => d.parameters.length) = some 1 := by decide +kernel
theorem hd_X4_likeContour : yX4_likeContour.cls = RX4 ∧ yX4_likeContour.cls ≠ "java/lang/invoke/MethodHandle" ∧ yX4_likeContour.cls ≠ "java/lang/invoke/VarHandle" ∧ (parseMethodDescriptor yX4_likeContour.desc).map (fun d => d.parameters.length) = some 0 := by decide +kernel
theorem hd_X4_places : yX4_places.cls = RX4 ∧ yX4_places.cls ≠ "java/lang/invoke/MethodHandle" ∧ yX4_places.cls ≠ "java/lang/invoke/VarHandle" ∧ (parseMethodDescriptor yX4_places.desc).map (fun d => d.parameters.length) = some 1 := by decide +kernel
theorem hd_X4_link : yX4_link.cls = RX4 ∧ yX4_link.cls ≠ "java/lang/invoke/MethodHandle" ∧ yX4_link.cls ≠ "java/lang/invoke/VarHandle" ∧ (parseMethodDescriptor yX4_link.desc).map (fun d => d.parameters.length) = some 2 := by decide +kernel
theorem hd_X4_cut : yX4_cut.cls = RX4 ∧ yX4_cut.cls ≠ "java/lang/invoke/MethodHandle" ∧ yX4_cut.cls ≠ "java/lang/invoke/VarHandle" ∧ (parseMethodDescriptor yX4_cut.desc).map (fun d => d.parameters.length) = some 2 := by decide +kernel
theorem hd_X4_family : yX4_family.cls = RX4 ∧ yX4_family.cls ≠ "java/lang/invoke/MethodHandle" ∧ yX4_family.cls ≠ "java/lang/invoke/VarHandle" ∧ (parseMethodDescriptor yX4_family.desc).map (fun d => d.parameters.length) = some 1 := by decide +kernel
theorem hd_X4_families : yX4_families.cls = RX4 ∧ yX4_families.cls ≠ "java/lang/invoke/MethodHandle" ∧ yX4_families.cls ≠ "java/lang/invoke/VarHandle" ∧ (parseMethodDescriptor yX4_families.desc).map (fun d => d.parameters.length) = some 0 := by decide +kernel
theorem hd_X4_isWithin : yX4_isWithin.cls = RX4 ∧ yX4_isWithin.cls ≠ "java/lang/invoke/MethodHandle" ∧ yX4_isWithin.cls ≠ "java/lang/invoke/VarHandle" ∧ (parseMethodDescriptor yX4_isWithin.desc).map (fun d => d.parameters.length) = some 3 := by decide +kernel
theorem hd_X4_refuseUnlessWithin : yX4_refuseUnlessWithin.cls = RX4 ∧ yX4_refuseUnlessWithin.cls ≠ "java/lang/invoke/MethodHandle" ∧ yX4_refuseUnlessWithin.cls ≠ "java/lang/invoke/VarHandle" ∧ (parseMethodDescriptor yX4_refuseUnlessWithin.desc).map (fun d => d.parameters.length) = some 3 := by decide +kernel
theorem hd_X4_refuseUnlessNote : yX4_refuseUnlessNote.cls = RX4 ∧ yX4_refuseUnlessNote.cls ≠ "java/lang/invoke/MethodHandle" ∧ yX4_refuseUnlessNote.cls ≠ "java/lang/invoke/VarHandle" ∧ (parseMethodDescriptor yX4_refuseUnlessNote.desc).map (fun d => d.parameters.length) = some 2 := by decide +kernel
theorem hd_X4_refuseUnlessRunOfHum : yX4_refuseUnlessRunOfHum.cls = RX4 ∧ yX4_refuseUnlessRunOfHum.cls ≠ "java/lang/invoke/MethodHandle" ∧ yX4_refuseUnlessRunOfHum.cls ≠ "java/lang/invoke/VarHandle" ∧ (parseMethodDescriptor yX4_refuseUnlessRunOfHum.desc).map (fun d => d.parameters.length) = some 1 := by decide +kernel
theorem hd_X4_refuseUnlessEntered : yX4_refuseUnlessEntered.cls = RX4 ∧ yX4_refuseUnlessEntered.cls ≠ "java/lang/invoke/MethodHandle" ∧ yX4_refuseUnlessEntered.cls ≠ "java/lang/invoke/VarHandle" ∧ (parseMethodDescriptor yX4_refuseUnlessEntered.desc).map (fun d => d.parameters.length) = some 2 := by decide +kernel
theorem hd_X4_enteredOrNull : yX4_enteredOrNull.cls = RX4 ∧ yX4_enteredOrNull.cls ≠ "java/lang/invoke/MethodHandle" ∧ yX4_enteredOrNull.cls ≠ "java/lang/invoke/VarHandle" ∧ (parseMethodDescriptor yX4_enteredOrNull.desc).map (fun d => d.parameters.length) = some 1 := by decide +kernel
theorem hd_X4_knownOrNull : yX4_knownOrNull.cls = RX4 ∧ yX4_knownOrNull.cls ≠ "java/lang/invoke/MethodHandle" ∧ yX4_knownOrNull.cls ≠ "java/lang/invoke/VarHandle" ∧ (parseMethodDescriptor yX4_knownOrNull.desc).map (fun d => d.parameters.length) = some 1 := by decide +kernel
theorem hd_X4_enteredOrThrow : yX4_enteredOrThrow.cls = RX4 ∧ yX4_enteredOrThrow.cls ≠ "java/lang/invoke/MethodHandle" ∧ yX4_enteredOrThrow.cls ≠ "java/lang/invoke/VarHandle" ∧ (parseMethodDescriptor yX4_enteredOrThrow.desc).map (fun d => d.parameters.length) = some 1 := by decide +kernel
theorem hd_X4_knownOrThrow : yX4_knownOrThrow.cls = RX4 ∧ yX4_knownOrThrow.cls ≠ "java/lang/invoke/MethodHandle" ∧ yX4_knownOrThrow.cls ≠ "java/lang/invoke/VarHandle" ∧ (parseMethodDescriptor yX4_knownOrThrow.desc).map (fun d => d.parameters.length) = some 1 := by decide +kernel
theorem hd_X4_priceTunes : yX4_priceTunes.cls = RX4 ∧ yX4_priceTunes.cls ≠ "java/lang/invoke/MethodHandle" ∧ yX4_priceTunes.cls ≠ "java/lang/invoke/VarHandle" ∧ (parseMethodDescriptor yX4_priceTunes.desc).map (fun d => d.parameters.length) = some 0 := by decide +kernel
theorem hd_X4_rankByPrice : yX4_rankByPrice.cls = RX4 ∧ yX4_rankByPrice.cls ≠ "java/lang/invoke/MethodHandle" ∧ yX4_rankByPrice.cls ≠ "java/lang/invoke/VarHandle" ∧ (parseMethodDescriptor yX4_rankByPrice.desc).map (fun d => d.parameters.length) = some 1 := by decide +kernel
theorem hd_X4_collectPlaces : yX4_collectPlaces.cls = RX4 ∧ yX4_collectPlaces.cls ≠ "java/lang/invoke/MethodHandle" ∧ yX4_collectPlaces.cls ≠ "java/lang/invoke/VarHandle" ∧ (parseMethodDescriptor yX4_collectPlaces.desc).map (fun d => d.parameters.length) = some 1 := by decide +kernel
theorem hd_X4_collectPlacesOf : yX4_collectPlacesOf.cls = RX4 ∧ yX4_collectPlacesOf.cls ≠ "java/lang/invoke/MethodHandle" ∧ yX4_collectPlacesOf.cls ≠ "java/lang/invoke/VarHandle" ∧ (parseMethodDescriptor yX4_collectPlacesOf.desc).map (fun d => d.parameters.length) = some 3 := by decide +kernel
theorem hd_L_cell : yL_cell.cls = RL ∧ yL_cell.cls ≠ "java/lang/invoke/MethodHandle" ∧ yL_cell.cls ≠ "java/lang/invoke/VarHandle" ∧ (parseMethodDescriptor yL_cell.desc).map (fun d => d.parameters.length) = some 2 := by decide +kernel
theorem hd_L_low : yL_low.cls = RL ∧ yL_low.cls ≠ "java/lang/invoke/MethodHandle" ∧ yL_low.cls ≠ "java/lang/invoke/VarHandle" ∧ (parseMethodDescriptor yL_low.desc).map (fun d => d.parameters.length) = some 2 := by decide +kernel
theorem hd_L_does : yL_does.cls = RL ∧ yL_does.cls ≠ "java/lang/invoke/MethodHandle" ∧ yL_does.cls ≠ "java/lang/invoke/VarHandle" ∧ (parseMethodDescriptor yL_does.desc).map (fun d => d.parameters.length) = some 5 := by decide +kernel
theorem hd_L_shift : yL_shift.cls = RL ∧ yL_shift.cls ≠ "java/lang/invoke/MethodHandle" ∧ yL_shift.cls ≠ "java/lang/invoke/VarHandle" ∧ (parseMethodDescriptor yL_shift.desc).map (fun d => d.parameters.length) = some 3 := by decide +kernel
theorem hd_L_sets : yL_sets.cls = RL ∧ yL_sets.cls ≠ "java/lang/invoke/MethodHandle" ∧ yL_sets.cls ≠ "java/lang/invoke/VarHandle" ∧ (parseMethodDescriptor yL_sets.desc).map (fun d => d.parameters.length) = some 6 := by decide +kernel
theorem hd_L_costs : yL_costs.cls = RL ∧ yL_costs.cls ≠ "java/lang/invoke/MethodHandle" ∧ yL_costs.cls ≠ "java/lang/invoke/VarHandle" ∧ (parseMethodDescriptor yL_costs.desc).map (fun d => d.parameters.length) = some 4 := by decide +kernel
theorem hd_L_cost : yL_cost.cls = RL ∧ yL_cost.cls ≠ "java/lang/invoke/MethodHandle" ∧ yL_cost.cls ≠ "java/lang/invoke/VarHandle" ∧ (parseMethodDescriptor yL_cost.desc).map (fun d => d.parameters.length) = some 2 := by decide +kernel
theorem hd_L_act : yL_act.cls = RL ∧ yL_act.cls ≠ "java/lang/invoke/MethodHandle" ∧ yL_act.cls ≠ "java/lang/invoke/VarHandle" ∧ (parseMethodDescriptor yL_act.desc).map (fun d => d.parameters.length) = some 2 := by decide +kernel
theorem hd_L_areAlike : yL_areAlike.cls = RL ∧ yL_areAlike.cls ≠ "java/lang/invoke/MethodHandle" ∧ yL_areAlike.cls ≠ "java/lang/invoke/VarHandle" ∧ (parseMethodDescriptor yL_areAlike.desc).map (fun d => d.parameters.length) = some 2 := by decide +kernel
theorem hd_L_areTunesSo : yL_areTunesSo.cls = RL ∧ yL_areTunesSo.cls ≠ "java/lang/invoke/MethodHandle" ∧ yL_areTunesSo.cls ≠ "java/lang/invoke/VarHandle" ∧ (parseMethodDescriptor yL_areTunesSo.desc).map (fun d => d.parameters.length) = some 2 := by decide +kernel
theorem hd_L_isHummedSo : yL_isHummedSo.cls = RL ∧ yL_isHummedSo.cls ≠ "java/lang/invoke/MethodHandle" ∧ yL_isHummedSo.cls ≠ "java/lang/invoke/VarHandle" ∧ (parseMethodDescriptor yL_isHummedSo.desc).map (fun d => d.parameters.length) = some 3 := by decide +kernel
theorem hd_L_law : yL_law.cls = RL ∧ yL_law.cls ≠ "java/lang/invoke/MethodHandle" ∧ yL_law.cls ≠ "java/lang/invoke/VarHandle" ∧ (parseMethodDescriptor yL_law.desc).map (fun d => d.parameters.length) = some 1 := by decide +kernel
theorem ha_X4_refuseUnlessWithin_189 {args : Array Value} {s : State} {G : gG} {H0 : Heap} (hX : gX G s H0) (hts : ∀ w ∈ wsX4_refuseUnlessWithin, w.before args s = true) : ∀ w ∈ vx_atS RX4 189 "java/lang/IllegalArgumentException" ["java/lang/RuntimeException", "java/lang/Exception"], w.before args s = true := vx_hat (B := gFc) (fun w h => hts w (List.mem_cons_of_mem _ (List.mem_append_right _ h))) (by decide +kernel) (fun w h => va_Nw.use (gFc_ok w h).2 (hX.1.2.2.2.2.2.1 w h))
theorem ha_X4_add_63 {args : Array Value} {s : State} {G : gG} {H0 : Heap} (hX : gX G s H0) (hts : ∀ w ∈ wsX4_add, w.before args s = true) : ∀ w ∈ vx_atS RX4 63 "java/lang/IllegalStateException" ["java/lang/RuntimeException", "java/lang/Exception"], w.before args s = true := vx_hat (B := gFc) (fun w h => hts w (List.mem_cons_of_mem _ (List.mem_append_left _ (List.mem_append_right _ h)))) (by decide +kernel) (fun w h => va_Nw.use (gFc_ok w h).2 (hX.1.2.2.2.2.2.1 w h))
theorem ha_X4_knownOrThrow_94 {args : Array Value} {s : State} {G : gG} {H0 : Heap} (hX : gX G s H0) (hts : ∀ w ∈ wsX4_knownOrThrow, w.before args s = true) : ∀ w ∈ vx_atS RX4 94 "java/lang/IndexOutOfBoundsException" ["java/lang/RuntimeException", "java/lang/Exception"], w.before args s = true := vx_hat (B := gFc) (fun w h => hts w (List.mem_cons_of_mem _ (List.mem_append_right _ h))) (by decide +kernel) (fun w h => va_Nw.use (gFc_ok w h).2 (hX.1.2.2.2.2.2.1 w h))
theorem ha_X4_note_63 {args : Array Value} {s : State} {G : gG} {H0 : Heap} (hX : gX G s H0) (hts : ∀ w ∈ wsX4_note, w.before args s = true) : ∀ w ∈ vx_atS RX4 63 "java/lang/IllegalStateException" ["java/lang/RuntimeException", "java/lang/Exception"], w.before args s = true := vx_hat (B := gFc) (fun w h => hts w (List.mem_cons_of_mem _ (List.mem_append_left _ (List.mem_append_left _ (List.mem_append_right _ h))))) (by decide +kernel) (fun w h => va_Nw.use (gFc_ok w h).2 (hX.1.2.2.2.2.2.1 w h))
theorem ha_X4_correct_94 {args : Array Value} {s : State} {G : gG} {H0 : Heap} (hX : gX G s H0) (hts : ∀ w ∈ wsX4_correct, w.before args s = true) : ∀ w ∈ vx_atS RX4 94 "java/lang/IndexOutOfBoundsException" ["java/lang/RuntimeException", "java/lang/Exception"], w.before args s = true := vx_hat (B := gFc) (fun w h => hts w (List.mem_cons_of_mem _ (List.mem_append_left _ (List.mem_append_right _ h)))) (by decide +kernel) (fun w h => va_Nw.use (gFc_ok w h).2 (hX.1.2.2.2.2.2.1 w h))
theorem ha_X4_shift_63 {args : Array Value} {s : State} {G : gG} {H0 : Heap} (hX : gX G s H0) (hts : ∀ w ∈ wsX4_shift, w.before args s = true) : ∀ w ∈ vx_atS RX4 63 "java/lang/IllegalStateException" ["java/lang/RuntimeException", "java/lang/Exception"], w.before args s = true := vx_hat (B := gFc) (fun w h => hts w (List.mem_cons_of_mem _ (List.mem_append_left _ (List.mem_append_left _ (List.mem_append_right _ h))))) (by decide +kernel) (fun w h => va_Nw.use (gFc_ok w h).2 (hX.1.2.2.2.2.2.1 w h))
theorem ha_X4_enteredOrThrow_94 {args : Array Value} {s : State} {G : gG} {H0 : Heap} (hX : gX G s H0) (hts : ∀ w ∈ wsX4_enteredOrThrow, w.before args s = true) : ∀ w ∈ vx_atS RX4 94 "java/lang/IndexOutOfBoundsException" ["java/lang/RuntimeException", "java/lang/Exception"], w.before args s = true := vx_hat (B := gFc) (fun w h => hts w (List.mem_cons_of_mem _ (List.mem_append_right _ h))) (by decide +kernel) (fun w h => va_Nw.use (gFc_ok w h).2 (hX.1.2.2.2.2.2.1 w h))
theorem ha_X4_step_94 {args : Array Value} {s : State} {G : gG} {H0 : Heap} (hX : gX G s H0) (hts : ∀ w ∈ wsX4_step, w.before args s = true) : ∀ w ∈ vx_atS RX4 94 "java/lang/IndexOutOfBoundsException" ["java/lang/RuntimeException", "java/lang/Exception"], w.before args s = true := vx_hat (B := gFc) (fun w h => hts w (List.mem_cons_of_mem _ (List.mem_append_right _ h))) (by decide +kernel) (fun w h => va_Nw.use (gFc_ok w h).2 (hX.1.2.2.2.2.2.1 w h))
theorem ha_X4_hum_63 {args : Array Value} {s : State} {G : gG} {H0 : Heap} (hX : gX G s H0) (hts : ∀ w ∈ wsX4_hum, w.before args s = true) : ∀ w ∈ vx_atS RX4 63 "java/lang/IllegalStateException" ["java/lang/RuntimeException", "java/lang/Exception"], w.before args s = true := vx_hat (B := gFc) (fun w h => hts w (List.mem_cons_of_mem _ (List.mem_append_left _ (List.mem_append_right _ h)))) (by decide +kernel) (fun w h => va_Nw.use (gFc_ok w h).2 (hX.1.2.2.2.2.2.1 w h))
theorem ha_X4_found_94 {args : Array Value} {s : State} {G : gG} {H0 : Heap} (hX : gX G s H0) (hts : ∀ w ∈ wsX4_found, w.before args s = true) : ∀ w ∈ vx_atS RX4 94 "java/lang/IndexOutOfBoundsException" ["java/lang/RuntimeException", "java/lang/Exception"], w.before args s = true := vx_hat (B := gFc) (fun w h => hts w (List.mem_cons_of_mem _ (List.mem_append_right _ h))) (by decide +kernel) (fun w h => va_Nw.use (gFc_ok w h).2 (hX.1.2.2.2.2.2.1 w h))
theorem ha_X4_refuseUnlessRunOfHum_63 {args : Array Value} {s : State} {G : gG} {H0 : Heap} (hX : gX G s H0) (hts : ∀ w ∈ wsX4_refuseUnlessRunOfHum, w.before args s = true) : ∀ w ∈ vx_atS RX4 63 "java/lang/IllegalStateException" ["java/lang/RuntimeException", "java/lang/Exception"], w.before args s = true := vx_hat (B := gFc) (fun w h => hts w (List.mem_cons_of_mem _ (List.mem_append_left _ (List.mem_append_right _ h)))) (by decide +kernel) (fun w h => va_Nw.use (gFc_ok w h).2 (hX.1.2.2.2.2.2.1 w h))
theorem ha_X4_link_189 {args : Array Value} {s : State} {G : gG} {H0 : Heap} (hX : gX G s H0) (hts : ∀ w ∈ wsX4_link, w.before args s = true) : ∀ w ∈ vx_atS RX4 189 "java/lang/IllegalArgumentException" ["java/lang/RuntimeException", "java/lang/Exception"], w.before args s = true := vx_hat (B := gFc) (fun w h => hts w (List.mem_cons_of_mem _ (List.mem_append_left _ (List.mem_append_left _ (List.mem_append_right _ h))))) (by decide +kernel) (fun w h => va_Nw.use (gFc_ok w h).2 (hX.1.2.2.2.2.2.1 w h))
theorem ha_X4_link_63 {args : Array Value} {s : State} {G : gG} {H0 : Heap} (hX : gX G s H0) (hts : ∀ w ∈ wsX4_link, w.before args s = true) : ∀ w ∈ vx_atS RX4 63 "java/lang/IllegalStateException" ["java/lang/RuntimeException", "java/lang/Exception"], w.before args s = true := vx_hat (B := gFc) (fun w h => hts w (List.mem_cons_of_mem _ (List.mem_append_left _ (List.mem_append_right _ h)))) (by decide +kernel) (fun w h => va_Nw.use (gFc_ok w h).2 (hX.1.2.2.2.2.2.1 w h))
theorem ha_X4_cut_63 {args : Array Value} {s : State} {G : gG} {H0 : Heap} (hX : gX G s H0) (hts : ∀ w ∈ wsX4_cut, w.before args s = true) : ∀ w ∈ vx_atS RX4 63 "java/lang/IllegalStateException" ["java/lang/RuntimeException", "java/lang/Exception"], w.before args s = true := vx_hat (B := gFc) (fun w h => hts w (List.mem_cons_of_mem _ (List.mem_append_left _ (List.mem_append_right _ h)))) (by decide +kernel) (fun w h => va_Nw.use (gFc_ok w h).2 (hX.1.2.2.2.2.2.1 w h))
abbrev rm_X0_init : Room := { frames := 4, cells := 2, slots := 386, locals := 81 }
abbrev rm_X0_admitTune : Room := { frames := 4, cells := 0, slots := 0, locals := 81 }
abbrev rm_X0_areLinked : Room := { frames := 4, cells := 0, slots := 0, locals := 81 }
abbrev rm_X0_toggle : Room := { frames := 4, cells := 0, slots := 0, locals := 82 }
abbrev rm_X0_countFamilies : Room := { frames := 6, cells := 0, slots := 0, locals := 127 }
abbrev rm_X0_lowestOfFamily : Room := { frames := 5, cells := 0, slots := 0, locals := 104 }
abbrev rm_X0_withPartners : Room := { frames := 4, cells := 0, slots := 0, locals := 81 }
abbrev rm_X0_setOf : Room := { frames := 3, cells := 0, slots := 0, locals := 60 }
abbrev rm_X1_init : Room := { frames := 4, cells := 3, slots := 674, locals := 81 }
abbrev rm_X1_cheapestByTable : Room := { frames := 7, cells := 0, slots := 0, locals := 162 }
abbrev rm_X1_tableAt : Room := { frames := 4, cells := 0, slots := 0, locals := 82 }
abbrev rm_X1_setTableAt : Room := { frames := 3, cells := 0, slots := 0, locals := 60 }
abbrev rm_X1_cheapestTo : Room := { frames := 6, cells := 0, slots := 0, locals := 137 }
abbrev rm_X1_costBy : Room := { frames := 5, cells := 0, slots := 0, locals := 111 }
abbrev rm_X1_costOfMove : Room := { frames := 4, cells := 0, slots := 0, locals := 81 }
abbrev rm_X1_cheaper : Room := { frames := 3, cells := 0, slots := 0, locals := 60 }
abbrev rm_X2_init : Room := { frames := 3, cells := 1, slots := 384, locals := 60 }
abbrev rm_X2_size : Room := { frames := 3, cells := 0, slots := 0, locals := 60 }
abbrev rm_X2_isFull : Room := { frames := 3, cells := 0, slots := 0, locals := 60 }
abbrev rm_X2_at : Room := { frames := 3, cells := 0, slots := 0, locals := 60 }
abbrev rm_X2_put : Room := { frames := 3, cells := 0, slots := 0, locals := 60 }
abbrev rm_X2_append : Room := { frames := 3, cells := 0, slots := 0, locals := 60 }
abbrev rm_X2_clear : Room := { frames := 3, cells := 0, slots := 0, locals := 60 }
abbrev rm_X2_stepFrom : Room := { frames := 4, cells := 0, slots := 0, locals := 81 }
abbrev rm_X2_stepsInCommon : Room := { frames := 5, cells := 0, slots := 0, locals := 102 }
abbrev rm_X2_beginsWithContourOf : Room := { frames := 5, cells := 0, slots := 0, locals := 102 }
abbrev rm_X2_direction : Room := { frames := 3, cells := 0, slots := 0, locals := 60 }
abbrev rm_X3_init : Room := { frames := 4, cells := 4, slots := 772, locals := 81 }
abbrev rm_X3_size : Room := { frames := 4, cells := 0, slots := 0, locals := 80 }
abbrev rm_X3_append : Room := { frames := 4, cells := 0, slots := 0, locals := 81 }
abbrev rm_X4_init : Room := { frames := 5, cells := 16, slots := 2000, locals := 101 }
abbrev rm_X4_add : Room := { frames := 9, cells := 12, slots := 900, locals := 173 }
abbrev rm_X4_note : Room := { frames := 9, cells := 6, slots := 60, locals := 173 }
abbrev rm_X4_correct : Room := { frames := 9, cells := 6, slots := 60, locals := 173 }
abbrev rm_X4_shift : Room := { frames := 8, cells := 6, slots := 60, locals := 152 }
abbrev rm_X4_retire : Room := { frames := 8, cells := 6, slots := 60, locals := 152 }
abbrev rm_X4_tunes : Room := { frames := 3, cells := 0, slots := 0, locals := 60 }
abbrev rm_X4_notes : Room := { frames := 8, cells := 6, slots := 60, locals := 152 }
abbrev rm_X4_step : Room := { frames := 8, cells := 6, slots := 60, locals := 152 }
abbrev rm_X4_shared : Room := { frames := 8, cells := 6, slots := 60, locals := 152 }
abbrev rm_X4_hum : Room := { frames := 8, cells := 6, slots := 60, locals := 152 }
abbrev rm_X4_hush : Room := { frames := 4, cells := 0, slots := 0, locals := 80 }
abbrev rm_X4_hummed : Room := { frames := 4, cells := 0, slots := 0, locals := 80 }
abbrev rm_X4_setCosts : Room := { frames := 8, cells := 6, slots := 60, locals := 152 }
abbrev rm_X4_cost : Room := { frames := 8, cells := 6, slots := 60, locals := 185 }
abbrev rm_X4_matches : Room := { frames := 9, cells := 0, slots := 0, locals := 207 }
abbrev rm_X4_found : Room := { frames := 9, cells := 6, slots := 60, locals := 207 }
abbrev rm_X4_likeContour : Room := { frames := 6, cells := 0, slots := 0, locals := 124 }
abbrev rm_X4_places : Room := { frames := 9, cells := 6, slots := 60, locals := 175 }
abbrev rm_X4_link : Room := { frames := 9, cells := 6, slots := 60, locals := 174 }
abbrev rm_X4_cut : Room := { frames := 9, cells := 6, slots := 60, locals := 174 }
abbrev rm_X4_family : Room := { frames := 8, cells := 6, slots := 60, locals := 152 }
abbrev rm_X4_families : Room := { frames := 7, cells := 0, slots := 0, locals := 149 }
abbrev rm_X4_isWithin : Room := { frames := 3, cells := 0, slots := 0, locals := 60 }
abbrev rm_X4_refuseUnlessWithin : Room := { frames := 7, cells := 1, slots := 6, locals := 130 }
abbrev rm_X4_refuseUnlessNote : Room := { frames := 8, cells := 2, slots := 12, locals := 152 }
abbrev rm_X4_refuseUnlessRunOfHum : Room := { frames := 8, cells := 2, slots := 12, locals := 152 }
abbrev rm_X4_refuseUnlessEntered : Room := { frames := 8, cells := 2, slots := 12, locals := 152 }
abbrev rm_X4_enteredOrNull : Room := { frames := 3, cells := 0, slots := 0, locals := 60 }
abbrev rm_X4_knownOrNull : Room := { frames := 4, cells := 0, slots := 0, locals := 81 }
abbrev rm_X4_enteredOrThrow : Room := { frames := 7, cells := 1, slots := 6, locals := 130 }
abbrev rm_X4_knownOrThrow : Room := { frames := 7, cells := 1, slots := 6, locals := 130 }
abbrev rm_X4_priceTunes : Room := { frames := 8, cells := 0, slots := 0, locals := 185 }
abbrev rm_X4_rankByPrice : Room := { frames := 4, cells := 0, slots := 0, locals := 81 }
abbrev rm_X4_collectPlaces : Room := { frames := 7, cells := 0, slots := 0, locals := 152 }
abbrev rm_X4_collectPlacesOf : Room := { frames := 6, cells := 0, slots := 0, locals := 127 }
abbrev rm_L_cell : Room := { frames := 3, cells := 0, slots := 0, locals := 60 }
abbrev rm_L_low : Room := { frames := 3, cells := 0, slots := 0, locals := 60 }
abbrev rm_L_does : Room := { frames := 10, cells := 12, slots := 900, locals := 198 }
abbrev rm_L_shift : Room := { frames := 9, cells := 6, slots := 60, locals := 176 }
abbrev rm_L_sets : Room := { frames := 10, cells := 6, slots := 60, locals := 199 }
abbrev rm_L_costs : Room := { frames := 9, cells := 6, slots := 60, locals := 175 }
abbrev rm_L_cost : Room := { frames := 9, cells := 6, slots := 60, locals := 206 }
abbrev rm_L_act : Room := { frames := 11, cells := 12, slots := 900, locals := 225 }
abbrev rm_L_areAlike : Room := { frames := 11, cells := 2000, slots := 30000, locals := 229 }
abbrev rm_L_areTunesSo : Room := { frames := 10, cells := 2000, slots := 20000, locals := 229 }
abbrev rm_L_isHummedSo : Room := { frames := 10, cells := 600, slots := 6000, locals := 229 }
