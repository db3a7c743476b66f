set_option maxRecDepth 20000 in
theorem ggX4_init_X1_init : GoodIn wsX4_init wsX1_init := goodIn_r _ [21, 22, 2, 3, 23, 16, 17, 24, 25, 26, 27, 28, 29, 30, 31, 32, 33, 34, 35, 36, 37, 38, 59, 60, 53, 54, 55, 56, 57] (by decide +kernel) (by decide +kernel)
set_option maxRecDepth 20000 in
theorem gX4_init_X1_init_n17 : GoodIn wsX4_init (wsX1_init) := ggX4_init_X1_init
set_option maxRecDepth 20000 in
theorem ggX4_init_X0_init : GoodIn wsX4_init wsX0_init := goodIn_r _ [40, 41, 2, 3, 42, 16, 17, 43, 44, 31, 32, 33, 34, 35, 36, 37, 28, 38, 59, 60, 58] (by decide +kernel) (by decide +kernel)
set_option maxRecDepth 20000 in
theorem gX4_init_X0_init_n31 : GoodIn wsX4_init (wsX0_init) := ggX4_init_X0_init
set_option maxRecDepth 20000 in
theorem ggX4_init_X2_init : GoodIn wsX4_init wsX2_init := goodIn_r _ [32, 33, 2, 3, 34, 35, 36, 37, 28, 38, 59, 60] (by decide +kernel) (by decide +kernel)
set_option maxRecDepth 20000 in
theorem gX4_init_X2_init : GoodIn wsX4_init (wsX2_init) := ggX4_init_X2_init
set_option maxRecDepth 20000 in
theorem ggX4_add_X4_refuseUnlessNote : GoodIn wsX4_add wsX4_refuseUnlessNote := goodIn_ca (goodIn_r _ [12, 13, 14, 11, 15, 16, 17, 18, 19, 20] (by decide +kernel) (by decide +kernel)) (goodIn_sub (fun _ h => List.mem_cons_of_mem _ (List.mem_append_right _ h)) (by decide +kernel))
set_option maxRecDepth 20000 in
theorem gX4_add_X4_refuseUnlessNote : GoodIn wsX4_add (va_wsS RX4 47 yX4_refuseUnlessNote wsX4_refuseUnlessNote) := goodIn_app (goodIn_of _ (by decide +kernel)) ggX4_add_X4_refuseUnlessNote
set_option maxRecDepth 20000 in
theorem ggX4_add_X4_isWithin : GoodIn wsX4_add wsX4_isWithin := goodIn_r _ [20] (by decide +kernel) (by decide +kernel)
set_option maxRecDepth 20000 in
theorem gX4_add_X4_isWithin : GoodIn wsX4_add (va_wsS RX4 55 yX4_isWithin wsX4_isWithin) := goodIn_app (goodIn_of _ (by decide +kernel)) ggX4_add_X4_isWithin
set_option maxRecDepth 20000 in
theorem ggX4_add_X3_init : GoodIn wsX4_add wsX3_init := goodIn_r _ [22, 23, 24, 25, 26, 27, 28, 29, 30, 31, 32, 33, 34, 35, 36, 37, 38, 39, 40, 67, 68, 64, 65, 66] (by decide +kernel) (by decide +kernel)
set_option maxRecDepth 20000 in
theorem gX4_add_X3_init_n66 : GoodIn wsX4_add (wsX3_init) := ggX4_add_X3_init
set_option maxRecDepth 20000 in
theorem ggX4_add_X3_append : GoodIn wsX4_add wsX3_append := goodIn_r _ [44, 29, 30, 45, 46, 47, 28, 48, 49, 40, 64, 65, 66, 67, 68] (by decide +kernel) (by decide +kernel)
set_option maxRecDepth 20000 in
theorem gX4_add_X3_append : GoodIn wsX4_add (wsV RX4 67 RX3 yX3_append wsX3_append) := goodIn_app (goodIn_of _ (by decide +kernel)) ggX4_add_X3_append
set_option maxRecDepth 20000 in
theorem ggX4_add_X0_admitTune : GoodIn wsX4_add wsX0_admitTune := goodIn_r _ [54, 55, 56, 46, 47, 28, 48, 49, 40, 69, 67, 68] (by decide +kernel) (by decide +kernel)
set_option maxRecDepth 20000 in
theorem gX4_add_X0_admitTune : GoodIn wsX4_add (wsV RX4 70 RX0 yX0_admitTune wsX0_admitTune) := goodIn_app (goodIn_of _ (by decide +kernel)) ggX4_add_X0_admitTune
set_option maxRecDepth 20000 in
theorem ggX4_note_X4_knownOrThrow : GoodIn wsX4_note wsX4_knownOrThrow := goodIn_ca (goodIn_r _ [7, 8, 9, 10, 11, 12, 6, 13, 14, 15, 16, 17, 18, 19, 57, 58, 59, 60, 61, 62, 63, 64, 65, 66] (by decide +kernel) (by decide +kernel)) (goodIn_sub (fun _ h => List.mem_cons_of_mem _ (List.mem_append_left _ (List.mem_append_right _ h))) (by decide +kernel))
set_option maxRecDepth 20000 in
theorem gX4_note_X4_knownOrThrow : GoodIn wsX4_note (wsV RX4 73 RX4 yX4_knownOrThrow wsX4_knownOrThrow) := goodIn_app (goodIn_of _ (by decide +kernel)) ggX4_note_X4_knownOrThrow
set_option maxRecDepth 20000 in
theorem ggX4_note_X4_refuseUnlessNote : GoodIn wsX4_note wsX4_refuseUnlessNote := goodIn_ca (goodIn_r _ [22, 23, 24, 6, 25, 26, 27, 28, 29, 30] (by decide +kernel) (by decide +kernel)) (goodIn_sub (fun _ h => List.mem_cons_of_mem _ (List.mem_append_right _ h)) (by decide +kernel))
set_option maxRecDepth 20000 in
theorem gX4_note_X4_refuseUnlessNote : GoodIn wsX4_note (va_wsS RX4 47 yX4_refuseUnlessNote wsX4_refuseUnlessNote) := goodIn_app (goodIn_of _ (by decide +kernel)) ggX4_note_X4_refuseUnlessNote
set_option maxRecDepth 20000 in
theorem ggX4_note_X2_isFull : GoodIn wsX4_note wsX2_isFull := goodIn_r _ [35, 36, 37, 67, 68] (by decide +kernel) (by decide +kernel)
set_option maxRecDepth 20000 in
theorem gX4_note_X2_isFull : GoodIn wsX4_note (wsV RX4 80 RX2 yX2_isFull wsX2_isFull) := goodIn_app (goodIn_of _ (by decide +kernel)) ggX4_note_X2_isFull
set_option maxRecDepth 20000 in
theorem ggX4_note_X3_append : GoodIn wsX4_note wsX3_append := goodIn_r _ [42, 43, 44, 45, 46, 47, 34, 48, 36, 37, 57, 58, 59, 67, 68] (by decide +kernel) (by decide +kernel)
set_option maxRecDepth 20000 in
theorem gX4_note_X3_append : GoodIn wsX4_note (wsV RX4 67 RX3 yX3_append wsX3_append) := goodIn_app (goodIn_of _ (by decide +kernel)) ggX4_note_X3_append
set_option maxRecDepth 20000 in
theorem ggX4_note_X3_size : GoodIn wsX4_note wsX3_size := goodIn_r _ [52, 43, 53, 54, 55, 34, 56, 36, 57, 58, 59, 67, 68] (by decide +kernel) (by decide +kernel)
set_option maxRecDepth 20000 in
theorem gX4_note_X3_size : GoodIn wsX4_note (wsV RX4 86 RX3 yX3_size wsX3_size) := goodIn_app (goodIn_of _ (by decide +kernel)) ggX4_note_X3_size
set_option maxRecDepth 20000 in
theorem ggX4_correct_X4_knownOrThrow : GoodIn wsX4_correct wsX4_knownOrThrow := goodIn_ca (goodIn_r _ [7, 1, 2, 8, 9, 10, 6, 11, 12, 13, 14, 15, 16, 17, 50, 51, 52, 53, 54, 55, 56, 57, 58, 59] (by decide +kernel) (by decide +kernel)) (goodIn_sub (fun _ h => List.mem_cons_of_mem _ (List.mem_append_left _ (List.mem_append_right _ h))) (by decide +kernel))
set_option maxRecDepth 20000 in
theorem gX4_correct_X4_knownOrThrow : GoodIn wsX4_correct (wsV RX4 73 RX4 yX4_knownOrThrow wsX4_knownOrThrow) := goodIn_app (goodIn_of _ (by decide +kernel)) ggX4_correct_X4_knownOrThrow
set_option maxRecDepth 20000 in
theorem ggX4_correct_X3_size : GoodIn wsX4_correct wsX3_size := goodIn_r _ [22, 23, 24, 25, 26, 27, 28, 29, 50, 51, 52, 60, 61] (by decide +kernel) (by decide +kernel)
set_option maxRecDepth 20000 in
theorem gX4_correct_X3_size : GoodIn wsX4_correct (wsV RX4 86 RX3 yX3_size wsX3_size) := goodIn_app (goodIn_of _ (by decide +kernel)) ggX4_correct_X3_size
set_option maxRecDepth 20000 in
theorem ggX4_correct_X4_refuseUnlessNote : GoodIn wsX4_correct wsX4_refuseUnlessNote := goodIn_ca (goodIn_r _ [32, 33, 34, 6, 35, 36, 37, 38, 39, 40] (by decide +kernel) (by decide +kernel)) (goodIn_sub (fun _ h => List.mem_cons_of_mem _ (List.mem_append_right _ h)) (by decide +kernel))
set_option maxRecDepth 20000 in
theorem gX4_correct_X4_refuseUnlessNote : GoodIn wsX4_correct (va_wsS RX4 47 yX4_refuseUnlessNote wsX4_refuseUnlessNote) := goodIn_app (goodIn_of _ (by decide +kernel)) ggX4_correct_X4_refuseUnlessNote
set_option maxRecDepth 20000 in
theorem ggX4_correct_X2_at : GoodIn wsX4_correct wsX2_at := goodIn_r _ [44, 29, 45, 60, 61] (by decide +kernel) (by decide +kernel)
set_option maxRecDepth 20000 in
theorem gX4_correct_X2_at : GoodIn wsX4_correct (wsV RX4 95 RX2 yX2_at wsX2_at) := goodIn_app (goodIn_of _ (by decide +kernel)) ggX4_correct_X2_at
set_option maxRecDepth 20000 in
theorem ggX4_correct_X2_put : GoodIn wsX4_correct wsX2_put := goodIn_r _ [49, 29, 45, 60, 61] (by decide +kernel) (by decide +kernel)
set_option maxRecDepth 20000 in
theorem gX4_correct_X2_put : GoodIn wsX4_correct (wsV RX4 99 RX2 yX2_put wsX2_put) := goodIn_app (goodIn_of _ (by decide +kernel)) ggX4_correct_X2_put
set_option maxRecDepth 20000 in
theorem ggX4_shift_X4_knownOrThrow : GoodIn wsX4_shift wsX4_knownOrThrow := goodIn_ca (goodIn_r _ [7, 8, 9, 10, 11, 12, 6, 13, 14, 15, 16, 17, 18, 19, 49, 50, 51, 52, 53, 54, 55, 56, 57, 58] (by decide +kernel) (by decide +kernel)) (goodIn_sub (fun _ h => List.mem_cons_of_mem _ (List.mem_append_left _ (List.mem_append_right _ h))) (by decide +kernel))
set_option maxRecDepth 20000 in
theorem gX4_shift_X4_knownOrThrow : GoodIn wsX4_shift (wsV RX4 73 RX4 yX4_knownOrThrow wsX4_knownOrThrow) := goodIn_app (goodIn_of _ (by decide +kernel)) ggX4_shift_X4_knownOrThrow
set_option maxRecDepth 20000 in
theorem ggX4_shift_X4_refuseUnlessWithin : GoodIn wsX4_shift wsX4_refuseUnlessWithin := goodIn_ca (goodIn_r _ [22, 23, 24, 25, 26, 6, 27] (by decide +kernel) (by decide +kernel)) (goodIn_sub (fun _ h => List.mem_cons_of_mem _ (List.mem_append_right _ h)) (by decide +kernel))
set_option maxRecDepth 20000 in
theorem gX4_shift_X4_refuseUnlessWithin : GoodIn wsX4_shift (va_wsS RX4 105 yX4_refuseUnlessWithin wsX4_refuseUnlessWithin) := goodIn_app (goodIn_of _ (by decide +kernel)) ggX4_shift_X4_refuseUnlessWithin
set_option maxRecDepth 20000 in
theorem ggX4_shift_X3_size : GoodIn wsX4_shift wsX3_size := goodIn_r _ [32, 33, 34, 35, 36, 37, 38, 39, 49, 50, 51, 59, 60] (by decide +kernel) (by decide +kernel)
set_option maxRecDepth 20000 in
theorem gX4_shift_X3_size : GoodIn wsX4_shift (wsV RX4 86 RX3 yX3_size wsX3_size) := goodIn_app (goodIn_of _ (by decide +kernel)) ggX4_shift_X3_size
set_option maxRecDepth 20000 in
theorem ggX4_shift_X2_at : GoodIn wsX4_shift wsX2_at := goodIn_r _ [43, 39, 44, 59, 60] (by decide +kernel) (by decide +kernel)
set_option maxRecDepth 20000 in
theorem gX4_shift_X2_at : GoodIn wsX4_shift (wsV RX4 95 RX2 yX2_at wsX2_at) := goodIn_app (goodIn_of _ (by decide +kernel)) ggX4_shift_X2_at
set_option maxRecDepth 20000 in
theorem ggX4_shift_X4_isWithin : GoodIn wsX4_shift wsX4_isWithin := goodIn_r _ [27] (by decide +kernel) (by decide +kernel)
set_option maxRecDepth 20000 in
theorem gX4_shift_X4_isWithin : GoodIn wsX4_shift (va_wsS RX4 55 yX4_isWithin wsX4_isWithin) := goodIn_app (goodIn_of _ (by decide +kernel)) ggX4_shift_X4_isWithin
set_option maxRecDepth 20000 in
theorem ggX4_shift_X2_put : GoodIn wsX4_shift wsX2_put := goodIn_r _ [48, 39, 44, 59, 60] (by decide +kernel) (by decide +kernel)
set_option maxRecDepth 20000 in
theorem gX4_shift_X2_put : GoodIn wsX4_shift (wsV RX4 99 RX2 yX2_put wsX2_put) := goodIn_app (goodIn_of _ (by decide +kernel)) ggX4_shift_X2_put
set_option maxRecDepth 20000 in
theorem ggX4_retire_X4_knownOrThrow : GoodIn wsX4_retire wsX4_knownOrThrow := goodIn_ca (goodIn_r _ [6, 7, 8, 9, 10, 11, 5, 12, 13, 14, 15, 16, 1, 17, 18, 19, 20, 21, 22, 23, 24, 25, 26, 27] (by decide +kernel) (by decide +kernel)) (goodIn_sub (fun _ h => List.mem_cons_of_mem _ (List.mem_append_right _ h)) (by decide +kernel))
set_option maxRecDepth 20000 in
theorem gX4_retire_X4_knownOrThrow : GoodIn wsX4_retire (wsV RX4 73 RX4 yX4_knownOrThrow wsX4_knownOrThrow) := goodIn_app (goodIn_of _ (by decide +kernel)) ggX4_retire_X4_knownOrThrow
set_option maxRecDepth 20000 in
theorem ggX4_retire_X4_knownOrNull : GoodIn wsX4_retire wsX4_knownOrNull := goodIn_r _ [12, 13, 14, 15, 5, 16, 1, 17, 18, 19, 20, 21, 22, 23, 24, 25, 26, 27] (by decide +kernel) (by decide +kernel)
set_option maxRecDepth 20000 in
theorem gX4_retire_X4_knownOrNull : GoodIn wsX4_retire (wsV RX4 115 RX4 yX4_knownOrNull wsX4_knownOrNull) := goodIn_app (goodIn_of _ (by decide +kernel)) ggX4_retire_X4_knownOrNull
set_option maxRecDepth 20000 in
theorem ggX4_notes_X4_enteredOrThrow : GoodIn wsX4_notes wsX4_enteredOrThrow := goodIn_ca (goodIn_r _ [5, 6, 7, 8, 9, 10, 4, 11, 12, 13, 26, 27, 28, 29, 30, 31, 32] (by decide +kernel) (by decide +kernel)) (goodIn_sub (fun _ h => List.mem_cons_of_mem _ (List.mem_append_right _ h)) (by decide +kernel))
set_option maxRecDepth 20000 in
theorem gX4_notes_X4_enteredOrThrow : GoodIn wsX4_notes (wsV RX4 118 RX4 yX4_enteredOrThrow wsX4_enteredOrThrow) := goodIn_app (goodIn_of _ (by decide +kernel)) ggX4_notes_X4_enteredOrThrow
set_option maxRecDepth 20000 in
theorem ggX4_notes_X3_size : GoodIn wsX4_notes wsX3_size := goodIn_r _ [18, 19, 20, 21, 22, 23, 24, 25, 33, 34, 35, 36, 37] (by decide +kernel) (by decide +kernel)
set_option maxRecDepth 20000 in
theorem gX4_notes_X3_size : GoodIn wsX4_notes (wsV RX4 86 RX3 yX3_size wsX3_size) := goodIn_app (goodIn_of _ (by decide +kernel)) ggX4_notes_X3_size
set_option maxRecDepth 20000 in
theorem ggX4_step_X4_enteredOrThrow : GoodIn wsX4_step wsX4_enteredOrThrow := goodIn_ca (goodIn_r _ [7, 1, 2, 8, 9, 10, 6, 11, 12, 13, 38, 39, 40, 41, 42, 43, 44] (by decide +kernel) (by decide +kernel)) (goodIn_sub (fun _ h => List.mem_cons_of_mem _ (List.mem_append_right _ h)) (by decide +kernel))
set_option maxRecDepth 20000 in
theorem gX4_step_X4_enteredOrThrow : GoodIn wsX4_step (wsV RX4 118 RX4 yX4_enteredOrThrow wsX4_enteredOrThrow) := goodIn_app (goodIn_of _ (by decide +kernel)) ggX4_step_X4_enteredOrThrow
set_option maxRecDepth 20000 in
theorem ggX4_step_X3_size : GoodIn wsX4_step wsX3_size := goodIn_r _ [18, 19, 20, 21, 22, 23, 24, 25, 35, 36, 37, 45, 46] (by decide +kernel) (by decide +kernel)
set_option maxRecDepth 20000 in
theorem gX4_step_X3_size : GoodIn wsX4_step (wsV RX4 86 RX3 yX3_size wsX3_size) := goodIn_app (goodIn_of _ (by decide +kernel)) ggX4_step_X3_size
set_option maxRecDepth 20000 in
theorem ggX4_step_X2_stepFrom : GoodIn wsX4_step wsX2_stepFrom := goodIn_r _ [29, 30, 31, 32, 23, 33, 25, 34, 45, 46] (by decide +kernel) (by decide +kernel)
set_option maxRecDepth 20000 in
theorem gX4_step_X2_stepFrom : GoodIn wsX4_step (wsV RX4 123 RX2 yX2_stepFrom wsX2_stepFrom) := goodIn_app (goodIn_of _ (by decide +kernel)) ggX4_step_X2_stepFrom
set_option maxRecDepth 20000 in
theorem ggX4_shared_X4_enteredOrThrow : GoodIn wsX4_shared wsX4_enteredOrThrow := goodIn_ca (goodIn_r _ [9, 10, 11, 12, 13, 14, 8, 15, 16, 17, 43, 44, 45, 46, 47, 48, 49] (by decide +kernel) (by decide +kernel)) (goodIn_sub (fun _ h => List.mem_cons_of_mem _ (List.mem_append_right _ h)) (by decide +kernel))
set_option maxRecDepth 20000 in
theorem gX4_shared_X4_enteredOrThrow : GoodIn wsX4_shared (wsV RX4 118 RX4 yX4_enteredOrThrow wsX4_enteredOrThrow) := goodIn_app (goodIn_of _ (by decide +kernel)) ggX4_shared_X4_enteredOrThrow
set_option maxRecDepth 20000 in
theorem ggX4_shared_X2_size : GoodIn wsX4_shared wsX2_size := goodIn_r _ [22, 23, 50, 51] (by decide +kernel) (by decide +kernel)
set_option maxRecDepth 20000 in
theorem gX4_shared_X2_size : GoodIn wsX4_shared (wsV RX4 126 RX2 yX2_size wsX2_size) := goodIn_app (goodIn_of _ (by decide +kernel)) ggX4_shared_X2_size
set_option maxRecDepth 20000 in
theorem ggX4_shared_X2_stepsInCommon : GoodIn wsX4_shared wsX2_stepsInCommon := goodIn_r _ [27, 23, 28, 29, 3, 30, 31, 32, 33, 21, 34, 35, 36, 37, 38, 39, 50, 51] (by decide +kernel) (by decide +kernel)
set_option maxRecDepth 20000 in
theorem gX4_shared_X2_stepsInCommon : GoodIn wsX4_shared (wsV RX4 127 RX2 yX2_stepsInCommon wsX2_stepsInCommon) := goodIn_app (goodIn_of _ (by decide +kernel)) ggX4_shared_X2_stepsInCommon
set_option maxRecDepth 20000 in
theorem ggX4_hum_X4_refuseUnlessWithin : GoodIn wsX4_hum wsX4_refuseUnlessWithin := goodIn_ca (goodIn_r _ [7, 8, 9, 10, 11, 6, 12] (by decide +kernel) (by decide +kernel)) (goodIn_sub (fun _ h => List.mem_cons_of_mem _ (List.mem_append_right _ h)) (by decide +kernel))
set_option maxRecDepth 20000 in
theorem gX4_hum_X4_refuseUnlessWithin : GoodIn wsX4_hum (va_wsS RX4 105 yX4_refuseUnlessWithin wsX4_refuseUnlessWithin) := goodIn_app (goodIn_of _ (by decide +kernel)) ggX4_hum_X4_refuseUnlessWithin
set_option maxRecDepth 20000 in
theorem ggX4_hum_X2_isFull : GoodIn wsX4_hum wsX2_isFull := goodIn_r _ [17, 18, 19, 35, 36] (by decide +kernel) (by decide +kernel)
set_option maxRecDepth 20000 in
theorem gX4_hum_X2_isFull : GoodIn wsX4_hum (wsV RX4 80 RX2 yX2_isFull wsX2_isFull) := goodIn_app (goodIn_of _ (by decide +kernel)) ggX4_hum_X2_isFull
set_option maxRecDepth 20000 in
theorem ggX4_hum_X2_append : GoodIn wsX4_hum wsX2_append := goodIn_r _ [23, 18, 19, 35, 36] (by decide +kernel) (by decide +kernel)
set_option maxRecDepth 20000 in
theorem gX4_hum_X2_append : GoodIn wsX4_hum (wsV RX4 139 RX2 yX2_append wsX2_append) := goodIn_app (goodIn_of _ (by decide +kernel)) ggX4_hum_X2_append
set_option maxRecDepth 20000 in
theorem ggX4_hum_X2_size : GoodIn wsX4_hum wsX2_size := goodIn_r _ [27, 18, 35, 36] (by decide +kernel) (by decide +kernel)
set_option maxRecDepth 20000 in
theorem gX4_hum_X2_size : GoodIn wsX4_hum (wsV RX4 126 RX2 yX2_size wsX2_size) := goodIn_app (goodIn_of _ (by decide +kernel)) ggX4_hum_X2_size
set_option maxRecDepth 20000 in
theorem ggX4_hush_X2_size : GoodIn wsX4_hush wsX2_size := goodIn_r _ [6, 7, 19, 20] (by decide +kernel) (by decide +kernel)
set_option maxRecDepth 20000 in
theorem gX4_hush_X2_size : GoodIn wsX4_hush (wsV RX4 126 RX2 yX2_size wsX2_size) := goodIn_app (goodIn_of _ (by decide +kernel)) ggX4_hush_X2_size
set_option maxRecDepth 20000 in
theorem ggX4_hush_X2_clear : GoodIn wsX4_hush wsX2_clear := goodIn_r _ [11, 7, 19, 20] (by decide +kernel) (by decide +kernel)
set_option maxRecDepth 20000 in
theorem gX4_hush_X2_clear : GoodIn wsX4_hush (wsV RX4 141 RX2 yX2_clear wsX2_clear) := goodIn_app (goodIn_of _ (by decide +kernel)) ggX4_hush_X2_clear
set_option maxRecDepth 20000 in
theorem ggX4_hummed_X2_size : GoodIn wsX4_hummed wsX2_size := goodIn_r _ [6, 7, 15, 16] (by decide +kernel) (by decide +kernel)
set_option maxRecDepth 20000 in
theorem gX4_hummed_X2_size : GoodIn wsX4_hummed (wsV RX4 126 RX2 yX2_size wsX2_size) := goodIn_app (goodIn_of _ (by decide +kernel)) ggX4_hummed_X2_size
set_option maxRecDepth 20000 in
theorem ggX4_setCosts_X4_refuseUnlessWithin : GoodIn wsX4_setCosts wsX4_refuseUnlessWithin := goodIn_ca (goodIn_r _ [5, 6, 7, 8, 9, 4, 10] (by decide +kernel) (by decide +kernel)) (goodIn_sub (fun _ h => List.mem_cons_of_mem _ (List.mem_append_right _ h)) (by decide +kernel))
set_option maxRecDepth 20000 in
theorem gX4_setCosts_X4_refuseUnlessWithin : GoodIn wsX4_setCosts (va_wsS RX4 105 yX4_refuseUnlessWithin wsX4_refuseUnlessWithin) := goodIn_app (goodIn_of _ (by decide +kernel)) ggX4_setCosts_X4_refuseUnlessWithin
set_option maxRecDepth 20000 in
theorem ggX4_cost_X4_knownOrThrow : GoodIn wsX4_cost wsX4_knownOrThrow := goodIn_ca (goodIn_r _ [6, 7, 8, 9, 10, 11, 5, 12, 13, 14, 15, 16, 17, 18, 89, 90, 91, 82, 83, 84, 85, 86, 87, 88] (by decide +kernel) (by decide +kernel)) (goodIn_sub (fun _ h => List.mem_cons_of_mem _ (List.mem_append_right _ h)) (by decide +kernel))
set_option maxRecDepth 20000 in
theorem gX4_cost_X4_knownOrThrow : GoodIn wsX4_cost (wsV RX4 73 RX4 yX4_knownOrThrow wsX4_knownOrThrow) := goodIn_app (goodIn_of _ (by decide +kernel)) ggX4_cost_X4_knownOrThrow
set_option maxRecDepth 20000 in
theorem ggX4_cost_X1_cheapestByTable : GoodIn wsX4_cost wsX1_cheapestByTable := goodIn_r _ [23, 24, 25, 26, 27, 28, 29, 30, 31, 32, 33, 34, 35, 36, 37, 38, 39, 40, 22, 41, 42, 43, 44, 45, 46, 47, 48, 49, 50, 51, 5, 52, 53, 54, 55, 56, 57, 58, 59, 60, 61, 62, 63, 64, 65, 66, 67, 68, 69, 70, 71, 72, 73, 74, 75, 76, 77, 78, 79, 80, 81, 92, 93, 94, 95, 96, 97, 98, 89, 90, 91] (by decide +kernel) (by decide +kernel)
set_option maxRecDepth 20000 in
theorem gX4_cost_X1_cheapestByTable : GoodIn wsX4_cost (wsV RX4 153 RX1 yX1_cheapestByTable wsX1_cheapestByTable) := goodIn_app (goodIn_of _ (by decide +kernel)) ggX4_cost_X1_cheapestByTable
set_option maxRecDepth 20000 in
theorem ggX4_matches_X4_priceTunes : GoodIn wsX4_matches wsX4_priceTunes := goodIn_r _ [6, 1, 7, 8, 9, 10, 11, 12, 13, 14, 15, 16, 17, 5, 18, 19, 20, 21, 22, 23, 24, 25, 26, 27, 28, 29, 30, 31, 32, 33, 34, 35, 36, 37, 38, 39, 40, 41, 42, 43, 44, 45, 46, 47, 48, 49, 50, 51, 52, 53, 54, 55, 56, 57, 58, 59, 60, 61, 62, 63, 64, 65, 66, 67, 68, 69, 70, 71, 72, 73, 74, 75, 76, 77, 78, 79, 80, 81, 82, 83, 84, 85, 86, 87, 88, 91, 92, 93, 94, 95, 96, 97, 98, 99, 100, 101, 102, 103, 104, 105, 106, 107] (by decide +kernel) (by decide +kernel)
set_option maxRecDepth 20000 in
theorem gX4_matches_X4_priceTunes : GoodIn wsX4_matches (wsV RX4 162 RX4 yX4_priceTunes wsX4_priceTunes) := goodIn_app (goodIn_of _ (by decide +kernel)) ggX4_matches_X4_priceTunes
set_option maxRecDepth 20000 in
theorem ggX4_matches_X2_size : GoodIn wsX4_matches wsX2_size := goodIn_r _ [33, 14, 98, 99] (by decide +kernel) (by decide +kernel)
set_option maxRecDepth 20000 in
theorem gX4_matches_X2_size : GoodIn wsX4_matches (wsV RX4 126 RX2 yX2_size wsX2_size) := goodIn_app (goodIn_of _ (by decide +kernel)) ggX4_matches_X2_size
set_option maxRecDepth 20000 in
theorem ggX4_matches_X2_at : GoodIn wsX4_matches wsX2_at := goodIn_r _ [70, 14, 71, 98, 99] (by decide +kernel) (by decide +kernel)
set_option maxRecDepth 20000 in
theorem gX4_matches_X2_at : GoodIn wsX4_matches (wsV RX4 95 RX2 yX2_at wsX2_at) := goodIn_app (goodIn_of _ (by decide +kernel)) ggX4_matches_X2_at
set_option maxRecDepth 20000 in
theorem ggX4_found_X4_priceTunes : GoodIn wsX4_found wsX4_priceTunes := goodIn_r _ [8, 3, 9, 10, 11, 12, 13, 14, 15, 16, 17, 18, 19, 7, 20, 21, 22, 23, 24, 25, 26, 27, 28, 29, 30, 31, 32, 33, 34, 35, 36, 37, 38, 39, 40, 41, 42, 43, 44, 45, 46, 47, 48, 49, 50, 51, 52, 53, 54, 55, 56, 57, 58, 59, 60, 61, 62, 63, 64, 65, 66, 67, 68, 69, 70, 71, 72, 73, 74, 75, 76, 77, 78, 79, 80, 81, 82, 83, 84, 85, 86, 87, 88, 89, 90, 97, 98, 99, 100, 101, 102, 103, 104, 105, 106, 107, 108, 109, 110, 111, 112, 113] (by decide +kernel) (by decide +kernel)
set_option maxRecDepth 20000 in
theorem gX4_found_X4_priceTunes : GoodIn wsX4_found (wsV RX4 162 RX4 yX4_priceTunes wsX4_priceTunes) := goodIn_app (goodIn_of _ (by decide +kernel)) ggX4_found_X4_priceTunes
set_option maxRecDepth 20000 in
theorem ggX4_found_X2_size : GoodIn wsX4_found wsX2_size := goodIn_r _ [35, 16, 104, 105] (by decide +kernel) (by decide +kernel)
set_option maxRecDepth 20000 in
theorem gX4_found_X2_size : GoodIn wsX4_found (wsV RX4 126 RX2 yX2_size wsX2_size) := goodIn_app (goodIn_of _ (by decide +kernel)) ggX4_found_X2_size
set_option maxRecDepth 20000 in
theorem ggX4_found_X2_at : GoodIn wsX4_found wsX2_at := goodIn_r _ [72, 16, 73, 104, 105] (by decide +kernel) (by decide +kernel)
set_option maxRecDepth 20000 in
theorem gX4_found_X2_at : GoodIn wsX4_found (wsV RX4 95 RX2 yX2_at wsX2_at) := goodIn_app (goodIn_of _ (by decide +kernel)) ggX4_found_X2_at
set_option maxRecDepth 20000 in
theorem ggX4_found_X4_rankByPrice : GoodIn wsX4_found wsX4_rankByPrice := goodIn_r _ [96, 3, 92, 70, 71, 14, 72, 16, 73, 91, 33, 34, 35, 97, 98, 99, 100, 101, 102, 103, 104, 105] (by decide +kernel) (by decide +kernel)
set_option maxRecDepth 20000 in
theorem gX4_found_X4_rankByPrice : GoodIn wsX4_found (wsV RX4 165 RX4 yX4_rankByPrice wsX4_rankByPrice) := goodIn_app (goodIn_of _ (by decide +kernel)) ggX4_found_X4_rankByPrice
set_option maxRecDepth 20000 in
theorem ggX4_likeContour_X4_knownOrNull : GoodIn wsX4_likeContour wsX4_knownOrNull := goodIn_r _ [7, 8, 9, 10, 6, 11, 1, 12, 38, 39, 40, 31, 32, 33, 34, 35, 36, 37] (by decide +kernel) (by decide +kernel)
set_option maxRecDepth 20000 in
theorem gX4_likeContour_X4_knownOrNull : GoodIn wsX4_likeContour (wsV RX4 115 RX4 yX4_knownOrNull wsX4_knownOrNull) := goodIn_app (goodIn_of _ (by decide +kernel)) ggX4_likeContour_X4_knownOrNull
set_option maxRecDepth 20000 in
theorem ggX4_likeContour_X2_beginsWithContourOf : GoodIn wsX4_likeContour wsX2_beginsWithContourOf := goodIn_r _ [17, 18, 19, 20, 21, 16, 22, 23, 24, 25, 26, 27, 28, 29, 30, 41, 42] (by decide +kernel) (by decide +kernel)
set_option maxRecDepth 20000 in
theorem gX4_likeContour_X2_beginsWithContourOf : GoodIn wsX4_likeContour (wsV RX4 170 RX2 yX2_beginsWithContourOf wsX2_beginsWithContourOf) := goodIn_app (goodIn_of _ (by decide +kernel)) ggX4_likeContour_X2_beginsWithContourOf
set_option maxRecDepth 20000 in
theorem ggX4_places_X4_refuseUnlessRunOfHum : GoodIn wsX4_places wsX4_refuseUnlessRunOfHum := goodIn_ca (goodIn_ca (goodIn_r _ [6, 7, 8, 9, 10, 11, 5, 12, 13, 14, 15, 16, 17, 18, 19, 20, 21, 22, 23, 67, 68, 69, 70, 71, 72, 73, 74, 75] (by decide +kernel) (by decide +kernel)) (goodIn_sub (fun _ h => List.mem_cons_of_mem _ (List.mem_append_left _ (List.mem_append_right _ h))) (by decide +kernel))) (goodIn_sub (fun _ h => List.mem_cons_of_mem _ (List.mem_append_right _ h)) (by decide +kernel))
set_option maxRecDepth 20000 in
theorem gX4_places_X4_refuseUnlessRunOfHum : GoodIn wsX4_places (wsV RX4 174 RX4 yX4_refuseUnlessRunOfHum wsX4_refuseUnlessRunOfHum) := goodIn_app (goodIn_of _ (by decide +kernel)) ggX4_places_X4_refuseUnlessRunOfHum
set_option maxRecDepth 20000 in
theorem ggX4_places_X4_collectPlaces : GoodIn wsX4_places wsX4_collectPlaces := goodIn_r _ [27, 1, 28, 29, 30, 31, 21, 32, 23, 33, 34, 35, 5, 36, 37, 38, 39, 40, 41, 42, 43, 44, 45, 9, 18, 19, 20, 22, 46, 47, 48, 49, 50, 51, 52, 53, 54, 55, 56, 57, 58, 59, 60, 61, 62, 63, 64, 65, 66, 67, 68, 69, 70, 71, 72, 73, 76, 77, 78, 74, 75] (by decide +kernel) (by decide +kernel)
set_option maxRecDepth 20000 in
theorem gX4_places_X4_collectPlaces : GoodIn wsX4_places (wsV RX4 177 RX4 yX4_collectPlaces wsX4_collectPlaces) := goodIn_app (goodIn_of _ (by decide +kernel)) ggX4_places_X4_collectPlaces
set_option maxRecDepth 20000 in
theorem ggX4_places_X2_size : GoodIn wsX4_places wsX2_size := goodIn_r _ [22, 23, 74, 75] (by decide +kernel) (by decide +kernel)
set_option maxRecDepth 20000 in
theorem gX4_places_X2_size : GoodIn wsX4_places (wsV RX4 126 RX2 yX2_size wsX2_size) := goodIn_app (goodIn_of _ (by decide +kernel)) ggX4_places_X2_size
set_option maxRecDepth 20000 in
theorem ggX4_link_X4_refuseUnlessEntered : GoodIn wsX4_link wsX4_refuseUnlessEntered := goodIn_ca (goodIn_r _ [10, 11, 12, 13, 9, 14, 15, 16, 17, 18, 19, 20, 21, 22, 63, 64, 65, 66, 67, 68, 69] (by decide +kernel) (by decide +kernel)) (goodIn_sub (fun _ h => List.mem_cons_of_mem _ (List.mem_append_right _ h)) (by decide +kernel))
set_option maxRecDepth 20000 in
theorem gX4_link_X4_refuseUnlessEntered : GoodIn wsX4_link (wsV RX4 182 RX4 yX4_refuseUnlessEntered wsX4_refuseUnlessEntered) := goodIn_app (goodIn_of _ (by decide +kernel)) ggX4_link_X4_refuseUnlessEntered
set_option maxRecDepth 20000 in
theorem ggX4_link_X0_areLinked : GoodIn wsX4_link wsX0_areLinked := goodIn_r _ [27, 28, 29, 30, 31, 32, 33, 34, 35, 36, 37, 26, 38, 70, 71, 72] (by decide +kernel) (by decide +kernel)
set_option maxRecDepth 20000 in
theorem gX4_link_X0_areLinked : GoodIn wsX4_link (wsV RX4 190 RX0 yX0_areLinked wsX0_areLinked) := goodIn_app (goodIn_of _ (by decide +kernel)) ggX4_link_X0_areLinked
set_option maxRecDepth 20000 in
theorem ggX4_link_X0_toggle : GoodIn wsX4_link wsX0_toggle := goodIn_r _ [42, 28, 29, 30, 31, 32, 33, 34, 35, 36, 37, 26, 38, 43, 44, 45, 46, 70, 71, 72] (by decide +kernel) (by decide +kernel)
set_option maxRecDepth 20000 in
theorem gX4_link_X0_toggle : GoodIn wsX4_link (wsV RX4 196 RX0 yX0_toggle wsX0_toggle) := goodIn_app (goodIn_of _ (by decide +kernel)) ggX4_link_X0_toggle
set_option maxRecDepth 20000 in
theorem ggX4_link_X0_countFamilies : GoodIn wsX4_link wsX0_countFamilies := goodIn_r _ [50, 28, 51, 52, 53, 32, 54, 34, 55, 56, 57, 26, 58, 36, 37, 38, 59, 60, 61, 62, 29, 30, 31, 33, 35, 70, 71, 72] (by decide +kernel) (by decide +kernel)
set_option maxRecDepth 20000 in
theorem gX4_link_X0_countFamilies : GoodIn wsX4_link (wsV RX4 199 RX0 yX0_countFamilies wsX0_countFamilies) := goodIn_app (goodIn_of _ (by decide +kernel)) ggX4_link_X0_countFamilies
set_option maxRecDepth 20000 in
theorem ggX4_cut_X4_refuseUnlessEntered : GoodIn wsX4_cut wsX4_refuseUnlessEntered := goodIn_ca (goodIn_r _ [8, 9, 10, 11, 7, 12, 13, 14, 15, 16, 17, 18, 19, 20, 61, 62, 63, 64, 65, 66, 67] (by decide +kernel) (by decide +kernel)) (goodIn_sub (fun _ h => List.mem_cons_of_mem _ (List.mem_append_right _ h)) (by decide +kernel))
set_option maxRecDepth 20000 in
theorem gX4_cut_X4_refuseUnlessEntered : GoodIn wsX4_cut (wsV RX4 182 RX4 yX4_refuseUnlessEntered wsX4_refuseUnlessEntered) := goodIn_app (goodIn_of _ (by decide +kernel)) ggX4_cut_X4_refuseUnlessEntered
set_option maxRecDepth 20000 in
theorem ggX4_cut_X0_areLinked : GoodIn wsX4_cut wsX0_areLinked := goodIn_r _ [25, 26, 27, 28, 29, 30, 31, 32, 33, 34, 35, 24, 36, 68, 69, 70] (by decide +kernel) (by decide +kernel)
set_option maxRecDepth 20000 in
theorem gX4_cut_X0_areLinked : GoodIn wsX4_cut (wsV RX4 190 RX0 yX0_areLinked wsX0_areLinked) := goodIn_app (goodIn_of _ (by decide +kernel)) ggX4_cut_X0_areLinked
set_option maxRecDepth 20000 in
theorem ggX4_cut_X0_toggle : GoodIn wsX4_cut wsX0_toggle := goodIn_r _ [40, 26, 27, 28, 29, 30, 31, 32, 33, 34, 35, 24, 36, 41, 42, 43, 44, 68, 69, 70] (by decide +kernel) (by decide +kernel)
set_option maxRecDepth 20000 in
theorem gX4_cut_X0_toggle : GoodIn wsX4_cut (wsV RX4 196 RX0 yX0_toggle wsX0_toggle) := goodIn_app (goodIn_of _ (by decide +kernel)) ggX4_cut_X0_toggle
set_option maxRecDepth 20000 in
theorem ggX4_cut_X0_countFamilies : GoodIn wsX4_cut wsX0_countFamilies := goodIn_r _ [48, 26, 49, 50, 51, 30, 52, 32, 53, 54, 55, 24, 56, 34, 35, 36, 57, 58, 59, 60, 27, 28, 29, 31, 33, 68, 69, 70] (by decide +kernel) (by decide +kernel)
set_option maxRecDepth 20000 in
theorem gX4_cut_X0_countFamilies : GoodIn wsX4_cut (wsV RX4 199 RX0 yX0_countFamilies wsX0_countFamilies) := goodIn_app (goodIn_of _ (by decide +kernel)) ggX4_cut_X0_countFamilies
set_option maxRecDepth 20000 in
theorem ggX4_family_X4_enteredOrThrow : GoodIn wsX4_family wsX4_enteredOrThrow := goodIn_ca (goodIn_r _ [6, 7, 8, 9, 10, 11, 5, 12, 13, 14, 39, 40, 41, 42, 43, 44, 45] (by decide +kernel) (by decide +kernel)) (goodIn_sub (fun _ h => List.mem_cons_of_mem _ (List.mem_append_right _ h)) (by decide +kernel))
set_option maxRecDepth 20000 in
theorem gX4_family_X4_enteredOrThrow : GoodIn wsX4_family (wsV RX4 118 RX4 yX4_enteredOrThrow wsX4_enteredOrThrow) := goodIn_app (goodIn_of _ (by decide +kernel)) ggX4_family_X4_enteredOrThrow
set_option maxRecDepth 20000 in
theorem ggX4_family_X0_lowestOfFamily : GoodIn wsX4_family wsX0_lowestOfFamily := goodIn_r _ [19, 20, 21, 22, 18, 23, 24, 25, 26, 27, 28, 29, 30, 31, 32, 33, 34, 35, 36, 37, 38, 46, 47, 48] (by decide +kernel) (by decide +kernel)
set_option maxRecDepth 20000 in
theorem gX4_family_X0_lowestOfFamily : GoodIn wsX4_family (wsV RX4 204 RX0 yX0_lowestOfFamily wsX0_lowestOfFamily) := goodIn_app (goodIn_of _ (by decide +kernel)) ggX4_family_X0_lowestOfFamily
set_option maxRecDepth 20000 in
theorem ggX4_families_X0_countFamilies : GoodIn wsX4_families wsX0_countFamilies := goodIn_r _ [6, 7, 8, 9, 10, 11, 12, 13, 14, 15, 16, 5, 17, 18, 19, 20, 21, 22, 23, 24, 25, 26, 27, 28, 29, 37, 38, 39] (by decide +kernel) (by decide +kernel)
set_option maxRecDepth 20000 in
theorem gX4_families_X0_countFamilies : GoodIn wsX4_families (wsV RX4 199 RX0 yX0_countFamilies wsX0_countFamilies) := goodIn_app (goodIn_of _ (by decide +kernel)) ggX4_families_X0_countFamilies
set_option maxRecDepth 20000 in
theorem ggX4_refuseUnlessWithin_X4_isWithin : GoodIn wsX4_refuseUnlessWithin wsX4_isWithin := goodIn_r _ [6] (by decide +kernel) (by decide +kernel)
set_option maxRecDepth 20000 in
theorem gX4_refuseUnlessWithin_X4_isWithin : GoodIn wsX4_refuseUnlessWithin (va_wsS RX4 55 yX4_isWithin wsX4_isWithin) := goodIn_app (goodIn_of _ (by decide +kernel)) ggX4_refuseUnlessWithin_X4_isWithin
set_option maxRecDepth 20000 in
theorem ggX4_refuseUnlessNote_X4_refuseUnlessWithin : GoodIn wsX4_refuseUnlessNote wsX4_refuseUnlessWithin := goodIn_ca (goodIn_r _ [4, 5, 6, 7, 8, 3, 9] (by decide +kernel) (by decide +kernel)) (goodIn_sub (fun _ h => List.mem_cons_of_mem _ (List.mem_append_right _ h)) (by decide +kernel))
set_option maxRecDepth 20000 in
theorem gX4_refuseUnlessNote_X4_refuseUnlessWithin : GoodIn wsX4_refuseUnlessNote (va_wsS RX4 105 yX4_refuseUnlessWithin wsX4_refuseUnlessWithin) := goodIn_app (goodIn_of _ (by decide +kernel)) ggX4_refuseUnlessNote_X4_refuseUnlessWithin
set_option maxRecDepth 20000 in
theorem ggX4_refuseUnlessRunOfHum_X4_refuseUnlessWithin : GoodIn wsX4_refuseUnlessRunOfHum wsX4_refuseUnlessWithin := goodIn_ca (goodIn_r _ [7, 8, 9, 10, 11, 6, 12] (by decide +kernel) (by decide +kernel)) (goodIn_sub (fun _ h => List.mem_cons_of_mem _ (List.mem_append_right _ h)) (by decide +kernel))
set_option maxRecDepth 20000 in
theorem gX4_refuseUnlessRunOfHum_X4_refuseUnlessWithin : GoodIn wsX4_refuseUnlessRunOfHum (va_wsS RX4 105 yX4_refuseUnlessWithin wsX4_refuseUnlessWithin) := goodIn_app (goodIn_of _ (by decide +kernel)) ggX4_refuseUnlessRunOfHum_X4_refuseUnlessWithin
set_option maxRecDepth 20000 in
theorem ggX4_refuseUnlessRunOfHum_X2_size : GoodIn wsX4_refuseUnlessRunOfHum wsX2_size := goodIn_r _ [17, 18, 26, 27] (by decide +kernel) (by decide +kernel)
set_option maxRecDepth 20000 in
theorem gX4_refuseUnlessRunOfHum_X2_size : GoodIn wsX4_refuseUnlessRunOfHum (wsV RX4 126 RX2 yX2_size wsX2_size) := goodIn_app (goodIn_of _ (by decide +kernel)) ggX4_refuseUnlessRunOfHum_X2_size
set_option maxRecDepth 20000 in
theorem ggX4_refuseUnlessEntered_X4_enteredOrThrow : GoodIn wsX4_refuseUnlessEntered wsX4_enteredOrThrow := goodIn_ca (goodIn_r _ [5, 6, 7, 8, 9, 10, 4, 11, 12, 13, 14, 15, 16, 17, 18, 19, 20] (by decide +kernel) (by decide +kernel)) (goodIn_sub (fun _ h => List.mem_cons_of_mem _ (List.mem_append_right _ h)) (by decide +kernel))
set_option maxRecDepth 20000 in
theorem gX4_refuseUnlessEntered_X4_enteredOrThrow : GoodIn wsX4_refuseUnlessEntered (wsV RX4 118 RX4 yX4_enteredOrThrow wsX4_enteredOrThrow) := goodIn_app (goodIn_of _ (by decide +kernel)) ggX4_refuseUnlessEntered_X4_enteredOrThrow
set_option maxRecDepth 20000 in
theorem ggX4_knownOrNull_X4_enteredOrNull : GoodIn wsX4_knownOrNull wsX4_enteredOrNull := goodIn_r _ [5, 6, 7, 11, 12, 13, 14, 15, 16, 17] (by decide +kernel) (by decide +kernel)
set_option maxRecDepth 20000 in
theorem gX4_knownOrNull_X4_enteredOrNull : GoodIn wsX4_knownOrNull (wsV RX4 211 RX4 yX4_enteredOrNull wsX4_enteredOrNull) := goodIn_app (goodIn_of _ (by decide +kernel)) ggX4_knownOrNull_X4_enteredOrNull
set_option maxRecDepth 20000 in
theorem ggX4_enteredOrThrow_X4_enteredOrNull : GoodIn wsX4_enteredOrThrow wsX4_enteredOrNull := goodIn_r _ [7, 8, 9, 10, 11, 12, 13, 14, 15, 16] (by decide +kernel) (by decide +kernel)
set_option maxRecDepth 20000 in
theorem gX4_enteredOrThrow_X4_enteredOrNull : GoodIn wsX4_enteredOrThrow (wsV RX4 211 RX4 yX4_enteredOrNull wsX4_enteredOrNull) := goodIn_app (goodIn_of _ (by decide +kernel)) ggX4_enteredOrThrow_X4_enteredOrNull
set_option maxRecDepth 20000 in
theorem ggX4_knownOrThrow_X4_knownOrNull : GoodIn wsX4_knownOrThrow wsX4_knownOrNull := goodIn_r _ [7, 8, 9, 10, 6, 11, 12, 13, 14, 15, 16, 17, 18, 19, 20, 21, 22, 23] (by decide +kernel) (by decide +kernel)
set_option maxRecDepth 20000 in
theorem gX4_knownOrThrow_X4_knownOrNull : GoodIn wsX4_knownOrThrow (wsV RX4 115 RX4 yX4_knownOrNull wsX4_knownOrNull) := goodIn_app (goodIn_of _ (by decide +kernel)) ggX4_knownOrThrow_X4_knownOrNull
set_option maxRecDepth 20000 in
theorem ggX4_priceTunes_X2_clear : GoodIn wsX4_priceTunes wsX2_clear := goodIn_r _ [8, 9, 92, 93] (by decide +kernel) (by decide +kernel)
set_option maxRecDepth 20000 in
theorem gX4_priceTunes_X2_clear : GoodIn wsX4_priceTunes (wsV RX4 141 RX2 yX2_clear wsX2_clear) := goodIn_app (goodIn_of _ (by decide +kernel)) ggX4_priceTunes_X2_clear
set_option maxRecDepth 20000 in
theorem ggX4_priceTunes_X4_knownOrNull : GoodIn wsX4_priceTunes wsX4_knownOrNull := goodIn_r _ [14, 15, 16, 17, 13, 18, 2, 19, 94, 95, 96, 85, 86, 87, 88, 89, 90, 91] (by decide +kernel) (by decide +kernel)
set_option maxRecDepth 20000 in
theorem gX4_priceTunes_X4_knownOrNull : GoodIn wsX4_priceTunes (wsV RX4 115 RX4 yX4_knownOrNull wsX4_knownOrNull) := goodIn_app (goodIn_of _ (by decide +kernel)) ggX4_priceTunes_X4_knownOrNull
set_option maxRecDepth 20000 in
theorem ggX4_priceTunes_X1_cheapestByTable : GoodIn wsX4_priceTunes wsX1_cheapestByTable := goodIn_r _ [24, 25, 26, 27, 28, 7, 29, 9, 30, 31, 32, 33, 34, 35, 36, 37, 38, 39, 23, 40, 41, 42, 43, 44, 45, 46, 47, 48, 49, 50, 13, 51, 52, 53, 54, 55, 56, 57, 58, 59, 60, 61, 62, 63, 64, 65, 66, 67, 68, 69, 70, 71, 72, 73, 74, 75, 76, 77, 78, 79, 80, 97, 98, 99, 100, 101, 92, 93, 94, 95, 96] (by decide +kernel) (by decide +kernel)
set_option maxRecDepth 20000 in
theorem gX4_priceTunes_X1_cheapestByTable : GoodIn wsX4_priceTunes (wsV RX4 153 RX1 yX1_cheapestByTable wsX1_cheapestByTable) := goodIn_app (goodIn_of _ (by decide +kernel)) ggX4_priceTunes_X1_cheapestByTable
set_option maxRecDepth 20000 in
theorem ggX4_priceTunes_X2_append : GoodIn wsX4_priceTunes wsX2_append := goodIn_r _ [84, 9, 67, 92, 93] (by decide +kernel) (by decide +kernel)
set_option maxRecDepth 20000 in
theorem gX4_priceTunes_X2_append : GoodIn wsX4_priceTunes (wsV RX4 139 RX2 yX2_append wsX2_append) := goodIn_app (goodIn_of _ (by decide +kernel)) ggX4_priceTunes_X2_append
set_option maxRecDepth 20000 in
theorem ggX4_rankByPrice_X2_at : GoodIn wsX4_rankByPrice wsX2_at := goodIn_r _ [6, 7, 8, 20, 21] (by decide +kernel) (by decide +kernel)
set_option maxRecDepth 20000 in
theorem gX4_rankByPrice_X2_at : GoodIn wsX4_rankByPrice (wsV RX4 95 RX2 yX2_at wsX2_at) := goodIn_app (goodIn_of _ (by decide +kernel)) ggX4_rankByPrice_X2_at
set_option maxRecDepth 20000 in
theorem ggX4_rankByPrice_X2_size : GoodIn wsX4_rankByPrice wsX2_size := goodIn_r _ [12, 7, 20, 21] (by decide +kernel) (by decide +kernel)
set_option maxRecDepth 20000 in
theorem gX4_rankByPrice_X2_size : GoodIn wsX4_rankByPrice (wsV RX4 126 RX2 yX2_size wsX2_size) := goodIn_app (goodIn_of _ (by decide +kernel)) ggX4_rankByPrice_X2_size
set_option maxRecDepth 20000 in
theorem ggX4_collectPlaces_X2_clear : GoodIn wsX4_collectPlaces wsX2_clear := goodIn_r _ [7, 8, 59, 60] (by decide +kernel) (by decide +kernel)
set_option maxRecDepth 20000 in
theorem gX4_collectPlaces_X2_clear : GoodIn wsX4_collectPlaces (wsV RX4 141 RX2 yX2_clear wsX2_clear) := goodIn_app (goodIn_of _ (by decide +kernel)) ggX4_collectPlaces_X2_clear
set_option maxRecDepth 20000 in
theorem ggX4_collectPlaces_X4_knownOrNull : GoodIn wsX4_collectPlaces wsX4_knownOrNull := goodIn_r _ [13, 14, 15, 16, 12, 17, 2, 18, 56, 57, 58, 49, 50, 51, 52, 53, 54, 55] (by decide +kernel) (by decide +kernel)
set_option maxRecDepth 20000 in
theorem gX4_collectPlaces_X4_knownOrNull : GoodIn wsX4_collectPlaces (wsV RX4 115 RX4 yX4_knownOrNull wsX4_knownOrNull) := goodIn_app (goodIn_of _ (by decide +kernel)) ggX4_collectPlaces_X4_knownOrNull
set_option maxRecDepth 20000 in
theorem ggX4_collectPlaces_X4_collectPlacesOf : GoodIn wsX4_collectPlaces wsX4_collectPlacesOf := goodIn_r _ [22, 23, 1, 24, 25, 26, 6, 27, 8, 28, 29, 30, 31, 32, 33, 34, 35, 36, 37, 38, 39, 40, 41, 42, 43, 44, 45, 46, 47, 48, 49, 50, 51, 52, 53, 54, 55, 59, 60] (by decide +kernel) (by decide +kernel)
set_option maxRecDepth 20000 in
theorem gX4_collectPlaces_X4_collectPlacesOf : GoodIn wsX4_collectPlaces (wsV RX4 218 RX4 yX4_collectPlacesOf wsX4_collectPlacesOf) := goodIn_app (goodIn_of _ (by decide +kernel)) ggX4_collectPlaces_X4_collectPlacesOf
set_option maxRecDepth 20000 in
theorem ggX4_collectPlacesOf_X2_size : GoodIn wsX4_collectPlacesOf wsX2_size := goodIn_r _ [7, 8, 37, 38] (by decide +kernel) (by decide +kernel)
set_option maxRecDepth 20000 in
theorem gX4_collectPlacesOf_X2_size : GoodIn wsX4_collectPlacesOf (wsV RX4 126 RX2 yX2_size wsX2_size) := goodIn_app (goodIn_of _ (by decide +kernel)) ggX4_collectPlacesOf_X2_size
set_option maxRecDepth 20000 in
theorem ggX4_collectPlacesOf_X2_stepsInCommon : GoodIn wsX4_collectPlacesOf wsX2_stepsInCommon := goodIn_r _ [12, 8, 13, 14, 15, 16, 17, 18, 19, 6, 20, 21, 22, 23, 24, 25, 37, 38] (by decide +kernel) (by decide +kernel)
set_option maxRecDepth 20000 in
theorem gX4_collectPlacesOf_X2_stepsInCommon : GoodIn wsX4_collectPlacesOf (wsV RX4 127 RX2 yX2_stepsInCommon wsX2_stepsInCommon) := goodIn_app (goodIn_of _ (by decide +kernel)) ggX4_collectPlacesOf_X2_stepsInCommon
set_option maxRecDepth 20000 in
theorem ggX4_collectPlacesOf_X2_append : GoodIn wsX4_collectPlacesOf wsX2_append := goodIn_r _ [29, 8, 25, 37, 38] (by decide +kernel) (by decide +kernel)
set_option maxRecDepth 20000 in
theorem gX4_collectPlacesOf_X2_append : GoodIn wsX4_collectPlacesOf (wsV RX4 139 RX2 yX2_append wsX2_append) := goodIn_app (goodIn_of _ (by decide +kernel)) ggX4_collectPlacesOf_X2_append
