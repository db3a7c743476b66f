set_option maxRecDepth 20000 in
theorem ggX5_isTune_X5_in : GoodIn wsX5_isTune wsX5_in := goodIn_r _ [5] (by decide +kernel) (by decide +kernel)
set_option maxRecDepth 20000 in
theorem gX5_isTune_X5_in : GoodIn wsX5_isTune (va_wsS RX5 48 yX5_in wsX5_in) := goodIn_app (goodIn_of _ (by decide +kernel)) ggX5_isTune_X5_in
set_option maxRecDepth 20000 in
theorem ggX5_isKnown_X5_isTune : GoodIn wsX5_isKnown wsX5_isTune := goodIn_r _ [6, 7, 8, 9, 5, 10, 11, 12, 13, 14, 15, 16, 17, 18, 19, 20, 21, 22, 23] (by decide +kernel) (by decide +kernel)
set_option maxRecDepth 20000 in
theorem gX5_isKnown_X5_isTune : GoodIn wsX5_isKnown (wsV RX5 52 RX5 yX5_isTune wsX5_isTune) := goodIn_app (goodIn_of _ (by decide +kernel)) ggX5_isKnown_X5_isTune
set_option maxRecDepth 20000 in
theorem ggX5_isNote_X5_in : GoodIn wsX5_isNote wsX5_in := goodIn_r _ [4] (by decide +kernel) (by decide +kernel)
set_option maxRecDepth 20000 in
theorem gX5_isNote_X5_in : GoodIn wsX5_isNote (va_wsS RX5 48 yX5_in wsX5_in) := goodIn_app (goodIn_of _ (by decide +kernel)) ggX5_isNote_X5_in
set_option maxRecDepth 20000 in
theorem ggX5_add_X5_isNote : GoodIn wsX5_add wsX5_isNote := goodIn_r _ [6, 7, 8, 5, 9] (by decide +kernel) (by decide +kernel)
set_option maxRecDepth 20000 in
theorem gX5_add_X5_isNote : GoodIn wsX5_add (va_wsS RX5 56 yX5_isNote wsX5_isNote) := goodIn_app (goodIn_of _ (by decide +kernel)) ggX5_add_X5_isNote
set_option maxRecDepth 20000 in
theorem ggX5_add_X5_holds : GoodIn wsX5_add wsX5_holds := goodIn_r _ [13, 14, 21, 22, 23, 24, 25, 26, 27, 28, 29, 30, 31, 32, 33] (by decide +kernel) (by decide +kernel)
set_option maxRecDepth 20000 in
theorem gX5_add_X5_holds : GoodIn wsX5_add (wsV RX5 60 RX5 yX5_holds wsX5_holds) := goodIn_app (goodIn_of _ (by decide +kernel)) ggX5_add_X5_holds
set_option maxRecDepth 20000 in
theorem ggX5_add_X5_sets : GoodIn wsX5_add wsX5_sets := goodIn_r _ [18, 19, 20, 21, 22, 23, 24, 25, 26, 27, 28, 29, 30, 31, 32, 33] (by decide +kernel) (by decide +kernel)
set_option maxRecDepth 20000 in
theorem gX5_add_X5_sets : GoodIn wsX5_add (wsV RX5 63 RX5 yX5_sets wsX5_sets) := goodIn_app (goodIn_of _ (by decide +kernel)) ggX5_add_X5_sets
set_option maxRecDepth 20000 in
theorem ggX5_note_X5_isKnown : GoodIn wsX5_note wsX5_isKnown := goodIn_r _ [6, 7, 8, 9, 10, 5, 11, 12, 13, 14, 15, 30, 31, 32, 33, 34, 35, 36, 37, 38, 39, 40, 41, 42] (by decide +kernel) (by decide +kernel)
set_option maxRecDepth 20000 in
theorem gX5_note_X5_isKnown : GoodIn wsX5_note (wsV RX5 67 RX5 yX5_isKnown wsX5_isKnown) := goodIn_app (goodIn_of _ (by decide +kernel)) ggX5_note_X5_isKnown
set_option maxRecDepth 20000 in
theorem ggX5_note_X5_isNote : GoodIn wsX5_note wsX5_isNote := goodIn_r _ [18, 13, 14, 5, 15] (by decide +kernel) (by decide +kernel)
set_option maxRecDepth 20000 in
theorem gX5_note_X5_isNote : GoodIn wsX5_note (va_wsS RX5 56 yX5_isNote wsX5_isNote) := goodIn_app (goodIn_of _ (by decide +kernel)) ggX5_note_X5_isNote
set_option maxRecDepth 20000 in
theorem ggX5_note_X5_holds : GoodIn wsX5_note wsX5_holds := goodIn_r _ [22, 23, 30, 31, 32, 33, 34, 35, 36, 37, 38, 39, 40, 41, 42] (by decide +kernel) (by decide +kernel)
set_option maxRecDepth 20000 in
theorem gX5_note_X5_holds : GoodIn wsX5_note (wsV RX5 60 RX5 yX5_holds wsX5_holds) := goodIn_app (goodIn_of _ (by decide +kernel)) ggX5_note_X5_holds
set_option maxRecDepth 20000 in
theorem ggX5_note_X5_sets : GoodIn wsX5_note wsX5_sets := goodIn_r _ [27, 28, 29, 30, 31, 32, 33, 34, 35, 36, 37, 38, 39, 40, 41, 42] (by decide +kernel) (by decide +kernel)
set_option maxRecDepth 20000 in
theorem gX5_note_X5_sets : GoodIn wsX5_note (wsV RX5 63 RX5 yX5_sets wsX5_sets) := goodIn_app (goodIn_of _ (by decide +kernel)) ggX5_note_X5_sets
set_option maxRecDepth 20000 in
theorem ggX5_correct_X5_isKnown : GoodIn wsX5_correct wsX5_isKnown := goodIn_r _ [7, 8, 9, 10, 11, 6, 12, 13, 14, 15, 16, 30, 31, 32, 33, 34, 35, 36, 37, 38, 39, 40, 41, 42] (by decide +kernel) (by decide +kernel)
set_option maxRecDepth 20000 in
theorem gX5_correct_X5_isKnown : GoodIn wsX5_correct (wsV RX5 67 RX5 yX5_isKnown wsX5_isKnown) := goodIn_app (goodIn_of _ (by decide +kernel)) ggX5_correct_X5_isKnown
set_option maxRecDepth 20000 in
theorem ggX5_correct_X5_in : GoodIn wsX5_correct wsX5_in := goodIn_r _ [16] (by decide +kernel) (by decide +kernel)
set_option maxRecDepth 20000 in
theorem gX5_correct_X5_in : GoodIn wsX5_correct (va_wsS RX5 48 yX5_in wsX5_in) := goodIn_app (goodIn_of _ (by decide +kernel)) ggX5_correct_X5_in
set_option maxRecDepth 20000 in
theorem ggX5_correct_X5_isNote : GoodIn wsX5_correct wsX5_isNote := goodIn_r _ [19, 14, 15, 6, 16] (by decide +kernel) (by decide +kernel)
set_option maxRecDepth 20000 in
theorem gX5_correct_X5_isNote : GoodIn wsX5_correct (va_wsS RX5 56 yX5_isNote wsX5_isNote) := goodIn_app (goodIn_of _ (by decide +kernel)) ggX5_correct_X5_isNote
set_option maxRecDepth 20000 in
theorem ggX5_correct_X5_holds : GoodIn wsX5_correct wsX5_holds := goodIn_r _ [23, 24, 30, 31, 32, 33, 34, 35, 36, 37, 38, 39, 40, 41, 42] (by decide +kernel) (by decide +kernel)
set_option maxRecDepth 20000 in
theorem gX5_correct_X5_holds : GoodIn wsX5_correct (wsV RX5 60 RX5 yX5_holds wsX5_holds) := goodIn_app (goodIn_of _ (by decide +kernel)) ggX5_correct_X5_holds
set_option maxRecDepth 20000 in
theorem ggX5_correct_X5_sets : GoodIn wsX5_correct wsX5_sets := goodIn_r _ [28, 2, 29, 30, 31, 32, 33, 34, 35, 36, 37, 38, 39, 40, 41, 42] (by decide +kernel) (by decide +kernel)
set_option maxRecDepth 20000 in
theorem gX5_correct_X5_sets : GoodIn wsX5_correct (wsV RX5 63 RX5 yX5_sets wsX5_sets) := goodIn_app (goodIn_of _ (by decide +kernel)) ggX5_correct_X5_sets
set_option maxRecDepth 20000 in
theorem ggX5_mayShift_X5_in : GoodIn wsX5_mayShift wsX5_in := goodIn_r _ [6] (by decide +kernel) (by decide +kernel)
set_option maxRecDepth 20000 in
theorem gX5_mayShift_X5_in : GoodIn wsX5_mayShift (va_wsS RX5 48 yX5_in wsX5_in) := goodIn_app (goodIn_of _ (by decide +kernel)) ggX5_mayShift_X5_in
set_option maxRecDepth 20000 in
theorem ggX5_shift_X5_isKnown : GoodIn wsX5_shift wsX5_isKnown := goodIn_r _ [7, 8, 9, 10, 11, 6, 12, 13, 14, 15, 16, 26, 27, 28, 29, 30, 31, 32, 33, 34, 35, 36, 37, 38] (by decide +kernel) (by decide +kernel)
set_option maxRecDepth 20000 in
theorem gX5_shift_X5_isKnown : GoodIn wsX5_shift (wsV RX5 67 RX5 yX5_isKnown wsX5_isKnown) := goodIn_app (goodIn_of _ (by decide +kernel)) ggX5_shift_X5_isKnown
set_option maxRecDepth 20000 in
theorem ggX5_shift_X5_in : GoodIn wsX5_shift wsX5_in := goodIn_r _ [16] (by decide +kernel) (by decide +kernel)
set_option maxRecDepth 20000 in
theorem gX5_shift_X5_in : GoodIn wsX5_shift (va_wsS RX5 48 yX5_in wsX5_in) := goodIn_app (goodIn_of _ (by decide +kernel)) ggX5_shift_X5_in
set_option maxRecDepth 20000 in
theorem ggX5_shift_X5_mayShift : GoodIn wsX5_shift wsX5_mayShift := goodIn_r _ [20, 1, 2, 14, 15, 6, 16, 26, 27, 28, 29, 30, 31, 32, 33, 34, 35, 36, 37, 38] (by decide +kernel) (by decide +kernel)
set_option maxRecDepth 20000 in
theorem gX5_shift_X5_mayShift : GoodIn wsX5_shift (wsV RX5 70 RX5 yX5_mayShift wsX5_mayShift) := goodIn_app (goodIn_of _ (by decide +kernel)) ggX5_shift_X5_mayShift
set_option maxRecDepth 20000 in
theorem ggX5_shift_X5_holds : GoodIn wsX5_shift wsX5_holds := goodIn_r _ [24, 25, 26, 27, 28, 29, 30, 31, 32, 33, 34, 35, 36, 37, 38] (by decide +kernel) (by decide +kernel)
set_option maxRecDepth 20000 in
theorem gX5_shift_X5_holds : GoodIn wsX5_shift (wsV RX5 60 RX5 yX5_holds wsX5_holds) := goodIn_app (goodIn_of _ (by decide +kernel)) ggX5_shift_X5_holds
set_option maxRecDepth 20000 in
theorem ggX5_retire_X5_isKnown : GoodIn wsX5_retire wsX5_isKnown := goodIn_r _ [7, 1, 8, 9, 10, 6, 11, 2, 12, 13, 14, 20, 21, 22, 23, 24, 25, 26, 27, 28, 29, 30, 31, 32] (by decide +kernel) (by decide +kernel)
set_option maxRecDepth 20000 in
theorem gX5_retire_X5_isKnown : GoodIn wsX5_retire (wsV RX5 67 RX5 yX5_isKnown wsX5_isKnown) := goodIn_app (goodIn_of _ (by decide +kernel)) ggX5_retire_X5_isKnown
set_option maxRecDepth 20000 in
theorem ggX5_retire_X5_holds : GoodIn wsX5_retire wsX5_holds := goodIn_r _ [18, 19, 20, 21, 22, 23, 24, 25, 26, 27, 28, 29, 30, 31, 32] (by decide +kernel) (by decide +kernel)
set_option maxRecDepth 20000 in
theorem gX5_retire_X5_holds : GoodIn wsX5_retire (wsV RX5 60 RX5 yX5_holds wsX5_holds) := goodIn_app (goodIn_of _ (by decide +kernel)) ggX5_retire_X5_holds
set_option maxRecDepth 20000 in
theorem ggX5_notes_X5_isTune : GoodIn wsX5_notes wsX5_isTune := goodIn_r _ [6, 7, 8, 9, 5, 10, 16, 17, 18, 19, 20, 21, 22, 23, 24, 25, 26, 27, 28] (by decide +kernel) (by decide +kernel)
set_option maxRecDepth 20000 in
theorem gX5_notes_X5_isTune : GoodIn wsX5_notes (wsV RX5 52 RX5 yX5_isTune wsX5_isTune) := goodIn_app (goodIn_of _ (by decide +kernel)) ggX5_notes_X5_isTune
set_option maxRecDepth 20000 in
theorem ggX5_notes_X5_holds : GoodIn wsX5_notes wsX5_holds := goodIn_r _ [14, 15, 16, 17, 18, 19, 20, 21, 22, 23, 24, 25, 26, 27, 28] (by decide +kernel) (by decide +kernel)
set_option maxRecDepth 20000 in
theorem gX5_notes_X5_holds : GoodIn wsX5_notes (wsV RX5 60 RX5 yX5_holds wsX5_holds) := goodIn_app (goodIn_of _ (by decide +kernel)) ggX5_notes_X5_holds
set_option maxRecDepth 20000 in
theorem ggX5_step_X5_isTune : GoodIn wsX5_step wsX5_isTune := goodIn_r _ [6, 7, 8, 9, 5, 10, 21, 22, 23, 24, 25, 26, 27, 28, 29, 30, 31, 32, 33] (by decide +kernel) (by decide +kernel)
set_option maxRecDepth 20000 in
theorem gX5_step_X5_isTune : GoodIn wsX5_step (wsV RX5 52 RX5 yX5_isTune wsX5_isTune) := goodIn_app (goodIn_of _ (by decide +kernel)) ggX5_step_X5_isTune
set_option maxRecDepth 20000 in
theorem ggX5_step_X5_in : GoodIn wsX5_step wsX5_in := goodIn_r _ [10] (by decide +kernel) (by decide +kernel)
set_option maxRecDepth 20000 in
theorem gX5_step_X5_in : GoodIn wsX5_step (va_wsS RX5 48 yX5_in wsX5_in) := goodIn_app (goodIn_of _ (by decide +kernel)) ggX5_step_X5_in
set_option maxRecDepth 20000 in
theorem ggX5_step_X5_holds : GoodIn wsX5_step wsX5_holds := goodIn_r _ [14, 15, 21, 22, 23, 24, 25, 26, 27, 28, 29, 30, 31, 32, 33] (by decide +kernel) (by decide +kernel)
set_option maxRecDepth 20000 in
theorem gX5_step_X5_holds : GoodIn wsX5_step (wsV RX5 60 RX5 yX5_holds wsX5_holds) := goodIn_app (goodIn_of _ (by decide +kernel)) ggX5_step_X5_holds
set_option maxRecDepth 20000 in
theorem ggX5_step_X5_stepOf : GoodIn wsX5_step wsX5_stepOf := goodIn_r _ [19, 20, 21, 22, 23, 24, 25, 26, 27, 28, 29, 30, 31, 32, 33] (by decide +kernel) (by decide +kernel)
set_option maxRecDepth 20000 in
theorem gX5_step_X5_stepOf : GoodIn wsX5_step (wsV RX5 73 RX5 yX5_stepOf wsX5_stepOf) := goodIn_app (goodIn_of _ (by decide +kernel)) ggX5_step_X5_stepOf
set_option maxRecDepth 20000 in
theorem ggX5_alike_X5_stepOf : GoodIn wsX5_alike wsX5_stepOf := goodIn_r _ [6, 7, 8, 9, 10, 11, 12, 13, 14, 15, 16, 17, 18, 19, 20] (by decide +kernel) (by decide +kernel)
set_option maxRecDepth 20000 in
theorem gX5_alike_X5_stepOf : GoodIn wsX5_alike (wsV RX5 73 RX5 yX5_stepOf wsX5_stepOf) := goodIn_app (goodIn_of _ (by decide +kernel)) ggX5_alike_X5_stepOf
set_option maxRecDepth 20000 in
theorem ggX5_shared_X5_isTune : GoodIn wsX5_shared wsX5_isTune := goodIn_r _ [5, 6, 7, 8, 4, 9, 25, 26, 27, 28, 29, 30, 31, 32, 33, 34, 35, 36, 37] (by decide +kernel) (by decide +kernel)
set_option maxRecDepth 20000 in
theorem gX5_shared_X5_isTune : GoodIn wsX5_shared (wsV RX5 52 RX5 yX5_isTune wsX5_isTune) := goodIn_app (goodIn_of _ (by decide +kernel)) ggX5_shared_X5_isTune
set_option maxRecDepth 20000 in
theorem ggX5_shared_X5_holds : GoodIn wsX5_shared wsX5_holds := goodIn_r _ [13, 14, 25, 26, 27, 28, 29, 30, 31, 32, 33, 34, 35, 36, 37] (by decide +kernel) (by decide +kernel)
set_option maxRecDepth 20000 in
theorem gX5_shared_X5_holds : GoodIn wsX5_shared (wsV RX5 60 RX5 yX5_holds wsX5_holds) := goodIn_app (goodIn_of _ (by decide +kernel)) ggX5_shared_X5_holds
set_option maxRecDepth 20000 in
theorem ggX5_shared_X5_alike : GoodIn wsX5_shared wsX5_alike := goodIn_r _ [18, 19, 20, 21, 22, 4, 23, 24, 25, 26, 27, 28, 29, 30, 31, 32, 33, 34, 35, 36, 37] (by decide +kernel) (by decide +kernel)
set_option maxRecDepth 20000 in
theorem gX5_shared_X5_alike : GoodIn wsX5_shared (wsV RX5 77 RX5 yX5_alike wsX5_alike) := goodIn_app (goodIn_of _ (by decide +kernel)) ggX5_shared_X5_alike
set_option maxRecDepth 20000 in
theorem ggX5_hum_X5_in : GoodIn wsX5_hum wsX5_in := goodIn_r _ [6] (by decide +kernel) (by decide +kernel)
set_option maxRecDepth 20000 in
theorem gX5_hum_X5_in : GoodIn wsX5_hum (va_wsS RX5 48 yX5_in wsX5_in) := goodIn_app (goodIn_of _ (by decide +kernel)) ggX5_hum_X5_in
set_option maxRecDepth 20000 in
theorem ggX5_hum_X5_holds : GoodIn wsX5_hum wsX5_holds := goodIn_r _ [10, 11, 12, 13, 14, 15, 16, 17, 18, 19, 20, 21, 22, 23, 24] (by decide +kernel) (by decide +kernel)
set_option maxRecDepth 20000 in
theorem gX5_hum_X5_holds : GoodIn wsX5_hum (wsV RX5 60 RX5 yX5_holds wsX5_holds) := goodIn_app (goodIn_of _ (by decide +kernel)) ggX5_hum_X5_holds
set_option maxRecDepth 20000 in
theorem ggX5_setCosts_X5_in : GoodIn wsX5_setCosts wsX5_in := goodIn_r _ [7] (by decide +kernel) (by decide +kernel)
set_option maxRecDepth 20000 in
theorem gX5_setCosts_X5_in : GoodIn wsX5_setCosts (va_wsS RX5 48 yX5_in wsX5_in) := goodIn_app (goodIn_of _ (by decide +kernel)) ggX5_setCosts_X5_in
set_option maxRecDepth 20000 in
theorem ggX5_setCosts_X5_holds : GoodIn wsX5_setCosts wsX5_holds := goodIn_r _ [11, 12, 13, 14, 15, 16, 17, 18, 19, 20, 21, 22, 23, 24, 25] (by decide +kernel) (by decide +kernel)
set_option maxRecDepth 20000 in
theorem gX5_setCosts_X5_holds : GoodIn wsX5_setCosts (wsV RX5 60 RX5 yX5_holds wsX5_holds) := goodIn_app (goodIn_of _ (by decide +kernel)) ggX5_setCosts_X5_holds
set_option maxRecDepth 20000 in
theorem ggX5_laid_X5_costOfNotes : GoodIn wsX5_laid wsX5_costOfNotes := goodIn_r _ [10, 11, 12, 18, 19, 20, 21, 22, 23, 24, 25, 26, 27, 28, 29, 30] (by decide +kernel) (by decide +kernel)
set_option maxRecDepth 20000 in
theorem gX5_laid_X5_costOfNotes : GoodIn wsX5_laid (wsV RX5 85 RX5 yX5_costOfNotes wsX5_costOfNotes) := goodIn_app (goodIn_of _ (by decide +kernel)) ggX5_laid_X5_costOfNotes
set_option maxRecDepth 20000 in
theorem ggX5_laid_X5_costOfPitches : GoodIn wsX5_laid wsX5_costOfPitches := goodIn_r _ [16, 4, 17, 18, 19, 20, 21, 22, 23, 24, 25, 26, 27, 28, 29, 30] (by decide +kernel) (by decide +kernel)
set_option maxRecDepth 20000 in
theorem gX5_laid_X5_costOfPitches : GoodIn wsX5_laid (wsV RX5 89 RX5 yX5_costOfPitches wsX5_costOfPitches) := goodIn_app (goodIn_of _ (by decide +kernel)) ggX5_laid_X5_costOfPitches
set_option maxRecDepth 20000 in
theorem ggX5_costOf_X5_laid : GoodIn wsX5_costOf wsX5_laid := goodIn_r _ [9, 3, 1, 10, 11, 12, 13, 14, 15, 8, 16, 17, 18, 19, 20, 21, 22, 23, 27, 28, 29, 30, 31, 32, 33, 34, 35, 36, 37, 38, 39] (by decide +kernel) (by decide +kernel)
set_option maxRecDepth 20000 in
theorem gX5_costOf_X5_laid : GoodIn wsX5_costOf (wsV RX5 92 RX5 yX5_laid wsX5_laid) := goodIn_app (goodIn_of _ (by decide +kernel)) ggX5_costOf_X5_laid
set_option maxRecDepth 20000 in
theorem ggX5_costOf_X5_least : GoodIn wsX5_costOf wsX5_least := goodIn_r _ [26] (by decide +kernel) (by decide +kernel)
set_option maxRecDepth 20000 in
theorem gX5_costOf_X5_least : GoodIn wsX5_costOf (va_wsS RX5 96 yX5_least wsX5_least) := goodIn_app (goodIn_of _ (by decide +kernel)) ggX5_costOf_X5_least
set_option maxRecDepth 20000 in
theorem ggX5_cost_X5_isKnown : GoodIn wsX5_cost wsX5_isKnown := goodIn_r _ [5, 6, 7, 8, 9, 4, 10, 11, 12, 13, 14, 49, 50, 51, 52, 53, 54, 55, 56, 57, 58, 59, 60, 61] (by decide +kernel) (by decide +kernel)
set_option maxRecDepth 20000 in
theorem gX5_cost_X5_isKnown : GoodIn wsX5_cost (wsV RX5 67 RX5 yX5_isKnown wsX5_isKnown) := goodIn_app (goodIn_of _ (by decide +kernel)) ggX5_cost_X5_isKnown
set_option maxRecDepth 20000 in
theorem ggX5_cost_X5_holds : GoodIn wsX5_cost wsX5_holds := goodIn_r _ [18, 19, 49, 50, 51, 52, 53, 54, 55, 56, 57, 58, 59, 60, 61] (by decide +kernel) (by decide +kernel)
set_option maxRecDepth 20000 in
theorem gX5_cost_X5_holds : GoodIn wsX5_cost (wsV RX5 60 RX5 yX5_holds wsX5_holds) := goodIn_app (goodIn_of _ (by decide +kernel)) ggX5_cost_X5_holds
set_option maxRecDepth 20000 in
theorem ggX5_cost_X5_costOf : GoodIn wsX5_cost wsX5_costOf := goodIn_r _ [23, 24, 25, 26, 27, 28, 29, 30, 4, 31, 32, 33, 34, 35, 36, 37, 38, 39, 40, 41, 42, 43, 44, 45, 46, 47, 48, 49, 50, 51, 52, 53, 54, 55, 56, 57, 58, 59, 60, 61] (by decide +kernel) (by decide +kernel)
set_option maxRecDepth 20000 in
theorem gX5_cost_X5_costOf : GoodIn wsX5_cost (wsV RX5 99 RX5 yX5_costOf wsX5_costOf) := goodIn_app (goodIn_of _ (by decide +kernel)) ggX5_cost_X5_costOf
set_option maxRecDepth 20000 in
theorem ggX5_costByAll_X5_isKnown : GoodIn wsX5_costByAll wsX5_isKnown := goodIn_r _ [6, 7, 8, 9, 10, 5, 11, 12, 13, 14, 15, 49, 50, 51, 52, 53, 54, 55, 56, 57, 58, 59, 60, 61] (by decide +kernel) (by decide +kernel)
set_option maxRecDepth 20000 in
theorem gX5_costByAll_X5_isKnown : GoodIn wsX5_costByAll (wsV RX5 67 RX5 yX5_isKnown wsX5_isKnown) := goodIn_app (goodIn_of _ (by decide +kernel)) ggX5_costByAll_X5_isKnown
set_option maxRecDepth 20000 in
theorem ggX5_costByAll_X5_holds : GoodIn wsX5_costByAll wsX5_holds := goodIn_r _ [19, 20, 49, 50, 51, 52, 53, 54, 55, 56, 57, 58, 59, 60, 61] (by decide +kernel) (by decide +kernel)
set_option maxRecDepth 20000 in
theorem gX5_costByAll_X5_holds : GoodIn wsX5_costByAll (wsV RX5 60 RX5 yX5_holds wsX5_holds) := goodIn_app (goodIn_of _ (by decide +kernel)) ggX5_costByAll_X5_holds
set_option maxRecDepth 20000 in
theorem ggX5_costByAll_X5_costOf : GoodIn wsX5_costByAll wsX5_costOf := goodIn_r _ [24, 25, 1, 26, 27, 28, 29, 30, 5, 31, 32, 33, 34, 35, 36, 37, 38, 39, 40, 41, 42, 43, 44, 45, 46, 47, 48, 49, 50, 51, 52, 53, 54, 55, 56, 57, 58, 59, 60, 61] (by decide +kernel) (by decide +kernel)
set_option maxRecDepth 20000 in
theorem gX5_costByAll_X5_costOf : GoodIn wsX5_costByAll (wsV RX5 99 RX5 yX5_costOf wsX5_costOf) := goodIn_app (goodIn_of _ (by decide +kernel)) ggX5_costByAll_X5_costOf
set_option maxRecDepth 20000 in
theorem ggX5_many_X5_isKnown : GoodIn wsX5_many wsX5_isKnown := goodIn_r _ [6, 7, 8, 9, 10, 5, 11, 1, 12, 13, 14, 44, 45, 46, 47, 48, 49, 50, 51, 52, 53, 54, 55, 56] (by decide +kernel) (by decide +kernel)
set_option maxRecDepth 20000 in
theorem gX5_many_X5_isKnown : GoodIn wsX5_many (wsV RX5 67 RX5 yX5_isKnown wsX5_isKnown) := goodIn_app (goodIn_of _ (by decide +kernel)) ggX5_many_X5_isKnown
set_option maxRecDepth 20000 in
theorem ggX5_many_X5_costOf : GoodIn wsX5_many wsX5_costOf := goodIn_r _ [18, 19, 20, 21, 22, 23, 24, 25, 5, 26, 27, 28, 29, 30, 31, 32, 33, 34, 35, 36, 37, 38, 39, 40, 41, 42, 43, 44, 45, 46, 47, 48, 49, 50, 51, 52, 53, 54, 55, 56] (by decide +kernel) (by decide +kernel)
set_option maxRecDepth 20000 in
theorem gX5_many_X5_costOf : GoodIn wsX5_many (wsV RX5 99 RX5 yX5_costOf wsX5_costOf) := goodIn_app (goodIn_of _ (by decide +kernel)) ggX5_many_X5_costOf
set_option maxRecDepth 20000 in
theorem ggX5_matches_X5_many : GoodIn wsX5_matches wsX5_many := goodIn_r _ [6, 7, 8, 9, 10, 5, 11, 12, 13, 14, 15, 16, 17, 18, 19, 20, 21, 22, 23, 24, 25, 26, 27, 28, 29, 30, 31, 32, 33, 34, 35, 36, 37, 38, 39, 40, 41, 42, 43, 44, 45, 46, 47, 48, 49, 50, 51, 52, 53, 54, 55, 56, 57, 58, 59, 60, 61] (by decide +kernel) (by decide +kernel)
set_option maxRecDepth 20000 in
theorem gX5_matches_X5_many : GoodIn wsX5_matches (wsV RX5 103 RX5 yX5_many wsX5_many) := goodIn_app (goodIn_of _ (by decide +kernel)) ggX5_matches_X5_many
set_option maxRecDepth 20000 in
theorem ggX5_rank_X5_costOf : GoodIn wsX5_rank wsX5_costOf := goodIn_r _ [6, 7, 8, 9, 10, 11, 12, 13, 5, 14, 15, 16, 17, 18, 19, 20, 21, 22, 23, 24, 25, 26, 27, 28, 29, 30, 31, 44, 45, 46, 47, 48, 49, 50, 51, 52, 53, 54, 55, 56] (by decide +kernel) (by decide +kernel)
set_option maxRecDepth 20000 in
theorem gX5_rank_X5_costOf : GoodIn wsX5_rank (wsV RX5 99 RX5 yX5_costOf wsX5_costOf) := goodIn_app (goodIn_of _ (by decide +kernel)) ggX5_rank_X5_costOf
set_option maxRecDepth 20000 in
theorem ggX5_rank_X5_isKnown : GoodIn wsX5_rank wsX5_isKnown := goodIn_r _ [35, 36, 37, 38, 39, 5, 40, 1, 41, 42, 43, 44, 45, 46, 47, 48, 49, 50, 51, 52, 53, 54, 55, 56] (by decide +kernel) (by decide +kernel)
set_option maxRecDepth 20000 in
theorem gX5_rank_X5_isKnown : GoodIn wsX5_rank (wsV RX5 67 RX5 yX5_isKnown wsX5_isKnown) := goodIn_app (goodIn_of _ (by decide +kernel)) ggX5_rank_X5_isKnown
set_option maxRecDepth 20000 in
theorem ggX5_found_X5_many : GoodIn wsX5_found wsX5_many := goodIn_r _ [5, 6, 7, 8, 9, 4, 10, 11, 12, 13, 14, 15, 16, 17, 18, 19, 20, 21, 22, 23, 24, 25, 26, 27, 28, 29, 30, 31, 32, 33, 34, 35, 36, 37, 38, 39, 40, 41, 42, 43, 44, 45, 46, 47, 57, 58, 59, 60, 61, 62, 63, 64, 65, 66, 67, 68, 69] (by decide +kernel) (by decide +kernel)
set_option maxRecDepth 20000 in
theorem gX5_found_X5_many : GoodIn wsX5_found (wsV RX5 103 RX5 yX5_many wsX5_many) := goodIn_app (goodIn_of _ (by decide +kernel)) ggX5_found_X5_many
set_option maxRecDepth 20000 in
theorem ggX5_found_X5_in : GoodIn wsX5_found wsX5_in := goodIn_r _ [18] (by decide +kernel) (by decide +kernel)
set_option maxRecDepth 20000 in
theorem gX5_found_X5_in : GoodIn wsX5_found (va_wsS RX5 48 yX5_in wsX5_in) := goodIn_app (goodIn_of _ (by decide +kernel)) ggX5_found_X5_in
set_option maxRecDepth 20000 in
theorem ggX5_found_X5_holds : GoodIn wsX5_found wsX5_holds := goodIn_r _ [51, 52, 57, 58, 59, 60, 61, 62, 63, 64, 65, 66, 67, 68, 69] (by decide +kernel) (by decide +kernel)
set_option maxRecDepth 20000 in
theorem gX5_found_X5_holds : GoodIn wsX5_found (wsV RX5 60 RX5 yX5_holds wsX5_holds) := goodIn_app (goodIn_of _ (by decide +kernel)) ggX5_found_X5_holds
set_option maxRecDepth 20000 in
theorem ggX5_found_X5_isKnown : GoodIn wsX5_found wsX5_isKnown := goodIn_r _ [10, 11, 12, 13, 14, 4, 15, 6, 16, 17, 18, 57, 58, 59, 60, 61, 62, 63, 64, 65, 66, 67, 68, 69] (by decide +kernel) (by decide +kernel)
set_option maxRecDepth 20000 in
theorem gX5_found_X5_isKnown : GoodIn wsX5_found (wsV RX5 67 RX5 yX5_isKnown wsX5_isKnown) := goodIn_app (goodIn_of _ (by decide +kernel)) ggX5_found_X5_isKnown
set_option maxRecDepth 20000 in
theorem ggX5_found_X5_costOf : GoodIn wsX5_found wsX5_costOf := goodIn_r _ [22, 23, 24, 25, 26, 27, 28, 29, 4, 30, 31, 32, 33, 34, 35, 36, 37, 38, 39, 40, 41, 42, 43, 44, 45, 46, 47, 57, 58, 59, 60, 61, 62, 63, 64, 65, 66, 67, 68, 69] (by decide +kernel) (by decide +kernel)
set_option maxRecDepth 20000 in
theorem gX5_found_X5_costOf : GoodIn wsX5_found (wsV RX5 99 RX5 yX5_costOf wsX5_costOf) := goodIn_app (goodIn_of _ (by decide +kernel)) ggX5_found_X5_costOf
set_option maxRecDepth 20000 in
theorem ggX5_found_X5_rank : GoodIn wsX5_found wsX5_rank := goodIn_r _ [56, 6, 19, 20, 21, 4, 22, 23, 24, 25, 26, 27, 28, 29, 30, 31, 32, 33, 34, 35, 36, 37, 38, 39, 40, 41, 42, 43, 44, 45, 46, 47, 7, 8, 9, 10, 11, 12, 13, 14, 15, 16, 17, 18, 57, 58, 59, 60, 61, 62, 63, 64, 65, 66, 67, 68, 69] (by decide +kernel) (by decide +kernel)
set_option maxRecDepth 20000 in
theorem gX5_found_X5_rank : GoodIn wsX5_found (wsV RX5 107 RX5 yX5_rank wsX5_rank) := goodIn_app (goodIn_of _ (by decide +kernel)) ggX5_found_X5_rank
set_option maxRecDepth 20000 in
theorem ggX5_isLike_X5_stepOf : GoodIn wsX5_isLike wsX5_stepOf := goodIn_r _ [8, 9, 13, 14, 15, 16, 17, 18, 19, 20, 21, 22, 23, 24, 25] (by decide +kernel) (by decide +kernel)
set_option maxRecDepth 20000 in
theorem gX5_isLike_X5_stepOf : GoodIn wsX5_isLike (wsV RX5 73 RX5 yX5_stepOf wsX5_stepOf) := goodIn_app (goodIn_of _ (by decide +kernel)) ggX5_isLike_X5_stepOf
set_option maxRecDepth 20000 in
theorem ggX5_isLike_X5_sign : GoodIn wsX5_isLike wsX5_sign := goodIn_r _ [12] (by decide +kernel) (by decide +kernel)
set_option maxRecDepth 20000 in
theorem gX5_isLike_X5_sign : GoodIn wsX5_isLike (va_wsS RX5 110 yX5_sign wsX5_sign) := goodIn_app (goodIn_of _ (by decide +kernel)) ggX5_isLike_X5_sign
set_option maxRecDepth 20000 in
theorem ggX5_likeContour_X5_isKnown : GoodIn wsX5_likeContour wsX5_isKnown := goodIn_r _ [7, 8, 9, 10, 11, 6, 12, 2, 13, 14, 15, 31, 32, 33, 34, 35, 36, 37, 38, 39, 40, 41, 42, 43] (by decide +kernel) (by decide +kernel)
set_option maxRecDepth 20000 in
theorem gX5_likeContour_X5_isKnown : GoodIn wsX5_likeContour (wsV RX5 67 RX5 yX5_isKnown wsX5_isKnown) := goodIn_app (goodIn_of _ (by decide +kernel)) ggX5_likeContour_X5_isKnown
set_option maxRecDepth 20000 in
theorem ggX5_likeContour_X5_isLike : GoodIn wsX5_likeContour wsX5_isLike := goodIn_r _ [19, 20, 21, 22, 23, 24, 25, 6, 26, 27, 28, 29, 30, 31, 32, 33, 34, 35, 36, 37, 38, 39, 40, 41, 42, 43] (by decide +kernel) (by decide +kernel)
set_option maxRecDepth 20000 in
theorem gX5_likeContour_X5_isLike : GoodIn wsX5_likeContour (wsV RX5 113 RX5 yX5_isLike wsX5_isLike) := goodIn_app (goodIn_of _ (by decide +kernel)) ggX5_likeContour_X5_isLike
set_option maxRecDepth 20000 in
theorem ggX5_isRun_X5_stepOf : GoodIn wsX5_isRun wsX5_stepOf := goodIn_r _ [9, 10, 11, 12, 13, 14, 15, 16, 17, 18, 19, 20, 21, 22, 23] (by decide +kernel) (by decide +kernel)
set_option maxRecDepth 20000 in
theorem gX5_isRun_X5_stepOf : GoodIn wsX5_isRun (wsV RX5 73 RX5 yX5_stepOf wsX5_stepOf) := goodIn_app (goodIn_of _ (by decide +kernel)) ggX5_isRun_X5_stepOf
set_option maxRecDepth 20000 in
theorem ggX5_errorOfRun_X5_in : GoodIn wsX5_errorOfRun wsX5_in := goodIn_r _ [5] (by decide +kernel) (by decide +kernel)
set_option maxRecDepth 20000 in
theorem gX5_errorOfRun_X5_in : GoodIn wsX5_errorOfRun (va_wsS RX5 48 yX5_in wsX5_in) := goodIn_app (goodIn_of _ (by decide +kernel)) ggX5_errorOfRun_X5_in
set_option maxRecDepth 20000 in
theorem ggX5_placesOf_X5_isRun : GoodIn wsX5_placesOf wsX5_isRun := goodIn_r _ [7, 8, 2, 9, 10, 11, 12, 13, 6, 14, 15, 16, 17, 18, 19, 20, 21, 22, 23, 24, 25, 26, 27, 28] (by decide +kernel) (by decide +kernel)
set_option maxRecDepth 20000 in
theorem gX5_placesOf_X5_isRun : GoodIn wsX5_placesOf (wsV RX5 116 RX5 yX5_isRun wsX5_isRun) := goodIn_app (goodIn_of _ (by decide +kernel)) ggX5_placesOf_X5_isRun
set_option maxRecDepth 20000 in
theorem ggX5_places_X5_errorOfRun : GoodIn wsX5_places wsX5_errorOfRun := goodIn_r _ [5, 6, 7, 8, 4, 9, 32, 33, 34, 35, 36, 37, 38, 39, 40, 41, 42, 43, 44] (by decide +kernel) (by decide +kernel)
set_option maxRecDepth 20000 in
theorem gX5_places_X5_errorOfRun : GoodIn wsX5_places (wsV RX5 119 RX5 yX5_errorOfRun wsX5_errorOfRun) := goodIn_app (goodIn_of _ (by decide +kernel)) ggX5_places_X5_errorOfRun
set_option maxRecDepth 20000 in
theorem ggX5_places_X5_holds : GoodIn wsX5_places wsX5_holds := goodIn_r _ [13, 14, 32, 33, 34, 35, 36, 37, 38, 39, 40, 41, 42, 43, 44] (by decide +kernel) (by decide +kernel)
set_option maxRecDepth 20000 in
theorem gX5_places_X5_holds : GoodIn wsX5_places (wsV RX5 60 RX5 yX5_holds wsX5_holds) := goodIn_app (goodIn_of _ (by decide +kernel)) ggX5_places_X5_holds
set_option maxRecDepth 20000 in
theorem ggX5_places_X5_placesOf : GoodIn wsX5_places wsX5_placesOf := goodIn_r _ [18, 19, 20, 21, 22, 23, 4, 24, 6, 25, 26, 27, 28, 29, 30, 31, 32, 33, 34, 35, 36, 37, 38, 39, 40, 41, 42, 43, 44] (by decide +kernel) (by decide +kernel)
set_option maxRecDepth 20000 in
theorem gX5_places_X5_placesOf : GoodIn wsX5_places (wsV RX5 122 RX5 yX5_placesOf wsX5_placesOf) := goodIn_app (goodIn_of _ (by decide +kernel)) ggX5_places_X5_placesOf
set_option maxRecDepth 20000 in
theorem ggX5_place_X5_errorOfRun : GoodIn wsX5_place wsX5_errorOfRun := goodIn_r _ [6, 7, 8, 9, 5, 10, 32, 33, 34, 35, 36, 37, 38, 39, 40, 41, 42, 43, 44] (by decide +kernel) (by decide +kernel)
set_option maxRecDepth 20000 in
theorem gX5_place_X5_errorOfRun : GoodIn wsX5_place (wsV RX5 119 RX5 yX5_errorOfRun wsX5_errorOfRun) := goodIn_app (goodIn_of _ (by decide +kernel)) ggX5_place_X5_errorOfRun
set_option maxRecDepth 20000 in
theorem ggX5_place_X5_placesOf : GoodIn wsX5_place wsX5_placesOf := goodIn_r _ [14, 15, 1, 16, 17, 18, 5, 19, 7, 20, 21, 22, 23, 24, 25, 26, 32, 33, 34, 35, 36, 37, 38, 39, 40, 41, 42, 43, 44] (by decide +kernel) (by decide +kernel)
set_option maxRecDepth 20000 in
theorem gX5_place_X5_placesOf : GoodIn wsX5_place (wsV RX5 122 RX5 yX5_placesOf wsX5_placesOf) := goodIn_app (goodIn_of _ (by decide +kernel)) ggX5_place_X5_placesOf
set_option maxRecDepth 20000 in
theorem ggX5_place_X5_in : GoodIn wsX5_place wsX5_in := goodIn_r _ [10] (by decide +kernel) (by decide +kernel)
set_option maxRecDepth 20000 in
theorem gX5_place_X5_in : GoodIn wsX5_place (va_wsS RX5 48 yX5_in wsX5_in) := goodIn_app (goodIn_of _ (by decide +kernel)) ggX5_place_X5_in
set_option maxRecDepth 20000 in
theorem ggX5_place_X5_holds : GoodIn wsX5_place wsX5_holds := goodIn_r _ [30, 31, 32, 33, 34, 35, 36, 37, 38, 39, 40, 41, 42, 43, 44] (by decide +kernel) (by decide +kernel)
set_option maxRecDepth 20000 in
theorem gX5_place_X5_holds : GoodIn wsX5_place (wsV RX5 60 RX5 yX5_holds wsX5_holds) := goodIn_app (goodIn_of _ (by decide +kernel)) ggX5_place_X5_holds
set_option maxRecDepth 20000 in
theorem ggX5_place_X5_isRun : GoodIn wsX5_place wsX5_isRun := goodIn_r _ [19, 7, 1, 20, 21, 22, 23, 24, 5, 25, 26, 32, 33, 34, 35, 36, 37, 38, 39, 40, 41, 42, 43, 44] (by decide +kernel) (by decide +kernel)
set_option maxRecDepth 20000 in
theorem gX5_place_X5_isRun : GoodIn wsX5_place (wsV RX5 116 RX5 yX5_isRun wsX5_isRun) := goodIn_app (goodIn_of _ (by decide +kernel)) ggX5_place_X5_isRun
set_option maxRecDepth 20000 in
theorem ggX5_lowest_X5_familyOf : GoodIn wsX5_lowest wsX5_familyOf := goodIn_r _ [5, 6, 7, 8, 9, 10, 11, 12, 13, 14, 15, 16, 17, 18, 19, 20] (by decide +kernel) (by decide +kernel)
set_option maxRecDepth 20000 in
theorem gX5_lowest_X5_familyOf : GoodIn wsX5_lowest (wsV RX5 125 RX5 yX5_familyOf wsX5_familyOf) := goodIn_app (goodIn_of _ (by decide +kernel)) ggX5_lowest_X5_familyOf
set_option maxRecDepth 20000 in
theorem ggX5_familiesOf_X5_lowest : GoodIn wsX5_familiesOf wsX5_lowest := goodIn_r _ [6, 7, 8, 9, 5, 10, 1, 11, 12, 13, 14, 15, 16, 17, 18, 19, 20, 21, 22, 23, 24] (by decide +kernel) (by decide +kernel)
set_option maxRecDepth 20000 in
theorem gX5_familiesOf_X5_lowest : GoodIn wsX5_familiesOf (wsV RX5 128 RX5 yX5_lowest wsX5_lowest) := goodIn_app (goodIn_of _ (by decide +kernel)) ggX5_familiesOf_X5_lowest
set_option maxRecDepth 20000 in
theorem ggX5_link_X5_isTune : GoodIn wsX5_link wsX5_isTune := goodIn_r _ [6, 7, 8, 9, 5, 10, 32, 33, 34, 35, 36, 37, 38, 39, 40, 41, 42, 43, 44] (by decide +kernel) (by decide +kernel)
set_option maxRecDepth 20000 in
theorem gX5_link_X5_isTune : GoodIn wsX5_link (wsV RX5 52 RX5 yX5_isTune wsX5_isTune) := goodIn_app (goodIn_of _ (by decide +kernel)) ggX5_link_X5_isTune
set_option maxRecDepth 20000 in
theorem ggX5_link_X5_areLinked : GoodIn wsX5_link wsX5_areLinked := goodIn_r _ [14, 1, 32, 33, 34, 35, 36, 37, 38, 39, 40, 41, 42, 43, 44] (by decide +kernel) (by decide +kernel)
set_option maxRecDepth 20000 in
theorem gX5_link_X5_areLinked : GoodIn wsX5_link (wsV RX5 131 RX5 yX5_areLinked wsX5_areLinked) := goodIn_app (goodIn_of _ (by decide +kernel)) ggX5_link_X5_areLinked
set_option maxRecDepth 20000 in
theorem ggX5_link_X5_holds : GoodIn wsX5_link wsX5_holds := goodIn_r _ [18, 19, 32, 33, 34, 35, 36, 37, 38, 39, 40, 41, 42, 43, 44] (by decide +kernel) (by decide +kernel)
set_option maxRecDepth 20000 in
theorem gX5_link_X5_holds : GoodIn wsX5_link (wsV RX5 60 RX5 yX5_holds wsX5_holds) := goodIn_app (goodIn_of _ (by decide +kernel)) ggX5_link_X5_holds
set_option maxRecDepth 20000 in
theorem ggX5_link_X5_familiesOf : GoodIn wsX5_link wsX5_familiesOf := goodIn_r _ [23, 7, 24, 25, 26, 5, 27, 28, 29, 30, 31, 1, 32, 33, 34, 35, 36, 37, 38, 39, 40, 41, 42, 43, 44] (by decide +kernel) (by decide +kernel)
set_option maxRecDepth 20000 in
theorem gX5_link_X5_familiesOf : GoodIn wsX5_link (wsV RX5 134 RX5 yX5_familiesOf wsX5_familiesOf) := goodIn_app (goodIn_of _ (by decide +kernel)) ggX5_link_X5_familiesOf
set_option maxRecDepth 20000 in
theorem ggX5_cut_X5_isTune : GoodIn wsX5_cut wsX5_isTune := goodIn_r _ [6, 7, 8, 9, 5, 10, 32, 33, 34, 35, 36, 37, 38, 39, 40, 41, 42, 43, 44] (by decide +kernel) (by decide +kernel)
set_option maxRecDepth 20000 in
theorem gX5_cut_X5_isTune : GoodIn wsX5_cut (wsV RX5 52 RX5 yX5_isTune wsX5_isTune) := goodIn_app (goodIn_of _ (by decide +kernel)) ggX5_cut_X5_isTune
set_option maxRecDepth 20000 in
theorem ggX5_cut_X5_areLinked : GoodIn wsX5_cut wsX5_areLinked := goodIn_r _ [14, 1, 32, 33, 34, 35, 36, 37, 38, 39, 40, 41, 42, 43, 44] (by decide +kernel) (by decide +kernel)
set_option maxRecDepth 20000 in
theorem gX5_cut_X5_areLinked : GoodIn wsX5_cut (wsV RX5 131 RX5 yX5_areLinked wsX5_areLinked) := goodIn_app (goodIn_of _ (by decide +kernel)) ggX5_cut_X5_areLinked
set_option maxRecDepth 20000 in
theorem ggX5_cut_X5_holds : GoodIn wsX5_cut wsX5_holds := goodIn_r _ [18, 19, 32, 33, 34, 35, 36, 37, 38, 39, 40, 41, 42, 43, 44] (by decide +kernel) (by decide +kernel)
set_option maxRecDepth 20000 in
theorem gX5_cut_X5_holds : GoodIn wsX5_cut (wsV RX5 60 RX5 yX5_holds wsX5_holds) := goodIn_app (goodIn_of _ (by decide +kernel)) ggX5_cut_X5_holds
set_option maxRecDepth 20000 in
theorem ggX5_cut_X5_familiesOf : GoodIn wsX5_cut wsX5_familiesOf := goodIn_r _ [23, 7, 24, 25, 26, 5, 27, 28, 29, 30, 31, 1, 32, 33, 34, 35, 36, 37, 38, 39, 40, 41, 42, 43, 44] (by decide +kernel) (by decide +kernel)
set_option maxRecDepth 20000 in
theorem gX5_cut_X5_familiesOf : GoodIn wsX5_cut (wsV RX5 134 RX5 yX5_familiesOf wsX5_familiesOf) := goodIn_app (goodIn_of _ (by decide +kernel)) ggX5_cut_X5_familiesOf
set_option maxRecDepth 20000 in
theorem ggX5_family_X5_isTune : GoodIn wsX5_family wsX5_isTune := goodIn_r _ [5, 6, 7, 8, 4, 9, 24, 25, 26, 27, 28, 29, 30, 31, 32, 33, 34, 35, 36] (by decide +kernel) (by decide +kernel)
set_option maxRecDepth 20000 in
theorem gX5_family_X5_isTune : GoodIn wsX5_family (wsV RX5 52 RX5 yX5_isTune wsX5_isTune) := goodIn_app (goodIn_of _ (by decide +kernel)) ggX5_family_X5_isTune
set_option maxRecDepth 20000 in
theorem ggX5_family_X5_holds : GoodIn wsX5_family wsX5_holds := goodIn_r _ [13, 14, 24, 25, 26, 27, 28, 29, 30, 31, 32, 33, 34, 35, 36] (by decide +kernel) (by decide +kernel)
set_option maxRecDepth 20000 in
theorem gX5_family_X5_holds : GoodIn wsX5_family (wsV RX5 60 RX5 yX5_holds wsX5_holds) := goodIn_app (goodIn_of _ (by decide +kernel)) ggX5_family_X5_holds
set_option maxRecDepth 20000 in
theorem ggX5_family_X5_lowest : GoodIn wsX5_family wsX5_lowest := goodIn_r _ [18, 19, 20, 21, 4, 22, 6, 23, 24, 25, 26, 27, 28, 29, 30, 31, 32, 33, 34, 35, 36] (by decide +kernel) (by decide +kernel)
set_option maxRecDepth 20000 in
theorem gX5_family_X5_lowest : GoodIn wsX5_family (wsV RX5 128 RX5 yX5_lowest wsX5_lowest) := goodIn_app (goodIn_of _ (by decide +kernel)) ggX5_family_X5_lowest
set_option maxRecDepth 20000 in
theorem ggX5_families_X5_familiesOf : GoodIn wsX5_families wsX5_familiesOf := goodIn_r _ [6, 7, 8, 9, 10, 5, 11, 12, 13, 14, 15, 16, 17, 18, 19, 20, 21, 22, 23, 24, 25, 26, 27, 28, 29] (by decide +kernel) (by decide +kernel)
set_option maxRecDepth 20000 in
theorem gX5_families_X5_familiesOf : GoodIn wsX5_families (wsV RX5 134 RX5 yX5_familiesOf wsX5_familiesOf) := goodIn_app (goodIn_of _ (by decide +kernel)) ggX5_families_X5_familiesOf
