set_option maxRecDepth 20000 in
theorem ggL_add_X4_add : GoodIn wsL_add wsX4_add := goodIn_ca (goodIn_ca (goodIn_r _ [7, 8, 9, 10, 11, 12, 13, 14, 15, 16, 17, 6, 18, 19, 20, 21, 22, 23, 24, 25, 26, 27, 28, 29, 30, 31, 32, 33, 34, 35, 36, 37, 38, 39, 40, 41, 42, 43, 44, 45, 46, 47, 48, 49, 50, 51, 52, 53, 54, 55, 56, 57, 58, 59, 60, 61, 62, 63, 64, 65, 66, 67, 68, 69, 70, 71, 72, 73, 74, 75] (by decide +kernel) (by decide +kernel)) (goodIn_sub (fun _ h => List.mem_cons_of_mem _ (List.mem_append_left _ (List.mem_append_right _ h))) (by decide +kernel))) (goodIn_sub (fun _ h => List.mem_cons_of_mem _ (List.mem_append_right _ h)) (by decide +kernel))
set_option maxRecDepth 20000 in
theorem gL_add_X4_add : GoodIn wsL_add (wsV RL 7 RX4 yX4_add wsX4_add) := goodIn_app (goodIn_of _ (by decide +kernel)) ggL_add_X4_add
set_option maxRecDepth 20000 in
theorem ggL_note_X4_note : GoodIn wsL_note wsX4_note := goodIn_ca (goodIn_ca (goodIn_ca (goodIn_r _ [8, 9, 10, 11, 12, 13, 7, 14, 15, 16, 17, 18, 19, 20, 21, 22, 23, 24, 25, 26, 27, 28, 29, 30, 31, 32, 33, 34, 35, 36, 37, 38, 39, 40, 41, 42, 43, 44, 45, 46, 47, 48, 49, 50, 51, 52, 53, 54, 55, 56, 57, 58, 59, 60, 61, 62, 63, 64, 65, 66, 67, 68, 69, 70, 71, 72, 73, 74, 75] (by decide +kernel) (by decide +kernel)) (goodIn_sub (fun _ h => List.mem_cons_of_mem _ (List.mem_append_left _ (List.mem_append_left _ (List.mem_append_right _ h)))) (by decide +kernel))) (goodIn_sub (fun _ h => List.mem_cons_of_mem _ (List.mem_append_left _ (List.mem_append_right _ h))) (by decide +kernel))) (goodIn_sub (fun _ h => List.mem_cons_of_mem _ (List.mem_append_right _ h)) (by decide +kernel))
set_option maxRecDepth 20000 in
theorem gL_note_X4_note : GoodIn wsL_note (wsV RL 17 RX4 yX4_note wsX4_note) := goodIn_app (goodIn_of _ (by decide +kernel)) ggL_note_X4_note
set_option maxRecDepth 20000 in
theorem ggL_correct_X4_correct : GoodIn wsL_correct wsX4_correct := goodIn_ca (goodIn_ca (goodIn_r _ [7, 8, 9, 10, 11, 12, 6, 13, 14, 15, 16, 17, 18, 19, 20, 21, 22, 23, 24, 25, 26, 27, 28, 29, 30, 31, 32, 33, 34, 35, 36, 37, 38, 39, 40, 41, 42, 43, 44, 45, 46, 47, 48, 49, 50, 51, 52, 53, 54, 55, 56, 57, 58, 59, 60, 61, 62, 63, 64, 65, 66, 67] (by decide +kernel) (by decide +kernel)) (goodIn_sub (fun _ h => List.mem_cons_of_mem _ (List.mem_append_left _ (List.mem_append_right _ h))) (by decide +kernel))) (goodIn_sub (fun _ h => List.mem_cons_of_mem _ (List.mem_append_right _ h)) (by decide +kernel))
set_option maxRecDepth 20000 in
theorem gL_correct_X4_correct : GoodIn wsL_correct (wsV RL 23 RX4 yX4_correct wsX4_correct) := goodIn_app (goodIn_of _ (by decide +kernel)) ggL_correct_X4_correct
set_option maxRecDepth 20000 in
theorem ggL_shift_X4_shift : GoodIn wsL_shift wsX4_shift := goodIn_ca (goodIn_ca (goodIn_ca (goodIn_r _ [8, 9, 10, 11, 12, 13, 7, 14, 15, 16, 17, 18, 19, 20, 21, 22, 23, 24, 25, 26, 27, 28, 29, 30, 31, 32, 33, 34, 35, 36, 37, 38, 39, 40, 41, 42, 43, 44, 45, 46, 47, 48, 49, 50, 51, 52, 53, 54, 55, 56, 57, 58, 59, 60, 61, 62, 63, 64, 65, 66, 67] (by decide +kernel) (by decide +kernel)) (goodIn_sub (fun _ h => List.mem_cons_of_mem _ (List.mem_append_left _ (List.mem_append_left _ (List.mem_append_right _ h)))) (by decide +kernel))) (goodIn_sub (fun _ h => List.mem_cons_of_mem _ (List.mem_append_left _ (List.mem_append_right _ h))) (by decide +kernel))) (goodIn_sub (fun _ h => List.mem_cons_of_mem _ (List.mem_append_right _ h)) (by decide +kernel))
set_option maxRecDepth 20000 in
theorem gL_shift_X4_shift : GoodIn wsL_shift (wsV RL 27 RX4 yX4_shift wsX4_shift) := goodIn_app (goodIn_of _ (by decide +kernel)) ggL_shift_X4_shift
set_option maxRecDepth 20000 in
theorem ggL_retire_X4_retire : GoodIn wsL_retire wsX4_retire := goodIn_ca (goodIn_r _ [6, 7, 8, 9, 10, 5, 11, 12, 13, 14, 15, 16, 17, 18, 19, 20, 21, 22, 23, 24, 25, 26, 27, 28, 29, 30, 31, 32] (by decide +kernel) (by decide +kernel)) (goodIn_sub (fun _ h => List.mem_cons_of_mem _ (List.mem_append_right _ h)) (by decide +kernel))
set_option maxRecDepth 20000 in
theorem gL_retire_X4_retire : GoodIn wsL_retire (wsV RL 31 RX4 yX4_retire wsX4_retire) := goodIn_app (goodIn_of _ (by decide +kernel)) ggL_retire_X4_retire
set_option maxRecDepth 20000 in
theorem ggL_notes_X4_notes : GoodIn wsL_notes wsX4_notes := goodIn_ca (goodIn_r _ [6, 7, 8, 9, 5, 10, 11, 12, 13, 14, 15, 16, 17, 18, 19, 20, 21, 22, 23, 24, 25, 26, 27, 28, 29, 30, 31, 32, 33, 34, 35, 36, 37, 38, 39, 40, 41, 42] (by decide +kernel) (by decide +kernel)) (goodIn_sub (fun _ h => List.mem_cons_of_mem _ (List.mem_append_right _ h)) (by decide +kernel))
set_option maxRecDepth 20000 in
theorem gL_notes_X4_notes : GoodIn wsL_notes (wsV RL 35 RX4 yX4_notes wsX4_notes) := goodIn_app (goodIn_of _ (by decide +kernel)) ggL_notes_X4_notes
set_option maxRecDepth 20000 in
theorem ggL_step_X4_step : GoodIn wsL_step wsX4_step := goodIn_ca (goodIn_r _ [6, 7, 8, 9, 10, 11, 5, 12, 13, 14, 15, 16, 17, 18, 19, 20, 21, 22, 23, 24, 25, 26, 27, 28, 29, 30, 31, 32, 33, 34, 35, 36, 37, 38, 39, 40, 41, 42, 43, 44, 45, 46, 47, 48, 49, 50, 51] (by decide +kernel) (by decide +kernel)) (goodIn_sub (fun _ h => List.mem_cons_of_mem _ (List.mem_append_right _ h)) (by decide +kernel))
set_option maxRecDepth 20000 in
theorem gL_step_X4_step : GoodIn wsL_step (wsV RL 38 RX4 yX4_step wsX4_step) := goodIn_app (goodIn_of _ (by decide +kernel)) ggL_step_X4_step
set_option maxRecDepth 20000 in
theorem ggL_shared_X4_shared : GoodIn wsL_shared wsX4_shared := goodIn_ca (goodIn_r _ [6, 7, 8, 9, 10, 11, 12, 13, 5, 14, 15, 16, 17, 18, 19, 20, 21, 22, 23, 24, 25, 26, 27, 28, 29, 30, 31, 32, 33, 34, 35, 36, 37, 38, 39, 40, 41, 42, 43, 44, 45, 46, 47, 48, 49, 50, 51, 52, 53, 54, 55, 56] (by decide +kernel) (by decide +kernel)) (goodIn_sub (fun _ h => List.mem_cons_of_mem _ (List.mem_append_right _ h)) (by decide +kernel))
set_option maxRecDepth 20000 in
theorem gL_shared_X4_shared : GoodIn wsL_shared (wsV RL 41 RX4 yX4_shared wsX4_shared) := goodIn_app (goodIn_of _ (by decide +kernel)) ggL_shared_X4_shared
set_option maxRecDepth 20000 in
theorem ggL_hum_X4_hum : GoodIn wsL_hum wsX4_hum := goodIn_ca (goodIn_ca (goodIn_r _ [7, 8, 9, 10, 11, 12, 6, 13, 14, 15, 16, 17, 18, 19, 20, 21, 22, 23, 24, 25, 26, 27, 28, 29, 30, 31, 32, 33, 34, 35, 36, 37, 38, 39, 40, 41, 42] (by decide +kernel) (by decide +kernel)) (goodIn_sub (fun _ h => List.mem_cons_of_mem _ (List.mem_append_left _ (List.mem_append_right _ h))) (by decide +kernel))) (goodIn_sub (fun _ h => List.mem_cons_of_mem _ (List.mem_append_right _ h)) (by decide +kernel))
set_option maxRecDepth 20000 in
theorem gL_hum_X4_hum : GoodIn wsL_hum (wsV RL 44 RX4 yX4_hum wsX4_hum) := goodIn_app (goodIn_of _ (by decide +kernel)) ggL_hum_X4_hum
set_option maxRecDepth 20000 in
theorem ggL_setCosts_X4_setCosts : GoodIn wsL_setCosts wsX4_setCosts := goodIn_ca (goodIn_r _ [6, 7, 8, 9, 5, 10, 11, 12, 13, 14, 15, 16, 17, 18, 19, 20, 21, 22, 23, 24, 25, 26, 27] (by decide +kernel) (by decide +kernel)) (goodIn_sub (fun _ h => List.mem_cons_of_mem _ (List.mem_append_right _ h)) (by decide +kernel))
set_option maxRecDepth 20000 in
theorem gL_setCosts_X4_setCosts : GoodIn wsL_setCosts (wsV RL 47 RX4 yX4_setCosts wsX4_setCosts) := goodIn_app (goodIn_of _ (by decide +kernel)) ggL_setCosts_X4_setCosts
set_option maxRecDepth 20000 in
theorem ggL_cost_X4_cost : GoodIn wsL_cost wsX4_cost := goodIn_ca (goodIn_r _ [6, 7, 8, 9, 10, 5, 11, 12, 13, 14, 15, 16, 17, 18, 19, 20, 21, 22, 23, 24, 25, 26, 27, 28, 29, 30, 31, 32, 33, 34, 35, 36, 37, 38, 39, 40, 41, 42, 43, 44, 45, 46, 47, 48, 49, 50, 51, 52, 53, 54, 55, 56, 57, 58, 59, 60, 61, 62, 63, 64, 65, 66, 67, 68, 69, 70, 71, 72, 73, 74, 75, 76, 77, 78, 79, 80, 81, 82, 83, 84, 85, 86, 87, 88, 89, 90, 91, 92, 93, 94, 95, 96, 97, 98, 99, 100, 101, 102, 103] (by decide +kernel) (by decide +kernel)) (goodIn_sub (fun _ h => List.mem_cons_of_mem _ (List.mem_append_right _ h)) (by decide +kernel))
set_option maxRecDepth 20000 in
theorem gL_cost_X4_cost : GoodIn wsL_cost (wsV RL 51 RX4 yX4_cost wsX4_cost) := goodIn_app (goodIn_of _ (by decide +kernel)) ggL_cost_X4_cost
set_option maxRecDepth 20000 in
theorem ggL_costByAll_X4_costByAll : GoodIn wsL_costByAll wsX4_costByAll := goodIn_ca (goodIn_ca (goodIn_r _ [7, 8, 9, 10, 11, 12, 13, 14, 6, 15, 16, 17, 18, 19, 20, 21, 22, 23, 24, 25, 26, 27, 28, 29, 30, 31, 32, 33, 34, 35, 36, 37, 38, 39, 40, 41, 42, 43, 44, 45, 46, 47, 48, 49, 50, 51, 52, 53, 54, 55, 56, 57, 58, 59, 60, 61, 62, 63, 64, 65, 66, 67, 68, 69, 70, 71, 72, 73, 74, 75, 76, 77, 78, 79, 80, 81, 82, 83, 84, 85, 86, 87, 88, 89, 90, 91, 92, 93, 94, 95, 96, 97] (by decide +kernel) (by decide +kernel)) (goodIn_sub (fun _ h => List.mem_cons_of_mem _ (List.mem_append_left _ (List.mem_append_right _ h))) (by decide +kernel))) (goodIn_sub (fun _ h => List.mem_cons_of_mem _ (List.mem_append_right _ h)) (by decide +kernel))
set_option maxRecDepth 20000 in
theorem gL_costByAll_X4_costByAll : GoodIn wsL_costByAll (wsV RL 54 RX4 yX4_costByAll wsX4_costByAll) := goodIn_app (goodIn_of _ (by decide +kernel)) ggL_costByAll_X4_costByAll
set_option maxRecDepth 20000 in
theorem ggL_found_X4_found : GoodIn wsL_found wsX4_found := goodIn_ca (goodIn_r _ [6, 7, 8, 9, 10, 11, 12, 5, 13, 14, 15, 16, 17, 18, 19, 20, 21, 22, 23, 24, 25, 26, 27, 28, 29, 30, 31, 32, 33, 34, 35, 36, 37, 38, 39, 40, 41, 42, 43, 44, 45, 46, 47, 48, 49, 50, 51, 52, 53, 54, 55, 56, 57, 58, 59, 60, 61, 62, 63, 64, 65, 66, 67, 68, 69, 70, 71, 72, 73, 74, 75, 76, 77, 78, 79, 80, 81, 82, 83, 84, 85, 86, 87, 88, 89, 90, 91, 92, 93, 94, 95, 96, 97, 98, 99, 100, 101, 102, 103, 104, 105, 106, 107, 108, 109, 110, 111, 112, 113, 114, 115, 116, 117, 118] (by decide +kernel) (by decide +kernel)) (goodIn_sub (fun _ h => List.mem_cons_of_mem _ (List.mem_append_right _ h)) (by decide +kernel))
set_option maxRecDepth 20000 in
theorem gL_found_X4_found : GoodIn wsL_found (wsV RL 57 RX4 yX4_found wsX4_found) := goodIn_app (goodIn_of _ (by decide +kernel)) ggL_found_X4_found
set_option maxRecDepth 20000 in
theorem ggL_places_X4_places : GoodIn wsL_places wsX4_places := goodIn_ca (goodIn_ca (goodIn_r _ [7, 8, 9, 10, 11, 6, 12, 13, 14, 15, 16, 17, 18, 19, 20, 21, 22, 23, 24, 25, 26, 27, 28, 29, 30, 31, 32, 33, 34, 35, 36, 37, 38, 39, 40, 41, 42, 43, 44, 45, 46, 47, 48, 49, 50, 51, 52, 53, 54, 55, 56, 57, 58, 59, 60, 61, 62, 63, 64, 65, 66, 67, 68, 69, 70, 71, 72, 73, 74, 75, 76, 77, 78, 79, 80, 81, 82, 83, 84] (by decide +kernel) (by decide +kernel)) (goodIn_sub (fun _ h => List.mem_cons_of_mem _ (List.mem_append_left _ (List.mem_append_right _ h))) (by decide +kernel))) (goodIn_sub (fun _ h => List.mem_cons_of_mem _ (List.mem_append_right _ h)) (by decide +kernel))
set_option maxRecDepth 20000 in
theorem gL_places_X4_places : GoodIn wsL_places (wsV RL 60 RX4 yX4_places wsX4_places) := goodIn_app (goodIn_of _ (by decide +kernel)) ggL_places_X4_places
set_option maxRecDepth 20000 in
theorem ggL_place_X4_place : GoodIn wsL_place wsX4_place := goodIn_ca (goodIn_ca (goodIn_ca (goodIn_r _ [8, 9, 10, 11, 12, 13, 14, 7, 15, 16, 17, 18, 19, 20, 21, 22, 23, 24, 25, 26, 27, 28, 29, 30, 31, 32, 33, 34, 35, 36, 37, 38, 39, 40, 41, 42, 43, 44, 45, 46, 47, 48, 49, 50, 51, 52, 53, 54, 55, 56, 57, 58, 59, 60, 61, 62, 63, 64, 65, 66, 67, 68, 69, 70, 71, 72, 73, 74, 75, 76, 77, 78, 79, 80, 81, 82, 83, 84, 85, 86, 87, 88] (by decide +kernel) (by decide +kernel)) (goodIn_sub (fun _ h => List.mem_cons_of_mem _ (List.mem_append_left _ (List.mem_append_left _ (List.mem_append_right _ h)))) (by decide +kernel))) (goodIn_sub (fun _ h => List.mem_cons_of_mem _ (List.mem_append_left _ (List.mem_append_right _ h))) (by decide +kernel))) (goodIn_sub (fun _ h => List.mem_cons_of_mem _ (List.mem_append_right _ h)) (by decide +kernel))
set_option maxRecDepth 20000 in
theorem gL_place_X4_place : GoodIn wsL_place (wsV RL 63 RX4 yX4_place wsX4_place) := goodIn_app (goodIn_of _ (by decide +kernel)) ggL_place_X4_place
set_option maxRecDepth 20000 in
theorem ggL_link_X4_link : GoodIn wsL_link wsX4_link := goodIn_ca (goodIn_ca (goodIn_ca (goodIn_r _ [8, 9, 10, 11, 12, 13, 14, 15, 16, 7, 17, 18, 19, 20, 21, 22, 23, 24, 25, 26, 27, 28, 29, 30, 31, 32, 33, 34, 35, 36, 37, 38, 39, 40, 41, 42, 43, 44, 45, 46, 47, 48, 49, 50, 51, 52, 53, 54, 55, 56, 57, 58, 59, 60, 61, 62, 63, 64, 65, 66, 67, 68, 69, 70, 71, 72, 73, 74, 75, 76, 77, 78, 79] (by decide +kernel) (by decide +kernel)) (goodIn_sub (fun _ h => List.mem_cons_of_mem _ (List.mem_append_left _ (List.mem_append_left _ (List.mem_append_right _ h)))) (by decide +kernel))) (goodIn_sub (fun _ h => List.mem_cons_of_mem _ (List.mem_append_left _ (List.mem_append_right _ h))) (by decide +kernel))) (goodIn_sub (fun _ h => List.mem_cons_of_mem _ (List.mem_append_right _ h)) (by decide +kernel))
set_option maxRecDepth 20000 in
theorem gL_link_X4_link : GoodIn wsL_link (wsV RL 66 RX4 yX4_link wsX4_link) := goodIn_app (goodIn_of _ (by decide +kernel)) ggL_link_X4_link
set_option maxRecDepth 20000 in
theorem ggL_cut_X4_cut : GoodIn wsL_cut wsX4_cut := goodIn_ca (goodIn_ca (goodIn_r _ [7, 8, 9, 10, 11, 12, 13, 6, 14, 15, 16, 17, 18, 19, 20, 21, 22, 23, 24, 25, 26, 27, 28, 29, 30, 31, 32, 33, 34, 35, 36, 37, 38, 39, 40, 41, 42, 43, 44, 45, 46, 47, 48, 49, 50, 51, 52, 53, 54, 55, 56, 57, 58, 59, 60, 61, 62, 63, 64, 65, 66, 67, 68, 69, 70, 71, 72, 73, 74, 75, 76] (by decide +kernel) (by decide +kernel)) (goodIn_sub (fun _ h => List.mem_cons_of_mem _ (List.mem_append_left _ (List.mem_append_right _ h))) (by decide +kernel))) (goodIn_sub (fun _ h => List.mem_cons_of_mem _ (List.mem_append_right _ h)) (by decide +kernel))
set_option maxRecDepth 20000 in
theorem gL_cut_X4_cut : GoodIn wsL_cut (wsV RL 69 RX4 yX4_cut wsX4_cut) := goodIn_app (goodIn_of _ (by decide +kernel)) ggL_cut_X4_cut
set_option maxRecDepth 20000 in
theorem ggL_family_X4_family : GoodIn wsL_family wsX4_family := goodIn_ca (goodIn_r _ [6, 7, 8, 9, 10, 5, 11, 12, 13, 14, 15, 16, 17, 18, 19, 20, 21, 22, 23, 24, 25, 26, 27, 28, 29, 30, 31, 32, 33, 34, 35, 36, 37, 38, 39, 40, 41, 42, 43, 44, 45, 46, 47, 48, 49, 50, 51, 52, 53] (by decide +kernel) (by decide +kernel)) (goodIn_sub (fun _ h => List.mem_cons_of_mem _ (List.mem_append_right _ h)) (by decide +kernel))
set_option maxRecDepth 20000 in
theorem gL_family_X4_family : GoodIn wsL_family (wsV RL 72 RX4 yX4_family wsX4_family) := goodIn_app (goodIn_of _ (by decide +kernel)) ggL_family_X4_family
set_option maxRecDepth 20000 in
theorem ggL_law_X4_init : GoodIn wsL_law wsX4_init := goodIn_r _ [9, 10, 11, 12, 13, 14, 15, 16, 17, 18, 19, 20, 21, 22, 23, 24, 25, 26, 27, 28, 29, 30, 31, 32, 33, 34, 35, 36, 37, 38, 39, 40, 41, 42, 43, 44, 45, 46, 47, 48, 49, 50, 51, 52, 53, 623, 624, 625, 626, 627, 628, 629, 643, 644, 645, 646, 647, 648, 649, 650] (by decide +kernel) (by decide +kernel)
set_option maxRecDepth 20000 in
theorem gL_law_X4_init : GoodIn wsL_law (wsX4_init) := ggL_law_X4_init
set_option maxRecDepth 20000 in
theorem ggL_law_X5_init : GoodIn wsL_law wsX5_init := goodIn_r _ [56, 57, 11, 12, 37, 58, 59, 60, 61, 62, 63, 64, 65, 66, 67, 68, 630, 631, 632, 633, 634, 635, 636, 637, 638, 639, 640, 641, 642] (by decide +kernel) (by decide +kernel)
set_option maxRecDepth 20000 in
theorem gL_law_X5_init : GoodIn wsL_law (wsX5_init) := ggL_law_X5_init
set_option maxRecDepth 20000 in
theorem ggL_law_L_add : GoodIn wsL_law wsL_add := goodIn_ca (goodIn_ca (goodIn_r _ [72, 73, 74, 75, 76, 77, 2, 78, 79, 80, 81, 14, 13, 82, 83, 26, 84, 85, 86, 87, 88, 89, 90, 91, 92, 93, 94, 95, 96, 97, 11, 12, 98, 16, 17, 99, 100, 101, 30, 31, 32, 33, 34, 35, 36, 37, 38, 102, 103, 104, 105, 106, 107, 108, 109, 110, 111, 112, 113, 25, 114, 52, 115, 623, 624, 625, 626, 627, 628, 629, 651, 652, 653, 643, 644, 650] (by decide +kernel) (by decide +kernel)) (goodIn_sub (fun _ h => List.mem_append_left _ (List.mem_append_left _ (List.mem_append_right _ h))) (by decide +kernel))) (goodIn_sub (fun _ h => List.mem_append_left _ (List.mem_append_right _ h)) (by decide +kernel))
set_option maxRecDepth 20000 in
theorem gL_law_L_add : GoodIn wsL_law (va_wsS RL 79 yL_add wsL_add) := goodIn_app (goodIn_of _ (by decide +kernel)) ggL_law_L_add
set_option maxRecDepth 20000 in
theorem ggL_law_X5_add : GoodIn wsL_law wsX5_add := goodIn_r _ [119, 120, 60, 121, 122, 5, 123, 124, 125, 126, 127, 128, 129, 130, 131, 132, 133, 134, 135, 58, 59, 630, 631, 632, 633, 634, 635, 636, 637, 638, 639, 640, 641, 642] (by decide +kernel) (by decide +kernel)
set_option maxRecDepth 20000 in
theorem gL_law_X5_add : GoodIn wsL_law (wsV RL 84 RX5 yX5_add wsX5_add) := goodIn_app (goodIn_of _ (by decide +kernel)) ggL_law_X5_add
set_option maxRecDepth 20000 in
theorem ggL_law_X5_thrown : GoodIn wsL_law wsX5_thrown := goodIn_r _ [139, 131, 630, 631, 632, 633, 634, 635, 636, 637, 638, 639, 640, 641, 642] (by decide +kernel) (by decide +kernel)
set_option maxRecDepth 20000 in
theorem gL_law_X5_thrown : GoodIn wsL_law (wsV RL 85 RX5 yX5_thrown wsX5_thrown) := goodIn_app (goodIn_of _ (by decide +kernel)) ggL_law_X5_thrown
set_option maxRecDepth 20000 in
theorem ggL_law_L_note : GoodIn wsL_law wsL_note := goodIn_ca (goodIn_ca (goodIn_ca (goodIn_r _ [142, 143, 73, 74, 144, 145, 146, 2, 147, 79, 80, 148, 149, 150, 151, 152, 153, 154, 155, 156, 157, 158, 159, 160, 161, 81, 14, 84, 85, 86, 87, 88, 89, 90, 91, 92, 93, 94, 162, 163, 164, 17, 165, 110, 38, 102, 103, 104, 83, 105, 99, 100, 106, 107, 108, 109, 166, 167, 168, 169, 170, 171, 172, 173, 651, 652, 653, 623, 624, 625, 626, 627, 628, 629, 643, 644] (by decide +kernel) (by decide +kernel)) (goodIn_sub (fun _ h => List.mem_append_left _ (List.mem_append_left _ (List.mem_append_right _ h))) (by decide +kernel))) (goodIn_sub (fun _ h => List.mem_append_right _ h) (by decide +kernel))) (goodIn_sub (fun _ h => List.mem_append_left _ (List.mem_append_right _ h)) (by decide +kernel))
set_option maxRecDepth 20000 in
theorem gL_law_L_note : GoodIn wsL_law (va_wsS RL 89 yL_note wsL_note) := goodIn_app (goodIn_of _ (by decide +kernel)) ggL_law_L_note
set_option maxRecDepth 20000 in
theorem ggL_law_X5_note : GoodIn wsL_law wsX5_note := goodIn_r _ [177, 60, 178, 179, 180, 5, 181, 62, 182, 183, 184, 185, 120, 124, 125, 126, 121, 122, 123, 127, 128, 129, 130, 131, 132, 133, 134, 135, 58, 59, 630, 631, 632, 633, 634, 635, 636, 637, 638, 639, 640, 641, 642] (by decide +kernel) (by decide +kernel)
set_option maxRecDepth 20000 in
theorem gL_law_X5_note : GoodIn wsL_law (wsV RL 92 RX5 yX5_note wsX5_note) := goodIn_app (goodIn_of _ (by decide +kernel)) ggL_law_X5_note
set_option maxRecDepth 20000 in
theorem ggL_law_L_correct : GoodIn wsL_law wsL_correct := goodIn_ca (goodIn_ca (goodIn_r _ [188, 143, 73, 189, 190, 191, 2, 192, 152, 153, 148, 149, 150, 151, 154, 155, 156, 157, 158, 159, 160, 161, 81, 14, 166, 167, 168, 83, 169, 99, 170, 171, 172, 17, 173, 110, 84, 85, 86, 87, 88, 89, 90, 91, 92, 93, 94, 193, 194, 195, 196, 38, 197, 198, 199, 200, 651, 652, 653, 623, 624, 625, 626, 627, 628, 629, 643, 644] (by decide +kernel) (by decide +kernel)) (goodIn_sub (fun _ h => List.mem_append_right _ h) (by decide +kernel))) (goodIn_sub (fun _ h => List.mem_append_left _ (List.mem_append_right _ h)) (by decide +kernel))
set_option maxRecDepth 20000 in
theorem gL_law_L_correct : GoodIn wsL_law (va_wsS RL 93 yL_correct wsL_correct) := goodIn_app (goodIn_of _ (by decide +kernel)) ggL_law_L_correct
set_option maxRecDepth 20000 in
theorem ggL_law_X5_correct : GoodIn wsL_law wsX5_correct := goodIn_r _ [204, 60, 58, 178, 179, 180, 5, 181, 62, 182, 183, 184, 185, 120, 124, 125, 126, 121, 122, 123, 127, 128, 129, 130, 131, 132, 133, 134, 135, 59, 630, 631, 632, 633, 634, 635, 636, 637, 638, 639, 640, 641, 642] (by decide +kernel) (by decide +kernel)
set_option maxRecDepth 20000 in
theorem gL_law_X5_correct : GoodIn wsL_law (wsV RL 96 RX5 yX5_correct wsX5_correct) := goodIn_app (goodIn_of _ (by decide +kernel)) ggL_law_X5_correct
set_option maxRecDepth 20000 in
theorem ggL_law_L_shift : GoodIn wsL_law wsL_shift := goodIn_ca (goodIn_ca (goodIn_ca (goodIn_r _ [207, 143, 73, 74, 208, 209, 210, 2, 211, 79, 80, 148, 149, 150, 151, 152, 153, 154, 155, 156, 157, 158, 159, 160, 161, 81, 14, 87, 88, 89, 90, 91, 92, 93, 94, 166, 167, 168, 83, 169, 99, 170, 171, 172, 17, 173, 110, 193, 194, 195, 196, 38, 197, 198, 199, 200, 651, 652, 653, 623, 624, 625, 626, 627, 628, 629, 643, 644] (by decide +kernel) (by decide +kernel)) (goodIn_sub (fun _ h => List.mem_append_left _ (List.mem_append_left _ (List.mem_append_right _ h))) (by decide +kernel))) (goodIn_sub (fun _ h => List.mem_append_right _ h) (by decide +kernel))) (goodIn_sub (fun _ h => List.mem_append_left _ (List.mem_append_right _ h)) (by decide +kernel))
set_option maxRecDepth 20000 in
theorem gL_law_L_shift : GoodIn wsL_law (va_wsS RL 97 yL_shift wsL_shift) := goodIn_app (goodIn_of _ (by decide +kernel)) ggL_law_L_shift
set_option maxRecDepth 20000 in
theorem ggL_law_X5_shift : GoodIn wsL_law wsX5_shift := goodIn_r _ [215, 60, 58, 178, 179, 180, 5, 181, 62, 182, 183, 184, 185, 120, 124, 125, 126, 216, 217, 218, 219, 127, 128, 129, 130, 131, 630, 631, 632, 633, 634, 635, 636, 637, 638, 639, 640, 641, 642] (by decide +kernel) (by decide +kernel)
set_option maxRecDepth 20000 in
theorem gL_law_X5_shift : GoodIn wsL_law (wsV RL 100 RX5 yX5_shift wsX5_shift) := goodIn_app (goodIn_of _ (by decide +kernel)) ggL_law_X5_shift
set_option maxRecDepth 20000 in
theorem ggL_law_L_retire : GoodIn wsL_law wsL_retire := goodIn_ca (goodIn_r _ [222, 143, 223, 224, 225, 2, 226, 81, 148, 149, 150, 151, 152, 153, 154, 155, 156, 157, 158, 159, 160, 161, 14, 651, 652, 653, 623, 624, 625, 626, 627, 628, 629] (by decide +kernel) (by decide +kernel)) (goodIn_sub (fun _ h => List.mem_append_right _ h) (by decide +kernel))
set_option maxRecDepth 20000 in
theorem gL_law_L_retire : GoodIn wsL_law (va_wsS RL 101 yL_retire wsL_retire) := goodIn_app (goodIn_of _ (by decide +kernel)) ggL_law_L_retire
set_option maxRecDepth 20000 in
theorem ggL_law_X5_retire : GoodIn wsL_law wsX5_retire := goodIn_r _ [230, 62, 120, 178, 179, 180, 5, 181, 182, 183, 184, 185, 124, 125, 126, 127, 128, 129, 130, 131, 630, 631, 632, 633, 634, 635, 636, 637, 638, 639, 640, 641, 642] (by decide +kernel) (by decide +kernel)
set_option maxRecDepth 20000 in
theorem gL_law_X5_retire : GoodIn wsL_law (wsV RL 104 RX5 yX5_retire wsX5_retire) := goodIn_app (goodIn_of _ (by decide +kernel)) ggL_law_X5_retire
set_option maxRecDepth 20000 in
theorem ggL_law_X4_tunes : GoodIn wsL_law wsX4_tunes := goodIn_r _ [234, 81, 623, 624, 625, 626, 627, 628, 629] (by decide +kernel) (by decide +kernel)
set_option maxRecDepth 20000 in
theorem gL_law_X4_tunes : GoodIn wsL_law (wsV RL 105 RX4 yX4_tunes wsX4_tunes) := goodIn_app (goodIn_of _ (by decide +kernel)) ggL_law_X4_tunes
set_option maxRecDepth 20000 in
theorem ggL_law_X5_tunes : GoodIn wsL_law wsX5_tunes := goodIn_r _ [238, 131, 120, 630, 631, 632, 633, 634, 635, 636, 637, 638, 639, 640, 641, 642] (by decide +kernel) (by decide +kernel)
set_option maxRecDepth 20000 in
theorem gL_law_X5_tunes : GoodIn wsL_law (wsV RL 108 RX5 yX5_tunes wsX5_tunes) := goodIn_app (goodIn_of _ (by decide +kernel)) ggL_law_X5_tunes
set_option maxRecDepth 20000 in
theorem ggL_law_L_notes : GoodIn wsL_law wsL_notes := goodIn_ca (goodIn_r _ [241, 143, 242, 243, 244, 2, 245, 246, 247, 248, 249, 152, 153, 158, 159, 160, 161, 81, 14, 166, 167, 168, 83, 169, 99, 170, 171, 172, 17, 173, 110, 623, 624, 625, 626, 627, 628, 629, 651, 652, 653, 643, 644] (by decide +kernel) (by decide +kernel)) (goodIn_sub (fun _ h => List.mem_append_right _ h) (by decide +kernel))
set_option maxRecDepth 20000 in
theorem gL_law_L_notes : GoodIn wsL_law (va_wsS RL 109 yL_notes wsL_notes) := goodIn_app (goodIn_of _ (by decide +kernel)) ggL_law_L_notes
set_option maxRecDepth 20000 in
theorem ggL_law_X5_notes : GoodIn wsL_law wsX5_notes := goodIn_r _ [253, 60, 182, 183, 184, 5, 185, 120, 124, 125, 126, 127, 128, 129, 130, 131, 630, 631, 632, 633, 634, 635, 636, 637, 638, 639, 640, 641, 642] (by decide +kernel) (by decide +kernel)
set_option maxRecDepth 20000 in
theorem gL_law_X5_notes : GoodIn wsL_law (wsV RL 111 RX5 yX5_notes wsX5_notes) := goodIn_app (goodIn_of _ (by decide +kernel)) ggL_law_X5_notes
set_option maxRecDepth 20000 in
theorem ggL_law_L_step : GoodIn wsL_law wsL_step := goodIn_ca (goodIn_r _ [256, 143, 257, 258, 259, 2, 260, 152, 153, 246, 247, 248, 249, 158, 159, 160, 161, 81, 14, 166, 167, 168, 83, 169, 99, 170, 171, 172, 17, 173, 110, 261, 262, 263, 264, 265, 194, 195, 196, 38, 651, 652, 653, 623, 624, 625, 626, 627, 628, 629, 643, 644] (by decide +kernel) (by decide +kernel)) (goodIn_sub (fun _ h => List.mem_append_right _ h) (by decide +kernel))
set_option maxRecDepth 20000 in
theorem gL_law_L_step : GoodIn wsL_law (va_wsS RL 112 yL_step wsL_step) := goodIn_app (goodIn_of _ (by decide +kernel)) ggL_law_L_step
set_option maxRecDepth 20000 in
theorem ggL_law_X5_step : GoodIn wsL_law wsX5_step := goodIn_r _ [269, 60, 182, 183, 184, 5, 185, 120, 124, 125, 126, 127, 128, 129, 130, 131, 270, 271, 272, 273, 58, 630, 631, 632, 633, 634, 635, 636, 637, 638, 639, 640, 641, 642] (by decide +kernel) (by decide +kernel)
set_option maxRecDepth 20000 in
theorem gL_law_X5_step : GoodIn wsL_law (wsV RL 114 RX5 yX5_step wsX5_step) := goodIn_app (goodIn_of _ (by decide +kernel)) ggL_law_X5_step
set_option maxRecDepth 20000 in
theorem ggL_law_L_shared : GoodIn wsL_law wsL_shared := goodIn_ca (goodIn_r _ [276, 143, 277, 278, 279, 2, 280, 281, 34, 35, 36, 246, 247, 248, 249, 152, 153, 158, 159, 160, 161, 81, 14, 282, 171, 172, 17, 173, 110, 283, 284, 285, 286, 287, 288, 289, 290, 262, 263, 264, 265, 194, 195, 196, 38, 651, 652, 653, 623, 624, 625, 626, 627, 628, 629, 643, 644] (by decide +kernel) (by decide +kernel)) (goodIn_sub (fun _ h => List.mem_append_right _ h) (by decide +kernel))
set_option maxRecDepth 20000 in
theorem gL_law_L_shared : GoodIn wsL_law (va_wsS RL 115 yL_shared wsL_shared) := goodIn_app (goodIn_of _ (by decide +kernel)) ggL_law_L_shared
set_option maxRecDepth 20000 in
theorem ggL_law_X5_shared : GoodIn wsL_law wsX5_shared := goodIn_r _ [294, 182, 183, 184, 5, 185, 120, 124, 125, 126, 127, 128, 129, 130, 131, 295, 296, 297, 298, 60, 270, 271, 272, 273, 58, 630, 631, 632, 633, 634, 635, 636, 637, 638, 639, 640, 641, 642] (by decide +kernel) (by decide +kernel)
set_option maxRecDepth 20000 in
theorem gL_law_X5_shared : GoodIn wsL_law (wsV RL 117 RX5 yX5_shared wsX5_shared) := goodIn_app (goodIn_of _ (by decide +kernel)) ggL_law_X5_shared
set_option maxRecDepth 20000 in
theorem ggL_law_L_hum : GoodIn wsL_law wsL_hum := goodIn_ca (goodIn_ca (goodIn_r _ [301, 73, 74, 302, 303, 304, 2, 305, 79, 80, 18, 87, 88, 89, 90, 91, 92, 93, 94, 162, 163, 164, 17, 165, 110, 38, 306, 107, 108, 109, 282, 171, 172, 173, 623, 624, 625, 626, 627, 628, 629, 643, 644] (by decide +kernel) (by decide +kernel)) (goodIn_sub (fun _ h => List.mem_append_left _ (List.mem_append_left _ (List.mem_append_right _ h))) (by decide +kernel))) (goodIn_sub (fun _ h => List.mem_append_left _ (List.mem_append_right _ h)) (by decide +kernel))
set_option maxRecDepth 20000 in
theorem gL_law_L_hum : GoodIn wsL_law (va_wsS RL 118 yL_hum wsL_hum) := goodIn_app (goodIn_of _ (by decide +kernel)) ggL_law_L_hum
set_option maxRecDepth 20000 in
theorem ggL_law_X5_hum : GoodIn wsL_law wsX5_hum := goodIn_r _ [310, 311, 63, 124, 125, 5, 126, 127, 128, 129, 130, 131, 630, 631, 632, 633, 634, 635, 636, 637, 638, 639, 640, 641, 642] (by decide +kernel) (by decide +kernel)
set_option maxRecDepth 20000 in
theorem gL_law_X5_hum : GoodIn wsL_law (wsV RL 120 RX5 yX5_hum wsX5_hum) := goodIn_app (goodIn_of _ (by decide +kernel)) ggL_law_X5_hum
set_option maxRecDepth 20000 in
theorem ggL_law_X4_hush : GoodIn wsL_law wsX4_hush := goodIn_r _ [315, 18, 282, 171, 172, 17, 173, 110, 316, 317, 318, 319, 623, 624, 625, 626, 627, 628, 629, 643, 644] (by decide +kernel) (by decide +kernel)
set_option maxRecDepth 20000 in
theorem gL_law_X4_hush : GoodIn wsL_law (wsV RL 121 RX4 yX4_hush wsX4_hush) := goodIn_app (goodIn_of _ (by decide +kernel)) ggL_law_X4_hush
set_option maxRecDepth 20000 in
theorem ggL_law_X5_hush : GoodIn wsL_law wsX5_hush := goodIn_r _ [323, 131, 311, 630, 631, 632, 633, 634, 635, 636, 637, 638, 639, 640, 641, 642] (by decide +kernel) (by decide +kernel)
set_option maxRecDepth 20000 in
theorem gL_law_X5_hush : GoodIn wsL_law (wsV RL 124 RX5 yX5_hush wsX5_hush) := goodIn_app (goodIn_of _ (by decide +kernel)) ggL_law_X5_hush
set_option maxRecDepth 20000 in
theorem ggL_law_X4_hummed : GoodIn wsL_law wsX4_hummed := goodIn_r _ [327, 18, 282, 171, 172, 17, 173, 110, 623, 624, 625, 626, 627, 628, 629, 643, 644] (by decide +kernel) (by decide +kernel)
set_option maxRecDepth 20000 in
theorem gL_law_X4_hummed : GoodIn wsL_law (wsV RL 125 RX4 yX4_hummed wsX4_hummed) := goodIn_app (goodIn_of _ (by decide +kernel)) ggL_law_X4_hummed
set_option maxRecDepth 20000 in
theorem ggL_law_X5_hummed : GoodIn wsL_law wsX5_hummed := goodIn_r _ [331, 131, 311, 630, 631, 632, 633, 634, 635, 636, 637, 638, 639, 640, 641, 642] (by decide +kernel) (by decide +kernel)
set_option maxRecDepth 20000 in
theorem gL_law_X5_hummed : GoodIn wsL_law (wsV RL 128 RX5 yX5_hummed wsX5_hummed) := goodIn_app (goodIn_of _ (by decide +kernel)) ggL_law_X5_hummed
set_option maxRecDepth 20000 in
theorem ggL_law_L_setCosts : GoodIn wsL_law wsL_setCosts := goodIn_ca (goodIn_r _ [334, 73, 335, 336, 337, 2, 338, 22, 87, 88, 89, 90, 91, 92, 93, 94, 623, 624, 625, 626, 627, 628, 629, 645, 646, 647, 648, 649] (by decide +kernel) (by decide +kernel)) (goodIn_sub (fun _ h => List.mem_append_left _ (List.mem_append_right _ h)) (by decide +kernel))
set_option maxRecDepth 20000 in
theorem gL_law_L_setCosts : GoodIn wsL_law (va_wsS RL 129 yL_setCosts wsL_setCosts) := goodIn_app (goodIn_of _ (by decide +kernel)) ggL_law_L_setCosts
set_option maxRecDepth 20000 in
theorem ggL_law_X5_setCosts : GoodIn wsL_law wsX5_setCosts := goodIn_r _ [342, 64, 65, 66, 124, 125, 5, 126, 127, 128, 129, 130, 131, 630, 631, 632, 633, 634, 635, 636, 637, 638, 639, 640, 641, 642] (by decide +kernel) (by decide +kernel)
set_option maxRecDepth 20000 in
theorem gL_law_X5_setCosts : GoodIn wsL_law (wsV RL 132 RX5 yX5_setCosts wsX5_setCosts) := goodIn_app (goodIn_of _ (by decide +kernel)) ggL_law_X5_setCosts
set_option maxRecDepth 20000 in
theorem ggL_law_L_cost : GoodIn wsL_law wsL_cost := goodIn_ca (goodIn_r _ [345, 143, 346, 347, 348, 2, 349, 22, 148, 149, 150, 151, 152, 153, 154, 155, 156, 157, 158, 159, 160, 161, 81, 14, 350, 351, 352, 21, 353, 47, 354, 171, 172, 17, 173, 110, 355, 167, 168, 83, 169, 99, 170, 356, 357, 358, 359, 360, 361, 362, 363, 364, 365, 366, 367, 46, 93, 94, 368, 369, 370, 371, 43, 372, 373, 35, 374, 44, 45, 375, 194, 195, 196, 38, 376, 377, 378, 379, 34, 36, 380, 288, 289, 381, 382, 383, 384, 623, 624, 625, 626, 627, 628, 629, 651, 652, 653, 645, 646, 647, 648, 649, 643, 644] (by decide +kernel) (by decide +kernel)) (goodIn_sub (fun _ h => List.mem_append_right _ h) (by decide +kernel))
set_option maxRecDepth 20000 in
theorem gL_law_L_cost : GoodIn wsL_law (va_wsS RL 133 yL_cost wsL_cost) := goodIn_app (goodIn_of _ (by decide +kernel)) ggL_law_L_cost
set_option maxRecDepth 20000 in
theorem ggL_law_X5_cost : GoodIn wsL_law wsX5_cost := goodIn_r _ [388, 178, 179, 180, 5, 181, 62, 182, 183, 184, 185, 120, 124, 125, 126, 127, 128, 129, 130, 131, 389, 390, 391, 392, 393, 311, 67, 60, 394, 395, 396, 397, 58, 63, 64, 398, 399, 400, 401, 65, 59, 402, 403, 404, 405, 66, 406, 407, 408, 630, 631, 632, 633, 634, 635, 636, 637, 638, 639, 640, 641, 642] (by decide +kernel) (by decide +kernel)
set_option maxRecDepth 20000 in
theorem gL_law_X5_cost : GoodIn wsL_law (wsV RL 135 RX5 yX5_cost wsX5_cost) := goodIn_app (goodIn_of _ (by decide +kernel)) ggL_law_X5_cost
set_option maxRecDepth 20000 in
theorem ggL_law_L_costByAll : GoodIn wsL_law wsL_costByAll := goodIn_ca (goodIn_ca (goodIn_r _ [411, 143, 74, 412, 413, 414, 2, 415, 79, 80, 18, 22, 148, 149, 150, 151, 152, 153, 154, 155, 156, 157, 158, 159, 160, 161, 81, 14, 282, 171, 172, 17, 173, 110, 416, 417, 418, 21, 419, 47, 354, 420, 421, 422, 423, 424, 425, 426, 376, 377, 378, 379, 34, 35, 36, 380, 288, 289, 427, 355, 167, 168, 83, 169, 99, 170, 368, 369, 370, 371, 43, 372, 373, 374, 44, 45, 375, 194, 195, 196, 38, 623, 624, 625, 626, 627, 628, 629, 651, 652, 653, 643, 644, 645, 646, 647, 648, 649] (by decide +kernel) (by decide +kernel)) (goodIn_sub (fun _ h => List.mem_append_left _ (List.mem_append_left _ (List.mem_append_right _ h))) (by decide +kernel))) (goodIn_sub (fun _ h => List.mem_append_right _ h) (by decide +kernel))
set_option maxRecDepth 20000 in
theorem gL_law_L_costByAll : GoodIn wsL_law (va_wsS RL 136 yL_costByAll wsL_costByAll) := goodIn_app (goodIn_of _ (by decide +kernel)) ggL_law_L_costByAll
set_option maxRecDepth 20000 in
theorem ggL_law_X5_costByAll : GoodIn wsL_law wsX5_costByAll := goodIn_r _ [431, 311, 178, 179, 180, 5, 181, 62, 182, 183, 184, 185, 120, 124, 125, 126, 127, 128, 129, 130, 131, 389, 390, 391, 392, 393, 67, 60, 394, 395, 396, 397, 58, 63, 64, 398, 399, 400, 401, 65, 59, 402, 403, 404, 405, 66, 406, 407, 408, 630, 631, 632, 633, 634, 635, 636, 637, 638, 639, 640, 641, 642] (by decide +kernel) (by decide +kernel)
set_option maxRecDepth 20000 in
theorem gL_law_X5_costByAll : GoodIn wsL_law (wsV RL 138 RX5 yX5_costByAll wsX5_costByAll) := goodIn_app (goodIn_of _ (by decide +kernel)) ggL_law_X5_costByAll
set_option maxRecDepth 20000 in
theorem ggL_law_X4_matches : GoodIn wsL_law wsX4_matches := goodIn_r _ [435, 27, 436, 437, 438, 2, 439, 81, 22, 316, 317, 318, 17, 319, 110, 154, 155, 156, 157, 158, 159, 160, 161, 14, 350, 351, 352, 21, 353, 47, 354, 171, 172, 173, 355, 167, 168, 83, 169, 99, 170, 356, 357, 358, 359, 360, 361, 362, 363, 364, 365, 366, 367, 46, 93, 94, 368, 369, 370, 371, 43, 372, 373, 35, 374, 44, 45, 375, 194, 195, 196, 38, 376, 377, 378, 379, 34, 36, 380, 288, 289, 381, 382, 383, 384, 306, 107, 108, 109, 282, 193, 623, 624, 625, 626, 627, 628, 629, 643, 644, 651, 652, 653, 645, 646, 647, 648, 649] (by decide +kernel) (by decide +kernel)
set_option maxRecDepth 20000 in
theorem gL_law_X4_matches : GoodIn wsL_law (wsV RL 139 RX4 yX4_matches wsX4_matches) := goodIn_app (goodIn_of _ (by decide +kernel)) ggL_law_X4_matches
set_option maxRecDepth 20000 in
theorem ggL_law_X5_matches : GoodIn wsL_law wsX5_matches := goodIn_r _ [443, 131, 444, 445, 446, 5, 447, 120, 178, 179, 180, 181, 62, 182, 183, 184, 185, 124, 125, 126, 389, 390, 391, 392, 393, 311, 67, 60, 394, 395, 396, 397, 58, 63, 64, 398, 399, 400, 401, 65, 59, 402, 403, 404, 405, 66, 406, 407, 408, 630, 631, 632, 633, 634, 635, 636, 637, 638, 639, 640, 641, 642] (by decide +kernel) (by decide +kernel)
set_option maxRecDepth 20000 in
theorem gL_law_X5_matches : GoodIn wsL_law (wsV RL 142 RX5 yX5_matches wsX5_matches) := goodIn_app (goodIn_of _ (by decide +kernel)) ggL_law_X5_matches
set_option maxRecDepth 20000 in
theorem ggL_law_L_found : GoodIn wsL_law wsL_found := goodIn_ca (goodIn_r _ [450, 143, 451, 452, 453, 2, 454, 152, 153, 27, 436, 437, 438, 439, 81, 22, 316, 317, 318, 17, 319, 110, 154, 155, 156, 157, 158, 159, 160, 161, 14, 350, 351, 352, 21, 353, 47, 354, 171, 172, 173, 355, 167, 168, 83, 169, 99, 170, 356, 357, 358, 359, 360, 361, 362, 363, 364, 365, 366, 367, 46, 93, 94, 368, 369, 370, 371, 43, 372, 373, 35, 374, 44, 45, 375, 194, 195, 196, 38, 376, 377, 378, 379, 34, 36, 380, 288, 289, 381, 382, 383, 384, 306, 107, 108, 109, 282, 193, 455, 456, 457, 458, 623, 624, 625, 626, 627, 628, 629, 643, 644, 651, 652, 653, 645, 646, 647, 648, 649] (by decide +kernel) (by decide +kernel)) (goodIn_sub (fun _ h => List.mem_append_right _ h) (by decide +kernel))
set_option maxRecDepth 20000 in
theorem gL_law_L_found : GoodIn wsL_law (va_wsS RL 143 yL_found wsL_found) := goodIn_app (goodIn_of _ (by decide +kernel)) ggL_law_L_found
set_option maxRecDepth 20000 in
theorem ggL_law_X5_found : GoodIn wsL_law wsX5_found := goodIn_r _ [462, 444, 445, 446, 5, 447, 120, 178, 179, 180, 181, 62, 182, 183, 184, 185, 124, 125, 126, 389, 390, 391, 392, 393, 311, 67, 60, 394, 395, 396, 397, 58, 63, 64, 398, 399, 400, 401, 65, 59, 402, 403, 404, 405, 66, 406, 407, 408, 127, 128, 129, 130, 131, 463, 464, 465, 466, 630, 631, 632, 633, 634, 635, 636, 637, 638, 639, 640, 641, 642] (by decide +kernel) (by decide +kernel)
set_option maxRecDepth 20000 in
theorem gL_law_X5_found : GoodIn wsL_law (wsV RL 145 RX5 yX5_found wsX5_found) := goodIn_app (goodIn_of _ (by decide +kernel)) ggL_law_X5_found
set_option maxRecDepth 20000 in
theorem ggL_law_X4_likeContour : GoodIn wsL_law wsX4_likeContour := goodIn_r _ [470, 81, 18, 154, 155, 156, 2, 157, 158, 159, 160, 161, 14, 471, 472, 473, 17, 474, 110, 290, 262, 263, 264, 265, 194, 195, 196, 38, 475, 476, 477, 623, 624, 625, 626, 627, 628, 629, 651, 652, 653, 643, 644] (by decide +kernel) (by decide +kernel)
set_option maxRecDepth 20000 in
theorem gL_law_X4_likeContour : GoodIn wsL_law (wsV RL 146 RX4 yX4_likeContour wsX4_likeContour) := goodIn_app (goodIn_of _ (by decide +kernel)) ggL_law_X4_likeContour
set_option maxRecDepth 20000 in
theorem ggL_law_X5_likeContour : GoodIn wsL_law wsX5_likeContour := goodIn_r _ [481, 131, 120, 178, 179, 180, 5, 181, 62, 182, 183, 184, 185, 124, 125, 126, 482, 483, 484, 485, 311, 60, 63, 270, 271, 272, 273, 58, 486, 487, 488, 630, 631, 632, 633, 634, 635, 636, 637, 638, 639, 640, 641, 642] (by decide +kernel) (by decide +kernel)
set_option maxRecDepth 20000 in
theorem gL_law_X5_likeContour : GoodIn wsL_law (wsV RL 149 RX5 yX5_likeContour wsX5_likeContour) := goodIn_app (goodIn_of _ (by decide +kernel)) ggL_law_X5_likeContour
set_option maxRecDepth 20000 in
theorem ggL_law_L_places : GoodIn wsL_law wsL_places := goodIn_ca (goodIn_ca (goodIn_r _ [491, 73, 74, 492, 493, 494, 2, 495, 28, 496, 497, 498, 499, 79, 80, 18, 87, 88, 89, 90, 91, 92, 93, 94, 282, 171, 172, 17, 173, 110, 500, 501, 502, 503, 81, 316, 317, 318, 319, 154, 155, 156, 157, 158, 159, 160, 161, 14, 504, 505, 506, 507, 283, 284, 285, 286, 287, 288, 35, 289, 290, 262, 263, 264, 265, 194, 195, 196, 38, 306, 107, 108, 109, 623, 624, 625, 626, 627, 628, 629, 643, 644, 651, 652, 653] (by decide +kernel) (by decide +kernel)) (goodIn_sub (fun _ h => List.mem_append_left _ (List.mem_append_left _ (List.mem_append_right _ h))) (by decide +kernel))) (goodIn_sub (fun _ h => List.mem_append_left _ (List.mem_append_right _ h)) (by decide +kernel))
set_option maxRecDepth 20000 in
theorem gL_law_L_places : GoodIn wsL_law (va_wsS RL 150 yL_places wsL_places) := goodIn_app (goodIn_of _ (by decide +kernel)) ggL_law_L_places
set_option maxRecDepth 20000 in
theorem ggL_law_X5_places : GoodIn wsL_law wsX5_places := goodIn_r _ [511, 512, 513, 514, 5, 515, 311, 124, 125, 126, 127, 128, 129, 130, 131, 516, 517, 518, 519, 120, 60, 520, 521, 522, 523, 63, 62, 270, 271, 272, 273, 58, 630, 631, 632, 633, 634, 635, 636, 637, 638, 639, 640, 641, 642] (by decide +kernel) (by decide +kernel)
set_option maxRecDepth 20000 in
theorem gL_law_X5_places : GoodIn wsL_law (wsV RL 152 RX5 yX5_places wsX5_places) := goodIn_app (goodIn_of _ (by decide +kernel)) ggL_law_X5_places
set_option maxRecDepth 20000 in
theorem ggL_law_L_place : GoodIn wsL_law wsL_place := goodIn_ca (goodIn_ca (goodIn_ca (goodIn_r _ [526, 73, 74, 143, 527, 528, 529, 2, 530, 152, 153, 28, 496, 497, 498, 499, 79, 80, 18, 87, 88, 89, 90, 91, 92, 93, 94, 282, 171, 172, 17, 173, 110, 500, 501, 502, 503, 81, 316, 317, 318, 319, 154, 155, 156, 157, 158, 159, 160, 161, 14, 504, 505, 506, 507, 283, 284, 285, 286, 287, 288, 35, 289, 290, 262, 263, 264, 265, 194, 195, 196, 38, 306, 107, 108, 109, 193, 623, 624, 625, 626, 627, 628, 629, 643, 644, 651, 652, 653] (by decide +kernel) (by decide +kernel)) (goodIn_sub (fun _ h => List.mem_append_right _ h) (by decide +kernel))) (goodIn_sub (fun _ h => List.mem_append_left _ (List.mem_append_left _ (List.mem_append_right _ h))) (by decide +kernel))) (goodIn_sub (fun _ h => List.mem_append_left _ (List.mem_append_right _ h)) (by decide +kernel))
set_option maxRecDepth 20000 in
theorem gL_law_L_place : GoodIn wsL_law (va_wsS RL 153 yL_place wsL_place) := goodIn_app (goodIn_of _ (by decide +kernel)) ggL_law_L_place
set_option maxRecDepth 20000 in
theorem ggL_law_X5_place : GoodIn wsL_law wsX5_place := goodIn_r _ [534, 60, 512, 513, 514, 5, 515, 311, 124, 125, 126, 516, 517, 518, 519, 120, 520, 521, 522, 523, 63, 62, 270, 271, 272, 273, 58, 127, 128, 129, 130, 131, 630, 631, 632, 633, 634, 635, 636, 637, 638, 639, 640, 641, 642] (by decide +kernel) (by decide +kernel)
set_option maxRecDepth 20000 in
theorem gL_law_X5_place : GoodIn wsL_law (wsV RL 155 RX5 yX5_place wsX5_place) := goodIn_app (goodIn_of _ (by decide +kernel)) ggL_law_X5_place
set_option maxRecDepth 20000 in
theorem ggL_law_L_link : GoodIn wsL_law wsL_link := goodIn_ca (goodIn_ca (goodIn_ca (goodIn_r _ [537, 143, 73, 74, 538, 539, 540, 2, 541, 90, 91, 79, 80, 26, 542, 543, 544, 545, 246, 247, 248, 249, 152, 153, 158, 159, 160, 161, 81, 14, 546, 547, 548, 25, 549, 52, 550, 194, 195, 17, 196, 110, 38, 551, 552, 553, 554, 555, 556, 557, 558, 198, 199, 200, 559, 560, 561, 562, 563, 171, 172, 173, 564, 565, 566, 567, 568, 569, 570, 571, 623, 624, 625, 626, 627, 628, 629, 650, 643, 644] (by decide +kernel) (by decide +kernel)) (goodIn_sub (fun _ h => List.mem_append_left _ (List.mem_append_right _ h)) (by decide +kernel))) (goodIn_sub (fun _ h => List.mem_append_left _ (List.mem_append_left _ (List.mem_append_right _ h))) (by decide +kernel))) (goodIn_sub (fun _ h => List.mem_append_right _ h) (by decide +kernel))
set_option maxRecDepth 20000 in
theorem gL_law_L_link : GoodIn wsL_law (va_wsS RL 156 yL_link wsL_link) := goodIn_app (goodIn_of _ (by decide +kernel)) ggL_law_L_link
set_option maxRecDepth 20000 in
theorem ggL_law_X5_link : GoodIn wsL_law wsX5_link := goodIn_r _ [575, 68, 182, 183, 184, 5, 185, 120, 124, 125, 126, 576, 577, 578, 579, 127, 128, 129, 130, 131, 580, 581, 582, 583, 584, 585, 586, 587, 588, 589, 590, 591, 630, 631, 632, 633, 634, 635, 636, 637, 638, 639, 640, 641, 642] (by decide +kernel) (by decide +kernel)
set_option maxRecDepth 20000 in
theorem gL_law_X5_link : GoodIn wsL_law (wsV RL 158 RX5 yX5_link wsX5_link) := goodIn_app (goodIn_of _ (by decide +kernel)) ggL_law_X5_link
set_option maxRecDepth 20000 in
theorem ggL_law_L_cut : GoodIn wsL_law wsL_cut := goodIn_ca (goodIn_ca (goodIn_r _ [594, 143, 74, 595, 596, 597, 2, 598, 79, 80, 26, 542, 543, 544, 545, 246, 247, 248, 249, 152, 153, 158, 159, 160, 161, 81, 14, 546, 547, 548, 25, 549, 52, 550, 194, 195, 17, 196, 110, 38, 551, 552, 553, 554, 555, 556, 557, 558, 198, 199, 200, 559, 560, 561, 562, 563, 171, 172, 173, 564, 565, 566, 567, 568, 569, 570, 571, 623, 624, 625, 626, 627, 628, 629, 650, 643, 644] (by decide +kernel) (by decide +kernel)) (goodIn_sub (fun _ h => List.mem_append_left _ (List.mem_append_left _ (List.mem_append_right _ h))) (by decide +kernel))) (goodIn_sub (fun _ h => List.mem_append_right _ h) (by decide +kernel))
set_option maxRecDepth 20000 in
theorem gL_law_L_cut : GoodIn wsL_law (va_wsS RL 159 yL_cut wsL_cut) := goodIn_app (goodIn_of _ (by decide +kernel)) ggL_law_L_cut
set_option maxRecDepth 20000 in
theorem ggL_law_X5_cut : GoodIn wsL_law wsX5_cut := goodIn_r _ [602, 68, 182, 183, 184, 5, 185, 120, 124, 125, 126, 576, 577, 578, 579, 127, 128, 129, 130, 131, 580, 581, 582, 583, 584, 585, 586, 587, 588, 589, 590, 591, 630, 631, 632, 633, 634, 635, 636, 637, 638, 639, 640, 641, 642] (by decide +kernel) (by decide +kernel)
set_option maxRecDepth 20000 in
theorem gL_law_X5_cut : GoodIn wsL_law (wsV RL 161 RX5 yX5_cut wsX5_cut) := goodIn_app (goodIn_of _ (by decide +kernel)) ggL_law_X5_cut
set_option maxRecDepth 20000 in
theorem ggL_law_L_family : GoodIn wsL_law wsL_family := goodIn_ca (goodIn_r _ [605, 143, 606, 607, 608, 2, 609, 26, 246, 247, 248, 249, 152, 153, 158, 159, 160, 161, 81, 14, 610, 565, 566, 25, 567, 52, 551, 552, 553, 563, 171, 172, 17, 173, 110, 568, 569, 570, 571, 550, 194, 195, 196, 38, 623, 624, 625, 626, 627, 628, 629, 650, 643, 644] (by decide +kernel) (by decide +kernel)) (goodIn_sub (fun _ h => List.mem_append_right _ h) (by decide +kernel))
set_option maxRecDepth 20000 in
theorem gL_law_L_family : GoodIn wsL_law (va_wsS RL 162 yL_family wsL_family) := goodIn_app (goodIn_of _ (by decide +kernel)) ggL_law_L_family
set_option maxRecDepth 20000 in
theorem ggL_law_X5_family : GoodIn wsL_law wsX5_family := goodIn_r _ [614, 182, 183, 184, 5, 185, 120, 124, 125, 126, 127, 128, 129, 130, 131, 584, 585, 586, 587, 588, 589, 590, 591, 68, 630, 631, 632, 633, 634, 635, 636, 637, 638, 639, 640, 641, 642] (by decide +kernel) (by decide +kernel)
set_option maxRecDepth 20000 in
theorem gL_law_X5_family : GoodIn wsL_law (wsV RL 164 RX5 yX5_family wsX5_family) := goodIn_app (goodIn_of _ (by decide +kernel)) ggL_law_X5_family
set_option maxRecDepth 20000 in
theorem ggL_law_X4_families : GoodIn wsL_law wsX4_families := goodIn_r _ [618, 26, 559, 560, 561, 25, 562, 52, 563, 171, 172, 17, 173, 110, 564, 565, 566, 567, 551, 552, 553, 568, 569, 570, 571, 550, 194, 195, 196, 38, 623, 624, 625, 626, 627, 628, 629, 650, 643, 644] (by decide +kernel) (by decide +kernel)
set_option maxRecDepth 20000 in
theorem gL_law_X4_families : GoodIn wsL_law (wsV RL 165 RX4 yX4_families wsX4_families) := goodIn_app (goodIn_of _ (by decide +kernel)) ggL_law_X4_families
set_option maxRecDepth 20000 in
theorem ggL_law_X5_families : GoodIn wsL_law wsX5_families := goodIn_r _ [622, 131, 580, 581, 582, 5, 583, 120, 584, 585, 586, 587, 588, 589, 590, 591, 68, 630, 631, 632, 633, 634, 635, 636, 637, 638, 639, 640, 641, 642] (by decide +kernel) (by decide +kernel)
set_option maxRecDepth 20000 in
theorem gL_law_X5_families : GoodIn wsL_law (wsV RL 168 RX5 yX5_families wsX5_families) := goodIn_app (goodIn_of _ (by decide +kernel)) ggL_law_X5_families

