set_option maxRecDepth 20000 in
theorem ggL_add_X4_add : GoodIn wsL_add wsX4_add := goodIn_ca (goodIn_ca (goodIn_r _ [7, 8, 9, 10, 11, 12, 13, 14, 15, 16, 17, 6, 18, 19, 20, 21, 22, 23, 24, 25, 26, 27, 28, 29, 30, 31, 32, 33, 34, 35, 36, 37, 38, 39, 40, 41, 42, 43, 44, 45, 46, 47, 48, 49, 50, 51, 52, 53, 54, 55, 56, 57, 58, 59, 60, 61, 62, 63, 64, 65, 66, 67, 68, 69, 70, 71, 72, 73, 74, 75] (by decide +kernel) (by decide +kernel)) (goodIn_sub (fun _ h => List.mem_cons_of_mem _ (List.mem_append_left _ (List.mem_append_right _ h))) (by decide +kernel))) (goodIn_sub (fun _ h => List.mem_cons_of_mem _ (List.mem_append_right _ h)) (by decide +kernel))
set_option maxRecDepth 20000 in
theorem gL_add_X4_add : GoodIn wsL_add (wsV RL 7 RX4 yX4_add wsX4_add) := goodIn_app (goodIn_of _ (by decide +kernel)) ggL_add_X4_add
set_option maxRecDepth 20000 in
theorem ggL_note_X4_note : GoodIn wsL_note wsX4_note := goodIn_ca (goodIn_ca (goodIn_ca (goodIn_r _ [8, 9, 10, 11, 12, 13, 7, 14, 15, 16, 17, 18, 19, 20, 21, 22, 23, 24, 25, 26, 27, 28, 29, 30, 31, 32, 33, 34, 35, 36, 37, 38, 39, 40, 41, 42, 43, 44, 45, 46, 47, 48, 49, 50, 51, 52, 53, 54, 55, 56, 57, 58, 59, 60, 61, 62, 63, 64, 65, 66, 67, 68, 69, 70, 71, 72, 73, 74, 75] (by decide +kernel) (by decide +kernel)) (goodIn_sub (fun _ h => List.mem_cons_of_mem _ (List.mem_append_left _ (List.mem_append_left _ (List.mem_append_right _ h)))) (by decide +kernel))) (goodIn_sub (fun _ h => List.mem_cons_of_mem _ (List.mem_append_left _ (List.mem_append_right _ h))) (by decide +kernel))) (goodIn_sub (fun _ h => List.mem_cons_of_mem _ (List.mem_append_right _ h)) (by decide +kernel))
set_option maxRecDepth 20000 in
theorem gL_note_X4_note : GoodIn wsL_note (wsV RL 17 RX4 yX4_note wsX4_note) := goodIn_app (goodIn_of _ (by decide +kernel)) ggL_note_X4_note
set_option maxRecDepth 20000 in
theorem ggL_correct_X4_correct : GoodIn wsL_correct wsX4_correct := goodIn_ca (goodIn_ca (goodIn_r _ [7, 8, 9, 10, 11, 12, 6, 13, 14, 15, 16, 17, 18, 19, 20, 21, 22, 23, 24, 25, 26, 27, 28, 29, 30, 31, 32, 33, 34, 35, 36, 37, 38, 39, 40, 41, 42, 43, 44, 45, 46, 47, 48, 49, 50, 51, 52, 53, 54, 55, 56, 57, 58, 59, 60, 61, 62, 63, 64, 65, 66, 67] (by decide +kernel) (by decide +kernel)) (goodIn_sub (fun _ h => List.mem_cons_of_mem _ (List.mem_append_left _ (List.mem_append_right _ h))) (by decide +kernel))) (goodIn_sub (fun _ h => List.mem_cons_of_mem _ (List.mem_append_right _ h)) (by decide +kernel))
set_option maxRecDepth 20000 in
theorem gL_correct_X4_correct : GoodIn wsL_correct (wsV RL 23 RX4 yX4_correct wsX4_correct) := goodIn_app (goodIn_of _ (by decide +kernel)) ggL_correct_X4_correct
set_option maxRecDepth 20000 in
theorem ggL_shift_X4_shift : GoodIn wsL_shift wsX4_shift := goodIn_ca (goodIn_ca (goodIn_ca (goodIn_r _ [8, 9, 10, 11, 12, 13, 7, 14, 15, 16, 17, 18, 19, 20, 21, 22, 23, 24, 25, 26, 27, 28, 29, 30, 31, 32, 33, 34, 35, 36, 37, 38, 39, 40, 41, 42, 43, 44, 45, 46, 47, 48, 49, 50, 51, 52, 53, 54, 55, 56, 57, 58, 59, 60, 61, 62, 63, 64, 65, 66, 67] (by decide +kernel) (by decide +kernel)) (goodIn_sub (fun _ h => List.mem_cons_of_mem _ (List.mem_append_left _ (List.mem_append_left _ (List.mem_append_right _ h)))) (by decide +kernel))) (goodIn_sub (fun _ h => List.mem_cons_of_mem _ (List.mem_append_left _ (List.mem_append_right _ h))) (by decide +kernel))) (goodIn_sub (fun _ h => List.mem_cons_of_mem _ (List.mem_append_right _ h)) (by decide +kernel))
set_option maxRecDepth 20000 in
theorem gL_shift_X4_shift : GoodIn wsL_shift (wsV RL 27 RX4 yX4_shift wsX4_shift) := goodIn_app (goodIn_of _ (by decide +kernel)) ggL_shift_X4_shift
set_option maxRecDepth 20000 in
theorem ggL_retire_X4_retire : GoodIn wsL_retire wsX4_retire := goodIn_ca (goodIn_r _ [6, 7, 8, 9, 10, 5, 11, 12, 13, 14, 15, 16, 17, 18, 19, 20, 21, 22, 23, 24, 25, 26, 27, 28, 29, 30, 31, 32] (by decide +kernel) (by decide +kernel)) (goodIn_sub (fun _ h => List.mem_cons_of_mem _ (List.mem_append_right _ h)) (by decide +kernel))
set_option maxRecDepth 20000 in
theorem gL_retire_X4_retire : GoodIn wsL_retire (wsV RL 31 RX4 yX4_retire wsX4_retire) := goodIn_app (goodIn_of _ (by decide +kernel)) ggL_retire_X4_retire
set_option maxRecDepth 20000 in
theorem ggL_notes_X4_notes : GoodIn wsL_notes wsX4_notes := goodIn_ca (goodIn_r _ [6, 7, 8, 9, 5, 10, 11, 12, 13, 14, 15, 16, 17, 18, 19, 20, 21, 22, 23, 24, 25, 26, 27, 28, 29, 30, 31, 32, 33, 34, 35, 36, 37, 38, 39, 40, 41, 42] (by decide +kernel) (by decide +kernel)) (goodIn_sub (fun _ h => List.mem_cons_of_mem _ (List.mem_append_right _ h)) (by decide +kernel))
set_option maxRecDepth 20000 in
theorem gL_notes_X4_notes : GoodIn wsL_notes (wsV RL 35 RX4 yX4_notes wsX4_notes) := goodIn_app (goodIn_of _ (by decide +kernel)) ggL_notes_X4_notes
set_option maxRecDepth 20000 in
theorem ggL_step_X4_step : GoodIn wsL_step wsX4_step := goodIn_ca (goodIn_r _ [6, 7, 8, 9, 10, 11, 5, 12, 13, 14, 15, 16, 17, 18, 19, 20, 21, 22, 23, 24, 25, 26, 27, 28, 29, 30, 31, 32, 33, 34, 35, 36, 37, 38, 39, 40, 41, 42, 43, 44, 45, 46, 47, 48, 49, 50, 51] (by decide +kernel) (by decide +kernel)) (goodIn_sub (fun _ h => List.mem_cons_of_mem _ (List.mem_append_right _ h)) (by decide +kernel))
set_option maxRecDepth 20000 in
theorem gL_step_X4_step : GoodIn wsL_step (wsV RL 38 RX4 yX4_step wsX4_step) := goodIn_app (goodIn_of _ (by decide +kernel)) ggL_step_X4_step
set_option maxRecDepth 20000 in
theorem ggL_shared_X4_shared : GoodIn wsL_shared wsX4_shared := goodIn_ca (goodIn_r _ [6, 7, 8, 9, 10, 11, 12, 13, 5, 14, 15, 16, 17, 18, 19, 20, 21, 22, 23, 24, 25, 26, 27, 28, 29, 30, 31, 32, 33, 34, 35, 36, 37, 38, 39, 40, 41, 42, 43, 44, 45, 46, 47, 48, 49, 50, 51, 52, 53, 54, 55, 56] (by decide +kernel) (by decide +kernel)) (goodIn_sub (fun _ h => List.mem_cons_of_mem _ (List.mem_append_right _ h)) (by decide +kernel))
set_option maxRecDepth 20000 in
theorem gL_shared_X4_shared : GoodIn wsL_shared (wsV RL 41 RX4 yX4_shared wsX4_shared) := goodIn_app (goodIn_of _ (by decide +kernel)) ggL_shared_X4_shared
set_option maxRecDepth 20000 in
theorem ggL_hum_X4_hum : GoodIn wsL_hum wsX4_hum := goodIn_ca (goodIn_ca (goodIn_r _ [7, 8, 9, 10, 11, 12, 6, 13, 14, 15, 16, 17, 18, 19, 20, 21, 22, 23, 24, 25, 26, 27, 28, 29, 30, 31, 32, 33, 34, 35, 36, 37, 38, 39, 40, 41, 42] (by decide +kernel) (by decide +kernel)) (goodIn_sub (fun _ h => List.mem_cons_of_mem _ (List.mem_append_left _ (List.mem_append_right _ h))) (by decide +kernel))) (goodIn_sub (fun _ h => List.mem_cons_of_mem _ (List.mem_append_right _ h)) (by decide +kernel))
set_option maxRecDepth 20000 in
theorem gL_hum_X4_hum : GoodIn wsL_hum (wsV RL 44 RX4 yX4_hum wsX4_hum) := goodIn_app (goodIn_of _ (by decide +kernel)) ggL_hum_X4_hum
set_option maxRecDepth 20000 in
theorem ggL_setCosts_X4_setCosts : GoodIn wsL_setCosts wsX4_setCosts := goodIn_ca (goodIn_r _ [6, 7, 8, 9, 5, 10, 11, 12, 13, 14, 15, 16, 17, 18, 19, 20, 21, 22, 23, 24, 25, 26, 27] (by decide +kernel) (by decide +kernel)) (goodIn_sub (fun _ h => List.mem_cons_of_mem _ (List.mem_append_right _ h)) (by decide +kernel))
set_option maxRecDepth 20000 in
theorem gL_setCosts_X4_setCosts : GoodIn wsL_setCosts (wsV RL 47 RX4 yX4_setCosts wsX4_setCosts) := goodIn_app (goodIn_of _ (by decide +kernel)) ggL_setCosts_X4_setCosts
set_option maxRecDepth 20000 in
theorem ggL_cost_X4_cost : GoodIn wsL_cost wsX4_cost := goodIn_ca (goodIn_r _ [6, 7, 8, 9, 10, 5, 11, 12, 13, 14, 15, 16, 17, 18, 19, 20, 21, 22, 23, 24, 25, 26, 27, 28, 29, 30, 31, 32, 33, 34, 35, 36, 37, 38, 39, 40, 41, 42, 43, 44, 45, 46, 47, 48, 49, 50, 51, 52, 53, 54, 55, 56, 57, 58, 59, 60, 61, 62, 63, 64, 65, 66, 67, 68, 69, 70, 71, 72, 73, 74, 75, 76, 77, 78, 79, 80, 81, 82, 83, 84, 85, 86, 87, 88, 89, 90, 91, 92, 93, 94, 95, 96, 97, 98, 99, 100, 101, 102, 103] (by decide +kernel) (by decide +kernel)) (goodIn_sub (fun _ h => List.mem_cons_of_mem _ (List.mem_append_right _ h)) (by decide +kernel))
set_option maxRecDepth 20000 in
theorem gL_cost_X4_cost : GoodIn wsL_cost (wsV RL 51 RX4 yX4_cost wsX4_cost) := goodIn_app (goodIn_of _ (by decide +kernel)) ggL_cost_X4_cost
set_option maxRecDepth 20000 in
theorem ggL_costByAll_X4_costByAll : GoodIn wsL_costByAll wsX4_costByAll := goodIn_ca (goodIn_ca (goodIn_r _ [7, 8, 9, 10, 11, 12, 13, 14, 6, 15, 16, 17, 18, 19, 20, 21, 22, 23, 24, 25, 26, 27, 28, 29, 30, 31, 32, 33, 34, 35, 36, 37, 38, 39, 40, 41, 42, 43, 44, 45, 46, 47, 48, 49, 50, 51, 52, 53, 54, 55, 56, 57, 58, 59, 60, 61, 62, 63, 64, 65, 66, 67, 68, 69, 70, 71, 72, 73, 74, 75, 76, 77, 78, 79, 80, 81, 82, 83, 84, 85, 86, 87, 88, 89, 90, 91, 92, 93, 94, 95, 96, 97] (by decide +kernel) (by decide +kernel)) (goodIn_sub (fun _ h => List.mem_cons_of_mem _ (List.mem_append_left _ (List.mem_append_right _ h))) (by decide +kernel))) (goodIn_sub (fun _ h => List.mem_cons_of_mem _ (List.mem_append_right _ h)) (by decide +kernel))
set_option maxRecDepth 20000 in
theorem gL_costByAll_X4_costByAll : GoodIn wsL_costByAll (wsV RL 54 RX4 yX4_costByAll wsX4_costByAll) := goodIn_app (goodIn_of _ (by decide +kernel)) ggL_costByAll_X4_costByAll
set_option maxRecDepth 20000 in
theorem ggL_found_X4_found : GoodIn wsL_found wsX4_found := goodIn_ca (goodIn_r _ [6, 7, 8, 9, 10, 11, 12, 5, 13, 14, 15, 16, 17, 18, 19, 20, 21, 22, 23, 24, 25, 26, 27, 28, 29, 30, 31, 32, 33, 34, 35, 36, 37, 38, 39, 40, 41, 42, 43, 44, 45, 46, 47, 48, 49, 50, 51, 52, 53, 54, 55, 56, 57, 58, 59, 60, 61, 62, 63, 64, 65, 66, 67, 68, 69, 70, 71, 72, 73, 74, 75, 76, 77, 78, 79, 80, 81, 82, 83, 84, 85, 86, 87, 88, 89, 90, 91, 92, 93, 94, 95, 96, 97, 98, 99, 100, 101, 102, 103, 104, 105, 106, 107, 108, 109, 110, 111, 112, 113, 114, 115, 116, 117, 118] (by decide +kernel) (by decide +kernel)) (goodIn_sub (fun _ h => List.mem_cons_of_mem _ (List.mem_append_right _ h)) (by decide +kernel))
set_option maxRecDepth 20000 in
theorem gL_found_X4_found : GoodIn wsL_found (wsV RL 57 RX4 yX4_found wsX4_found) := goodIn_app (goodIn_of _ (by decide +kernel)) ggL_found_X4_found
set_option maxRecDepth 20000 in
theorem ggL_places_X4_places : GoodIn wsL_places wsX4_places := goodIn_ca (goodIn_ca (goodIn_r _ [7, 8, 9, 10, 11, 6, 12, 13, 14, 15, 16, 17, 18, 19, 20, 21, 22, 23, 24, 25, 26, 27, 28, 29, 30, 31, 32, 33, 34, 35, 36, 37, 38, 39, 40, 41, 42, 43, 44, 45, 46, 47, 48, 49, 50, 51, 52, 53, 54, 55, 56, 57, 58, 59, 60, 61, 62, 63, 64, 65, 66, 67, 68, 69, 70, 71, 72, 73, 74, 75, 76, 77, 78, 79, 80, 81, 82, 83, 84] (by decide +kernel) (by decide +kernel)) (goodIn_sub (fun _ h => List.mem_cons_of_mem _ (List.mem_append_left _ (List.mem_append_right _ h))) (by decide +kernel))) (goodIn_sub (fun _ h => List.mem_cons_of_mem _ (List.mem_append_right _ h)) (by decide +kernel))
set_option maxRecDepth 20000 in
theorem gL_places_X4_places : GoodIn wsL_places (wsV RL 60 RX4 yX4_places wsX4_places) := goodIn_app (goodIn_of _ (by decide +kernel)) ggL_places_X4_places
set_option maxRecDepth 20000 in
theorem ggL_place_X4_place : GoodIn wsL_place wsX4_place := goodIn_ca (goodIn_ca (goodIn_ca (goodIn_r _ [8, 9, 10, 11, 12, 13, 14, 7, 15, 16, 17, 18, 19, 20, 21, 22, 23, 24, 25, 26, 27, 28, 29, 30, 31, 32, 33, 34, 35, 36, 37, 38, 39, 40, 41, 42, 43, 44, 45, 46, 47, 48, 49, 50, 51, 52, 53, 54, 55, 56, 57, 58, 59, 60, 61, 62, 63, 64, 65, 66, 67, 68, 69, 70, 71, 72, 73, 74, 75, 76, 77, 78, 79, 80, 81, 82, 83, 84, 85, 86, 87, 88] (by decide +kernel) (by decide +kernel)) (goodIn_sub (fun _ h => List.mem_cons_of_mem _ (List.mem_append_left _ (List.mem_append_left _ (List.mem_append_right _ h)))) (by decide +kernel))) (goodIn_sub (fun _ h => List.mem_cons_of_mem _ (List.mem_append_left _ (List.mem_append_right _ h))) (by decide +kernel))) (goodIn_sub (fun _ h => List.mem_cons_of_mem _ (List.mem_append_right _ h)) (by decide +kernel))
set_option maxRecDepth 20000 in
theorem gL_place_X4_place : GoodIn wsL_place (wsV RL 63 RX4 yX4_place wsX4_place) := goodIn_app (goodIn_of _ (by decide +kernel)) ggL_place_X4_place
set_option maxRecDepth 20000 in
theorem ggL_link_X4_link : GoodIn wsL_link wsX4_link := goodIn_ca (goodIn_ca (goodIn_ca (goodIn_r _ [8, 9, 10, 11, 12, 13, 14, 15, 16, 7, 17, 18, 19, 20, 21, 22, 23, 24, 25, 26, 27, 28, 29, 30, 31, 32, 33, 34, 35, 36, 37, 38, 39, 40, 41, 42, 43, 44, 45, 46, 47, 48, 49, 50, 51, 52, 53, 54, 55, 56, 57, 58, 59, 60, 61, 62, 63, 64, 65, 66, 67, 68, 69, 70, 71, 72, 73, 74, 75, 76, 77, 78, 79] (by decide +kernel) (by decide +kernel)) (goodIn_sub (fun _ h => List.mem_cons_of_mem _ (List.mem_append_left _ (List.mem_append_left _ (List.mem_append_right _ h)))) (by decide +kernel))) (goodIn_sub (fun _ h => List.mem_cons_of_mem _ (List.mem_append_left _ (List.mem_append_right _ h))) (by decide +kernel))) (goodIn_sub (fun _ h => List.mem_cons_of_mem _ (List.mem_append_right _ h)) (by decide +kernel))
set_option maxRecDepth 20000 in
theorem gL_link_X4_link : GoodIn wsL_link (wsV RL 66 RX4 yX4_link wsX4_link) := goodIn_app (goodIn_of _ (by decide +kernel)) ggL_link_X4_link
set_option maxRecDepth 20000 in
theorem ggL_cut_X4_cut : GoodIn wsL_cut wsX4_cut := goodIn_ca (goodIn_ca (goodIn_r _ [7, 8, 9, 10, 11, 12, 13, 6, 14, 15, 16, 17, 18, 19, 20, 21, 22, 23, 24, 25, 26, 27, 28, 29, 30, 31, 32, 33, 34, 35, 36, 37, 38, 39, 40, 41, 42, 43, 44, 45, 46, 47, 48, 49, 50, 51, 52, 53, 54, 55, 56, 57, 58, 59, 60, 61, 62, 63, 64, 65, 66, 67, 68, 69, 70, 71, 72, 73, 74, 75, 76] (by decide +kernel) (by decide +kernel)) (goodIn_sub (fun _ h => List.mem_cons_of_mem _ (List.mem_append_left _ (List.mem_append_right _ h))) (by decide +kernel))) (goodIn_sub (fun _ h => List.mem_cons_of_mem _ (List.mem_append_right _ h)) (by decide +kernel))
set_option maxRecDepth 20000 in
theorem gL_cut_X4_cut : GoodIn wsL_cut (wsV RL 69 RX4 yX4_cut wsX4_cut) := goodIn_app (goodIn_of _ (by decide +kernel)) ggL_cut_X4_cut
set_option maxRecDepth 20000 in
theorem ggL_family_X4_family : GoodIn wsL_family wsX4_family := goodIn_ca (goodIn_r _ [6, 7, 8, 9, 10, 5, 11, 12, 13, 14, 15, 16, 17, 18, 19, 20, 21, 22, 23, 24, 25, 26, 27, 28, 29, 30, 31, 32, 33, 34, 35, 36, 37, 38, 39, 40, 41, 42, 43, 44, 45, 46, 47, 48, 49, 50, 51, 52, 53] (by decide +kernel) (by decide +kernel)) (goodIn_sub (fun _ h => List.mem_cons_of_mem _ (List.mem_append_right _ h)) (by decide +kernel))
set_option maxRecDepth 20000 in
theorem gL_family_X4_family : GoodIn wsL_family (wsV RL 72 RX4 yX4_family wsX4_family) := goodIn_app (goodIn_of _ (by decide +kernel)) ggL_family_X4_family
set_option maxRecDepth 20000 in
theorem ggL_law_X4_init : GoodIn wsL_law wsX4_init := goodIn_r _ [9, 10, 11, 12, 13, 14, 15, 16, 17, 18, 19, 20, 21, 22, 23, 24, 25, 26, 27, 28, 29, 30, 31, 32, 33, 34, 35, 36, 37, 38, 39, 40, 41, 42, 43, 44, 45, 46, 47, 48, 49, 50, 51, 52, 53, 54, 624, 625, 626, 627, 628, 629, 630, 644, 645, 646, 647, 648, 649, 650, 651] (by decide +kernel) (by decide +kernel)
set_option maxRecDepth 20000 in
theorem gL_law_X4_init : GoodIn wsL_law (wsX4_init) := ggL_law_X4_init
set_option maxRecDepth 20000 in
theorem ggL_law_X5_init : GoodIn wsL_law wsX5_init := goodIn_r _ [57, 58, 11, 12, 37, 59, 60, 61, 62, 63, 64, 65, 66, 67, 68, 69, 631, 632, 633, 634, 635, 636, 637, 638, 639, 640, 641, 642, 643] (by decide +kernel) (by decide +kernel)
set_option maxRecDepth 20000 in
theorem gL_law_X5_init : GoodIn wsL_law (wsX5_init) := ggL_law_X5_init
set_option maxRecDepth 20000 in
theorem ggL_law_L_add : GoodIn wsL_law wsL_add := goodIn_ca (goodIn_ca (goodIn_r _ [73, 74, 75, 76, 77, 78, 2, 79, 80, 81, 82, 14, 13, 83, 84, 23, 85, 86, 87, 88, 89, 90, 91, 92, 93, 94, 95, 96, 97, 98, 11, 12, 99, 25, 26, 100, 101, 102, 40, 41, 42, 43, 44, 45, 46, 37, 47, 103, 104, 105, 106, 107, 108, 109, 110, 111, 112, 113, 114, 22, 115, 52, 116, 624, 625, 626, 627, 628, 629, 630, 652, 653, 654, 650, 651, 649] (by decide +kernel) (by decide +kernel)) (goodIn_sub (fun _ h => List.mem_append_left _ (List.mem_append_left _ (List.mem_append_right _ h))) (by decide +kernel))) (goodIn_sub (fun _ h => List.mem_append_left _ (List.mem_append_right _ h)) (by decide +kernel))
set_option maxRecDepth 20000 in
theorem gL_law_L_add : GoodIn wsL_law (va_wsS RL 79 yL_add wsL_add) := goodIn_app (goodIn_of _ (by decide +kernel)) ggL_law_L_add
set_option maxRecDepth 20000 in
theorem ggL_law_X5_add : GoodIn wsL_law wsX5_add := goodIn_r _ [120, 121, 61, 122, 123, 5, 124, 125, 126, 127, 128, 129, 130, 131, 132, 133, 134, 135, 136, 59, 60, 631, 632, 633, 634, 635, 636, 637, 638, 639, 640, 641, 642, 643] (by decide +kernel) (by decide +kernel)
set_option maxRecDepth 20000 in
theorem gL_law_X5_add : GoodIn wsL_law (wsV RL 84 RX5 yX5_add wsX5_add) := goodIn_app (goodIn_of _ (by decide +kernel)) ggL_law_X5_add
set_option maxRecDepth 20000 in
theorem ggL_law_X5_thrown : GoodIn wsL_law wsX5_thrown := goodIn_r _ [140, 132, 631, 632, 633, 634, 635, 636, 637, 638, 639, 640, 641, 642, 643] (by decide +kernel) (by decide +kernel)
set_option maxRecDepth 20000 in
theorem gL_law_X5_thrown : GoodIn wsL_law (wsV RL 85 RX5 yX5_thrown wsX5_thrown) := goodIn_app (goodIn_of _ (by decide +kernel)) ggL_law_X5_thrown
set_option maxRecDepth 20000 in
theorem ggL_law_L_note : GoodIn wsL_law wsL_note := goodIn_ca (goodIn_ca (goodIn_ca (goodIn_r _ [143, 144, 74, 75, 145, 146, 147, 2, 148, 80, 81, 149, 150, 151, 152, 153, 154, 155, 156, 157, 158, 159, 160, 161, 162, 82, 14, 85, 86, 87, 88, 89, 90, 91, 92, 93, 94, 95, 163, 164, 165, 26, 166, 111, 47, 103, 104, 105, 84, 106, 100, 101, 107, 108, 109, 110, 167, 168, 169, 170, 171, 172, 173, 174, 652, 653, 654, 624, 625, 626, 627, 628, 629, 630, 650, 651] (by decide +kernel) (by decide +kernel)) (goodIn_sub (fun _ h => List.mem_append_left _ (List.mem_append_left _ (List.mem_append_right _ h))) (by decide +kernel))) (goodIn_sub (fun _ h => List.mem_append_right _ h) (by decide +kernel))) (goodIn_sub (fun _ h => List.mem_append_left _ (List.mem_append_right _ h)) (by decide +kernel))
set_option maxRecDepth 20000 in
theorem gL_law_L_note : GoodIn wsL_law (va_wsS RL 89 yL_note wsL_note) := goodIn_app (goodIn_of _ (by decide +kernel)) ggL_law_L_note
set_option maxRecDepth 20000 in
theorem ggL_law_X5_note : GoodIn wsL_law wsX5_note := goodIn_r _ [178, 61, 179, 180, 181, 5, 182, 63, 183, 184, 185, 186, 121, 125, 126, 127, 122, 123, 124, 128, 129, 130, 131, 132, 133, 134, 135, 136, 59, 60, 631, 632, 633, 634, 635, 636, 637, 638, 639, 640, 641, 642, 643] (by decide +kernel) (by decide +kernel)
set_option maxRecDepth 20000 in
theorem gL_law_X5_note : GoodIn wsL_law (wsV RL 92 RX5 yX5_note wsX5_note) := goodIn_app (goodIn_of _ (by decide +kernel)) ggL_law_X5_note
set_option maxRecDepth 20000 in
theorem ggL_law_L_correct : GoodIn wsL_law wsL_correct := goodIn_ca (goodIn_ca (goodIn_r _ [189, 144, 74, 190, 191, 192, 2, 193, 153, 154, 149, 150, 151, 152, 155, 156, 157, 158, 159, 160, 161, 162, 82, 14, 167, 168, 169, 84, 170, 100, 171, 172, 173, 26, 174, 111, 85, 86, 87, 88, 89, 90, 91, 92, 93, 94, 95, 194, 195, 196, 197, 47, 198, 199, 200, 201, 652, 653, 654, 624, 625, 626, 627, 628, 629, 630, 650, 651] (by decide +kernel) (by decide +kernel)) (goodIn_sub (fun _ h => List.mem_append_right _ h) (by decide +kernel))) (goodIn_sub (fun _ h => List.mem_append_left _ (List.mem_append_right _ h)) (by decide +kernel))
set_option maxRecDepth 20000 in
theorem gL_law_L_correct : GoodIn wsL_law (va_wsS RL 93 yL_correct wsL_correct) := goodIn_app (goodIn_of _ (by decide +kernel)) ggL_law_L_correct
set_option maxRecDepth 20000 in
theorem ggL_law_X5_correct : GoodIn wsL_law wsX5_correct := goodIn_r _ [205, 61, 59, 179, 180, 181, 5, 182, 63, 183, 184, 185, 186, 121, 125, 126, 127, 122, 123, 124, 128, 129, 130, 131, 132, 133, 134, 135, 136, 60, 631, 632, 633, 634, 635, 636, 637, 638, 639, 640, 641, 642, 643] (by decide +kernel) (by decide +kernel)
set_option maxRecDepth 20000 in
theorem gL_law_X5_correct : GoodIn wsL_law (wsV RL 96 RX5 yX5_correct wsX5_correct) := goodIn_app (goodIn_of _ (by decide +kernel)) ggL_law_X5_correct
set_option maxRecDepth 20000 in
theorem ggL_law_L_shift : GoodIn wsL_law wsL_shift := goodIn_ca (goodIn_ca (goodIn_ca (goodIn_r _ [208, 144, 74, 75, 209, 210, 211, 2, 212, 80, 81, 149, 150, 151, 152, 153, 154, 155, 156, 157, 158, 159, 160, 161, 162, 82, 14, 88, 89, 90, 91, 92, 93, 94, 95, 167, 168, 169, 84, 170, 100, 171, 172, 173, 26, 174, 111, 194, 195, 196, 197, 47, 198, 199, 200, 201, 652, 653, 654, 624, 625, 626, 627, 628, 629, 630, 650, 651] (by decide +kernel) (by decide +kernel)) (goodIn_sub (fun _ h => List.mem_append_left _ (List.mem_append_left _ (List.mem_append_right _ h))) (by decide +kernel))) (goodIn_sub (fun _ h => List.mem_append_right _ h) (by decide +kernel))) (goodIn_sub (fun _ h => List.mem_append_left _ (List.mem_append_right _ h)) (by decide +kernel))
set_option maxRecDepth 20000 in
theorem gL_law_L_shift : GoodIn wsL_law (va_wsS RL 97 yL_shift wsL_shift) := goodIn_app (goodIn_of _ (by decide +kernel)) ggL_law_L_shift
set_option maxRecDepth 20000 in
theorem ggL_law_X5_shift : GoodIn wsL_law wsX5_shift := goodIn_r _ [216, 61, 59, 179, 180, 181, 5, 182, 63, 183, 184, 185, 186, 121, 125, 126, 127, 217, 218, 219, 220, 128, 129, 130, 131, 132, 631, 632, 633, 634, 635, 636, 637, 638, 639, 640, 641, 642, 643] (by decide +kernel) (by decide +kernel)
set_option maxRecDepth 20000 in
theorem gL_law_X5_shift : GoodIn wsL_law (wsV RL 100 RX5 yX5_shift wsX5_shift) := goodIn_app (goodIn_of _ (by decide +kernel)) ggL_law_X5_shift
set_option maxRecDepth 20000 in
theorem ggL_law_L_retire : GoodIn wsL_law wsL_retire := goodIn_ca (goodIn_r _ [223, 144, 224, 225, 226, 2, 227, 82, 149, 150, 151, 152, 153, 154, 155, 156, 157, 158, 159, 160, 161, 162, 14, 652, 653, 654, 624, 625, 626, 627, 628, 629, 630] (by decide +kernel) (by decide +kernel)) (goodIn_sub (fun _ h => List.mem_append_right _ h) (by decide +kernel))
set_option maxRecDepth 20000 in
theorem gL_law_L_retire : GoodIn wsL_law (va_wsS RL 101 yL_retire wsL_retire) := goodIn_app (goodIn_of _ (by decide +kernel)) ggL_law_L_retire
set_option maxRecDepth 20000 in
theorem ggL_law_X5_retire : GoodIn wsL_law wsX5_retire := goodIn_r _ [231, 63, 121, 179, 180, 181, 5, 182, 183, 184, 185, 186, 125, 126, 127, 128, 129, 130, 131, 132, 631, 632, 633, 634, 635, 636, 637, 638, 639, 640, 641, 642, 643] (by decide +kernel) (by decide +kernel)
set_option maxRecDepth 20000 in
theorem gL_law_X5_retire : GoodIn wsL_law (wsV RL 104 RX5 yX5_retire wsX5_retire) := goodIn_app (goodIn_of _ (by decide +kernel)) ggL_law_X5_retire
set_option maxRecDepth 20000 in
theorem ggL_law_X4_tunes : GoodIn wsL_law wsX4_tunes := goodIn_r _ [235, 82, 624, 625, 626, 627, 628, 629, 630] (by decide +kernel) (by decide +kernel)
set_option maxRecDepth 20000 in
theorem gL_law_X4_tunes : GoodIn wsL_law (wsV RL 105 RX4 yX4_tunes wsX4_tunes) := goodIn_app (goodIn_of _ (by decide +kernel)) ggL_law_X4_tunes
set_option maxRecDepth 20000 in
theorem ggL_law_X5_tunes : GoodIn wsL_law wsX5_tunes := goodIn_r _ [239, 132, 121, 631, 632, 633, 634, 635, 636, 637, 638, 639, 640, 641, 642, 643] (by decide +kernel) (by decide +kernel)
set_option maxRecDepth 20000 in
theorem gL_law_X5_tunes : GoodIn wsL_law (wsV RL 108 RX5 yX5_tunes wsX5_tunes) := goodIn_app (goodIn_of _ (by decide +kernel)) ggL_law_X5_tunes
set_option maxRecDepth 20000 in
theorem ggL_law_L_notes : GoodIn wsL_law wsL_notes := goodIn_ca (goodIn_r _ [242, 144, 243, 244, 245, 2, 246, 247, 248, 249, 250, 153, 154, 159, 160, 161, 162, 82, 14, 167, 168, 169, 84, 170, 100, 171, 172, 173, 26, 174, 111, 624, 625, 626, 627, 628, 629, 630, 652, 653, 654, 650, 651] (by decide +kernel) (by decide +kernel)) (goodIn_sub (fun _ h => List.mem_append_right _ h) (by decide +kernel))
set_option maxRecDepth 20000 in
theorem gL_law_L_notes : GoodIn wsL_law (va_wsS RL 109 yL_notes wsL_notes) := goodIn_app (goodIn_of _ (by decide +kernel)) ggL_law_L_notes
set_option maxRecDepth 20000 in
theorem ggL_law_X5_notes : GoodIn wsL_law wsX5_notes := goodIn_r _ [254, 61, 183, 184, 185, 5, 186, 121, 125, 126, 127, 128, 129, 130, 131, 132, 631, 632, 633, 634, 635, 636, 637, 638, 639, 640, 641, 642, 643] (by decide +kernel) (by decide +kernel)
set_option maxRecDepth 20000 in
theorem gL_law_X5_notes : GoodIn wsL_law (wsV RL 111 RX5 yX5_notes wsX5_notes) := goodIn_app (goodIn_of _ (by decide +kernel)) ggL_law_X5_notes
set_option maxRecDepth 20000 in
theorem ggL_law_L_step : GoodIn wsL_law wsL_step := goodIn_ca (goodIn_r _ [257, 144, 258, 259, 260, 2, 261, 153, 154, 247, 248, 249, 250, 159, 160, 161, 162, 82, 14, 167, 168, 169, 84, 170, 100, 171, 172, 173, 26, 174, 111, 262, 263, 264, 265, 266, 195, 196, 197, 47, 652, 653, 654, 624, 625, 626, 627, 628, 629, 630, 650, 651] (by decide +kernel) (by decide +kernel)) (goodIn_sub (fun _ h => List.mem_append_right _ h) (by decide +kernel))
set_option maxRecDepth 20000 in
theorem gL_law_L_step : GoodIn wsL_law (va_wsS RL 112 yL_step wsL_step) := goodIn_app (goodIn_of _ (by decide +kernel)) ggL_law_L_step
set_option maxRecDepth 20000 in
theorem ggL_law_X5_step : GoodIn wsL_law wsX5_step := goodIn_r _ [270, 61, 183, 184, 185, 5, 186, 121, 125, 126, 127, 128, 129, 130, 131, 132, 271, 272, 273, 274, 59, 631, 632, 633, 634, 635, 636, 637, 638, 639, 640, 641, 642, 643] (by decide +kernel) (by decide +kernel)
set_option maxRecDepth 20000 in
theorem gL_law_X5_step : GoodIn wsL_law (wsV RL 114 RX5 yX5_step wsX5_step) := goodIn_app (goodIn_of _ (by decide +kernel)) ggL_law_X5_step
set_option maxRecDepth 20000 in
theorem ggL_law_L_shared : GoodIn wsL_law wsL_shared := goodIn_ca (goodIn_r _ [277, 144, 278, 279, 280, 2, 281, 282, 44, 45, 46, 247, 248, 249, 250, 153, 154, 159, 160, 161, 162, 82, 14, 283, 172, 173, 26, 174, 111, 284, 285, 286, 287, 288, 289, 290, 291, 263, 264, 265, 266, 195, 196, 197, 47, 652, 653, 654, 624, 625, 626, 627, 628, 629, 630, 650, 651] (by decide +kernel) (by decide +kernel)) (goodIn_sub (fun _ h => List.mem_append_right _ h) (by decide +kernel))
set_option maxRecDepth 20000 in
theorem gL_law_L_shared : GoodIn wsL_law (va_wsS RL 115 yL_shared wsL_shared) := goodIn_app (goodIn_of _ (by decide +kernel)) ggL_law_L_shared
set_option maxRecDepth 20000 in
theorem ggL_law_X5_shared : GoodIn wsL_law wsX5_shared := goodIn_r _ [295, 183, 184, 185, 5, 186, 121, 125, 126, 127, 128, 129, 130, 131, 132, 296, 297, 298, 299, 61, 271, 272, 273, 274, 59, 631, 632, 633, 634, 635, 636, 637, 638, 639, 640, 641, 642, 643] (by decide +kernel) (by decide +kernel)
set_option maxRecDepth 20000 in
theorem gL_law_X5_shared : GoodIn wsL_law (wsV RL 117 RX5 yX5_shared wsX5_shared) := goodIn_app (goodIn_of _ (by decide +kernel)) ggL_law_X5_shared
set_option maxRecDepth 20000 in
theorem ggL_law_L_hum : GoodIn wsL_law wsL_hum := goodIn_ca (goodIn_ca (goodIn_r _ [302, 74, 75, 303, 304, 305, 2, 306, 80, 81, 19, 88, 89, 90, 91, 92, 93, 94, 95, 163, 164, 165, 26, 166, 111, 47, 307, 108, 109, 110, 283, 172, 173, 174, 624, 625, 626, 627, 628, 629, 630, 650, 651] (by decide +kernel) (by decide +kernel)) (goodIn_sub (fun _ h => List.mem_append_left _ (List.mem_append_left _ (List.mem_append_right _ h))) (by decide +kernel))) (goodIn_sub (fun _ h => List.mem_append_left _ (List.mem_append_right _ h)) (by decide +kernel))
set_option maxRecDepth 20000 in
theorem gL_law_L_hum : GoodIn wsL_law (va_wsS RL 118 yL_hum wsL_hum) := goodIn_app (goodIn_of _ (by decide +kernel)) ggL_law_L_hum
set_option maxRecDepth 20000 in
theorem ggL_law_X5_hum : GoodIn wsL_law wsX5_hum := goodIn_r _ [311, 312, 64, 125, 126, 5, 127, 128, 129, 130, 131, 132, 631, 632, 633, 634, 635, 636, 637, 638, 639, 640, 641, 642, 643] (by decide +kernel) (by decide +kernel)
set_option maxRecDepth 20000 in
theorem gL_law_X5_hum : GoodIn wsL_law (wsV RL 120 RX5 yX5_hum wsX5_hum) := goodIn_app (goodIn_of _ (by decide +kernel)) ggL_law_X5_hum
set_option maxRecDepth 20000 in
theorem ggL_law_X4_hush : GoodIn wsL_law wsX4_hush := goodIn_r _ [316, 19, 283, 172, 173, 26, 174, 111, 317, 318, 319, 320, 624, 625, 626, 627, 628, 629, 630, 650, 651] (by decide +kernel) (by decide +kernel)
set_option maxRecDepth 20000 in
theorem gL_law_X4_hush : GoodIn wsL_law (wsV RL 121 RX4 yX4_hush wsX4_hush) := goodIn_app (goodIn_of _ (by decide +kernel)) ggL_law_X4_hush
set_option maxRecDepth 20000 in
theorem ggL_law_X5_hush : GoodIn wsL_law wsX5_hush := goodIn_r _ [324, 132, 312, 631, 632, 633, 634, 635, 636, 637, 638, 639, 640, 641, 642, 643] (by decide +kernel) (by decide +kernel)
set_option maxRecDepth 20000 in
theorem gL_law_X5_hush : GoodIn wsL_law (wsV RL 124 RX5 yX5_hush wsX5_hush) := goodIn_app (goodIn_of _ (by decide +kernel)) ggL_law_X5_hush
set_option maxRecDepth 20000 in
theorem ggL_law_X4_hummed : GoodIn wsL_law wsX4_hummed := goodIn_r _ [328, 19, 283, 172, 173, 26, 174, 111, 624, 625, 626, 627, 628, 629, 630, 650, 651] (by decide +kernel) (by decide +kernel)
set_option maxRecDepth 20000 in
theorem gL_law_X4_hummed : GoodIn wsL_law (wsV RL 125 RX4 yX4_hummed wsX4_hummed) := goodIn_app (goodIn_of _ (by decide +kernel)) ggL_law_X4_hummed
set_option maxRecDepth 20000 in
theorem ggL_law_X5_hummed : GoodIn wsL_law wsX5_hummed := goodIn_r _ [332, 132, 312, 631, 632, 633, 634, 635, 636, 637, 638, 639, 640, 641, 642, 643] (by decide +kernel) (by decide +kernel)
set_option maxRecDepth 20000 in
theorem gL_law_X5_hummed : GoodIn wsL_law (wsV RL 128 RX5 yX5_hummed wsX5_hummed) := goodIn_app (goodIn_of _ (by decide +kernel)) ggL_law_X5_hummed
set_option maxRecDepth 20000 in
theorem ggL_law_L_setCosts : GoodIn wsL_law wsL_setCosts := goodIn_ca (goodIn_r _ [335, 74, 336, 337, 338, 2, 339, 18, 88, 89, 90, 91, 92, 93, 94, 95, 624, 625, 626, 627, 628, 629, 630, 644, 645, 646, 647, 648] (by decide +kernel) (by decide +kernel)) (goodIn_sub (fun _ h => List.mem_append_left _ (List.mem_append_right _ h)) (by decide +kernel))
set_option maxRecDepth 20000 in
theorem gL_law_L_setCosts : GoodIn wsL_law (va_wsS RL 129 yL_setCosts wsL_setCosts) := goodIn_app (goodIn_of _ (by decide +kernel)) ggL_law_L_setCosts
set_option maxRecDepth 20000 in
theorem ggL_law_X5_setCosts : GoodIn wsL_law wsX5_setCosts := goodIn_r _ [343, 65, 66, 67, 125, 126, 5, 127, 128, 129, 130, 131, 132, 631, 632, 633, 634, 635, 636, 637, 638, 639, 640, 641, 642, 643] (by decide +kernel) (by decide +kernel)
set_option maxRecDepth 20000 in
theorem gL_law_X5_setCosts : GoodIn wsL_law (wsV RL 132 RX5 yX5_setCosts wsX5_setCosts) := goodIn_app (goodIn_of _ (by decide +kernel)) ggL_law_X5_setCosts
set_option maxRecDepth 20000 in
theorem ggL_law_L_cost : GoodIn wsL_law wsL_cost := goodIn_ca (goodIn_r _ [346, 144, 347, 348, 349, 2, 350, 18, 149, 150, 151, 152, 153, 154, 155, 156, 157, 158, 159, 160, 161, 162, 82, 14, 351, 352, 353, 17, 354, 33, 355, 172, 173, 26, 174, 111, 356, 168, 169, 84, 170, 100, 171, 357, 358, 359, 360, 361, 362, 363, 364, 365, 366, 367, 368, 38, 94, 95, 369, 370, 371, 372, 34, 373, 374, 45, 375, 35, 36, 376, 195, 196, 197, 47, 377, 378, 379, 380, 44, 46, 381, 289, 290, 382, 383, 384, 385, 624, 625, 626, 627, 628, 629, 630, 652, 653, 654, 644, 645, 646, 647, 648, 650, 651] (by decide +kernel) (by decide +kernel)) (goodIn_sub (fun _ h => List.mem_append_right _ h) (by decide +kernel))
set_option maxRecDepth 20000 in
theorem gL_law_L_cost : GoodIn wsL_law (va_wsS RL 133 yL_cost wsL_cost) := goodIn_app (goodIn_of _ (by decide +kernel)) ggL_law_L_cost
set_option maxRecDepth 20000 in
theorem ggL_law_X5_cost : GoodIn wsL_law wsX5_cost := goodIn_r _ [389, 179, 180, 181, 5, 182, 63, 183, 184, 185, 186, 121, 125, 126, 127, 128, 129, 130, 131, 132, 390, 391, 392, 393, 394, 312, 68, 61, 395, 396, 397, 398, 59, 64, 65, 399, 400, 401, 402, 66, 60, 403, 404, 405, 406, 67, 407, 408, 409, 631, 632, 633, 634, 635, 636, 637, 638, 639, 640, 641, 642, 643] (by decide +kernel) (by decide +kernel)
set_option maxRecDepth 20000 in
theorem gL_law_X5_cost : GoodIn wsL_law (wsV RL 135 RX5 yX5_cost wsX5_cost) := goodIn_app (goodIn_of _ (by decide +kernel)) ggL_law_X5_cost
set_option maxRecDepth 20000 in
theorem ggL_law_L_costByAll : GoodIn wsL_law wsL_costByAll := goodIn_ca (goodIn_ca (goodIn_r _ [412, 144, 75, 413, 414, 415, 2, 416, 80, 81, 19, 18, 149, 150, 151, 152, 153, 154, 155, 156, 157, 158, 159, 160, 161, 162, 82, 14, 283, 172, 173, 26, 174, 111, 417, 418, 419, 17, 420, 33, 355, 421, 422, 423, 424, 425, 426, 427, 377, 378, 379, 380, 44, 45, 46, 381, 289, 290, 428, 356, 168, 169, 84, 170, 100, 171, 369, 370, 371, 372, 34, 373, 374, 375, 35, 36, 376, 195, 196, 197, 47, 624, 625, 626, 627, 628, 629, 630, 652, 653, 654, 650, 651, 644, 645, 646, 647, 648] (by decide +kernel) (by decide +kernel)) (goodIn_sub (fun _ h => List.mem_append_left _ (List.mem_append_left _ (List.mem_append_right _ h))) (by decide +kernel))) (goodIn_sub (fun _ h => List.mem_append_right _ h) (by decide +kernel))
set_option maxRecDepth 20000 in
theorem gL_law_L_costByAll : GoodIn wsL_law (va_wsS RL 136 yL_costByAll wsL_costByAll) := goodIn_app (goodIn_of _ (by decide +kernel)) ggL_law_L_costByAll
set_option maxRecDepth 20000 in
theorem ggL_law_X5_costByAll : GoodIn wsL_law wsX5_costByAll := goodIn_r _ [432, 312, 179, 180, 181, 5, 182, 63, 183, 184, 185, 186, 121, 125, 126, 127, 128, 129, 130, 131, 132, 390, 391, 392, 393, 394, 68, 61, 395, 396, 397, 398, 59, 64, 65, 399, 400, 401, 402, 66, 60, 403, 404, 405, 406, 67, 407, 408, 409, 631, 632, 633, 634, 635, 636, 637, 638, 639, 640, 641, 642, 643] (by decide +kernel) (by decide +kernel)
set_option maxRecDepth 20000 in
theorem gL_law_X5_costByAll : GoodIn wsL_law (wsV RL 138 RX5 yX5_costByAll wsX5_costByAll) := goodIn_app (goodIn_of _ (by decide +kernel)) ggL_law_X5_costByAll
set_option maxRecDepth 20000 in
theorem ggL_law_X4_matches : GoodIn wsL_law wsX4_matches := goodIn_r _ [436, 27, 437, 438, 439, 2, 440, 82, 18, 317, 318, 319, 26, 320, 111, 155, 156, 157, 158, 159, 160, 161, 162, 14, 351, 352, 353, 17, 354, 33, 355, 172, 173, 174, 356, 168, 169, 84, 170, 100, 171, 357, 358, 359, 360, 361, 362, 363, 364, 365, 366, 367, 368, 38, 94, 95, 369, 370, 371, 372, 34, 373, 374, 45, 375, 35, 36, 376, 195, 196, 197, 47, 377, 378, 379, 380, 44, 46, 381, 289, 290, 382, 383, 384, 385, 307, 108, 109, 110, 283, 194, 624, 625, 626, 627, 628, 629, 630, 650, 651, 652, 653, 654, 644, 645, 646, 647, 648] (by decide +kernel) (by decide +kernel)
set_option maxRecDepth 20000 in
theorem gL_law_X4_matches : GoodIn wsL_law (wsV RL 139 RX4 yX4_matches wsX4_matches) := goodIn_app (goodIn_of _ (by decide +kernel)) ggL_law_X4_matches
set_option maxRecDepth 20000 in
theorem ggL_law_X5_matches : GoodIn wsL_law wsX5_matches := goodIn_r _ [444, 132, 445, 446, 447, 5, 448, 121, 179, 180, 181, 182, 63, 183, 184, 185, 186, 125, 126, 127, 390, 391, 392, 393, 394, 312, 68, 61, 395, 396, 397, 398, 59, 64, 65, 399, 400, 401, 402, 66, 60, 403, 404, 405, 406, 67, 407, 408, 409, 631, 632, 633, 634, 635, 636, 637, 638, 639, 640, 641, 642, 643] (by decide +kernel) (by decide +kernel)
set_option maxRecDepth 20000 in
theorem gL_law_X5_matches : GoodIn wsL_law (wsV RL 142 RX5 yX5_matches wsX5_matches) := goodIn_app (goodIn_of _ (by decide +kernel)) ggL_law_X5_matches
set_option maxRecDepth 20000 in
theorem ggL_law_L_found : GoodIn wsL_law wsL_found := goodIn_ca (goodIn_r _ [451, 144, 452, 453, 454, 2, 455, 153, 154, 27, 437, 438, 439, 440, 82, 18, 317, 318, 319, 26, 320, 111, 155, 156, 157, 158, 159, 160, 161, 162, 14, 351, 352, 353, 17, 354, 33, 355, 172, 173, 174, 356, 168, 169, 84, 170, 100, 171, 357, 358, 359, 360, 361, 362, 363, 364, 365, 366, 367, 368, 38, 94, 95, 369, 370, 371, 372, 34, 373, 374, 45, 375, 35, 36, 376, 195, 196, 197, 47, 377, 378, 379, 380, 44, 46, 381, 289, 290, 382, 383, 384, 385, 307, 108, 109, 110, 283, 194, 456, 457, 458, 459, 624, 625, 626, 627, 628, 629, 630, 650, 651, 652, 653, 654, 644, 645, 646, 647, 648] (by decide +kernel) (by decide +kernel)) (goodIn_sub (fun _ h => List.mem_append_right _ h) (by decide +kernel))
set_option maxRecDepth 20000 in
theorem gL_law_L_found : GoodIn wsL_law (va_wsS RL 143 yL_found wsL_found) := goodIn_app (goodIn_of _ (by decide +kernel)) ggL_law_L_found
set_option maxRecDepth 20000 in
theorem ggL_law_X5_found : GoodIn wsL_law wsX5_found := goodIn_r _ [463, 445, 446, 447, 5, 448, 121, 179, 180, 181, 182, 63, 183, 184, 185, 186, 125, 126, 127, 390, 391, 392, 393, 394, 312, 68, 61, 395, 396, 397, 398, 59, 64, 65, 399, 400, 401, 402, 66, 60, 403, 404, 405, 406, 67, 407, 408, 409, 128, 129, 130, 131, 132, 464, 465, 466, 467, 631, 632, 633, 634, 635, 636, 637, 638, 639, 640, 641, 642, 643] (by decide +kernel) (by decide +kernel)
set_option maxRecDepth 20000 in
theorem gL_law_X5_found : GoodIn wsL_law (wsV RL 145 RX5 yX5_found wsX5_found) := goodIn_app (goodIn_of _ (by decide +kernel)) ggL_law_X5_found
set_option maxRecDepth 20000 in
theorem ggL_law_X4_likeContour : GoodIn wsL_law wsX4_likeContour := goodIn_r _ [471, 82, 19, 155, 156, 157, 2, 158, 159, 160, 161, 162, 14, 472, 473, 474, 26, 475, 111, 291, 263, 264, 265, 266, 195, 196, 197, 47, 476, 477, 478, 624, 625, 626, 627, 628, 629, 630, 652, 653, 654, 650, 651] (by decide +kernel) (by decide +kernel)
set_option maxRecDepth 20000 in
theorem gL_law_X4_likeContour : GoodIn wsL_law (wsV RL 146 RX4 yX4_likeContour wsX4_likeContour) := goodIn_app (goodIn_of _ (by decide +kernel)) ggL_law_X4_likeContour
set_option maxRecDepth 20000 in
theorem ggL_law_X5_likeContour : GoodIn wsL_law wsX5_likeContour := goodIn_r _ [482, 132, 121, 179, 180, 181, 5, 182, 63, 183, 184, 185, 186, 125, 126, 127, 483, 484, 485, 486, 312, 61, 64, 271, 272, 273, 274, 59, 487, 488, 489, 631, 632, 633, 634, 635, 636, 637, 638, 639, 640, 641, 642, 643] (by decide +kernel) (by decide +kernel)
set_option maxRecDepth 20000 in
theorem gL_law_X5_likeContour : GoodIn wsL_law (wsV RL 149 RX5 yX5_likeContour wsX5_likeContour) := goodIn_app (goodIn_of _ (by decide +kernel)) ggL_law_X5_likeContour
set_option maxRecDepth 20000 in
theorem ggL_law_L_places : GoodIn wsL_law wsL_places := goodIn_ca (goodIn_ca (goodIn_r _ [492, 74, 75, 493, 494, 495, 2, 496, 28, 497, 498, 499, 500, 80, 81, 19, 88, 89, 90, 91, 92, 93, 94, 95, 283, 172, 173, 26, 174, 111, 501, 502, 503, 504, 82, 317, 318, 319, 320, 155, 156, 157, 158, 159, 160, 161, 162, 14, 505, 506, 507, 508, 284, 285, 286, 287, 288, 289, 45, 290, 291, 263, 264, 265, 266, 195, 196, 197, 47, 307, 108, 109, 110, 624, 625, 626, 627, 628, 629, 630, 650, 651, 652, 653, 654] (by decide +kernel) (by decide +kernel)) (goodIn_sub (fun _ h => List.mem_append_left _ (List.mem_append_left _ (List.mem_append_right _ h))) (by decide +kernel))) (goodIn_sub (fun _ h => List.mem_append_left _ (List.mem_append_right _ h)) (by decide +kernel))
set_option maxRecDepth 20000 in
theorem gL_law_L_places : GoodIn wsL_law (va_wsS RL 150 yL_places wsL_places) := goodIn_app (goodIn_of _ (by decide +kernel)) ggL_law_L_places
set_option maxRecDepth 20000 in
theorem ggL_law_X5_places : GoodIn wsL_law wsX5_places := goodIn_r _ [512, 513, 514, 515, 5, 516, 312, 125, 126, 127, 128, 129, 130, 131, 132, 517, 518, 519, 520, 121, 61, 521, 522, 523, 524, 64, 63, 271, 272, 273, 274, 59, 631, 632, 633, 634, 635, 636, 637, 638, 639, 640, 641, 642, 643] (by decide +kernel) (by decide +kernel)
set_option maxRecDepth 20000 in
theorem gL_law_X5_places : GoodIn wsL_law (wsV RL 152 RX5 yX5_places wsX5_places) := goodIn_app (goodIn_of _ (by decide +kernel)) ggL_law_X5_places
set_option maxRecDepth 20000 in
theorem ggL_law_L_place : GoodIn wsL_law wsL_place := goodIn_ca (goodIn_ca (goodIn_ca (goodIn_r _ [527, 74, 75, 144, 528, 529, 530, 2, 531, 153, 154, 28, 497, 498, 499, 500, 80, 81, 19, 88, 89, 90, 91, 92, 93, 94, 95, 283, 172, 173, 26, 174, 111, 501, 502, 503, 504, 82, 317, 318, 319, 320, 155, 156, 157, 158, 159, 160, 161, 162, 14, 505, 506, 507, 508, 284, 285, 286, 287, 288, 289, 45, 290, 291, 263, 264, 265, 266, 195, 196, 197, 47, 307, 108, 109, 110, 194, 624, 625, 626, 627, 628, 629, 630, 650, 651, 652, 653, 654] (by decide +kernel) (by decide +kernel)) (goodIn_sub (fun _ h => List.mem_append_right _ h) (by decide +kernel))) (goodIn_sub (fun _ h => List.mem_append_left _ (List.mem_append_left _ (List.mem_append_right _ h))) (by decide +kernel))) (goodIn_sub (fun _ h => List.mem_append_left _ (List.mem_append_right _ h)) (by decide +kernel))
set_option maxRecDepth 20000 in
theorem gL_law_L_place : GoodIn wsL_law (va_wsS RL 153 yL_place wsL_place) := goodIn_app (goodIn_of _ (by decide +kernel)) ggL_law_L_place
set_option maxRecDepth 20000 in
theorem ggL_law_X5_place : GoodIn wsL_law wsX5_place := goodIn_r _ [535, 61, 513, 514, 515, 5, 516, 312, 125, 126, 127, 517, 518, 519, 520, 121, 521, 522, 523, 524, 64, 63, 271, 272, 273, 274, 59, 128, 129, 130, 131, 132, 631, 632, 633, 634, 635, 636, 637, 638, 639, 640, 641, 642, 643] (by decide +kernel) (by decide +kernel)
set_option maxRecDepth 20000 in
theorem gL_law_X5_place : GoodIn wsL_law (wsV RL 155 RX5 yX5_place wsX5_place) := goodIn_app (goodIn_of _ (by decide +kernel)) ggL_law_X5_place
set_option maxRecDepth 20000 in
theorem ggL_law_L_link : GoodIn wsL_law wsL_link := goodIn_ca (goodIn_ca (goodIn_ca (goodIn_r _ [538, 144, 74, 75, 539, 540, 541, 2, 542, 91, 92, 80, 81, 23, 543, 544, 545, 546, 247, 248, 249, 250, 153, 154, 159, 160, 161, 162, 82, 14, 547, 548, 549, 22, 550, 52, 551, 195, 196, 26, 197, 111, 47, 552, 553, 554, 555, 556, 557, 558, 559, 199, 200, 201, 560, 561, 562, 563, 564, 172, 173, 174, 565, 566, 567, 568, 569, 570, 571, 572, 624, 625, 626, 627, 628, 629, 630, 649, 650, 651] (by decide +kernel) (by decide +kernel)) (goodIn_sub (fun _ h => List.mem_append_left _ (List.mem_append_right _ h)) (by decide +kernel))) (goodIn_sub (fun _ h => List.mem_append_left _ (List.mem_append_left _ (List.mem_append_right _ h))) (by decide +kernel))) (goodIn_sub (fun _ h => List.mem_append_right _ h) (by decide +kernel))
set_option maxRecDepth 20000 in
theorem gL_law_L_link : GoodIn wsL_law (va_wsS RL 156 yL_link wsL_link) := goodIn_app (goodIn_of _ (by decide +kernel)) ggL_law_L_link
set_option maxRecDepth 20000 in
theorem ggL_law_X5_link : GoodIn wsL_law wsX5_link := goodIn_r _ [576, 69, 183, 184, 185, 5, 186, 121, 125, 126, 127, 577, 578, 579, 580, 128, 129, 130, 131, 132, 581, 582, 583, 584, 585, 586, 587, 588, 589, 590, 591, 592, 631, 632, 633, 634, 635, 636, 637, 638, 639, 640, 641, 642, 643] (by decide +kernel) (by decide +kernel)
set_option maxRecDepth 20000 in
theorem gL_law_X5_link : GoodIn wsL_law (wsV RL 158 RX5 yX5_link wsX5_link) := goodIn_app (goodIn_of _ (by decide +kernel)) ggL_law_X5_link
set_option maxRecDepth 20000 in
theorem ggL_law_L_cut : GoodIn wsL_law wsL_cut := goodIn_ca (goodIn_ca (goodIn_r _ [595, 144, 75, 596, 597, 598, 2, 599, 80, 81, 23, 543, 544, 545, 546, 247, 248, 249, 250, 153, 154, 159, 160, 161, 162, 82, 14, 547, 548, 549, 22, 550, 52, 551, 195, 196, 26, 197, 111, 47, 552, 553, 554, 555, 556, 557, 558, 559, 199, 200, 201, 560, 561, 562, 563, 564, 172, 173, 174, 565, 566, 567, 568, 569, 570, 571, 572, 624, 625, 626, 627, 628, 629, 630, 649, 650, 651] (by decide +kernel) (by decide +kernel)) (goodIn_sub (fun _ h => List.mem_append_left _ (List.mem_append_left _ (List.mem_append_right _ h))) (by decide +kernel))) (goodIn_sub (fun _ h => List.mem_append_right _ h) (by decide +kernel))
set_option maxRecDepth 20000 in
theorem gL_law_L_cut : GoodIn wsL_law (va_wsS RL 159 yL_cut wsL_cut) := goodIn_app (goodIn_of _ (by decide +kernel)) ggL_law_L_cut
set_option maxRecDepth 20000 in
theorem ggL_law_X5_cut : GoodIn wsL_law wsX5_cut := goodIn_r _ [603, 69, 183, 184, 185, 5, 186, 121, 125, 126, 127, 577, 578, 579, 580, 128, 129, 130, 131, 132, 581, 582, 583, 584, 585, 586, 587, 588, 589, 590, 591, 592, 631, 632, 633, 634, 635, 636, 637, 638, 639, 640, 641, 642, 643] (by decide +kernel) (by decide +kernel)
set_option maxRecDepth 20000 in
theorem gL_law_X5_cut : GoodIn wsL_law (wsV RL 161 RX5 yX5_cut wsX5_cut) := goodIn_app (goodIn_of _ (by decide +kernel)) ggL_law_X5_cut
set_option maxRecDepth 20000 in
theorem ggL_law_L_family : GoodIn wsL_law wsL_family := goodIn_ca (goodIn_r _ [606, 144, 607, 608, 609, 2, 610, 23, 247, 248, 249, 250, 153, 154, 159, 160, 161, 162, 82, 14, 611, 566, 567, 22, 568, 52, 552, 553, 554, 564, 172, 173, 26, 174, 111, 569, 570, 571, 572, 551, 195, 196, 197, 47, 624, 625, 626, 627, 628, 629, 630, 649, 650, 651] (by decide +kernel) (by decide +kernel)) (goodIn_sub (fun _ h => List.mem_append_right _ h) (by decide +kernel))
set_option maxRecDepth 20000 in
theorem gL_law_L_family : GoodIn wsL_law (va_wsS RL 162 yL_family wsL_family) := goodIn_app (goodIn_of _ (by decide +kernel)) ggL_law_L_family
set_option maxRecDepth 20000 in
theorem ggL_law_X5_family : GoodIn wsL_law wsX5_family := goodIn_r _ [615, 183, 184, 185, 5, 186, 121, 125, 126, 127, 128, 129, 130, 131, 132, 585, 586, 587, 588, 589, 590, 591, 592, 69, 631, 632, 633, 634, 635, 636, 637, 638, 639, 640, 641, 642, 643] (by decide +kernel) (by decide +kernel)
set_option maxRecDepth 20000 in
theorem gL_law_X5_family : GoodIn wsL_law (wsV RL 164 RX5 yX5_family wsX5_family) := goodIn_app (goodIn_of _ (by decide +kernel)) ggL_law_X5_family
set_option maxRecDepth 20000 in
theorem ggL_law_X4_families : GoodIn wsL_law wsX4_families := goodIn_r _ [619, 23, 560, 561, 562, 22, 563, 52, 564, 172, 173, 26, 174, 111, 565, 566, 567, 568, 552, 553, 554, 569, 570, 571, 572, 551, 195, 196, 197, 47, 624, 625, 626, 627, 628, 629, 630, 649, 650, 651] (by decide +kernel) (by decide +kernel)
set_option maxRecDepth 20000 in
theorem gL_law_X4_families : GoodIn wsL_law (wsV RL 165 RX4 yX4_families wsX4_families) := goodIn_app (goodIn_of _ (by decide +kernel)) ggL_law_X4_families
set_option maxRecDepth 20000 in
theorem ggL_law_X5_families : GoodIn wsL_law wsX5_families := goodIn_r _ [623, 132, 581, 582, 583, 5, 584, 121, 585, 586, 587, 588, 589, 590, 591, 592, 69, 631, 632, 633, 634, 635, 636, 637, 638, 639, 640, 641, 642, 643] (by decide +kernel) (by decide +kernel)
set_option maxRecDepth 20000 in
theorem gL_law_X5_families : GoodIn wsL_law (wsV RL 168 RX5 yX5_families wsX5_families) := goodIn_app (goodIn_of _ (by decide +kernel)) ggL_law_X5_families

