set_option maxRecDepth 20000 in
theorem ggX0_init_X1_init : GoodIn wsX0_init wsX1_init := goodIn_r _ [11, 12, 2, 3, 13, 14, 15] (by decide +kernel) (by decide +kernel)
set_option maxRecDepth 20000 in
theorem gX0_init_X1_init_n11 : GoodIn wsX0_init (wsX1_init) := ggX0_init_X1_init
set_option maxRecDepth 20000 in
theorem ggX0_choose_X1_clear : GoodIn wsX0_choose wsX1_clear := goodIn_r _ [8, 9, 10, 11, 12, 13, 74] (by decide +kernel) (by decide +kernel)
set_option maxRecDepth 20000 in
theorem gX0_choose_X1_clear : GoodIn wsX0_choose (wsV RX0 24 RX1 yX1_clear wsX1_clear) := goodIn_app (goodIn_of _ (by decide +kernel)) ggX0_choose_X1_clear
set_option maxRecDepth 20000 in
theorem ggX0_choose_X0_lineUp : GoodIn wsX0_choose wsX0_lineUp := goodIn_r _ [18, 19, 20, 21, 22, 23, 24, 25, 26, 17, 27, 28, 29, 30, 31, 32, 33, 34, 35, 62, 63, 64, 65, 66, 67, 68, 69, 70, 71, 72, 73, 75, 76, 77, 78, 79, 80] (by decide +kernel) (by decide +kernel)
set_option maxRecDepth 20000 in
theorem gX0_choose_X0_lineUp : GoodIn wsX0_choose (wsV RX0 34 RX0 yX0_lineUp wsX0_lineUp) := goodIn_app (goodIn_of _ (by decide +kernel)) ggX0_choose_X0_lineUp
set_option maxRecDepth 20000 in
theorem ggX0_choose_X0_takeForAll : GoodIn wsX0_choose wsX0_takeForAll := goodIn_ca (goodIn_r _ [39, 19, 40, 41, 42, 17, 43, 28, 44, 45, 46, 47, 1, 48, 49, 3, 50, 51, 52, 7, 53, 9, 54, 55, 56, 57, 58, 59, 60, 61, 62, 63, 64, 65, 66, 67, 68, 69, 70, 71, 72, 73, 74] (by decide +kernel) (by decide +kernel)) (goodIn_sub (fun _ h => List.mem_cons_of_mem _ (List.mem_append_right _ h)) (by decide +kernel))
set_option maxRecDepth 20000 in
theorem gX0_choose_X0_takeForAll : GoodIn wsX0_choose (wsV RX0 38 RX0 yX0_takeForAll wsX0_takeForAll) := goodIn_app (goodIn_of _ (by decide +kernel)) ggX0_choose_X0_takeForAll
set_option maxRecDepth 20000 in
theorem ggX0_choose_X0_inLine : GoodIn wsX0_choose wsX0_inLine := goodIn_r _ [43, 19, 28, 62, 63, 64, 65] (by decide +kernel) (by decide +kernel)
set_option maxRecDepth 20000 in
theorem gX0_choose_X0_inLine : GoodIn wsX0_choose (wsV RX0 42 RX0 yX0_inLine wsX0_inLine) := goodIn_app (goodIn_of _ (by decide +kernel)) ggX0_choose_X0_inLine
set_option maxRecDepth 20000 in
theorem ggX0_choose_X0_take : GoodIn wsX0_choose wsX0_take := goodIn_ca (goodIn_r _ [47, 1, 48, 49, 3, 50, 51, 52, 7, 53, 9, 54, 55, 56, 57, 58, 59, 60, 61, 62, 63, 64, 65, 66, 67, 68, 69, 70, 71, 72, 73, 74] (by decide +kernel) (by decide +kernel)) (goodIn_sub (fun _ h => List.mem_cons_of_mem _ (List.mem_append_right _ h)) (by decide +kernel))
set_option maxRecDepth 20000 in
theorem gX0_choose_X0_take : GoodIn wsX0_choose (wsV RX0 46 RX0 yX0_take wsX0_take) := goodIn_app (goodIn_of _ (by decide +kernel)) ggX0_choose_X0_take
set_option maxRecDepth 20000 in
theorem ggX0_lineUp_X0_append : GoodIn wsX0_lineUp wsX0_append := goodIn_r _ [10, 1, 11, 19, 20, 21, 22] (by decide +kernel) (by decide +kernel)
set_option maxRecDepth 20000 in
theorem gX0_lineUp_X0_append : GoodIn wsX0_lineUp (wsV RX0 66 RX0 yX0_append wsX0_append) := goodIn_app (goodIn_of _ (by decide +kernel)) ggX0_lineUp_X0_append
set_option maxRecDepth 20000 in
theorem ggX0_lineUp_X4_at : GoodIn wsX0_lineUp wsX4_at := goodIn_r _ [16, 17, 18, 31, 32, 33, 34, 35, 36] (by decide +kernel) (by decide +kernel)
set_option maxRecDepth 20000 in
theorem gX0_lineUp_X4_at : GoodIn wsX0_lineUp (wsV RX0 73 RX4 yX4_at wsX4_at) := goodIn_app (goodIn_of _ (by decide +kernel)) ggX0_lineUp_X4_at
set_option maxRecDepth 20000 in
theorem ggX0_takeForAll_X0_inLine : GoodIn wsX0_takeForAll wsX0_inLine := goodIn_r _ [6, 1, 7, 30, 31, 32, 33] (by decide +kernel) (by decide +kernel)
set_option maxRecDepth 20000 in
theorem gX0_takeForAll_X0_inLine : GoodIn wsX0_takeForAll (wsV RX0 42 RX0 yX0_inLine wsX0_inLine) := goodIn_app (goodIn_of _ (by decide +kernel)) ggX0_takeForAll_X0_inLine
set_option maxRecDepth 20000 in
theorem ggX0_takeForAll_X0_take : GoodIn wsX0_takeForAll wsX0_take := goodIn_ca (goodIn_r _ [11, 12, 13, 14, 15, 16, 17, 18, 19, 20, 21, 22, 23, 24, 25, 26, 27, 28, 29, 30, 31, 32, 33, 34, 35, 36, 37, 38, 39, 40, 41, 42] (by decide +kernel) (by decide +kernel)) (goodIn_sub (fun _ h => List.mem_cons_of_mem _ (List.mem_append_right _ h)) (by decide +kernel))
set_option maxRecDepth 20000 in
theorem gX0_takeForAll_X0_take : GoodIn wsX0_takeForAll (wsV RX0 46 RX0 yX0_take wsX0_take) := goodIn_app (goodIn_of _ (by decide +kernel)) ggX0_takeForAll_X0_take
set_option maxRecDepth 20000 in
theorem ggX0_take_X1_of : GoodIn wsX0_take wsX1_of := goodIn_ca (goodIn_r _ [9, 10, 31] (by decide +kernel) (by decide +kernel)) (goodIn_sub (fun _ h => List.mem_cons_of_mem _ (List.mem_append_right _ h)) (by decide +kernel))
set_option maxRecDepth 20000 in
theorem gX0_take_X1_of : GoodIn wsX0_take (wsV RX0 79 RX1 yX1_of wsX1_of) := goodIn_app (goodIn_of _ (by decide +kernel)) ggX0_take_X1_of
set_option maxRecDepth 20000 in
theorem ggX0_take_X6_need : GoodIn wsX0_take wsX6_need := goodIn_ca (goodIn_r _ [13, 14] (by decide +kernel) (by decide +kernel)) (goodIn_sub (fun _ h => List.mem_cons_of_mem _ (List.mem_append_right _ h)) (by decide +kernel))
set_option maxRecDepth 20000 in
theorem gX0_take_X6_need_n86 : GoodIn wsX0_take (wsX6_need) := ggX0_take_X6_need
set_option maxRecDepth 20000 in
theorem ggX0_take_X1_set : GoodIn wsX0_take wsX1_set := goodIn_ca (goodIn_r _ [18, 10, 31] (by decide +kernel) (by decide +kernel)) (goodIn_sub (fun _ h => List.mem_cons_of_mem _ (List.mem_append_right _ h)) (by decide +kernel))
set_option maxRecDepth 20000 in
theorem gX0_take_X1_set : GoodIn wsX0_take (wsV RX0 89 RX1 yX1_set wsX1_set) := goodIn_app (goodIn_of _ (by decide +kernel)) ggX0_take_X1_set
set_option maxRecDepth 20000 in
theorem ggX1_clear_J7_fill_53178 : GoodIn wsX1_clear wsJ7_fill_53178 := goodIn_r _ [5] (by decide +kernel) (by decide +kernel)
set_option maxRecDepth 20000 in
theorem gX1_clear_J7_fill_53178 : GoodIn wsX1_clear (va_wsS RX1 15 yJ7_fill_53178 wsJ7_fill_53178) := goodIn_app (goodIn_of _ (by decide +kernel)) ggX1_clear_J7_fill_53178
set_option maxRecDepth 20000 in
theorem ggX1_takeOver_X1_of : GoodIn wsX1_takeOver wsX1_of := goodIn_ca (goodIn_r _ [6, 1, 7] (by decide +kernel) (by decide +kernel)) (goodIn_sub (fun _ h => List.mem_cons_of_mem _ (List.mem_append_right _ h)) (by decide +kernel))
set_option maxRecDepth 20000 in
theorem gX1_takeOver_X1_of : GoodIn wsX1_takeOver (wsV RX1 21 RX1 yX1_of wsX1_of) := goodIn_app (goodIn_of _ (by decide +kernel)) ggX1_takeOver_X1_of
set_option maxRecDepth 20000 in
theorem ggX1_isSameAs_X1_of : GoodIn wsX1_isSameAs wsX1_of := goodIn_ca (goodIn_r _ [6, 1, 7] (by decide +kernel) (by decide +kernel)) (goodIn_sub (fun _ h => List.mem_cons_of_mem _ (List.mem_append_right _ h)) (by decide +kernel))
set_option maxRecDepth 20000 in
theorem gX1_isSameAs_X1_of : GoodIn wsX1_isSameAs (wsV RX1 21 RX1 yX1_of wsX1_of) := goodIn_app (goodIn_of _ (by decide +kernel)) ggX1_isSameAs_X1_of
set_option maxRecDepth 20000 in
theorem ggX1_needed_X6_need : GoodIn wsX1_needed wsX6_need := goodIn_ca (goodIn_r _ [4, 5] (by decide +kernel) (by decide +kernel)) (goodIn_sub (fun _ h => List.mem_cons_of_mem _ (List.mem_append_right _ h)) (by decide +kernel))
set_option maxRecDepth 20000 in
theorem gX1_needed_X6_need_n25 : GoodIn wsX1_needed (wsX6_need) := ggX1_needed_X6_need
set_option maxRecDepth 20000 in
theorem ggX2_init_X1_init : GoodIn wsX2_init wsX1_init := goodIn_r _ [11, 12, 2, 3, 13, 14, 15] (by decide +kernel) (by decide +kernel)
set_option maxRecDepth 20000 in
theorem gX2_init_X1_init_n9 : GoodIn wsX2_init (wsX1_init) := ggX2_init_X1_init
set_option maxRecDepth 20000 in
theorem ggX3_init_X5_init : GoodIn wsX3_init wsX5_init := goodIn_r _ [11, 12, 2, 3, 13, 14, 15, 16, 17, 18] (by decide +kernel) (by decide +kernel)
set_option maxRecDepth 20000 in
theorem gX3_init_X5_init : GoodIn wsX3_init (wsX5_init) := ggX3_init_X5_init
set_option maxRecDepth 20000 in
theorem ggX4_letOut_X4_placeOf : GoodIn wsX4_letOut wsX4_placeOf := goodIn_r _ [9, 1, 10, 11, 12, 8, 13, 2, 19, 20, 21, 22, 23, 24] (by decide +kernel) (by decide +kernel)
set_option maxRecDepth 20000 in
theorem gX4_letOut_X4_placeOf : GoodIn wsX4_letOut (wsV RX4 24 RX4 yX4_placeOf wsX4_placeOf) := goodIn_app (goodIn_of _ (by decide +kernel)) ggX4_letOut_X4_placeOf
set_option maxRecDepth 20000 in
theorem ggX4_letOut_X4_endChallenge : GoodIn wsX4_letOut wsX4_endChallenge := goodIn_r _ [17, 4, 18, 19, 20, 21, 22, 23, 24] (by decide +kernel) (by decide +kernel)
set_option maxRecDepth 20000 in
theorem gX4_letOut_X4_endChallenge : GoodIn wsX4_letOut (wsV RX4 35 RX4 yX4_endChallenge wsX4_endChallenge) := goodIn_app (goodIn_of _ (by decide +kernel)) ggX4_letOut_X4_endChallenge
set_option maxRecDepth 20000 in
theorem ggX4_placeOf_X4_at : GoodIn wsX4_placeOf wsX4_at := goodIn_r _ [6, 1, 7, 8, 9, 10, 11, 12, 13] (by decide +kernel) (by decide +kernel)
set_option maxRecDepth 20000 in
theorem gX4_placeOf_X4_at : GoodIn wsX4_placeOf (wsV RX4 38 RX4 yX4_at wsX4_at) := goodIn_app (goodIn_of _ (by decide +kernel)) ggX4_placeOf_X4_at
set_option maxRecDepth 20000 in
theorem ggX4_passTick_X4_candidate : GoodIn wsX4_passTick wsX4_candidate := goodIn_r _ [8, 9, 10, 11, 12, 13, 7, 14, 15, 24, 25, 26, 27, 28, 29, 30, 31, 32, 33, 34, 35, 36, 37] (by decide +kernel) (by decide +kernel)
set_option maxRecDepth 20000 in
theorem gX4_passTick_X4_candidate : GoodIn wsX4_passTick (wsV RX4 42 RX4 yX4_candidate wsX4_candidate) := goodIn_app (goodIn_of _ (by decide +kernel)) ggX4_passTick_X4_candidate
set_option maxRecDepth 20000 in
theorem ggX4_passTick_X4_endChallenge : GoodIn wsX4_passTick wsX4_endChallenge := goodIn_r _ [19, 2, 3, 24, 25, 26, 27, 28, 29] (by decide +kernel) (by decide +kernel)
set_option maxRecDepth 20000 in
theorem gX4_passTick_X4_endChallenge : GoodIn wsX4_passTick (wsV RX4 35 RX4 yX4_endChallenge wsX4_endChallenge) := goodIn_app (goodIn_of _ (by decide +kernel)) ggX4_passTick_X4_endChallenge
set_option maxRecDepth 20000 in
theorem ggX4_passTick_X4_isLouderThanSpeaker : GoodIn wsX4_passTick wsX4_isLouderThanSpeaker := goodIn_r _ [23, 1, 10, 24, 25, 26, 27, 28, 29, 30, 31, 32, 33, 34, 35, 36, 37] (by decide +kernel) (by decide +kernel)
set_option maxRecDepth 20000 in
theorem gX4_passTick_X4_isLouderThanSpeaker : GoodIn wsX4_passTick (wsV RX4 46 RX4 yX4_isLouderThanSpeaker wsX4_isLouderThanSpeaker) := goodIn_app (goodIn_of _ (by decide +kernel)) ggX4_passTick_X4_isLouderThanSpeaker
set_option maxRecDepth 20000 in
theorem ggX4_candidate_X4_at : GoodIn wsX4_candidate wsX4_at := goodIn_r _ [7, 1, 8, 9, 10, 11, 12, 13, 14] (by decide +kernel) (by decide +kernel)
set_option maxRecDepth 20000 in
theorem gX4_candidate_X4_at : GoodIn wsX4_candidate (wsV RX4 38 RX4 yX4_at wsX4_at) := goodIn_app (goodIn_of _ (by decide +kernel)) ggX4_candidate_X4_at
set_option maxRecDepth 20000 in
theorem ggX5_put_X5_grow : GoodIn wsX5_put wsX5_grow := goodIn_r _ [7, 2, 8, 9, 10, 11, 12, 13, 14, 15, 16, 17, 18, 19, 20, 21, 22, 23, 24, 25, 26, 27, 28, 29, 30, 31] (by decide +kernel) (by decide +kernel)
set_option maxRecDepth 20000 in
theorem gX5_put_X5_grow : GoodIn wsX5_put (wsV RX5 22 RX5 yX5_grow wsX5_grow) := goodIn_app (goodIn_of _ (by decide +kernel)) ggX5_put_X5_grow
set_option maxRecDepth 20000 in
theorem ggX5_grow_J7_copyOf_59c91 : GoodIn wsX5_grow wsJ7_copyOf_59c91 := goodIn_r _ [10, 11, 12, 13, 14, 15, 16, 17, 18, 4, 5, 6, 19, 20, 21, 22] (by decide +kernel) (by decide +kernel)
set_option maxRecDepth 20000 in
theorem gX5_grow_J7_copyOf_59c91 : GoodIn wsX5_grow (va_wsS RX5 31 yJ7_copyOf_59c91 wsJ7_copyOf_59c91) := goodIn_app (goodIn_of _ (by decide +kernel)) ggX5_grow_J7_copyOf_59c91
set_option maxRecDepth 20000 in
theorem ggX6_init_X5_init : GoodIn wsX6_init wsX5_init := goodIn_r _ [20, 21, 2, 3, 22, 23, 24, 49, 50, 51] (by decide +kernel) (by decide +kernel)
set_option maxRecDepth 20000 in
theorem gX6_init_X5_init : GoodIn wsX6_init (wsX5_init) := ggX6_init_X5_init
set_option maxRecDepth 20000 in
theorem ggX6_init_X0_init : GoodIn wsX6_init wsX0_init := goodIn_r _ [26, 27, 2, 3, 28, 29, 30, 31, 32, 33, 34, 35, 36, 22, 37, 56, 52, 53, 54, 55] (by decide +kernel) (by decide +kernel)
set_option maxRecDepth 20000 in
theorem gX6_init_X0_init_n38 : GoodIn wsX6_init (wsX0_init) := ggX6_init_X0_init
set_option maxRecDepth 20000 in
theorem ggX6_addPerson_X6_requireUpTo : GoodIn wsX6_addPerson wsX6_requireUpTo := goodIn_ca (goodIn_r _ [11, 12, 13] (by decide +kernel) (by decide +kernel)) (goodIn_sub (fun _ h => List.mem_cons_of_mem _ (List.mem_append_right _ h)) (by decide +kernel))
set_option maxRecDepth 20000 in
theorem gX6_addPerson_X6_requireUpTo : GoodIn wsX6_addPerson (va_wsS RX6 43 yX6_requireUpTo wsX6_requireUpTo) := goodIn_app (goodIn_of _ (by decide +kernel)) ggX6_addPerson_X6_requireUpTo
set_option maxRecDepth 20000 in
theorem ggX6_addPerson_X2_init : GoodIn wsX6_addPerson wsX2_init := goodIn_r _ [16, 17, 18, 19, 20, 21, 22, 23, 24, 25, 26, 27, 28, 29, 30, 50, 42, 43, 44, 45, 46, 47, 48, 49] (by decide +kernel) (by decide +kernel)
set_option maxRecDepth 20000 in
theorem gX6_addPerson_X2_init : GoodIn wsX6_addPerson (wsX2_init) := ggX6_addPerson_X2_init
set_option maxRecDepth 20000 in
theorem ggX6_setBudget_X6_personOf : GoodIn wsX6_setBudget wsX6_personOf := goodIn_ca (goodIn_r _ [6, 7, 8, 9, 104, 105, 106, 107, 108, 109, 110, 111, 112, 113, 114] (by decide +kernel) (by decide +kernel)) (goodIn_sub (fun _ h => List.mem_cons_of_mem _ (List.mem_append_left _ (List.mem_append_left _ (List.mem_append_right _ h)))) (by decide +kernel))
set_option maxRecDepth 20000 in
theorem gX6_setBudget_X6_personOf : GoodIn wsX6_setBudget (wsV RX6 60 RX6 yX6_personOf wsX6_personOf) := goodIn_app (goodIn_of _ (by decide +kernel)) ggX6_setBudget_X6_personOf
set_option maxRecDepth 20000 in
theorem ggX6_setBudget_X6_requireUpTo : GoodIn wsX6_setBudget wsX6_requireUpTo := goodIn_ca (goodIn_r _ [12, 13, 14] (by decide +kernel) (by decide +kernel)) (goodIn_sub (fun _ h => List.mem_cons_of_mem _ (List.mem_append_left _ (List.mem_append_right _ h))) (by decide +kernel))
set_option maxRecDepth 20000 in
theorem gX6_setBudget_X6_requireUpTo : GoodIn wsX6_setBudget (va_wsS RX6 43 yX6_requireUpTo wsX6_requireUpTo) := goodIn_app (goodIn_of _ (by decide +kernel)) ggX6_setBudget_X6_requireUpTo
set_option maxRecDepth 20000 in
theorem ggX6_setBudget_X6_chooseViews : GoodIn wsX6_setBudget wsX6_chooseViews := goodIn_ca (goodIn_r _ [18, 9, 19, 20, 21, 22, 23, 24, 25, 26, 27, 28, 29, 30, 31, 32, 33, 34, 35, 36, 37, 38, 39, 40, 41, 42, 43, 44, 45, 46, 47, 48, 49, 50, 51, 52, 53, 54, 55, 56, 57, 58, 59, 60, 61, 62, 63, 64, 65, 66, 67, 68, 69, 70, 71, 72, 73, 74, 75, 76, 77, 78, 79, 80, 5, 81, 82, 83, 84, 85, 86, 87, 88, 89, 90, 91, 92, 93, 94, 95, 104, 105, 106, 107, 108, 109, 110, 111, 112, 113, 114, 96, 97, 98, 99, 100, 101, 102, 103, 115, 116, 117, 118, 119, 120, 121, 122, 123, 124, 125] (by decide +kernel) (by decide +kernel)) (goodIn_sub (fun _ h => List.mem_cons_of_mem _ (List.mem_append_right _ h)) (by decide +kernel))
set_option maxRecDepth 20000 in
theorem gX6_setBudget_X6_chooseViews : GoodIn wsX6_setBudget (wsV RX6 67 RX6 yX6_chooseViews wsX6_chooseViews) := goodIn_app (goodIn_of _ (by decide +kernel)) ggX6_setBudget_X6_chooseViews
set_option maxRecDepth 20000 in
theorem ggX6_setSends_X6_personOf : GoodIn wsX6_setSends wsX6_personOf := goodIn_ca (goodIn_r _ [6, 7, 8, 9, 104, 105, 106, 107, 108, 109, 110, 111, 112, 113, 114] (by decide +kernel) (by decide +kernel)) (goodIn_sub (fun _ h => List.mem_cons_of_mem _ (List.mem_append_left _ (List.mem_append_left _ (List.mem_append_right _ h)))) (by decide +kernel))
set_option maxRecDepth 20000 in
theorem gX6_setSends_X6_personOf : GoodIn wsX6_setSends (wsV RX6 60 RX6 yX6_personOf wsX6_personOf) := goodIn_app (goodIn_of _ (by decide +kernel)) ggX6_setSends_X6_personOf
set_option maxRecDepth 20000 in
theorem ggX6_setSends_X6_requireUpTo : GoodIn wsX6_setSends wsX6_requireUpTo := goodIn_ca (goodIn_r _ [12, 13, 14] (by decide +kernel) (by decide +kernel)) (goodIn_sub (fun _ h => List.mem_cons_of_mem _ (List.mem_append_left _ (List.mem_append_right _ h))) (by decide +kernel))
set_option maxRecDepth 20000 in
theorem gX6_setSends_X6_requireUpTo : GoodIn wsX6_setSends (va_wsS RX6 43 yX6_requireUpTo wsX6_requireUpTo) := goodIn_app (goodIn_of _ (by decide +kernel)) ggX6_setSends_X6_requireUpTo
set_option maxRecDepth 20000 in
theorem ggX6_setSends_X6_chooseViews : GoodIn wsX6_setSends wsX6_chooseViews := goodIn_ca (goodIn_r _ [18, 9, 19, 20, 21, 22, 23, 24, 25, 26, 27, 28, 29, 30, 31, 32, 33, 34, 35, 36, 37, 38, 39, 40, 41, 42, 43, 44, 45, 46, 47, 48, 49, 50, 51, 52, 53, 54, 55, 56, 57, 58, 59, 60, 61, 62, 63, 64, 65, 66, 67, 68, 69, 70, 71, 72, 73, 74, 75, 76, 77, 78, 79, 80, 5, 81, 82, 83, 84, 85, 86, 87, 88, 89, 90, 91, 92, 93, 94, 95, 104, 105, 106, 107, 108, 109, 110, 111, 112, 113, 114, 96, 97, 98, 99, 100, 101, 102, 103, 115, 116, 117, 118, 119, 120, 121, 122, 123, 124, 125] (by decide +kernel) (by decide +kernel)) (goodIn_sub (fun _ h => List.mem_cons_of_mem _ (List.mem_append_right _ h)) (by decide +kernel))
set_option maxRecDepth 20000 in
theorem gX6_setSends_X6_chooseViews : GoodIn wsX6_setSends (wsV RX6 67 RX6 yX6_chooseViews wsX6_chooseViews) := goodIn_app (goodIn_of _ (by decide +kernel)) ggX6_setSends_X6_chooseViews
set_option maxRecDepth 20000 in
theorem ggX6_setLoud_X6_personOf : GoodIn wsX6_setLoud wsX6_personOf := goodIn_ca (goodIn_r _ [6, 7, 8, 9, 23, 24, 25, 26, 27, 28, 29, 30, 31, 32, 33] (by decide +kernel) (by decide +kernel)) (goodIn_sub (fun _ h => List.mem_cons_of_mem _ (List.mem_append_left _ (List.mem_append_right _ h))) (by decide +kernel))
set_option maxRecDepth 20000 in
theorem gX6_setLoud_X6_personOf : GoodIn wsX6_setLoud (wsV RX6 60 RX6 yX6_personOf wsX6_personOf) := goodIn_app (goodIn_of _ (by decide +kernel)) ggX6_setLoud_X6_personOf
set_option maxRecDepth 20000 in
theorem ggX6_setLoud_X6_requireUpTo : GoodIn wsX6_setLoud wsX6_requireUpTo := goodIn_ca (goodIn_r _ [12, 13, 14] (by decide +kernel) (by decide +kernel)) (goodIn_sub (fun _ h => List.mem_cons_of_mem _ (List.mem_append_right _ h)) (by decide +kernel))
set_option maxRecDepth 20000 in
theorem gX6_setLoud_X6_requireUpTo : GoodIn wsX6_setLoud (va_wsS RX6 43 yX6_requireUpTo wsX6_requireUpTo) := goodIn_app (goodIn_of _ (by decide +kernel)) ggX6_setLoud_X6_requireUpTo
set_option maxRecDepth 20000 in
theorem ggX6_addRoom_X6_isRoomLeft : GoodIn wsX6_addRoom wsX6_isRoomLeft := goodIn_r _ [8, 9, 33, 34, 35, 36, 37, 38, 39, 40, 41, 42, 43] (by decide +kernel) (by decide +kernel)
set_option maxRecDepth 20000 in
theorem gX6_addRoom_X6_isRoomLeft : GoodIn wsX6_addRoom (wsV RX6 76 RX6 yX6_isRoomLeft wsX6_isRoomLeft) := goodIn_app (goodIn_of _ (by decide +kernel)) ggX6_addRoom_X6_isRoomLeft
set_option maxRecDepth 20000 in
theorem ggX6_addRoom_X6_openRoom : GoodIn wsX6_addRoom wsX6_openRoom := goodIn_r _ [13, 14, 15, 16, 9, 17, 18, 19, 20, 21, 22, 23, 24, 25, 26, 27, 28, 29, 30, 31, 32, 33, 34, 35, 36, 37, 38, 39, 40, 41, 42, 43] (by decide +kernel) (by decide +kernel)
set_option maxRecDepth 20000 in
theorem gX6_addRoom_X6_openRoom : GoodIn wsX6_addRoom (wsV RX6 82 RX6 yX6_openRoom wsX6_openRoom) := goodIn_app (goodIn_of _ (by decide +kernel)) ggX6_addRoom_X6_openRoom
set_option maxRecDepth 20000 in
theorem ggX6_enter_X6_personOf : GoodIn wsX6_enter wsX6_personOf := goodIn_ca (goodIn_r _ [9, 10, 11, 12, 146, 147, 148, 149, 150, 151, 152, 153, 154, 155, 156] (by decide +kernel) (by decide +kernel)) (goodIn_sub (fun _ h => List.mem_cons_of_mem _ (List.mem_append_left _ (List.mem_append_left _ (List.mem_append_right _ h)))) (by decide +kernel))
set_option maxRecDepth 20000 in
theorem gX6_enter_X6_personOf : GoodIn wsX6_enter (wsV RX6 60 RX6 yX6_personOf wsX6_personOf) := goodIn_app (goodIn_of _ (by decide +kernel)) ggX6_enter_X6_personOf
set_option maxRecDepth 20000 in
theorem ggX6_enter_X6_roomNumbered : GoodIn wsX6_enter wsX6_roomNumbered := goodIn_ca (goodIn_r _ [16, 17, 18, 19, 146, 147, 148, 149, 150, 151, 152, 153, 154, 155, 156] (by decide +kernel) (by decide +kernel)) (goodIn_sub (fun _ h => List.mem_cons_of_mem _ (List.mem_append_left _ (List.mem_append_right _ h))) (by decide +kernel))
set_option maxRecDepth 20000 in
theorem gX6_enter_X6_roomNumbered : GoodIn wsX6_enter (wsV RX6 89 RX6 yX6_roomNumbered wsX6_roomNumbered) := goodIn_app (goodIn_of _ (by decide +kernel)) ggX6_enter_X6_roomNumbered
set_option maxRecDepth 20000 in
theorem ggX6_enter_X6_move : GoodIn wsX6_enter wsX6_move := goodIn_r _ [22, 3, 23, 24, 25, 26, 27, 28, 29, 30, 31, 32, 33, 34, 35, 36, 37, 38, 39, 40, 41, 42, 43, 44, 45, 46, 47, 48, 132, 133, 134, 135, 136, 137, 138, 139, 140, 141, 142, 143, 144, 145] (by decide +kernel) (by decide +kernel)
set_option maxRecDepth 20000 in
theorem gX6_enter_X6_move : GoodIn wsX6_enter (va_wsS RX6 99 yX6_move wsX6_move) := goodIn_app (goodIn_of _ (by decide +kernel)) ggX6_enter_X6_move
set_option maxRecDepth 20000 in
theorem ggX6_enter_X6_settle : GoodIn wsX6_enter wsX6_settle := goodIn_ca (goodIn_r _ [52, 12, 53, 54, 55, 8, 56, 3, 57, 58, 59, 60, 61, 62, 63, 64, 65, 66, 67, 68, 69, 70, 71, 72, 73, 74, 75, 76, 77, 78, 79, 80, 81, 82, 83, 84, 85, 86, 87, 88, 89, 90, 91, 92, 93, 94, 95, 96, 97, 37, 38, 26, 39, 28, 29, 98, 99, 100, 101, 102, 103, 104, 105, 106, 107, 108, 109, 110, 111, 112, 113, 114, 115, 116, 117, 118, 119, 120, 121, 122, 123, 124, 125, 126, 127, 128, 129, 130, 131, 146, 147, 148, 149, 150, 151, 152, 153, 154, 155, 156, 132, 133, 134, 135, 136, 137, 138, 139, 157, 158, 159, 160, 161, 140, 141, 142, 143, 144, 145] (by decide +kernel) (by decide +kernel)) (goodIn_sub (fun _ h => List.mem_cons_of_mem _ (List.mem_append_right _ h)) (by decide +kernel))
set_option maxRecDepth 20000 in
theorem gX6_enter_X6_settle : GoodIn wsX6_enter (wsV RX6 103 RX6 yX6_settle wsX6_settle) := goodIn_app (goodIn_of _ (by decide +kernel)) ggX6_enter_X6_settle
set_option maxRecDepth 20000 in
theorem ggX6_leave_X6_personOf : GoodIn wsX6_leave wsX6_personOf := goodIn_ca (goodIn_r _ [9, 10, 11, 12, 139, 140, 141, 142, 143, 144, 145, 146, 147, 148, 149] (by decide +kernel) (by decide +kernel)) (goodIn_sub (fun _ h => List.mem_cons_of_mem _ (List.mem_append_left _ (List.mem_append_right _ h))) (by decide +kernel))
set_option maxRecDepth 20000 in
theorem gX6_leave_X6_personOf : GoodIn wsX6_leave (wsV RX6 60 RX6 yX6_personOf wsX6_personOf) := goodIn_app (goodIn_of _ (by decide +kernel)) ggX6_leave_X6_personOf
set_option maxRecDepth 20000 in
theorem ggX6_leave_X6_move : GoodIn wsX6_leave wsX6_move := goodIn_r _ [15, 3, 16, 17, 18, 19, 20, 21, 22, 23, 24, 25, 26, 27, 28, 29, 30, 31, 32, 33, 34, 35, 36, 37, 38, 39, 40, 41, 125, 126, 127, 128, 129, 130, 131, 132, 133, 134, 135, 136, 137, 138] (by decide +kernel) (by decide +kernel)
set_option maxRecDepth 20000 in
theorem gX6_leave_X6_move : GoodIn wsX6_leave (va_wsS RX6 99 yX6_move wsX6_move) := goodIn_app (goodIn_of _ (by decide +kernel)) ggX6_leave_X6_move
set_option maxRecDepth 20000 in
theorem ggX6_leave_X6_settle : GoodIn wsX6_leave wsX6_settle := goodIn_ca (goodIn_r _ [45, 12, 46, 47, 48, 8, 49, 3, 50, 51, 52, 53, 54, 55, 56, 57, 58, 59, 60, 61, 62, 63, 64, 65, 66, 67, 68, 69, 70, 71, 72, 73, 74, 75, 76, 77, 78, 79, 80, 81, 82, 83, 84, 85, 86, 87, 88, 89, 90, 30, 31, 19, 32, 21, 22, 91, 92, 93, 94, 95, 96, 97, 98, 99, 100, 101, 102, 103, 104, 105, 106, 107, 108, 109, 110, 111, 112, 113, 114, 115, 116, 117, 118, 119, 120, 121, 122, 123, 124, 139, 140, 141, 142, 143, 144, 145, 146, 147, 148, 149, 125, 126, 127, 128, 129, 130, 131, 132, 150, 151, 152, 153, 154, 133, 134, 135, 136, 137, 138] (by decide +kernel) (by decide +kernel)) (goodIn_sub (fun _ h => List.mem_cons_of_mem _ (List.mem_append_right _ h)) (by decide +kernel))
set_option maxRecDepth 20000 in
theorem gX6_leave_X6_settle : GoodIn wsX6_leave (wsV RX6 103 RX6 yX6_settle wsX6_settle) := goodIn_app (goodIn_of _ (by decide +kernel)) ggX6_leave_X6_settle
set_option maxRecDepth 20000 in
theorem ggX6_split_X6_roomNumbered : GoodIn wsX6_split wsX6_roomNumbered := goodIn_ca (goodIn_r _ [9, 10, 11, 12, 153, 154, 155, 156, 157, 158, 159, 160, 161, 162, 163] (by decide +kernel) (by decide +kernel)) (goodIn_sub (fun _ h => List.mem_cons_of_mem _ (List.mem_append_left _ (List.mem_append_right _ h))) (by decide +kernel))
set_option maxRecDepth 20000 in
theorem gX6_split_X6_roomNumbered : GoodIn wsX6_split (wsV RX6 89 RX6 yX6_roomNumbered wsX6_roomNumbered) := goodIn_app (goodIn_of _ (by decide +kernel)) ggX6_split_X6_roomNumbered
set_option maxRecDepth 20000 in
theorem ggX6_split_X6_isRoomLeft : GoodIn wsX6_split wsX6_isRoomLeft := goodIn_r _ [16, 17, 153, 154, 155, 156, 157, 158, 159, 160, 161, 162, 163] (by decide +kernel) (by decide +kernel)
set_option maxRecDepth 20000 in
theorem gX6_split_X6_isRoomLeft : GoodIn wsX6_split (wsV RX6 76 RX6 yX6_isRoomLeft wsX6_isRoomLeft) := goodIn_app (goodIn_of _ (by decide +kernel)) ggX6_split_X6_isRoomLeft
set_option maxRecDepth 20000 in
theorem ggX6_split_X6_openRoom : GoodIn wsX6_split wsX6_openRoom := goodIn_r _ [21, 22, 23, 24, 17, 12, 25, 26, 27, 28, 29, 30, 31, 32, 33, 147, 148, 149, 150, 151, 152, 153, 154, 155, 156, 157, 158, 159, 160, 161, 162, 163] (by decide +kernel) (by decide +kernel)
set_option maxRecDepth 20000 in
theorem gX6_split_X6_openRoom : GoodIn wsX6_split (wsV RX6 82 RX6 yX6_openRoom wsX6_openRoom) := goodIn_app (goodIn_of _ (by decide +kernel)) ggX6_split_X6_openRoom
set_option maxRecDepth 20000 in
theorem ggX6_split_X4_at : GoodIn wsX6_split wsX4_at := goodIn_r _ [37, 38, 32, 147, 148, 149, 150, 151, 152] (by decide +kernel) (by decide +kernel)
set_option maxRecDepth 20000 in
theorem gX6_split_X4_at : GoodIn wsX6_split (wsV RX6 113 RX4 yX4_at wsX4_at) := goodIn_app (goodIn_of _ (by decide +kernel)) ggX6_split_X4_at
set_option maxRecDepth 20000 in
theorem ggX6_split_X6_move : GoodIn wsX6_split wsX6_move := goodIn_r _ [41, 42, 43, 44, 45, 24, 46, 38, 32, 47, 48, 49, 50, 51, 52, 53, 35, 36, 37, 54, 55, 56, 57, 58, 59, 60, 61, 62, 164, 165, 166, 167, 168, 169, 170, 171, 147, 148, 149, 150, 151, 152] (by decide +kernel) (by decide +kernel)
set_option maxRecDepth 20000 in
theorem gX6_split_X6_move : GoodIn wsX6_split (va_wsS RX6 99 yX6_move wsX6_move) := goodIn_app (goodIn_of _ (by decide +kernel)) ggX6_split_X6_move
set_option maxRecDepth 20000 in
theorem ggX6_split_X6_settle : GoodIn wsX6_split wsX6_settle := goodIn_ca (goodIn_r _ [66, 67, 68, 69, 70, 8, 71, 42, 72, 73, 74, 75, 76, 77, 78, 79, 80, 81, 82, 83, 84, 85, 86, 87, 88, 89, 90, 91, 92, 93, 94, 95, 96, 97, 98, 99, 100, 101, 102, 103, 104, 105, 106, 107, 108, 109, 110, 111, 112, 35, 36, 24, 37, 38, 32, 113, 114, 115, 116, 117, 118, 119, 120, 121, 122, 123, 124, 125, 126, 127, 128, 129, 130, 131, 132, 133, 134, 135, 136, 137, 138, 139, 140, 141, 142, 143, 144, 145, 146, 153, 154, 155, 156, 157, 158, 159, 160, 161, 162, 163, 164, 165, 166, 167, 168, 169, 170, 171, 172, 173, 174, 175, 176, 147, 148, 149, 150, 151, 152] (by decide +kernel) (by decide +kernel)) (goodIn_sub (fun _ h => List.mem_cons_of_mem _ (List.mem_append_right _ h)) (by decide +kernel))
set_option maxRecDepth 20000 in
theorem gX6_split_X6_settle : GoodIn wsX6_split (wsV RX6 103 RX6 yX6_settle wsX6_settle) := goodIn_app (goodIn_of _ (by decide +kernel)) ggX6_split_X6_settle
set_option maxRecDepth 20000 in
theorem ggX6_join_X6_roomNumbered : GoodIn wsX6_join wsX6_roomNumbered := goodIn_ca (goodIn_r _ [10, 11, 12, 13, 129, 130, 131, 132, 133, 134, 135, 136, 137, 138, 139] (by decide +kernel) (by decide +kernel)) (goodIn_sub (fun _ h => List.mem_cons_of_mem _ (List.mem_append_left _ (List.mem_append_right _ h))) (by decide +kernel))
set_option maxRecDepth 20000 in
theorem gX6_join_X6_roomNumbered : GoodIn wsX6_join (wsV RX6 89 RX6 yX6_roomNumbered wsX6_roomNumbered) := goodIn_app (goodIn_of _ (by decide +kernel)) ggX6_join_X6_roomNumbered
set_option maxRecDepth 20000 in
theorem ggX6_join_X4_at : GoodIn wsX6_join wsX4_at := goodIn_r _ [18, 19, 20, 143, 144, 145, 146, 147, 148] (by decide +kernel) (by decide +kernel)
set_option maxRecDepth 20000 in
theorem gX6_join_X4_at : GoodIn wsX6_join (wsV RX6 113 RX4 yX4_at wsX4_at) := goodIn_app (goodIn_of _ (by decide +kernel)) ggX6_join_X4_at
set_option maxRecDepth 20000 in
theorem ggX6_join_X6_move : GoodIn wsX6_join wsX6_move := goodIn_r _ [23, 24, 25, 26, 27, 17, 28, 19, 20, 29, 30, 31, 32, 33, 34, 35, 15, 16, 18, 36, 37, 38, 39, 40, 41, 42, 43, 44, 149, 150, 151, 152, 153, 154, 155, 156, 143, 144, 145, 146, 147, 148] (by decide +kernel) (by decide +kernel)
set_option maxRecDepth 20000 in
theorem gX6_join_X6_move : GoodIn wsX6_join (va_wsS RX6 99 yX6_move wsX6_move) := goodIn_app (goodIn_of _ (by decide +kernel)) ggX6_join_X6_move
set_option maxRecDepth 20000 in
theorem ggX6_join_X6_settle : GoodIn wsX6_join wsX6_settle := goodIn_ca (goodIn_r _ [48, 49, 50, 51, 52, 9, 53, 24, 54, 55, 56, 57, 58, 59, 60, 61, 62, 63, 64, 65, 66, 67, 68, 69, 70, 71, 72, 73, 74, 75, 76, 77, 78, 79, 80, 81, 82, 83, 84, 85, 86, 87, 88, 89, 90, 91, 92, 93, 94, 15, 16, 17, 18, 19, 20, 95, 96, 97, 98, 99, 100, 101, 102, 103, 104, 105, 106, 107, 108, 109, 110, 111, 112, 113, 114, 115, 116, 117, 118, 119, 120, 121, 122, 123, 124, 125, 126, 127, 128, 129, 130, 131, 132, 133, 134, 135, 136, 137, 138, 139, 149, 150, 151, 152, 153, 154, 155, 156, 157, 158, 159, 160, 161, 143, 144, 145, 146, 147, 148] (by decide +kernel) (by decide +kernel)) (goodIn_sub (fun _ h => List.mem_cons_of_mem _ (List.mem_append_right _ h)) (by decide +kernel))
set_option maxRecDepth 20000 in
theorem gX6_join_X6_settle : GoodIn wsX6_join (wsV RX6 103 RX6 yX6_settle wsX6_settle) := goodIn_app (goodIn_of _ (by decide +kernel)) ggX6_join_X6_settle
set_option maxRecDepth 20000 in
theorem ggX6_pin_X6_personOf : GoodIn wsX6_pin wsX6_personOf := goodIn_ca (goodIn_r _ [10, 11, 12, 13, 111, 112, 113, 114, 115, 116, 117, 118, 119, 120, 121] (by decide +kernel) (by decide +kernel)) (goodIn_sub (fun _ h => List.mem_cons_of_mem _ (List.mem_append_left _ (List.mem_append_right _ h))) (by decide +kernel))
set_option maxRecDepth 20000 in
theorem gX6_pin_X6_personOf : GoodIn wsX6_pin (wsV RX6 60 RX6 yX6_personOf wsX6_personOf) := goodIn_app (goodIn_of _ (by decide +kernel)) ggX6_pin_X6_personOf
set_option maxRecDepth 20000 in
theorem ggX6_pin_X6_areTogether : GoodIn wsX6_pin wsX6_areTogether := goodIn_r _ [16, 17, 103, 104, 105, 106, 107, 108, 109, 110] (by decide +kernel) (by decide +kernel)
set_option maxRecDepth 20000 in
theorem gX6_pin_X6_areTogether : GoodIn wsX6_pin (va_wsS RX6 126 yX6_areTogether wsX6_areTogether) := goodIn_app (goodIn_of _ (by decide +kernel)) ggX6_pin_X6_areTogether
set_option maxRecDepth 20000 in
theorem ggX6_pin_X6_numberOf : GoodIn wsX6_pin wsX6_numberOf := goodIn_r _ [20, 21, 103, 104, 105, 106, 107, 108, 109, 110] (by decide +kernel) (by decide +kernel)
set_option maxRecDepth 20000 in
theorem gX6_pin_X6_numberOf : GoodIn wsX6_pin (va_wsS RX6 139 yX6_numberOf wsX6_numberOf) := goodIn_app (goodIn_of _ (by decide +kernel)) ggX6_pin_X6_numberOf
set_option maxRecDepth 20000 in
theorem ggX6_pin_X6_chooseViews : GoodIn wsX6_pin wsX6_chooseViews := goodIn_ca (goodIn_r _ [25, 13, 26, 27, 28, 29, 30, 31, 32, 33, 34, 35, 36, 37, 38, 39, 40, 41, 42, 43, 44, 45, 46, 47, 48, 49, 50, 51, 52, 53, 54, 55, 56, 57, 58, 59, 60, 61, 62, 63, 64, 65, 66, 67, 68, 69, 70, 71, 72, 73, 74, 75, 76, 77, 78, 79, 80, 81, 82, 83, 84, 85, 86, 87, 9, 88, 89, 90, 91, 92, 93, 94, 95, 96, 97, 98, 99, 100, 101, 102, 111, 112, 113, 114, 115, 116, 117, 118, 119, 120, 121, 103, 104, 105, 106, 107, 108, 109, 110, 122, 123, 124, 125, 126, 127, 128, 129, 130, 131, 132] (by decide +kernel) (by decide +kernel)) (goodIn_sub (fun _ h => List.mem_cons_of_mem _ (List.mem_append_right _ h)) (by decide +kernel))
set_option maxRecDepth 20000 in
theorem gX6_pin_X6_chooseViews : GoodIn wsX6_pin (wsV RX6 67 RX6 yX6_chooseViews wsX6_chooseViews) := goodIn_app (goodIn_of _ (by decide +kernel)) ggX6_pin_X6_chooseViews
set_option maxRecDepth 20000 in
theorem ggX6_unpin_X6_personOf : GoodIn wsX6_unpin wsX6_personOf := goodIn_ca (goodIn_r _ [9, 10, 11, 12, 102, 103, 104, 105, 106, 107, 108, 109, 110, 111, 112] (by decide +kernel) (by decide +kernel)) (goodIn_sub (fun _ h => List.mem_cons_of_mem _ (List.mem_append_left _ (List.mem_append_right _ h))) (by decide +kernel))
set_option maxRecDepth 20000 in
theorem gX6_unpin_X6_personOf : GoodIn wsX6_unpin (wsV RX6 60 RX6 yX6_personOf wsX6_personOf) := goodIn_app (goodIn_of _ (by decide +kernel)) ggX6_unpin_X6_personOf
set_option maxRecDepth 20000 in
theorem ggX6_unpin_X6_chooseViews : GoodIn wsX6_unpin wsX6_chooseViews := goodIn_ca (goodIn_r _ [16, 12, 17, 18, 19, 20, 21, 22, 23, 24, 25, 26, 27, 28, 29, 30, 31, 32, 33, 34, 35, 36, 37, 38, 39, 40, 41, 42, 43, 44, 45, 46, 47, 48, 49, 50, 51, 52, 53, 54, 55, 56, 57, 58, 59, 60, 61, 62, 63, 64, 65, 66, 67, 68, 69, 70, 71, 72, 73, 74, 75, 76, 77, 78, 8, 79, 80, 81, 82, 83, 84, 85, 86, 87, 88, 89, 90, 91, 92, 93, 102, 103, 104, 105, 106, 107, 108, 109, 110, 111, 112, 94, 95, 96, 97, 98, 99, 100, 101, 113, 114, 115, 116, 117, 118, 119, 120, 121, 122, 123] (by decide +kernel) (by decide +kernel)) (goodIn_sub (fun _ h => List.mem_cons_of_mem _ (List.mem_append_right _ h)) (by decide +kernel))
set_option maxRecDepth 20000 in
theorem gX6_unpin_X6_chooseViews : GoodIn wsX6_unpin (wsV RX6 67 RX6 yX6_chooseViews wsX6_chooseViews) := goodIn_app (goodIn_of _ (by decide +kernel)) ggX6_unpin_X6_chooseViews
set_option maxRecDepth 20000 in
theorem ggX6_roomOf_X6_personOf : GoodIn wsX6_roomOf wsX6_personOf := goodIn_ca (goodIn_r _ [9, 10, 11, 12, 27, 28, 29, 30, 31, 32, 33, 34, 35, 36, 37] (by decide +kernel) (by decide +kernel)) (goodIn_sub (fun _ h => List.mem_cons_of_mem _ (List.mem_append_right _ h)) (by decide +kernel))
set_option maxRecDepth 20000 in
theorem gX6_roomOf_X6_personOf : GoodIn wsX6_roomOf (wsV RX6 60 RX6 yX6_personOf wsX6_personOf) := goodIn_app (goodIn_of _ (by decide +kernel)) ggX6_roomOf_X6_personOf
set_option maxRecDepth 20000 in
theorem ggX6_inRoom_X6_roomNumbered : GoodIn wsX6_inRoom wsX6_roomNumbered := goodIn_ca (goodIn_r _ [6, 7, 8, 9, 16, 17, 18, 19, 20, 21, 22, 23, 24, 25, 26] (by decide +kernel) (by decide +kernel)) (goodIn_sub (fun _ h => List.mem_cons_of_mem _ (List.mem_append_right _ h)) (by decide +kernel))
set_option maxRecDepth 20000 in
theorem gX6_inRoom_X6_roomNumbered : GoodIn wsX6_inRoom (wsV RX6 89 RX6 yX6_roomNumbered wsX6_roomNumbered) := goodIn_app (goodIn_of _ (by decide +kernel)) ggX6_inRoom_X6_roomNumbered
set_option maxRecDepth 20000 in
theorem ggX6_personAt_X6_roomNumbered : GoodIn wsX6_personAt wsX6_roomNumbered := goodIn_ca (goodIn_r _ [8, 9, 10, 11, 27, 28, 29, 30, 31, 32, 33, 34, 35, 36, 37] (by decide +kernel) (by decide +kernel)) (goodIn_sub (fun _ h => List.mem_cons_of_mem _ (List.mem_append_right _ h)) (by decide +kernel))
set_option maxRecDepth 20000 in
theorem gX6_personAt_X6_roomNumbered : GoodIn wsX6_personAt (wsV RX6 89 RX6 yX6_roomNumbered wsX6_roomNumbered) := goodIn_app (goodIn_of _ (by decide +kernel)) ggX6_personAt_X6_roomNumbered
set_option maxRecDepth 20000 in
theorem ggX6_personAt_X4_at : GoodIn wsX6_personAt wsX4_at := goodIn_r _ [16, 17, 18, 38, 39, 40, 41, 42, 43] (by decide +kernel) (by decide +kernel)
set_option maxRecDepth 20000 in
theorem gX6_personAt_X4_at : GoodIn wsX6_personAt (wsV RX6 113 RX4 yX4_at wsX4_at) := goodIn_app (goodIn_of _ (by decide +kernel)) ggX6_personAt_X4_at
set_option maxRecDepth 20000 in
theorem ggX6_pass_X6_passOneTick : GoodIn wsX6_pass wsX6_passOneTick := goodIn_ca (goodIn_r _ [12, 5, 13, 14, 15, 16, 17, 18, 19, 20, 21, 22, 23, 24, 11, 25, 6, 26, 27, 28, 29, 30, 31, 32, 33, 34, 35, 36, 37, 38, 39, 40, 41, 42, 43, 44, 45, 46, 47, 48, 49, 50, 51, 52, 53, 54, 55, 56, 57, 58, 59, 60, 61, 62, 63, 64, 65, 66, 67, 68, 69, 70, 71, 72, 73, 74, 75, 76, 77, 78, 79, 80, 81, 82, 83, 84, 85, 86, 87, 88, 89, 90, 91, 92, 93, 94, 95, 96, 97, 98, 99, 100, 101, 102, 103, 104, 105, 106, 107, 108, 109, 110, 111, 112, 113, 114, 115, 116, 117, 118, 119, 120, 121, 122, 123, 124, 125, 126, 127, 128, 129, 130, 131, 132, 133, 134, 135, 136, 137, 138, 139, 140, 141, 142, 143, 144, 145, 146, 147, 148, 149, 150, 151, 152, 153, 154, 155, 156, 157, 158, 159, 160, 161, 162, 163, 164, 165, 166, 167, 168, 169, 170, 171, 172, 173, 174, 178, 179, 180, 181, 182, 183, 184, 185, 186, 187, 188, 189, 190, 191, 192, 193, 194, 175, 176, 177, 195, 196, 197, 198, 199] (by decide +kernel) (by decide +kernel)) (goodIn_sub (fun _ h => List.mem_cons_of_mem _ (List.mem_append_right _ h)) (by decide +kernel))
set_option maxRecDepth 20000 in
theorem gX6_pass_X6_passOneTick : GoodIn wsX6_pass (wsV RX6 162 RX6 yX6_passOneTick wsX6_passOneTick) := goodIn_app (goodIn_of _ (by decide +kernel)) ggX6_pass_X6_passOneTick
set_option maxRecDepth 20000 in
theorem ggX6_speaker_X6_roomNumbered : GoodIn wsX6_speaker wsX6_roomNumbered := goodIn_ca (goodIn_r _ [9, 10, 11, 12, 27, 28, 29, 30, 31, 32, 33, 34, 35, 36, 37] (by decide +kernel) (by decide +kernel)) (goodIn_sub (fun _ h => List.mem_cons_of_mem _ (List.mem_append_right _ h)) (by decide +kernel))
set_option maxRecDepth 20000 in
theorem gX6_speaker_X6_roomNumbered : GoodIn wsX6_speaker (wsV RX6 89 RX6 yX6_roomNumbered wsX6_roomNumbered) := goodIn_app (goodIn_of _ (by decide +kernel)) ggX6_speaker_X6_roomNumbered
set_option maxRecDepth 20000 in
theorem ggX6_challenge_X6_roomNumbered : GoodIn wsX6_challenge wsX6_roomNumbered := goodIn_ca (goodIn_r _ [6, 7, 8, 9, 16, 17, 18, 19, 20, 21, 22, 23, 24, 25, 26] (by decide +kernel) (by decide +kernel)) (goodIn_sub (fun _ h => List.mem_cons_of_mem _ (List.mem_append_right _ h)) (by decide +kernel))
set_option maxRecDepth 20000 in
theorem gX6_challenge_X6_roomNumbered : GoodIn wsX6_challenge (wsV RX6 89 RX6 yX6_roomNumbered wsX6_roomNumbered) := goodIn_app (goodIn_of _ (by decide +kernel)) ggX6_challenge_X6_roomNumbered
set_option maxRecDepth 20000 in
theorem ggX6_hears_X6_personOf : GoodIn wsX6_hears wsX6_personOf := goodIn_ca (goodIn_r _ [6, 7, 8, 9, 22, 23, 24, 25, 26, 27, 28, 29, 30, 31, 32] (by decide +kernel) (by decide +kernel)) (goodIn_sub (fun _ h => List.mem_cons_of_mem _ (List.mem_append_right _ h)) (by decide +kernel))
set_option maxRecDepth 20000 in
theorem gX6_hears_X6_personOf : GoodIn wsX6_hears (wsV RX6 60 RX6 yX6_personOf wsX6_personOf) := goodIn_app (goodIn_of _ (by decide +kernel)) ggX6_hears_X6_personOf
set_option maxRecDepth 20000 in
theorem ggX6_hears_X6_areTogether : GoodIn wsX6_hears wsX6_areTogether := goodIn_r _ [12, 13, 14, 15, 16, 17, 18, 19, 20, 21] (by decide +kernel) (by decide +kernel)
set_option maxRecDepth 20000 in
theorem gX6_hears_X6_areTogether : GoodIn wsX6_hears (va_wsS RX6 126 yX6_areTogether wsX6_areTogether) := goodIn_app (goodIn_of _ (by decide +kernel)) ggX6_hears_X6_areTogether
set_option maxRecDepth 20000 in
theorem ggX6_talked_X6_personOf : GoodIn wsX6_talked wsX6_personOf := goodIn_ca (goodIn_r _ [6, 7, 8, 9, 18, 19, 20, 21, 22, 23, 24, 25, 26, 27, 28] (by decide +kernel) (by decide +kernel)) (goodIn_sub (fun _ h => List.mem_cons_of_mem _ (List.mem_append_right _ h)) (by decide +kernel))
set_option maxRecDepth 20000 in
theorem gX6_talked_X6_personOf : GoodIn wsX6_talked (wsV RX6 60 RX6 yX6_personOf wsX6_personOf) := goodIn_app (goodIn_of _ (by decide +kernel)) ggX6_talked_X6_personOf
set_option maxRecDepth 20000 in
theorem ggX6_turnAt_X5_has : GoodIn wsX6_turnAt wsX5_has := goodIn_r _ [8, 9, 26, 27, 28] (by decide +kernel) (by decide +kernel)
set_option maxRecDepth 20000 in
theorem gX6_turnAt_X5_has : GoodIn wsX6_turnAt (wsV RX6 177 RX5 yX5_has wsX5_has) := goodIn_app (goodIn_of _ (by decide +kernel)) ggX6_turnAt_X5_has
set_option maxRecDepth 20000 in
theorem ggX6_turnAt_X5_at : GoodIn wsX6_turnAt wsX5_at := goodIn_ca (goodIn_r _ [13, 9, 14, 26, 27, 28] (by decide +kernel) (by decide +kernel)) (goodIn_sub (fun _ h => List.mem_cons_of_mem _ (List.mem_append_right _ h)) (by decide +kernel))
set_option maxRecDepth 20000 in
theorem gX6_turnAt_X5_at : GoodIn wsX6_turnAt (wsV RX6 183 RX5 yX5_at wsX5_at) := goodIn_app (goodIn_of _ (by decide +kernel)) ggX6_turnAt_X5_at
set_option maxRecDepth 20000 in
theorem ggX6_layer_X6_personOf : GoodIn wsX6_layer wsX6_personOf := goodIn_ca (goodIn_r _ [7, 8, 9, 10, 25, 26, 27, 28, 29, 30, 31, 32, 33, 34, 35] (by decide +kernel) (by decide +kernel)) (goodIn_sub (fun _ h => List.mem_cons_of_mem _ (List.mem_append_left _ (List.mem_append_right _ h))) (by decide +kernel))
set_option maxRecDepth 20000 in
theorem gX6_layer_X6_personOf : GoodIn wsX6_layer (wsV RX6 60 RX6 yX6_personOf wsX6_personOf) := goodIn_app (goodIn_of _ (by decide +kernel)) ggX6_layer_X6_personOf
set_option maxRecDepth 20000 in
theorem ggX6_layer_X1_of : GoodIn wsX6_layer wsX1_of := goodIn_ca (goodIn_r _ [15, 16, 36] (by decide +kernel) (by decide +kernel)) (goodIn_sub (fun _ h => List.mem_cons_of_mem _ (List.mem_append_right _ h)) (by decide +kernel))
set_option maxRecDepth 20000 in
theorem gX6_layer_X1_of : GoodIn wsX6_layer (wsV RX6 190 RX1 yX1_of wsX1_of) := goodIn_app (goodIn_of _ (by decide +kernel)) ggX6_layer_X1_of
set_option maxRecDepth 20000 in
theorem ggX6_layerAnew_X6_personOf : GoodIn wsX6_layerAnew wsX6_personOf := goodIn_ca (goodIn_r _ [8, 9, 10, 11, 77, 78, 79, 80, 81, 82, 83, 84, 85, 86, 87] (by decide +kernel) (by decide +kernel)) (goodIn_sub (fun _ h => List.mem_cons_of_mem _ (List.mem_append_left _ (List.mem_append_right _ h))) (by decide +kernel))
set_option maxRecDepth 20000 in
theorem gX6_layerAnew_X6_personOf : GoodIn wsX6_layerAnew (wsV RX6 60 RX6 yX6_personOf wsX6_personOf) := goodIn_app (goodIn_of _ (by decide +kernel)) ggX6_layerAnew_X6_personOf
set_option maxRecDepth 20000 in
theorem ggX6_layerAnew_X0_choose : GoodIn wsX6_layerAnew wsX0_choose := goodIn_ca (goodIn_r _ [16, 17, 18, 19, 20, 21, 22, 23, 24, 25, 26, 27, 28, 29, 30, 31, 32, 15, 33, 34, 35, 36, 37, 38, 39, 40, 41, 42, 43, 44, 45, 46, 47, 48, 49, 50, 51, 52, 53, 54, 55, 56, 57, 58, 59, 60, 61, 62, 63, 64, 65, 66, 67, 68, 69, 7, 70, 71, 72, 73, 74, 75, 88, 89, 90, 91, 92, 93, 94, 95, 96, 97, 98, 99, 100, 101, 102, 103, 104, 105, 106] (by decide +kernel) (by decide +kernel)) (goodIn_sub (fun _ h => List.mem_cons_of_mem _ (List.mem_append_right _ h)) (by decide +kernel))
set_option maxRecDepth 20000 in
theorem gX6_layerAnew_X0_choose : GoodIn wsX6_layerAnew (wsV RX6 195 RX0 yX0_choose wsX0_choose) := goodIn_app (goodIn_of _ (by decide +kernel)) ggX6_layerAnew_X0_choose
set_option maxRecDepth 20000 in
theorem ggX6_layerAnew_X1_of : GoodIn wsX6_layerAnew wsX1_of := goodIn_ca (goodIn_r _ [68, 25, 100] (by decide +kernel) (by decide +kernel)) (goodIn_sub (fun _ h => List.mem_cons_of_mem _ (List.mem_append_right _ h)) (by decide +kernel))
set_option maxRecDepth 20000 in
theorem gX6_layerAnew_X1_of : GoodIn wsX6_layerAnew (wsV RX6 190 RX1 yX1_of wsX1_of) := goodIn_app (goodIn_of _ (by decide +kernel)) ggX6_layerAnew_X1_of
set_option maxRecDepth 20000 in
theorem ggX6_used_X6_personOf : GoodIn wsX6_used wsX6_personOf := goodIn_ca (goodIn_r _ [6, 7, 8, 9, 27, 28, 29, 30, 31, 32, 33, 34, 35, 36, 37] (by decide +kernel) (by decide +kernel)) (goodIn_sub (fun _ h => List.mem_cons_of_mem _ (List.mem_append_left _ (List.mem_append_right _ h))) (by decide +kernel))
set_option maxRecDepth 20000 in
theorem gX6_used_X6_personOf : GoodIn wsX6_used (wsV RX6 60 RX6 yX6_personOf wsX6_personOf) := goodIn_app (goodIn_of _ (by decide +kernel)) ggX6_used_X6_personOf
set_option maxRecDepth 20000 in
theorem ggX6_used_X1_needed : GoodIn wsX6_used wsX1_needed := goodIn_ca (goodIn_r _ [14, 15, 16, 5, 17, 18, 38] (by decide +kernel) (by decide +kernel)) (goodIn_sub (fun _ h => List.mem_cons_of_mem _ (List.mem_append_right _ h)) (by decide +kernel))
set_option maxRecDepth 20000 in
theorem gX6_used_X1_needed : GoodIn wsX6_used (wsV RX6 202 RX1 yX1_needed wsX1_needed) := goodIn_app (goodIn_of _ (by decide +kernel)) ggX6_used_X1_needed
set_option maxRecDepth 20000 in
theorem ggX6_viewers_X6_personOf : GoodIn wsX6_viewers wsX6_personOf := goodIn_ca (goodIn_r _ [8, 9, 10, 1, 17, 18, 19, 20, 21, 22, 23, 24, 25, 26, 27] (by decide +kernel) (by decide +kernel)) (goodIn_sub (fun _ h => List.mem_cons_of_mem _ (List.mem_append_left _ (List.mem_append_right _ h))) (by decide +kernel))
set_option maxRecDepth 20000 in
theorem gX6_viewers_X6_personOf : GoodIn wsX6_viewers (wsV RX6 60 RX6 yX6_personOf wsX6_personOf) := goodIn_app (goodIn_of _ (by decide +kernel)) ggX6_viewers_X6_personOf
set_option maxRecDepth 20000 in
theorem ggX6_viewers_X1_of : GoodIn wsX6_viewers wsX1_of := goodIn_ca (goodIn_r _ [15, 16, 36] (by decide +kernel) (by decide +kernel)) (goodIn_sub (fun _ h => List.mem_cons_of_mem _ (List.mem_append_right _ h)) (by decide +kernel))
set_option maxRecDepth 20000 in
theorem gX6_viewers_X1_of : GoodIn wsX6_viewers (wsV RX6 190 RX1 yX1_of wsX1_of) := goodIn_app (goodIn_of _ (by decide +kernel)) ggX6_viewers_X1_of
set_option maxRecDepth 20000 in
theorem ggX6_record_X6_roomNumbered : GoodIn wsX6_record wsX6_roomNumbered := goodIn_ca (goodIn_r _ [12, 13, 14, 15, 34, 35, 36, 37, 38, 39, 40, 41, 42, 43, 44] (by decide +kernel) (by decide +kernel)) (goodIn_sub (fun _ h => List.mem_cons_of_mem _ (List.mem_append_right _ h)) (by decide +kernel))
set_option maxRecDepth 20000 in
theorem gX6_record_X6_roomNumbered : GoodIn wsX6_record (wsV RX6 89 RX6 yX6_roomNumbered wsX6_roomNumbered) := goodIn_app (goodIn_of _ (by decide +kernel)) ggX6_record_X6_roomNumbered
set_option maxRecDepth 20000 in
theorem ggX6_record_X3_init : GoodIn wsX6_record wsX3_init := goodIn_r _ [18, 19, 20, 21, 22, 23, 24, 25, 26, 27, 28, 29, 30, 31, 32, 33, 48, 49, 50, 45, 46, 47] (by decide +kernel) (by decide +kernel)
set_option maxRecDepth 20000 in
theorem gX6_record_X3_init : GoodIn wsX6_record (wsX3_init) := ggX6_record_X3_init
set_option maxRecDepth 20000 in
theorem ggX6_stop_X6_recorderNumbered : GoodIn wsX6_stop wsX6_recorderNumbered := goodIn_ca (goodIn_r _ [10, 11, 12, 13, 20, 21, 22, 23, 24, 25, 26, 27, 28, 29, 30] (by decide +kernel) (by decide +kernel)) (goodIn_sub (fun _ h => List.mem_cons_of_mem _ (List.mem_append_right _ h)) (by decide +kernel))
set_option maxRecDepth 20000 in
theorem gX6_stop_X6_recorderNumbered : GoodIn wsX6_stop (wsV RX6 227 RX6 yX6_recorderNumbered wsX6_recorderNumbered) := goodIn_app (goodIn_of _ (by decide +kernel)) ggX6_stop_X6_recorderNumbered
set_option maxRecDepth 20000 in
theorem ggX6_stateOf_X6_recorderNumbered : GoodIn wsX6_stateOf wsX6_recorderNumbered := goodIn_ca (goodIn_r _ [6, 7, 8, 9, 13, 14, 15, 16, 17, 18, 19, 20, 21, 22, 23] (by decide +kernel) (by decide +kernel)) (goodIn_sub (fun _ h => List.mem_cons_of_mem _ (List.mem_append_right _ h)) (by decide +kernel))
set_option maxRecDepth 20000 in
theorem gX6_stateOf_X6_recorderNumbered : GoodIn wsX6_stateOf (wsV RX6 227 RX6 yX6_recorderNumbered wsX6_recorderNumbered) := goodIn_app (goodIn_of _ (by decide +kernel)) ggX6_stateOf_X6_recorderNumbered
set_option maxRecDepth 20000 in
theorem ggX6_follows_X6_recorderNumbered : GoodIn wsX6_follows wsX6_recorderNumbered := goodIn_ca (goodIn_r _ [10, 11, 12, 13, 23, 24, 25, 26, 27, 28, 29, 30, 31, 32, 33] (by decide +kernel) (by decide +kernel)) (goodIn_sub (fun _ h => List.mem_cons_of_mem _ (List.mem_append_right _ h)) (by decide +kernel))
set_option maxRecDepth 20000 in
theorem gX6_follows_X6_recorderNumbered : GoodIn wsX6_follows (wsV RX6 227 RX6 yX6_recorderNumbered wsX6_recorderNumbered) := goodIn_app (goodIn_of _ (by decide +kernel)) ggX6_follows_X6_recorderNumbered
set_option maxRecDepth 20000 in
theorem ggX6_noteAt_X6_recorderNumbered : GoodIn wsX6_noteAt wsX6_recorderNumbered := goodIn_ca (goodIn_r _ [8, 9, 10, 11, 26, 27, 28, 29, 30, 31, 32, 33, 34, 35, 36] (by decide +kernel) (by decide +kernel)) (goodIn_sub (fun _ h => List.mem_cons_of_mem _ (List.mem_append_left _ (List.mem_append_right _ h))) (by decide +kernel))
set_option maxRecDepth 20000 in
theorem gX6_noteAt_X6_recorderNumbered : GoodIn wsX6_noteAt (wsV RX6 227 RX6 yX6_recorderNumbered wsX6_recorderNumbered) := goodIn_app (goodIn_of _ (by decide +kernel)) ggX6_noteAt_X6_recorderNumbered
set_option maxRecDepth 20000 in
theorem ggX6_noteAt_X5_has : GoodIn wsX6_noteAt wsX5_has := goodIn_r _ [16, 17, 37, 38, 39] (by decide +kernel) (by decide +kernel)
set_option maxRecDepth 20000 in
theorem gX6_noteAt_X5_has : GoodIn wsX6_noteAt (wsV RX6 177 RX5 yX5_has wsX5_has) := goodIn_app (goodIn_of _ (by decide +kernel)) ggX6_noteAt_X5_has
set_option maxRecDepth 20000 in
theorem ggX6_noteAt_X5_at : GoodIn wsX6_noteAt wsX5_at := goodIn_ca (goodIn_r _ [21, 17, 22, 37, 38, 39] (by decide +kernel) (by decide +kernel)) (goodIn_sub (fun _ h => List.mem_cons_of_mem _ (List.mem_append_right _ h)) (by decide +kernel))
set_option maxRecDepth 20000 in
theorem gX6_noteAt_X5_at : GoodIn wsX6_noteAt (wsV RX6 183 RX5 yX5_at wsX5_at) := goodIn_app (goodIn_of _ (by decide +kernel)) ggX6_noteAt_X5_at
set_option maxRecDepth 20000 in
theorem ggX6_isApart_X6_isViewRight : GoodIn wsX6_isApart wsX6_isViewRight := goodIn_ca (goodIn_r _ [9, 1, 10, 11, 12, 13, 14, 15, 16, 8, 17, 4, 18, 19, 20, 21, 22, 23, 24, 25, 26, 27, 28, 29, 30, 31, 32, 33, 34, 35, 36, 37, 38, 39, 40, 41, 42, 43, 44, 45, 46, 47, 48, 49, 50, 51, 52, 53, 54, 55, 56, 57, 58, 59, 60, 61, 62, 63, 64, 65, 66, 67, 68, 69, 70, 71, 72, 73, 74, 75, 76, 77, 78, 79, 80, 81, 82, 83, 84, 85, 86, 87, 88, 89, 90, 91, 92, 93, 94, 95, 96, 97, 98, 99, 100, 101, 102, 109, 110, 111, 112, 113, 114, 115, 116, 117, 118, 119, 120, 121, 103, 104, 105, 106, 107, 108] (by decide +kernel) (by decide +kernel)) (goodIn_sub (fun _ h => List.mem_cons_of_mem _ (List.mem_append_right _ h)) (by decide +kernel))
set_option maxRecDepth 20000 in
theorem gX6_isApart_X6_isViewRight : GoodIn wsX6_isApart (wsV RX6 245 RX6 yX6_isViewRight wsX6_isViewRight) := goodIn_app (goodIn_of _ (by decide +kernel)) ggX6_isApart_X6_isViewRight
set_option maxRecDepth 20000 in
theorem ggX6_isViewRight_X6_areTogether : GoodIn wsX6_isViewRight wsX6_areTogether := goodIn_r _ [10, 11, 97, 98, 99, 100, 101, 102, 103, 104] (by decide +kernel) (by decide +kernel)
set_option maxRecDepth 20000 in
theorem gX6_isViewRight_X6_areTogether : GoodIn wsX6_isViewRight (va_wsS RX6 126 yX6_areTogether wsX6_areTogether) := goodIn_app (goodIn_of _ (by decide +kernel)) ggX6_isViewRight_X6_areTogether
set_option maxRecDepth 20000 in
theorem ggX6_isViewRight_X1_of : GoodIn wsX6_isViewRight wsX1_of := goodIn_ca (goodIn_r _ [16, 17, 109] (by decide +kernel) (by decide +kernel)) (goodIn_sub (fun _ h => List.mem_cons_of_mem _ (List.mem_append_right _ h)) (by decide +kernel))
set_option maxRecDepth 20000 in
theorem gX6_isViewRight_X1_of : GoodIn wsX6_isViewRight (wsV RX6 190 RX1 yX1_of wsX1_of) := goodIn_app (goodIn_of _ (by decide +kernel)) ggX6_isViewRight_X1_of
set_option maxRecDepth 20000 in
theorem ggX6_isViewRight_X0_choose : GoodIn wsX6_isViewRight wsX0_choose := goodIn_ca (goodIn_r _ [22, 23, 24, 25, 26, 27, 28, 15, 29, 17, 30, 31, 32, 33, 34, 35, 36, 21, 37, 38, 39, 40, 41, 42, 43, 44, 45, 46, 47, 48, 49, 50, 51, 52, 53, 54, 55, 56, 57, 58, 59, 60, 61, 62, 63, 64, 65, 66, 67, 68, 69, 13, 14, 16, 70, 9, 71, 72, 73, 74, 75, 76, 105, 106, 107, 108, 97, 98, 99, 100, 101, 102, 103, 104, 109, 110, 111, 112, 113, 114, 115] (by decide +kernel) (by decide +kernel)) (goodIn_sub (fun _ h => List.mem_cons_of_mem _ (List.mem_append_right _ h)) (by decide +kernel))
set_option maxRecDepth 20000 in
theorem gX6_isViewRight_X0_choose : GoodIn wsX6_isViewRight (wsV RX6 195 RX0 yX0_choose wsX0_choose) := goodIn_app (goodIn_of _ (by decide +kernel)) ggX6_isViewRight_X0_choose
set_option maxRecDepth 20000 in
theorem ggX6_isViewRight_X1_needed : GoodIn wsX6_isViewRight wsX1_needed := goodIn_ca (goodIn_r _ [80, 17, 70, 9, 71, 72, 109] (by decide +kernel) (by decide +kernel)) (goodIn_sub (fun _ h => List.mem_cons_of_mem _ (List.mem_append_right _ h)) (by decide +kernel))
set_option maxRecDepth 20000 in
theorem gX6_isViewRight_X1_needed : GoodIn wsX6_isViewRight (wsV RX6 202 RX1 yX1_needed wsX1_needed) := goodIn_app (goodIn_of _ (by decide +kernel)) ggX6_isViewRight_X1_needed
set_option maxRecDepth 20000 in
theorem ggX6_isViewRight_X1_isSameAs : GoodIn wsX6_isViewRight wsX1_isSameAs := goodIn_ca (goodIn_r _ [84, 17, 85, 13, 14, 15, 16, 109] (by decide +kernel) (by decide +kernel)) (goodIn_sub (fun _ h => List.mem_cons_of_mem _ (List.mem_append_right _ h)) (by decide +kernel))
set_option maxRecDepth 20000 in
theorem gX6_isViewRight_X1_isSameAs : GoodIn wsX6_isViewRight (wsV RX6 249 RX1 yX1_isSameAs wsX1_isSameAs) := goodIn_app (goodIn_of _ (by decide +kernel)) ggX6_isViewRight_X1_isSameAs
set_option maxRecDepth 20000 in
theorem ggX6_openRoom_X4_init : GoodIn wsX6_openRoom wsX4_init := goodIn_r _ [8, 9, 10, 11, 12, 13, 14, 15, 16, 17, 18, 19, 20] (by decide +kernel) (by decide +kernel)
set_option maxRecDepth 20000 in
theorem gX6_openRoom_X4_init : GoodIn wsX6_openRoom (wsX4_init) := ggX6_openRoom_X4_init
set_option maxRecDepth 20000 in
theorem ggX6_move_X4_letOut : GoodIn wsX6_move wsX4_letOut := goodIn_r _ [6, 7, 8, 9, 10, 11, 12, 13, 5, 14, 15, 16, 17, 18, 19, 20, 21, 22, 23, 36, 37, 38, 39, 40, 41] (by decide +kernel) (by decide +kernel)
set_option maxRecDepth 20000 in
theorem gX6_move_X4_letOut : GoodIn wsX6_move (wsV RX6 266 RX4 yX4_letOut wsX4_letOut) := goodIn_app (goodIn_of _ (by decide +kernel)) ggX6_move_X4_letOut
set_option maxRecDepth 20000 in
theorem ggX6_move_X4_letIn : GoodIn wsX6_move wsX4_letIn := goodIn_r _ [27, 7, 8, 36, 37, 38, 39, 40, 41] (by decide +kernel) (by decide +kernel)
set_option maxRecDepth 20000 in
theorem gX6_move_X4_letIn : GoodIn wsX6_move (wsV RX6 269 RX4 yX4_letIn wsX4_letIn) := goodIn_app (goodIn_of _ (by decide +kernel)) ggX6_move_X4_letIn
set_option maxRecDepth 20000 in
theorem ggX6_settle_X6_areTogether : GoodIn wsX6_settle wsX6_areTogether := goodIn_r _ [6, 7, 100, 101, 102, 103, 104, 105, 106, 107] (by decide +kernel) (by decide +kernel)
set_option maxRecDepth 20000 in
theorem gX6_settle_X6_areTogether : GoodIn wsX6_settle (va_wsS RX6 126 yX6_areTogether wsX6_areTogether) := goodIn_app (goodIn_of _ (by decide +kernel)) ggX6_settle_X6_areTogether
set_option maxRecDepth 20000 in
theorem ggX6_settle_X6_chooseViews : GoodIn wsX6_settle wsX6_chooseViews := goodIn_ca (goodIn_r _ [11, 1, 12, 13, 14, 15, 16, 17, 18, 19, 20, 21, 22, 23, 24, 25, 26, 27, 28, 29, 30, 31, 32, 33, 34, 35, 36, 37, 38, 39, 40, 41, 42, 43, 44, 45, 46, 47, 48, 49, 50, 51, 52, 53, 54, 55, 56, 57, 58, 59, 60, 61, 62, 63, 64, 65, 66, 67, 68, 69, 70, 71, 72, 73, 5, 74, 75, 76, 77, 78, 79, 80, 81, 82, 83, 84, 85, 86, 87, 88, 89, 90, 91, 92, 93, 94, 95, 96, 97, 98, 99, 100, 101, 102, 103, 104, 105, 106, 107, 108, 109, 110, 111, 112, 113, 114, 115, 116, 117, 118] (by decide +kernel) (by decide +kernel)) (goodIn_sub (fun _ h => List.mem_cons_of_mem _ (List.mem_append_right _ h)) (by decide +kernel))
set_option maxRecDepth 20000 in
theorem gX6_settle_X6_chooseViews : GoodIn wsX6_settle (wsV RX6 67 RX6 yX6_chooseViews wsX6_chooseViews) := goodIn_app (goodIn_of _ (by decide +kernel)) ggX6_settle_X6_chooseViews
set_option maxRecDepth 20000 in
theorem ggX6_chooseViews_X0_choose : GoodIn wsX6_chooseViews wsX0_choose := goodIn_ca (goodIn_r _ [10, 11, 12, 13, 14, 15, 16, 17, 18, 19, 20, 21, 22, 23, 24, 25, 26, 9, 27, 28, 29, 30, 31, 32, 33, 34, 35, 36, 37, 38, 39, 40, 41, 42, 43, 44, 45, 46, 47, 48, 49, 50, 51, 52, 53, 54, 55, 56, 57, 58, 59, 60, 61, 62, 63, 64, 65, 66, 67, 68, 69, 70, 99, 100, 101, 102, 91, 92, 93, 94, 95, 96, 97, 98, 103, 104, 105, 106, 107, 108, 109] (by decide +kernel) (by decide +kernel)) (goodIn_sub (fun _ h => List.mem_cons_of_mem _ (List.mem_append_right _ h)) (by decide +kernel))
set_option maxRecDepth 20000 in
theorem gX6_chooseViews_X0_choose : GoodIn wsX6_chooseViews (wsV RX6 195 RX0 yX0_choose wsX0_choose) := goodIn_app (goodIn_of _ (by decide +kernel)) ggX6_chooseViews_X0_choose
set_option maxRecDepth 20000 in
theorem ggX6_chooseViews_X1_takeOver : GoodIn wsX6_chooseViews wsX1_takeOver := goodIn_ca (goodIn_r _ [74, 19, 75, 60, 61, 17, 62, 103] (by decide +kernel) (by decide +kernel)) (goodIn_sub (fun _ h => List.mem_cons_of_mem _ (List.mem_append_right _ h)) (by decide +kernel))
set_option maxRecDepth 20000 in
theorem gX6_chooseViews_X1_takeOver : GoodIn wsX6_chooseViews (wsV RX6 272 RX1 yX1_takeOver wsX1_takeOver) := goodIn_app (goodIn_of _ (by decide +kernel)) ggX6_chooseViews_X1_takeOver
set_option maxRecDepth 20000 in
theorem ggX6_chooseViews_X1_needed : GoodIn wsX6_chooseViews wsX1_needed := goodIn_ca (goodIn_r _ [79, 19, 63, 64, 65, 66, 103] (by decide +kernel) (by decide +kernel)) (goodIn_sub (fun _ h => List.mem_cons_of_mem _ (List.mem_append_right _ h)) (by decide +kernel))
set_option maxRecDepth 20000 in
theorem gX6_chooseViews_X1_needed : GoodIn wsX6_chooseViews (wsV RX6 202 RX1 yX1_needed wsX1_needed) := goodIn_app (goodIn_of _ (by decide +kernel)) ggX6_chooseViews_X1_needed
set_option maxRecDepth 20000 in
theorem ggX6_passOneTick_X6_takeTurns : GoodIn wsX6_passOneTick wsX6_takeTurns := goodIn_ca (goodIn_r _ [15, 2, 16, 17, 3, 18, 19, 20, 21, 22, 23, 24, 25, 26, 27, 28, 29, 30, 31, 32, 33, 34, 35, 36, 37, 38, 39, 40, 41, 42, 43, 44, 45, 46, 14, 47, 48, 49, 50, 51, 52, 53, 54, 55, 56, 57, 58, 59, 60, 61, 62, 63, 64, 65, 66, 67, 68, 69, 70, 71, 72, 73, 74, 75, 76, 77, 78, 79, 80, 155, 156, 157, 158, 159, 160, 161, 162, 163, 164, 165, 166, 167, 168, 169, 170, 171, 172, 173, 174, 175, 176, 177, 178, 179, 183, 184, 185] (by decide +kernel) (by decide +kernel)) (goodIn_sub (fun _ h => List.mem_cons_of_mem _ (List.mem_append_right _ h)) (by decide +kernel))
set_option maxRecDepth 20000 in
theorem gX6_passOneTick_X6_takeTurns : GoodIn wsX6_passOneTick (wsV RX6 276 RX6 yX6_takeTurns wsX6_takeTurns) := goodIn_app (goodIn_of _ (by decide +kernel)) ggX6_passOneTick_X6_takeTurns
set_option maxRecDepth 20000 in
theorem ggX6_passOneTick_X6_chooseViews : GoodIn wsX6_passOneTick wsX6_chooseViews := goodIn_ca (goodIn_r _ [84, 85, 86, 87, 88, 10, 89, 90, 91, 92, 93, 94, 95, 96, 97, 98, 99, 100, 101, 102, 103, 104, 67, 105, 106, 107, 108, 109, 110, 111, 112, 113, 114, 115, 116, 117, 118, 119, 120, 33, 34, 21, 35, 30, 36, 121, 122, 123, 124, 125, 126, 127, 128, 129, 130, 131, 132, 133, 134, 135, 136, 137, 138, 139, 14, 140, 141, 142, 143, 144, 145, 146, 147, 148, 149, 150, 151, 152, 153, 154, 155, 156, 157, 158, 159, 160, 161, 162, 163, 164, 165, 172, 173, 174, 175, 176, 177, 178, 179, 186, 187, 188, 189, 190, 166, 167, 168, 169, 170, 171] (by decide +kernel) (by decide +kernel)) (goodIn_sub (fun _ h => List.mem_cons_of_mem _ (List.mem_append_right _ h)) (by decide +kernel))
set_option maxRecDepth 20000 in
theorem gX6_passOneTick_X6_chooseViews : GoodIn wsX6_passOneTick (wsV RX6 67 RX6 yX6_chooseViews wsX6_chooseViews) := goodIn_app (goodIn_of _ (by decide +kernel)) ggX6_passOneTick_X6_chooseViews
set_option maxRecDepth 20000 in
theorem ggX6_passOneTick_X6_numberOf : GoodIn wsX6_passOneTick wsX6_numberOf := goodIn_r _ [47, 48, 172, 173, 174, 175, 176, 177, 178, 179] (by decide +kernel) (by decide +kernel)
set_option maxRecDepth 20000 in
theorem gX6_passOneTick_X6_numberOf : GoodIn wsX6_passOneTick (va_wsS RX6 139 yX6_numberOf wsX6_numberOf) := goodIn_app (goodIn_of _ (by decide +kernel)) ggX6_passOneTick_X6_numberOf
set_option maxRecDepth 20000 in
theorem ggX6_passOneTick_X5_put : GoodIn wsX6_passOneTick wsX5_put := goodIn_ca (goodIn_r _ [53, 54, 55, 56, 57, 58, 52, 59, 60, 61, 62, 63, 64, 65, 66, 67, 68, 69, 70, 71, 72, 73, 74, 75, 76, 77, 78, 79, 80, 183, 184, 185] (by decide +kernel) (by decide +kernel)) (goodIn_sub (fun _ h => List.mem_cons_of_mem _ (List.mem_append_right _ h)) (by decide +kernel))
set_option maxRecDepth 20000 in
theorem gX6_passOneTick_X5_put : GoodIn wsX6_passOneTick (wsV RX6 279 RX5 yX5_put wsX5_put) := goodIn_app (goodIn_of _ (by decide +kernel)) ggX6_passOneTick_X5_put
set_option maxRecDepth 20000 in
theorem ggX6_takeTurns_X4_passTick : GoodIn wsX6_takeTurns wsX4_passTick := goodIn_r _ [9, 10, 11, 12, 13, 14, 15, 8, 16, 17, 18, 19, 20, 21, 22, 23, 24, 25, 26, 27, 28, 29, 30, 31, 80, 81, 82, 83, 84, 85, 86, 87, 88, 89, 90, 91, 92, 93] (by decide +kernel) (by decide +kernel)
set_option maxRecDepth 20000 in
theorem gX6_takeTurns_X4_passTick : GoodIn wsX6_takeTurns (wsV RX6 282 RX4 yX4_passTick wsX4_passTick) := goodIn_app (goodIn_of _ (by decide +kernel)) ggX6_takeTurns_X4_passTick
set_option maxRecDepth 20000 in
theorem ggX6_takeTurns_X6_numberOf : GoodIn wsX6_takeTurns wsX6_numberOf := goodIn_r _ [35, 36, 86, 87, 88, 89, 90, 91, 92, 93] (by decide +kernel) (by decide +kernel)
set_option maxRecDepth 20000 in
theorem gX6_takeTurns_X6_numberOf : GoodIn wsX6_takeTurns (va_wsS RX6 139 yX6_numberOf wsX6_numberOf) := goodIn_app (goodIn_of _ (by decide +kernel)) ggX6_takeTurns_X6_numberOf
set_option maxRecDepth 20000 in
theorem ggX6_takeTurns_X5_put : GoodIn wsX6_takeTurns wsX5_put := goodIn_ca (goodIn_r _ [41, 42, 43, 44, 45, 46, 40, 47, 48, 49, 50, 51, 52, 53, 54, 55, 56, 57, 58, 59, 60, 61, 62, 63, 64, 65, 66, 67, 68, 94, 95, 96] (by decide +kernel) (by decide +kernel)) (goodIn_sub (fun _ h => List.mem_cons_of_mem _ (List.mem_append_right _ h)) (by decide +kernel))
set_option maxRecDepth 20000 in
theorem gX6_takeTurns_X5_put : GoodIn wsX6_takeTurns (wsV RX6 279 RX5 yX5_put wsX5_put) := goodIn_app (goodIn_of _ (by decide +kernel)) ggX6_takeTurns_X5_put
