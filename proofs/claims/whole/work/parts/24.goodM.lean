set_option maxRecDepth 20000 in
theorem ggX7_isPerson_X7_in : GoodIn wsX7_isPerson wsX7_in := goodIn_r _ [5] (by decide +kernel) (by decide +kernel)
set_option maxRecDepth 20000 in
theorem gX7_isPerson_X7_in : GoodIn wsX7_isPerson (va_wsS RX7 73 yX7_in wsX7_in) := goodIn_app (goodIn_of _ (by decide +kernel)) ggX7_isPerson_X7_in
set_option maxRecDepth 20000 in
theorem ggX7_isRoom_X7_in : GoodIn wsX7_isRoom wsX7_in := goodIn_r _ [5] (by decide +kernel) (by decide +kernel)
set_option maxRecDepth 20000 in
theorem gX7_isRoom_X7_in : GoodIn wsX7_isRoom (va_wsS RX7 73 yX7_in wsX7_in) := goodIn_app (goodIn_of _ (by decide +kernel)) ggX7_isRoom_X7_in
set_option maxRecDepth 20000 in
theorem ggX7_isRecorder_X7_in : GoodIn wsX7_isRecorder wsX7_in := goodIn_r _ [5] (by decide +kernel) (by decide +kernel)
set_option maxRecDepth 20000 in
theorem gX7_isRecorder_X7_in : GoodIn wsX7_isRecorder (va_wsS RX7 73 yX7_in wsX7_in) := goodIn_app (goodIn_of _ (by decide +kernel)) ggX7_isRecorder_X7_in
set_option maxRecDepth 20000 in
theorem ggX7_addPerson_X7_in : GoodIn wsX7_addPerson wsX7_in := goodIn_r _ [9] (by decide +kernel) (by decide +kernel)
set_option maxRecDepth 20000 in
theorem gX7_addPerson_X7_in : GoodIn wsX7_addPerson (va_wsS RX7 73 yX7_in wsX7_in) := goodIn_app (goodIn_of _ (by decide +kernel)) ggX7_addPerson_X7_in
set_option maxRecDepth 20000 in
theorem ggX7_addPerson_X7_fails : GoodIn wsX7_addPerson wsX7_fails := goodIn_r _ [13, 1, 14, 15, 16, 17, 18, 19, 20, 21, 22, 23, 24, 25, 26, 27, 28, 29, 30, 31, 32, 33, 34, 35, 36, 37, 38] (by decide +kernel) (by decide +kernel)
set_option maxRecDepth 20000 in
theorem gX7_addPerson_X7_fails : GoodIn wsX7_addPerson (wsV RX7 83 RX7 yX7_fails wsX7_fails) := goodIn_app (goodIn_of _ (by decide +kernel)) ggX7_addPerson_X7_fails
set_option maxRecDepth 20000 in
theorem ggX7_setBudget_X7_isPerson : GoodIn wsX7_setBudget wsX7_isPerson := goodIn_r _ [7, 8, 9, 10, 6, 11, 16, 17, 18, 19, 20, 21, 22, 23, 24, 25, 26, 27, 28, 29, 30, 31, 32, 33, 34, 35, 36, 37, 38, 39, 40] (by decide +kernel) (by decide +kernel)
set_option maxRecDepth 20000 in
theorem gX7_setBudget_X7_isPerson : GoodIn wsX7_setBudget (wsV RX7 87 RX7 yX7_isPerson wsX7_isPerson) := goodIn_app (goodIn_of _ (by decide +kernel)) ggX7_setBudget_X7_isPerson
set_option maxRecDepth 20000 in
theorem ggX7_setBudget_X7_fails : GoodIn wsX7_setBudget wsX7_fails := goodIn_r _ [15, 1, 16, 17, 18, 19, 20, 21, 22, 23, 24, 25, 26, 27, 28, 29, 30, 31, 32, 33, 34, 35, 36, 37, 38, 39, 40] (by decide +kernel) (by decide +kernel)
set_option maxRecDepth 20000 in
theorem gX7_setBudget_X7_fails : GoodIn wsX7_setBudget (wsV RX7 83 RX7 yX7_fails wsX7_fails) := goodIn_app (goodIn_of _ (by decide +kernel)) ggX7_setBudget_X7_fails
set_option maxRecDepth 20000 in
theorem ggX7_setBudget_X7_in : GoodIn wsX7_setBudget wsX7_in := goodIn_r _ [11] (by decide +kernel) (by decide +kernel)
set_option maxRecDepth 20000 in
theorem gX7_setBudget_X7_in : GoodIn wsX7_setBudget (va_wsS RX7 73 yX7_in wsX7_in) := goodIn_app (goodIn_of _ (by decide +kernel)) ggX7_setBudget_X7_in
set_option maxRecDepth 20000 in
theorem ggX7_setSends_X7_isPerson : GoodIn wsX7_setSends wsX7_isPerson := goodIn_r _ [7, 8, 9, 10, 6, 11, 16, 17, 18, 19, 20, 21, 22, 23, 24, 25, 26, 27, 28, 29, 30, 31, 32, 33, 34, 35, 36, 37, 38, 39, 40] (by decide +kernel) (by decide +kernel)
set_option maxRecDepth 20000 in
theorem gX7_setSends_X7_isPerson : GoodIn wsX7_setSends (wsV RX7 87 RX7 yX7_isPerson wsX7_isPerson) := goodIn_app (goodIn_of _ (by decide +kernel)) ggX7_setSends_X7_isPerson
set_option maxRecDepth 20000 in
theorem ggX7_setSends_X7_fails : GoodIn wsX7_setSends wsX7_fails := goodIn_r _ [15, 1, 16, 17, 18, 19, 20, 21, 22, 23, 24, 25, 26, 27, 28, 29, 30, 31, 32, 33, 34, 35, 36, 37, 38, 39, 40] (by decide +kernel) (by decide +kernel)
set_option maxRecDepth 20000 in
theorem gX7_setSends_X7_fails : GoodIn wsX7_setSends (wsV RX7 83 RX7 yX7_fails wsX7_fails) := goodIn_app (goodIn_of _ (by decide +kernel)) ggX7_setSends_X7_fails
set_option maxRecDepth 20000 in
theorem ggX7_setSends_X7_in : GoodIn wsX7_setSends wsX7_in := goodIn_r _ [11] (by decide +kernel) (by decide +kernel)
set_option maxRecDepth 20000 in
theorem gX7_setSends_X7_in : GoodIn wsX7_setSends (va_wsS RX7 73 yX7_in wsX7_in) := goodIn_app (goodIn_of _ (by decide +kernel)) ggX7_setSends_X7_in
set_option maxRecDepth 20000 in
theorem ggX7_setLoud_X7_isPerson : GoodIn wsX7_setLoud wsX7_isPerson := goodIn_r _ [7, 8, 9, 10, 6, 11, 16, 17, 18, 19, 20, 21, 22, 23, 24, 25, 26, 27, 28, 29, 30, 31, 32, 33, 34, 35, 36, 37, 38, 39, 40] (by decide +kernel) (by decide +kernel)
set_option maxRecDepth 20000 in
theorem gX7_setLoud_X7_isPerson : GoodIn wsX7_setLoud (wsV RX7 87 RX7 yX7_isPerson wsX7_isPerson) := goodIn_app (goodIn_of _ (by decide +kernel)) ggX7_setLoud_X7_isPerson
set_option maxRecDepth 20000 in
theorem ggX7_setLoud_X7_fails : GoodIn wsX7_setLoud wsX7_fails := goodIn_r _ [15, 1, 16, 17, 18, 19, 20, 21, 22, 23, 24, 25, 26, 27, 28, 29, 30, 31, 32, 33, 34, 35, 36, 37, 38, 39, 40] (by decide +kernel) (by decide +kernel)
set_option maxRecDepth 20000 in
theorem gX7_setLoud_X7_fails : GoodIn wsX7_setLoud (wsV RX7 83 RX7 yX7_fails wsX7_fails) := goodIn_app (goodIn_of _ (by decide +kernel)) ggX7_setLoud_X7_fails
set_option maxRecDepth 20000 in
theorem ggX7_setLoud_X7_in : GoodIn wsX7_setLoud wsX7_in := goodIn_r _ [11] (by decide +kernel) (by decide +kernel)
set_option maxRecDepth 20000 in
theorem gX7_setLoud_X7_in : GoodIn wsX7_setLoud (va_wsS RX7 73 yX7_in wsX7_in) := goodIn_app (goodIn_of _ (by decide +kernel)) ggX7_setLoud_X7_in
set_option maxRecDepth 20000 in
theorem ggX7_addRoom_X7_fails : GoodIn wsX7_addRoom wsX7_fails := goodIn_r _ [7, 1, 14, 15, 16, 17, 18, 19, 20, 21, 22, 23, 24, 25, 26, 27, 28, 29, 30, 31, 32, 33, 34, 35, 36, 37, 38] (by decide +kernel) (by decide +kernel)
set_option maxRecDepth 20000 in
theorem gX7_addRoom_X7_fails : GoodIn wsX7_addRoom (wsV RX7 83 RX7 yX7_fails wsX7_fails) := goodIn_app (goodIn_of _ (by decide +kernel)) ggX7_addRoom_X7_fails
set_option maxRecDepth 20000 in
theorem ggX7_addRoom_X7_makesRoom : GoodIn wsX7_addRoom wsX7_makesRoom := goodIn_ca (goodIn_r _ [11, 12, 2, 13, 14, 15, 16, 17, 18, 19, 20, 21, 22, 23, 24, 25, 26, 27, 28, 29, 30, 31, 32, 33, 34, 35, 36, 37, 38] (by decide +kernel) (by decide +kernel)) (goodIn_sub (fun _ h => List.mem_cons_of_mem _ (List.mem_append_right _ h)) (by decide +kernel))
set_option maxRecDepth 20000 in
theorem gX7_addRoom_X7_makesRoom : GoodIn wsX7_addRoom (wsV RX7 91 RX7 yX7_makesRoom wsX7_makesRoom) := goodIn_app (goodIn_of _ (by decide +kernel)) ggX7_addRoom_X7_makesRoom
set_option maxRecDepth 20000 in
theorem ggX7_enter_X7_isPerson : GoodIn wsX7_enter wsX7_isPerson := goodIn_r _ [8, 9, 10, 11, 7, 12, 39, 40, 41, 42, 43, 44, 45, 46, 47, 48, 49, 50, 51, 52, 53, 54, 55, 56, 57, 58, 59, 60, 61, 62, 63] (by decide +kernel) (by decide +kernel)
set_option maxRecDepth 20000 in
theorem gX7_enter_X7_isPerson : GoodIn wsX7_enter (wsV RX7 87 RX7 yX7_isPerson wsX7_isPerson) := goodIn_app (goodIn_of _ (by decide +kernel)) ggX7_enter_X7_isPerson
set_option maxRecDepth 20000 in
theorem ggX7_enter_X7_fails : GoodIn wsX7_enter wsX7_fails := goodIn_r _ [16, 1, 39, 40, 41, 42, 43, 44, 45, 46, 47, 48, 49, 50, 51, 52, 53, 54, 55, 56, 57, 58, 59, 60, 61, 62, 63] (by decide +kernel) (by decide +kernel)
set_option maxRecDepth 20000 in
theorem gX7_enter_X7_fails : GoodIn wsX7_enter (wsV RX7 83 RX7 yX7_fails wsX7_fails) := goodIn_app (goodIn_of _ (by decide +kernel)) ggX7_enter_X7_fails
set_option maxRecDepth 20000 in
theorem ggX7_enter_X7_isRoom : GoodIn wsX7_enter wsX7_isRoom := goodIn_r _ [20, 21, 10, 11, 7, 12, 39, 40, 41, 42, 43, 44, 45, 46, 47, 48, 49, 50, 51, 52, 53, 54, 55, 56, 57, 58, 59, 60, 61, 62, 63] (by decide +kernel) (by decide +kernel)
set_option maxRecDepth 20000 in
theorem gX7_enter_X7_isRoom : GoodIn wsX7_enter (wsV RX7 95 RX7 yX7_isRoom wsX7_isRoom) := goodIn_app (goodIn_of _ (by decide +kernel)) ggX7_enter_X7_isRoom
set_option maxRecDepth 20000 in
theorem ggX7_enter_X7_goesOut : GoodIn wsX7_enter wsX7_goesOut := goodIn_ca (goodIn_r _ [25, 2, 26, 3, 27, 28, 29, 39, 40, 41, 42, 43, 44, 45, 46, 47, 48, 49, 50, 51, 52, 53, 54, 55, 56, 57, 58, 59, 60, 61, 62, 63] (by decide +kernel) (by decide +kernel)) (goodIn_sub (fun _ h => List.mem_cons_of_mem _ (List.mem_append_right _ h)) (by decide +kernel))
set_option maxRecDepth 20000 in
theorem gX7_enter_X7_goesOut : GoodIn wsX7_enter (wsV RX7 98 RX7 yX7_goesOut wsX7_goesOut) := goodIn_app (goodIn_of _ (by decide +kernel)) ggX7_enter_X7_goesOut
set_option maxRecDepth 20000 in
theorem ggX7_enter_X7_goesIn : GoodIn wsX7_enter wsX7_goesIn := goodIn_ca (goodIn_r _ [33, 26, 3, 2, 39, 40, 41, 42, 43, 44, 45, 46, 47, 48, 49, 50, 51, 52, 53, 54, 55, 56, 57, 58, 59, 60, 61, 62, 63] (by decide +kernel) (by decide +kernel)) (goodIn_sub (fun _ h => List.mem_cons_of_mem _ (List.mem_append_right _ h)) (by decide +kernel))
set_option maxRecDepth 20000 in
theorem gX7_enter_X7_goesIn : GoodIn wsX7_enter (wsV RX7 102 RX7 yX7_goesIn wsX7_goesIn) := goodIn_app (goodIn_of _ (by decide +kernel)) ggX7_enter_X7_goesIn
set_option maxRecDepth 20000 in
theorem ggX7_enter_X7_endsPins : GoodIn wsX7_enter wsX7_endsPins := goodIn_ca (goodIn_r _ [37, 9, 38, 2, 39, 40, 41, 42, 43, 44, 45, 46, 47, 48, 49, 50, 51, 52, 53, 54, 55, 56, 57, 58, 59, 60, 61, 62, 63] (by decide +kernel) (by decide +kernel)) (goodIn_sub (fun _ h => List.mem_cons_of_mem _ (List.mem_append_right _ h)) (by decide +kernel))
set_option maxRecDepth 20000 in
theorem gX7_enter_X7_endsPins : GoodIn wsX7_enter (wsV RX7 106 RX7 yX7_endsPins wsX7_endsPins) := goodIn_app (goodIn_of _ (by decide +kernel)) ggX7_enter_X7_endsPins
set_option maxRecDepth 20000 in
theorem ggX7_leave_X7_isPerson : GoodIn wsX7_leave wsX7_isPerson := goodIn_r _ [7, 8, 9, 10, 6, 11, 30, 31, 32, 33, 34, 35, 36, 37, 38, 39, 40, 41, 42, 43, 44, 45, 46, 47, 48, 49, 50, 51, 52, 53, 54] (by decide +kernel) (by decide +kernel)
set_option maxRecDepth 20000 in
theorem gX7_leave_X7_isPerson : GoodIn wsX7_leave (wsV RX7 87 RX7 yX7_isPerson wsX7_isPerson) := goodIn_app (goodIn_of _ (by decide +kernel)) ggX7_leave_X7_isPerson
set_option maxRecDepth 20000 in
theorem ggX7_leave_X7_fails : GoodIn wsX7_leave wsX7_fails := goodIn_r _ [15, 1, 30, 31, 32, 33, 34, 35, 36, 37, 38, 39, 40, 41, 42, 43, 44, 45, 46, 47, 48, 49, 50, 51, 52, 53, 54] (by decide +kernel) (by decide +kernel)
set_option maxRecDepth 20000 in
theorem gX7_leave_X7_fails : GoodIn wsX7_leave (wsV RX7 83 RX7 yX7_fails wsX7_fails) := goodIn_app (goodIn_of _ (by decide +kernel)) ggX7_leave_X7_fails
set_option maxRecDepth 20000 in
theorem ggX7_leave_X7_goesOut : GoodIn wsX7_leave wsX7_goesOut := goodIn_ca (goodIn_r _ [19, 2, 20, 21, 22, 23, 24, 30, 31, 32, 33, 34, 35, 36, 37, 38, 39, 40, 41, 42, 43, 44, 45, 46, 47, 48, 49, 50, 51, 52, 53, 54] (by decide +kernel) (by decide +kernel)) (goodIn_sub (fun _ h => List.mem_cons_of_mem _ (List.mem_append_right _ h)) (by decide +kernel))
set_option maxRecDepth 20000 in
theorem gX7_leave_X7_goesOut : GoodIn wsX7_leave (wsV RX7 98 RX7 yX7_goesOut wsX7_goesOut) := goodIn_app (goodIn_of _ (by decide +kernel)) ggX7_leave_X7_goesOut
set_option maxRecDepth 20000 in
theorem ggX7_leave_X7_endsPins : GoodIn wsX7_leave wsX7_endsPins := goodIn_ca (goodIn_r _ [28, 8, 29, 2, 30, 31, 32, 33, 34, 35, 36, 37, 38, 39, 40, 41, 42, 43, 44, 45, 46, 47, 48, 49, 50, 51, 52, 53, 54] (by decide +kernel) (by decide +kernel)) (goodIn_sub (fun _ h => List.mem_cons_of_mem _ (List.mem_append_right _ h)) (by decide +kernel))
set_option maxRecDepth 20000 in
theorem gX7_leave_X7_endsPins : GoodIn wsX7_leave (wsV RX7 106 RX7 yX7_endsPins wsX7_endsPins) := goodIn_app (goodIn_of _ (by decide +kernel)) ggX7_leave_X7_endsPins
set_option maxRecDepth 20000 in
theorem ggX7_split_X7_isRoom : GoodIn wsX7_split wsX7_isRoom := goodIn_r _ [9, 3, 10, 11, 8, 12, 39, 40, 41, 42, 43, 44, 45, 46, 47, 48, 49, 50, 51, 52, 53, 54, 55, 56, 57, 58, 59, 60, 61, 62, 63] (by decide +kernel) (by decide +kernel)
set_option maxRecDepth 20000 in
theorem gX7_split_X7_isRoom : GoodIn wsX7_split (wsV RX7 95 RX7 yX7_isRoom wsX7_isRoom) := goodIn_app (goodIn_of _ (by decide +kernel)) ggX7_split_X7_isRoom
set_option maxRecDepth 20000 in
theorem ggX7_split_X7_fails : GoodIn wsX7_split wsX7_fails := goodIn_r _ [16, 1, 39, 40, 41, 42, 43, 44, 45, 46, 47, 48, 49, 50, 51, 52, 53, 54, 55, 56, 57, 58, 59, 60, 61, 62, 63] (by decide +kernel) (by decide +kernel)
set_option maxRecDepth 20000 in
theorem gX7_split_X7_fails : GoodIn wsX7_split (wsV RX7 83 RX7 yX7_fails wsX7_fails) := goodIn_app (goodIn_of _ (by decide +kernel)) ggX7_split_X7_fails
set_option maxRecDepth 20000 in
theorem ggX7_split_X7_makesRoom : GoodIn wsX7_split wsX7_makesRoom := goodIn_ca (goodIn_r _ [20, 21, 3, 22, 39, 40, 41, 42, 43, 44, 45, 46, 47, 48, 49, 50, 51, 52, 53, 54, 55, 56, 57, 58, 59, 60, 61, 62, 63] (by decide +kernel) (by decide +kernel)) (goodIn_sub (fun _ h => List.mem_cons_of_mem _ (List.mem_append_right _ h)) (by decide +kernel))
set_option maxRecDepth 20000 in
theorem gX7_split_X7_makesRoom : GoodIn wsX7_split (wsV RX7 91 RX7 yX7_makesRoom wsX7_makesRoom) := goodIn_app (goodIn_of _ (by decide +kernel)) ggX7_split_X7_makesRoom
set_option maxRecDepth 20000 in
theorem ggX7_split_X7_goesOut : GoodIn wsX7_split wsX7_goesOut := goodIn_ca (goodIn_r _ [26, 27, 4, 2, 21, 28, 22, 39, 40, 41, 42, 43, 44, 45, 46, 47, 48, 49, 50, 51, 52, 53, 54, 55, 56, 57, 58, 59, 60, 61, 62, 63] (by decide +kernel) (by decide +kernel)) (goodIn_sub (fun _ h => List.mem_cons_of_mem _ (List.mem_append_right _ h)) (by decide +kernel))
set_option maxRecDepth 20000 in
theorem gX7_split_X7_goesOut : GoodIn wsX7_split (wsV RX7 98 RX7 yX7_goesOut wsX7_goesOut) := goodIn_app (goodIn_of _ (by decide +kernel)) ggX7_split_X7_goesOut
set_option maxRecDepth 20000 in
theorem ggX7_split_X7_goesIn : GoodIn wsX7_split wsX7_goesIn := goodIn_ca (goodIn_r _ [32, 4, 2, 27, 39, 40, 41, 42, 43, 44, 45, 46, 47, 48, 49, 50, 51, 52, 53, 54, 55, 56, 57, 58, 59, 60, 61, 62, 63] (by decide +kernel) (by decide +kernel)) (goodIn_sub (fun _ h => List.mem_cons_of_mem _ (List.mem_append_right _ h)) (by decide +kernel))
set_option maxRecDepth 20000 in
theorem gX7_split_X7_goesIn : GoodIn wsX7_split (wsV RX7 102 RX7 yX7_goesIn wsX7_goesIn) := goodIn_app (goodIn_of _ (by decide +kernel)) ggX7_split_X7_goesIn
set_option maxRecDepth 20000 in
theorem ggX7_split_X7_endsPins : GoodIn wsX7_split wsX7_endsPins := goodIn_ca (goodIn_r _ [36, 37, 38, 27, 39, 40, 41, 42, 43, 44, 45, 46, 47, 48, 49, 50, 51, 52, 53, 54, 55, 56, 57, 58, 59, 60, 61, 62, 63] (by decide +kernel) (by decide +kernel)) (goodIn_sub (fun _ h => List.mem_cons_of_mem _ (List.mem_append_right _ h)) (by decide +kernel))
set_option maxRecDepth 20000 in
theorem gX7_split_X7_endsPins : GoodIn wsX7_split (wsV RX7 106 RX7 yX7_endsPins wsX7_endsPins) := goodIn_app (goodIn_of _ (by decide +kernel)) ggX7_split_X7_endsPins
set_option maxRecDepth 20000 in
theorem ggX7_join_X7_isRoom : GoodIn wsX7_join wsX7_isRoom := goodIn_r _ [10, 11, 12, 13, 9, 14, 37, 38, 39, 40, 41, 42, 43, 44, 45, 46, 47, 48, 49, 50, 51, 52, 53, 54, 55, 56, 57, 58, 59, 60, 61] (by decide +kernel) (by decide +kernel)
set_option maxRecDepth 20000 in
theorem gX7_join_X7_isRoom : GoodIn wsX7_join (wsV RX7 95 RX7 yX7_isRoom wsX7_isRoom) := goodIn_app (goodIn_of _ (by decide +kernel)) ggX7_join_X7_isRoom
set_option maxRecDepth 20000 in
theorem ggX7_join_X7_fails : GoodIn wsX7_join wsX7_fails := goodIn_r _ [18, 1, 37, 38, 39, 40, 41, 42, 43, 44, 45, 46, 47, 48, 49, 50, 51, 52, 53, 54, 55, 56, 57, 58, 59, 60, 61] (by decide +kernel) (by decide +kernel)
set_option maxRecDepth 20000 in
theorem gX7_join_X7_fails : GoodIn wsX7_join (wsV RX7 83 RX7 yX7_fails wsX7_fails) := goodIn_app (goodIn_of _ (by decide +kernel)) ggX7_join_X7_fails
set_option maxRecDepth 20000 in
theorem ggX7_join_X7_goesOut : GoodIn wsX7_join wsX7_goesOut := goodIn_ca (goodIn_r _ [22, 23, 3, 2, 24, 25, 26, 37, 38, 39, 40, 41, 42, 43, 44, 45, 46, 47, 48, 49, 50, 51, 52, 53, 54, 55, 56, 57, 58, 59, 60, 61] (by decide +kernel) (by decide +kernel)) (goodIn_sub (fun _ h => List.mem_cons_of_mem _ (List.mem_append_right _ h)) (by decide +kernel))
set_option maxRecDepth 20000 in
theorem gX7_join_X7_goesOut : GoodIn wsX7_join (wsV RX7 98 RX7 yX7_goesOut wsX7_goesOut) := goodIn_app (goodIn_of _ (by decide +kernel)) ggX7_join_X7_goesOut
set_option maxRecDepth 20000 in
theorem ggX7_join_X7_goesIn : GoodIn wsX7_join wsX7_goesIn := goodIn_ca (goodIn_r _ [30, 3, 2, 23, 37, 38, 39, 40, 41, 42, 43, 44, 45, 46, 47, 48, 49, 50, 51, 52, 53, 54, 55, 56, 57, 58, 59, 60, 61] (by decide +kernel) (by decide +kernel)) (goodIn_sub (fun _ h => List.mem_cons_of_mem _ (List.mem_append_right _ h)) (by decide +kernel))
set_option maxRecDepth 20000 in
theorem gX7_join_X7_goesIn : GoodIn wsX7_join (wsV RX7 102 RX7 yX7_goesIn wsX7_goesIn) := goodIn_app (goodIn_of _ (by decide +kernel)) ggX7_join_X7_goesIn
set_option maxRecDepth 20000 in
theorem ggX7_join_X7_endsPins : GoodIn wsX7_join wsX7_endsPins := goodIn_ca (goodIn_r _ [34, 35, 36, 23, 37, 38, 39, 40, 41, 42, 43, 44, 45, 46, 47, 48, 49, 50, 51, 52, 53, 54, 55, 56, 57, 58, 59, 60, 61] (by decide +kernel) (by decide +kernel)) (goodIn_sub (fun _ h => List.mem_cons_of_mem _ (List.mem_append_right _ h)) (by decide +kernel))
set_option maxRecDepth 20000 in
theorem gX7_join_X7_endsPins : GoodIn wsX7_join (wsV RX7 106 RX7 yX7_endsPins wsX7_endsPins) := goodIn_app (goodIn_of _ (by decide +kernel)) ggX7_join_X7_endsPins
set_option maxRecDepth 20000 in
theorem ggX7_pin_X7_isPerson : GoodIn wsX7_pin wsX7_isPerson := goodIn_r _ [8, 9, 10, 11, 7, 12, 17, 18, 19, 20, 21, 22, 23, 24, 25, 26, 27, 28, 29, 30, 31, 32, 33, 34, 35, 36, 37, 38, 39, 40, 41] (by decide +kernel) (by decide +kernel)
set_option maxRecDepth 20000 in
theorem gX7_pin_X7_isPerson : GoodIn wsX7_pin (wsV RX7 87 RX7 yX7_isPerson wsX7_isPerson) := goodIn_app (goodIn_of _ (by decide +kernel)) ggX7_pin_X7_isPerson
set_option maxRecDepth 20000 in
theorem ggX7_pin_X7_fails : GoodIn wsX7_pin wsX7_fails := goodIn_r _ [16, 1, 17, 18, 19, 20, 21, 22, 23, 24, 25, 26, 27, 28, 29, 30, 31, 32, 33, 34, 35, 36, 37, 38, 39, 40, 41] (by decide +kernel) (by decide +kernel)
set_option maxRecDepth 20000 in
theorem gX7_pin_X7_fails : GoodIn wsX7_pin (wsV RX7 83 RX7 yX7_fails wsX7_fails) := goodIn_app (goodIn_of _ (by decide +kernel)) ggX7_pin_X7_fails
set_option maxRecDepth 20000 in
theorem ggX7_unpin_X7_isPerson : GoodIn wsX7_unpin wsX7_isPerson := goodIn_r _ [7, 8, 9, 10, 6, 11, 16, 17, 18, 19, 20, 21, 22, 23, 24, 25, 26, 27, 28, 29, 30, 31, 32, 33, 34, 35, 36, 37, 38, 39, 40] (by decide +kernel) (by decide +kernel)
set_option maxRecDepth 20000 in
theorem gX7_unpin_X7_isPerson : GoodIn wsX7_unpin (wsV RX7 87 RX7 yX7_isPerson wsX7_isPerson) := goodIn_app (goodIn_of _ (by decide +kernel)) ggX7_unpin_X7_isPerson
set_option maxRecDepth 20000 in
theorem ggX7_unpin_X7_fails : GoodIn wsX7_unpin wsX7_fails := goodIn_r _ [15, 1, 16, 17, 18, 19, 20, 21, 22, 23, 24, 25, 26, 27, 28, 29, 30, 31, 32, 33, 34, 35, 36, 37, 38, 39, 40] (by decide +kernel) (by decide +kernel)
set_option maxRecDepth 20000 in
theorem gX7_unpin_X7_fails : GoodIn wsX7_unpin (wsV RX7 83 RX7 yX7_fails wsX7_fails) := goodIn_app (goodIn_of _ (by decide +kernel)) ggX7_unpin_X7_fails
set_option maxRecDepth 20000 in
theorem ggX7_roomOf_X7_isPerson : GoodIn wsX7_roomOf wsX7_isPerson := goodIn_r _ [7, 8, 9, 10, 6, 11, 16, 17, 18, 19, 20, 21, 22, 23, 24, 25, 26, 27, 28, 29, 30, 31, 32, 33, 34, 35, 36, 37, 38, 39, 40] (by decide +kernel) (by decide +kernel)
set_option maxRecDepth 20000 in
theorem gX7_roomOf_X7_isPerson : GoodIn wsX7_roomOf (wsV RX7 87 RX7 yX7_isPerson wsX7_isPerson) := goodIn_app (goodIn_of _ (by decide +kernel)) ggX7_roomOf_X7_isPerson
set_option maxRecDepth 20000 in
theorem ggX7_roomOf_X7_fails : GoodIn wsX7_roomOf wsX7_fails := goodIn_r _ [15, 1, 16, 17, 18, 19, 20, 21, 22, 23, 24, 25, 26, 27, 28, 29, 30, 31, 32, 33, 34, 35, 36, 37, 38, 39, 40] (by decide +kernel) (by decide +kernel)
set_option maxRecDepth 20000 in
theorem gX7_roomOf_X7_fails : GoodIn wsX7_roomOf (wsV RX7 83 RX7 yX7_fails wsX7_fails) := goodIn_app (goodIn_of _ (by decide +kernel)) ggX7_roomOf_X7_fails
set_option maxRecDepth 20000 in
theorem ggX7_inRoom_X7_isRoom : GoodIn wsX7_inRoom wsX7_isRoom := goodIn_r _ [7, 8, 9, 10, 6, 11, 16, 17, 18, 19, 20, 21, 22, 23, 24, 25, 26, 27, 28, 29, 30, 31, 32, 33, 34, 35, 36, 37, 38, 39, 40] (by decide +kernel) (by decide +kernel)
set_option maxRecDepth 20000 in
theorem gX7_inRoom_X7_isRoom : GoodIn wsX7_inRoom (wsV RX7 95 RX7 yX7_isRoom wsX7_isRoom) := goodIn_app (goodIn_of _ (by decide +kernel)) ggX7_inRoom_X7_isRoom
set_option maxRecDepth 20000 in
theorem ggX7_inRoom_X7_fails : GoodIn wsX7_inRoom wsX7_fails := goodIn_r _ [15, 1, 16, 17, 18, 19, 20, 21, 22, 23, 24, 25, 26, 27, 28, 29, 30, 31, 32, 33, 34, 35, 36, 37, 38, 39, 40] (by decide +kernel) (by decide +kernel)
set_option maxRecDepth 20000 in
theorem gX7_inRoom_X7_fails : GoodIn wsX7_inRoom (wsV RX7 83 RX7 yX7_fails wsX7_fails) := goodIn_app (goodIn_of _ (by decide +kernel)) ggX7_inRoom_X7_fails
set_option maxRecDepth 20000 in
theorem ggX7_personAt_X7_isRoom : GoodIn wsX7_personAt wsX7_isRoom := goodIn_r _ [8, 9, 10, 11, 7, 12, 17, 18, 19, 20, 21, 22, 23, 24, 25, 26, 27, 28, 29, 30, 31, 32, 33, 34, 35, 36, 37, 38, 39, 40, 41] (by decide +kernel) (by decide +kernel)
set_option maxRecDepth 20000 in
theorem gX7_personAt_X7_isRoom : GoodIn wsX7_personAt (wsV RX7 95 RX7 yX7_isRoom wsX7_isRoom) := goodIn_app (goodIn_of _ (by decide +kernel)) ggX7_personAt_X7_isRoom
set_option maxRecDepth 20000 in
theorem ggX7_personAt_X7_fails : GoodIn wsX7_personAt wsX7_fails := goodIn_r _ [16, 1, 17, 18, 19, 20, 21, 22, 23, 24, 25, 26, 27, 28, 29, 30, 31, 32, 33, 34, 35, 36, 37, 38, 39, 40, 41] (by decide +kernel) (by decide +kernel)
set_option maxRecDepth 20000 in
theorem gX7_personAt_X7_fails : GoodIn wsX7_personAt (wsV RX7 83 RX7 yX7_fails wsX7_fails) := goodIn_app (goodIn_of _ (by decide +kernel)) ggX7_personAt_X7_fails
set_option maxRecDepth 20000 in
theorem ggX7_personAt_X7_in : GoodIn wsX7_personAt wsX7_in := goodIn_r _ [12] (by decide +kernel) (by decide +kernel)
set_option maxRecDepth 20000 in
theorem gX7_personAt_X7_in : GoodIn wsX7_personAt (va_wsS RX7 73 yX7_in wsX7_in) := goodIn_app (goodIn_of _ (by decide +kernel)) ggX7_personAt_X7_in
set_option maxRecDepth 20000 in
theorem ggX7_speaks_X7_candidateOf : GoodIn wsX7_speaks wsX7_candidateOf := goodIn_ca (goodIn_r _ [9, 10, 11, 2, 18, 19, 20, 21, 22, 23, 24, 25, 26, 27, 28, 29, 30, 31, 32, 33, 34, 35, 36, 37, 38, 39, 40, 41, 42] (by decide +kernel) (by decide +kernel)) (goodIn_sub (fun _ h => List.mem_cons_of_mem _ (List.mem_append_right _ h)) (by decide +kernel))
set_option maxRecDepth 20000 in
theorem gX7_speaks_X7_candidateOf : GoodIn wsX7_speaks (wsV RX7 112 RX7 yX7_candidateOf wsX7_candidateOf) := goodIn_app (goodIn_of _ (by decide +kernel)) ggX7_speaks_X7_candidateOf
set_option maxRecDepth 20000 in
theorem ggX7_speaks_X7_becomes : GoodIn wsX7_speaks wsX7_becomes := goodIn_ca (goodIn_r _ [15, 1, 16, 17, 18, 19, 20, 21, 22, 23, 24, 25, 26, 27, 28, 29, 30, 31, 32, 33, 34, 35, 36, 37, 38, 39, 40, 41, 42] (by decide +kernel) (by decide +kernel)) (goodIn_sub (fun _ h => List.mem_cons_of_mem _ (List.mem_append_right _ h)) (by decide +kernel))
set_option maxRecDepth 20000 in
theorem gX7_speaks_X7_becomes : GoodIn wsX7_speaks (wsV RX7 115 RX7 yX7_becomes wsX7_becomes) := goodIn_app (goodIn_of _ (by decide +kernel)) ggX7_speaks_X7_becomes
set_option maxRecDepth 20000 in
theorem ggX7_tickPasses_X7_speaks : GoodIn wsX7_tickPasses wsX7_speaks := goodIn_ca (goodIn_r _ [16, 2, 17, 18, 19, 20, 21, 22, 15, 23, 24, 25, 26, 27, 28, 29, 30, 31, 49, 50, 51, 52, 53, 54, 55, 56, 57, 58, 59, 60, 61, 62, 63, 64, 65, 66, 67, 68, 69, 70, 71, 72, 73] (by decide +kernel) (by decide +kernel)) (goodIn_sub (fun _ h => List.mem_cons_of_mem _ (List.mem_append_right _ h)) (by decide +kernel))
set_option maxRecDepth 20000 in
theorem gX7_tickPasses_X7_speaks : GoodIn wsX7_tickPasses (wsV RX7 118 RX7 yX7_speaks wsX7_speaks) := goodIn_app (goodIn_of _ (by decide +kernel)) ggX7_tickPasses_X7_speaks
set_option maxRecDepth 20000 in
theorem ggX7_tickPasses_X7_uses : GoodIn wsX7_tickPasses wsX7_uses := goodIn_ca (goodIn_r _ [35, 36, 37, 38, 2, 39, 24, 25, 40, 41, 42, 43, 15, 44, 45, 46, 47, 48, 49, 50, 51, 52, 53, 54, 55, 56, 57, 58, 59, 60, 61, 62, 63, 64, 65, 66, 67, 68, 69, 70, 71, 72, 73] (by decide +kernel) (by decide +kernel)) (goodIn_sub (fun _ h => List.mem_cons_of_mem _ (List.mem_append_right _ h)) (by decide +kernel))
set_option maxRecDepth 20000 in
theorem gX7_tickPasses_X7_uses : GoodIn wsX7_tickPasses (wsV RX7 128 RX7 yX7_uses wsX7_uses) := goodIn_app (goodIn_of _ (by decide +kernel)) ggX7_tickPasses_X7_uses
set_option maxRecDepth 20000 in
theorem ggX7_pass_X7_in : GoodIn wsX7_pass wsX7_in := goodIn_r _ [7] (by decide +kernel) (by decide +kernel)
set_option maxRecDepth 20000 in
theorem gX7_pass_X7_in : GoodIn wsX7_pass (va_wsS RX7 73 yX7_in wsX7_in) := goodIn_app (goodIn_of _ (by decide +kernel)) ggX7_pass_X7_in
set_option maxRecDepth 20000 in
theorem ggX7_pass_X7_fails : GoodIn wsX7_pass wsX7_fails := goodIn_r _ [11, 1, 61, 62, 63, 64, 65, 66, 67, 68, 69, 70, 71, 72, 73, 74, 75, 76, 77, 78, 79, 80, 81, 82, 83, 84, 85] (by decide +kernel) (by decide +kernel)
set_option maxRecDepth 20000 in
theorem gX7_pass_X7_fails : GoodIn wsX7_pass (wsV RX7 83 RX7 yX7_fails wsX7_fails) := goodIn_app (goodIn_of _ (by decide +kernel)) ggX7_pass_X7_fails
set_option maxRecDepth 20000 in
theorem ggX7_pass_X7_tickPasses : GoodIn wsX7_pass wsX7_tickPasses := goodIn_ca (goodIn_r _ [15, 16, 17, 18, 19, 20, 21, 22, 23, 2, 24, 25, 26, 27, 28, 6, 29, 30, 31, 32, 33, 34, 35, 36, 37, 38, 39, 40, 41, 42, 43, 3, 44, 45, 46, 47, 48, 49, 50, 51, 52, 53, 54, 55, 56, 57, 58, 59, 60, 61, 62, 63, 64, 65, 66, 67, 68, 69, 70, 71, 72, 73, 74, 75, 76, 77, 78, 79, 80, 81, 82, 83, 84, 85] (by decide +kernel) (by decide +kernel)) (goodIn_sub (fun _ h => List.mem_cons_of_mem _ (List.mem_append_right _ h)) (by decide +kernel))
set_option maxRecDepth 20000 in
theorem gX7_pass_X7_tickPasses : GoodIn wsX7_pass (wsV RX7 131 RX7 yX7_tickPasses wsX7_tickPasses) := goodIn_app (goodIn_of _ (by decide +kernel)) ggX7_pass_X7_tickPasses
set_option maxRecDepth 20000 in
theorem ggX7_speaker_X7_isRoom : GoodIn wsX7_speaker wsX7_isRoom := goodIn_r _ [7, 8, 9, 10, 6, 11, 16, 17, 18, 19, 20, 21, 22, 23, 24, 25, 26, 27, 28, 29, 30, 31, 32, 33, 34, 35, 36, 37, 38, 39, 40] (by decide +kernel) (by decide +kernel)
set_option maxRecDepth 20000 in
theorem gX7_speaker_X7_isRoom : GoodIn wsX7_speaker (wsV RX7 95 RX7 yX7_isRoom wsX7_isRoom) := goodIn_app (goodIn_of _ (by decide +kernel)) ggX7_speaker_X7_isRoom
set_option maxRecDepth 20000 in
theorem ggX7_speaker_X7_fails : GoodIn wsX7_speaker wsX7_fails := goodIn_r _ [15, 1, 16, 17, 18, 19, 20, 21, 22, 23, 24, 25, 26, 27, 28, 29, 30, 31, 32, 33, 34, 35, 36, 37, 38, 39, 40] (by decide +kernel) (by decide +kernel)
set_option maxRecDepth 20000 in
theorem gX7_speaker_X7_fails : GoodIn wsX7_speaker (wsV RX7 83 RX7 yX7_fails wsX7_fails) := goodIn_app (goodIn_of _ (by decide +kernel)) ggX7_speaker_X7_fails
set_option maxRecDepth 20000 in
theorem ggX7_challenge_X7_isRoom : GoodIn wsX7_challenge wsX7_isRoom := goodIn_r _ [7, 8, 9, 10, 6, 11, 16, 17, 18, 19, 20, 21, 22, 23, 24, 25, 26, 27, 28, 29, 30, 31, 32, 33, 34, 35, 36, 37, 38, 39, 40] (by decide +kernel) (by decide +kernel)
set_option maxRecDepth 20000 in
theorem gX7_challenge_X7_isRoom : GoodIn wsX7_challenge (wsV RX7 95 RX7 yX7_isRoom wsX7_isRoom) := goodIn_app (goodIn_of _ (by decide +kernel)) ggX7_challenge_X7_isRoom
set_option maxRecDepth 20000 in
theorem ggX7_challenge_X7_fails : GoodIn wsX7_challenge wsX7_fails := goodIn_r _ [15, 1, 16, 17, 18, 19, 20, 21, 22, 23, 24, 25, 26, 27, 28, 29, 30, 31, 32, 33, 34, 35, 36, 37, 38, 39, 40] (by decide +kernel) (by decide +kernel)
set_option maxRecDepth 20000 in
theorem gX7_challenge_X7_fails : GoodIn wsX7_challenge (wsV RX7 83 RX7 yX7_fails wsX7_fails) := goodIn_app (goodIn_of _ (by decide +kernel)) ggX7_challenge_X7_fails
set_option maxRecDepth 20000 in
theorem ggX7_hears_X7_isPerson : GoodIn wsX7_hears wsX7_isPerson := goodIn_r _ [8, 9, 10, 11, 7, 12, 13, 14, 15, 16, 17, 18, 19, 20, 21, 22, 23, 24, 25, 26, 27, 28, 29, 30, 31, 32, 33, 34, 35, 36, 37] (by decide +kernel) (by decide +kernel)
set_option maxRecDepth 20000 in
theorem gX7_hears_X7_isPerson : GoodIn wsX7_hears (wsV RX7 87 RX7 yX7_isPerson wsX7_isPerson) := goodIn_app (goodIn_of _ (by decide +kernel)) ggX7_hears_X7_isPerson
set_option maxRecDepth 20000 in
theorem ggX7_talked_X7_isPerson : GoodIn wsX7_talked wsX7_isPerson := goodIn_r _ [7, 8, 9, 10, 6, 11, 12, 13, 14, 15, 16, 17, 18, 19, 20, 21, 22, 23, 24, 25, 26, 27, 28, 29, 30, 31, 32, 33, 34, 35, 36] (by decide +kernel) (by decide +kernel)
set_option maxRecDepth 20000 in
theorem gX7_talked_X7_isPerson : GoodIn wsX7_talked (wsV RX7 87 RX7 yX7_isPerson wsX7_isPerson) := goodIn_app (goodIn_of _ (by decide +kernel)) ggX7_talked_X7_isPerson
set_option maxRecDepth 20000 in
theorem ggX7_turnAt_X7_in : GoodIn wsX7_turnAt wsX7_in := goodIn_r _ [7] (by decide +kernel) (by decide +kernel)
set_option maxRecDepth 20000 in
theorem gX7_turnAt_X7_in : GoodIn wsX7_turnAt (va_wsS RX7 73 yX7_in wsX7_in) := goodIn_app (goodIn_of _ (by decide +kernel)) ggX7_turnAt_X7_in
set_option maxRecDepth 20000 in
theorem ggX7_turnAt_X7_fails : GoodIn wsX7_turnAt wsX7_fails := goodIn_r _ [11, 1, 12, 13, 14, 15, 16, 17, 18, 19, 20, 21, 22, 23, 24, 25, 26, 27, 28, 29, 30, 31, 32, 33, 34, 35, 36] (by decide +kernel) (by decide +kernel)
set_option maxRecDepth 20000 in
theorem gX7_turnAt_X7_fails : GoodIn wsX7_turnAt (wsV RX7 83 RX7 yX7_fails wsX7_fails) := goodIn_app (goodIn_of _ (by decide +kernel)) ggX7_turnAt_X7_fails
set_option maxRecDepth 20000 in
theorem ggX7_takes_X7_need : GoodIn wsX7_takes wsX7_need := goodIn_r _ [6] (by decide +kernel) (by decide +kernel)
set_option maxRecDepth 20000 in
theorem gX7_takes_X7_need : GoodIn wsX7_takes (va_wsS RX7 134 yX7_need wsX7_need) := goodIn_app (goodIn_of _ (by decide +kernel)) ggX7_takes_X7_need
set_option maxRecDepth 20000 in
theorem ggX7_uses_X7_takes : GoodIn wsX7_uses wsX7_takes := goodIn_ca (goodIn_r _ [13, 1, 14, 15, 16, 12, 17, 18, 19, 20, 21, 22, 23, 24, 25, 26, 27, 28, 29, 30, 31, 32, 33, 34, 35, 36, 37, 38, 39, 40, 41, 42] (by decide +kernel) (by decide +kernel)) (goodIn_sub (fun _ h => List.mem_cons_of_mem _ (List.mem_append_right _ h)) (by decide +kernel))
set_option maxRecDepth 20000 in
theorem gX7_uses_X7_takes : GoodIn wsX7_uses (wsV RX7 137 RX7 yX7_takes wsX7_takes) := goodIn_app (goodIn_of _ (by decide +kernel)) ggX7_uses_X7_takes
set_option maxRecDepth 20000 in
theorem ggX7_layer_X7_isPerson : GoodIn wsX7_layer wsX7_isPerson := goodIn_r _ [7, 8, 9, 10, 6, 11, 31, 32, 33, 34, 35, 36, 37, 38, 39, 40, 41, 42, 43, 44, 45, 46, 47, 48, 49, 50, 51, 52, 53, 54, 55] (by decide +kernel) (by decide +kernel)
set_option maxRecDepth 20000 in
theorem gX7_layer_X7_isPerson : GoodIn wsX7_layer (wsV RX7 87 RX7 yX7_isPerson wsX7_isPerson) := goodIn_app (goodIn_of _ (by decide +kernel)) ggX7_layer_X7_isPerson
set_option maxRecDepth 20000 in
theorem ggX7_layer_X7_uses : GoodIn wsX7_layer wsX7_uses := goodIn_ca (goodIn_r _ [15, 2, 16, 17, 18, 19, 20, 21, 22, 23, 24, 25, 6, 26, 27, 28, 29, 30, 31, 32, 33, 34, 35, 36, 37, 38, 39, 40, 41, 42, 43, 44, 45, 46, 47, 48, 49, 50, 51, 52, 53, 54, 55] (by decide +kernel) (by decide +kernel)) (goodIn_sub (fun _ h => List.mem_cons_of_mem _ (List.mem_append_right _ h)) (by decide +kernel))
set_option maxRecDepth 20000 in
theorem gX7_layer_X7_uses : GoodIn wsX7_layer (wsV RX7 128 RX7 yX7_uses wsX7_uses) := goodIn_app (goodIn_of _ (by decide +kernel)) ggX7_layer_X7_uses
set_option maxRecDepth 20000 in
theorem ggX7_layerAnew_X7_layer : GoodIn wsX7_layerAnew wsX7_layer := goodIn_ca (goodIn_r _ [5, 6, 7, 8, 9, 10, 4, 11, 12, 13, 14, 15, 16, 17, 18, 19, 20, 21, 22, 23, 24, 25, 26, 27, 28, 29, 30, 31, 32, 33, 34, 35, 36, 37, 38, 39, 40, 41, 42, 43, 44, 45, 46, 47, 48, 49, 50, 51, 52, 53, 54, 55, 56, 57, 58, 59] (by decide +kernel) (by decide +kernel)) (goodIn_sub (fun _ h => List.mem_cons_of_mem _ (List.mem_append_right _ h)) (by decide +kernel))
set_option maxRecDepth 20000 in
theorem gX7_layerAnew_X7_layer : GoodIn wsX7_layerAnew (wsV RX7 141 RX7 yX7_layer wsX7_layer) := goodIn_app (goodIn_of _ (by decide +kernel)) ggX7_layerAnew_X7_layer
set_option maxRecDepth 20000 in
theorem ggX7_used_X7_isPerson : GoodIn wsX7_used wsX7_isPerson := goodIn_r _ [6, 7, 8, 9, 5, 10, 35, 36, 37, 38, 39, 40, 41, 42, 43, 44, 45, 46, 47, 48, 49, 50, 51, 52, 53, 54, 55, 56, 57, 58, 59] (by decide +kernel) (by decide +kernel)
set_option maxRecDepth 20000 in
theorem gX7_used_X7_isPerson : GoodIn wsX7_used (wsV RX7 87 RX7 yX7_isPerson wsX7_isPerson) := goodIn_app (goodIn_of _ (by decide +kernel)) ggX7_used_X7_isPerson
set_option maxRecDepth 20000 in
theorem ggX7_used_X7_uses : GoodIn wsX7_used wsX7_uses := goodIn_ca (goodIn_r _ [14, 15, 16, 17, 18, 19, 20, 21, 22, 23, 24, 25, 5, 26, 27, 28, 29, 30, 35, 36, 37, 38, 39, 40, 41, 42, 43, 44, 45, 46, 47, 48, 49, 50, 51, 52, 53, 54, 55, 56, 57, 58, 59] (by decide +kernel) (by decide +kernel)) (goodIn_sub (fun _ h => List.mem_cons_of_mem _ (List.mem_append_right _ h)) (by decide +kernel))
set_option maxRecDepth 20000 in
theorem gX7_used_X7_uses : GoodIn wsX7_used (wsV RX7 128 RX7 yX7_uses wsX7_uses) := goodIn_app (goodIn_of _ (by decide +kernel)) ggX7_used_X7_uses
set_option maxRecDepth 20000 in
theorem ggX7_used_X7_fails : GoodIn wsX7_used wsX7_fails := goodIn_r _ [34, 1, 35, 36, 37, 38, 39, 40, 41, 42, 43, 44, 45, 46, 47, 48, 49, 50, 51, 52, 53, 54, 55, 56, 57, 58, 59] (by decide +kernel) (by decide +kernel)
set_option maxRecDepth 20000 in
theorem gX7_used_X7_fails : GoodIn wsX7_used (wsV RX7 83 RX7 yX7_fails wsX7_fails) := goodIn_app (goodIn_of _ (by decide +kernel)) ggX7_used_X7_fails
set_option maxRecDepth 20000 in
theorem ggX7_viewers_X7_isPerson : GoodIn wsX7_viewers wsX7_isPerson := goodIn_r _ [8, 2, 9, 10, 7, 11, 35, 36, 37, 38, 39, 40, 41, 42, 43, 44, 45, 46, 47, 48, 49, 50, 51, 52, 53, 54, 55, 56, 57, 58, 59] (by decide +kernel) (by decide +kernel)
set_option maxRecDepth 20000 in
theorem gX7_viewers_X7_isPerson : GoodIn wsX7_viewers (wsV RX7 87 RX7 yX7_isPerson wsX7_isPerson) := goodIn_app (goodIn_of _ (by decide +kernel)) ggX7_viewers_X7_isPerson
set_option maxRecDepth 20000 in
theorem ggX7_viewers_X7_fails : GoodIn wsX7_viewers wsX7_fails := goodIn_r _ [15, 1, 35, 36, 37, 38, 39, 40, 41, 42, 43, 44, 45, 46, 47, 48, 49, 50, 51, 52, 53, 54, 55, 56, 57, 58, 59] (by decide +kernel) (by decide +kernel)
set_option maxRecDepth 20000 in
theorem gX7_viewers_X7_fails : GoodIn wsX7_viewers (wsV RX7 83 RX7 yX7_fails wsX7_fails) := goodIn_app (goodIn_of _ (by decide +kernel)) ggX7_viewers_X7_fails
set_option maxRecDepth 20000 in
theorem ggX7_viewers_X7_uses : GoodIn wsX7_viewers wsX7_uses := goodIn_ca (goodIn_r _ [19, 3, 20, 21, 22, 23, 24, 25, 26, 27, 28, 29, 7, 30, 31, 32, 33, 34, 35, 36, 37, 38, 39, 40, 41, 42, 43, 44, 45, 46, 47, 48, 49, 50, 51, 52, 53, 54, 55, 56, 57, 58, 59] (by decide +kernel) (by decide +kernel)) (goodIn_sub (fun _ h => List.mem_cons_of_mem _ (List.mem_append_right _ h)) (by decide +kernel))
set_option maxRecDepth 20000 in
theorem gX7_viewers_X7_uses : GoodIn wsX7_viewers (wsV RX7 128 RX7 yX7_uses wsX7_uses) := goodIn_app (goodIn_of _ (by decide +kernel)) ggX7_viewers_X7_uses
set_option maxRecDepth 20000 in
theorem ggX7_meanLayer_X7_uses : GoodIn wsX7_meanLayer wsX7_uses := goodIn_ca (goodIn_r _ [10, 4, 2, 11, 12, 13, 3, 14, 15, 16, 17, 18, 9, 19, 20, 21, 22, 23, 24, 25, 26, 27, 28, 29, 30, 31, 32, 33, 34, 35, 36, 37, 38, 39, 40, 41, 42, 43, 44, 45, 46, 47, 48] (by decide +kernel) (by decide +kernel)) (goodIn_sub (fun _ h => List.mem_cons_of_mem _ (List.mem_append_right _ h)) (by decide +kernel))
set_option maxRecDepth 20000 in
theorem gX7_meanLayer_X7_uses : GoodIn wsX7_meanLayer (wsV RX7 128 RX7 yX7_uses wsX7_uses) := goodIn_app (goodIn_of _ (by decide +kernel)) ggX7_meanLayer_X7_uses
set_option maxRecDepth 20000 in
theorem ggX7_usedShare_X7_uses : GoodIn wsX7_usedShare wsX7_uses := goodIn_ca (goodIn_r _ [8, 9, 10, 11, 12, 13, 14, 15, 2, 16, 17, 18, 7, 19, 20, 21, 22, 23, 24, 25, 26, 27, 28, 29, 30, 31, 32, 33, 34, 35, 36, 37, 38, 39, 40, 41, 42, 43, 44, 45, 46, 47, 48] (by decide +kernel) (by decide +kernel)) (goodIn_sub (fun _ h => List.mem_cons_of_mem _ (List.mem_append_right _ h)) (by decide +kernel))
set_option maxRecDepth 20000 in
theorem gX7_usedShare_X7_uses : GoodIn wsX7_usedShare (wsV RX7 128 RX7 yX7_uses wsX7_uses) := goodIn_app (goodIn_of _ (by decide +kernel)) ggX7_usedShare_X7_uses
set_option maxRecDepth 20000 in
theorem ggX7_record_X7_isRoom : GoodIn wsX7_record wsX7_isRoom := goodIn_r _ [8, 9, 10, 11, 7, 12, 17, 18, 19, 20, 21, 22, 23, 24, 25, 26, 27, 28, 29, 30, 31, 32, 33, 34, 35, 36, 37, 38, 39, 40, 41] (by decide +kernel) (by decide +kernel)
set_option maxRecDepth 20000 in
theorem gX7_record_X7_isRoom : GoodIn wsX7_record (wsV RX7 95 RX7 yX7_isRoom wsX7_isRoom) := goodIn_app (goodIn_of _ (by decide +kernel)) ggX7_record_X7_isRoom
set_option maxRecDepth 20000 in
theorem ggX7_record_X7_fails : GoodIn wsX7_record wsX7_fails := goodIn_r _ [16, 1, 17, 18, 19, 20, 21, 22, 23, 24, 25, 26, 27, 28, 29, 30, 31, 32, 33, 34, 35, 36, 37, 38, 39, 40, 41] (by decide +kernel) (by decide +kernel)
set_option maxRecDepth 20000 in
theorem gX7_record_X7_fails : GoodIn wsX7_record (wsV RX7 83 RX7 yX7_fails wsX7_fails) := goodIn_app (goodIn_of _ (by decide +kernel)) ggX7_record_X7_fails
set_option maxRecDepth 20000 in
theorem ggX7_stop_X7_isRecorder : GoodIn wsX7_stop wsX7_isRecorder := goodIn_r _ [8, 9, 10, 11, 7, 12, 17, 18, 19, 20, 21, 22, 23, 24, 25, 26, 27, 28, 29, 30, 31, 32, 33, 34, 35, 36, 37, 38, 39, 40, 41] (by decide +kernel) (by decide +kernel)
set_option maxRecDepth 20000 in
theorem gX7_stop_X7_isRecorder : GoodIn wsX7_stop (wsV RX7 145 RX7 yX7_isRecorder wsX7_isRecorder) := goodIn_app (goodIn_of _ (by decide +kernel)) ggX7_stop_X7_isRecorder
set_option maxRecDepth 20000 in
theorem ggX7_stop_X7_fails : GoodIn wsX7_stop wsX7_fails := goodIn_r _ [16, 1, 17, 18, 19, 20, 21, 22, 23, 24, 25, 26, 27, 28, 29, 30, 31, 32, 33, 34, 35, 36, 37, 38, 39, 40, 41] (by decide +kernel) (by decide +kernel)
set_option maxRecDepth 20000 in
theorem gX7_stop_X7_fails : GoodIn wsX7_stop (wsV RX7 83 RX7 yX7_fails wsX7_fails) := goodIn_app (goodIn_of _ (by decide +kernel)) ggX7_stop_X7_fails
set_option maxRecDepth 20000 in
theorem ggX7_stateOf_X7_isRecorder : GoodIn wsX7_stateOf wsX7_isRecorder := goodIn_r _ [7, 8, 9, 10, 6, 11, 12, 13, 14, 15, 16, 17, 18, 19, 20, 21, 22, 23, 24, 25, 26, 27, 28, 29, 30, 31, 32, 33, 34, 35, 36] (by decide +kernel) (by decide +kernel)
set_option maxRecDepth 20000 in
theorem gX7_stateOf_X7_isRecorder : GoodIn wsX7_stateOf (wsV RX7 145 RX7 yX7_isRecorder wsX7_isRecorder) := goodIn_app (goodIn_of _ (by decide +kernel)) ggX7_stateOf_X7_isRecorder
set_option maxRecDepth 20000 in
theorem ggX7_follows_X7_isRecorder : GoodIn wsX7_follows wsX7_isRecorder := goodIn_r _ [8, 9, 10, 11, 7, 12, 17, 18, 19, 20, 21, 22, 23, 24, 25, 26, 27, 28, 29, 30, 31, 32, 33, 34, 35, 36, 37, 38, 39, 40, 41] (by decide +kernel) (by decide +kernel)
set_option maxRecDepth 20000 in
theorem gX7_follows_X7_isRecorder : GoodIn wsX7_follows (wsV RX7 145 RX7 yX7_isRecorder wsX7_isRecorder) := goodIn_app (goodIn_of _ (by decide +kernel)) ggX7_follows_X7_isRecorder
set_option maxRecDepth 20000 in
theorem ggX7_follows_X7_fails : GoodIn wsX7_follows wsX7_fails := goodIn_r _ [16, 1, 17, 18, 19, 20, 21, 22, 23, 24, 25, 26, 27, 28, 29, 30, 31, 32, 33, 34, 35, 36, 37, 38, 39, 40, 41] (by decide +kernel) (by decide +kernel)
set_option maxRecDepth 20000 in
theorem gX7_follows_X7_fails : GoodIn wsX7_follows (wsV RX7 83 RX7 yX7_fails wsX7_fails) := goodIn_app (goodIn_of _ (by decide +kernel)) ggX7_follows_X7_fails
set_option maxRecDepth 20000 in
theorem ggX7_noteAt_X7_isRecorder : GoodIn wsX7_noteAt wsX7_isRecorder := goodIn_r _ [8, 9, 10, 11, 7, 12, 17, 18, 19, 20, 21, 22, 23, 24, 25, 26, 27, 28, 29, 30, 31, 32, 33, 34, 35, 36, 37, 38, 39, 40, 41] (by decide +kernel) (by decide +kernel)
set_option maxRecDepth 20000 in
theorem gX7_noteAt_X7_isRecorder : GoodIn wsX7_noteAt (wsV RX7 145 RX7 yX7_isRecorder wsX7_isRecorder) := goodIn_app (goodIn_of _ (by decide +kernel)) ggX7_noteAt_X7_isRecorder
set_option maxRecDepth 20000 in
theorem ggX7_noteAt_X7_fails : GoodIn wsX7_noteAt wsX7_fails := goodIn_r _ [16, 1, 17, 18, 19, 20, 21, 22, 23, 24, 25, 26, 27, 28, 29, 30, 31, 32, 33, 34, 35, 36, 37, 38, 39, 40, 41] (by decide +kernel) (by decide +kernel)
set_option maxRecDepth 20000 in
theorem gX7_noteAt_X7_fails : GoodIn wsX7_noteAt (wsV RX7 83 RX7 yX7_fails wsX7_fails) := goodIn_app (goodIn_of _ (by decide +kernel)) ggX7_noteAt_X7_fails
set_option maxRecDepth 20000 in
theorem ggX7_noteAt_X7_in : GoodIn wsX7_noteAt wsX7_in := goodIn_r _ [12] (by decide +kernel) (by decide +kernel)
set_option maxRecDepth 20000 in
theorem gX7_noteAt_X7_in : GoodIn wsX7_noteAt (va_wsS RX7 73 yX7_in wsX7_in) := goodIn_app (goodIn_of _ (by decide +kernel)) ggX7_noteAt_X7_in
set_option maxRecDepth 20000 in
theorem ggX7_isApart_X7_uses : GoodIn wsX7_isApart wsX7_uses := goodIn_ca (goodIn_r _ [8, 9, 10, 11, 12, 13, 14, 15, 3, 16, 17, 18, 7, 19, 20, 21, 22, 23, 24, 25, 26, 27, 28, 29, 30, 31, 32, 33, 34, 35, 36, 37, 38, 39, 40, 41, 42, 43, 44, 45, 46, 47, 48] (by decide +kernel) (by decide +kernel)) (goodIn_sub (fun _ h => List.mem_cons_of_mem _ (List.mem_append_right _ h)) (by decide +kernel))
set_option maxRecDepth 20000 in
theorem gX7_isApart_X7_uses : GoodIn wsX7_isApart (wsV RX7 128 RX7 yX7_uses wsX7_uses) := goodIn_app (goodIn_of _ (by decide +kernel)) ggX7_isApart_X7_uses
