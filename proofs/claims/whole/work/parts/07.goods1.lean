set_option maxRecDepth 20000 in
theorem ggX0_enterStore_X1_placeOf : GoodIn wsX0_enterStore wsX1_placeOf := goodIn_r _ [8] (by decide +kernel) (by decide +kernel)
set_option maxRecDepth 20000 in
theorem gX0_enterStore_X1_placeOf_n50 : GoodIn wsX0_enterStore (wsX1_placeOf) := ggX0_enterStore_X1_placeOf
set_option maxRecDepth 20000 in
theorem ggX0_enterStore_X0_totalDeclared : GoodIn wsX0_enterStore wsX0_totalDeclared := goodIn_r _ [13, 2, 14, 15, 16, 17, 18, 19, 20, 21, 22, 23, 24, 25] (by decide +kernel) (by decide +kernel)
set_option maxRecDepth 20000 in
theorem gX0_enterStore_X0_totalDeclared : GoodIn wsX0_enterStore (wsV RX0 54 RX0 yX0_totalDeclared wsX0_totalDeclared) := goodIn_app (goodIn_of _ (by decide +kernel)) ggX0_enterStore_X0_totalDeclared
set_option maxRecDepth 20000 in
theorem ggX1_setSort_X1_checkSort : GoodIn wsX1_setSort wsX1_checkSort := goodIn_ca (goodIn_r _ [6, 7, 8, 5, 9, 10, 11] (by decide +kernel) (by decide +kernel)) (goodIn_sub (fun _ h => List.mem_cons_of_mem _ (List.mem_append_right _ h)) (by decide +kernel))
set_option maxRecDepth 20000 in
theorem gX1_setSort_X1_checkSort : GoodIn wsX1_setSort (va_wsS RX1 44 yX1_checkSort wsX1_checkSort) := goodIn_app (goodIn_of _ (by decide +kernel)) ggX1_setSort_X1_checkSort
set_option maxRecDepth 20000 in
theorem ggX1_setSort_X1_checkRange : GoodIn wsX1_setSort wsX1_checkRange := goodIn_ca (goodIn_r _ [9, 10, 11] (by decide +kernel) (by decide +kernel)) (goodIn_sub (fun _ h => List.mem_cons_of_mem _ (List.mem_append_right _ h)) (by decide +kernel))
set_option maxRecDepth 20000 in
theorem gX1_setSort_X1_checkRange : GoodIn wsX1_setSort (va_wsS RX1 48 yX1_checkRange wsX1_checkRange) := goodIn_app (goodIn_of _ (by decide +kernel)) ggX1_setSort_X1_checkRange
set_option maxRecDepth 20000 in
theorem ggX1_setRisk_X1_checkRange : GoodIn wsX1_setRisk wsX1_checkRange := goodIn_ca (goodIn_r _ [6, 7, 8] (by decide +kernel) (by decide +kernel)) (goodIn_sub (fun _ h => List.mem_cons_of_mem _ (List.mem_append_right _ h)) (by decide +kernel))
set_option maxRecDepth 20000 in
theorem gX1_setRisk_X1_checkRange : GoodIn wsX1_setRisk (va_wsS RX1 48 yX1_checkRange wsX1_checkRange) := goodIn_app (goodIn_of _ (by decide +kernel)) ggX1_setRisk_X1_checkRange
set_option maxRecDepth 20000 in
theorem ggX1_setRisk_X1_countToSearch : GoodIn wsX1_setRisk wsX1_countToSearch := goodIn_r _ [12, 13, 14, 15, 16, 5, 17, 18, 19, 1, 20, 21, 22, 23, 24, 25, 26, 27, 28, 29, 30, 31, 32, 33, 34, 35, 36, 37, 38, 39, 40, 41, 42, 43, 44, 45, 46, 47, 48, 49, 50, 51, 52, 53, 54, 55] (by decide +kernel) (by decide +kernel)
set_option maxRecDepth 20000 in
theorem gX1_setRisk_X1_countToSearch : GoodIn wsX1_setRisk (wsV RX1 52 RX1 yX1_countToSearch wsX1_countToSearch) := goodIn_app (goodIn_of _ (by decide +kernel)) ggX1_setRisk_X1_countToSearch
set_option maxRecDepth 20000 in
theorem ggX1_setGuarantee_X1_checkTrader : GoodIn wsX1_setGuarantee wsX1_checkTrader := goodIn_ca (goodIn_r _ [9, 10, 11, 8, 12, 13, 14] (by decide +kernel) (by decide +kernel)) (goodIn_sub (fun _ h => List.mem_cons_of_mem _ (List.mem_append_right _ h)) (by decide +kernel))
set_option maxRecDepth 20000 in
theorem gX1_setGuarantee_X1_checkTrader : GoodIn wsX1_setGuarantee (va_wsS RX1 56 yX1_checkTrader wsX1_checkTrader) := goodIn_app (goodIn_of _ (by decide +kernel)) ggX1_setGuarantee_X1_checkTrader
set_option maxRecDepth 20000 in
theorem ggX1_setGuarantee_X1_checkRange : GoodIn wsX1_setGuarantee wsX1_checkRange := goodIn_ca (goodIn_r _ [12, 13, 14] (by decide +kernel) (by decide +kernel)) (goodIn_sub (fun _ h => List.mem_cons_of_mem _ (List.mem_append_right _ h)) (by decide +kernel))
set_option maxRecDepth 20000 in
theorem gX1_setGuarantee_X1_checkRange : GoodIn wsX1_setGuarantee (va_wsS RX1 48 yX1_checkRange wsX1_checkRange) := goodIn_app (goodIn_of _ (by decide +kernel)) ggX1_setGuarantee_X1_checkRange
set_option maxRecDepth 20000 in
theorem ggX1_announce_X1_checkTrader : GoodIn wsX1_announce wsX1_checkTrader := goodIn_ca (goodIn_r _ [11, 12, 13, 10, 14, 15, 16] (by decide +kernel) (by decide +kernel)) (goodIn_sub (fun _ h => List.mem_cons_of_mem _ (List.mem_append_right _ h)) (by decide +kernel))
set_option maxRecDepth 20000 in
theorem gX1_announce_X1_checkTrader : GoodIn wsX1_announce (va_wsS RX1 56 yX1_checkTrader wsX1_checkTrader) := goodIn_app (goodIn_of _ (by decide +kernel)) ggX1_announce_X1_checkTrader
set_option maxRecDepth 20000 in
theorem ggX1_announce_X1_checkSeal : GoodIn wsX1_announce wsX1_checkSeal := goodIn_ca (goodIn_r _ [19, 12, 13, 10, 14, 15, 16] (by decide +kernel) (by decide +kernel)) (goodIn_sub (fun _ h => List.mem_cons_of_mem _ (List.mem_append_right _ h)) (by decide +kernel))
set_option maxRecDepth 20000 in
theorem gX1_announce_X1_checkSeal : GoodIn wsX1_announce (va_wsS RX1 67 yX1_checkSeal wsX1_checkSeal) := goodIn_app (goodIn_of _ (by decide +kernel)) ggX1_announce_X1_checkSeal
set_option maxRecDepth 20000 in
theorem ggX1_announce_X0_init : GoodIn wsX1_announce wsX0_init := goodIn_r _ [22, 23, 24, 25, 26, 27, 28, 29, 30, 31, 32, 33, 34, 35, 36, 37, 38, 49, 50, 51, 52, 53, 54, 55, 56, 57, 58, 59, 60] (by decide +kernel) (by decide +kernel)
set_option maxRecDepth 20000 in
theorem gX1_announce_X0_init : GoodIn wsX1_announce (wsX0_init) := ggX1_announce_X0_init
set_option maxRecDepth 20000 in
theorem ggX1_amend_X1_findConsignment : GoodIn wsX1_amend wsX1_findConsignment := goodIn_ca (goodIn_r _ [10, 11, 12, 13, 34, 35, 36, 37, 38, 39, 40, 41, 42, 43] (by decide +kernel) (by decide +kernel)) (goodIn_sub (fun _ h => List.mem_cons_of_mem _ (List.mem_append_left _ (List.mem_append_right _ h))) (by decide +kernel))
set_option maxRecDepth 20000 in
theorem gX1_amend_X1_findConsignment : GoodIn wsX1_amend (wsV RX1 75 RX1 yX1_findConsignment wsX1_findConsignment) := goodIn_app (goodIn_of _ (by decide +kernel)) ggX1_amend_X1_findConsignment
set_option maxRecDepth 20000 in
theorem ggX1_amend_X1_checkSort : GoodIn wsX1_amend wsX1_checkSort := goodIn_ca (goodIn_r _ [16, 17, 18, 9, 19, 20, 21] (by decide +kernel) (by decide +kernel)) (goodIn_sub (fun _ h => List.mem_cons_of_mem _ (List.mem_append_right _ h)) (by decide +kernel))
set_option maxRecDepth 20000 in
theorem gX1_amend_X1_checkSort : GoodIn wsX1_amend (va_wsS RX1 44 yX1_checkSort wsX1_checkSort) := goodIn_app (goodIn_of _ (by decide +kernel)) ggX1_amend_X1_checkSort
set_option maxRecDepth 20000 in
theorem ggX1_amend_X1_checkRange : GoodIn wsX1_amend wsX1_checkRange := goodIn_ca (goodIn_r _ [19, 20, 21] (by decide +kernel) (by decide +kernel)) (goodIn_sub (fun _ h => List.mem_cons_of_mem _ (List.mem_append_right _ h)) (by decide +kernel))
set_option maxRecDepth 20000 in
theorem gX1_amend_X1_checkRange : GoodIn wsX1_amend (va_wsS RX1 48 yX1_checkRange wsX1_checkRange) := goodIn_app (goodIn_of _ (by decide +kernel)) ggX1_amend_X1_checkRange
set_option maxRecDepth 20000 in
theorem ggX1_arrive_X1_findConsignment : GoodIn wsX1_arrive wsX1_findConsignment := goodIn_ca (goodIn_r _ [13, 14, 15, 16, 60, 61, 62, 63, 64, 65, 66, 67, 68, 69] (by decide +kernel) (by decide +kernel)) (goodIn_sub (fun _ h => List.mem_cons_of_mem _ (List.mem_append_left _ (List.mem_append_right _ h))) (by decide +kernel))
set_option maxRecDepth 20000 in
theorem gX1_arrive_X1_findConsignment : GoodIn wsX1_arrive (wsV RX1 75 RX1 yX1_findConsignment wsX1_findConsignment) := goodIn_app (goodIn_of _ (by decide +kernel)) ggX1_arrive_X1_findConsignment
set_option maxRecDepth 20000 in
theorem ggX1_arrive_X1_checkSeal : GoodIn wsX1_arrive wsX1_checkSeal := goodIn_ca (goodIn_r _ [19, 20, 21, 12, 22, 23, 24] (by decide +kernel) (by decide +kernel)) (goodIn_sub (fun _ h => List.mem_cons_of_mem _ (List.mem_append_right _ h)) (by decide +kernel))
set_option maxRecDepth 20000 in
theorem gX1_arrive_X1_checkSeal : GoodIn wsX1_arrive (va_wsS RX1 67 yX1_checkSeal wsX1_checkSeal) := goodIn_app (goodIn_of _ (by decide +kernel)) ggX1_arrive_X1_checkSeal
set_option maxRecDepth 20000 in
theorem ggX1_arrive_X0_totalDeclared : GoodIn wsX1_arrive wsX0_totalDeclared := goodIn_r _ [29, 30, 48, 49, 50, 51, 52, 53, 54, 55, 56, 57, 58, 59] (by decide +kernel) (by decide +kernel)
set_option maxRecDepth 20000 in
theorem gX1_arrive_X0_totalDeclared : GoodIn wsX1_arrive (wsV RX1 92 RX0 yX0_totalDeclared wsX0_totalDeclared) := goodIn_app (goodIn_of _ (by decide +kernel)) ggX1_arrive_X0_totalDeclared
set_option maxRecDepth 20000 in
theorem ggX1_arrive_X1_hasToBeSearched : GoodIn wsX1_arrive wsX1_hasToBeSearched := goodIn_r _ [34, 3, 8, 35, 36, 37, 38, 28, 39, 40, 41, 42, 43, 12, 44, 45, 46, 47, 6, 48, 49, 50, 51, 52, 53, 54, 55, 56, 57, 58, 59, 60, 61, 62, 63, 64, 65, 66, 67, 68, 69] (by decide +kernel) (by decide +kernel)
set_option maxRecDepth 20000 in
theorem gX1_arrive_X1_hasToBeSearched : GoodIn wsX1_arrive (wsV RX1 107 RX1 yX1_hasToBeSearched wsX1_hasToBeSearched) := goodIn_app (goodIn_of _ (by decide +kernel)) ggX1_arrive_X1_hasToBeSearched
set_option maxRecDepth 20000 in
theorem ggX1_risk_X1_findConsignment : GoodIn wsX1_risk wsX1_findConsignment := goodIn_ca (goodIn_r _ [8, 9, 10, 11, 32, 33, 34, 35, 36, 37, 38, 39, 40, 41] (by decide +kernel) (by decide +kernel)) (goodIn_sub (fun _ h => List.mem_cons_of_mem _ (List.mem_append_right _ h)) (by decide +kernel))
set_option maxRecDepth 20000 in
theorem gX1_risk_X1_findConsignment : GoodIn wsX1_risk (wsV RX1 75 RX1 yX1_findConsignment wsX1_findConsignment) := goodIn_app (goodIn_of _ (by decide +kernel)) ggX1_risk_X1_findConsignment
set_option maxRecDepth 20000 in
theorem ggX1_risk_X1_riskOf : GoodIn wsX1_risk wsX1_riskOf := goodIn_r _ [15, 16, 17, 18, 19, 20, 21, 22, 23, 24, 25, 26, 27, 28, 29, 30, 31, 32, 33, 34, 35, 36, 37, 38, 39, 40, 41] (by decide +kernel) (by decide +kernel)
set_option maxRecDepth 20000 in
theorem gX1_risk_X1_riskOf : GoodIn wsX1_risk (wsV RX1 113 RX1 yX1_riskOf wsX1_riskOf) := goodIn_app (goodIn_of _ (by decide +kernel)) ggX1_risk_X1_riskOf
set_option maxRecDepth 20000 in
theorem ggX1_mustSearch_X1_findConsignment : GoodIn wsX1_mustSearch wsX1_findConsignment := goodIn_ca (goodIn_r _ [5, 6, 7, 8, 30, 31, 32, 33, 34, 35, 36, 37, 38, 39] (by decide +kernel) (by decide +kernel)) (goodIn_sub (fun _ h => List.mem_cons_of_mem _ (List.mem_append_right _ h)) (by decide +kernel))
set_option maxRecDepth 20000 in
theorem gX1_mustSearch_X1_findConsignment : GoodIn wsX1_mustSearch (wsV RX1 75 RX1 yX1_findConsignment wsX1_findConsignment) := goodIn_app (goodIn_of _ (by decide +kernel)) ggX1_mustSearch_X1_findConsignment
set_option maxRecDepth 20000 in
theorem ggX1_mustSearch_X1_hasToBeSearched : GoodIn wsX1_mustSearch wsX1_hasToBeSearched := goodIn_r _ [12, 13, 14, 15, 16, 17, 18, 19, 20, 21, 22, 23, 24, 4, 25, 26, 27, 28, 29, 40, 41, 42, 43, 44, 45, 46, 47, 48, 49, 50, 51, 30, 31, 32, 33, 34, 35, 36, 37, 38, 39] (by decide +kernel) (by decide +kernel)
set_option maxRecDepth 20000 in
theorem gX1_mustSearch_X1_hasToBeSearched : GoodIn wsX1_mustSearch (wsV RX1 107 RX1 yX1_hasToBeSearched wsX1_hasToBeSearched) := goodIn_app (goodIn_of _ (by decide +kernel)) ggX1_mustSearch_X1_hasToBeSearched
set_option maxRecDepth 20000 in
theorem ggX1_search_X1_findConsignment : GoodIn wsX1_search wsX1_findConsignment := goodIn_ca (goodIn_r _ [9, 10, 11, 12, 41, 42, 43, 44, 45, 46, 47, 48, 49, 50] (by decide +kernel) (by decide +kernel)) (goodIn_sub (fun _ h => List.mem_cons_of_mem _ (List.mem_append_left _ (List.mem_append_right _ h))) (by decide +kernel))
set_option maxRecDepth 20000 in
theorem gX1_search_X1_findConsignment : GoodIn wsX1_search (wsV RX1 75 RX1 yX1_findConsignment wsX1_findConsignment) := goodIn_app (goodIn_of _ (by decide +kernel)) ggX1_search_X1_findConsignment
set_option maxRecDepth 20000 in
theorem ggX1_search_X1_checkSort : GoodIn wsX1_search wsX1_checkSort := goodIn_ca (goodIn_r _ [15, 16, 17, 8, 18, 19, 20] (by decide +kernel) (by decide +kernel)) (goodIn_sub (fun _ h => List.mem_cons_of_mem _ (List.mem_append_right _ h)) (by decide +kernel))
set_option maxRecDepth 20000 in
theorem gX1_search_X1_checkSort : GoodIn wsX1_search (va_wsS RX1 44 yX1_checkSort wsX1_checkSort) := goodIn_app (goodIn_of _ (by decide +kernel)) ggX1_search_X1_checkSort
set_option maxRecDepth 20000 in
theorem ggX1_search_X1_checkRange : GoodIn wsX1_search wsX1_checkRange := goodIn_ca (goodIn_r _ [18, 19, 20] (by decide +kernel) (by decide +kernel)) (goodIn_sub (fun _ h => List.mem_cons_of_mem _ (List.mem_append_right _ h)) (by decide +kernel))
set_option maxRecDepth 20000 in
theorem gX1_search_X1_checkRange : GoodIn wsX1_search (va_wsS RX1 48 yX1_checkRange wsX1_checkRange) := goodIn_app (goodIn_of _ (by decide +kernel)) ggX1_search_X1_checkRange
set_option maxRecDepth 20000 in
theorem ggX1_search_X0_noteSearch : GoodIn wsX1_search wsX0_noteSearch := goodIn_r _ [25, 26, 27, 28, 29, 30, 31, 32, 33, 34, 35, 36, 37, 38, 39, 40] (by decide +kernel) (by decide +kernel)
set_option maxRecDepth 20000 in
theorem gX1_search_X0_noteSearch : GoodIn wsX1_search (wsV RX1 119 RX0 yX0_noteSearch wsX0_noteSearch) := goodIn_app (goodIn_of _ (by decide +kernel)) ggX1_search_X0_noteSearch
set_option maxRecDepth 20000 in
theorem ggX1_bond_X1_findConsignment : GoodIn wsX1_bond wsX1_findConsignment := goodIn_ca (goodIn_r _ [12, 13, 14, 15, 75, 76, 77, 78, 79, 80, 81, 82, 83, 84] (by decide +kernel) (by decide +kernel)) (goodIn_sub (fun _ h => List.mem_cons_of_mem _ (List.mem_append_left _ (List.mem_append_right _ h))) (by decide +kernel))
set_option maxRecDepth 20000 in
theorem gX1_bond_X1_findConsignment : GoodIn wsX1_bond (wsV RX1 75 RX1 yX1_findConsignment wsX1_findConsignment) := goodIn_app (goodIn_of _ (by decide +kernel)) ggX1_bond_X1_findConsignment
set_option maxRecDepth 20000 in
theorem ggX1_bond_X1_checkStore : GoodIn wsX1_bond wsX1_checkStore := goodIn_ca (goodIn_r _ [18, 19, 20, 11, 21, 22, 23] (by decide +kernel) (by decide +kernel)) (goodIn_sub (fun _ h => List.mem_cons_of_mem _ (List.mem_append_right _ h)) (by decide +kernel))
set_option maxRecDepth 20000 in
theorem gX1_bond_X1_checkStore : GoodIn wsX1_bond (va_wsS RX1 125 yX1_checkStore wsX1_checkStore) := goodIn_app (goodIn_of _ (by decide +kernel)) ggX1_bond_X1_checkStore
set_option maxRecDepth 20000 in
theorem ggX1_bond_X1_hasToBeSearched : GoodIn wsX1_bond wsX1_hasToBeSearched := goodIn_r _ [27, 3, 28, 29, 30, 31, 32, 33, 34, 35, 36, 37, 38, 11, 39, 40, 41, 42, 43, 63, 64, 65, 66, 67, 68, 69, 70, 71, 72, 73, 74, 75, 76, 77, 78, 79, 80, 81, 82, 83, 84] (by decide +kernel) (by decide +kernel)
set_option maxRecDepth 20000 in
theorem gX1_bond_X1_hasToBeSearched : GoodIn wsX1_bond (wsV RX1 107 RX1 yX1_hasToBeSearched wsX1_hasToBeSearched) := goodIn_app (goodIn_of _ (by decide +kernel)) ggX1_bond_X1_hasToBeSearched
set_option maxRecDepth 20000 in
theorem ggX1_bond_X1_dutyNow : GoodIn wsX1_bond wsX1_dutyNow := goodIn_r _ [47, 40, 7, 63, 64, 65, 66, 67, 68, 69, 70, 71, 72, 73, 74, 75, 76, 77, 78, 79, 80, 81, 82, 83, 84] (by decide +kernel) (by decide +kernel)
set_option maxRecDepth 20000 in
theorem gX1_bond_X1_dutyNow : GoodIn wsX1_bond (wsV RX1 130 RX1 yX1_dutyNow wsX1_dutyNow) := goodIn_app (goodIn_of _ (by decide +kernel)) ggX1_bond_X1_dutyNow
set_option maxRecDepth 20000 in
theorem ggX1_bond_X0_enterStore : GoodIn wsX1_bond wsX0_enterStore := goodIn_r _ [51, 52, 53, 54, 55, 56, 57, 11, 58, 59, 60, 61, 33, 62, 63, 64, 65, 66, 67, 68, 69, 70, 71, 72, 73, 74] (by decide +kernel) (by decide +kernel)
set_option maxRecDepth 20000 in
theorem gX1_bond_X0_enterStore : GoodIn wsX1_bond (wsV RX1 138 RX0 yX0_enterStore wsX0_enterStore) := goodIn_app (goodIn_of _ (by decide +kernel)) ggX1_bond_X0_enterStore
set_option maxRecDepth 20000 in
theorem ggX1_move_X1_findConsignment : GoodIn wsX1_move wsX1_findConsignment := goodIn_ca (goodIn_r _ [8, 9, 10, 11, 41, 42, 43, 44, 45, 46, 47, 48, 49, 50] (by decide +kernel) (by decide +kernel)) (goodIn_sub (fun _ h => List.mem_cons_of_mem _ (List.mem_append_left _ (List.mem_append_right _ h))) (by decide +kernel))
set_option maxRecDepth 20000 in
theorem gX1_move_X1_findConsignment : GoodIn wsX1_move (wsV RX1 75 RX1 yX1_findConsignment wsX1_findConsignment) := goodIn_app (goodIn_of _ (by decide +kernel)) ggX1_move_X1_findConsignment
set_option maxRecDepth 20000 in
theorem ggX1_move_X1_checkStore : GoodIn wsX1_move wsX1_checkStore := goodIn_ca (goodIn_r _ [14, 15, 16, 7, 17, 1, 2] (by decide +kernel) (by decide +kernel)) (goodIn_sub (fun _ h => List.mem_cons_of_mem _ (List.mem_append_left _ (List.mem_append_left _ (List.mem_append_right _ h)))) (by decide +kernel))
set_option maxRecDepth 20000 in
theorem gX1_move_X1_checkStore : GoodIn wsX1_move (va_wsS RX1 125 yX1_checkStore wsX1_checkStore) := goodIn_app (goodIn_of _ (by decide +kernel)) ggX1_move_X1_checkStore
set_option maxRecDepth 20000 in
theorem ggX1_move_X1_checkTaking : GoodIn wsX1_move wsX1_checkTaking := goodIn_ca (goodIn_ca (goodIn_r _ [20, 21, 22, 3, 23, 24, 7, 25, 15, 16, 17, 1, 2, 12, 13, 14, 26, 27, 28, 29, 30, 31, 32, 33, 34, 35, 36, 37, 38, 39, 40] (by decide +kernel) (by decide +kernel)) (goodIn_sub (fun _ h => List.mem_cons_of_mem _ (List.mem_append_right _ h)) (by decide +kernel))) (goodIn_sub (fun _ h => List.mem_cons_of_mem _ (List.mem_append_left _ (List.mem_append_left _ (List.mem_append_right _ h)))) (by decide +kernel))
set_option maxRecDepth 20000 in
theorem gX1_move_X1_checkTaking : GoodIn wsX1_move (va_wsS RX1 147 yX1_checkTaking wsX1_checkTaking) := goodIn_app (goodIn_of _ (by decide +kernel)) ggX1_move_X1_checkTaking
set_option maxRecDepth 20000 in
theorem ggX1_move_X1_placeOf : GoodIn wsX1_move wsX1_placeOf := goodIn_r _ [28] (by decide +kernel) (by decide +kernel)
set_option maxRecDepth 20000 in
theorem gX1_move_X1_placeOf : GoodIn wsX1_move (va_wsS RX1 151 yX1_placeOf wsX1_placeOf) := goodIn_app (goodIn_of _ (by decide +kernel)) ggX1_move_X1_placeOf
set_option maxRecDepth 20000 in
theorem ggX1_free_X1_findConsignment : GoodIn wsX1_free wsX1_findConsignment := goodIn_ca (goodIn_r _ [7, 8, 9, 10, 39, 40, 41, 42, 43, 44, 45, 46, 47, 48] (by decide +kernel) (by decide +kernel)) (goodIn_sub (fun _ h => List.mem_cons_of_mem _ (List.mem_append_left _ (List.mem_append_left _ (List.mem_append_right _ h)))) (by decide +kernel))
set_option maxRecDepth 20000 in
theorem gX1_free_X1_findConsignment : GoodIn wsX1_free (wsV RX1 75 RX1 yX1_findConsignment wsX1_findConsignment) := goodIn_app (goodIn_of _ (by decide +kernel)) ggX1_free_X1_findConsignment
set_option maxRecDepth 20000 in
theorem ggX1_free_X1_checkTaking : GoodIn wsX1_free wsX1_checkTaking := goodIn_ca (goodIn_ca (goodIn_r _ [13, 14, 15, 16, 17, 18, 6, 19, 20, 21, 22, 23, 24, 25, 26, 27, 28, 29, 30, 49, 50, 51, 52, 53, 54, 55, 56, 57, 58, 59, 60] (by decide +kernel) (by decide +kernel)) (goodIn_sub (fun _ h => List.mem_cons_of_mem _ (List.mem_append_left _ (List.mem_append_right _ h))) (by decide +kernel))) (goodIn_sub (fun _ h => List.mem_cons_of_mem _ (List.mem_append_right _ h)) (by decide +kernel))
set_option maxRecDepth 20000 in
theorem gX1_free_X1_checkTaking : GoodIn wsX1_free (va_wsS RX1 147 yX1_checkTaking wsX1_checkTaking) := goodIn_app (goodIn_of _ (by decide +kernel)) ggX1_free_X1_checkTaking
set_option maxRecDepth 20000 in
theorem ggX1_free_X1_takeOut : GoodIn wsX1_free wsX1_takeOut := goodIn_r _ [34, 35, 36, 2, 16, 37, 38, 28, 29, 6, 30, 49, 50, 51, 52, 53, 54, 55, 56, 57, 58, 59, 60, 39, 40, 41, 42, 43, 44, 45, 46, 47, 48] (by decide +kernel) (by decide +kernel)
set_option maxRecDepth 20000 in
theorem gX1_free_X1_takeOut : GoodIn wsX1_free (wsV RX1 158 RX1 yX1_takeOut wsX1_takeOut) := goodIn_app (goodIn_of _ (by decide +kernel)) ggX1_free_X1_takeOut
set_option maxRecDepth 20000 in
theorem ggX1_sendBack_X1_findConsignment : GoodIn wsX1_sendBack wsX1_findConsignment := goodIn_ca (goodIn_r _ [5, 6, 7, 8, 38, 39, 40, 41, 42, 43, 44, 45, 46, 47] (by decide +kernel) (by decide +kernel)) (goodIn_sub (fun _ h => List.mem_cons_of_mem _ (List.mem_append_left _ (List.mem_append_left _ (List.mem_append_right _ h)))) (by decide +kernel))
set_option maxRecDepth 20000 in
theorem gX1_sendBack_X1_findConsignment : GoodIn wsX1_sendBack (wsV RX1 75 RX1 yX1_findConsignment wsX1_findConsignment) := goodIn_app (goodIn_of _ (by decide +kernel)) ggX1_sendBack_X1_findConsignment
set_option maxRecDepth 20000 in
theorem ggX1_sendBack_X1_checkTaking : GoodIn wsX1_sendBack wsX1_checkTaking := goodIn_ca (goodIn_ca (goodIn_r _ [11, 12, 13, 14, 15, 16, 4, 17, 18, 19, 20, 21, 22, 23, 24, 25, 26, 27, 28, 48, 49, 50, 51, 52, 53, 54, 55, 56, 57, 58, 59] (by decide +kernel) (by decide +kernel)) (goodIn_sub (fun _ h => List.mem_cons_of_mem _ (List.mem_append_left _ (List.mem_append_right _ h))) (by decide +kernel))) (goodIn_sub (fun _ h => List.mem_cons_of_mem _ (List.mem_append_right _ h)) (by decide +kernel))
set_option maxRecDepth 20000 in
theorem gX1_sendBack_X1_checkTaking : GoodIn wsX1_sendBack (va_wsS RX1 147 yX1_checkTaking wsX1_checkTaking) := goodIn_app (goodIn_of _ (by decide +kernel)) ggX1_sendBack_X1_checkTaking
set_option maxRecDepth 20000 in
theorem ggX1_sendBack_X1_takeOut : GoodIn wsX1_sendBack wsX1_takeOut := goodIn_r _ [32, 33, 34, 35, 14, 36, 37, 26, 27, 4, 28, 48, 49, 50, 51, 52, 53, 54, 55, 56, 57, 58, 59, 38, 39, 40, 41, 42, 43, 44, 45, 46, 47] (by decide +kernel) (by decide +kernel)
set_option maxRecDepth 20000 in
theorem gX1_sendBack_X1_takeOut : GoodIn wsX1_sendBack (wsV RX1 158 RX1 yX1_takeOut wsX1_takeOut) := goodIn_app (goodIn_of _ (by decide +kernel)) ggX1_sendBack_X1_takeOut
set_option maxRecDepth 20000 in
theorem ggX1_state_X1_findConsignment : GoodIn wsX1_state wsX1_findConsignment := goodIn_ca (goodIn_r _ [6, 7, 8, 9, 22, 23, 24, 25, 26, 27, 28, 29, 30, 31] (by decide +kernel) (by decide +kernel)) (goodIn_sub (fun _ h => List.mem_cons_of_mem _ (List.mem_append_right _ h)) (by decide +kernel))
set_option maxRecDepth 20000 in
theorem gX1_state_X1_findConsignment : GoodIn wsX1_state (wsV RX1 75 RX1 yX1_findConsignment wsX1_findConsignment) := goodIn_app (goodIn_of _ (by decide +kernel)) ggX1_state_X1_findConsignment
set_option maxRecDepth 20000 in
theorem ggX1_manifest_X1_findConsignment : GoodIn wsX1_manifest wsX1_findConsignment := goodIn_ca (goodIn_r _ [6, 7, 8, 9, 30, 31, 32, 33, 34, 35, 36, 37, 38, 39] (by decide +kernel) (by decide +kernel)) (goodIn_sub (fun _ h => List.mem_cons_of_mem _ (List.mem_append_left _ (List.mem_append_right _ h))) (by decide +kernel))
set_option maxRecDepth 20000 in
theorem gX1_manifest_X1_findConsignment : GoodIn wsX1_manifest (wsV RX1 75 RX1 yX1_findConsignment wsX1_findConsignment) := goodIn_app (goodIn_of _ (by decide +kernel)) ggX1_manifest_X1_findConsignment
set_option maxRecDepth 20000 in
theorem ggX1_manifest_X1_checkSort : GoodIn wsX1_manifest wsX1_checkSort := goodIn_ca (goodIn_r _ [12, 13, 14, 5, 15, 16, 17] (by decide +kernel) (by decide +kernel)) (goodIn_sub (fun _ h => List.mem_cons_of_mem _ (List.mem_append_right _ h)) (by decide +kernel))
set_option maxRecDepth 20000 in
theorem gX1_manifest_X1_checkSort : GoodIn wsX1_manifest (va_wsS RX1 44 yX1_checkSort wsX1_checkSort) := goodIn_app (goodIn_of _ (by decide +kernel)) ggX1_manifest_X1_checkSort
set_option maxRecDepth 20000 in
theorem ggX1_stored_X1_checkSort : GoodIn wsX1_stored wsX1_checkSort := goodIn_ca (goodIn_r _ [6, 7, 8, 5, 9, 10, 11] (by decide +kernel) (by decide +kernel)) (goodIn_sub (fun _ h => List.mem_cons_of_mem _ (List.mem_append_right _ h)) (by decide +kernel))
set_option maxRecDepth 20000 in
theorem gX1_stored_X1_checkSort : GoodIn wsX1_stored (va_wsS RX1 44 yX1_checkSort wsX1_checkSort) := goodIn_app (goodIn_of _ (by decide +kernel)) ggX1_stored_X1_checkSort
set_option maxRecDepth 20000 in
theorem ggX1_stored_X1_checkStore : GoodIn wsX1_stored wsX1_checkStore := goodIn_ca (goodIn_r _ [14, 7, 8, 5, 9, 10, 11] (by decide +kernel) (by decide +kernel)) (goodIn_sub (fun _ h => List.mem_cons_of_mem _ (List.mem_append_right _ h)) (by decide +kernel))
set_option maxRecDepth 20000 in
theorem gX1_stored_X1_checkStore : GoodIn wsX1_stored (va_wsS RX1 125 yX1_checkStore wsX1_checkStore) := goodIn_app (goodIn_of _ (by decide +kernel)) ggX1_stored_X1_checkStore
set_option maxRecDepth 20000 in
theorem ggX1_stored_X1_placeOf : GoodIn wsX1_stored wsX1_placeOf := goodIn_r _ [17] (by decide +kernel) (by decide +kernel)
set_option maxRecDepth 20000 in
theorem gX1_stored_X1_placeOf : GoodIn wsX1_stored (va_wsS RX1 151 yX1_placeOf wsX1_placeOf) := goodIn_app (goodIn_of _ (by decide +kernel)) ggX1_stored_X1_placeOf
set_option maxRecDepth 20000 in
theorem ggX1_held_X1_checkTrader : GoodIn wsX1_held wsX1_checkTrader := goodIn_ca (goodIn_r _ [5, 6, 7, 4, 8, 9, 10] (by decide +kernel) (by decide +kernel)) (goodIn_sub (fun _ h => List.mem_cons_of_mem _ (List.mem_append_right _ h)) (by decide +kernel))
set_option maxRecDepth 20000 in
theorem gX1_held_X1_checkTrader : GoodIn wsX1_held (va_wsS RX1 56 yX1_checkTrader wsX1_checkTrader) := goodIn_app (goodIn_of _ (by decide +kernel)) ggX1_held_X1_checkTrader
set_option maxRecDepth 20000 in
theorem ggX1_paid_X1_checkTrader : GoodIn wsX1_paid wsX1_checkTrader := goodIn_ca (goodIn_r _ [5, 6, 7, 4, 8, 9, 10] (by decide +kernel) (by decide +kernel)) (goodIn_sub (fun _ h => List.mem_cons_of_mem _ (List.mem_append_right _ h)) (by decide +kernel))
set_option maxRecDepth 20000 in
theorem gX1_paid_X1_checkTrader : GoodIn wsX1_paid (va_wsS RX1 56 yX1_checkTrader wsX1_checkTrader) := goodIn_app (goodIn_of _ (by decide +kernel)) ggX1_paid_X1_checkTrader
set_option maxRecDepth 20000 in
theorem ggX1_checkSort_X1_checkRange : GoodIn wsX1_checkSort wsX1_checkRange := goodIn_ca (goodIn_r _ [4, 5, 6] (by decide +kernel) (by decide +kernel)) (goodIn_sub (fun _ h => List.mem_cons_of_mem _ (List.mem_append_right _ h)) (by decide +kernel))
set_option maxRecDepth 20000 in
theorem gX1_checkSort_X1_checkRange : GoodIn wsX1_checkSort (va_wsS RX1 48 yX1_checkRange wsX1_checkRange) := goodIn_app (goodIn_of _ (by decide +kernel)) ggX1_checkSort_X1_checkRange
set_option maxRecDepth 20000 in
theorem ggX1_checkStore_X1_checkRange : GoodIn wsX1_checkStore wsX1_checkRange := goodIn_ca (goodIn_r _ [4, 5, 6] (by decide +kernel) (by decide +kernel)) (goodIn_sub (fun _ h => List.mem_cons_of_mem _ (List.mem_append_right _ h)) (by decide +kernel))
set_option maxRecDepth 20000 in
theorem gX1_checkStore_X1_checkRange : GoodIn wsX1_checkStore (va_wsS RX1 48 yX1_checkRange wsX1_checkRange) := goodIn_app (goodIn_of _ (by decide +kernel)) ggX1_checkStore_X1_checkRange
set_option maxRecDepth 20000 in
theorem ggX1_checkTrader_X1_checkRange : GoodIn wsX1_checkTrader wsX1_checkRange := goodIn_ca (goodIn_r _ [4, 5, 6] (by decide +kernel) (by decide +kernel)) (goodIn_sub (fun _ h => List.mem_cons_of_mem _ (List.mem_append_right _ h)) (by decide +kernel))
set_option maxRecDepth 20000 in
theorem gX1_checkTrader_X1_checkRange : GoodIn wsX1_checkTrader (va_wsS RX1 48 yX1_checkRange wsX1_checkRange) := goodIn_app (goodIn_of _ (by decide +kernel)) ggX1_checkTrader_X1_checkRange
set_option maxRecDepth 20000 in
theorem ggX1_checkSeal_X1_checkRange : GoodIn wsX1_checkSeal wsX1_checkRange := goodIn_ca (goodIn_r _ [4, 5, 6] (by decide +kernel) (by decide +kernel)) (goodIn_sub (fun _ h => List.mem_cons_of_mem _ (List.mem_append_right _ h)) (by decide +kernel))
set_option maxRecDepth 20000 in
theorem gX1_checkSeal_X1_checkRange : GoodIn wsX1_checkSeal (va_wsS RX1 48 yX1_checkRange wsX1_checkRange) := goodIn_app (goodIn_of _ (by decide +kernel)) ggX1_checkSeal_X1_checkRange
set_option maxRecDepth 20000 in
theorem ggX1_checkTaking_X1_checkSort : GoodIn wsX1_checkTaking wsX1_checkSort := goodIn_ca (goodIn_r _ [7, 8, 9, 6, 10, 11, 12] (by decide +kernel) (by decide +kernel)) (goodIn_sub (fun _ h => List.mem_cons_of_mem _ (List.mem_append_right _ h)) (by decide +kernel))
set_option maxRecDepth 20000 in
theorem gX1_checkTaking_X1_checkSort : GoodIn wsX1_checkTaking (va_wsS RX1 44 yX1_checkSort wsX1_checkSort) := goodIn_app (goodIn_of _ (by decide +kernel)) ggX1_checkTaking_X1_checkSort
set_option maxRecDepth 20000 in
theorem ggX1_checkTaking_X1_checkStore : GoodIn wsX1_checkTaking wsX1_checkStore := goodIn_ca (goodIn_r _ [15, 8, 9, 6, 10, 11, 12] (by decide +kernel) (by decide +kernel)) (goodIn_sub (fun _ h => List.mem_cons_of_mem _ (List.mem_append_right _ h)) (by decide +kernel))
set_option maxRecDepth 20000 in
theorem gX1_checkTaking_X1_checkStore : GoodIn wsX1_checkTaking (va_wsS RX1 125 yX1_checkStore wsX1_checkStore) := goodIn_app (goodIn_of _ (by decide +kernel)) ggX1_checkTaking_X1_checkStore
set_option maxRecDepth 20000 in
theorem ggX1_checkTaking_X1_checkRange : GoodIn wsX1_checkTaking wsX1_checkRange := goodIn_ca (goodIn_r _ [10, 11, 12] (by decide +kernel) (by decide +kernel)) (goodIn_sub (fun _ h => List.mem_cons_of_mem _ (List.mem_append_right _ h)) (by decide +kernel))
set_option maxRecDepth 20000 in
theorem gX1_checkTaking_X1_checkRange : GoodIn wsX1_checkTaking (va_wsS RX1 48 yX1_checkRange wsX1_checkRange) := goodIn_app (goodIn_of _ (by decide +kernel)) ggX1_checkTaking_X1_checkRange
set_option maxRecDepth 20000 in
theorem ggX1_checkTaking_X1_placeOf : GoodIn wsX1_checkTaking wsX1_placeOf := goodIn_r _ [18] (by decide +kernel) (by decide +kernel)
set_option maxRecDepth 20000 in
theorem gX1_checkTaking_X1_placeOf : GoodIn wsX1_checkTaking (va_wsS RX1 151 yX1_placeOf wsX1_placeOf) := goodIn_app (goodIn_of _ (by decide +kernel)) ggX1_checkTaking_X1_placeOf
set_option maxRecDepth 20000 in
theorem ggX1_hasToBeSearched_X0_wasSearched : GoodIn wsX1_hasToBeSearched wsX0_wasSearched := goodIn_r _ [8, 9, 19, 20, 21, 22, 23, 24, 25, 26, 27, 28, 29, 30] (by decide +kernel) (by decide +kernel)
set_option maxRecDepth 20000 in
theorem gX1_hasToBeSearched_X0_wasSearched : GoodIn wsX1_hasToBeSearched (wsV RX1 171 RX0 yX0_wasSearched wsX0_wasSearched) := goodIn_app (goodIn_of _ (by decide +kernel)) ggX1_hasToBeSearched_X0_wasSearched
set_option maxRecDepth 20000 in
theorem ggX1_hasToBeSearched_X1_riskOf : GoodIn wsX1_hasToBeSearched wsX1_riskOf := goodIn_r _ [14, 15, 16, 17, 18, 19, 20, 21, 22, 23, 24, 25, 26, 27, 28, 29, 30, 31, 32, 33, 34, 35, 36, 37, 38, 39, 40] (by decide +kernel) (by decide +kernel)
set_option maxRecDepth 20000 in
theorem gX1_hasToBeSearched_X1_riskOf : GoodIn wsX1_hasToBeSearched (wsV RX1 113 RX1 yX1_riskOf wsX1_riskOf) := goodIn_app (goodIn_of _ (by decide +kernel)) ggX1_hasToBeSearched_X1_riskOf
set_option maxRecDepth 20000 in
theorem ggX1_countToSearch_X1_hasToBeSearched : GoodIn wsX1_countToSearch wsX1_hasToBeSearched := goodIn_r _ [6, 7, 8, 9, 10, 11, 12, 13, 14, 15, 16, 17, 18, 5, 19, 20, 21, 22, 23, 34, 35, 36, 37, 38, 39, 40, 41, 42, 43, 44, 45, 24, 25, 26, 27, 28, 29, 30, 31, 32, 33] (by decide +kernel) (by decide +kernel)
set_option maxRecDepth 20000 in
theorem gX1_countToSearch_X1_hasToBeSearched : GoodIn wsX1_countToSearch (wsV RX1 107 RX1 yX1_hasToBeSearched wsX1_hasToBeSearched) := goodIn_app (goodIn_of _ (by decide +kernel)) ggX1_countToSearch_X1_hasToBeSearched
set_option maxRecDepth 20000 in
theorem ggX1_takeOut_X1_placeOf : GoodIn wsX1_takeOut wsX1_placeOf := goodIn_r _ [10] (by decide +kernel) (by decide +kernel)
set_option maxRecDepth 20000 in
theorem gX1_takeOut_X1_placeOf : GoodIn wsX1_takeOut (va_wsS RX1 151 yX1_placeOf wsX1_placeOf) := goodIn_app (goodIn_of _ (by decide +kernel)) ggX1_takeOut_X1_placeOf
set_option maxRecDepth 20000 in
theorem ggX2_isSort_X2_isIn : GoodIn wsX2_isSort wsX2_isIn := goodIn_r _ [4] (by decide +kernel) (by decide +kernel)
set_option maxRecDepth 20000 in
theorem gX2_isSort_X2_isIn : GoodIn wsX2_isSort (va_wsS RX2 66 yX2_isIn wsX2_isIn) := goodIn_app (goodIn_of _ (by decide +kernel)) ggX2_isSort_X2_isIn
set_option maxRecDepth 20000 in
theorem ggX2_isTrader_X2_isIn : GoodIn wsX2_isTrader wsX2_isIn := goodIn_r _ [4] (by decide +kernel) (by decide +kernel)
set_option maxRecDepth 20000 in
theorem gX2_isTrader_X2_isIn : GoodIn wsX2_isTrader (va_wsS RX2 66 yX2_isIn wsX2_isIn) := goodIn_app (goodIn_of _ (by decide +kernel)) ggX2_isTrader_X2_isIn
set_option maxRecDepth 20000 in
theorem ggX2_isStore_X2_isIn : GoodIn wsX2_isStore wsX2_isIn := goodIn_r _ [4] (by decide +kernel) (by decide +kernel)
set_option maxRecDepth 20000 in
theorem gX2_isStore_X2_isIn : GoodIn wsX2_isStore (va_wsS RX2 66 yX2_isIn wsX2_isIn) := goodIn_app (goodIn_of _ (by decide +kernel)) ggX2_isStore_X2_isIn
set_option maxRecDepth 20000 in
theorem ggX2_isConsignment_X2_isIn : GoodIn wsX2_isConsignment wsX2_isIn := goodIn_r _ [5] (by decide +kernel) (by decide +kernel)
set_option maxRecDepth 20000 in
theorem gX2_isConsignment_X2_isIn : GoodIn wsX2_isConsignment (va_wsS RX2 66 yX2_isIn wsX2_isIn) := goodIn_app (goodIn_of _ (by decide +kernel)) ggX2_isConsignment_X2_isIn
set_option maxRecDepth 20000 in
theorem ggX2_setSort_X2_isSort : GoodIn wsX2_setSort wsX2_isSort := goodIn_r _ [6, 7, 8, 5, 9] (by decide +kernel) (by decide +kernel)
set_option maxRecDepth 20000 in
theorem gX2_setSort_X2_isSort : GoodIn wsX2_setSort (va_wsS RX2 73 yX2_isSort wsX2_isSort) := goodIn_app (goodIn_of _ (by decide +kernel)) ggX2_setSort_X2_isSort
set_option maxRecDepth 20000 in
theorem ggX2_setSort_X2_isIn : GoodIn wsX2_setSort wsX2_isIn := goodIn_r _ [9] (by decide +kernel) (by decide +kernel)
set_option maxRecDepth 20000 in
theorem gX2_setSort_X2_isIn : GoodIn wsX2_setSort (va_wsS RX2 66 yX2_isIn wsX2_isIn) := goodIn_app (goodIn_of _ (by decide +kernel)) ggX2_setSort_X2_isIn
set_option maxRecDepth 20000 in
theorem ggX2_setSort_X2_isFine : GoodIn wsX2_setSort wsX2_isFine := goodIn_r _ [13, 14, 15, 16, 17, 18, 19, 20, 21, 22, 23, 24, 25, 26, 27, 28, 29, 30, 31, 32, 33, 34, 35] (by decide +kernel) (by decide +kernel)
set_option maxRecDepth 20000 in
theorem gX2_setSort_X2_isFine : GoodIn wsX2_setSort (wsV RX2 77 RX2 yX2_isFine wsX2_isFine) := goodIn_app (goodIn_of _ (by decide +kernel)) ggX2_setSort_X2_isFine
set_option maxRecDepth 20000 in
theorem ggX2_setRisk_X2_isIn : GoodIn wsX2_setRisk wsX2_isIn := goodIn_r _ [7] (by decide +kernel) (by decide +kernel)
set_option maxRecDepth 20000 in
theorem gX2_setRisk_X2_isIn : GoodIn wsX2_setRisk (va_wsS RX2 66 yX2_isIn wsX2_isIn) := goodIn_app (goodIn_of _ (by decide +kernel)) ggX2_setRisk_X2_isIn
set_option maxRecDepth 20000 in
theorem ggX2_setRisk_X2_isFine : GoodIn wsX2_setRisk wsX2_isFine := goodIn_r _ [11, 12, 28, 29, 30, 31, 32, 33, 34, 35, 36, 37, 38, 39, 40, 41, 42, 43, 44, 45, 46, 47, 48] (by decide +kernel) (by decide +kernel)
set_option maxRecDepth 20000 in
theorem gX2_setRisk_X2_isFine : GoodIn wsX2_setRisk (wsV RX2 77 RX2 yX2_isFine wsX2_isFine) := goodIn_app (goodIn_of _ (by decide +kernel)) ggX2_setRisk_X2_isFine
set_option maxRecDepth 20000 in
theorem ggX2_setRisk_X2_mustNow : GoodIn wsX2_setRisk wsX2_mustNow := goodIn_r _ [16, 17, 18, 19, 1, 20, 21, 22, 6, 23, 24, 25, 26, 27, 28, 29, 30, 31, 32, 33, 34, 35, 36, 37, 38, 39, 40, 41, 42, 43, 44, 45, 46, 47, 48] (by decide +kernel) (by decide +kernel)
set_option maxRecDepth 20000 in
theorem gX2_setRisk_X2_mustNow : GoodIn wsX2_setRisk (wsV RX2 83 RX2 yX2_mustNow wsX2_mustNow) := goodIn_app (goodIn_of _ (by decide +kernel)) ggX2_setRisk_X2_mustNow
set_option maxRecDepth 20000 in
theorem ggX2_setGuarantee_X2_isTrader : GoodIn wsX2_setGuarantee wsX2_isTrader := goodIn_r _ [7, 8, 9, 6, 10] (by decide +kernel) (by decide +kernel)
set_option maxRecDepth 20000 in
theorem gX2_setGuarantee_X2_isTrader : GoodIn wsX2_setGuarantee (va_wsS RX2 86 yX2_isTrader wsX2_isTrader) := goodIn_app (goodIn_of _ (by decide +kernel)) ggX2_setGuarantee_X2_isTrader
set_option maxRecDepth 20000 in
theorem ggX2_setGuarantee_X2_isIn : GoodIn wsX2_setGuarantee wsX2_isIn := goodIn_r _ [10] (by decide +kernel) (by decide +kernel)
set_option maxRecDepth 20000 in
theorem gX2_setGuarantee_X2_isIn : GoodIn wsX2_setGuarantee (va_wsS RX2 66 yX2_isIn wsX2_isIn) := goodIn_app (goodIn_of _ (by decide +kernel)) ggX2_setGuarantee_X2_isIn
set_option maxRecDepth 20000 in
theorem ggX2_setGuarantee_X2_isFine : GoodIn wsX2_setGuarantee wsX2_isFine := goodIn_r _ [14, 15, 16, 17, 18, 19, 20, 21, 22, 23, 24, 25, 26, 27, 28, 29, 30, 31, 32, 33, 34, 35, 36] (by decide +kernel) (by decide +kernel)
set_option maxRecDepth 20000 in
theorem gX2_setGuarantee_X2_isFine : GoodIn wsX2_setGuarantee (wsV RX2 77 RX2 yX2_isFine wsX2_isFine) := goodIn_app (goodIn_of _ (by decide +kernel)) ggX2_setGuarantee_X2_isFine
set_option maxRecDepth 20000 in
theorem ggX2_announce_X2_isTrader : GoodIn wsX2_announce wsX2_isTrader := goodIn_r _ [7, 8, 9, 6, 10] (by decide +kernel) (by decide +kernel)
set_option maxRecDepth 20000 in
theorem gX2_announce_X2_isTrader : GoodIn wsX2_announce (va_wsS RX2 86 yX2_isTrader wsX2_isTrader) := goodIn_app (goodIn_of _ (by decide +kernel)) ggX2_announce_X2_isTrader
set_option maxRecDepth 20000 in
theorem ggX2_announce_X2_isIn : GoodIn wsX2_announce wsX2_isIn := goodIn_r _ [10] (by decide +kernel) (by decide +kernel)
set_option maxRecDepth 20000 in
theorem gX2_announce_X2_isIn : GoodIn wsX2_announce (va_wsS RX2 66 yX2_isIn wsX2_isIn) := goodIn_app (goodIn_of _ (by decide +kernel)) ggX2_announce_X2_isIn
set_option maxRecDepth 20000 in
theorem ggX2_announce_X2_isFine : GoodIn wsX2_announce wsX2_isFine := goodIn_r _ [14, 15, 16, 17, 18, 19, 20, 21, 22, 23, 24, 25, 26, 27, 28, 29, 30, 31, 32, 33, 34, 35, 36] (by decide +kernel) (by decide +kernel)
set_option maxRecDepth 20000 in
theorem gX2_announce_X2_isFine : GoodIn wsX2_announce (wsV RX2 77 RX2 yX2_isFine wsX2_isFine) := goodIn_app (goodIn_of _ (by decide +kernel)) ggX2_announce_X2_isFine
set_option maxRecDepth 20000 in
theorem ggX2_amend_X2_isConsignment : GoodIn wsX2_amend wsX2_isConsignment := goodIn_r _ [8, 9, 10, 11, 7, 12, 21, 22, 23, 24, 25, 26, 27, 28, 29, 30, 31, 32, 33, 34, 35, 36, 37, 38, 39, 40, 41] (by decide +kernel) (by decide +kernel)
set_option maxRecDepth 20000 in
theorem gX2_amend_X2_isConsignment : GoodIn wsX2_amend (wsV RX2 90 RX2 yX2_isConsignment wsX2_isConsignment) := goodIn_app (goodIn_of _ (by decide +kernel)) ggX2_amend_X2_isConsignment
set_option maxRecDepth 20000 in
theorem ggX2_amend_X2_isSort : GoodIn wsX2_amend wsX2_isSort := goodIn_r _ [15, 10, 11, 7, 12] (by decide +kernel) (by decide +kernel)
set_option maxRecDepth 20000 in
theorem gX2_amend_X2_isSort : GoodIn wsX2_amend (va_wsS RX2 73 yX2_isSort wsX2_isSort) := goodIn_app (goodIn_of _ (by decide +kernel)) ggX2_amend_X2_isSort
set_option maxRecDepth 20000 in
theorem ggX2_amend_X2_isIn : GoodIn wsX2_amend wsX2_isIn := goodIn_r _ [12] (by decide +kernel) (by decide +kernel)
set_option maxRecDepth 20000 in
theorem gX2_amend_X2_isIn : GoodIn wsX2_amend (va_wsS RX2 66 yX2_isIn wsX2_isIn) := goodIn_app (goodIn_of _ (by decide +kernel)) ggX2_amend_X2_isIn
set_option maxRecDepth 20000 in
theorem ggX2_amend_X2_isFine : GoodIn wsX2_amend wsX2_isFine := goodIn_r _ [19, 20, 21, 22, 23, 24, 25, 26, 27, 28, 29, 30, 31, 32, 33, 34, 35, 36, 37, 38, 39, 40, 41] (by decide +kernel) (by decide +kernel)
set_option maxRecDepth 20000 in
theorem gX2_amend_X2_isFine : GoodIn wsX2_amend (wsV RX2 77 RX2 yX2_isFine wsX2_isFine) := goodIn_app (goodIn_of _ (by decide +kernel)) ggX2_amend_X2_isFine
set_option maxRecDepth 20000 in
theorem ggX2_arrive_X2_isConsignment : GoodIn wsX2_arrive wsX2_isConsignment := goodIn_r _ [11, 12, 13, 14, 10, 15, 38, 39, 40, 41, 42, 43, 44, 45, 46, 47, 48, 49, 50, 51, 52, 53, 54, 55, 56, 57, 58] (by decide +kernel) (by decide +kernel)
set_option maxRecDepth 20000 in
theorem gX2_arrive_X2_isConsignment : GoodIn wsX2_arrive (wsV RX2 90 RX2 yX2_isConsignment wsX2_isConsignment) := goodIn_app (goodIn_of _ (by decide +kernel)) ggX2_arrive_X2_isConsignment
set_option maxRecDepth 20000 in
theorem ggX2_arrive_X2_isEmpty : GoodIn wsX2_arrive wsX2_isEmpty := goodIn_r _ [19, 20, 38, 39, 40, 41, 42, 43, 44, 45, 46, 47, 48, 49, 50, 51, 52, 53, 54, 55, 56, 57, 58] (by decide +kernel) (by decide +kernel)
set_option maxRecDepth 20000 in
theorem gX2_arrive_X2_isEmpty : GoodIn wsX2_arrive (wsV RX2 93 RX2 yX2_isEmpty wsX2_isEmpty) := goodIn_app (goodIn_of _ (by decide +kernel)) ggX2_arrive_X2_isEmpty
set_option maxRecDepth 20000 in
theorem ggX2_arrive_X2_isIn : GoodIn wsX2_arrive wsX2_isIn := goodIn_r _ [15] (by decide +kernel) (by decide +kernel)
set_option maxRecDepth 20000 in
theorem gX2_arrive_X2_isIn : GoodIn wsX2_arrive (va_wsS RX2 66 yX2_isIn wsX2_isIn) := goodIn_app (goodIn_of _ (by decide +kernel)) ggX2_arrive_X2_isIn
set_option maxRecDepth 20000 in
theorem ggX2_arrive_X2_isFine : GoodIn wsX2_arrive wsX2_isFine := goodIn_r _ [24, 25, 38, 39, 40, 41, 42, 43, 44, 45, 46, 47, 48, 49, 50, 51, 52, 53, 54, 55, 56, 57, 58] (by decide +kernel) (by decide +kernel)
set_option maxRecDepth 20000 in
theorem gX2_arrive_X2_isFine : GoodIn wsX2_arrive (wsV RX2 77 RX2 yX2_isFine wsX2_isFine) := goodIn_app (goodIn_of _ (by decide +kernel)) ggX2_arrive_X2_isFine
set_option maxRecDepth 20000 in
theorem ggX2_arrive_X2_mustNow : GoodIn wsX2_arrive wsX2_mustNow := goodIn_r _ [29, 1, 30, 3, 31, 32, 33, 34, 10, 35, 36, 5, 20, 37, 38, 39, 40, 41, 42, 43, 44, 45, 46, 47, 48, 49, 50, 51, 52, 53, 54, 55, 56, 57, 58] (by decide +kernel) (by decide +kernel)
set_option maxRecDepth 20000 in
theorem gX2_arrive_X2_mustNow : GoodIn wsX2_arrive (wsV RX2 83 RX2 yX2_mustNow wsX2_mustNow) := goodIn_app (goodIn_of _ (by decide +kernel)) ggX2_arrive_X2_mustNow
set_option maxRecDepth 20000 in
theorem ggX2_mustNow_X2_riskNow : GoodIn wsX2_mustNow wsX2_riskNow := goodIn_r _ [9, 10, 11, 12, 13, 14, 15, 16, 17, 18, 19, 20, 21, 22, 23, 24, 25, 26, 27, 28, 29, 30, 31, 32, 33, 34] (by decide +kernel) (by decide +kernel)
set_option maxRecDepth 20000 in
theorem gX2_mustNow_X2_riskNow : GoodIn wsX2_mustNow (wsV RX2 99 RX2 yX2_riskNow wsX2_riskNow) := goodIn_app (goodIn_of _ (by decide +kernel)) ggX2_mustNow_X2_riskNow
set_option maxRecDepth 20000 in
theorem ggX2_risk_X2_isConsignment : GoodIn wsX2_risk wsX2_isConsignment := goodIn_r _ [6, 7, 8, 9, 5, 10, 24, 25, 26, 27, 28, 29, 30, 31, 32, 33, 34, 35, 36, 37, 38, 39, 40, 41, 42, 43, 44] (by decide +kernel) (by decide +kernel)
set_option maxRecDepth 20000 in
theorem gX2_risk_X2_isConsignment : GoodIn wsX2_risk (wsV RX2 90 RX2 yX2_isConsignment wsX2_isConsignment) := goodIn_app (goodIn_of _ (by decide +kernel)) ggX2_risk_X2_isConsignment
set_option maxRecDepth 20000 in
theorem ggX2_risk_X2_isFine : GoodIn wsX2_risk wsX2_isFine := goodIn_r _ [14, 15, 24, 25, 26, 27, 28, 29, 30, 31, 32, 33, 34, 35, 36, 37, 38, 39, 40, 41, 42, 43, 44] (by decide +kernel) (by decide +kernel)
set_option maxRecDepth 20000 in
theorem gX2_risk_X2_isFine : GoodIn wsX2_risk (wsV RX2 77 RX2 yX2_isFine wsX2_isFine) := goodIn_app (goodIn_of _ (by decide +kernel)) ggX2_risk_X2_isFine
set_option maxRecDepth 20000 in
theorem ggX2_risk_X2_riskNow : GoodIn wsX2_risk wsX2_riskNow := goodIn_r _ [19, 20, 21, 22, 23, 24, 25, 26, 27, 28, 29, 30, 31, 32, 33, 34, 35, 36, 37, 38, 39, 40, 41, 42, 43, 44] (by decide +kernel) (by decide +kernel)
set_option maxRecDepth 20000 in
theorem gX2_risk_X2_riskNow : GoodIn wsX2_risk (wsV RX2 99 RX2 yX2_riskNow wsX2_riskNow) := goodIn_app (goodIn_of _ (by decide +kernel)) ggX2_risk_X2_riskNow
set_option maxRecDepth 20000 in
theorem ggX2_mustSearch_X2_isConsignment : GoodIn wsX2_mustSearch wsX2_isConsignment := goodIn_r _ [5, 6, 7, 8, 4, 9, 31, 32, 33, 34, 35, 36, 37, 38, 39, 40, 41, 42, 43, 44, 45, 46, 47, 48, 49, 50, 51] (by decide +kernel) (by decide +kernel)
set_option maxRecDepth 20000 in
theorem gX2_mustSearch_X2_isConsignment : GoodIn wsX2_mustSearch (wsV RX2 90 RX2 yX2_isConsignment wsX2_isConsignment) := goodIn_app (goodIn_of _ (by decide +kernel)) ggX2_mustSearch_X2_isConsignment
set_option maxRecDepth 20000 in
theorem ggX2_mustSearch_X2_isFine : GoodIn wsX2_mustSearch wsX2_isFine := goodIn_r _ [13, 14, 31, 32, 33, 34, 35, 36, 37, 38, 39, 40, 41, 42, 43, 44, 45, 46, 47, 48, 49, 50, 51] (by decide +kernel) (by decide +kernel)
set_option maxRecDepth 20000 in
theorem gX2_mustSearch_X2_isFine : GoodIn wsX2_mustSearch (wsV RX2 77 RX2 yX2_isFine wsX2_isFine) := goodIn_app (goodIn_of _ (by decide +kernel)) ggX2_mustSearch_X2_isFine
set_option maxRecDepth 20000 in
theorem ggX2_mustSearch_X2_mustNow : GoodIn wsX2_mustSearch wsX2_mustNow := goodIn_r _ [18, 19, 20, 21, 22, 23, 24, 25, 4, 26, 27, 28, 29, 30, 31, 32, 33, 34, 35, 36, 37, 38, 39, 40, 41, 42, 43, 44, 45, 46, 47, 48, 49, 50, 51] (by decide +kernel) (by decide +kernel)
set_option maxRecDepth 20000 in
theorem gX2_mustSearch_X2_mustNow : GoodIn wsX2_mustSearch (wsV RX2 83 RX2 yX2_mustNow wsX2_mustNow) := goodIn_app (goodIn_of _ (by decide +kernel)) ggX2_mustSearch_X2_mustNow
set_option maxRecDepth 20000 in
theorem ggX2_search_X2_isConsignment : GoodIn wsX2_search wsX2_isConsignment := goodIn_r _ [9, 10, 11, 12, 8, 13, 22, 23, 24, 25, 26, 27, 28, 29, 30, 31, 32, 33, 34, 35, 36, 37, 38, 39, 40, 41, 42] (by decide +kernel) (by decide +kernel)
set_option maxRecDepth 20000 in
theorem gX2_search_X2_isConsignment : GoodIn wsX2_search (wsV RX2 90 RX2 yX2_isConsignment wsX2_isConsignment) := goodIn_app (goodIn_of _ (by decide +kernel)) ggX2_search_X2_isConsignment
set_option maxRecDepth 20000 in
theorem ggX2_search_X2_isSort : GoodIn wsX2_search wsX2_isSort := goodIn_r _ [16, 11, 12, 8, 13] (by decide +kernel) (by decide +kernel)
set_option maxRecDepth 20000 in
theorem gX2_search_X2_isSort : GoodIn wsX2_search (va_wsS RX2 73 yX2_isSort wsX2_isSort) := goodIn_app (goodIn_of _ (by decide +kernel)) ggX2_search_X2_isSort
set_option maxRecDepth 20000 in
theorem ggX2_search_X2_isIn : GoodIn wsX2_search wsX2_isIn := goodIn_r _ [13] (by decide +kernel) (by decide +kernel)
set_option maxRecDepth 20000 in
theorem gX2_search_X2_isIn : GoodIn wsX2_search (va_wsS RX2 66 yX2_isIn wsX2_isIn) := goodIn_app (goodIn_of _ (by decide +kernel)) ggX2_search_X2_isIn
