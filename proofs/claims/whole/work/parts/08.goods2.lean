set_option maxRecDepth 20000 in
theorem ggX2_search_X2_isFine : GoodIn wsX2_search wsX2_isFine := goodIn_r _ [20, 21, 22, 23, 24, 25, 26, 27, 28, 29, 30, 31, 32, 33, 34, 35, 36, 37, 38, 39, 40, 41, 42] (by decide +kernel) (by decide +kernel)
set_option maxRecDepth 20000 in
theorem gX2_search_X2_isFine : GoodIn wsX2_search (wsV RX2 77 RX2 yX2_isFine wsX2_isFine) := goodIn_app (goodIn_of _ (by decide +kernel)) ggX2_search_X2_isFine
set_option maxRecDepth 20000 in
theorem ggX2_bond_X2_isConsignment : GoodIn wsX2_bond wsX2_isConsignment := goodIn_r _ [13, 14, 15, 16, 12, 17, 51, 52, 53, 54, 55, 56, 57, 58, 59, 60, 61, 62, 63, 64, 65, 66, 67, 68, 69, 70, 71] (by decide +kernel) (by decide +kernel)
set_option maxRecDepth 20000 in
theorem gX2_bond_X2_isConsignment : GoodIn wsX2_bond (wsV RX2 90 RX2 yX2_isConsignment wsX2_isConsignment) := goodIn_app (goodIn_of _ (by decide +kernel)) ggX2_bond_X2_isConsignment
set_option maxRecDepth 20000 in
theorem ggX2_bond_X2_mustNow : GoodIn wsX2_bond wsX2_mustNow := goodIn_r _ [21, 2, 22, 23, 24, 25, 26, 27, 12, 28, 29, 30, 8, 31, 51, 52, 53, 54, 55, 56, 57, 58, 59, 60, 61, 62, 63, 64, 65, 66, 67, 68, 69, 70, 71] (by decide +kernel) (by decide +kernel)
set_option maxRecDepth 20000 in
theorem gX2_bond_X2_mustNow : GoodIn wsX2_bond (wsV RX2 83 RX2 yX2_mustNow wsX2_mustNow) := goodIn_app (goodIn_of _ (by decide +kernel)) ggX2_bond_X2_mustNow
set_option maxRecDepth 20000 in
theorem ggX2_bond_X2_owes : GoodIn wsX2_bond wsX2_owes := goodIn_r _ [35, 8, 6, 51, 52, 53, 54, 55, 56, 57, 58, 59, 60, 61, 62, 63, 64, 65, 66, 67, 68, 69, 70, 71] (by decide +kernel) (by decide +kernel)
set_option maxRecDepth 20000 in
theorem gX2_bond_X2_owes : GoodIn wsX2_bond (wsV RX2 103 RX2 yX2_owes wsX2_owes) := goodIn_app (goodIn_of _ (by decide +kernel)) ggX2_bond_X2_owes
set_option maxRecDepth 20000 in
theorem ggX2_bond_X2_isStore : GoodIn wsX2_bond wsX2_isStore := goodIn_r _ [38, 15, 16, 12, 17] (by decide +kernel) (by decide +kernel)
set_option maxRecDepth 20000 in
theorem gX2_bond_X2_isStore : GoodIn wsX2_bond (va_wsS RX2 106 yX2_isStore wsX2_isStore) := goodIn_app (goodIn_of _ (by decide +kernel)) ggX2_bond_X2_isStore
set_option maxRecDepth 20000 in
theorem ggX2_bond_X2_isFine : GoodIn wsX2_bond wsX2_isFine := goodIn_r _ [42, 43, 51, 52, 53, 54, 55, 56, 57, 58, 59, 60, 61, 62, 63, 64, 65, 66, 67, 68, 69, 70, 71] (by decide +kernel) (by decide +kernel)
set_option maxRecDepth 20000 in
theorem gX2_bond_X2_isFine : GoodIn wsX2_bond (wsV RX2 77 RX2 yX2_isFine wsX2_isFine) := goodIn_app (goodIn_of _ (by decide +kernel)) ggX2_bond_X2_isFine
set_option maxRecDepth 20000 in
theorem ggX2_bond_X2_isEmpty : GoodIn wsX2_bond wsX2_isEmpty := goodIn_r _ [47, 8, 51, 52, 53, 54, 55, 56, 57, 58, 59, 60, 61, 62, 63, 64, 65, 66, 67, 68, 69, 70, 71] (by decide +kernel) (by decide +kernel)
set_option maxRecDepth 20000 in
theorem gX2_bond_X2_isEmpty : GoodIn wsX2_bond (wsV RX2 93 RX2 yX2_isEmpty wsX2_isEmpty) := goodIn_app (goodIn_of _ (by decide +kernel)) ggX2_bond_X2_isEmpty
set_option maxRecDepth 20000 in
theorem ggX2_bond_X2_at : GoodIn wsX2_bond wsX2_at := goodIn_r _ [50] (by decide +kernel) (by decide +kernel)
set_option maxRecDepth 20000 in
theorem gX2_bond_X2_at : GoodIn wsX2_bond (va_wsS RX2 109 yX2_at wsX2_at) := goodIn_app (goodIn_of _ (by decide +kernel)) ggX2_bond_X2_at
set_option maxRecDepth 20000 in
theorem ggX2_isGoods_X2_isSort : GoodIn wsX2_isGoods wsX2_isSort := goodIn_r _ [4, 5, 6, 3, 7] (by decide +kernel) (by decide +kernel)
set_option maxRecDepth 20000 in
theorem gX2_isGoods_X2_isSort : GoodIn wsX2_isGoods (va_wsS RX2 73 yX2_isSort wsX2_isSort) := goodIn_app (goodIn_of _ (by decide +kernel)) ggX2_isGoods_X2_isSort
set_option maxRecDepth 20000 in
theorem ggX2_isGoods_X2_isStore : GoodIn wsX2_isGoods wsX2_isStore := goodIn_r _ [10, 5, 6, 3, 7] (by decide +kernel) (by decide +kernel)
set_option maxRecDepth 20000 in
theorem gX2_isGoods_X2_isStore : GoodIn wsX2_isGoods (va_wsS RX2 106 yX2_isStore wsX2_isStore) := goodIn_app (goodIn_of _ (by decide +kernel)) ggX2_isGoods_X2_isStore
set_option maxRecDepth 20000 in
theorem ggX2_isGoods_X2_isIn : GoodIn wsX2_isGoods wsX2_isIn := goodIn_r _ [7] (by decide +kernel) (by decide +kernel)
set_option maxRecDepth 20000 in
theorem gX2_isGoods_X2_isIn : GoodIn wsX2_isGoods (va_wsS RX2 66 yX2_isIn wsX2_isIn) := goodIn_app (goodIn_of _ (by decide +kernel)) ggX2_isGoods_X2_isIn
set_option maxRecDepth 20000 in
theorem ggX2_move_X2_isConsignment : GoodIn wsX2_move wsX2_isConsignment := goodIn_r _ [6, 7, 8, 9, 5, 10, 28, 29, 30, 31, 32, 33, 34, 35, 36, 37, 38, 39, 40, 41, 42, 43, 44, 45, 46, 47, 48] (by decide +kernel) (by decide +kernel)
set_option maxRecDepth 20000 in
theorem gX2_move_X2_isConsignment : GoodIn wsX2_move (wsV RX2 90 RX2 yX2_isConsignment wsX2_isConsignment) := goodIn_app (goodIn_of _ (by decide +kernel)) ggX2_move_X2_isConsignment
set_option maxRecDepth 20000 in
theorem ggX2_move_X2_isGoods : GoodIn wsX2_move wsX2_isGoods := goodIn_r _ [13, 14, 15, 5, 16, 8, 9, 10, 17, 18, 19] (by decide +kernel) (by decide +kernel)
set_option maxRecDepth 20000 in
theorem gX2_move_X2_isGoods : GoodIn wsX2_move (va_wsS RX2 113 yX2_isGoods wsX2_isGoods) := goodIn_app (goodIn_of _ (by decide +kernel)) ggX2_move_X2_isGoods
set_option maxRecDepth 20000 in
theorem ggX2_move_X2_isStore : GoodIn wsX2_move wsX2_isStore := goodIn_r _ [19, 8, 9, 5, 10] (by decide +kernel) (by decide +kernel)
set_option maxRecDepth 20000 in
theorem gX2_move_X2_isStore : GoodIn wsX2_move (va_wsS RX2 106 yX2_isStore wsX2_isStore) := goodIn_app (goodIn_of _ (by decide +kernel)) ggX2_move_X2_isStore
set_option maxRecDepth 20000 in
theorem ggX2_move_X2_at : GoodIn wsX2_move wsX2_at := goodIn_r _ [22] (by decide +kernel) (by decide +kernel)
set_option maxRecDepth 20000 in
theorem gX2_move_X2_at : GoodIn wsX2_move (va_wsS RX2 109 yX2_at wsX2_at) := goodIn_app (goodIn_of _ (by decide +kernel)) ggX2_move_X2_at
set_option maxRecDepth 20000 in
theorem ggX2_move_X2_isFine : GoodIn wsX2_move wsX2_isFine := goodIn_r _ [26, 27, 28, 29, 30, 31, 32, 33, 34, 35, 36, 37, 38, 39, 40, 41, 42, 43, 44, 45, 46, 47, 48] (by decide +kernel) (by decide +kernel)
set_option maxRecDepth 20000 in
theorem gX2_move_X2_isFine : GoodIn wsX2_move (wsV RX2 77 RX2 yX2_isFine wsX2_isFine) := goodIn_app (goodIn_of _ (by decide +kernel)) ggX2_move_X2_isFine
set_option maxRecDepth 20000 in
theorem ggX2_whyNot_X2_isConsignment : GoodIn wsX2_whyNot wsX2_isConsignment := goodIn_r _ [6, 7, 8, 9, 5, 10, 23, 24, 25, 26, 27, 28, 29, 30, 31, 32, 33, 34, 35, 36, 37, 38, 39, 40, 41, 42, 43] (by decide +kernel) (by decide +kernel)
set_option maxRecDepth 20000 in
theorem gX2_whyNot_X2_isConsignment : GoodIn wsX2_whyNot (wsV RX2 90 RX2 yX2_isConsignment wsX2_isConsignment) := goodIn_app (goodIn_of _ (by decide +kernel)) ggX2_whyNot_X2_isConsignment
set_option maxRecDepth 20000 in
theorem ggX2_whyNot_X2_isGoods : GoodIn wsX2_whyNot wsX2_isGoods := goodIn_r _ [13, 14, 15, 5, 16, 8, 9, 10, 17, 18, 19] (by decide +kernel) (by decide +kernel)
set_option maxRecDepth 20000 in
theorem gX2_whyNot_X2_isGoods : GoodIn wsX2_whyNot (va_wsS RX2 113 yX2_isGoods wsX2_isGoods) := goodIn_app (goodIn_of _ (by decide +kernel)) ggX2_whyNot_X2_isGoods
set_option maxRecDepth 20000 in
theorem ggX2_whyNot_X2_at : GoodIn wsX2_whyNot wsX2_at := goodIn_r _ [22] (by decide +kernel) (by decide +kernel)
set_option maxRecDepth 20000 in
theorem gX2_whyNot_X2_at : GoodIn wsX2_whyNot (va_wsS RX2 109 yX2_at wsX2_at) := goodIn_app (goodIn_of _ (by decide +kernel)) ggX2_whyNot_X2_at
set_option maxRecDepth 20000 in
theorem ggX2_leaves_X2_at : GoodIn wsX2_leaves wsX2_at := goodIn_r _ [9] (by decide +kernel) (by decide +kernel)
set_option maxRecDepth 20000 in
theorem gX2_leaves_X2_at : GoodIn wsX2_leaves (va_wsS RX2 109 yX2_at wsX2_at) := goodIn_app (goodIn_of _ (by decide +kernel)) ggX2_leaves_X2_at
set_option maxRecDepth 20000 in
theorem ggX2_free_X2_whyNot : GoodIn wsX2_free wsX2_whyNot := goodIn_r _ [7, 8, 9, 10, 11, 6, 12, 13, 14, 15, 16, 17, 18, 19, 20, 21, 22, 23, 24, 25, 26, 27, 28, 41, 42, 43, 44, 45, 46, 47, 48, 49, 50, 51, 52, 53, 54, 55, 56, 57, 58, 59, 60, 61] (by decide +kernel) (by decide +kernel)
set_option maxRecDepth 20000 in
theorem gX2_free_X2_whyNot : GoodIn wsX2_free (wsV RX2 116 RX2 yX2_whyNot wsX2_whyNot) := goodIn_app (goodIn_of _ (by decide +kernel)) ggX2_free_X2_whyNot
set_option maxRecDepth 20000 in
theorem ggX2_free_X2_isFine : GoodIn wsX2_free wsX2_isFine := goodIn_r _ [32, 33, 41, 42, 43, 44, 45, 46, 47, 48, 49, 50, 51, 52, 53, 54, 55, 56, 57, 58, 59, 60, 61] (by decide +kernel) (by decide +kernel)
set_option maxRecDepth 20000 in
theorem gX2_free_X2_isFine : GoodIn wsX2_free (wsV RX2 77 RX2 yX2_isFine wsX2_isFine) := goodIn_app (goodIn_of _ (by decide +kernel)) ggX2_free_X2_isFine
set_option maxRecDepth 20000 in
theorem ggX2_free_X2_leaves : GoodIn wsX2_free wsX2_leaves := goodIn_r _ [37, 8, 38, 39, 2, 40, 26, 27, 6, 28, 41, 42, 43, 44, 45, 46, 47, 48, 49, 50, 51, 52, 53, 54, 55, 56, 57, 58, 59, 60, 61] (by decide +kernel) (by decide +kernel)
set_option maxRecDepth 20000 in
theorem gX2_free_X2_leaves : GoodIn wsX2_free (wsV RX2 120 RX2 yX2_leaves wsX2_leaves) := goodIn_app (goodIn_of _ (by decide +kernel)) ggX2_free_X2_leaves
set_option maxRecDepth 20000 in
theorem ggX2_sendBack_X2_whyNot : GoodIn wsX2_sendBack wsX2_whyNot := goodIn_r _ [5, 6, 7, 8, 9, 4, 10, 11, 12, 13, 14, 15, 16, 17, 18, 19, 20, 21, 22, 23, 24, 25, 26, 40, 41, 42, 43, 44, 45, 46, 47, 48, 49, 50, 51, 52, 53, 54, 55, 56, 57, 58, 59, 60] (by decide +kernel) (by decide +kernel)
set_option maxRecDepth 20000 in
theorem gX2_sendBack_X2_whyNot : GoodIn wsX2_sendBack (wsV RX2 116 RX2 yX2_whyNot wsX2_whyNot) := goodIn_app (goodIn_of _ (by decide +kernel)) ggX2_sendBack_X2_whyNot
set_option maxRecDepth 20000 in
theorem ggX2_sendBack_X2_isFine : GoodIn wsX2_sendBack wsX2_isFine := goodIn_r _ [30, 31, 40, 41, 42, 43, 44, 45, 46, 47, 48, 49, 50, 51, 52, 53, 54, 55, 56, 57, 58, 59, 60] (by decide +kernel) (by decide +kernel)
set_option maxRecDepth 20000 in
theorem gX2_sendBack_X2_isFine : GoodIn wsX2_sendBack (wsV RX2 77 RX2 yX2_isFine wsX2_isFine) := goodIn_app (goodIn_of _ (by decide +kernel)) ggX2_sendBack_X2_isFine
set_option maxRecDepth 20000 in
theorem ggX2_sendBack_X2_leaves : GoodIn wsX2_sendBack wsX2_leaves := goodIn_r _ [35, 6, 36, 37, 38, 39, 24, 25, 4, 26, 40, 41, 42, 43, 44, 45, 46, 47, 48, 49, 50, 51, 52, 53, 54, 55, 56, 57, 58, 59, 60] (by decide +kernel) (by decide +kernel)
set_option maxRecDepth 20000 in
theorem gX2_sendBack_X2_leaves : GoodIn wsX2_sendBack (wsV RX2 120 RX2 yX2_leaves wsX2_leaves) := goodIn_app (goodIn_of _ (by decide +kernel)) ggX2_sendBack_X2_leaves
set_option maxRecDepth 20000 in
theorem ggX2_state_X2_isConsignment : GoodIn wsX2_state wsX2_isConsignment := goodIn_r _ [6, 7, 8, 9, 5, 10, 16, 17, 18, 19, 20, 21, 22, 23, 24, 25, 26, 27, 28, 29, 30, 31, 32, 33, 34, 35, 36] (by decide +kernel) (by decide +kernel)
set_option maxRecDepth 20000 in
theorem gX2_state_X2_isConsignment : GoodIn wsX2_state (wsV RX2 90 RX2 yX2_isConsignment wsX2_isConsignment) := goodIn_app (goodIn_of _ (by decide +kernel)) ggX2_state_X2_isConsignment
set_option maxRecDepth 20000 in
theorem ggX2_state_X2_isFine : GoodIn wsX2_state wsX2_isFine := goodIn_r _ [14, 15, 16, 17, 18, 19, 20, 21, 22, 23, 24, 25, 26, 27, 28, 29, 30, 31, 32, 33, 34, 35, 36] (by decide +kernel) (by decide +kernel)
set_option maxRecDepth 20000 in
theorem gX2_state_X2_isFine : GoodIn wsX2_state (wsV RX2 77 RX2 yX2_isFine wsX2_isFine) := goodIn_app (goodIn_of _ (by decide +kernel)) ggX2_state_X2_isFine
set_option maxRecDepth 20000 in
theorem ggX2_manifest_X2_isConsignment : GoodIn wsX2_manifest wsX2_isConsignment := goodIn_r _ [6, 7, 8, 9, 5, 10, 19, 20, 21, 22, 23, 24, 25, 26, 27, 28, 29, 30, 31, 32, 33, 34, 35, 36, 37, 38, 39] (by decide +kernel) (by decide +kernel)
set_option maxRecDepth 20000 in
theorem gX2_manifest_X2_isConsignment : GoodIn wsX2_manifest (wsV RX2 90 RX2 yX2_isConsignment wsX2_isConsignment) := goodIn_app (goodIn_of _ (by decide +kernel)) ggX2_manifest_X2_isConsignment
set_option maxRecDepth 20000 in
theorem ggX2_manifest_X2_isSort : GoodIn wsX2_manifest wsX2_isSort := goodIn_r _ [13, 8, 9, 5, 10] (by decide +kernel) (by decide +kernel)
set_option maxRecDepth 20000 in
theorem gX2_manifest_X2_isSort : GoodIn wsX2_manifest (va_wsS RX2 73 yX2_isSort wsX2_isSort) := goodIn_app (goodIn_of _ (by decide +kernel)) ggX2_manifest_X2_isSort
set_option maxRecDepth 20000 in
theorem ggX2_manifest_X2_isFine : GoodIn wsX2_manifest wsX2_isFine := goodIn_r _ [17, 18, 19, 20, 21, 22, 23, 24, 25, 26, 27, 28, 29, 30, 31, 32, 33, 34, 35, 36, 37, 38, 39] (by decide +kernel) (by decide +kernel)
set_option maxRecDepth 20000 in
theorem gX2_manifest_X2_isFine : GoodIn wsX2_manifest (wsV RX2 77 RX2 yX2_isFine wsX2_isFine) := goodIn_app (goodIn_of _ (by decide +kernel)) ggX2_manifest_X2_isFine
set_option maxRecDepth 20000 in
theorem ggX2_stored_X2_isSort : GoodIn wsX2_stored wsX2_isSort := goodIn_r _ [6, 7, 8, 5, 9] (by decide +kernel) (by decide +kernel)
set_option maxRecDepth 20000 in
theorem gX2_stored_X2_isSort : GoodIn wsX2_stored (va_wsS RX2 73 yX2_isSort wsX2_isSort) := goodIn_app (goodIn_of _ (by decide +kernel)) ggX2_stored_X2_isSort
set_option maxRecDepth 20000 in
theorem ggX2_stored_X2_isStore : GoodIn wsX2_stored wsX2_isStore := goodIn_r _ [12, 7, 8, 5, 9] (by decide +kernel) (by decide +kernel)
set_option maxRecDepth 20000 in
theorem gX2_stored_X2_isStore : GoodIn wsX2_stored (va_wsS RX2 106 yX2_isStore wsX2_isStore) := goodIn_app (goodIn_of _ (by decide +kernel)) ggX2_stored_X2_isStore
set_option maxRecDepth 20000 in
theorem ggX2_stored_X2_isFine : GoodIn wsX2_stored wsX2_isFine := goodIn_r _ [16, 17, 21, 22, 23, 24, 25, 26, 27, 28, 29, 30, 31, 32, 33, 34, 35, 36, 37, 38, 39, 40, 41] (by decide +kernel) (by decide +kernel)
set_option maxRecDepth 20000 in
theorem gX2_stored_X2_isFine : GoodIn wsX2_stored (wsV RX2 77 RX2 yX2_isFine wsX2_isFine) := goodIn_app (goodIn_of _ (by decide +kernel)) ggX2_stored_X2_isFine
set_option maxRecDepth 20000 in
theorem ggX2_stored_X2_at : GoodIn wsX2_stored wsX2_at := goodIn_r _ [20] (by decide +kernel) (by decide +kernel)
set_option maxRecDepth 20000 in
theorem gX2_stored_X2_at : GoodIn wsX2_stored (va_wsS RX2 109 yX2_at wsX2_at) := goodIn_app (goodIn_of _ (by decide +kernel)) ggX2_stored_X2_at
set_option maxRecDepth 20000 in
theorem ggX2_held_X2_isTrader : GoodIn wsX2_held wsX2_isTrader := goodIn_r _ [5, 6, 7, 4, 8] (by decide +kernel) (by decide +kernel)
set_option maxRecDepth 20000 in
theorem gX2_held_X2_isTrader : GoodIn wsX2_held (va_wsS RX2 86 yX2_isTrader wsX2_isTrader) := goodIn_app (goodIn_of _ (by decide +kernel)) ggX2_held_X2_isTrader
set_option maxRecDepth 20000 in
theorem ggX2_held_X2_isFine : GoodIn wsX2_held wsX2_isFine := goodIn_r _ [12, 13, 14, 15, 16, 17, 18, 19, 20, 21, 22, 23, 24, 25, 26, 27, 28, 29, 30, 31, 32, 33, 34] (by decide +kernel) (by decide +kernel)
set_option maxRecDepth 20000 in
theorem gX2_held_X2_isFine : GoodIn wsX2_held (wsV RX2 77 RX2 yX2_isFine wsX2_isFine) := goodIn_app (goodIn_of _ (by decide +kernel)) ggX2_held_X2_isFine
set_option maxRecDepth 20000 in
theorem ggX2_paid_X2_isTrader : GoodIn wsX2_paid wsX2_isTrader := goodIn_r _ [5, 6, 7, 4, 8] (by decide +kernel) (by decide +kernel)
set_option maxRecDepth 20000 in
theorem gX2_paid_X2_isTrader : GoodIn wsX2_paid (va_wsS RX2 86 yX2_isTrader wsX2_isTrader) := goodIn_app (goodIn_of _ (by decide +kernel)) ggX2_paid_X2_isTrader
set_option maxRecDepth 20000 in
theorem ggX2_paid_X2_isFine : GoodIn wsX2_paid wsX2_isFine := goodIn_r _ [12, 13, 14, 15, 16, 17, 18, 19, 20, 21, 22, 23, 24, 25, 26, 27, 28, 29, 30, 31, 32, 33, 34] (by decide +kernel) (by decide +kernel)
set_option maxRecDepth 20000 in
theorem gX2_paid_X2_isFine : GoodIn wsX2_paid (wsV RX2 77 RX2 yX2_isFine wsX2_isFine) := goodIn_app (goodIn_of _ (by decide +kernel)) ggX2_paid_X2_isFine
set_option maxRecDepth 20000 in
theorem ggL_setSort_X1_setSort : GoodIn wsL_setSort wsX1_setSort := goodIn_ca (goodIn_r _ [6, 7, 8, 9, 10, 5, 11, 12, 13, 14, 15, 16, 17, 18, 19, 20, 21, 22, 23, 24, 25, 26] (by decide +kernel) (by decide +kernel)) (goodIn_sub (fun _ h => List.mem_cons_of_mem _ (List.mem_append_right _ h)) (by decide +kernel))
set_option maxRecDepth 20000 in
theorem gL_setSort_X1_setSort : GoodIn wsL_setSort (wsV RL 7 RX1 yX1_setSort wsX1_setSort) := goodIn_app (goodIn_of _ (by decide +kernel)) ggL_setSort_X1_setSort
set_option maxRecDepth 20000 in
theorem ggL_setRisk_X1_setRisk : GoodIn wsL_setRisk wsX1_setRisk := goodIn_ca (goodIn_r _ [6, 7, 8, 9, 10, 5, 11, 12, 13, 14, 15, 16, 17, 18, 19, 20, 21, 22, 23, 24, 25, 26, 27, 28, 29, 30, 31, 32, 33, 34, 35, 36, 37, 38, 39, 40, 41, 42, 43, 44, 45, 46, 47, 48, 49, 50, 51, 52, 53, 54, 55, 56, 57, 58, 59, 60] (by decide +kernel) (by decide +kernel)) (goodIn_sub (fun _ h => List.mem_cons_of_mem _ (List.mem_append_right _ h)) (by decide +kernel))
set_option maxRecDepth 20000 in
theorem gL_setRisk_X1_setRisk : GoodIn wsL_setRisk (wsV RL 15 RX1 yX1_setRisk wsX1_setRisk) := goodIn_app (goodIn_of _ (by decide +kernel)) ggL_setRisk_X1_setRisk
set_option maxRecDepth 20000 in
theorem ggL_setGuarantee_X1_setGuarantee : GoodIn wsL_setGuarantee wsX1_setGuarantee := goodIn_ca (goodIn_ca (goodIn_r _ [7, 8, 9, 10, 11, 12, 13, 14, 6, 15, 16, 17, 18, 19, 20, 21, 22, 23, 24, 25, 26, 27, 28, 29, 30] (by decide +kernel) (by decide +kernel)) (goodIn_sub (fun _ h => List.mem_cons_of_mem _ (List.mem_append_left _ (List.mem_append_right _ h))) (by decide +kernel))) (goodIn_sub (fun _ h => List.mem_cons_of_mem _ (List.mem_append_right _ h)) (by decide +kernel))
set_option maxRecDepth 20000 in
theorem gL_setGuarantee_X1_setGuarantee : GoodIn wsL_setGuarantee (wsV RL 19 RX1 yX1_setGuarantee wsX1_setGuarantee) := goodIn_app (goodIn_of _ (by decide +kernel)) ggL_setGuarantee_X1_setGuarantee
set_option maxRecDepth 20000 in
theorem ggL_announce_X1_announce : GoodIn wsL_announce wsX1_announce := goodIn_ca (goodIn_ca (goodIn_r _ [7, 8, 9, 10, 11, 12, 13, 14, 15, 16, 6, 17, 18, 19, 20, 21, 22, 23, 24, 25, 26, 27, 28, 29, 30, 31, 32, 33, 34, 35, 36, 37, 38, 39, 40, 41, 42, 43, 44, 45, 46, 47, 48, 49, 50, 51, 52, 53, 54, 55, 56, 57, 58, 59, 60, 61, 62, 63, 64, 65, 66] (by decide +kernel) (by decide +kernel)) (goodIn_sub (fun _ h => List.mem_cons_of_mem _ (List.mem_append_left _ (List.mem_append_right _ h))) (by decide +kernel))) (goodIn_sub (fun _ h => List.mem_cons_of_mem _ (List.mem_append_right _ h)) (by decide +kernel))
set_option maxRecDepth 20000 in
theorem gL_announce_X1_announce : GoodIn wsL_announce (wsV RL 24 RX1 yX1_announce wsX1_announce) := goodIn_app (goodIn_of _ (by decide +kernel)) ggL_announce_X1_announce
set_option maxRecDepth 20000 in
theorem ggL_amend_X1_amend : GoodIn wsL_amend wsX1_amend := goodIn_ca (goodIn_ca (goodIn_ca (goodIn_r _ [8, 9, 10, 11, 12, 13, 14, 15, 16, 7, 17, 18, 19, 20, 21, 22, 23, 24, 25, 26, 27, 28, 29, 30, 31, 32, 33, 34, 35, 36, 37, 38, 39, 40, 41, 42, 43, 44, 45, 46, 47, 48, 49, 50] (by decide +kernel) (by decide +kernel)) (goodIn_sub (fun _ h => List.mem_cons_of_mem _ (List.mem_append_left _ (List.mem_append_left _ (List.mem_append_right _ h)))) (by decide +kernel))) (goodIn_sub (fun _ h => List.mem_cons_of_mem _ (List.mem_append_left _ (List.mem_append_right _ h))) (by decide +kernel))) (goodIn_sub (fun _ h => List.mem_cons_of_mem _ (List.mem_append_right _ h)) (by decide +kernel))
set_option maxRecDepth 20000 in
theorem gL_amend_X1_amend : GoodIn wsL_amend (wsV RL 27 RX1 yX1_amend wsX1_amend) := goodIn_app (goodIn_of _ (by decide +kernel)) ggL_amend_X1_amend
set_option maxRecDepth 20000 in
theorem ggL_arrive_X1_arrive : GoodIn wsL_arrive wsX1_arrive := goodIn_ca (goodIn_ca (goodIn_ca (goodIn_r _ [8, 9, 10, 11, 12, 13, 14, 15, 16, 17, 18, 19, 7, 20, 21, 22, 23, 24, 25, 26, 27, 28, 29, 30, 31, 32, 33, 34, 35, 36, 37, 38, 39, 40, 41, 42, 43, 44, 45, 46, 47, 48, 49, 50, 51, 52, 53, 54, 55, 56, 57, 58, 59, 60, 61, 62, 63, 64, 65, 66, 67, 68, 69, 70, 71, 72, 73, 74, 75, 76] (by decide +kernel) (by decide +kernel)) (goodIn_sub (fun _ h => List.mem_cons_of_mem _ (List.mem_append_left _ (List.mem_append_left _ (List.mem_append_right _ h)))) (by decide +kernel))) (goodIn_sub (fun _ h => List.mem_cons_of_mem _ (List.mem_append_left _ (List.mem_append_right _ h))) (by decide +kernel))) (goodIn_sub (fun _ h => List.mem_cons_of_mem _ (List.mem_append_right _ h)) (by decide +kernel))
set_option maxRecDepth 20000 in
theorem gL_arrive_X1_arrive : GoodIn wsL_arrive (wsV RL 33 RX1 yX1_arrive wsX1_arrive) := goodIn_app (goodIn_of _ (by decide +kernel)) ggL_arrive_X1_arrive
set_option maxRecDepth 20000 in
theorem ggL_risk_X1_risk : GoodIn wsL_risk wsX1_risk := goodIn_ca (goodIn_ca (goodIn_r _ [7, 8, 9, 10, 11, 12, 13, 6, 14, 15, 16, 17, 18, 19, 20, 21, 22, 23, 24, 25, 26, 27, 28, 29, 30, 31, 32, 33, 34, 35, 36, 37, 38, 39, 40, 41, 42, 43, 44, 45, 46, 47] (by decide +kernel) (by decide +kernel)) (goodIn_sub (fun _ h => List.mem_cons_of_mem _ (List.mem_append_left _ (List.mem_append_right _ h))) (by decide +kernel))) (goodIn_sub (fun _ h => List.mem_cons_of_mem _ (List.mem_append_right _ h)) (by decide +kernel))
set_option maxRecDepth 20000 in
theorem gL_risk_X1_risk : GoodIn wsL_risk (wsV RL 37 RX1 yX1_risk wsX1_risk) := goodIn_app (goodIn_of _ (by decide +kernel)) ggL_risk_X1_risk
set_option maxRecDepth 20000 in
theorem ggL_mustSearch_X1_mustSearch : GoodIn wsL_mustSearch wsX1_mustSearch := goodIn_ca (goodIn_r _ [6, 7, 8, 9, 5, 10, 11, 12, 13, 14, 15, 16, 17, 18, 19, 20, 21, 22, 23, 24, 25, 26, 27, 28, 29, 30, 31, 32, 33, 34, 35, 36, 37, 38, 39, 40, 41, 42, 43, 44, 45, 46, 47, 48, 49, 50, 51, 52, 53, 54, 55, 56] (by decide +kernel) (by decide +kernel)) (goodIn_sub (fun _ h => List.mem_cons_of_mem _ (List.mem_append_right _ h)) (by decide +kernel))
set_option maxRecDepth 20000 in
theorem gL_mustSearch_X1_mustSearch : GoodIn wsL_mustSearch (wsV RL 41 RX1 yX1_mustSearch wsX1_mustSearch) := goodIn_app (goodIn_of _ (by decide +kernel)) ggL_mustSearch_X1_mustSearch
set_option maxRecDepth 20000 in
theorem ggL_search_X1_search : GoodIn wsL_search wsX1_search := goodIn_ca (goodIn_ca (goodIn_ca (goodIn_r _ [8, 9, 10, 11, 12, 13, 14, 15, 7, 16, 17, 18, 19, 20, 21, 22, 23, 24, 25, 26, 27, 28, 29, 30, 31, 32, 33, 34, 35, 36, 37, 38, 39, 40, 41, 42, 43, 44, 45, 46, 47, 48, 49, 50, 51, 52, 53, 54, 55, 56, 57] (by decide +kernel) (by decide +kernel)) (goodIn_sub (fun _ h => List.mem_cons_of_mem _ (List.mem_append_left _ (List.mem_append_left _ (List.mem_append_right _ h)))) (by decide +kernel))) (goodIn_sub (fun _ h => List.mem_cons_of_mem _ (List.mem_append_left _ (List.mem_append_right _ h))) (by decide +kernel))) (goodIn_sub (fun _ h => List.mem_cons_of_mem _ (List.mem_append_right _ h)) (by decide +kernel))
set_option maxRecDepth 20000 in
theorem gL_search_X1_search : GoodIn wsL_search (wsV RL 45 RX1 yX1_search wsX1_search) := goodIn_app (goodIn_of _ (by decide +kernel)) ggL_search_X1_search
set_option maxRecDepth 20000 in
theorem ggL_bond_X1_bond : GoodIn wsL_bond wsX1_bond := goodIn_ca (goodIn_ca (goodIn_ca (goodIn_r _ [8, 9, 10, 11, 12, 13, 14, 15, 16, 17, 18, 7, 19, 20, 21, 22, 23, 24, 25, 26, 27, 28, 29, 30, 31, 32, 33, 34, 35, 36, 37, 38, 39, 40, 41, 42, 43, 44, 45, 46, 47, 48, 49, 50, 51, 52, 53, 54, 55, 56, 57, 58, 59, 60, 61, 62, 63, 64, 65, 66, 67, 68, 69, 70, 71, 72, 73, 74, 75, 76, 77, 78, 79, 80, 81, 82, 83, 84, 85, 86, 87, 88, 89, 90, 91] (by decide +kernel) (by decide +kernel)) (goodIn_sub (fun _ h => List.mem_cons_of_mem _ (List.mem_append_left _ (List.mem_append_left _ (List.mem_append_right _ h)))) (by decide +kernel))) (goodIn_sub (fun _ h => List.mem_cons_of_mem _ (List.mem_append_left _ (List.mem_append_right _ h))) (by decide +kernel))) (goodIn_sub (fun _ h => List.mem_cons_of_mem _ (List.mem_append_right _ h)) (by decide +kernel))
set_option maxRecDepth 20000 in
theorem gL_bond_X1_bond : GoodIn wsL_bond (wsV RL 48 RX1 yX1_bond wsX1_bond) := goodIn_app (goodIn_of _ (by decide +kernel)) ggL_bond_X1_bond
set_option maxRecDepth 20000 in
theorem ggL_move_X1_move : GoodIn wsL_move wsX1_move := goodIn_ca (goodIn_ca (goodIn_ca (goodIn_r _ [8, 9, 10, 11, 12, 13, 14, 7, 15, 16, 17, 18, 19, 20, 21, 22, 23, 24, 25, 26, 27, 28, 29, 30, 31, 32, 33, 34, 35, 36, 37, 38, 39, 40, 41, 42, 43, 44, 45, 46, 47, 48, 49, 50, 51, 52, 53, 54, 55, 56, 57] (by decide +kernel) (by decide +kernel)) (goodIn_sub (fun _ h => List.mem_cons_of_mem _ (List.mem_append_left _ (List.mem_append_left _ (List.mem_append_right _ h)))) (by decide +kernel))) (goodIn_sub (fun _ h => List.mem_cons_of_mem _ (List.mem_append_left _ (List.mem_append_right _ h))) (by decide +kernel))) (goodIn_sub (fun _ h => List.mem_cons_of_mem _ (List.mem_append_right _ h)) (by decide +kernel))
set_option maxRecDepth 20000 in
theorem gL_move_X1_move : GoodIn wsL_move (wsV RL 51 RX1 yX1_move wsX1_move) := goodIn_app (goodIn_of _ (by decide +kernel)) ggL_move_X1_move
set_option maxRecDepth 20000 in
theorem ggL_free_X1_free : GoodIn wsL_free wsX1_free := goodIn_ca (goodIn_ca (goodIn_ca (goodIn_r _ [8, 9, 10, 11, 12, 13, 7, 14, 15, 16, 17, 18, 19, 20, 21, 22, 23, 24, 25, 26, 27, 28, 29, 30, 31, 32, 33, 34, 35, 36, 37, 38, 39, 40, 41, 42, 43, 44, 45, 46, 47, 48, 49, 50, 51, 52, 53, 54, 55, 56, 57, 58, 59, 60, 61, 62, 63, 64, 65, 66, 67] (by decide +kernel) (by decide +kernel)) (goodIn_sub (fun _ h => List.mem_cons_of_mem _ (List.mem_append_left _ (List.mem_append_left _ (List.mem_append_right _ h)))) (by decide +kernel))) (goodIn_sub (fun _ h => List.mem_cons_of_mem _ (List.mem_append_left _ (List.mem_append_right _ h))) (by decide +kernel))) (goodIn_sub (fun _ h => List.mem_cons_of_mem _ (List.mem_append_right _ h)) (by decide +kernel))
set_option maxRecDepth 20000 in
theorem gL_free_X1_free : GoodIn wsL_free (wsV RL 55 RX1 yX1_free wsX1_free) := goodIn_app (goodIn_of _ (by decide +kernel)) ggL_free_X1_free
set_option maxRecDepth 20000 in
theorem ggL_sendBack_X1_sendBack : GoodIn wsL_sendBack wsX1_sendBack := goodIn_ca (goodIn_ca (goodIn_ca (goodIn_r _ [8, 9, 10, 11, 7, 12, 13, 14, 15, 16, 17, 18, 19, 20, 21, 22, 23, 24, 25, 26, 27, 28, 29, 30, 31, 32, 33, 34, 35, 36, 37, 38, 39, 40, 41, 42, 43, 44, 45, 46, 47, 48, 49, 50, 51, 52, 53, 54, 55, 56, 57, 58, 59, 60, 61, 62, 63, 64, 65, 66] (by decide +kernel) (by decide +kernel)) (goodIn_sub (fun _ h => List.mem_cons_of_mem _ (List.mem_append_left _ (List.mem_append_left _ (List.mem_append_right _ h)))) (by decide +kernel))) (goodIn_sub (fun _ h => List.mem_cons_of_mem _ (List.mem_append_left _ (List.mem_append_right _ h))) (by decide +kernel))) (goodIn_sub (fun _ h => List.mem_cons_of_mem _ (List.mem_append_right _ h)) (by decide +kernel))
set_option maxRecDepth 20000 in
theorem gL_sendBack_X1_sendBack : GoodIn wsL_sendBack (wsV RL 59 RX1 yX1_sendBack wsX1_sendBack) := goodIn_app (goodIn_of _ (by decide +kernel)) ggL_sendBack_X1_sendBack
set_option maxRecDepth 20000 in
theorem ggL_state_X1_state : GoodIn wsL_state wsX1_state := goodIn_ca (goodIn_r _ [6, 7, 8, 9, 10, 5, 11, 12, 13, 14, 15, 16, 17, 18, 19, 20, 21, 22, 23, 24, 25, 26, 27, 28, 29, 30, 31, 32, 33, 34, 35, 36] (by decide +kernel) (by decide +kernel)) (goodIn_sub (fun _ h => List.mem_cons_of_mem _ (List.mem_append_right _ h)) (by decide +kernel))
set_option maxRecDepth 20000 in
theorem gL_state_X1_state : GoodIn wsL_state (wsV RL 62 RX1 yX1_state wsX1_state) := goodIn_app (goodIn_of _ (by decide +kernel)) ggL_state_X1_state
set_option maxRecDepth 20000 in
theorem ggL_manifest_X1_manifest : GoodIn wsL_manifest wsX1_manifest := goodIn_ca (goodIn_ca (goodIn_r _ [7, 8, 9, 10, 11, 6, 12, 13, 14, 15, 16, 17, 18, 19, 20, 21, 22, 23, 24, 25, 26, 27, 28, 29, 30, 31, 32, 33, 34, 35, 36, 37, 38, 39, 40, 41, 42, 43, 44, 45] (by decide +kernel) (by decide +kernel)) (goodIn_sub (fun _ h => List.mem_cons_of_mem _ (List.mem_append_left _ (List.mem_append_right _ h))) (by decide +kernel))) (goodIn_sub (fun _ h => List.mem_cons_of_mem _ (List.mem_append_right _ h)) (by decide +kernel))
set_option maxRecDepth 20000 in
theorem gL_manifest_X1_manifest : GoodIn wsL_manifest (wsV RL 65 RX1 yX1_manifest wsX1_manifest) := goodIn_app (goodIn_of _ (by decide +kernel)) ggL_manifest_X1_manifest
set_option maxRecDepth 20000 in
theorem ggL_stored_X1_stored : GoodIn wsL_stored wsX1_stored := goodIn_ca (goodIn_r _ [6, 7, 8, 9, 10, 5, 11, 12, 13, 14, 15, 16, 17, 18, 19, 20, 21, 22, 23, 24, 25, 26, 27, 28, 29, 30, 31, 32, 33, 34, 35, 36, 37, 38, 39, 40, 41, 42, 43, 44] (by decide +kernel) (by decide +kernel)) (goodIn_sub (fun _ h => List.mem_cons_of_mem _ (List.mem_append_right _ h)) (by decide +kernel))
set_option maxRecDepth 20000 in
theorem gL_stored_X1_stored : GoodIn wsL_stored (wsV RL 68 RX1 yX1_stored wsX1_stored) := goodIn_app (goodIn_of _ (by decide +kernel)) ggL_stored_X1_stored
set_option maxRecDepth 20000 in
theorem ggL_held_X1_held : GoodIn wsL_held wsX1_held := goodIn_ca (goodIn_r _ [6, 7, 8, 9, 5, 10, 11, 12, 13, 14, 15, 16, 17, 18, 19, 20, 21, 22, 23, 24, 25] (by decide +kernel) (by decide +kernel)) (goodIn_sub (fun _ h => List.mem_cons_of_mem _ (List.mem_append_right _ h)) (by decide +kernel))
set_option maxRecDepth 20000 in
theorem gL_held_X1_held : GoodIn wsL_held (wsV RL 71 RX1 yX1_held wsX1_held) := goodIn_app (goodIn_of _ (by decide +kernel)) ggL_held_X1_held
set_option maxRecDepth 20000 in
theorem ggL_paid_X1_paid : GoodIn wsL_paid wsX1_paid := goodIn_ca (goodIn_r _ [6, 7, 8, 9, 5, 10, 11, 12, 13, 14, 15, 16, 17, 18, 19, 20, 21, 22, 23, 24, 25] (by decide +kernel) (by decide +kernel)) (goodIn_sub (fun _ h => List.mem_cons_of_mem _ (List.mem_append_right _ h)) (by decide +kernel))
set_option maxRecDepth 20000 in
theorem gL_paid_X1_paid : GoodIn wsL_paid (wsV RL 74 RX1 yX1_paid wsX1_paid) := goodIn_app (goodIn_of _ (by decide +kernel)) ggL_paid_X1_paid
set_option maxRecDepth 20000 in
theorem ggL_law_X1_init : GoodIn wsL_law wsX1_init := goodIn_r _ [9, 10, 11, 12, 13, 14, 15, 16, 17, 18, 19, 20, 21, 22, 23, 24, 406, 407, 408, 409, 410, 411, 412, 413, 414, 415] (by decide +kernel) (by decide +kernel)
set_option maxRecDepth 20000 in
theorem gL_law_X1_init : GoodIn wsL_law (wsX1_init) := ggL_law_X1_init
set_option maxRecDepth 20000 in
theorem ggL_law_X2_init : GoodIn wsL_law wsX2_init := goodIn_r _ [27, 28, 11, 12, 13, 29, 30, 31, 32, 33, 34, 35, 36, 37, 38, 39, 40, 41, 42, 43, 44, 45, 46, 416, 417, 418, 419, 420, 421, 422, 423, 424, 425, 426, 427, 428, 429, 430, 431, 432, 433, 434, 435, 436] (by decide +kernel) (by decide +kernel)
set_option maxRecDepth 20000 in
theorem gL_law_X2_init : GoodIn wsL_law (wsX2_init) := ggL_law_X2_init
set_option maxRecDepth 20000 in
theorem ggL_law_L_setSort : GoodIn wsL_law wsL_setSort := goodIn_ca (goodIn_r _ [50, 51, 52, 53, 54, 2, 55, 14, 15, 56, 57, 58, 59, 60, 61, 62, 63, 406, 407, 408, 409, 410, 411, 412, 413, 414, 415] (by decide +kernel) (by decide +kernel)) (goodIn_sub (fun _ h => List.mem_append_left _ (List.mem_append_left _ (List.mem_append_right _ h))) (by decide +kernel))
set_option maxRecDepth 20000 in
theorem gL_law_L_setSort : GoodIn wsL_law (va_wsS RL 81 yL_setSort wsL_setSort) := goodIn_app (goodIn_of _ (by decide +kernel)) ggL_law_L_setSort
set_option maxRecDepth 20000 in
theorem ggL_law_X2_setSort : GoodIn wsL_law wsX2_setSort := goodIn_r _ [67, 29, 30, 68, 69, 5, 70, 71, 72, 73, 74, 75, 76, 77, 78, 416, 417, 418, 419, 420, 421, 422, 423, 424, 425, 426, 427, 428, 429, 430, 431, 432, 433, 434, 435, 436] (by decide +kernel) (by decide +kernel)
set_option maxRecDepth 20000 in
theorem gL_law_X2_setSort : GoodIn wsL_law (wsV RL 86 RX2 yX2_setSort wsX2_setSort) := goodIn_app (goodIn_of _ (by decide +kernel)) ggL_law_X2_setSort
set_option maxRecDepth 20000 in
theorem ggL_law_X2_thrown : GoodIn wsL_law wsX2_thrown := goodIn_r _ [82, 78, 416, 417, 418, 419, 420, 421, 422, 423, 424, 425, 426, 427, 428, 429, 430, 431, 432, 433, 434, 435, 436] (by decide +kernel) (by decide +kernel)
set_option maxRecDepth 20000 in
theorem gL_law_X2_thrown : GoodIn wsL_law (wsV RL 87 RX2 yX2_thrown wsX2_thrown) := goodIn_app (goodIn_of _ (by decide +kernel)) ggL_law_X2_thrown
set_option maxRecDepth 20000 in
theorem ggL_law_L_setRisk : GoodIn wsL_law wsL_setRisk := goodIn_ca (goodIn_r _ [85, 51, 86, 87, 88, 2, 89, 23, 24, 59, 60, 61, 62, 63, 90, 91, 92, 93, 20, 94, 95, 96, 97, 98, 99, 100, 101, 102, 103, 104, 105, 106, 107, 108, 109, 110, 15, 111, 112, 406, 407, 408, 409, 410, 411, 412, 413, 414, 415, 437, 438, 439, 440, 441, 442, 443, 444, 445, 446, 447, 448] (by decide +kernel) (by decide +kernel)) (goodIn_sub (fun _ h => List.mem_append_left _ (List.mem_append_left _ (List.mem_append_right _ h))) (by decide +kernel))
set_option maxRecDepth 20000 in
theorem gL_law_L_setRisk : GoodIn wsL_law (va_wsS RL 91 yL_setRisk wsL_setRisk) := goodIn_app (goodIn_of _ (by decide +kernel)) ggL_law_L_setRisk
set_option maxRecDepth 20000 in
theorem ggL_law_X2_setRisk : GoodIn wsL_law wsX2_setRisk := goodIn_r _ [116, 31, 117, 118, 71, 72, 5, 73, 74, 75, 76, 77, 78, 119, 120, 121, 122, 37, 40, 42, 123, 124, 125, 126, 38, 43, 44, 30, 416, 417, 418, 419, 420, 421, 422, 423, 424, 425, 426, 427, 428, 429, 430, 431, 432, 433, 434, 435, 436] (by decide +kernel) (by decide +kernel)
set_option maxRecDepth 20000 in
theorem gL_law_X2_setRisk : GoodIn wsL_law (wsV RL 94 RX2 yX2_setRisk wsX2_setRisk) := goodIn_app (goodIn_of _ (by decide +kernel)) ggL_law_X2_setRisk
set_option maxRecDepth 20000 in
theorem ggL_law_L_setGuarantee : GoodIn wsL_law wsL_setGuarantee := goodIn_ca (goodIn_ca (goodIn_r _ [129, 51, 130, 131, 132, 133, 2, 134, 135, 136, 137, 17, 16, 138, 139, 140, 59, 60, 61, 62, 63, 406, 407, 408, 409, 410, 411, 412, 413, 414, 415] (by decide +kernel) (by decide +kernel)) (goodIn_sub (fun _ h => List.mem_append_left _ (List.mem_append_right _ h)) (by decide +kernel))) (goodIn_sub (fun _ h => List.mem_append_left _ (List.mem_append_left _ (List.mem_append_right _ h))) (by decide +kernel))
set_option maxRecDepth 20000 in
theorem gL_law_L_setGuarantee : GoodIn wsL_law (va_wsS RL 95 yL_setGuarantee wsL_setGuarantee) := goodIn_app (goodIn_of _ (by decide +kernel)) ggL_law_L_setGuarantee
set_option maxRecDepth 20000 in
theorem ggL_law_X2_setGuarantee : GoodIn wsL_law wsX2_setGuarantee := goodIn_r _ [144, 145, 33, 32, 146, 147, 5, 148, 71, 72, 73, 74, 75, 76, 77, 78, 416, 417, 418, 419, 420, 421, 422, 423, 424, 425, 426, 427, 428, 429, 430, 431, 432, 433, 434, 435, 436] (by decide +kernel) (by decide +kernel)
set_option maxRecDepth 20000 in
theorem gL_law_X2_setGuarantee : GoodIn wsL_law (wsV RL 97 RX2 yX2_setGuarantee wsX2_setGuarantee) := goodIn_app (goodIn_of _ (by decide +kernel)) ggL_law_X2_setGuarantee
set_option maxRecDepth 20000 in
theorem ggL_law_L_announce : GoodIn wsL_law wsL_announce := goodIn_ca (goodIn_ca (goodIn_r _ [151, 51, 130, 152, 153, 154, 2, 155, 135, 136, 21, 20, 19, 156, 103, 138, 139, 140, 59, 60, 61, 62, 63, 157, 158, 159, 160, 161, 162, 163, 11, 12, 13, 164, 165, 166, 167, 168, 169, 105, 170, 171, 172, 173, 174, 406, 407, 408, 409, 410, 411, 412, 413, 414, 415, 437, 438, 439, 440, 441, 442, 443, 444, 445, 446, 447, 448] (by decide +kernel) (by decide +kernel)) (goodIn_sub (fun _ h => List.mem_append_left _ (List.mem_append_right _ h)) (by decide +kernel))) (goodIn_sub (fun _ h => List.mem_append_left _ (List.mem_append_left _ (List.mem_append_right _ h))) (by decide +kernel))
set_option maxRecDepth 20000 in
theorem gL_law_L_announce : GoodIn wsL_law (va_wsS RL 98 yL_announce wsL_announce) := goodIn_app (goodIn_of _ (by decide +kernel)) ggL_law_L_announce
set_option maxRecDepth 20000 in
theorem ggL_law_X2_announce : GoodIn wsL_law wsX2_announce := goodIn_r _ [178, 118, 35, 36, 146, 147, 5, 148, 71, 72, 73, 74, 75, 76, 77, 78, 416, 417, 418, 419, 420, 421, 422, 423, 424, 425, 426, 427, 428, 429, 430, 431, 432, 433, 434, 435, 436] (by decide +kernel) (by decide +kernel)
set_option maxRecDepth 20000 in
theorem gL_law_X2_announce : GoodIn wsL_law (wsV RL 100 RX2 yX2_announce wsX2_announce) := goodIn_app (goodIn_of _ (by decide +kernel)) ggL_law_X2_announce
set_option maxRecDepth 20000 in
theorem ggL_law_L_amend : GoodIn wsL_law wsL_amend := goodIn_ca (goodIn_ca (goodIn_ca (goodIn_r _ [181, 182, 51, 130, 183, 184, 185, 2, 186, 135, 136, 98, 110, 111, 187, 188, 189, 190, 191, 192, 20, 56, 57, 58, 59, 60, 61, 62, 63, 437, 438, 439, 440, 441, 442, 443, 444, 445, 446, 447, 448, 406, 407, 408, 409, 410, 411, 412, 413, 414, 415] (by decide +kernel) (by decide +kernel)) (goodIn_sub (fun _ h => List.mem_append_left _ (List.mem_append_right _ h)) (by decide +kernel))) (goodIn_sub (fun _ h => List.mem_append_right _ h) (by decide +kernel))) (goodIn_sub (fun _ h => List.mem_append_left _ (List.mem_append_left _ (List.mem_append_right _ h))) (by decide +kernel))
set_option maxRecDepth 20000 in
theorem gL_law_L_amend : GoodIn wsL_law (va_wsS RL 101 yL_amend wsL_amend) := goodIn_app (goodIn_of _ (by decide +kernel)) ggL_law_L_amend
set_option maxRecDepth 20000 in
theorem ggL_law_X2_amend : GoodIn wsL_law wsX2_amend := goodIn_r _ [196, 37, 44, 38, 197, 198, 199, 5, 200, 118, 71, 72, 73, 68, 69, 70, 74, 75, 76, 77, 78, 416, 417, 418, 419, 420, 421, 422, 423, 424, 425, 426, 427, 428, 429, 430, 431, 432, 433, 434, 435, 436] (by decide +kernel) (by decide +kernel)
set_option maxRecDepth 20000 in
theorem gL_law_X2_amend : GoodIn wsL_law (wsV RL 104 RX2 yX2_amend wsX2_amend) := goodIn_app (goodIn_of _ (by decide +kernel)) ggL_law_X2_amend
set_option maxRecDepth 20000 in
theorem ggL_law_L_arrive : GoodIn wsL_law wsL_arrive := goodIn_ca (goodIn_ca (goodIn_ca (goodIn_r _ [203, 182, 51, 130, 204, 205, 206, 2, 207, 135, 136, 98, 22, 208, 112, 24, 99, 187, 188, 189, 190, 191, 192, 20, 157, 158, 159, 59, 60, 61, 62, 63, 209, 210, 211, 103, 212, 164, 94, 95, 96, 97, 23, 100, 101, 102, 104, 105, 106, 107, 108, 109, 110, 15, 111, 437, 438, 439, 440, 441, 442, 443, 444, 445, 446, 447, 448, 406, 407, 408, 409, 410, 411, 412, 413, 414, 415] (by decide +kernel) (by decide +kernel)) (goodIn_sub (fun _ h => List.mem_append_left _ (List.mem_append_right _ h)) (by decide +kernel))) (goodIn_sub (fun _ h => List.mem_append_right _ h) (by decide +kernel))) (goodIn_sub (fun _ h => List.mem_append_left _ (List.mem_append_left _ (List.mem_append_right _ h))) (by decide +kernel))
set_option maxRecDepth 20000 in
theorem gL_law_L_arrive : GoodIn wsL_law (va_wsS RL 105 yL_arrive wsL_arrive) := goodIn_app (goodIn_of _ (by decide +kernel)) ggL_law_L_arrive
set_option maxRecDepth 20000 in
theorem ggL_law_X2_arrive : GoodIn wsL_law wsX2_arrive := goodIn_r _ [216, 37, 217, 42, 117, 43, 36, 197, 198, 199, 5, 200, 118, 71, 72, 73, 218, 219, 220, 221, 44, 74, 75, 76, 77, 78, 119, 120, 121, 122, 40, 31, 123, 124, 125, 126, 38, 30, 416, 417, 418, 419, 420, 421, 422, 423, 424, 425, 426, 427, 428, 429, 430, 431, 432, 433, 434, 435, 436] (by decide +kernel) (by decide +kernel)
set_option maxRecDepth 20000 in
theorem gL_law_X2_arrive : GoodIn wsL_law (wsV RL 107 RX2 yX2_arrive wsX2_arrive) := goodIn_app (goodIn_of _ (by decide +kernel)) ggL_law_X2_arrive
set_option maxRecDepth 20000 in
theorem ggL_law_L_risk : GoodIn wsL_law wsL_risk := goodIn_ca (goodIn_ca (goodIn_r _ [224, 182, 130, 225, 226, 227, 2, 228, 135, 136, 98, 187, 188, 189, 190, 191, 192, 20, 106, 107, 108, 109, 110, 15, 111, 112, 437, 438, 439, 440, 441, 442, 443, 444, 445, 446, 447, 448, 406, 407, 408, 409, 410, 411, 412, 413, 414, 415] (by decide +kernel) (by decide +kernel)) (goodIn_sub (fun _ h => List.mem_append_left _ (List.mem_append_right _ h)) (by decide +kernel))) (goodIn_sub (fun _ h => List.mem_append_right _ h) (by decide +kernel))
set_option maxRecDepth 20000 in
theorem gL_law_L_risk : GoodIn wsL_law (va_wsS RL 108 yL_risk wsL_risk) := goodIn_app (goodIn_of _ (by decide +kernel)) ggL_law_L_risk
set_option maxRecDepth 20000 in
theorem ggL_law_X2_risk : GoodIn wsL_law wsX2_risk := goodIn_r _ [232, 37, 197, 198, 199, 5, 200, 118, 71, 72, 73, 74, 75, 76, 77, 78, 123, 124, 125, 126, 38, 43, 44, 30, 416, 417, 418, 419, 420, 421, 422, 423, 424, 425, 426, 427, 428, 429, 430, 431, 432, 433, 434, 435, 436] (by decide +kernel) (by decide +kernel)
set_option maxRecDepth 20000 in
theorem gL_law_X2_risk : GoodIn wsL_law (wsV RL 111 RX2 yX2_risk wsX2_risk) := goodIn_app (goodIn_of _ (by decide +kernel)) ggL_law_X2_risk
set_option maxRecDepth 20000 in
theorem ggL_law_L_mustSearch : GoodIn wsL_law wsL_mustSearch := goodIn_ca (goodIn_r _ [235, 182, 236, 237, 238, 2, 239, 187, 188, 189, 190, 191, 192, 20, 94, 95, 96, 97, 98, 99, 23, 100, 101, 102, 103, 104, 105, 106, 107, 108, 109, 110, 15, 111, 112, 406, 407, 408, 409, 410, 411, 412, 413, 414, 415, 437, 438, 439, 440, 441, 442, 443, 444, 445, 446, 447, 448] (by decide +kernel) (by decide +kernel)) (goodIn_sub (fun _ h => List.mem_append_right _ h) (by decide +kernel))
set_option maxRecDepth 20000 in
theorem gL_law_L_mustSearch : GoodIn wsL_law (va_wsS RL 112 yL_mustSearch wsL_mustSearch) := goodIn_app (goodIn_of _ (by decide +kernel)) ggL_law_L_mustSearch
set_option maxRecDepth 20000 in
theorem ggL_law_X2_mustSearch : GoodIn wsL_law wsX2_mustSearch := goodIn_r _ [243, 197, 198, 199, 5, 200, 118, 71, 72, 73, 74, 75, 76, 77, 78, 119, 120, 121, 122, 37, 40, 42, 31, 123, 124, 125, 126, 38, 43, 44, 30, 416, 417, 418, 419, 420, 421, 422, 423, 424, 425, 426, 427, 428, 429, 430, 431, 432, 433, 434, 435, 436] (by decide +kernel) (by decide +kernel)
set_option maxRecDepth 20000 in
theorem gL_law_X2_mustSearch : GoodIn wsL_law (wsV RL 114 RX2 yX2_mustSearch wsX2_mustSearch) := goodIn_app (goodIn_of _ (by decide +kernel)) ggL_law_X2_mustSearch
set_option maxRecDepth 20000 in
theorem ggL_law_L_search : GoodIn wsL_law wsL_search := goodIn_ca (goodIn_ca (goodIn_ca (goodIn_r _ [246, 182, 51, 130, 247, 248, 249, 2, 250, 135, 136, 98, 251, 187, 188, 189, 190, 191, 192, 20, 56, 57, 58, 59, 60, 61, 62, 63, 252, 253, 254, 103, 255, 164, 169, 105, 437, 438, 439, 440, 441, 442, 443, 444, 445, 446, 447, 448, 406, 407, 408, 409, 410, 411, 412, 413, 414, 415] (by decide +kernel) (by decide +kernel)) (goodIn_sub (fun _ h => List.mem_append_left _ (List.mem_append_right _ h)) (by decide +kernel))) (goodIn_sub (fun _ h => List.mem_append_right _ h) (by decide +kernel))) (goodIn_sub (fun _ h => List.mem_append_left _ (List.mem_append_left _ (List.mem_append_right _ h))) (by decide +kernel))
set_option maxRecDepth 20000 in
theorem gL_law_L_search : GoodIn wsL_law (va_wsS RL 115 yL_search wsL_search) := goodIn_app (goodIn_of _ (by decide +kernel)) ggL_law_L_search
set_option maxRecDepth 20000 in
theorem ggL_law_X2_search : GoodIn wsL_law wsX2_search := goodIn_r _ [259, 37, 40, 39, 44, 197, 198, 199, 5, 200, 118, 71, 72, 73, 68, 69, 70, 74, 75, 76, 77, 78, 416, 417, 418, 419, 420, 421, 422, 423, 424, 425, 426, 427, 428, 429, 430, 431, 432, 433, 434, 435, 436] (by decide +kernel) (by decide +kernel)
set_option maxRecDepth 20000 in
theorem gL_law_X2_search : GoodIn wsL_law (wsV RL 117 RX2 yX2_search wsX2_search) := goodIn_app (goodIn_of _ (by decide +kernel)) ggL_law_X2_search
set_option maxRecDepth 20000 in
theorem ggL_law_L_bond : GoodIn wsL_law wsL_bond := goodIn_ca (goodIn_ca (goodIn_ca (goodIn_r _ [262, 182, 51, 130, 263, 264, 265, 2, 266, 135, 136, 98, 17, 267, 16, 14, 187, 188, 189, 190, 191, 192, 20, 268, 269, 270, 59, 60, 61, 62, 63, 94, 95, 96, 97, 99, 23, 100, 101, 102, 103, 104, 105, 106, 107, 108, 109, 110, 15, 111, 112, 271, 272, 273, 274, 275, 276, 277, 278, 166, 164, 165, 170, 167, 279, 280, 281, 210, 211, 212, 437, 438, 439, 440, 441, 442, 443, 444, 445, 446, 447, 448, 406, 407, 408, 409, 410, 411, 412, 413, 414, 415] (by decide +kernel) (by decide +kernel)) (goodIn_sub (fun _ h => List.mem_append_left _ (List.mem_append_right _ h)) (by decide +kernel))) (goodIn_sub (fun _ h => List.mem_append_right _ h) (by decide +kernel))) (goodIn_sub (fun _ h => List.mem_append_left _ (List.mem_append_left _ (List.mem_append_right _ h))) (by decide +kernel))
set_option maxRecDepth 20000 in
theorem gL_law_L_bond : GoodIn wsL_law (va_wsS RL 118 yL_bond wsL_bond) := goodIn_app (goodIn_of _ (by decide +kernel)) ggL_law_L_bond
set_option maxRecDepth 20000 in
theorem ggL_law_X2_bond : GoodIn wsL_law wsX2_bond := goodIn_r _ [285, 35, 37, 33, 32, 45, 29, 46, 44, 197, 198, 199, 5, 200, 118, 71, 72, 73, 119, 120, 121, 122, 40, 42, 31, 123, 124, 125, 126, 38, 43, 30, 286, 287, 288, 289, 290, 291, 292, 74, 75, 76, 77, 78, 218, 219, 220, 221, 293, 294, 295, 416, 417, 418, 419, 420, 421, 422, 423, 424, 425, 426, 427, 428, 429, 430, 431, 432, 433, 434, 435, 436] (by decide +kernel) (by decide +kernel)
set_option maxRecDepth 20000 in
theorem gL_law_X2_bond : GoodIn wsL_law (wsV RL 120 RX2 yX2_bond wsX2_bond) := goodIn_app (goodIn_of _ (by decide +kernel)) ggL_law_X2_bond
set_option maxRecDepth 20000 in
theorem ggL_law_L_move : GoodIn wsL_law wsL_move := goodIn_ca (goodIn_ca (goodIn_ca (goodIn_r _ [298, 182, 51, 130, 299, 300, 301, 2, 302, 62, 63, 303, 187, 188, 189, 190, 191, 192, 20, 268, 269, 270, 59, 60, 61, 304, 305, 306, 135, 136, 56, 57, 58, 307, 279, 280, 437, 438, 439, 440, 441, 442, 443, 444, 445, 446, 447, 448, 406, 407, 408, 409, 410, 411, 412, 413, 414, 415] (by decide +kernel) (by decide +kernel)) (goodIn_sub (fun _ h => List.mem_append_left _ (List.mem_append_left _ (List.mem_append_right _ h))) (by decide +kernel))) (goodIn_sub (fun _ h => List.mem_append_right _ h) (by decide +kernel))) (goodIn_sub (fun _ h => List.mem_append_left _ (List.mem_append_right _ h)) (by decide +kernel))
set_option maxRecDepth 20000 in
theorem gL_law_L_move : GoodIn wsL_law (va_wsS RL 121 yL_move wsL_move) := goodIn_app (goodIn_of _ (by decide +kernel)) ggL_law_L_move
set_option maxRecDepth 20000 in
theorem ggL_law_X2_move : GoodIn wsL_law wsX2_move := goodIn_r _ [311, 46, 197, 198, 199, 5, 200, 118, 71, 72, 73, 312, 313, 314, 68, 69, 70, 290, 291, 292, 293, 294, 295, 74, 75, 76, 77, 78, 416, 417, 418, 419, 420, 421, 422, 423, 424, 425, 426, 427, 428, 429, 430, 431, 432, 433, 434, 435, 436] (by decide +kernel) (by decide +kernel)
set_option maxRecDepth 20000 in
theorem gL_law_X2_move : GoodIn wsL_law (wsV RL 124 RX2 yX2_move wsX2_move) := goodIn_app (goodIn_of _ (by decide +kernel)) ggL_law_X2_move
set_option maxRecDepth 20000 in
theorem ggL_law_L_free : GoodIn wsL_law wsL_free := goodIn_ca (goodIn_ca (goodIn_ca (goodIn_r _ [317, 182, 51, 130, 318, 319, 320, 2, 321, 18, 267, 187, 188, 189, 190, 191, 192, 20, 304, 305, 306, 135, 136, 303, 56, 57, 58, 59, 60, 61, 62, 63, 268, 269, 270, 307, 279, 280, 322, 323, 324, 325, 326, 17, 327, 98, 406, 407, 408, 409, 410, 411, 412, 413, 414, 415, 437, 438, 439, 440, 441, 442, 443, 444, 445, 446, 447, 448] (by decide +kernel) (by decide +kernel)) (goodIn_sub (fun _ h => List.mem_append_right _ h) (by decide +kernel))) (goodIn_sub (fun _ h => List.mem_append_left _ (List.mem_append_right _ h)) (by decide +kernel))) (goodIn_sub (fun _ h => List.mem_append_left _ (List.mem_append_left _ (List.mem_append_right _ h))) (by decide +kernel))
set_option maxRecDepth 20000 in
theorem gL_law_L_free : GoodIn wsL_law (va_wsS RL 125 yL_free wsL_free) := goodIn_app (goodIn_of _ (by decide +kernel)) ggL_law_L_free
set_option maxRecDepth 20000 in
theorem ggL_law_X2_free : GoodIn wsL_law wsX2_free := goodIn_r _ [331, 34, 35, 332, 333, 334, 5, 335, 46, 197, 198, 199, 200, 118, 71, 72, 73, 312, 313, 314, 68, 69, 70, 290, 291, 292, 293, 294, 295, 74, 75, 76, 77, 78, 336, 337, 338, 339, 45, 33, 37, 416, 417, 418, 419, 420, 421, 422, 423, 424, 425, 426, 427, 428, 429, 430, 431, 432, 433, 434, 435, 436] (by decide +kernel) (by decide +kernel)
set_option maxRecDepth 20000 in
theorem gL_law_X2_free : GoodIn wsL_law (wsV RL 128 RX2 yX2_free wsX2_free) := goodIn_app (goodIn_of _ (by decide +kernel)) ggL_law_X2_free
set_option maxRecDepth 20000 in
theorem ggL_law_L_sendBack : GoodIn wsL_law wsL_sendBack := goodIn_ca (goodIn_ca (goodIn_ca (goodIn_r _ [342, 182, 51, 130, 343, 344, 345, 2, 346, 187, 188, 189, 190, 191, 192, 20, 304, 305, 306, 135, 136, 303, 56, 57, 58, 59, 60, 61, 62, 63, 268, 269, 270, 307, 279, 280, 322, 323, 324, 325, 326, 17, 267, 327, 98, 406, 407, 408, 409, 410, 411, 412, 413, 414, 415, 437, 438, 439, 440, 441, 442, 443, 444, 445, 446, 447, 448] (by decide +kernel) (by decide +kernel)) (goodIn_sub (fun _ h => List.mem_append_right _ h) (by decide +kernel))) (goodIn_sub (fun _ h => List.mem_append_left _ (List.mem_append_right _ h)) (by decide +kernel))) (goodIn_sub (fun _ h => List.mem_append_left _ (List.mem_append_left _ (List.mem_append_right _ h))) (by decide +kernel))
set_option maxRecDepth 20000 in
theorem gL_law_L_sendBack : GoodIn wsL_law (va_wsS RL 129 yL_sendBack wsL_sendBack) := goodIn_app (goodIn_of _ (by decide +kernel)) ggL_law_L_sendBack
set_option maxRecDepth 20000 in
theorem ggL_law_X2_sendBack : GoodIn wsL_law wsX2_sendBack := goodIn_r _ [350, 332, 333, 334, 5, 335, 46, 197, 198, 199, 200, 118, 71, 72, 73, 312, 313, 314, 68, 69, 70, 290, 291, 292, 293, 294, 295, 74, 75, 76, 77, 78, 336, 337, 338, 339, 45, 33, 35, 37, 416, 417, 418, 419, 420, 421, 422, 423, 424, 425, 426, 427, 428, 429, 430, 431, 432, 433, 434, 435, 436] (by decide +kernel) (by decide +kernel)
set_option maxRecDepth 20000 in
theorem gL_law_X2_sendBack : GoodIn wsL_law (wsV RL 131 RX2 yX2_sendBack wsX2_sendBack) := goodIn_app (goodIn_of _ (by decide +kernel)) ggL_law_X2_sendBack
set_option maxRecDepth 20000 in
theorem ggL_law_L_state : GoodIn wsL_law wsL_state := goodIn_ca (goodIn_r _ [353, 182, 354, 355, 356, 2, 357, 98, 187, 188, 189, 190, 191, 192, 20, 437, 438, 439, 440, 441, 442, 443, 444, 445, 446, 447, 448, 406, 407, 408, 409, 410, 411, 412, 413, 414, 415] (by decide +kernel) (by decide +kernel)) (goodIn_sub (fun _ h => List.mem_append_right _ h) (by decide +kernel))
set_option maxRecDepth 20000 in
theorem gL_law_L_state : GoodIn wsL_law (va_wsS RL 132 yL_state wsL_state) := goodIn_app (goodIn_of _ (by decide +kernel)) ggL_law_L_state
set_option maxRecDepth 20000 in
theorem ggL_law_X2_state : GoodIn wsL_law wsX2_state := goodIn_r _ [361, 37, 197, 198, 199, 5, 200, 118, 71, 72, 73, 74, 75, 76, 77, 78, 416, 417, 418, 419, 420, 421, 422, 423, 424, 425, 426, 427, 428, 429, 430, 431, 432, 433, 434, 435, 436] (by decide +kernel) (by decide +kernel)
set_option maxRecDepth 20000 in
theorem gL_law_X2_state : GoodIn wsL_law (wsV RL 134 RX2 yX2_state wsX2_state) := goodIn_app (goodIn_of _ (by decide +kernel)) ggL_law_X2_state
set_option maxRecDepth 20000 in
theorem ggL_law_L_manifest : GoodIn wsL_law wsL_manifest := goodIn_ca (goodIn_ca (goodIn_r _ [364, 182, 51, 365, 366, 367, 2, 368, 110, 187, 188, 189, 190, 191, 192, 20, 56, 57, 58, 59, 60, 61, 62, 63, 437, 438, 439, 440, 441, 442, 443, 444, 445, 446, 447, 448, 406, 407, 408, 409, 410, 411, 412, 413, 414, 415] (by decide +kernel) (by decide +kernel)) (goodIn_sub (fun _ h => List.mem_append_right _ h) (by decide +kernel))) (goodIn_sub (fun _ h => List.mem_append_left _ (List.mem_append_left _ (List.mem_append_right _ h))) (by decide +kernel))
set_option maxRecDepth 20000 in
theorem gL_law_L_manifest : GoodIn wsL_law (va_wsS RL 135 yL_manifest wsL_manifest) := goodIn_app (goodIn_of _ (by decide +kernel)) ggL_law_L_manifest
set_option maxRecDepth 20000 in
theorem ggL_law_X2_manifest : GoodIn wsL_law wsX2_manifest := goodIn_r _ [372, 44, 197, 198, 199, 5, 200, 118, 71, 72, 73, 68, 69, 70, 74, 75, 76, 77, 78, 416, 417, 418, 419, 420, 421, 422, 423, 424, 425, 426, 427, 428, 429, 430, 431, 432, 433, 434, 435, 436] (by decide +kernel) (by decide +kernel)
set_option maxRecDepth 20000 in
theorem gL_law_X2_manifest : GoodIn wsL_law (wsV RL 137 RX2 yX2_manifest wsX2_manifest) := goodIn_app (goodIn_of _ (by decide +kernel)) ggL_law_X2_manifest
set_option maxRecDepth 20000 in
theorem ggL_law_L_stored : GoodIn wsL_law wsL_stored := goodIn_ca (goodIn_r _ [375, 51, 376, 377, 378, 2, 379, 20, 303, 56, 57, 58, 59, 60, 61, 62, 63, 268, 269, 270, 307, 279, 280, 406, 407, 408, 409, 410, 411, 412, 413, 414, 415, 437, 438, 439, 440, 441, 442, 443, 444, 445, 446, 447, 448] (by decide +kernel) (by decide +kernel)) (goodIn_sub (fun _ h => List.mem_append_left _ (List.mem_append_left _ (List.mem_append_right _ h))) (by decide +kernel))
set_option maxRecDepth 20000 in
theorem gL_law_L_stored : GoodIn wsL_law (va_wsS RL 138 yL_stored wsL_stored) := goodIn_app (goodIn_of _ (by decide +kernel)) ggL_law_L_stored
set_option maxRecDepth 20000 in
theorem ggL_law_X2_stored : GoodIn wsL_law wsX2_stored := goodIn_r _ [383, 118, 46, 68, 69, 5, 70, 71, 72, 73, 290, 291, 292, 74, 75, 76, 77, 78, 293, 294, 295, 416, 417, 418, 419, 420, 421, 422, 423, 424, 425, 426, 427, 428, 429, 430, 431, 432, 433, 434, 435, 436] (by decide +kernel) (by decide +kernel)
set_option maxRecDepth 20000 in
theorem gL_law_X2_stored : GoodIn wsL_law (wsV RL 140 RX2 yX2_stored wsX2_stored) := goodIn_app (goodIn_of _ (by decide +kernel)) ggL_law_X2_stored
set_option maxRecDepth 20000 in
theorem ggL_law_L_held : GoodIn wsL_law wsL_held := goodIn_ca (goodIn_r _ [386, 51, 387, 388, 389, 2, 390, 17, 138, 139, 140, 59, 60, 61, 62, 63, 406, 407, 408, 409, 410, 411, 412, 413, 414, 415] (by decide +kernel) (by decide +kernel)) (goodIn_sub (fun _ h => List.mem_append_left _ (List.mem_append_left _ (List.mem_append_right _ h))) (by decide +kernel))
set_option maxRecDepth 20000 in
theorem gL_law_L_held : GoodIn wsL_law (va_wsS RL 141 yL_held wsL_held) := goodIn_app (goodIn_of _ (by decide +kernel)) ggL_law_L_held
set_option maxRecDepth 20000 in
theorem ggL_law_X2_held : GoodIn wsL_law wsX2_held := goodIn_r _ [394, 33, 146, 147, 5, 148, 71, 72, 73, 74, 75, 76, 77, 78, 416, 417, 418, 419, 420, 421, 422, 423, 424, 425, 426, 427, 428, 429, 430, 431, 432, 433, 434, 435, 436] (by decide +kernel) (by decide +kernel)
set_option maxRecDepth 20000 in
theorem gL_law_X2_held : GoodIn wsL_law (wsV RL 143 RX2 yX2_held wsX2_held) := goodIn_app (goodIn_of _ (by decide +kernel)) ggL_law_X2_held
set_option maxRecDepth 20000 in
theorem ggL_law_L_paid : GoodIn wsL_law wsL_paid := goodIn_ca (goodIn_r _ [397, 51, 398, 399, 400, 2, 401, 18, 138, 139, 140, 59, 60, 61, 62, 63, 406, 407, 408, 409, 410, 411, 412, 413, 414, 415] (by decide +kernel) (by decide +kernel)) (goodIn_sub (fun _ h => List.mem_append_left _ (List.mem_append_left _ (List.mem_append_right _ h))) (by decide +kernel))
set_option maxRecDepth 20000 in
theorem gL_law_L_paid : GoodIn wsL_law (va_wsS RL 144 yL_paid wsL_paid) := goodIn_app (goodIn_of _ (by decide +kernel)) ggL_law_L_paid
set_option maxRecDepth 20000 in
theorem ggL_law_X2_paid : GoodIn wsL_law wsX2_paid := goodIn_r _ [405, 34, 146, 147, 5, 148, 71, 72, 73, 74, 75, 76, 77, 78, 416, 417, 418, 419, 420, 421, 422, 423, 424, 425, 426, 427, 428, 429, 430, 431, 432, 433, 434, 435, 436] (by decide +kernel) (by decide +kernel)
set_option maxRecDepth 20000 in
theorem gL_law_X2_paid : GoodIn wsL_law (wsV RL 146 RX2 yX2_paid wsX2_paid) := goodIn_app (goodIn_of _ (by decide +kernel)) ggL_law_X2_paid
