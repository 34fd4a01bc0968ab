set_option maxRecDepth 20000 in
theorem ggX14_joined_X14_done : GoodIn wsX14_joined wsX14_done := goodIn_r _ [14, 15, 16, 21, 22, 23, 24, 25, 26, 27, 28, 29, 30, 31, 32, 33, 34, 35, 36, 37, 38, 39, 40, 41, 42, 43, 44, 45, 46, 47, 48, 49, 50, 51, 52, 53, 54, 55, 56, 57, 58, 59, 60, 61, 62, 63, 64, 65, 66, 67, 68, 69, 70, 71, 72, 73, 74, 75] (by decide +kernel) (by decide +kernel)
set_option maxRecDepth 20000 in
theorem gX14_joined_X14_done : GoodIn wsX14_joined (wsV RX14 246 RX14 yX14_done wsX14_done) := goodIn_app (goodIn_of _ (by decide +kernel)) ggX14_joined_X14_done
set_option maxRecDepth 20000 in
theorem ggX14_joined_X14_refused : GoodIn wsX14_joined wsX14_refused := goodIn_r _ [20, 15, 16, 21, 22, 23, 24, 25, 26, 27, 28, 29, 30, 31, 32, 33, 34, 35, 36, 37, 38, 39, 40, 41, 42, 43, 44, 45, 46, 47, 48, 49, 50, 51, 52, 53, 54, 55, 56, 57, 58, 59, 60, 61, 62, 63, 64, 65, 66, 67, 68, 69, 70, 71, 72, 73, 74, 75] (by decide +kernel) (by decide +kernel)
set_option maxRecDepth 20000 in
theorem gX14_joined_X14_refused : GoodIn wsX14_joined (wsV RX14 234 RX14 yX14_refused wsX14_refused) := goodIn_app (goodIn_of _ (by decide +kernel)) ggX14_joined_X14_refused
set_option maxRecDepth 20000 in
theorem ggX14_runs_X14_stopped : GoodIn wsX14_runs wsX14_stopped := goodIn_r _ [20, 6, 21, 22, 28, 29, 30, 31, 32, 33, 34, 35, 36, 37, 38, 39, 40, 41, 42, 43, 44, 45, 46, 47, 48, 49, 50, 51, 52, 53, 54, 55, 56, 57, 58, 59, 60, 61, 62, 63, 64, 65, 66, 67, 68, 69, 70, 71, 72, 73, 74, 75, 76, 77, 78, 79, 80, 81, 82] (by decide +kernel) (by decide +kernel)
set_option maxRecDepth 20000 in
theorem gX14_runs_X14_stopped : GoodIn wsX14_runs (wsV RX14 286 RX14 yX14_stopped wsX14_stopped) := goodIn_app (goodIn_of _ (by decide +kernel)) ggX14_runs_X14_stopped
set_option maxRecDepth 20000 in
theorem ggX14_runs_X14_does : GoodIn wsX14_runs wsX14_does := goodIn_r _ [26, 10, 6, 4, 22, 21, 3, 2, 27, 28, 29, 30, 31, 32, 33, 34, 35, 36, 37, 38, 39, 40, 41, 42, 43, 44, 45, 46, 47, 48, 49, 50, 51, 52, 53, 54, 55, 56, 57, 58, 59, 60, 61, 62, 63, 64, 65, 66, 67, 68, 69, 70, 71, 72, 73, 74, 75, 76, 77, 78, 79, 80, 81, 82, 83, 84, 85, 86, 87, 88, 89, 90, 91] (by decide +kernel) (by decide +kernel)
set_option maxRecDepth 20000 in
theorem gX14_runs_X14_does : GoodIn wsX14_runs (wsV RX14 289 RX14 yX14_does wsX14_does) := goodIn_app (goodIn_of _ (by decide +kernel)) ggX14_runs_X14_does
set_option maxRecDepth 20000 in
theorem ggX14_base_X14_work : GoodIn wsX14_base wsX14_work := goodIn_r _ [6] (by decide +kernel) (by decide +kernel)
set_option maxRecDepth 20000 in
theorem gX14_base_X14_work : GoodIn wsX14_base (va_wsS RX14 298 yX14_work wsX14_work) := goodIn_app (goodIn_of _ (by decide +kernel)) ggX14_base_X14_work
set_option maxRecDepth 20000 in
theorem ggX14_costOf_X14_tracesCost : GoodIn wsX14_costOf wsX14_tracesCost := goodIn_r _ [11, 12, 13, 14, 1, 3, 2, 15, 16, 17, 18, 10, 19, 5, 6, 20, 21, 22, 23, 24, 25, 26, 27, 33, 34, 35, 36, 37, 38, 39, 40, 41, 42, 43, 44, 45, 46, 47, 48, 49, 50, 51, 52, 53, 54, 55, 56, 57, 58, 59, 60, 61, 62, 63, 64, 65, 66, 67, 68, 69, 70, 71, 72, 73, 74, 75, 76, 77, 78, 79, 80, 81, 82, 83, 84, 85, 86, 87, 88, 89, 90, 91, 92, 93, 94, 95, 96] (by decide +kernel) (by decide +kernel)
set_option maxRecDepth 20000 in
theorem gX14_costOf_X14_tracesCost : GoodIn wsX14_costOf (wsV RX14 301 RX14 yX14_tracesCost wsX14_tracesCost) := goodIn_app (goodIn_of _ (by decide +kernel)) ggX14_costOf_X14_tracesCost
set_option maxRecDepth 20000 in
theorem ggX14_costOf_X14_pairs : GoodIn wsX14_costOf wsX14_pairs := goodIn_r _ [31, 4, 2, 32, 33, 34, 35, 36, 37, 38, 39, 40, 41, 42, 43, 44, 45, 46, 47, 48, 49, 50, 51, 52, 53, 54, 55, 56, 57, 58, 59, 60, 61, 62, 63, 64, 65, 66, 67, 68, 69, 70, 71, 72, 73, 74, 75, 76, 77, 78, 79, 80, 81, 82, 83, 84, 85, 86, 87, 88, 89, 90, 91, 92, 93, 94, 95, 96] (by decide +kernel) (by decide +kernel)
set_option maxRecDepth 20000 in
theorem gX14_costOf_X14_pairs : GoodIn wsX14_costOf (wsV RX14 259 RX14 yX14_pairs wsX14_pairs) := goodIn_app (goodIn_of _ (by decide +kernel)) ggX14_costOf_X14_pairs
set_option maxRecDepth 20000 in
theorem ggX14_costOf_X14_base : GoodIn wsX14_costOf wsX14_base := goodIn_r _ [19, 5, 6, 20, 21, 10, 22] (by decide +kernel) (by decide +kernel)
set_option maxRecDepth 20000 in
theorem gX14_costOf_X14_base : GoodIn wsX14_costOf (va_wsS RX14 304 yX14_base wsX14_base) := goodIn_app (goodIn_of _ (by decide +kernel)) ggX14_costOf_X14_base
set_option maxRecDepth 20000 in
theorem ggX14_tracesCost_X14_base : GoodIn wsX14_tracesCost wsX14_base := goodIn_r _ [12, 13, 14, 15, 16, 11, 17] (by decide +kernel) (by decide +kernel)
set_option maxRecDepth 20000 in
theorem gX14_tracesCost_X14_base : GoodIn wsX14_tracesCost (va_wsS RX14 304 yX14_base wsX14_base) := goodIn_app (goodIn_of _ (by decide +kernel)) ggX14_tracesCost_X14_base
set_option maxRecDepth 20000 in
theorem ggX14_tracesCost_X14_jumped : GoodIn wsX14_tracesCost wsX14_jumped := goodIn_r _ [21, 5, 6, 4, 22, 23, 24, 25, 26, 27, 28, 29, 30, 31, 32, 33, 34, 35, 36, 37, 38, 39, 40, 41, 42, 43, 44, 45, 46, 47, 48, 49, 50, 51, 52, 53, 54, 55, 56, 57, 58, 59, 60, 61, 62, 63, 64, 65, 66, 67, 68, 69, 70, 71, 72, 73, 74, 75, 76, 77, 78, 79, 80, 81, 82, 83, 84, 85, 86] (by decide +kernel) (by decide +kernel)
set_option maxRecDepth 20000 in
theorem gX14_tracesCost_X14_jumped : GoodIn wsX14_tracesCost (wsV RX14 307 RX14 yX14_jumped wsX14_jumped) := goodIn_app (goodIn_of _ (by decide +kernel)) ggX14_tracesCost_X14_jumped
set_option maxRecDepth 20000 in
theorem ggX14_asked_X14_in : GoodIn wsX14_asked wsX14_in := goodIn_r _ [5] (by decide +kernel) (by decide +kernel)
set_option maxRecDepth 20000 in
theorem gX14_asked_X14_in : GoodIn wsX14_asked (va_wsS RX14 252 yX14_in wsX14_in) := goodIn_app (goodIn_of _ (by decide +kernel)) ggX14_asked_X14_in
set_option maxRecDepth 20000 in
theorem ggX14_run_X14_asked : GoodIn wsX14_run wsX14_asked := goodIn_r _ [34, 35, 36, 37, 33, 38, 96, 97, 98, 99, 100, 101, 102, 103, 104, 105, 106, 107, 108, 109, 110, 111, 112, 113, 114, 115, 116, 117, 118, 119, 120, 121, 122, 123, 124, 125, 126, 127, 128, 129, 130, 131, 132, 133, 134, 135, 136, 137, 138, 139, 140, 141, 142, 143, 144, 145, 146, 147, 148, 149, 150] (by decide +kernel) (by decide +kernel)
set_option maxRecDepth 20000 in
theorem gX14_run_X14_asked : GoodIn wsX14_run (wsV RX14 310 RX14 yX14_asked wsX14_asked) := goodIn_app (goodIn_of _ (by decide +kernel)) ggX14_run_X14_asked
set_option maxRecDepth 20000 in
theorem ggX14_run_X14_refused : GoodIn wsX14_run wsX14_refused := goodIn_r _ [42, 43, 44, 96, 97, 98, 99, 100, 101, 102, 103, 104, 105, 106, 107, 108, 109, 110, 111, 112, 113, 114, 115, 116, 117, 118, 119, 120, 121, 122, 123, 124, 125, 126, 127, 128, 129, 130, 131, 132, 133, 134, 135, 136, 137, 138, 139, 140, 141, 142, 143, 144, 145, 146, 147, 148, 149, 150] (by decide +kernel) (by decide +kernel)
set_option maxRecDepth 20000 in
theorem gX14_run_X14_refused : GoodIn wsX14_run (wsV RX14 234 RX14 yX14_refused wsX14_refused) := goodIn_app (goodIn_of _ (by decide +kernel)) ggX14_run_X14_refused
set_option maxRecDepth 20000 in
theorem ggX14_run_X14_runs : GoodIn wsX14_run wsX14_runs := goodIn_r _ [48, 7, 11, 20, 18, 49, 9, 15, 29, 13, 3, 25, 50, 51, 52, 53, 54, 55, 56, 33, 57, 58, 59, 60, 61, 62, 63, 22, 96, 97, 98, 99, 100, 101, 102, 103, 104, 105, 106, 107, 108, 109, 110, 111, 112, 113, 114, 115, 116, 117, 118, 119, 120, 121, 122, 123, 124, 125, 126, 127, 128, 129, 130, 131, 132, 133, 134, 135, 136, 137, 138, 139, 140, 141, 142, 143, 144, 145, 146, 147, 148, 149, 150, 151, 152, 153, 154, 155, 156, 157, 158, 159] (by decide +kernel) (by decide +kernel)
set_option maxRecDepth 20000 in
theorem gX14_run_X14_runs : GoodIn wsX14_run (wsV RX14 313 RX14 yX14_runs wsX14_runs) := goodIn_app (goodIn_of _ (by decide +kernel)) ggX14_run_X14_runs
set_option maxRecDepth 20000 in
theorem ggX14_run_X14_costOf : GoodIn wsX14_run wsX14_costOf := goodIn_r _ [67, 7, 3, 25, 68, 58, 59, 69, 70, 71, 33, 72, 73, 28, 74, 75, 76, 77, 78, 79, 80, 81, 82, 83, 84, 85, 86, 13, 87, 88, 89, 90, 91, 96, 97, 98, 99, 100, 101, 102, 103, 104, 105, 106, 107, 108, 109, 110, 111, 112, 113, 114, 115, 116, 117, 118, 119, 120, 121, 122, 123, 124, 125, 126, 127, 128, 129, 130, 131, 132, 133, 134, 135, 136, 137, 138, 139, 140, 141, 142, 143, 144, 145, 146, 147, 148, 149, 150, 151, 152, 153, 154, 155, 156, 157, 158, 159] (by decide +kernel) (by decide +kernel)
set_option maxRecDepth 20000 in
theorem gX14_run_X14_costOf : GoodIn wsX14_run (wsV RX14 326 RX14 yX14_costOf wsX14_costOf) := goodIn_app (goodIn_of _ (by decide +kernel)) ggX14_run_X14_costOf
set_option maxRecDepth 20000 in
theorem ggX14_run_X14_done : GoodIn wsX14_run wsX14_done := goodIn_r _ [95, 43, 44, 96, 97, 98, 99, 100, 101, 102, 103, 104, 105, 106, 107, 108, 109, 110, 111, 112, 113, 114, 115, 116, 117, 118, 119, 120, 121, 122, 123, 124, 125, 126, 127, 128, 129, 130, 131, 132, 133, 134, 135, 136, 137, 138, 139, 140, 141, 142, 143, 144, 145, 146, 147, 148, 149, 150] (by decide +kernel) (by decide +kernel)
set_option maxRecDepth 20000 in
theorem gX14_run_X14_done : GoodIn wsX14_run (wsV RX14 246 RX14 yX14_done wsX14_done) := goodIn_app (goodIn_of _ (by decide +kernel)) ggX14_run_X14_done
set_option maxRecDepth 20000 in
theorem ggX14_told_X14_refused : GoodIn wsX14_told wsX14_refused := goodIn_r _ [13, 14, 15, 20, 21, 22, 23, 24, 25, 26, 27, 28, 29, 30, 31, 32, 33, 34, 35, 36, 37, 38, 39, 40, 41, 42, 43, 44, 45, 46, 47, 48, 49, 50, 51, 52, 53, 54, 55, 56, 57, 58, 59, 60, 61, 62, 63, 64, 65, 66, 67, 68, 69, 70, 71, 72, 73, 74] (by decide +kernel) (by decide +kernel)
set_option maxRecDepth 20000 in
theorem gX14_told_X14_refused : GoodIn wsX14_told (wsV RX14 234 RX14 yX14_refused wsX14_refused) := goodIn_app (goodIn_of _ (by decide +kernel)) ggX14_told_X14_refused
set_option maxRecDepth 20000 in
theorem ggX14_told_X14_done : GoodIn wsX14_told wsX14_done := goodIn_r _ [19, 14, 15, 20, 21, 22, 23, 24, 25, 26, 27, 28, 29, 30, 31, 32, 33, 34, 35, 36, 37, 38, 39, 40, 41, 42, 43, 44, 45, 46, 47, 48, 49, 50, 51, 52, 53, 54, 55, 56, 57, 58, 59, 60, 61, 62, 63, 64, 65, 66, 67, 68, 69, 70, 71, 72, 73, 74] (by decide +kernel) (by decide +kernel)
set_option maxRecDepth 20000 in
theorem gX14_told_X14_done : GoodIn wsX14_told (wsV RX14 246 RX14 yX14_done wsX14_done) := goodIn_app (goodIn_of _ (by decide +kernel)) ggX14_told_X14_done
set_option maxRecDepth 20000 in
theorem ggX14_cell_X14_in : GoodIn wsX14_cell wsX14_in := goodIn_r _ [6] (by decide +kernel) (by decide +kernel)
set_option maxRecDepth 20000 in
theorem gX14_cell_X14_in : GoodIn wsX14_cell (va_wsS RX14 252 yX14_in wsX14_in) := goodIn_app (goodIn_of _ (by decide +kernel)) ggX14_cell_X14_in
set_option maxRecDepth 20000 in
theorem ggX14_did_X14_in : GoodIn wsX14_did wsX14_in := goodIn_r _ [7] (by decide +kernel) (by decide +kernel)
set_option maxRecDepth 20000 in
theorem gX14_did_X14_in : GoodIn wsX14_did (va_wsS RX14 252 yX14_in wsX14_in) := goodIn_app (goodIn_of _ (by decide +kernel)) ggX14_did_X14_in
set_option maxRecDepth 20000 in
theorem ggX14_follows_X14_in : GoodIn wsX14_follows wsX14_in := goodIn_r _ [7] (by decide +kernel) (by decide +kernel)
set_option maxRecDepth 20000 in
theorem gX14_follows_X14_in : GoodIn wsX14_follows (va_wsS RX14 252 yX14_in wsX14_in) := goodIn_app (goodIn_of _ (by decide +kernel)) ggX14_follows_X14_in
set_option maxRecDepth 20000 in
theorem ggX14_most_X14_refused : GoodIn wsX14_most wsX14_refused := goodIn_r _ [8, 9, 10, 15, 16, 17, 18, 19, 20, 21, 22, 23, 24, 25, 26, 27, 28, 29, 30, 31, 32, 33, 34, 35, 36, 37, 38, 39, 40, 41, 42, 43, 44, 45, 46, 47, 48, 49, 50, 51, 52, 53, 54, 55, 56, 57, 58, 59, 60, 61, 62, 63, 64, 65, 66, 67, 68, 69] (by decide +kernel) (by decide +kernel)
set_option maxRecDepth 20000 in
theorem gX14_most_X14_refused : GoodIn wsX14_most (wsV RX14 234 RX14 yX14_refused wsX14_refused) := goodIn_app (goodIn_of _ (by decide +kernel)) ggX14_most_X14_refused
set_option maxRecDepth 20000 in
theorem ggX14_most_X14_done : GoodIn wsX14_most wsX14_done := goodIn_r _ [14, 9, 10, 15, 16, 17, 18, 19, 20, 21, 22, 23, 24, 25, 26, 27, 28, 29, 30, 31, 32, 33, 34, 35, 36, 37, 38, 39, 40, 41, 42, 43, 44, 45, 46, 47, 48, 49, 50, 51, 52, 53, 54, 55, 56, 57, 58, 59, 60, 61, 62, 63, 64, 65, 66, 67, 68, 69] (by decide +kernel) (by decide +kernel)
set_option maxRecDepth 20000 in
theorem gX14_most_X14_done : GoodIn wsX14_most (wsV RX14 246 RX14 yX14_done wsX14_done) := goodIn_app (goodIn_of _ (by decide +kernel)) ggX14_most_X14_done
set_option maxRecDepth 20000 in
theorem ggX14_traces_X14_done : GoodIn wsX14_traces wsX14_done := goodIn_r _ [8, 9, 10, 15, 16, 17, 18, 19, 20, 21, 22, 23, 24, 25, 26, 27, 28, 29, 30, 31, 32, 33, 34, 35, 36, 37, 38, 39, 40, 41, 42, 43, 44, 45, 46, 47, 48, 49, 50, 51, 52, 53, 54, 55, 56, 57, 58, 59, 60, 61, 62, 63, 64, 65, 66, 67, 68, 69] (by decide +kernel) (by decide +kernel)
set_option maxRecDepth 20000 in
theorem gX14_traces_X14_done : GoodIn wsX14_traces (wsV RX14 246 RX14 yX14_done wsX14_done) := goodIn_app (goodIn_of _ (by decide +kernel)) ggX14_traces_X14_done
set_option maxRecDepth 20000 in
theorem ggX14_traces_X14_refused : GoodIn wsX14_traces wsX14_refused := goodIn_r _ [14, 9, 10, 15, 16, 17, 18, 19, 20, 21, 22, 23, 24, 25, 26, 27, 28, 29, 30, 31, 32, 33, 34, 35, 36, 37, 38, 39, 40, 41, 42, 43, 44, 45, 46, 47, 48, 49, 50, 51, 52, 53, 54, 55, 56, 57, 58, 59, 60, 61, 62, 63, 64, 65, 66, 67, 68, 69] (by decide +kernel) (by decide +kernel)
set_option maxRecDepth 20000 in
theorem gX14_traces_X14_refused : GoodIn wsX14_traces (wsV RX14 234 RX14 yX14_refused wsX14_refused) := goodIn_app (goodIn_of _ (by decide +kernel)) ggX14_traces_X14_refused
set_option maxRecDepth 20000 in
theorem ggX14_cost_X14_asked : GoodIn wsX14_cost wsX14_asked := goodIn_r _ [6, 7, 8, 9, 5, 10, 80, 81, 82, 83, 84, 85, 86, 87, 88, 89, 90, 91, 92, 93, 94, 95, 96, 97, 98, 99, 100, 101, 102, 103, 104, 105, 106, 107, 108, 109, 110, 111, 112, 113, 114, 115, 116, 117, 118, 119, 120, 121, 122, 123, 124, 125, 126, 127, 128, 129, 130, 131, 132, 133, 134] (by decide +kernel) (by decide +kernel)
set_option maxRecDepth 20000 in
theorem gX14_cost_X14_asked : GoodIn wsX14_cost (wsV RX14 310 RX14 yX14_asked wsX14_asked) := goodIn_app (goodIn_of _ (by decide +kernel)) ggX14_cost_X14_asked
set_option maxRecDepth 20000 in
theorem ggX14_cost_X14_refused : GoodIn wsX14_cost wsX14_refused := goodIn_r _ [14, 15, 16, 80, 81, 82, 83, 84, 85, 86, 87, 88, 89, 90, 91, 92, 93, 94, 95, 96, 97, 98, 99, 100, 101, 102, 103, 104, 105, 106, 107, 108, 109, 110, 111, 112, 113, 114, 115, 116, 117, 118, 119, 120, 121, 122, 123, 124, 125, 126, 127, 128, 129, 130, 131, 132, 133, 134] (by decide +kernel) (by decide +kernel)
set_option maxRecDepth 20000 in
theorem gX14_cost_X14_refused : GoodIn wsX14_cost (wsV RX14 234 RX14 yX14_refused wsX14_refused) := goodIn_app (goodIn_of _ (by decide +kernel)) ggX14_cost_X14_refused
set_option maxRecDepth 20000 in
theorem ggX14_cost_X14_runs : GoodIn wsX14_cost wsX14_runs := goodIn_r _ [20, 21, 22, 23, 24, 25, 26, 27, 28, 29, 30, 31, 32, 33, 34, 35, 36, 37, 38, 5, 39, 40, 41, 42, 43, 44, 45, 46, 80, 81, 82, 83, 84, 85, 86, 87, 88, 89, 90, 91, 92, 93, 94, 95, 96, 97, 98, 99, 100, 101, 102, 103, 104, 105, 106, 107, 108, 109, 110, 111, 112, 113, 114, 115, 116, 117, 118, 119, 120, 121, 122, 123, 124, 125, 126, 127, 128, 129, 130, 131, 132, 133, 134, 135, 136, 137, 138, 139, 140, 141, 142, 143] (by decide +kernel) (by decide +kernel)
set_option maxRecDepth 20000 in
theorem gX14_cost_X14_runs : GoodIn wsX14_cost (wsV RX14 313 RX14 yX14_runs wsX14_runs) := goodIn_app (goodIn_of _ (by decide +kernel)) ggX14_cost_X14_runs
set_option maxRecDepth 20000 in
theorem ggX14_cost_X14_costOf : GoodIn wsX14_cost wsX14_costOf := goodIn_r _ [50, 21, 30, 31, 51, 40, 41, 52, 53, 54, 5, 55, 56, 57, 58, 59, 60, 61, 62, 63, 64, 65, 66, 67, 68, 69, 70, 29, 71, 72, 73, 74, 75, 80, 81, 82, 83, 84, 85, 86, 87, 88, 89, 90, 91, 92, 93, 94, 95, 96, 97, 98, 99, 100, 101, 102, 103, 104, 105, 106, 107, 108, 109, 110, 111, 112, 113, 114, 115, 116, 117, 118, 119, 120, 121, 122, 123, 124, 125, 126, 127, 128, 129, 130, 131, 132, 133, 134, 135, 136, 137, 138, 139, 140, 141, 142, 143] (by decide +kernel) (by decide +kernel)
set_option maxRecDepth 20000 in
theorem gX14_cost_X14_costOf : GoodIn wsX14_cost (wsV RX14 326 RX14 yX14_costOf wsX14_costOf) := goodIn_app (goodIn_of _ (by decide +kernel)) ggX14_cost_X14_costOf
set_option maxRecDepth 20000 in
theorem ggX14_cost_X14_done : GoodIn wsX14_cost wsX14_done := goodIn_r _ [79, 15, 16, 80, 81, 82, 83, 84, 85, 86, 87, 88, 89, 90, 91, 92, 93, 94, 95, 96, 97, 98, 99, 100, 101, 102, 103, 104, 105, 106, 107, 108, 109, 110, 111, 112, 113, 114, 115, 116, 117, 118, 119, 120, 121, 122, 123, 124, 125, 126, 127, 128, 129, 130, 131, 132, 133, 134] (by decide +kernel) (by decide +kernel)
set_option maxRecDepth 20000 in
theorem gX14_cost_X14_done : GoodIn wsX14_cost (wsV RX14 246 RX14 yX14_done wsX14_done) := goodIn_app (goodIn_of _ (by decide +kernel)) ggX14_cost_X14_done
