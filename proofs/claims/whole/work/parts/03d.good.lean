set_option maxRecDepth 20000 in
theorem ggX1_init_X0_init : GoodIn wsX1_init wsX0_init := goodIn_r _ [25, 26, 2, 3, 4, 27, 28, 29, 30, 31, 32, 48, 49, 50, 51, 52] (by decide +kernel) (by decide +kernel)
set_option maxRecDepth 20000 in
theorem gX1_init_X0_init_n21 : GoodIn wsX1_init (wsX0_init) := ggX1_init_X0_init
set_option maxRecDepth 20000 in
theorem ggX1_setUses_X1_needParts : GoodIn wsX1_setUses wsX1_needParts := goodIn_ca (goodIn_r _ [7, 8, 9, 10] (by decide +kernel) (by decide +kernel)) (goodIn_sub (fun _ h => List.mem_cons_of_mem _ (List.mem_append_right _ h)) (by decide +kernel))
set_option maxRecDepth 20000 in
theorem gX1_setUses_X1_needParts : GoodIn wsX1_setUses (va_wsS RX1 68 yX1_needParts wsX1_needParts) := goodIn_app (goodIn_of _ (by decide +kernel)) ggX1_setUses_X1_needParts
set_option maxRecDepth 20000 in
theorem ggX1_addCommit_X1_needParts : GoodIn wsX1_addCommit wsX1_needParts := goodIn_ca (goodIn_r _ [8, 9, 10, 11] (by decide +kernel) (by decide +kernel)) (goodIn_sub (fun _ h => List.mem_cons_of_mem _ (List.mem_append_right _ h)) (by decide +kernel))
set_option maxRecDepth 20000 in
theorem gX1_addCommit_X1_needParts : GoodIn wsX1_addCommit (va_wsS RX1 68 yX1_needParts wsX1_needParts) := goodIn_app (goodIn_of _ (by decide +kernel)) ggX1_addCommit_X1_needParts
set_option maxRecDepth 20000 in
theorem ggX1_addTest_X1_needParts : GoodIn wsX1_addTest wsX1_needParts := goodIn_ca (goodIn_r _ [8, 9, 10, 11] (by decide +kernel) (by decide +kernel)) (goodIn_sub (fun _ h => List.mem_cons_of_mem _ (List.mem_append_right _ h)) (by decide +kernel))
set_option maxRecDepth 20000 in
theorem gX1_addTest_X1_needParts : GoodIn wsX1_addTest (va_wsS RX1 68 yX1_needParts wsX1_needParts) := goodIn_app (goodIn_of _ (by decide +kernel)) ggX1_addTest_X1_needParts
set_option maxRecDepth 20000 in
theorem ggX1_record_X1_needTest : GoodIn wsX1_record wsX1_needTest := goodIn_ca (goodIn_r _ [8, 9, 10, 11, 31, 32, 33, 34, 35, 36, 37, 38, 39, 40, 41, 42, 43, 44, 45] (by decide +kernel) (by decide +kernel)) (goodIn_sub (fun _ h => List.mem_cons_of_mem _ (List.mem_append_right _ h)) (by decide +kernel))
set_option maxRecDepth 20000 in
theorem gX1_record_X1_needTest : GoodIn wsX1_record (wsV RX1 88 RX1 yX1_needTest wsX1_needTest) := goodIn_app (goodIn_of _ (by decide +kernel)) ggX1_record_X1_needTest
set_option maxRecDepth 20000 in
theorem ggX1_record_X1_needCommit : GoodIn wsX1_record wsX1_needCommit := goodIn_ca (goodIn_r _ [15, 9, 10, 16, 31, 32, 33, 34, 35, 36, 37, 38, 39, 40, 41, 42, 43, 44, 45] (by decide +kernel) (by decide +kernel)) (goodIn_sub (fun _ h => List.mem_cons_of_mem _ (List.mem_append_right _ h)) (by decide +kernel))
set_option maxRecDepth 20000 in
theorem gX1_record_X1_needCommit : GoodIn wsX1_record (wsV RX1 91 RX1 yX1_needCommit wsX1_needCommit) := goodIn_app (goodIn_of _ (by decide +kernel)) ggX1_record_X1_needCommit
set_option maxRecDepth 20000 in
theorem ggX1_record_X0_add : GoodIn wsX1_record wsX0_add := goodIn_r _ [21, 22, 23, 24, 25, 26, 46, 47, 48, 49, 50] (by decide +kernel) (by decide +kernel)
set_option maxRecDepth 20000 in
theorem gX1_record_X0_add : GoodIn wsX1_record (wsV RX1 94 RX0 yX0_add wsX0_add) := goodIn_app (goodIn_of _ (by decide +kernel)) ggX1_record_X0_add
set_option maxRecDepth 20000 in
theorem ggX1_record_X0_verdictAt : GoodIn wsX1_record wsX0_verdictAt := goodIn_r _ [30, 25, 26, 46, 47, 48, 49, 50] (by decide +kernel) (by decide +kernel)
set_option maxRecDepth 20000 in
theorem gX1_record_X0_verdictAt : GoodIn wsX1_record (wsV RX1 100 RX0 yX0_verdictAt wsX0_verdictAt) := goodIn_app (goodIn_of _ (by decide +kernel)) ggX1_record_X0_verdictAt
set_option maxRecDepth 20000 in
theorem ggX1_triage_X1_needTest : GoodIn wsX1_triage wsX1_needTest := goodIn_ca (goodIn_r _ [10, 11, 12, 13, 57, 58, 59, 60, 61, 62, 63, 64, 65, 66, 67, 68, 69, 70, 71] (by decide +kernel) (by decide +kernel)) (goodIn_sub (fun _ h => List.mem_cons_of_mem _ (List.mem_append_right _ h)) (by decide +kernel))
set_option maxRecDepth 20000 in
theorem gX1_triage_X1_needTest : GoodIn wsX1_triage (wsV RX1 88 RX1 yX1_needTest wsX1_needTest) := goodIn_app (goodIn_of _ (by decide +kernel)) ggX1_triage_X1_needTest
set_option maxRecDepth 20000 in
theorem ggX1_triage_X1_needCommit : GoodIn wsX1_triage wsX1_needCommit := goodIn_ca (goodIn_r _ [17, 11, 12, 18, 57, 58, 59, 60, 61, 62, 63, 64, 65, 66, 67, 68, 69, 70, 71] (by decide +kernel) (by decide +kernel)) (goodIn_sub (fun _ h => List.mem_cons_of_mem _ (List.mem_append_right _ h)) (by decide +kernel))
set_option maxRecDepth 20000 in
theorem gX1_triage_X1_needCommit : GoodIn wsX1_triage (wsV RX1 91 RX1 yX1_needCommit wsX1_needCommit) := goodIn_app (goodIn_of _ (by decide +kernel)) ggX1_triage_X1_needCommit
set_option maxRecDepth 20000 in
theorem ggX1_triage_X1_candidatesOf : GoodIn wsX1_triage wsX1_candidatesOf := goodIn_r _ [22, 4, 5, 23, 24, 25, 26, 27, 9, 28, 29, 30, 31, 32, 33, 34, 35, 36, 37, 38, 39, 40, 41, 42, 43, 44, 45, 46, 47, 48, 49, 57, 58, 59, 60, 61, 62, 63, 64, 65, 66, 67, 68, 69, 70, 71, 72, 73, 74, 75, 76] (by decide +kernel) (by decide +kernel)
set_option maxRecDepth 20000 in
theorem gX1_triage_X1_candidatesOf : GoodIn wsX1_triage (wsV RX1 106 RX1 yX1_candidatesOf wsX1_candidatesOf) := goodIn_app (goodIn_of _ (by decide +kernel)) ggX1_triage_X1_candidatesOf
set_option maxRecDepth 20000 in
theorem ggX1_triage_J13_bitCount_95d88 : GoodIn wsX1_triage wsJ13_bitCount_95d88 := goodIn_r _ [53, 54, 55, 56] (by decide +kernel) (by decide +kernel)
set_option maxRecDepth 20000 in
theorem gX1_triage_J13_bitCount_95d88 : GoodIn wsX1_triage (va_wsS RX1 110 yJ13_bitCount_95d88 wsJ13_bitCount_95d88) := goodIn_app (goodIn_of _ (by decide +kernel)) ggX1_triage_J13_bitCount_95d88
set_option maxRecDepth 20000 in
theorem ggX1_close_X1_needTest : GoodIn wsX1_close wsX1_needTest := goodIn_ca (goodIn_r _ [6, 7, 8, 9, 66, 67, 68, 69, 70, 71, 72, 73, 74, 75, 76, 77, 78, 79, 80] (by decide +kernel) (by decide +kernel)) (goodIn_sub (fun _ h => List.mem_cons_of_mem _ (List.mem_append_left _ (List.mem_append_right _ h))) (by decide +kernel))
set_option maxRecDepth 20000 in
theorem gX1_close_X1_needTest : GoodIn wsX1_close (wsV RX1 88 RX1 yX1_needTest wsX1_needTest) := goodIn_app (goodIn_of _ (by decide +kernel)) ggX1_close_X1_needTest
set_option maxRecDepth 20000 in
theorem ggX1_close_X1_needTriage : GoodIn wsX1_close wsX1_needTriage := goodIn_ca (goodIn_r _ [13, 14, 15, 1, 66, 67, 68, 69, 70, 71, 72, 73, 74, 75, 76, 77, 78, 79, 80] (by decide +kernel) (by decide +kernel)) (goodIn_sub (fun _ h => List.mem_cons_of_mem _ (List.mem_append_right _ h)) (by decide +kernel))
set_option maxRecDepth 20000 in
theorem gX1_close_X1_needTriage : GoodIn wsX1_close (wsV RX1 116 RX1 yX1_needTriage wsX1_needTriage) := goodIn_app (goodIn_of _ (by decide +kernel)) ggX1_close_X1_needTriage
set_option maxRecDepth 20000 in
theorem ggX1_close_X1_candidatesOf : GoodIn wsX1_close wsX1_candidatesOf := goodIn_r _ [19, 20, 21, 22, 23, 24, 25, 26, 5, 27, 28, 29, 30, 31, 32, 33, 34, 35, 36, 37, 38, 39, 40, 41, 42, 43, 44, 45, 46, 47, 48, 66, 67, 68, 69, 70, 71, 72, 73, 74, 75, 76, 77, 78, 79, 80, 81, 82, 83, 84, 85] (by decide +kernel) (by decide +kernel)
set_option maxRecDepth 20000 in
theorem gX1_close_X1_candidatesOf : GoodIn wsX1_close (wsV RX1 106 RX1 yX1_candidatesOf wsX1_candidatesOf) := goodIn_app (goodIn_of _ (by decide +kernel)) ggX1_close_X1_candidatesOf
set_option maxRecDepth 20000 in
theorem ggX1_close_J13_bitCount_95d88 : GoodIn wsX1_close wsJ13_bitCount_95d88 := goodIn_r _ [52, 53, 54, 55] (by decide +kernel) (by decide +kernel)
set_option maxRecDepth 20000 in
theorem gX1_close_J13_bitCount_95d88 : GoodIn wsX1_close (va_wsS RX1 110 yJ13_bitCount_95d88 wsJ13_bitCount_95d88) := goodIn_app (goodIn_of _ (by decide +kernel)) ggX1_close_J13_bitCount_95d88
set_option maxRecDepth 20000 in
theorem ggX1_close_X1_likeliestOf : GoodIn wsX1_close wsX1_likeliestOf := goodIn_r _ [59, 20, 21, 22, 24, 25, 26, 5, 27, 28, 29, 30, 31, 32, 33, 34, 35, 36, 37, 38, 39, 40, 41, 42, 43, 44, 45, 46, 47, 48, 66, 67, 68, 69, 70, 71, 72, 73, 74, 75, 76, 77, 78, 79, 80, 81, 82, 83, 84, 85] (by decide +kernel) (by decide +kernel)
set_option maxRecDepth 20000 in
theorem gX1_close_X1_likeliestOf : GoodIn wsX1_close (wsV RX1 119 RX1 yX1_likeliestOf wsX1_likeliestOf) := goodIn_app (goodIn_of _ (by decide +kernel)) ggX1_close_X1_likeliestOf
set_option maxRecDepth 20000 in
theorem ggX1_close_X1_leaveQueue : GoodIn wsX1_close wsX1_leaveQueue := goodIn_r _ [63, 64, 9, 65, 66, 67, 68, 69, 70, 71, 72, 73, 74, 75, 76, 77, 78, 79, 80] (by decide +kernel) (by decide +kernel)
set_option maxRecDepth 20000 in
theorem gX1_close_X1_leaveQueue : GoodIn wsX1_close (wsV RX1 123 RX1 yX1_leaveQueue wsX1_leaveQueue) := goodIn_app (goodIn_of _ (by decide +kernel)) ggX1_close_X1_leaveQueue
set_option maxRecDepth 20000 in
theorem ggX1_enqueue_X1_needTest : GoodIn wsX1_enqueue wsX1_needTest := goodIn_ca (goodIn_r _ [9, 10, 11, 12, 22, 23, 24, 25, 26, 27, 28, 29, 30, 31, 32, 33, 34, 35, 36] (by decide +kernel) (by decide +kernel)) (goodIn_sub (fun _ h => List.mem_cons_of_mem _ (List.mem_append_right _ h)) (by decide +kernel))
set_option maxRecDepth 20000 in
theorem gX1_enqueue_X1_needTest : GoodIn wsX1_enqueue (wsV RX1 88 RX1 yX1_needTest wsX1_needTest) := goodIn_app (goodIn_of _ (by decide +kernel)) ggX1_enqueue_X1_needTest
set_option maxRecDepth 20000 in
theorem ggX1_enqueue_X1_needTriage : GoodIn wsX1_enqueue wsX1_needTriage := goodIn_ca (goodIn_r _ [16, 1, 2, 17, 22, 23, 24, 25, 26, 27, 28, 29, 30, 31, 32, 33, 34, 35, 36] (by decide +kernel) (by decide +kernel)) (goodIn_sub (fun _ h => List.mem_cons_of_mem _ (List.mem_append_left _ (List.mem_append_right _ h))) (by decide +kernel))
set_option maxRecDepth 20000 in
theorem gX1_enqueue_X1_needTriage : GoodIn wsX1_enqueue (wsV RX1 116 RX1 yX1_needTriage wsX1_needTriage) := goodIn_app (goodIn_of _ (by decide +kernel)) ggX1_enqueue_X1_needTriage
set_option maxRecDepth 20000 in
theorem ggX1_enqueue_X1_joinQueue : GoodIn wsX1_enqueue wsX1_joinQueue := goodIn_r _ [21, 4, 3, 22, 23, 24, 25, 26, 27, 28, 29, 30, 31, 32, 33, 34, 35, 36] (by decide +kernel) (by decide +kernel)
set_option maxRecDepth 20000 in
theorem gX1_enqueue_X1_joinQueue : GoodIn wsX1_enqueue (wsV RX1 128 RX1 yX1_joinQueue wsX1_joinQueue) := goodIn_app (goodIn_of _ (by decide +kernel)) ggX1_enqueue_X1_joinQueue
set_option maxRecDepth 20000 in
theorem ggX1_take_X1_firstInQueue : GoodIn wsX1_take wsX1_firstInQueue := goodIn_r _ [8, 9, 10, 60, 61, 62, 63, 64, 65, 66, 67, 68, 69, 70, 71, 72, 73, 74] (by decide +kernel) (by decide +kernel)
set_option maxRecDepth 20000 in
theorem gX1_take_X1_firstInQueue : GoodIn wsX1_take (wsV RX1 133 RX1 yX1_firstInQueue wsX1_firstInQueue) := goodIn_app (goodIn_of _ (by decide +kernel)) ggX1_take_X1_firstInQueue
set_option maxRecDepth 20000 in
theorem ggX1_take_X1_leaveQueue : GoodIn wsX1_take wsX1_leaveQueue := goodIn_r _ [14, 10, 9, 15, 60, 61, 62, 63, 64, 65, 66, 67, 68, 69, 70, 71, 72, 73, 74] (by decide +kernel) (by decide +kernel)
set_option maxRecDepth 20000 in
theorem gX1_take_X1_leaveQueue : GoodIn wsX1_take (wsV RX1 123 RX1 yX1_leaveQueue wsX1_leaveQueue) := goodIn_app (goodIn_of _ (by decide +kernel)) ggX1_take_X1_leaveQueue
set_option maxRecDepth 20000 in
theorem ggX1_take_X1_candidatesOf : GoodIn wsX1_take wsX1_candidatesOf := goodIn_r _ [19, 20, 21, 22, 23, 24, 25, 26, 7, 27, 28, 29, 30, 31, 32, 33, 34, 35, 36, 37, 38, 39, 40, 41, 42, 43, 44, 45, 46, 47, 48, 60, 61, 62, 63, 64, 65, 66, 67, 68, 69, 70, 71, 72, 73, 74, 75, 76, 77, 78, 79] (by decide +kernel) (by decide +kernel)
set_option maxRecDepth 20000 in
theorem gX1_take_X1_candidatesOf : GoodIn wsX1_take (wsV RX1 106 RX1 yX1_candidatesOf wsX1_candidatesOf) := goodIn_app (goodIn_of _ (by decide +kernel)) ggX1_take_X1_candidatesOf
set_option maxRecDepth 20000 in
theorem ggX1_take_J13_bitCount_95d88 : GoodIn wsX1_take wsJ13_bitCount_95d88 := goodIn_r _ [52, 53, 54, 55] (by decide +kernel) (by decide +kernel)
set_option maxRecDepth 20000 in
theorem gX1_take_J13_bitCount_95d88 : GoodIn wsX1_take (va_wsS RX1 110 yJ13_bitCount_95d88 wsJ13_bitCount_95d88) := goodIn_app (goodIn_of _ (by decide +kernel)) ggX1_take_J13_bitCount_95d88
set_option maxRecDepth 20000 in
theorem ggX1_take_X1_joinQueue : GoodIn wsX1_take wsX1_joinQueue := goodIn_r _ [59, 15, 10, 60, 61, 62, 63, 64, 65, 66, 67, 68, 69, 70, 71, 72, 73, 74] (by decide +kernel) (by decide +kernel)
set_option maxRecDepth 20000 in
theorem gX1_take_X1_joinQueue : GoodIn wsX1_take (wsV RX1 128 RX1 yX1_joinQueue wsX1_joinQueue) := goodIn_app (goodIn_of _ (by decide +kernel)) ggX1_take_X1_joinQueue
set_option maxRecDepth 20000 in
theorem ggX1_partsOf_X1_needTest : GoodIn wsX1_partsOf wsX1_needTest := goodIn_ca (goodIn_r _ [5, 6, 7, 8, 18, 19, 20, 21, 22, 23, 24, 25, 26, 27, 28, 29, 30, 31, 32] (by decide +kernel) (by decide +kernel)) (goodIn_sub (fun _ h => List.mem_cons_of_mem _ (List.mem_append_right _ h)) (by decide +kernel))
set_option maxRecDepth 20000 in
theorem gX1_partsOf_X1_needTest : GoodIn wsX1_partsOf (wsV RX1 88 RX1 yX1_needTest wsX1_needTest) := goodIn_app (goodIn_of _ (by decide +kernel)) ggX1_partsOf_X1_needTest
set_option maxRecDepth 20000 in
theorem ggX1_partsOf_X1_allPartsOf : GoodIn wsX1_partsOf wsX1_allPartsOf := goodIn_r _ [12, 13, 14, 15, 16, 4, 17, 18, 19, 20, 21, 22, 23, 24, 25, 26, 27, 28, 29, 30, 31, 32] (by decide +kernel) (by decide +kernel)
set_option maxRecDepth 20000 in
theorem gX1_partsOf_X1_allPartsOf : GoodIn wsX1_partsOf (wsV RX1 141 RX1 yX1_allPartsOf wsX1_allPartsOf) := goodIn_app (goodIn_of _ (by decide +kernel)) ggX1_partsOf_X1_allPartsOf
set_option maxRecDepth 20000 in
theorem ggX1_touches_X1_needCommit : GoodIn wsX1_touches wsX1_needCommit := goodIn_ca (goodIn_r _ [7, 8, 9, 10, 20, 21, 22, 23, 24, 25, 26, 27, 28, 29, 30, 31, 32, 33, 34] (by decide +kernel) (by decide +kernel)) (goodIn_sub (fun _ h => List.mem_cons_of_mem _ (List.mem_append_right _ h)) (by decide +kernel))
set_option maxRecDepth 20000 in
theorem gX1_touches_X1_needCommit : GoodIn wsX1_touches (wsV RX1 91 RX1 yX1_needCommit wsX1_needCommit) := goodIn_app (goodIn_of _ (by decide +kernel)) ggX1_touches_X1_needCommit
set_option maxRecDepth 20000 in
theorem ggX1_touches_X1_allPartsOf : GoodIn wsX1_touches wsX1_allPartsOf := goodIn_r _ [14, 15, 16, 17, 18, 6, 19, 20, 21, 22, 23, 24, 25, 26, 27, 28, 29, 30, 31, 32, 33, 34] (by decide +kernel) (by decide +kernel)
set_option maxRecDepth 20000 in
theorem gX1_touches_X1_allPartsOf : GoodIn wsX1_touches (wsV RX1 141 RX1 yX1_allPartsOf wsX1_allPartsOf) := goodIn_app (goodIn_of _ (by decide +kernel)) ggX1_touches_X1_allPartsOf
set_option maxRecDepth 20000 in
theorem ggX1_runs_X1_needTest : GoodIn wsX1_runs wsX1_needTest := goodIn_ca (goodIn_r _ [6, 7, 8, 9, 16, 17, 18, 19, 20, 21, 22, 23, 24, 25, 26, 27, 28, 29, 30] (by decide +kernel) (by decide +kernel)) (goodIn_sub (fun _ h => List.mem_cons_of_mem _ (List.mem_append_right _ h)) (by decide +kernel))
set_option maxRecDepth 20000 in
theorem gX1_runs_X1_needTest : GoodIn wsX1_runs (wsV RX1 88 RX1 yX1_needTest wsX1_needTest) := goodIn_app (goodIn_of _ (by decide +kernel)) ggX1_runs_X1_needTest
set_option maxRecDepth 20000 in
theorem ggX1_runs_X0_countOf : GoodIn wsX1_runs wsX0_countOf := goodIn_r _ [14, 15, 31, 32, 33, 34, 35] (by decide +kernel) (by decide +kernel)
set_option maxRecDepth 20000 in
theorem gX1_runs_X0_countOf : GoodIn wsX1_runs (wsV RX1 144 RX0 yX0_countOf wsX0_countOf) := goodIn_app (goodIn_of _ (by decide +kernel)) ggX1_runs_X0_countOf
set_option maxRecDepth 20000 in
theorem ggX1_verdict_X1_needTest : GoodIn wsX1_verdict wsX1_needTest := goodIn_ca (goodIn_r _ [6, 7, 8, 9, 22, 23, 24, 25, 26, 27, 28, 29, 30, 31, 32, 33, 34, 35, 36] (by decide +kernel) (by decide +kernel)) (goodIn_sub (fun _ h => List.mem_cons_of_mem _ (List.mem_append_right _ h)) (by decide +kernel))
set_option maxRecDepth 20000 in
theorem gX1_verdict_X1_needTest : GoodIn wsX1_verdict (wsV RX1 88 RX1 yX1_needTest wsX1_needTest) := goodIn_app (goodIn_of _ (by decide +kernel)) ggX1_verdict_X1_needTest
set_option maxRecDepth 20000 in
theorem ggX1_verdict_X1_needCommit : GoodIn wsX1_verdict wsX1_needCommit := goodIn_ca (goodIn_r _ [13, 7, 8, 14, 22, 23, 24, 25, 26, 27, 28, 29, 30, 31, 32, 33, 34, 35, 36] (by decide +kernel) (by decide +kernel)) (goodIn_sub (fun _ h => List.mem_cons_of_mem _ (List.mem_append_right _ h)) (by decide +kernel))
set_option maxRecDepth 20000 in
theorem gX1_verdict_X1_needCommit : GoodIn wsX1_verdict (wsV RX1 91 RX1 yX1_needCommit wsX1_needCommit) := goodIn_app (goodIn_of _ (by decide +kernel)) ggX1_verdict_X1_needCommit
set_option maxRecDepth 20000 in
theorem ggX1_verdict_X0_verdictAt : GoodIn wsX1_verdict wsX0_verdictAt := goodIn_r _ [19, 20, 21, 37, 38, 39, 40, 41] (by decide +kernel) (by decide +kernel)
set_option maxRecDepth 20000 in
theorem gX1_verdict_X0_verdictAt : GoodIn wsX1_verdict (wsV RX1 100 RX0 yX0_verdictAt wsX0_verdictAt) := goodIn_app (goodIn_of _ (by decide +kernel)) ggX1_verdict_X0_verdictAt
set_option maxRecDepth 20000 in
theorem ggX1_failing_X1_needTest : GoodIn wsX1_failing wsX1_needTest := goodIn_ca (goodIn_r _ [6, 7, 8, 9, 21, 22, 23, 24, 25, 26, 27, 28, 29, 30, 31, 32, 33, 34, 35] (by decide +kernel) (by decide +kernel)) (goodIn_sub (fun _ h => List.mem_cons_of_mem _ (List.mem_append_right _ h)) (by decide +kernel))
set_option maxRecDepth 20000 in
theorem gX1_failing_X1_needTest : GoodIn wsX1_failing (wsV RX1 88 RX1 yX1_needTest wsX1_needTest) := goodIn_app (goodIn_of _ (by decide +kernel)) ggX1_failing_X1_needTest
set_option maxRecDepth 20000 in
theorem ggX1_failing_X0_countOf : GoodIn wsX1_failing wsX0_countOf := goodIn_r _ [14, 15, 36, 37, 38, 39, 40] (by decide +kernel) (by decide +kernel)
set_option maxRecDepth 20000 in
theorem gX1_failing_X0_countOf : GoodIn wsX1_failing (wsV RX1 144 RX0 yX0_countOf wsX0_countOf) := goodIn_app (goodIn_of _ (by decide +kernel)) ggX1_failing_X0_countOf
set_option maxRecDepth 20000 in
theorem ggX1_failing_X0_failuresOf : GoodIn wsX1_failing wsX0_failuresOf := goodIn_r _ [19, 20, 36, 37, 38, 39, 40] (by decide +kernel) (by decide +kernel)
set_option maxRecDepth 20000 in
theorem gX1_failing_X0_failuresOf : GoodIn wsX1_failing (wsV RX1 147 RX0 yX0_failuresOf wsX0_failuresOf) := goodIn_app (goodIn_of _ (by decide +kernel)) ggX1_failing_X0_failuresOf
set_option maxRecDepth 20000 in
theorem ggX1_isQuarantined_X1_needTest : GoodIn wsX1_isQuarantined wsX1_needTest := goodIn_ca (goodIn_r _ [5, 6, 7, 8, 28, 29, 30, 31, 32, 33, 34, 35, 36, 37, 38, 39, 40, 41, 42] (by decide +kernel) (by decide +kernel)) (goodIn_sub (fun _ h => List.mem_cons_of_mem _ (List.mem_append_right _ h)) (by decide +kernel))
set_option maxRecDepth 20000 in
theorem gX1_isQuarantined_X1_needTest : GoodIn wsX1_isQuarantined (wsV RX1 88 RX1 yX1_needTest wsX1_needTest) := goodIn_app (goodIn_of _ (by decide +kernel)) ggX1_isQuarantined_X1_needTest
set_option maxRecDepth 20000 in
theorem ggX1_isQuarantined_X1_isUnsteady : GoodIn wsX1_isQuarantined wsX1_isUnsteady := goodIn_r _ [12, 13, 14, 15, 16, 17, 18, 19, 20, 21, 22, 23, 24, 25, 26, 27, 28, 29, 30, 31, 32, 33, 34, 35, 36, 37, 38, 39, 40, 41, 42, 43, 44, 45, 46, 47] (by decide +kernel) (by decide +kernel)
set_option maxRecDepth 20000 in
theorem gX1_isQuarantined_X1_isUnsteady : GoodIn wsX1_isQuarantined (wsV RX1 150 RX1 yX1_isUnsteady wsX1_isUnsteady) := goodIn_app (goodIn_of _ (by decide +kernel)) ggX1_isQuarantined_X1_isUnsteady
set_option maxRecDepth 20000 in
theorem ggX1_broken_X1_needCommit : GoodIn wsX1_broken wsX1_needCommit := goodIn_ca (goodIn_r _ [7, 8, 9, 10, 28, 29, 30, 31, 32, 33, 34, 35, 36, 37, 38, 39, 40, 41, 42] (by decide +kernel) (by decide +kernel)) (goodIn_sub (fun _ h => List.mem_cons_of_mem _ (List.mem_append_right _ h)) (by decide +kernel))
set_option maxRecDepth 20000 in
theorem gX1_broken_X1_needCommit : GoodIn wsX1_broken (wsV RX1 91 RX1 yX1_needCommit wsX1_needCommit) := goodIn_app (goodIn_of _ (by decide +kernel)) ggX1_broken_X1_needCommit
set_option maxRecDepth 20000 in
theorem ggX1_broken_X0_verdictAt : GoodIn wsX1_broken wsX0_verdictAt := goodIn_r _ [15, 16, 17, 43, 44, 45, 46, 47] (by decide +kernel) (by decide +kernel)
set_option maxRecDepth 20000 in
theorem gX1_broken_X0_verdictAt : GoodIn wsX1_broken (wsV RX1 100 RX0 yX0_verdictAt wsX0_verdictAt) := goodIn_app (goodIn_of _ (by decide +kernel)) ggX1_broken_X0_verdictAt
set_option maxRecDepth 20000 in
theorem ggX1_broken_X1_isUnsteady : GoodIn wsX1_broken wsX1_isUnsteady := goodIn_r _ [21, 10, 22, 23, 24, 25, 26, 2, 27, 11, 12, 13, 14, 15, 16, 17, 28, 29, 30, 31, 32, 33, 34, 35, 36, 37, 38, 39, 40, 41, 42, 43, 44, 45, 46, 47] (by decide +kernel) (by decide +kernel)
set_option maxRecDepth 20000 in
theorem gX1_broken_X1_isUnsteady : GoodIn wsX1_broken (wsV RX1 150 RX1 yX1_isUnsteady wsX1_isUnsteady) := goodIn_app (goodIn_of _ (by decide +kernel)) ggX1_broken_X1_isUnsteady
set_option maxRecDepth 20000 in
theorem ggX1_suspects_X1_needTest : GoodIn wsX1_suspects wsX1_needTest := goodIn_ca (goodIn_r _ [5, 6, 7, 8, 32, 33, 34, 35, 36, 37, 38, 39, 40, 41, 42, 43, 44, 45, 46] (by decide +kernel) (by decide +kernel)) (goodIn_sub (fun _ h => List.mem_cons_of_mem _ (List.mem_append_left _ (List.mem_append_right _ h))) (by decide +kernel))
set_option maxRecDepth 20000 in
theorem gX1_suspects_X1_needTest : GoodIn wsX1_suspects (wsV RX1 88 RX1 yX1_needTest wsX1_needTest) := goodIn_app (goodIn_of _ (by decide +kernel)) ggX1_suspects_X1_needTest
set_option maxRecDepth 20000 in
theorem ggX1_suspects_X1_needTriage : GoodIn wsX1_suspects wsX1_needTriage := goodIn_ca (goodIn_r _ [12, 13, 14, 15, 32, 33, 34, 35, 36, 37, 38, 39, 40, 41, 42, 43, 44, 45, 46] (by decide +kernel) (by decide +kernel)) (goodIn_sub (fun _ h => List.mem_cons_of_mem _ (List.mem_append_right _ h)) (by decide +kernel))
set_option maxRecDepth 20000 in
theorem gX1_suspects_X1_needTriage : GoodIn wsX1_suspects (wsV RX1 116 RX1 yX1_needTriage wsX1_needTriage) := goodIn_app (goodIn_of _ (by decide +kernel)) ggX1_suspects_X1_needTriage
set_option maxRecDepth 20000 in
theorem ggX1_suspects_X1_suspectsOf : GoodIn wsX1_suspects wsX1_suspectsOf := goodIn_r _ [19, 20, 21, 22, 23, 24, 25, 4, 26, 27, 28, 29, 30, 31, 32, 33, 34, 35, 36, 37, 38, 39, 40, 41, 42, 43, 44, 45, 46] (by decide +kernel) (by decide +kernel)
set_option maxRecDepth 20000 in
theorem gX1_suspects_X1_suspectsOf : GoodIn wsX1_suspects (wsV RX1 154 RX1 yX1_suspectsOf wsX1_suspectsOf) := goodIn_app (goodIn_of _ (by decide +kernel)) ggX1_suspects_X1_suspectsOf
set_option maxRecDepth 20000 in
theorem ggX1_contradictions_X1_needTest : GoodIn wsX1_contradictions wsX1_needTest := goodIn_ca (goodIn_r _ [8, 9, 10, 11, 46, 47, 48, 49, 50, 51, 52, 53, 54, 55, 56, 57, 58, 59, 60] (by decide +kernel) (by decide +kernel)) (goodIn_sub (fun _ h => List.mem_cons_of_mem _ (List.mem_append_left _ (List.mem_append_right _ h))) (by decide +kernel))
set_option maxRecDepth 20000 in
theorem gX1_contradictions_X1_needTest : GoodIn wsX1_contradictions (wsV RX1 88 RX1 yX1_needTest wsX1_needTest) := goodIn_app (goodIn_of _ (by decide +kernel)) ggX1_contradictions_X1_needTest
set_option maxRecDepth 20000 in
theorem ggX1_contradictions_X1_needCommit : GoodIn wsX1_contradictions wsX1_needCommit := goodIn_ca (goodIn_r _ [15, 9, 10, 16, 46, 47, 48, 49, 50, 51, 52, 53, 54, 55, 56, 57, 58, 59, 60] (by decide +kernel) (by decide +kernel)) (goodIn_sub (fun _ h => List.mem_cons_of_mem _ (List.mem_append_left _ (List.mem_append_right _ h))) (by decide +kernel))
set_option maxRecDepth 20000 in
theorem gX1_contradictions_X1_needCommit : GoodIn wsX1_contradictions (wsV RX1 91 RX1 yX1_needCommit wsX1_needCommit) := goodIn_app (goodIn_of _ (by decide +kernel)) ggX1_contradictions_X1_needCommit
set_option maxRecDepth 20000 in
theorem ggX1_contradictions_X1_needTriage : GoodIn wsX1_contradictions wsX1_needTriage := goodIn_ca (goodIn_r _ [20, 21, 22, 23, 46, 47, 48, 49, 50, 51, 52, 53, 54, 55, 56, 57, 58, 59, 60] (by decide +kernel) (by decide +kernel)) (goodIn_sub (fun _ h => List.mem_cons_of_mem _ (List.mem_append_right _ h)) (by decide +kernel))
set_option maxRecDepth 20000 in
theorem gX1_contradictions_X1_needTriage : GoodIn wsX1_contradictions (wsV RX1 116 RX1 yX1_needTriage wsX1_needTriage) := goodIn_app (goodIn_of _ (by decide +kernel)) ggX1_contradictions_X1_needTriage
set_option maxRecDepth 20000 in
theorem ggX1_contradictions_X1_suspectsOf : GoodIn wsX1_contradictions wsX1_suspectsOf := goodIn_r _ [27, 2, 3, 28, 29, 30, 31, 7, 32, 33, 34, 35, 36, 37, 46, 47, 48, 49, 50, 51, 52, 53, 54, 55, 56, 57, 58, 59, 60] (by decide +kernel) (by decide +kernel)
set_option maxRecDepth 20000 in
theorem gX1_contradictions_X1_suspectsOf : GoodIn wsX1_contradictions (wsV RX1 154 RX1 yX1_suspectsOf wsX1_suspectsOf) := goodIn_app (goodIn_of _ (by decide +kernel)) ggX1_contradictions_X1_suspectsOf
set_option maxRecDepth 20000 in
theorem ggX1_contradictions_X1_has : GoodIn wsX1_contradictions wsX1_has := goodIn_r _ [37] (by decide +kernel) (by decide +kernel)
set_option maxRecDepth 20000 in
theorem gX1_contradictions_X1_has : GoodIn wsX1_contradictions (va_wsS RX1 157 yX1_has wsX1_has) := goodIn_app (goodIn_of _ (by decide +kernel)) ggX1_contradictions_X1_has
set_option maxRecDepth 20000 in
theorem ggX1_contradictions_X0_contradicting : GoodIn wsX1_contradictions wsX0_contradicting := goodIn_r _ [42, 43, 44, 45, 61, 62, 63, 64, 65] (by decide +kernel) (by decide +kernel)
set_option maxRecDepth 20000 in
theorem gX1_contradictions_X0_contradicting : GoodIn wsX1_contradictions (wsV RX1 161 RX0 yX0_contradicting wsX0_contradicting) := goodIn_app (goodIn_of _ (by decide +kernel)) ggX1_contradictions_X0_contradicting
set_option maxRecDepth 20000 in
theorem ggX1_candidates_X1_needTest : GoodIn wsX1_candidates wsX1_needTest := goodIn_ca (goodIn_r _ [5, 6, 7, 8, 49, 50, 51, 52, 53, 54, 55, 56, 57, 58, 59, 60, 61, 62, 63] (by decide +kernel) (by decide +kernel)) (goodIn_sub (fun _ h => List.mem_cons_of_mem _ (List.mem_append_left _ (List.mem_append_right _ h))) (by decide +kernel))
set_option maxRecDepth 20000 in
theorem gX1_candidates_X1_needTest : GoodIn wsX1_candidates (wsV RX1 88 RX1 yX1_needTest wsX1_needTest) := goodIn_app (goodIn_of _ (by decide +kernel)) ggX1_candidates_X1_needTest
set_option maxRecDepth 20000 in
theorem ggX1_candidates_X1_needTriage : GoodIn wsX1_candidates wsX1_needTriage := goodIn_ca (goodIn_r _ [12, 13, 14, 15, 49, 50, 51, 52, 53, 54, 55, 56, 57, 58, 59, 60, 61, 62, 63] (by decide +kernel) (by decide +kernel)) (goodIn_sub (fun _ h => List.mem_cons_of_mem _ (List.mem_append_right _ h)) (by decide +kernel))
set_option maxRecDepth 20000 in
theorem gX1_candidates_X1_needTriage : GoodIn wsX1_candidates (wsV RX1 116 RX1 yX1_needTriage wsX1_needTriage) := goodIn_app (goodIn_of _ (by decide +kernel)) ggX1_candidates_X1_needTriage
set_option maxRecDepth 20000 in
theorem ggX1_candidates_X1_candidatesOf : GoodIn wsX1_candidates wsX1_candidatesOf := goodIn_r _ [19, 20, 21, 22, 23, 24, 25, 26, 4, 27, 28, 29, 30, 31, 32, 33, 34, 35, 36, 37, 38, 39, 40, 41, 42, 43, 44, 45, 46, 47, 48, 49, 50, 51, 52, 53, 54, 55, 56, 57, 58, 59, 60, 61, 62, 63, 64, 65, 66, 67, 68] (by decide +kernel) (by decide +kernel)
set_option maxRecDepth 20000 in
theorem gX1_candidates_X1_candidatesOf : GoodIn wsX1_candidates (wsV RX1 106 RX1 yX1_candidatesOf wsX1_candidatesOf) := goodIn_app (goodIn_of _ (by decide +kernel)) ggX1_candidates_X1_candidatesOf
set_option maxRecDepth 20000 in
theorem ggX1_likeliest_X1_needTest : GoodIn wsX1_likeliest wsX1_needTest := goodIn_ca (goodIn_r _ [5, 6, 7, 8, 48, 49, 50, 51, 52, 53, 54, 55, 56, 57, 58, 59, 60, 61, 62] (by decide +kernel) (by decide +kernel)) (goodIn_sub (fun _ h => List.mem_cons_of_mem _ (List.mem_append_left _ (List.mem_append_right _ h))) (by decide +kernel))
set_option maxRecDepth 20000 in
theorem gX1_likeliest_X1_needTest : GoodIn wsX1_likeliest (wsV RX1 88 RX1 yX1_needTest wsX1_needTest) := goodIn_app (goodIn_of _ (by decide +kernel)) ggX1_likeliest_X1_needTest
set_option maxRecDepth 20000 in
theorem ggX1_likeliest_X1_needTriage : GoodIn wsX1_likeliest wsX1_needTriage := goodIn_ca (goodIn_r _ [12, 13, 14, 15, 48, 49, 50, 51, 52, 53, 54, 55, 56, 57, 58, 59, 60, 61, 62] (by decide +kernel) (by decide +kernel)) (goodIn_sub (fun _ h => List.mem_cons_of_mem _ (List.mem_append_right _ h)) (by decide +kernel))
set_option maxRecDepth 20000 in
theorem gX1_likeliest_X1_needTriage : GoodIn wsX1_likeliest (wsV RX1 116 RX1 yX1_needTriage wsX1_needTriage) := goodIn_app (goodIn_of _ (by decide +kernel)) ggX1_likeliest_X1_needTriage
set_option maxRecDepth 20000 in
theorem ggX1_likeliest_X1_likeliestOf : GoodIn wsX1_likeliest wsX1_likeliestOf := goodIn_r _ [19, 20, 21, 22, 23, 24, 25, 4, 26, 27, 28, 29, 30, 31, 32, 33, 34, 35, 36, 37, 38, 39, 40, 41, 42, 43, 44, 45, 46, 47, 48, 49, 50, 51, 52, 53, 54, 55, 56, 57, 58, 59, 60, 61, 62, 63, 64, 65, 66, 67] (by decide +kernel) (by decide +kernel)
set_option maxRecDepth 20000 in
theorem gX1_likeliest_X1_likeliestOf : GoodIn wsX1_likeliest (wsV RX1 119 RX1 yX1_likeliestOf wsX1_likeliestOf) := goodIn_app (goodIn_of _ (by decide +kernel)) ggX1_likeliest_X1_likeliestOf
set_option maxRecDepth 20000 in
theorem ggX1_next_X1_needTest : GoodIn wsX1_next wsX1_needTest := goodIn_ca (goodIn_r _ [8, 9, 10, 11, 67, 68, 69, 70, 71, 72, 73, 74, 75, 76, 77, 78, 79, 80, 81] (by decide +kernel) (by decide +kernel)) (goodIn_sub (fun _ h => List.mem_cons_of_mem _ (List.mem_append_left _ (List.mem_append_right _ h))) (by decide +kernel))
set_option maxRecDepth 20000 in
theorem gX1_next_X1_needTest : GoodIn wsX1_next (wsV RX1 88 RX1 yX1_needTest wsX1_needTest) := goodIn_app (goodIn_of _ (by decide +kernel)) ggX1_next_X1_needTest
set_option maxRecDepth 20000 in
theorem ggX1_next_X1_needTriage : GoodIn wsX1_next wsX1_needTriage := goodIn_ca (goodIn_r _ [15, 16, 17, 18, 67, 68, 69, 70, 71, 72, 73, 74, 75, 76, 77, 78, 79, 80, 81] (by decide +kernel) (by decide +kernel)) (goodIn_sub (fun _ h => List.mem_cons_of_mem _ (List.mem_append_right _ h)) (by decide +kernel))
set_option maxRecDepth 20000 in
theorem gX1_next_X1_needTriage : GoodIn wsX1_next (wsV RX1 116 RX1 yX1_needTriage wsX1_needTriage) := goodIn_app (goodIn_of _ (by decide +kernel)) ggX1_next_X1_needTriage
set_option maxRecDepth 20000 in
theorem ggX1_next_X1_candidatesOf : GoodIn wsX1_next wsX1_candidatesOf := goodIn_r _ [22, 1, 2, 3, 23, 24, 25, 26, 7, 27, 28, 29, 30, 31, 32, 33, 34, 35, 36, 37, 38, 39, 40, 41, 42, 43, 44, 45, 46, 47, 48, 67, 68, 69, 70, 71, 72, 73, 74, 75, 76, 77, 78, 79, 80, 81, 82, 83, 84, 85, 86] (by decide +kernel) (by decide +kernel)
set_option maxRecDepth 20000 in
theorem gX1_next_X1_candidatesOf : GoodIn wsX1_next (wsV RX1 106 RX1 yX1_candidatesOf wsX1_candidatesOf) := goodIn_app (goodIn_of _ (by decide +kernel)) ggX1_next_X1_candidatesOf
set_option maxRecDepth 20000 in
theorem ggX1_next_X1_weightAt : GoodIn wsX1_next wsX1_weightAt := goodIn_r _ [51, 52, 53, 54, 55, 56, 57, 58, 59, 60, 61, 62] (by decide +kernel) (by decide +kernel)
set_option maxRecDepth 20000 in
theorem gX1_next_X1_weightAt : GoodIn wsX1_next (va_wsS RX1 165 yX1_weightAt wsX1_weightAt) := goodIn_app (goodIn_of _ (by decide +kernel)) ggX1_next_X1_weightAt
set_option maxRecDepth 20000 in
theorem ggX1_next_X0_countAt : GoodIn wsX1_next wsX0_countAt := goodIn_r _ [66, 43, 48, 82, 83, 84, 85, 86] (by decide +kernel) (by decide +kernel)
set_option maxRecDepth 20000 in
theorem gX1_next_X0_countAt : GoodIn wsX1_next (wsV RX1 169 RX0 yX0_countAt wsX0_countAt) := goodIn_app (goodIn_of _ (by decide +kernel)) ggX1_next_X0_countAt
set_option maxRecDepth 20000 in
theorem ggX1_allPartsOf_X1_has : GoodIn wsX1_allPartsOf wsX1_has := goodIn_r _ [6] (by decide +kernel) (by decide +kernel)
set_option maxRecDepth 20000 in
theorem gX1_allPartsOf_X1_has : GoodIn wsX1_allPartsOf (va_wsS RX1 157 yX1_has wsX1_has) := goodIn_app (goodIn_of _ (by decide +kernel)) ggX1_allPartsOf_X1_has
set_option maxRecDepth 20000 in
theorem ggX1_isUnsteady_X0_verdictAt : GoodIn wsX1_isUnsteady wsX0_verdictAt := goodIn_r _ [13, 14, 15, 31, 32, 33, 34, 35] (by decide +kernel) (by decide +kernel)
set_option maxRecDepth 20000 in
theorem gX1_isUnsteady_X0_verdictAt : GoodIn wsX1_isUnsteady (wsV RX1 100 RX0 yX0_verdictAt wsX0_verdictAt) := goodIn_app (goodIn_of _ (by decide +kernel)) ggX1_isUnsteady_X0_verdictAt
set_option maxRecDepth 20000 in
theorem ggX1_suspectsOf_X1_allPartsOf : GoodIn wsX1_suspectsOf wsX1_allPartsOf := goodIn_r _ [8, 9, 10, 11, 12, 7, 13, 14, 15, 16, 17, 18, 19, 20, 21, 22, 23, 24, 25, 26, 27, 28] (by decide +kernel) (by decide +kernel)
set_option maxRecDepth 20000 in
theorem gX1_suspectsOf_X1_allPartsOf : GoodIn wsX1_suspectsOf (wsV RX1 141 RX1 yX1_allPartsOf wsX1_allPartsOf) := goodIn_app (goodIn_of _ (by decide +kernel)) ggX1_suspectsOf_X1_allPartsOf
set_option maxRecDepth 20000 in
theorem ggX1_candidatesOf_X1_suspectsOf : GoodIn wsX1_candidatesOf wsX1_suspectsOf := goodIn_r _ [9, 1, 2, 10, 11, 12, 13, 8, 14, 15, 16, 17, 18, 19, 31, 32, 33, 34, 35, 36, 37, 38, 39, 40, 41, 42, 43, 44, 45] (by decide +kernel) (by decide +kernel)
set_option maxRecDepth 20000 in
theorem gX1_candidatesOf_X1_suspectsOf : GoodIn wsX1_candidatesOf (wsV RX1 154 RX1 yX1_suspectsOf wsX1_suspectsOf) := goodIn_app (goodIn_of _ (by decide +kernel)) ggX1_candidatesOf_X1_suspectsOf
set_option maxRecDepth 20000 in
theorem ggX1_candidatesOf_X0_passesWithin : GoodIn wsX1_candidatesOf wsX0_passesWithin := goodIn_r _ [24, 25, 46, 47, 48, 49, 50] (by decide +kernel) (by decide +kernel)
set_option maxRecDepth 20000 in
theorem gX1_candidatesOf_X0_passesWithin : GoodIn wsX1_candidatesOf (wsV RX1 186 RX0 yX0_passesWithin wsX0_passesWithin) := goodIn_app (goodIn_of _ (by decide +kernel)) ggX1_candidatesOf_X0_passesWithin
set_option maxRecDepth 20000 in
theorem ggX1_candidatesOf_X0_riseBehind : GoodIn wsX1_candidatesOf wsX0_riseBehind := goodIn_r _ [29, 30, 25, 46, 47, 48, 49, 50] (by decide +kernel) (by decide +kernel)
set_option maxRecDepth 20000 in
theorem gX1_candidatesOf_X0_riseBehind : GoodIn wsX1_candidatesOf (wsV RX1 190 RX0 yX0_riseBehind wsX0_riseBehind) := goodIn_app (goodIn_of _ (by decide +kernel)) ggX1_candidatesOf_X0_riseBehind
set_option maxRecDepth 20000 in
theorem ggX1_candidatesOf_X1_has : GoodIn wsX1_candidatesOf wsX1_has := goodIn_r _ [19] (by decide +kernel) (by decide +kernel)
set_option maxRecDepth 20000 in
theorem gX1_candidatesOf_X1_has : GoodIn wsX1_candidatesOf (va_wsS RX1 157 yX1_has wsX1_has) := goodIn_app (goodIn_of _ (by decide +kernel)) ggX1_candidatesOf_X1_has
set_option maxRecDepth 20000 in
theorem ggX1_likeliestOf_X1_suspectsOf : GoodIn wsX1_likeliestOf wsX1_suspectsOf := goodIn_r _ [8, 1, 2, 9, 10, 11, 12, 7, 13, 14, 15, 16, 17, 18, 30, 31, 32, 33, 34, 35, 36, 37, 38, 39, 40, 41, 42, 43, 44] (by decide +kernel) (by decide +kernel)
set_option maxRecDepth 20000 in
theorem gX1_likeliestOf_X1_suspectsOf : GoodIn wsX1_likeliestOf (wsV RX1 154 RX1 yX1_suspectsOf wsX1_suspectsOf) := goodIn_app (goodIn_of _ (by decide +kernel)) ggX1_likeliestOf_X1_suspectsOf
set_option maxRecDepth 20000 in
theorem ggX1_likeliestOf_X0_passesWithin : GoodIn wsX1_likeliestOf wsX0_passesWithin := goodIn_r _ [23, 24, 45, 46, 47, 48, 49] (by decide +kernel) (by decide +kernel)
set_option maxRecDepth 20000 in
theorem gX1_likeliestOf_X0_passesWithin : GoodIn wsX1_likeliestOf (wsV RX1 186 RX0 yX0_passesWithin wsX0_passesWithin) := goodIn_app (goodIn_of _ (by decide +kernel)) ggX1_likeliestOf_X0_passesWithin
set_option maxRecDepth 20000 in
theorem ggX1_likeliestOf_X0_riseBehind : GoodIn wsX1_likeliestOf wsX0_riseBehind := goodIn_r _ [28, 29, 24, 45, 46, 47, 48, 49] (by decide +kernel) (by decide +kernel)
set_option maxRecDepth 20000 in
theorem gX1_likeliestOf_X0_riseBehind : GoodIn wsX1_likeliestOf (wsV RX1 190 RX0 yX0_riseBehind wsX0_riseBehind) := goodIn_app (goodIn_of _ (by decide +kernel)) ggX1_likeliestOf_X0_riseBehind
set_option maxRecDepth 20000 in
theorem ggX1_likeliestOf_X1_has : GoodIn wsX1_likeliestOf wsX1_has := goodIn_r _ [18] (by decide +kernel) (by decide +kernel)
set_option maxRecDepth 20000 in
theorem gX1_likeliestOf_X1_has : GoodIn wsX1_likeliestOf (va_wsS RX1 157 yX1_has wsX1_has) := goodIn_app (goodIn_of _ (by decide +kernel)) ggX1_likeliestOf_X1_has
set_option maxRecDepth 20000 in
theorem ggX1_weightAt_J13_bitCount_95d88 : GoodIn wsX1_weightAt wsJ13_bitCount_95d88 := goodIn_r _ [8, 9, 10, 11] (by decide +kernel) (by decide +kernel)
set_option maxRecDepth 20000 in
theorem gX1_weightAt_J13_bitCount_95d88 : GoodIn wsX1_weightAt (va_wsS RX1 110 yJ13_bitCount_95d88 wsJ13_bitCount_95d88) := goodIn_app (goodIn_of _ (by decide +kernel)) ggX1_weightAt_J13_bitCount_95d88
set_option maxRecDepth 20000 in
theorem ggX2_areParts_X2_in : GoodIn wsX2_areParts wsX2_in := goodIn_r _ [5] (by decide +kernel) (by decide +kernel)
set_option maxRecDepth 20000 in
theorem gX2_areParts_X2_in : GoodIn wsX2_areParts (va_wsS RX2 45 yX2_in wsX2_in) := goodIn_app (goodIn_of _ (by decide +kernel)) ggX2_areParts_X2_in
set_option maxRecDepth 20000 in
theorem ggX2_isTest_X2_in : GoodIn wsX2_isTest wsX2_in := goodIn_r _ [5] (by decide +kernel) (by decide +kernel)
set_option maxRecDepth 20000 in
theorem gX2_isTest_X2_in : GoodIn wsX2_isTest (va_wsS RX2 45 yX2_in wsX2_in) := goodIn_app (goodIn_of _ (by decide +kernel)) ggX2_isTest_X2_in
set_option maxRecDepth 20000 in
theorem ggX2_isCommit_X2_in : GoodIn wsX2_isCommit wsX2_in := goodIn_r _ [5] (by decide +kernel) (by decide +kernel)
set_option maxRecDepth 20000 in
theorem gX2_isCommit_X2_in : GoodIn wsX2_isCommit (va_wsS RX2 45 yX2_in wsX2_in) := goodIn_app (goodIn_of _ (by decide +kernel)) ggX2_isCommit_X2_in
set_option maxRecDepth 20000 in
theorem ggX2_isInTriage_X2_isTest : GoodIn wsX2_isInTriage wsX2_isTest := goodIn_r _ [6, 7, 8, 9, 5, 10, 11, 12, 13, 14, 15, 16, 17, 18, 19, 20, 21, 22, 23, 24, 25, 26] (by decide +kernel) (by decide +kernel)
set_option maxRecDepth 20000 in
theorem gX2_isInTriage_X2_isTest : GoodIn wsX2_isInTriage (wsV RX2 55 RX2 yX2_isTest wsX2_isTest) := goodIn_app (goodIn_of _ (by decide +kernel)) ggX2_isInTriage_X2_isTest
set_option maxRecDepth 20000 in
theorem ggX2_setUses_X2_in : GoodIn wsX2_setUses wsX2_in := goodIn_r _ [5] (by decide +kernel) (by decide +kernel)
set_option maxRecDepth 20000 in
theorem gX2_setUses_X2_in : GoodIn wsX2_setUses (va_wsS RX2 45 yX2_in wsX2_in) := goodIn_app (goodIn_of _ (by decide +kernel)) ggX2_setUses_X2_in
set_option maxRecDepth 20000 in
theorem ggX2_setUses_X2_areParts : GoodIn wsX2_setUses wsX2_areParts := goodIn_r _ [8, 9, 2, 3, 4, 5] (by decide +kernel) (by decide +kernel)
set_option maxRecDepth 20000 in
theorem gX2_setUses_X2_areParts : GoodIn wsX2_setUses (va_wsS RX2 59 yX2_areParts wsX2_areParts) := goodIn_app (goodIn_of _ (by decide +kernel)) ggX2_setUses_X2_areParts
set_option maxRecDepth 20000 in
theorem ggX2_setUses_X2_goes : GoodIn wsX2_setUses wsX2_goes := goodIn_r _ [13, 14, 15, 16, 17, 18, 19, 20, 21, 22, 23, 24, 25, 26, 27, 28, 29, 30] (by decide +kernel) (by decide +kernel)
set_option maxRecDepth 20000 in
theorem gX2_setUses_X2_goes : GoodIn wsX2_setUses (wsV RX2 62 RX2 yX2_goes wsX2_goes) := goodIn_app (goodIn_of _ (by decide +kernel)) ggX2_setUses_X2_goes
set_option maxRecDepth 20000 in
theorem ggX2_addCommit_X2_areParts : GoodIn wsX2_addCommit wsX2_areParts := goodIn_r _ [6, 7, 8, 9, 5, 10] (by decide +kernel) (by decide +kernel)
set_option maxRecDepth 20000 in
theorem gX2_addCommit_X2_areParts : GoodIn wsX2_addCommit (va_wsS RX2 59 yX2_areParts wsX2_areParts) := goodIn_app (goodIn_of _ (by decide +kernel)) ggX2_addCommit_X2_areParts
set_option maxRecDepth 20000 in
theorem ggX2_addCommit_X2_goes : GoodIn wsX2_addCommit wsX2_goes := goodIn_r _ [14, 15, 16, 17, 18, 19, 20, 21, 22, 23, 24, 25, 26, 27, 28, 29, 30, 31] (by decide +kernel) (by decide +kernel)
set_option maxRecDepth 20000 in
theorem gX2_addCommit_X2_goes : GoodIn wsX2_addCommit (wsV RX2 62 RX2 yX2_goes wsX2_goes) := goodIn_app (goodIn_of _ (by decide +kernel)) ggX2_addCommit_X2_goes
set_option maxRecDepth 20000 in
theorem ggX2_addTest_X2_areParts : GoodIn wsX2_addTest wsX2_areParts := goodIn_r _ [6, 7, 8, 9, 5, 10] (by decide +kernel) (by decide +kernel)
set_option maxRecDepth 20000 in
theorem gX2_addTest_X2_areParts : GoodIn wsX2_addTest (va_wsS RX2 59 yX2_areParts wsX2_areParts) := goodIn_app (goodIn_of _ (by decide +kernel)) ggX2_addTest_X2_areParts
set_option maxRecDepth 20000 in
theorem ggX2_addTest_X2_goes : GoodIn wsX2_addTest wsX2_goes := goodIn_r _ [14, 15, 16, 17, 18, 19, 20, 21, 22, 23, 24, 25, 26, 27, 28, 29, 30, 31] (by decide +kernel) (by decide +kernel)
set_option maxRecDepth 20000 in
theorem gX2_addTest_X2_goes : GoodIn wsX2_addTest (wsV RX2 62 RX2 yX2_goes wsX2_goes) := goodIn_app (goodIn_of _ (by decide +kernel)) ggX2_addTest_X2_goes
set_option maxRecDepth 20000 in
theorem ggX2_setQuarantine_X2_in : GoodIn wsX2_setQuarantine wsX2_in := goodIn_r _ [6] (by decide +kernel) (by decide +kernel)
set_option maxRecDepth 20000 in
theorem gX2_setQuarantine_X2_in : GoodIn wsX2_setQuarantine (va_wsS RX2 45 yX2_in wsX2_in) := goodIn_app (goodIn_of _ (by decide +kernel)) ggX2_setQuarantine_X2_in
set_option maxRecDepth 20000 in
theorem ggX2_setQuarantine_X2_goes : GoodIn wsX2_setQuarantine wsX2_goes := goodIn_r _ [10, 11, 12, 13, 14, 15, 16, 17, 18, 19, 20, 21, 22, 23, 24, 25, 26, 27] (by decide +kernel) (by decide +kernel)
set_option maxRecDepth 20000 in
theorem gX2_setQuarantine_X2_goes : GoodIn wsX2_setQuarantine (wsV RX2 62 RX2 yX2_goes wsX2_goes) := goodIn_app (goodIn_of _ (by decide +kernel)) ggX2_setQuarantine_X2_goes
set_option maxRecDepth 20000 in
theorem ggX2_setNoise_X2_in : GoodIn wsX2_setNoise wsX2_in := goodIn_r _ [5] (by decide +kernel) (by decide +kernel)
set_option maxRecDepth 20000 in
theorem gX2_setNoise_X2_in : GoodIn wsX2_setNoise (va_wsS RX2 45 yX2_in wsX2_in) := goodIn_app (goodIn_of _ (by decide +kernel)) ggX2_setNoise_X2_in
set_option maxRecDepth 20000 in
theorem ggX2_setNoise_X2_goes : GoodIn wsX2_setNoise wsX2_goes := goodIn_r _ [9, 10, 11, 12, 13, 14, 15, 16, 17, 18, 19, 20, 21, 22, 23, 24, 25, 26] (by decide +kernel) (by decide +kernel)
set_option maxRecDepth 20000 in
theorem gX2_setNoise_X2_goes : GoodIn wsX2_setNoise (wsV RX2 62 RX2 yX2_goes wsX2_goes) := goodIn_app (goodIn_of _ (by decide +kernel)) ggX2_setNoise_X2_goes
set_option maxRecDepth 20000 in
theorem ggX2_allRuns_X2_all : GoodIn wsX2_allRuns wsX2_all := goodIn_r _ [7] (by decide +kernel) (by decide +kernel)
set_option maxRecDepth 20000 in
theorem gX2_allRuns_X2_all : GoodIn wsX2_allRuns (wsV RX2 69 RX2 yX2_all wsX2_all) := goodIn_app (goodIn_of _ (by decide +kernel)) ggX2_allRuns_X2_all
set_option maxRecDepth 20000 in
theorem ggX2_isUnsteady_X2_verdictOf : GoodIn wsX2_isUnsteady wsX2_verdictOf := goodIn_r _ [8, 9, 10, 11, 12, 13, 14, 15, 16, 17, 18, 19, 20, 21, 22, 23, 24, 25, 26] (by decide +kernel) (by decide +kernel)
set_option maxRecDepth 20000 in
theorem gX2_isUnsteady_X2_verdictOf : GoodIn wsX2_isUnsteady (wsV RX2 73 RX2 yX2_verdictOf wsX2_verdictOf) := goodIn_app (goodIn_of _ (by decide +kernel)) ggX2_isUnsteady_X2_verdictOf
set_option maxRecDepth 20000 in
theorem ggX2_isSuspect_X2_reach : GoodIn wsX2_isSuspect wsX2_reach := goodIn_r _ [8, 9, 10, 11, 12, 13, 14, 15, 16, 17, 18, 19, 20, 21, 22, 23, 24, 25, 26] (by decide +kernel) (by decide +kernel)
set_option maxRecDepth 20000 in
theorem gX2_isSuspect_X2_reach : GoodIn wsX2_isSuspect (wsV RX2 77 RX2 yX2_reach wsX2_reach) := goodIn_app (goodIn_of _ (by decide +kernel)) ggX2_isSuspect_X2_reach
set_option maxRecDepth 20000 in
theorem ggX2_isCandidate_X2_isSuspect : GoodIn wsX2_isCandidate wsX2_isSuspect := goodIn_r _ [6, 7, 8, 9, 10, 11, 12, 5, 13, 14, 15, 22, 23, 24, 25, 26, 27, 28, 29, 30, 31, 32, 33, 34, 35, 36, 37] (by decide +kernel) (by decide +kernel)
set_option maxRecDepth 20000 in
theorem gX2_isCandidate_X2_isSuspect : GoodIn wsX2_isCandidate (wsV RX2 81 RX2 yX2_isSuspect wsX2_isSuspect) := goodIn_app (goodIn_of _ (by decide +kernel)) ggX2_isCandidate_X2_isSuspect
set_option maxRecDepth 20000 in
theorem ggX2_isCandidate_X2_against : GoodIn wsX2_isCandidate wsX2_against := goodIn_r _ [19, 7, 8, 20, 21, 22, 23, 24, 25, 26, 27, 28, 29, 30, 31, 32, 33, 34, 35, 36, 37] (by decide +kernel) (by decide +kernel)
set_option maxRecDepth 20000 in
theorem gX2_isCandidate_X2_against : GoodIn wsX2_isCandidate (wsV RX2 85 RX2 yX2_against wsX2_against) := goodIn_app (goodIn_of _ (by decide +kernel)) ggX2_isCandidate_X2_against
set_option maxRecDepth 20000 in
theorem ggX2_counts_X2_isCandidate : GoodIn wsX2_counts wsX2_isCandidate := goodIn_r _ [5, 6, 7, 8, 9, 4, 10, 11, 12, 13, 14, 15, 16, 17, 18, 19, 20, 21, 22, 23, 24, 25, 26, 27, 28, 29, 30, 31, 32, 33, 34, 35, 36, 37, 38, 39, 40, 41] (by decide +kernel) (by decide +kernel)
set_option maxRecDepth 20000 in
theorem gX2_counts_X2_isCandidate : GoodIn wsX2_counts (wsV RX2 88 RX2 yX2_isCandidate wsX2_isCandidate) := goodIn_app (goodIn_of _ (by decide +kernel)) ggX2_counts_X2_isCandidate
set_option maxRecDepth 20000 in
theorem ggX2_candidatesOf_X2_counts : GoodIn wsX2_candidatesOf wsX2_counts := goodIn_r _ [7, 8, 9, 10, 6, 11, 12, 13, 14, 15, 16, 1, 2, 17, 18, 19, 20, 21, 22, 23, 24, 25, 26, 27, 28, 29, 30, 31, 32, 33, 34, 35, 36, 37, 38, 39, 40, 41, 42, 43, 44, 45] (by decide +kernel) (by decide +kernel)
set_option maxRecDepth 20000 in
theorem gX2_candidatesOf_X2_counts : GoodIn wsX2_candidatesOf (wsV RX2 91 RX2 yX2_counts wsX2_counts) := goodIn_app (goodIn_of _ (by decide +kernel)) ggX2_candidatesOf_X2_counts
set_option maxRecDepth 20000 in
theorem ggX2_record_X2_isTest : GoodIn wsX2_record wsX2_isTest := goodIn_r _ [7, 8, 9, 10, 6, 11, 34, 35, 36, 37, 38, 39, 40, 41, 42, 43, 44, 45, 46, 47, 48, 49] (by decide +kernel) (by decide +kernel)
set_option maxRecDepth 20000 in
theorem gX2_record_X2_isTest : GoodIn wsX2_record (wsV RX2 55 RX2 yX2_isTest wsX2_isTest) := goodIn_app (goodIn_of _ (by decide +kernel)) ggX2_record_X2_isTest
set_option maxRecDepth 20000 in
theorem ggX2_record_X2_isCommit : GoodIn wsX2_record wsX2_isCommit := goodIn_r _ [15, 16, 9, 10, 6, 11, 34, 35, 36, 37, 38, 39, 40, 41, 42, 43, 44, 45, 46, 47, 48, 49] (by decide +kernel) (by decide +kernel)
set_option maxRecDepth 20000 in
theorem gX2_record_X2_isCommit : GoodIn wsX2_record (wsV RX2 95 RX2 yX2_isCommit wsX2_isCommit) := goodIn_app (goodIn_of _ (by decide +kernel)) ggX2_record_X2_isCommit
set_option maxRecDepth 20000 in
theorem ggX2_record_X2_allRuns : GoodIn wsX2_record wsX2_allRuns := goodIn_r _ [20, 1, 2, 21, 22, 23, 6, 24, 34, 35, 36, 37, 38, 39, 40, 41, 42, 43, 44, 45, 46, 47, 48, 49] (by decide +kernel) (by decide +kernel)
set_option maxRecDepth 20000 in
theorem gX2_record_X2_allRuns : GoodIn wsX2_record (wsV RX2 98 RX2 yX2_allRuns wsX2_allRuns) := goodIn_app (goodIn_of _ (by decide +kernel)) ggX2_record_X2_allRuns
set_option maxRecDepth 20000 in
theorem ggX2_record_X2_goes : GoodIn wsX2_record wsX2_goes := goodIn_r _ [28, 29, 34, 35, 36, 37, 38, 39, 40, 41, 42, 43, 44, 45, 46, 47, 48, 49] (by decide +kernel) (by decide +kernel)
set_option maxRecDepth 20000 in
theorem gX2_record_X2_goes : GoodIn wsX2_record (wsV RX2 62 RX2 yX2_goes wsX2_goes) := goodIn_app (goodIn_of _ (by decide +kernel)) ggX2_record_X2_goes
set_option maxRecDepth 20000 in
theorem ggX2_record_X2_verdictOf : GoodIn wsX2_record wsX2_verdictOf := goodIn_r _ [33, 1, 2, 34, 35, 36, 37, 38, 39, 40, 41, 42, 43, 44, 45, 46, 47, 48, 49] (by decide +kernel) (by decide +kernel)
set_option maxRecDepth 20000 in
theorem gX2_record_X2_verdictOf : GoodIn wsX2_record (wsV RX2 73 RX2 yX2_verdictOf wsX2_verdictOf) := goodIn_app (goodIn_of _ (by decide +kernel)) ggX2_record_X2_verdictOf
set_option maxRecDepth 20000 in
theorem ggX2_triage_X2_isTest : GoodIn wsX2_triage wsX2_isTest := goodIn_r _ [7, 8, 9, 10, 6, 11, 52, 53, 54, 55, 56, 57, 58, 59, 60, 61, 62, 63, 64, 65, 66, 67] (by decide +kernel) (by decide +kernel)
set_option maxRecDepth 20000 in
theorem gX2_triage_X2_isTest : GoodIn wsX2_triage (wsV RX2 55 RX2 yX2_isTest wsX2_isTest) := goodIn_app (goodIn_of _ (by decide +kernel)) ggX2_triage_X2_isTest
set_option maxRecDepth 20000 in
theorem ggX2_triage_X2_isCommit : GoodIn wsX2_triage wsX2_isCommit := goodIn_r _ [15, 16, 9, 10, 6, 11, 52, 53, 54, 55, 56, 57, 58, 59, 60, 61, 62, 63, 64, 65, 66, 67] (by decide +kernel) (by decide +kernel)
set_option maxRecDepth 20000 in
theorem gX2_triage_X2_isCommit : GoodIn wsX2_triage (wsV RX2 95 RX2 yX2_isCommit wsX2_isCommit) := goodIn_app (goodIn_of _ (by decide +kernel)) ggX2_triage_X2_isCommit
set_option maxRecDepth 20000 in
theorem ggX2_triage_X2_goes : GoodIn wsX2_triage wsX2_goes := goodIn_r _ [20, 21, 52, 53, 54, 55, 56, 57, 58, 59, 60, 61, 62, 63, 64, 65, 66, 67] (by decide +kernel) (by decide +kernel)
set_option maxRecDepth 20000 in
theorem gX2_triage_X2_goes : GoodIn wsX2_triage (wsV RX2 62 RX2 yX2_goes wsX2_goes) := goodIn_app (goodIn_of _ (by decide +kernel)) ggX2_triage_X2_goes
set_option maxRecDepth 20000 in
theorem ggX2_triage_X2_candidatesOf : GoodIn wsX2_triage wsX2_candidatesOf := goodIn_r _ [25, 1, 2, 26, 27, 28, 6, 29, 30, 31, 32, 33, 34, 35, 36, 37, 38, 39, 40, 41, 42, 43, 44, 45, 46, 47, 48, 49, 50, 51, 52, 53, 54, 55, 56, 57, 58, 59, 60, 61, 62, 63, 64, 65, 66, 67] (by decide +kernel) (by decide +kernel)
set_option maxRecDepth 20000 in
theorem gX2_triage_X2_candidatesOf : GoodIn wsX2_triage (wsV RX2 101 RX2 yX2_candidatesOf wsX2_candidatesOf) := goodIn_app (goodIn_of _ (by decide +kernel)) ggX2_triage_X2_candidatesOf
set_option maxRecDepth 20000 in
theorem ggX2_only_X2_isCandidate : GoodIn wsX2_only wsX2_isCandidate := goodIn_r _ [7, 8, 9, 10, 11, 6, 12, 1, 2, 13, 14, 15, 16, 17, 18, 19, 20, 21, 22, 23, 24, 25, 34, 35, 36, 37, 38, 39, 40, 41, 42, 43, 44, 45, 46, 47, 48, 49] (by decide +kernel) (by decide +kernel)
set_option maxRecDepth 20000 in
theorem gX2_only_X2_isCandidate : GoodIn wsX2_only (wsV RX2 88 RX2 yX2_isCandidate wsX2_isCandidate) := goodIn_app (goodIn_of _ (by decide +kernel)) ggX2_only_X2_isCandidate
set_option maxRecDepth 20000 in
theorem ggX2_only_X2_candidatesOf : GoodIn wsX2_only wsX2_candidatesOf := goodIn_r _ [29, 1, 2, 30, 31, 32, 6, 33, 3, 4, 5, 7, 8, 9, 10, 11, 12, 13, 14, 15, 16, 17, 18, 19, 20, 21, 22, 23, 24, 25, 34, 35, 36, 37, 38, 39, 40, 41, 42, 43, 44, 45, 46, 47, 48, 49] (by decide +kernel) (by decide +kernel)
set_option maxRecDepth 20000 in
theorem gX2_only_X2_candidatesOf : GoodIn wsX2_only (wsV RX2 101 RX2 yX2_candidatesOf wsX2_candidatesOf) := goodIn_app (goodIn_of _ (by decide +kernel)) ggX2_only_X2_candidatesOf
set_option maxRecDepth 20000 in
theorem ggX2_close_X2_isTest : GoodIn wsX2_close wsX2_isTest := goodIn_r _ [6, 7, 8, 9, 5, 10, 65, 66, 67, 68, 69, 70, 71, 72, 73, 74, 75, 76, 77, 78, 79, 80] (by decide +kernel) (by decide +kernel)
set_option maxRecDepth 20000 in
theorem gX2_close_X2_isTest : GoodIn wsX2_close (wsV RX2 55 RX2 yX2_isTest wsX2_isTest) := goodIn_app (goodIn_of _ (by decide +kernel)) ggX2_close_X2_isTest
set_option maxRecDepth 20000 in
theorem ggX2_close_X2_isInTriage : GoodIn wsX2_close wsX2_isInTriage := goodIn_r _ [14, 1, 2, 3, 4, 5, 6, 7, 8, 9, 10, 65, 66, 67, 68, 69, 70, 71, 72, 73, 74, 75, 76, 77, 78, 79, 80] (by decide +kernel) (by decide +kernel)
set_option maxRecDepth 20000 in
theorem gX2_close_X2_isInTriage : GoodIn wsX2_close (wsV RX2 107 RX2 yX2_isInTriage wsX2_isInTriage) := goodIn_app (goodIn_of _ (by decide +kernel)) ggX2_close_X2_isInTriage
set_option maxRecDepth 20000 in
theorem ggX2_close_X2_goes : GoodIn wsX2_close wsX2_goes := goodIn_r _ [18, 19, 65, 66, 67, 68, 69, 70, 71, 72, 73, 74, 75, 76, 77, 78, 79, 80] (by decide +kernel) (by decide +kernel)
set_option maxRecDepth 20000 in
theorem gX2_close_X2_goes : GoodIn wsX2_close (wsV RX2 62 RX2 yX2_goes wsX2_goes) := goodIn_app (goodIn_of _ (by decide +kernel)) ggX2_close_X2_goes
set_option maxRecDepth 20000 in
theorem ggX2_close_X2_only : GoodIn wsX2_close wsX2_only := goodIn_r _ [23, 1, 24, 25, 26, 27, 5, 28, 29, 30, 31, 32, 33, 34, 35, 36, 37, 38, 39, 40, 41, 42, 43, 44, 45, 46, 47, 48, 49, 50, 51, 52, 53, 54, 65, 66, 67, 68, 69, 70, 71, 72, 73, 74, 75, 76, 77, 78, 79, 80] (by decide +kernel) (by decide +kernel)
set_option maxRecDepth 20000 in
theorem gX2_close_X2_only : GoodIn wsX2_close (wsV RX2 110 RX2 yX2_only wsX2_only) := goodIn_app (goodIn_of _ (by decide +kernel)) ggX2_close_X2_only
set_option maxRecDepth 20000 in
theorem ggX2_close_X2_placeOf : GoodIn wsX2_close wsX2_placeOf := goodIn_r _ [58, 59, 60, 65, 66, 67, 68, 69, 70, 71, 72, 73, 74, 75, 76, 77, 78, 79, 80] (by decide +kernel) (by decide +kernel)
set_option maxRecDepth 20000 in
theorem gX2_close_X2_placeOf : GoodIn wsX2_close (wsV RX2 113 RX2 yX2_placeOf wsX2_placeOf) := goodIn_app (goodIn_of _ (by decide +kernel)) ggX2_close_X2_placeOf
set_option maxRecDepth 20000 in
theorem ggX2_close_X2_leaves : GoodIn wsX2_close wsX2_leaves := goodIn_r _ [64, 59, 60, 65, 66, 67, 68, 69, 70, 71, 72, 73, 74, 75, 76, 77, 78, 79, 80] (by decide +kernel) (by decide +kernel)
set_option maxRecDepth 20000 in
theorem gX2_close_X2_leaves : GoodIn wsX2_close (wsV RX2 116 RX2 yX2_leaves wsX2_leaves) := goodIn_app (goodIn_of _ (by decide +kernel)) ggX2_close_X2_leaves
set_option maxRecDepth 20000 in
theorem ggX2_enqueue_X2_isTest : GoodIn wsX2_enqueue wsX2_isTest := goodIn_r _ [6, 7, 8, 9, 5, 10, 30, 31, 32, 33, 34, 35, 36, 37, 38, 39, 40, 41, 42, 43, 44, 45] (by decide +kernel) (by decide +kernel)
set_option maxRecDepth 20000 in
theorem gX2_enqueue_X2_isTest : GoodIn wsX2_enqueue (wsV RX2 55 RX2 yX2_isTest wsX2_isTest) := goodIn_app (goodIn_of _ (by decide +kernel)) ggX2_enqueue_X2_isTest
set_option maxRecDepth 20000 in
theorem ggX2_enqueue_X2_isInTriage : GoodIn wsX2_enqueue wsX2_isInTriage := goodIn_r _ [14, 15, 2, 3, 4, 5, 6, 7, 8, 9, 10, 30, 31, 32, 33, 34, 35, 36, 37, 38, 39, 40, 41, 42, 43, 44, 45] (by decide +kernel) (by decide +kernel)
set_option maxRecDepth 20000 in
theorem gX2_enqueue_X2_isInTriage : GoodIn wsX2_enqueue (wsV RX2 107 RX2 yX2_isInTriage wsX2_isInTriage) := goodIn_app (goodIn_of _ (by decide +kernel)) ggX2_enqueue_X2_isInTriage
set_option maxRecDepth 20000 in
theorem ggX2_enqueue_X2_placeOf : GoodIn wsX2_enqueue wsX2_placeOf := goodIn_r _ [19, 1, 20, 30, 31, 32, 33, 34, 35, 36, 37, 38, 39, 40, 41, 42, 43, 44, 45] (by decide +kernel) (by decide +kernel)
set_option maxRecDepth 20000 in
theorem gX2_enqueue_X2_placeOf : GoodIn wsX2_enqueue (wsV RX2 113 RX2 yX2_placeOf wsX2_placeOf) := goodIn_app (goodIn_of _ (by decide +kernel)) ggX2_enqueue_X2_placeOf
set_option maxRecDepth 20000 in
theorem ggX2_enqueue_X2_goes : GoodIn wsX2_enqueue wsX2_goes := goodIn_r _ [24, 25, 30, 31, 32, 33, 34, 35, 36, 37, 38, 39, 40, 41, 42, 43, 44, 45] (by decide +kernel) (by decide +kernel)
set_option maxRecDepth 20000 in
theorem gX2_enqueue_X2_goes : GoodIn wsX2_enqueue (wsV RX2 62 RX2 yX2_goes wsX2_goes) := goodIn_app (goodIn_of _ (by decide +kernel)) ggX2_enqueue_X2_goes
set_option maxRecDepth 20000 in
theorem ggX2_enqueue_X2_joins : GoodIn wsX2_enqueue wsX2_joins := goodIn_r _ [29, 20, 1, 30, 31, 32, 33, 34, 35, 36, 37, 38, 39, 40, 41, 42, 43, 44, 45] (by decide +kernel) (by decide +kernel)
set_option maxRecDepth 20000 in
theorem gX2_enqueue_X2_joins : GoodIn wsX2_enqueue (wsV RX2 120 RX2 yX2_joins wsX2_joins) := goodIn_app (goodIn_of _ (by decide +kernel)) ggX2_enqueue_X2_joins
set_option maxRecDepth 20000 in
theorem ggX2_newDay_X2_in : GoodIn wsX2_newDay wsX2_in := goodIn_r _ [5] (by decide +kernel) (by decide +kernel)
set_option maxRecDepth 20000 in
theorem gX2_newDay_X2_in : GoodIn wsX2_newDay (va_wsS RX2 45 yX2_in wsX2_in) := goodIn_app (goodIn_of _ (by decide +kernel)) ggX2_newDay_X2_in
set_option maxRecDepth 20000 in
theorem ggX2_newDay_X2_goes : GoodIn wsX2_newDay wsX2_goes := goodIn_r _ [9, 10, 11, 12, 13, 14, 15, 16, 17, 18, 19, 20, 21, 22, 23, 24, 25, 26] (by decide +kernel) (by decide +kernel)
set_option maxRecDepth 20000 in
theorem gX2_newDay_X2_goes : GoodIn wsX2_newDay (wsV RX2 62 RX2 yX2_goes wsX2_goes) := goodIn_app (goodIn_of _ (by decide +kernel)) ggX2_newDay_X2_goes
set_option maxRecDepth 20000 in
theorem ggX2_take_X2_goes : GoodIn wsX2_take wsX2_goes := goodIn_r _ [8, 9, 50, 51, 52, 53, 54, 55, 56, 57, 58, 59, 60, 61, 62, 63, 64, 65] (by decide +kernel) (by decide +kernel)
set_option maxRecDepth 20000 in
theorem gX2_take_X2_goes : GoodIn wsX2_take (wsV RX2 62 RX2 yX2_goes wsX2_goes) := goodIn_app (goodIn_of _ (by decide +kernel)) ggX2_take_X2_goes
set_option maxRecDepth 20000 in
theorem ggX2_take_X2_leaves : GoodIn wsX2_take wsX2_leaves := goodIn_r _ [13, 1, 3, 50, 51, 52, 53, 54, 55, 56, 57, 58, 59, 60, 61, 62, 63, 64, 65] (by decide +kernel) (by decide +kernel)
set_option maxRecDepth 20000 in
theorem gX2_take_X2_leaves : GoodIn wsX2_take (wsV RX2 116 RX2 yX2_leaves wsX2_leaves) := goodIn_app (goodIn_of _ (by decide +kernel)) ggX2_take_X2_leaves
set_option maxRecDepth 20000 in
theorem ggX2_take_X2_candidatesOf : GoodIn wsX2_take wsX2_candidatesOf := goodIn_r _ [17, 18, 19, 20, 21, 22, 7, 23, 24, 25, 26, 27, 28, 29, 30, 31, 32, 33, 34, 35, 36, 37, 38, 39, 40, 41, 42, 43, 44, 45, 50, 51, 52, 53, 54, 55, 56, 57, 58, 59, 60, 61, 62, 63, 64, 65] (by decide +kernel) (by decide +kernel)
set_option maxRecDepth 20000 in
theorem gX2_take_X2_candidatesOf : GoodIn wsX2_take (wsV RX2 101 RX2 yX2_candidatesOf wsX2_candidatesOf) := goodIn_app (goodIn_of _ (by decide +kernel)) ggX2_take_X2_candidatesOf
set_option maxRecDepth 20000 in
theorem ggX2_take_X2_joins : GoodIn wsX2_take wsX2_joins := goodIn_r _ [49, 3, 1, 50, 51, 52, 53, 54, 55, 56, 57, 58, 59, 60, 61, 62, 63, 64, 65] (by decide +kernel) (by decide +kernel)
set_option maxRecDepth 20000 in
theorem gX2_take_X2_joins : GoodIn wsX2_take (wsV RX2 120 RX2 yX2_joins wsX2_joins) := goodIn_app (goodIn_of _ (by decide +kernel)) ggX2_take_X2_joins
set_option maxRecDepth 20000 in
theorem ggX2_commits_X2_told : GoodIn wsX2_commits wsX2_told := goodIn_r _ [6, 7, 8, 9, 10, 11, 12, 13, 14, 15, 16, 17, 18, 19, 20, 21, 22, 23] (by decide +kernel) (by decide +kernel)
set_option maxRecDepth 20000 in
theorem gX2_commits_X2_told : GoodIn wsX2_commits (wsV RX2 126 RX2 yX2_told wsX2_told) := goodIn_app (goodIn_of _ (by decide +kernel)) ggX2_commits_X2_told
set_option maxRecDepth 20000 in
theorem ggX2_tests_X2_told : GoodIn wsX2_tests wsX2_told := goodIn_r _ [6, 7, 8, 9, 10, 11, 12, 13, 14, 15, 16, 17, 18, 19, 20, 21, 22, 23] (by decide +kernel) (by decide +kernel)
set_option maxRecDepth 20000 in
theorem gX2_tests_X2_told : GoodIn wsX2_tests (wsV RX2 126 RX2 yX2_told wsX2_told) := goodIn_app (goodIn_of _ (by decide +kernel)) ggX2_tests_X2_told
set_option maxRecDepth 20000 in
theorem ggX2_budget_X2_told : GoodIn wsX2_budget wsX2_told := goodIn_r _ [6, 7, 8, 9, 10, 11, 12, 13, 14, 15, 16, 17, 18, 19, 20, 21, 22, 23] (by decide +kernel) (by decide +kernel)
set_option maxRecDepth 20000 in
theorem gX2_budget_X2_told : GoodIn wsX2_budget (wsV RX2 126 RX2 yX2_told wsX2_told) := goodIn_app (goodIn_of _ (by decide +kernel)) ggX2_budget_X2_told
set_option maxRecDepth 20000 in
theorem ggX2_queued_X2_told : GoodIn wsX2_queued wsX2_told := goodIn_r _ [6, 7, 8, 9, 10, 11, 12, 13, 14, 15, 16, 17, 18, 19, 20, 21, 22, 23] (by decide +kernel) (by decide +kernel)
set_option maxRecDepth 20000 in
theorem gX2_queued_X2_told : GoodIn wsX2_queued (wsV RX2 126 RX2 yX2_told wsX2_told) := goodIn_app (goodIn_of _ (by decide +kernel)) ggX2_queued_X2_told
set_option maxRecDepth 20000 in
theorem ggX2_partsOf_X2_isTest : GoodIn wsX2_partsOf wsX2_isTest := goodIn_r _ [5, 6, 7, 8, 4, 9, 21, 22, 23, 24, 25, 26, 27, 28, 29, 30, 31, 32, 33, 34, 35, 36] (by decide +kernel) (by decide +kernel)
set_option maxRecDepth 20000 in
theorem gX2_partsOf_X2_isTest : GoodIn wsX2_partsOf (wsV RX2 55 RX2 yX2_isTest wsX2_isTest) := goodIn_app (goodIn_of _ (by decide +kernel)) ggX2_partsOf_X2_isTest
set_option maxRecDepth 20000 in
theorem ggX2_partsOf_X2_goes : GoodIn wsX2_partsOf wsX2_goes := goodIn_r _ [13, 14, 21, 22, 23, 24, 25, 26, 27, 28, 29, 30, 31, 32, 33, 34, 35, 36] (by decide +kernel) (by decide +kernel)
set_option maxRecDepth 20000 in
theorem gX2_partsOf_X2_goes : GoodIn wsX2_partsOf (wsV RX2 62 RX2 yX2_goes wsX2_goes) := goodIn_app (goodIn_of _ (by decide +kernel)) ggX2_partsOf_X2_goes
set_option maxRecDepth 20000 in
theorem ggX2_partsOf_X2_reach : GoodIn wsX2_partsOf wsX2_reach := goodIn_r _ [18, 19, 20, 21, 22, 23, 24, 25, 26, 27, 28, 29, 30, 31, 32, 33, 34, 35, 36] (by decide +kernel) (by decide +kernel)
set_option maxRecDepth 20000 in
theorem gX2_partsOf_X2_reach : GoodIn wsX2_partsOf (wsV RX2 77 RX2 yX2_reach wsX2_reach) := goodIn_app (goodIn_of _ (by decide +kernel)) ggX2_partsOf_X2_reach
set_option maxRecDepth 20000 in
theorem ggX2_touches_X2_isCommit : GoodIn wsX2_touches wsX2_isCommit := goodIn_r _ [7, 8, 9, 10, 6, 11, 23, 24, 25, 26, 27, 28, 29, 30, 31, 32, 33, 34, 35, 36, 37, 38] (by decide +kernel) (by decide +kernel)
set_option maxRecDepth 20000 in
theorem gX2_touches_X2_isCommit : GoodIn wsX2_touches (wsV RX2 95 RX2 yX2_isCommit wsX2_isCommit) := goodIn_app (goodIn_of _ (by decide +kernel)) ggX2_touches_X2_isCommit
set_option maxRecDepth 20000 in
theorem ggX2_touches_X2_goes : GoodIn wsX2_touches wsX2_goes := goodIn_r _ [15, 16, 23, 24, 25, 26, 27, 28, 29, 30, 31, 32, 33, 34, 35, 36, 37, 38] (by decide +kernel) (by decide +kernel)
set_option maxRecDepth 20000 in
theorem gX2_touches_X2_goes : GoodIn wsX2_touches (wsV RX2 62 RX2 yX2_goes wsX2_goes) := goodIn_app (goodIn_of _ (by decide +kernel)) ggX2_touches_X2_goes
set_option maxRecDepth 20000 in
theorem ggX2_touches_X2_reach : GoodIn wsX2_touches wsX2_reach := goodIn_r _ [20, 21, 22, 23, 24, 25, 26, 27, 28, 29, 30, 31, 32, 33, 34, 35, 36, 37, 38] (by decide +kernel) (by decide +kernel)
set_option maxRecDepth 20000 in
theorem gX2_touches_X2_reach : GoodIn wsX2_touches (wsV RX2 77 RX2 yX2_reach wsX2_reach) := goodIn_app (goodIn_of _ (by decide +kernel)) ggX2_touches_X2_reach
set_option maxRecDepth 20000 in
theorem ggX2_runs_X2_isTest : GoodIn wsX2_runs wsX2_isTest := goodIn_r _ [5, 6, 7, 8, 4, 9, 25, 26, 27, 28, 29, 30, 31, 32, 33, 34, 35, 36, 37, 38, 39, 40] (by decide +kernel) (by decide +kernel)
set_option maxRecDepth 20000 in
theorem gX2_runs_X2_isTest : GoodIn wsX2_runs (wsV RX2 55 RX2 yX2_isTest wsX2_isTest) := goodIn_app (goodIn_of _ (by decide +kernel)) ggX2_runs_X2_isTest
set_option maxRecDepth 20000 in
theorem ggX2_runs_X2_goes : GoodIn wsX2_runs wsX2_goes := goodIn_r _ [13, 14, 25, 26, 27, 28, 29, 30, 31, 32, 33, 34, 35, 36, 37, 38, 39, 40] (by decide +kernel) (by decide +kernel)
set_option maxRecDepth 20000 in
theorem gX2_runs_X2_goes : GoodIn wsX2_runs (wsV RX2 62 RX2 yX2_goes wsX2_goes) := goodIn_app (goodIn_of _ (by decide +kernel)) ggX2_runs_X2_goes
set_option maxRecDepth 20000 in
theorem ggX2_runs_X2_allRuns : GoodIn wsX2_runs wsX2_allRuns := goodIn_r _ [18, 19, 20, 21, 22, 23, 4, 24, 25, 26, 27, 28, 29, 30, 31, 32, 33, 34, 35, 36, 37, 38, 39, 40] (by decide +kernel) (by decide +kernel)
set_option maxRecDepth 20000 in
theorem gX2_runs_X2_allRuns : GoodIn wsX2_runs (wsV RX2 98 RX2 yX2_allRuns wsX2_allRuns) := goodIn_app (goodIn_of _ (by decide +kernel)) ggX2_runs_X2_allRuns
set_option maxRecDepth 20000 in
theorem ggX2_verdict_X2_isTest : GoodIn wsX2_verdict wsX2_isTest := goodIn_r _ [5, 6, 7, 8, 4, 9, 26, 27, 28, 29, 30, 31, 32, 33, 34, 35, 36, 37, 38, 39, 40, 41] (by decide +kernel) (by decide +kernel)
set_option maxRecDepth 20000 in
theorem gX2_verdict_X2_isTest : GoodIn wsX2_verdict (wsV RX2 55 RX2 yX2_isTest wsX2_isTest) := goodIn_app (goodIn_of _ (by decide +kernel)) ggX2_verdict_X2_isTest
set_option maxRecDepth 20000 in
theorem ggX2_verdict_X2_isCommit : GoodIn wsX2_verdict wsX2_isCommit := goodIn_r _ [13, 14, 7, 8, 4, 9, 26, 27, 28, 29, 30, 31, 32, 33, 34, 35, 36, 37, 38, 39, 40, 41] (by decide +kernel) (by decide +kernel)
set_option maxRecDepth 20000 in
theorem gX2_verdict_X2_isCommit : GoodIn wsX2_verdict (wsV RX2 95 RX2 yX2_isCommit wsX2_isCommit) := goodIn_app (goodIn_of _ (by decide +kernel)) ggX2_verdict_X2_isCommit
set_option maxRecDepth 20000 in
theorem ggX2_verdict_X2_goes : GoodIn wsX2_verdict wsX2_goes := goodIn_r _ [18, 19, 26, 27, 28, 29, 30, 31, 32, 33, 34, 35, 36, 37, 38, 39, 40, 41] (by decide +kernel) (by decide +kernel)
set_option maxRecDepth 20000 in
theorem gX2_verdict_X2_goes : GoodIn wsX2_verdict (wsV RX2 62 RX2 yX2_goes wsX2_goes) := goodIn_app (goodIn_of _ (by decide +kernel)) ggX2_verdict_X2_goes
set_option maxRecDepth 20000 in
theorem ggX2_verdict_X2_verdictOf : GoodIn wsX2_verdict wsX2_verdictOf := goodIn_r _ [23, 24, 25, 26, 27, 28, 29, 30, 31, 32, 33, 34, 35, 36, 37, 38, 39, 40, 41] (by decide +kernel) (by decide +kernel)
set_option maxRecDepth 20000 in
theorem gX2_verdict_X2_verdictOf : GoodIn wsX2_verdict (wsV RX2 73 RX2 yX2_verdictOf wsX2_verdictOf) := goodIn_app (goodIn_of _ (by decide +kernel)) ggX2_verdict_X2_verdictOf
set_option maxRecDepth 20000 in
theorem ggX2_failing_X2_isTest : GoodIn wsX2_failing wsX2_isTest := goodIn_r _ [6, 7, 8, 9, 5, 10, 25, 26, 27, 28, 29, 30, 31, 32, 33, 34, 35, 36, 37, 38, 39, 40] (by decide +kernel) (by decide +kernel)
set_option maxRecDepth 20000 in
theorem gX2_failing_X2_isTest : GoodIn wsX2_failing (wsV RX2 55 RX2 yX2_isTest wsX2_isTest) := goodIn_app (goodIn_of _ (by decide +kernel)) ggX2_failing_X2_isTest
set_option maxRecDepth 20000 in
theorem ggX2_failing_X2_goes : GoodIn wsX2_failing wsX2_goes := goodIn_r _ [14, 15, 25, 26, 27, 28, 29, 30, 31, 32, 33, 34, 35, 36, 37, 38, 39, 40] (by decide +kernel) (by decide +kernel)
set_option maxRecDepth 20000 in
theorem gX2_failing_X2_goes : GoodIn wsX2_failing (wsV RX2 62 RX2 yX2_goes wsX2_goes) := goodIn_app (goodIn_of _ (by decide +kernel)) ggX2_failing_X2_goes
set_option maxRecDepth 20000 in
theorem ggX2_failing_X2_allRuns : GoodIn wsX2_failing wsX2_allRuns := goodIn_r _ [19, 20, 1, 21, 22, 23, 5, 24, 25, 26, 27, 28, 29, 30, 31, 32, 33, 34, 35, 36, 37, 38, 39, 40] (by decide +kernel) (by decide +kernel)
set_option maxRecDepth 20000 in
theorem gX2_failing_X2_allRuns : GoodIn wsX2_failing (wsV RX2 98 RX2 yX2_allRuns wsX2_allRuns) := goodIn_app (goodIn_of _ (by decide +kernel)) ggX2_failing_X2_allRuns
set_option maxRecDepth 20000 in
theorem ggX2_failing_X2_all : GoodIn wsX2_failing wsX2_all := goodIn_r _ [24] (by decide +kernel) (by decide +kernel)
set_option maxRecDepth 20000 in
theorem gX2_failing_X2_all : GoodIn wsX2_failing (wsV RX2 69 RX2 yX2_all wsX2_all) := goodIn_app (goodIn_of _ (by decide +kernel)) ggX2_failing_X2_all
set_option maxRecDepth 20000 in
theorem ggX2_isQuarantined_X2_isTest : GoodIn wsX2_isQuarantined wsX2_isTest := goodIn_r _ [5, 6, 7, 8, 4, 9, 28, 29, 30, 31, 32, 33, 34, 35, 36, 37, 38, 39, 40, 41, 42, 43] (by decide +kernel) (by decide +kernel)
set_option maxRecDepth 20000 in
theorem gX2_isQuarantined_X2_isTest : GoodIn wsX2_isQuarantined (wsV RX2 55 RX2 yX2_isTest wsX2_isTest) := goodIn_app (goodIn_of _ (by decide +kernel)) ggX2_isQuarantined_X2_isTest
set_option maxRecDepth 20000 in
theorem ggX2_isQuarantined_X2_goes : GoodIn wsX2_isQuarantined wsX2_goes := goodIn_r _ [13, 14, 28, 29, 30, 31, 32, 33, 34, 35, 36, 37, 38, 39, 40, 41, 42, 43] (by decide +kernel) (by decide +kernel)
set_option maxRecDepth 20000 in
theorem gX2_isQuarantined_X2_goes : GoodIn wsX2_isQuarantined (wsV RX2 62 RX2 yX2_goes wsX2_goes) := goodIn_app (goodIn_of _ (by decide +kernel)) ggX2_isQuarantined_X2_goes
set_option maxRecDepth 20000 in
theorem ggX2_isQuarantined_X2_isUnsteady : GoodIn wsX2_isQuarantined wsX2_isUnsteady := goodIn_r _ [18, 19, 20, 21, 22, 23, 24, 4, 25, 26, 27, 28, 29, 30, 31, 32, 33, 34, 35, 36, 37, 38, 39, 40, 41, 42, 43] (by decide +kernel) (by decide +kernel)
set_option maxRecDepth 20000 in
theorem gX2_isQuarantined_X2_isUnsteady : GoodIn wsX2_isQuarantined (wsV RX2 129 RX2 yX2_isUnsteady wsX2_isUnsteady) := goodIn_app (goodIn_of _ (by decide +kernel)) ggX2_isQuarantined_X2_isUnsteady
set_option maxRecDepth 20000 in
theorem ggX2_broken_X2_isCommit : GoodIn wsX2_broken wsX2_isCommit := goodIn_r _ [6, 7, 8, 9, 5, 10, 28, 29, 30, 31, 32, 33, 34, 35, 36, 37, 38, 39, 40, 41, 42, 43] (by decide +kernel) (by decide +kernel)
set_option maxRecDepth 20000 in
theorem gX2_broken_X2_isCommit : GoodIn wsX2_broken (wsV RX2 95 RX2 yX2_isCommit wsX2_isCommit) := goodIn_app (goodIn_of _ (by decide +kernel)) ggX2_broken_X2_isCommit
set_option maxRecDepth 20000 in
theorem ggX2_broken_X2_goes : GoodIn wsX2_broken wsX2_goes := goodIn_r _ [14, 15, 28, 29, 30, 31, 32, 33, 34, 35, 36, 37, 38, 39, 40, 41, 42, 43] (by decide +kernel) (by decide +kernel)
set_option maxRecDepth 20000 in
theorem gX2_broken_X2_goes : GoodIn wsX2_broken (wsV RX2 62 RX2 yX2_goes wsX2_goes) := goodIn_app (goodIn_of _ (by decide +kernel)) ggX2_broken_X2_goes
set_option maxRecDepth 20000 in
theorem ggX2_broken_X2_verdictOf : GoodIn wsX2_broken wsX2_verdictOf := goodIn_r _ [19, 20, 21, 28, 29, 30, 31, 32, 33, 34, 35, 36, 37, 38, 39, 40, 41, 42, 43] (by decide +kernel) (by decide +kernel)
set_option maxRecDepth 20000 in
theorem gX2_broken_X2_verdictOf : GoodIn wsX2_broken (wsV RX2 73 RX2 yX2_verdictOf wsX2_verdictOf) := goodIn_app (goodIn_of _ (by decide +kernel)) ggX2_broken_X2_verdictOf
set_option maxRecDepth 20000 in
theorem ggX2_broken_X2_isUnsteady : GoodIn wsX2_broken wsX2_isUnsteady := goodIn_r _ [25, 7, 26, 27, 16, 17, 18, 5, 19, 20, 21, 28, 29, 30, 31, 32, 33, 34, 35, 36, 37, 38, 39, 40, 41, 42, 43] (by decide +kernel) (by decide +kernel)
set_option maxRecDepth 20000 in
theorem gX2_broken_X2_isUnsteady : GoodIn wsX2_broken (wsV RX2 129 RX2 yX2_isUnsteady wsX2_isUnsteady) := goodIn_app (goodIn_of _ (by decide +kernel)) ggX2_broken_X2_isUnsteady
set_option maxRecDepth 20000 in
theorem ggX2_suspects_X2_isTest : GoodIn wsX2_suspects wsX2_isTest := goodIn_r _ [6, 7, 8, 9, 5, 10, 33, 34, 35, 36, 37, 38, 39, 40, 41, 42, 43, 44, 45, 46, 47, 48] (by decide +kernel) (by decide +kernel)
set_option maxRecDepth 20000 in
theorem gX2_suspects_X2_isTest : GoodIn wsX2_suspects (wsV RX2 55 RX2 yX2_isTest wsX2_isTest) := goodIn_app (goodIn_of _ (by decide +kernel)) ggX2_suspects_X2_isTest
set_option maxRecDepth 20000 in
theorem ggX2_suspects_X2_isInTriage : GoodIn wsX2_suspects wsX2_isInTriage := goodIn_r _ [14, 15, 2, 3, 4, 5, 6, 7, 8, 9, 10, 33, 34, 35, 36, 37, 38, 39, 40, 41, 42, 43, 44, 45, 46, 47, 48] (by decide +kernel) (by decide +kernel)
set_option maxRecDepth 20000 in
theorem gX2_suspects_X2_isInTriage : GoodIn wsX2_suspects (wsV RX2 107 RX2 yX2_isInTriage wsX2_isInTriage) := goodIn_app (goodIn_of _ (by decide +kernel)) ggX2_suspects_X2_isInTriage
set_option maxRecDepth 20000 in
theorem ggX2_suspects_X2_goes : GoodIn wsX2_suspects wsX2_goes := goodIn_r _ [19, 20, 33, 34, 35, 36, 37, 38, 39, 40, 41, 42, 43, 44, 45, 46, 47, 48] (by decide +kernel) (by decide +kernel)
set_option maxRecDepth 20000 in
theorem gX2_suspects_X2_goes : GoodIn wsX2_suspects (wsV RX2 62 RX2 yX2_goes wsX2_goes) := goodIn_app (goodIn_of _ (by decide +kernel)) ggX2_suspects_X2_goes
set_option maxRecDepth 20000 in
theorem ggX2_suspects_X2_isSuspect : GoodIn wsX2_suspects wsX2_isSuspect := goodIn_r _ [24, 15, 25, 26, 27, 28, 29, 5, 30, 31, 32, 33, 34, 35, 36, 37, 38, 39, 40, 41, 42, 43, 44, 45, 46, 47, 48] (by decide +kernel) (by decide +kernel)
set_option maxRecDepth 20000 in
theorem gX2_suspects_X2_isSuspect : GoodIn wsX2_suspects (wsV RX2 81 RX2 yX2_isSuspect wsX2_isSuspect) := goodIn_app (goodIn_of _ (by decide +kernel)) ggX2_suspects_X2_isSuspect
set_option maxRecDepth 20000 in
theorem ggX2_contradictions_X2_isTest : GoodIn wsX2_contradictions wsX2_isTest := goodIn_r _ [5, 6, 7, 8, 4, 9, 43, 44, 45, 46, 47, 48, 49, 50, 51, 52, 53, 54, 55, 56, 57, 58] (by decide +kernel) (by decide +kernel)
set_option maxRecDepth 20000 in
theorem gX2_contradictions_X2_isTest : GoodIn wsX2_contradictions (wsV RX2 55 RX2 yX2_isTest wsX2_isTest) := goodIn_app (goodIn_of _ (by decide +kernel)) ggX2_contradictions_X2_isTest
set_option maxRecDepth 20000 in
theorem ggX2_contradictions_X2_isCommit : GoodIn wsX2_contradictions wsX2_isCommit := goodIn_r _ [13, 14, 7, 8, 4, 9, 43, 44, 45, 46, 47, 48, 49, 50, 51, 52, 53, 54, 55, 56, 57, 58] (by decide +kernel) (by decide +kernel)
set_option maxRecDepth 20000 in
theorem gX2_contradictions_X2_isCommit : GoodIn wsX2_contradictions (wsV RX2 95 RX2 yX2_isCommit wsX2_isCommit) := goodIn_app (goodIn_of _ (by decide +kernel)) ggX2_contradictions_X2_isCommit
set_option maxRecDepth 20000 in
theorem ggX2_contradictions_X2_isInTriage : GoodIn wsX2_contradictions wsX2_isInTriage := goodIn_r _ [18, 19, 1, 2, 3, 4, 5, 6, 7, 8, 9, 43, 44, 45, 46, 47, 48, 49, 50, 51, 52, 53, 54, 55, 56, 57, 58] (by decide +kernel) (by decide +kernel)
set_option maxRecDepth 20000 in
theorem gX2_contradictions_X2_isInTriage : GoodIn wsX2_contradictions (wsV RX2 107 RX2 yX2_isInTriage wsX2_isInTriage) := goodIn_app (goodIn_of _ (by decide +kernel)) ggX2_contradictions_X2_isInTriage
set_option maxRecDepth 20000 in
theorem ggX2_contradictions_X2_goes : GoodIn wsX2_contradictions wsX2_goes := goodIn_r _ [23, 24, 43, 44, 45, 46, 47, 48, 49, 50, 51, 52, 53, 54, 55, 56, 57, 58] (by decide +kernel) (by decide +kernel)
set_option maxRecDepth 20000 in
theorem gX2_contradictions_X2_goes : GoodIn wsX2_contradictions (wsV RX2 62 RX2 yX2_goes wsX2_goes) := goodIn_app (goodIn_of _ (by decide +kernel)) ggX2_contradictions_X2_goes
set_option maxRecDepth 20000 in
theorem ggX2_contradictions_X2_isSuspect : GoodIn wsX2_contradictions wsX2_isSuspect := goodIn_r _ [28, 19, 29, 30, 31, 32, 33, 4, 34, 35, 36, 43, 44, 45, 46, 47, 48, 49, 50, 51, 52, 53, 54, 55, 56, 57, 58] (by decide +kernel) (by decide +kernel)
set_option maxRecDepth 20000 in
theorem gX2_contradictions_X2_isSuspect : GoodIn wsX2_contradictions (wsV RX2 81 RX2 yX2_isSuspect wsX2_isSuspect) := goodIn_app (goodIn_of _ (by decide +kernel)) ggX2_contradictions_X2_isSuspect
set_option maxRecDepth 20000 in
theorem ggX2_contradictions_X2_against : GoodIn wsX2_contradictions wsX2_against := goodIn_r _ [40, 19, 29, 41, 42, 43, 44, 45, 46, 47, 48, 49, 50, 51, 52, 53, 54, 55, 56, 57, 58] (by decide +kernel) (by decide +kernel)
set_option maxRecDepth 20000 in
theorem gX2_contradictions_X2_against : GoodIn wsX2_contradictions (wsV RX2 85 RX2 yX2_against wsX2_against) := goodIn_app (goodIn_of _ (by decide +kernel)) ggX2_contradictions_X2_against
set_option maxRecDepth 20000 in
theorem ggX2_candidates_X2_isTest : GoodIn wsX2_candidates wsX2_isTest := goodIn_r _ [6, 7, 8, 9, 5, 10, 44, 45, 46, 47, 48, 49, 50, 51, 52, 53, 54, 55, 56, 57, 58, 59] (by decide +kernel) (by decide +kernel)
set_option maxRecDepth 20000 in
theorem gX2_candidates_X2_isTest : GoodIn wsX2_candidates (wsV RX2 55 RX2 yX2_isTest wsX2_isTest) := goodIn_app (goodIn_of _ (by decide +kernel)) ggX2_candidates_X2_isTest
set_option maxRecDepth 20000 in
theorem ggX2_candidates_X2_isInTriage : GoodIn wsX2_candidates wsX2_isInTriage := goodIn_r _ [14, 15, 2, 3, 4, 5, 6, 7, 8, 9, 10, 44, 45, 46, 47, 48, 49, 50, 51, 52, 53, 54, 55, 56, 57, 58, 59] (by decide +kernel) (by decide +kernel)
set_option maxRecDepth 20000 in
theorem gX2_candidates_X2_isInTriage : GoodIn wsX2_candidates (wsV RX2 107 RX2 yX2_isInTriage wsX2_isInTriage) := goodIn_app (goodIn_of _ (by decide +kernel)) ggX2_candidates_X2_isInTriage
set_option maxRecDepth 20000 in
theorem ggX2_candidates_X2_goes : GoodIn wsX2_candidates wsX2_goes := goodIn_r _ [19, 20, 44, 45, 46, 47, 48, 49, 50, 51, 52, 53, 54, 55, 56, 57, 58, 59] (by decide +kernel) (by decide +kernel)
set_option maxRecDepth 20000 in
theorem gX2_candidates_X2_goes : GoodIn wsX2_candidates (wsV RX2 62 RX2 yX2_goes wsX2_goes) := goodIn_app (goodIn_of _ (by decide +kernel)) ggX2_candidates_X2_goes
set_option maxRecDepth 20000 in
theorem ggX2_candidates_X2_isCandidate : GoodIn wsX2_candidates wsX2_isCandidate := goodIn_r _ [24, 25, 26, 27, 28, 5, 29, 15, 30, 31, 32, 33, 34, 35, 36, 37, 38, 39, 40, 41, 42, 43, 44, 45, 46, 47, 48, 49, 50, 51, 52, 53, 54, 55, 56, 57, 58, 59] (by decide +kernel) (by decide +kernel)
set_option maxRecDepth 20000 in
theorem gX2_candidates_X2_isCandidate : GoodIn wsX2_candidates (wsV RX2 88 RX2 yX2_isCandidate wsX2_isCandidate) := goodIn_app (goodIn_of _ (by decide +kernel)) ggX2_candidates_X2_isCandidate
set_option maxRecDepth 20000 in
theorem ggX2_likeliest_X2_isTest : GoodIn wsX2_likeliest wsX2_isTest := goodIn_r _ [7, 8, 9, 10, 6, 11, 38, 39, 40, 41, 42, 43, 44, 45, 46, 47, 48, 49, 50, 51, 52, 53] (by decide +kernel) (by decide +kernel)
set_option maxRecDepth 20000 in
theorem gX2_likeliest_X2_isTest : GoodIn wsX2_likeliest (wsV RX2 55 RX2 yX2_isTest wsX2_isTest) := goodIn_app (goodIn_of _ (by decide +kernel)) ggX2_likeliest_X2_isTest
set_option maxRecDepth 20000 in
theorem ggX2_likeliest_X2_isInTriage : GoodIn wsX2_likeliest wsX2_isInTriage := goodIn_r _ [15, 2, 3, 4, 5, 6, 7, 8, 9, 10, 11, 38, 39, 40, 41, 42, 43, 44, 45, 46, 47, 48, 49, 50, 51, 52, 53] (by decide +kernel) (by decide +kernel)
set_option maxRecDepth 20000 in
theorem gX2_likeliest_X2_isInTriage : GoodIn wsX2_likeliest (wsV RX2 107 RX2 yX2_isInTriage wsX2_isInTriage) := goodIn_app (goodIn_of _ (by decide +kernel)) ggX2_likeliest_X2_isInTriage
set_option maxRecDepth 20000 in
theorem ggX2_likeliest_X2_goes : GoodIn wsX2_likeliest wsX2_goes := goodIn_r _ [19, 20, 38, 39, 40, 41, 42, 43, 44, 45, 46, 47, 48, 49, 50, 51, 52, 53] (by decide +kernel) (by decide +kernel)
set_option maxRecDepth 20000 in
theorem gX2_likeliest_X2_goes : GoodIn wsX2_likeliest (wsV RX2 62 RX2 yX2_goes wsX2_goes) := goodIn_app (goodIn_of _ (by decide +kernel)) ggX2_likeliest_X2_goes
set_option maxRecDepth 20000 in
theorem ggX2_likeliest_X2_isSuspect : GoodIn wsX2_likeliest wsX2_isSuspect := goodIn_r _ [24, 2, 1, 25, 26, 27, 28, 6, 29, 30, 31, 38, 39, 40, 41, 42, 43, 44, 45, 46, 47, 48, 49, 50, 51, 52, 53] (by decide +kernel) (by decide +kernel)
set_option maxRecDepth 20000 in
theorem gX2_likeliest_X2_isSuspect : GoodIn wsX2_likeliest (wsV RX2 81 RX2 yX2_isSuspect wsX2_isSuspect) := goodIn_app (goodIn_of _ (by decide +kernel)) ggX2_likeliest_X2_isSuspect
set_option maxRecDepth 20000 in
theorem ggX2_likeliest_X2_against : GoodIn wsX2_likeliest wsX2_against := goodIn_r _ [35, 2, 1, 36, 37, 38, 39, 40, 41, 42, 43, 44, 45, 46, 47, 48, 49, 50, 51, 52, 53] (by decide +kernel) (by decide +kernel)
set_option maxRecDepth 20000 in
theorem gX2_likeliest_X2_against : GoodIn wsX2_likeliest (wsV RX2 85 RX2 yX2_against wsX2_against) := goodIn_app (goodIn_of _ (by decide +kernel)) ggX2_likeliest_X2_against
set_option maxRecDepth 20000 in
theorem ggX2_next_X2_isTest : GoodIn wsX2_next wsX2_isTest := goodIn_r _ [9, 10, 11, 12, 8, 13, 47, 48, 49, 50, 51, 52, 53, 54, 55, 56, 57, 58, 59, 60, 61, 62] (by decide +kernel) (by decide +kernel)
set_option maxRecDepth 20000 in
theorem gX2_next_X2_isTest : GoodIn wsX2_next (wsV RX2 55 RX2 yX2_isTest wsX2_isTest) := goodIn_app (goodIn_of _ (by decide +kernel)) ggX2_next_X2_isTest
set_option maxRecDepth 20000 in
theorem ggX2_next_X2_isInTriage : GoodIn wsX2_next wsX2_isInTriage := goodIn_r _ [17, 1, 5, 6, 7, 8, 9, 10, 11, 12, 13, 47, 48, 49, 50, 51, 52, 53, 54, 55, 56, 57, 58, 59, 60, 61, 62] (by decide +kernel) (by decide +kernel)
set_option maxRecDepth 20000 in
theorem gX2_next_X2_isInTriage : GoodIn wsX2_next (wsV RX2 107 RX2 yX2_isInTriage wsX2_isInTriage) := goodIn_app (goodIn_of _ (by decide +kernel)) ggX2_next_X2_isInTriage
set_option maxRecDepth 20000 in
theorem ggX2_next_X2_goes : GoodIn wsX2_next wsX2_goes := goodIn_r _ [21, 22, 47, 48, 49, 50, 51, 52, 53, 54, 55, 56, 57, 58, 59, 60, 61, 62] (by decide +kernel) (by decide +kernel)
set_option maxRecDepth 20000 in
theorem gX2_next_X2_goes : GoodIn wsX2_next (wsV RX2 62 RX2 yX2_goes wsX2_goes) := goodIn_app (goodIn_of _ (by decide +kernel)) ggX2_next_X2_goes
set_option maxRecDepth 20000 in
theorem ggX2_next_X2_counts : GoodIn wsX2_next wsX2_counts := goodIn_r _ [26, 27, 28, 29, 8, 30, 31, 32, 33, 34, 35, 1, 2, 36, 37, 38, 39, 40, 41, 42, 43, 44, 45, 46, 4, 3, 47, 48, 49, 50, 51, 52, 53, 54, 55, 56, 57, 58, 59, 60, 61, 62] (by decide +kernel) (by decide +kernel)
set_option maxRecDepth 20000 in
theorem gX2_next_X2_counts : GoodIn wsX2_next (wsV RX2 91 RX2 yX2_counts wsX2_counts) := goodIn_app (goodIn_of _ (by decide +kernel)) ggX2_next_X2_counts
set_option maxRecDepth 20000 in
theorem ggL_setUses_X1_setUses : GoodIn wsL_setUses wsX1_setUses := goodIn_ca (goodIn_ca (goodIn_r _ [7, 8, 9, 10, 11, 12, 6, 13, 14, 15, 16, 17, 18, 19, 20, 21, 22, 23, 24, 25, 26, 27, 28, 29, 30, 31] (by decide +kernel) (by decide +kernel)) (goodIn_sub (fun _ h => List.mem_cons_of_mem _ (List.mem_append_left _ (List.mem_append_right _ h))) (by decide +kernel))) (goodIn_sub (fun _ h => List.mem_cons_of_mem _ (List.mem_append_right _ h)) (by decide +kernel))
set_option maxRecDepth 20000 in
theorem gL_setUses_X1_setUses : GoodIn wsL_setUses (wsV RL 7 RX1 yX1_setUses wsX1_setUses) := goodIn_app (goodIn_of _ (by decide +kernel)) ggL_setUses_X1_setUses
set_option maxRecDepth 20000 in
theorem ggL_addCommit_X1_addCommit : GoodIn wsL_addCommit wsX1_addCommit := goodIn_ca (goodIn_ca (goodIn_r _ [7, 8, 9, 10, 11, 12, 13, 6, 14, 15, 16, 17, 18, 19, 20, 21, 22, 23, 24, 25, 26, 27, 28, 29, 30, 31, 32] (by decide +kernel) (by decide +kernel)) (goodIn_sub (fun _ h => List.mem_cons_of_mem _ (List.mem_append_left _ (List.mem_append_right _ h))) (by decide +kernel))) (goodIn_sub (fun _ h => List.mem_cons_of_mem _ (List.mem_append_right _ h)) (by decide +kernel))
set_option maxRecDepth 20000 in
theorem gL_addCommit_X1_addCommit : GoodIn wsL_addCommit (wsV RL 17 RX1 yX1_addCommit wsX1_addCommit) := goodIn_app (goodIn_of _ (by decide +kernel)) ggL_addCommit_X1_addCommit
set_option maxRecDepth 20000 in
theorem ggL_addTest_X1_addTest : GoodIn wsL_addTest wsX1_addTest := goodIn_ca (goodIn_ca (goodIn_r _ [7, 8, 9, 10, 11, 12, 13, 6, 14, 15, 16, 17, 18, 19, 20, 21, 22, 23, 24, 25, 26, 27, 28, 29, 30, 31, 32] (by decide +kernel) (by decide +kernel)) (goodIn_sub (fun _ h => List.mem_cons_of_mem _ (List.mem_append_left _ (List.mem_append_right _ h))) (by decide +kernel))) (goodIn_sub (fun _ h => List.mem_cons_of_mem _ (List.mem_append_right _ h)) (by decide +kernel))
set_option maxRecDepth 20000 in
theorem gL_addTest_X1_addTest : GoodIn wsL_addTest (wsV RL 23 RX1 yX1_addTest wsX1_addTest) := goodIn_app (goodIn_of _ (by decide +kernel)) ggL_addTest_X1_addTest
set_option maxRecDepth 20000 in
theorem ggL_setQuarantine_X1_setQuarantine : GoodIn wsL_setQuarantine wsX1_setQuarantine := goodIn_ca (goodIn_r _ [6, 7, 8, 9, 10, 11, 12, 13, 14, 15, 16, 17, 18, 19, 20, 21, 22, 23, 24, 25] (by decide +kernel) (by decide +kernel)) (goodIn_sub (fun _ h => List.mem_cons_of_mem _ (List.mem_append_right _ h)) (by decide +kernel))
set_option maxRecDepth 20000 in
theorem gL_setQuarantine_X1_setQuarantine : GoodIn wsL_setQuarantine (wsV RL 26 RX1 yX1_setQuarantine wsX1_setQuarantine) := goodIn_app (goodIn_of _ (by decide +kernel)) ggL_setQuarantine_X1_setQuarantine
set_option maxRecDepth 20000 in
theorem ggL_setNoise_X1_setNoise : GoodIn wsL_setNoise wsX1_setNoise := goodIn_ca (goodIn_r _ [6, 7, 8, 9, 10, 11, 12, 13, 14, 15, 16, 17, 18, 19, 20, 21, 22, 23, 24] (by decide +kernel) (by decide +kernel)) (goodIn_sub (fun _ h => List.mem_cons_of_mem _ (List.mem_append_right _ h)) (by decide +kernel))
set_option maxRecDepth 20000 in
theorem gL_setNoise_X1_setNoise : GoodIn wsL_setNoise (wsV RL 30 RX1 yX1_setNoise wsX1_setNoise) := goodIn_app (goodIn_of _ (by decide +kernel)) ggL_setNoise_X1_setNoise
set_option maxRecDepth 20000 in
theorem ggL_record_X1_record : GoodIn wsL_record wsX1_record := goodIn_ca (goodIn_ca (goodIn_r _ [7, 8, 9, 10, 11, 12, 13, 6, 14, 15, 16, 17, 18, 19, 20, 21, 22, 23, 24, 25, 26, 27, 28, 29, 30, 31, 32, 33, 34, 35, 36, 37, 38, 39, 40, 41, 42, 43, 44, 45, 46, 47, 48, 49, 50, 51, 52, 53, 54, 55, 56] (by decide +kernel) (by decide +kernel)) (goodIn_sub (fun _ h => List.mem_cons_of_mem _ (List.mem_append_left _ (List.mem_append_right _ h))) (by decide +kernel))) (goodIn_sub (fun _ h => List.mem_cons_of_mem _ (List.mem_append_right _ h)) (by decide +kernel))
set_option maxRecDepth 20000 in
theorem gL_record_X1_record : GoodIn wsL_record (wsV RL 33 RX1 yX1_record wsX1_record) := goodIn_app (goodIn_of _ (by decide +kernel)) ggL_record_X1_record
set_option maxRecDepth 20000 in
theorem ggL_triage_X1_triage : GoodIn wsL_triage wsX1_triage := goodIn_ca (goodIn_ca (goodIn_r _ [7, 8, 9, 10, 11, 12, 13, 14, 15, 6, 16, 17, 18, 19, 20, 21, 22, 23, 24, 25, 26, 27, 28, 29, 30, 31, 32, 33, 34, 35, 36, 37, 38, 39, 40, 41, 42, 43, 44, 45, 46, 47, 48, 49, 50, 51, 52, 53, 54, 55, 56, 57, 58, 59, 60, 61, 62, 63, 64, 65, 66, 67, 68, 69, 70, 71, 72, 73, 74, 75, 76, 77, 78, 79, 80, 81, 82] (by decide +kernel) (by decide +kernel)) (goodIn_sub (fun _ h => List.mem_cons_of_mem _ (List.mem_append_left _ (List.mem_append_right _ h))) (by decide +kernel))) (goodIn_sub (fun _ h => List.mem_cons_of_mem _ (List.mem_append_right _ h)) (by decide +kernel))
set_option maxRecDepth 20000 in
theorem gL_triage_X1_triage : GoodIn wsL_triage (wsV RL 37 RX1 yX1_triage wsX1_triage) := goodIn_app (goodIn_of _ (by decide +kernel)) ggL_triage_X1_triage
set_option maxRecDepth 20000 in
theorem ggL_close_X1_close : GoodIn wsL_close wsX1_close := goodIn_ca (goodIn_ca (goodIn_r _ [7, 8, 9, 10, 11, 6, 12, 13, 14, 15, 16, 17, 18, 19, 20, 21, 22, 23, 24, 25, 26, 27, 28, 29, 30, 31, 32, 33, 34, 35, 36, 37, 38, 39, 40, 41, 42, 43, 44, 45, 46, 47, 48, 49, 50, 51, 52, 53, 54, 55, 56, 57, 58, 59, 60, 61, 62, 63, 64, 65, 66, 67, 68, 69, 70, 71, 72, 73, 74, 75, 76, 77, 78, 79, 80, 81, 82, 83, 84, 85, 86, 87, 88, 89, 90, 91] (by decide +kernel) (by decide +kernel)) (goodIn_sub (fun _ h => List.mem_cons_of_mem _ (List.mem_append_left _ (List.mem_append_right _ h))) (by decide +kernel))) (goodIn_sub (fun _ h => List.mem_cons_of_mem _ (List.mem_append_right _ h)) (by decide +kernel))
set_option maxRecDepth 20000 in
theorem gL_close_X1_close : GoodIn wsL_close (wsV RL 41 RX1 yX1_close wsX1_close) := goodIn_app (goodIn_of _ (by decide +kernel)) ggL_close_X1_close
set_option maxRecDepth 20000 in
theorem ggL_enqueue_X1_enqueue : GoodIn wsL_enqueue wsX1_enqueue := goodIn_ca (goodIn_ca (goodIn_r _ [7, 8, 9, 10, 11, 12, 13, 14, 6, 15, 16, 17, 18, 19, 20, 21, 22, 23, 24, 25, 26, 27, 28, 29, 30, 31, 32, 33, 34, 35, 36, 37, 38, 39, 40, 41, 42] (by decide +kernel) (by decide +kernel)) (goodIn_sub (fun _ h => List.mem_cons_of_mem _ (List.mem_append_left _ (List.mem_append_right _ h))) (by decide +kernel))) (goodIn_sub (fun _ h => List.mem_cons_of_mem _ (List.mem_append_right _ h)) (by decide +kernel))
set_option maxRecDepth 20000 in
theorem gL_enqueue_X1_enqueue : GoodIn wsL_enqueue (wsV RL 44 RX1 yX1_enqueue wsX1_enqueue) := goodIn_app (goodIn_of _ (by decide +kernel)) ggL_enqueue_X1_enqueue
set_option maxRecDepth 20000 in
theorem ggL_newDay_X1_newDay : GoodIn wsL_newDay wsX1_newDay := goodIn_ca (goodIn_r _ [6, 7, 8, 9, 10, 11, 12, 13, 14, 15, 16, 17, 18, 19, 20, 21, 22, 23, 24] (by decide +kernel) (by decide +kernel)) (goodIn_sub (fun _ h => List.mem_cons_of_mem _ (List.mem_append_right _ h)) (by decide +kernel))
set_option maxRecDepth 20000 in
theorem gL_newDay_X1_newDay : GoodIn wsL_newDay (wsV RL 47 RX1 yX1_newDay wsX1_newDay) := goodIn_app (goodIn_of _ (by decide +kernel)) ggL_newDay_X1_newDay
set_option maxRecDepth 20000 in
theorem ggL_take_X1_take : GoodIn wsL_take wsX1_take := goodIn_ca (goodIn_r _ [6, 7, 8, 9, 10, 11, 12, 5, 13, 14, 15, 16, 17, 18, 19, 20, 21, 22, 23, 24, 25, 26, 27, 28, 29, 30, 31, 32, 33, 34, 35, 36, 37, 38, 39, 40, 41, 42, 43, 44, 45, 46, 47, 48, 49, 50, 51, 52, 53, 54, 55, 56, 57, 58, 59, 60, 61, 62, 63, 64, 65, 66, 67, 68, 69, 70, 71, 72, 73, 74, 75, 76, 77, 78, 79, 80, 81, 82, 83, 84] (by decide +kernel) (by decide +kernel)) (goodIn_sub (fun _ h => List.mem_cons_of_mem _ (List.mem_append_right _ h)) (by decide +kernel))
set_option maxRecDepth 20000 in
theorem gL_take_X1_take : GoodIn wsL_take (wsV RL 50 RX1 yX1_take wsX1_take) := goodIn_app (goodIn_of _ (by decide +kernel)) ggL_take_X1_take
set_option maxRecDepth 20000 in
theorem ggL_partsOf_X1_partsOf : GoodIn wsL_partsOf wsX1_partsOf := goodIn_ca (goodIn_r _ [6, 7, 8, 9, 5, 10, 11, 12, 13, 14, 15, 16, 17, 18, 19, 20, 21, 22, 23, 24, 25, 26, 27, 28, 29, 30, 31, 32, 33, 34, 35, 36, 37] (by decide +kernel) (by decide +kernel)) (goodIn_sub (fun _ h => List.mem_cons_of_mem _ (List.mem_append_right _ h)) (by decide +kernel))
set_option maxRecDepth 20000 in
theorem gL_partsOf_X1_partsOf : GoodIn wsL_partsOf (wsV RL 54 RX1 yX1_partsOf wsX1_partsOf) := goodIn_app (goodIn_of _ (by decide +kernel)) ggL_partsOf_X1_partsOf
set_option maxRecDepth 20000 in
theorem ggL_touches_X1_touches : GoodIn wsL_touches wsX1_touches := goodIn_ca (goodIn_r _ [6, 7, 8, 9, 10, 11, 5, 12, 13, 14, 15, 16, 17, 18, 19, 20, 21, 22, 23, 24, 25, 26, 27, 28, 29, 30, 31, 32, 33, 34, 35, 36, 37, 38, 39] (by decide +kernel) (by decide +kernel)) (goodIn_sub (fun _ h => List.mem_cons_of_mem _ (List.mem_append_right _ h)) (by decide +kernel))
set_option maxRecDepth 20000 in
theorem gL_touches_X1_touches : GoodIn wsL_touches (wsV RL 57 RX1 yX1_touches wsX1_touches) := goodIn_app (goodIn_of _ (by decide +kernel)) ggL_touches_X1_touches
set_option maxRecDepth 20000 in
theorem ggL_runs_X1_runs : GoodIn wsL_runs wsX1_runs := goodIn_ca (goodIn_r _ [6, 7, 8, 9, 10, 5, 11, 12, 13, 14, 15, 16, 17, 18, 19, 20, 21, 22, 23, 24, 25, 26, 27, 28, 29, 30, 31, 32, 33, 34, 35, 36, 37, 38, 39, 40] (by decide +kernel) (by decide +kernel)) (goodIn_sub (fun _ h => List.mem_cons_of_mem _ (List.mem_append_right _ h)) (by decide +kernel))
set_option maxRecDepth 20000 in
theorem gL_runs_X1_runs : GoodIn wsL_runs (wsV RL 60 RX1 yX1_runs wsX1_runs) := goodIn_app (goodIn_of _ (by decide +kernel)) ggL_runs_X1_runs
set_option maxRecDepth 20000 in
theorem ggL_verdict_X1_verdict : GoodIn wsL_verdict wsX1_verdict := goodIn_ca (goodIn_r _ [6, 7, 8, 9, 10, 5, 11, 12, 13, 14, 15, 16, 17, 18, 19, 20, 21, 22, 23, 24, 25, 26, 27, 28, 29, 30, 31, 32, 33, 34, 35, 36, 37, 38, 39, 40, 41, 42, 43, 44, 45, 46] (by decide +kernel) (by decide +kernel)) (goodIn_sub (fun _ h => List.mem_cons_of_mem _ (List.mem_append_right _ h)) (by decide +kernel))
set_option maxRecDepth 20000 in
theorem gL_verdict_X1_verdict : GoodIn wsL_verdict (wsV RL 63 RX1 yX1_verdict wsX1_verdict) := goodIn_app (goodIn_of _ (by decide +kernel)) ggL_verdict_X1_verdict
set_option maxRecDepth 20000 in
theorem ggL_failing_X1_failing : GoodIn wsL_failing wsX1_failing := goodIn_ca (goodIn_r _ [6, 7, 8, 9, 10, 5, 11, 12, 13, 14, 15, 16, 17, 18, 19, 20, 21, 22, 23, 24, 25, 26, 27, 28, 29, 30, 31, 32, 33, 34, 35, 36, 37, 38, 39, 40, 41, 42, 43, 44, 45] (by decide +kernel) (by decide +kernel)) (goodIn_sub (fun _ h => List.mem_cons_of_mem _ (List.mem_append_right _ h)) (by decide +kernel))
set_option maxRecDepth 20000 in
theorem gL_failing_X1_failing : GoodIn wsL_failing (wsV RL 66 RX1 yX1_failing wsX1_failing) := goodIn_app (goodIn_of _ (by decide +kernel)) ggL_failing_X1_failing
set_option maxRecDepth 20000 in
theorem ggL_isQuarantined_X1_isQuarantined : GoodIn wsL_isQuarantined wsX1_isQuarantined := goodIn_ca (goodIn_r _ [6, 7, 8, 9, 5, 10, 11, 12, 13, 14, 15, 16, 17, 18, 19, 20, 21, 22, 23, 24, 25, 26, 27, 28, 29, 30, 31, 32, 33, 34, 35, 36, 37, 38, 39, 40, 41, 42, 43, 44, 45, 46, 47, 48, 49, 50, 51, 52] (by decide +kernel) (by decide +kernel)) (goodIn_sub (fun _ h => List.mem_cons_of_mem _ (List.mem_append_right _ h)) (by decide +kernel))
set_option maxRecDepth 20000 in
theorem gL_isQuarantined_X1_isQuarantined : GoodIn wsL_isQuarantined (wsV RL 69 RX1 yX1_isQuarantined wsX1_isQuarantined) := goodIn_app (goodIn_of _ (by decide +kernel)) ggL_isQuarantined_X1_isQuarantined
set_option maxRecDepth 20000 in
theorem ggL_broken_X1_broken : GoodIn wsL_broken wsX1_broken := goodIn_ca (goodIn_r _ [6, 7, 8, 9, 10, 11, 5, 12, 13, 14, 15, 16, 17, 18, 19, 20, 21, 22, 23, 24, 25, 26, 27, 28, 29, 30, 31, 32, 33, 34, 35, 36, 37, 38, 39, 40, 41, 42, 43, 44, 45, 46, 47, 48, 49, 50, 51, 52] (by decide +kernel) (by decide +kernel)) (goodIn_sub (fun _ h => List.mem_cons_of_mem _ (List.mem_append_right _ h)) (by decide +kernel))
set_option maxRecDepth 20000 in
theorem gL_broken_X1_broken : GoodIn wsL_broken (wsV RL 73 RX1 yX1_broken wsX1_broken) := goodIn_app (goodIn_of _ (by decide +kernel)) ggL_broken_X1_broken
set_option maxRecDepth 20000 in
theorem ggL_suspects_X1_suspects : GoodIn wsL_suspects wsX1_suspects := goodIn_ca (goodIn_ca (goodIn_r _ [7, 8, 9, 10, 6, 11, 12, 13, 14, 15, 16, 17, 18, 19, 20, 21, 22, 23, 24, 25, 26, 27, 28, 29, 30, 31, 32, 33, 34, 35, 36, 37, 38, 39, 40, 41, 42, 43, 44, 45, 46, 47, 48, 49, 50, 51, 52] (by decide +kernel) (by decide +kernel)) (goodIn_sub (fun _ h => List.mem_cons_of_mem _ (List.mem_append_left _ (List.mem_append_right _ h))) (by decide +kernel))) (goodIn_sub (fun _ h => List.mem_cons_of_mem _ (List.mem_append_right _ h)) (by decide +kernel))
set_option maxRecDepth 20000 in
theorem gL_suspects_X1_suspects : GoodIn wsL_suspects (wsV RL 76 RX1 yX1_suspects wsX1_suspects) := goodIn_app (goodIn_of _ (by decide +kernel)) ggL_suspects_X1_suspects
set_option maxRecDepth 20000 in
theorem ggL_contradictions_X1_contradictions : GoodIn wsL_contradictions wsX1_contradictions := goodIn_ca (goodIn_ca (goodIn_r _ [7, 8, 9, 10, 11, 12, 13, 6, 14, 15, 16, 17, 18, 19, 20, 21, 22, 23, 24, 25, 26, 27, 28, 29, 30, 31, 32, 33, 34, 35, 36, 37, 38, 39, 40, 41, 42, 43, 44, 45, 46, 47, 48, 49, 50, 51, 52, 53, 54, 55, 56, 57, 58, 59, 60, 61, 62, 63, 64, 65, 66, 67, 68, 69, 70, 71] (by decide +kernel) (by decide +kernel)) (goodIn_sub (fun _ h => List.mem_cons_of_mem _ (List.mem_append_left _ (List.mem_append_right _ h))) (by decide +kernel))) (goodIn_sub (fun _ h => List.mem_cons_of_mem _ (List.mem_append_right _ h)) (by decide +kernel))
set_option maxRecDepth 20000 in
theorem gL_contradictions_X1_contradictions : GoodIn wsL_contradictions (wsV RL 80 RX1 yX1_contradictions wsX1_contradictions) := goodIn_app (goodIn_of _ (by decide +kernel)) ggL_contradictions_X1_contradictions
set_option maxRecDepth 20000 in
theorem ggL_candidates_X1_candidates : GoodIn wsL_candidates wsX1_candidates := goodIn_ca (goodIn_ca (goodIn_r _ [7, 8, 9, 10, 6, 11, 12, 13, 14, 15, 16, 17, 18, 19, 20, 21, 22, 23, 24, 25, 26, 27, 28, 29, 30, 31, 32, 33, 34, 35, 36, 37, 38, 39, 40, 41, 42, 43, 44, 45, 46, 47, 48, 49, 50, 51, 52, 53, 54, 55, 56, 57, 58, 59, 60, 61, 62, 63, 64, 65, 66, 67, 68, 69, 70, 71, 72, 73, 74] (by decide +kernel) (by decide +kernel)) (goodIn_sub (fun _ h => List.mem_cons_of_mem _ (List.mem_append_left _ (List.mem_append_right _ h))) (by decide +kernel))) (goodIn_sub (fun _ h => List.mem_cons_of_mem _ (List.mem_append_right _ h)) (by decide +kernel))
set_option maxRecDepth 20000 in
theorem gL_candidates_X1_candidates : GoodIn wsL_candidates (wsV RL 83 RX1 yX1_candidates wsX1_candidates) := goodIn_app (goodIn_of _ (by decide +kernel)) ggL_candidates_X1_candidates
set_option maxRecDepth 20000 in
theorem ggL_likeliest_X1_likeliest : GoodIn wsL_likeliest wsX1_likeliest := goodIn_ca (goodIn_ca (goodIn_r _ [7, 8, 9, 10, 6, 11, 12, 13, 14, 15, 16, 17, 18, 19, 20, 21, 22, 23, 24, 25, 26, 27, 28, 29, 30, 31, 32, 33, 34, 35, 36, 37, 38, 39, 40, 41, 42, 43, 44, 45, 46, 47, 48, 49, 50, 51, 52, 53, 54, 55, 56, 57, 58, 59, 60, 61, 62, 63, 64, 65, 66, 67, 68, 69, 70, 71, 72, 73] (by decide +kernel) (by decide +kernel)) (goodIn_sub (fun _ h => List.mem_cons_of_mem _ (List.mem_append_left _ (List.mem_append_right _ h))) (by decide +kernel))) (goodIn_sub (fun _ h => List.mem_cons_of_mem _ (List.mem_append_right _ h)) (by decide +kernel))
set_option maxRecDepth 20000 in
theorem gL_likeliest_X1_likeliest : GoodIn wsL_likeliest (wsV RL 86 RX1 yX1_likeliest wsX1_likeliest) := goodIn_app (goodIn_of _ (by decide +kernel)) ggL_likeliest_X1_likeliest
set_option maxRecDepth 20000 in
theorem ggL_next_X1_next : GoodIn wsL_next wsX1_next := goodIn_ca (goodIn_ca (goodIn_r _ [7, 8, 9, 10, 11, 12, 13, 6, 14, 15, 16, 17, 18, 19, 20, 21, 22, 23, 24, 25, 26, 27, 28, 29, 30, 31, 32, 33, 34, 35, 36, 37, 38, 39, 40, 41, 42, 43, 44, 45, 46, 47, 48, 49, 50, 51, 52, 53, 54, 55, 56, 57, 58, 59, 60, 61, 62, 63, 64, 65, 66, 67, 68, 69, 70, 71, 72, 73, 74, 75, 76, 77, 78, 79, 80, 81, 82, 83, 84, 85, 86, 87, 88, 89, 90, 91, 92] (by decide +kernel) (by decide +kernel)) (goodIn_sub (fun _ h => List.mem_cons_of_mem _ (List.mem_append_left _ (List.mem_append_right _ h))) (by decide +kernel))) (goodIn_sub (fun _ h => List.mem_cons_of_mem _ (List.mem_append_right _ h)) (by decide +kernel))
set_option maxRecDepth 20000 in
theorem gL_next_X1_next : GoodIn wsL_next (wsV RL 89 RX1 yX1_next wsX1_next) := goodIn_app (goodIn_of _ (by decide +kernel)) ggL_next_X1_next
set_option maxRecDepth 20000 in
theorem ggL_law_X1_init : GoodIn wsL_law wsX1_init := goodIn_r _ [9, 10, 11, 12, 13, 14, 15, 16, 17, 18, 19, 20, 21, 22, 23, 24, 25, 26, 27, 28, 29, 30, 31, 32, 33, 34, 35, 36, 37, 38, 39, 40, 41, 541, 542, 543, 544, 545, 546, 547, 548, 549, 550, 551, 552, 553, 554, 555, 572, 573, 574, 575, 576] (by decide +kernel) (by decide +kernel)
set_option maxRecDepth 20000 in
theorem gL_law_X1_init : GoodIn wsL_law (wsX1_init) := ggL_law_X1_init
set_option maxRecDepth 20000 in
theorem ggL_law_X2_init : GoodIn wsL_law wsX2_init := goodIn_r _ [44, 45, 11, 12, 46, 47, 13, 48, 49, 50, 51, 52, 53, 54, 55, 556, 557, 558, 559, 560, 561, 562, 563, 564, 565, 566, 567, 568, 569, 570, 571] (by decide +kernel) (by decide +kernel)
set_option maxRecDepth 20000 in
theorem gL_law_X2_init : GoodIn wsL_law (wsX2_init) := ggL_law_X2_init
set_option maxRecDepth 20000 in
theorem ggL_law_L_setUses : GoodIn wsL_law wsL_setUses := goodIn_ca (goodIn_ca (goodIn_r _ [59, 60, 61, 62, 63, 64, 2, 65, 66, 67, 14, 68, 69, 70, 71, 72, 73, 541, 542, 543, 544, 545, 546, 547, 548, 549, 550, 551, 552, 553, 554, 555] (by decide +kernel) (by decide +kernel)) (goodIn_sub (fun _ h => List.mem_append_left _ (List.mem_append_left _ (List.mem_append_right _ h))) (by decide +kernel))) (goodIn_sub (fun _ h => List.mem_append_left _ (List.mem_append_right _ h)) (by decide +kernel))
set_option maxRecDepth 20000 in
theorem gL_law_L_setUses : GoodIn wsL_law (va_wsS RL 96 yL_setUses wsL_setUses) := goodIn_app (goodIn_of _ (by decide +kernel)) ggL_law_L_setUses
set_option maxRecDepth 20000 in
theorem ggL_law_X2_setUses : GoodIn wsL_law wsX2_setUses := goodIn_r _ [77, 48, 78, 79, 5, 80, 81, 82, 83, 84, 85, 86, 87, 88, 89, 556, 557, 558, 559, 560, 561, 562, 563, 564, 565, 566, 567, 568, 569, 570, 571] (by decide +kernel) (by decide +kernel)
set_option maxRecDepth 20000 in
theorem gL_law_X2_setUses : GoodIn wsL_law (wsV RL 101 RX2 yX2_setUses wsX2_setUses) := goodIn_app (goodIn_of _ (by decide +kernel)) ggL_law_X2_setUses
set_option maxRecDepth 20000 in
theorem ggL_law_X2_thrown : GoodIn wsL_law wsX2_thrown := goodIn_r _ [93, 89, 556, 557, 558, 559, 560, 561, 562, 563, 564, 565, 566, 567, 568, 569, 570, 571] (by decide +kernel) (by decide +kernel)
set_option maxRecDepth 20000 in
theorem gL_law_X2_thrown : GoodIn wsL_law (wsV RL 102 RX2 yX2_thrown wsX2_thrown) := goodIn_app (goodIn_of _ (by decide +kernel)) ggL_law_X2_thrown
set_option maxRecDepth 20000 in
theorem ggL_law_L_addCommit : GoodIn wsL_law wsL_addCommit := goodIn_ca (goodIn_ca (goodIn_r _ [96, 61, 97, 98, 99, 100, 2, 101, 102, 103, 27, 15, 68, 69, 70, 71, 72, 73, 541, 542, 543, 544, 545, 546, 547, 548, 549, 550, 551, 552, 553, 554, 555] (by decide +kernel) (by decide +kernel)) (goodIn_sub (fun _ h => List.mem_append_right _ h) (by decide +kernel))) (goodIn_sub (fun _ h => List.mem_append_left _ (List.mem_append_right _ h)) (by decide +kernel))
set_option maxRecDepth 20000 in
theorem gL_law_L_addCommit : GoodIn wsL_law (va_wsS RL 105 yL_addCommit wsL_addCommit) := goodIn_app (goodIn_of _ (by decide +kernel)) ggL_law_L_addCommit
set_option maxRecDepth 20000 in
theorem ggL_law_X2_addCommit : GoodIn wsL_law wsX2_addCommit := goodIn_r _ [107, 108, 49, 81, 82, 5, 83, 84, 78, 79, 80, 85, 86, 87, 88, 89, 556, 557, 558, 559, 560, 561, 562, 563, 564, 565, 566, 567, 568, 569, 570, 571] (by decide +kernel) (by decide +kernel)
set_option maxRecDepth 20000 in
theorem gL_law_X2_addCommit : GoodIn wsL_law (wsV RL 108 RX2 yX2_addCommit wsX2_addCommit) := goodIn_app (goodIn_of _ (by decide +kernel)) ggL_law_X2_addCommit
set_option maxRecDepth 20000 in
theorem ggL_law_L_addTest : GoodIn wsL_law wsL_addTest := goodIn_ca (goodIn_ca (goodIn_r _ [111, 61, 97, 112, 113, 114, 2, 115, 102, 103, 28, 16, 68, 69, 70, 71, 72, 73, 541, 542, 543, 544, 545, 546, 547, 548, 549, 550, 551, 552, 553, 554, 555] (by decide +kernel) (by decide +kernel)) (goodIn_sub (fun _ h => List.mem_append_right _ h) (by decide +kernel))) (goodIn_sub (fun _ h => List.mem_append_left _ (List.mem_append_right _ h)) (by decide +kernel))
set_option maxRecDepth 20000 in
theorem gL_law_L_addTest : GoodIn wsL_law (va_wsS RL 109 yL_addTest wsL_addTest) := goodIn_app (goodIn_of _ (by decide +kernel)) ggL_law_L_addTest
set_option maxRecDepth 20000 in
theorem ggL_law_X2_addTest : GoodIn wsL_law wsX2_addTest := goodIn_r _ [119, 120, 50, 81, 82, 5, 83, 84, 78, 79, 80, 85, 86, 87, 88, 89, 556, 557, 558, 559, 560, 561, 562, 563, 564, 565, 566, 567, 568, 569, 570, 571] (by decide +kernel) (by decide +kernel)
set_option maxRecDepth 20000 in
theorem gL_law_X2_addTest : GoodIn wsL_law (wsV RL 111 RX2 yX2_addTest wsX2_addTest) := goodIn_app (goodIn_of _ (by decide +kernel)) ggL_law_X2_addTest
set_option maxRecDepth 20000 in
theorem ggL_law_L_setQuarantine : GoodIn wsL_law wsL_setQuarantine := goodIn_ca (goodIn_r _ [123, 61, 124, 125, 126, 2, 127, 71, 72, 29, 30, 541, 542, 543, 544, 545, 546, 547, 548, 549, 550, 551, 552, 553, 554, 555] (by decide +kernel) (by decide +kernel)) (goodIn_sub (fun _ h => List.mem_append_left _ (List.mem_append_right _ h)) (by decide +kernel))
set_option maxRecDepth 20000 in
theorem gL_law_L_setQuarantine : GoodIn wsL_law (va_wsS RL 112 yL_setQuarantine wsL_setQuarantine) := goodIn_app (goodIn_of _ (by decide +kernel)) ggL_law_L_setQuarantine
set_option maxRecDepth 20000 in
theorem ggL_law_X2_setQuarantine : GoodIn wsL_law wsX2_setQuarantine := goodIn_r _ [131, 46, 47, 78, 79, 5, 80, 85, 86, 87, 88, 89, 556, 557, 558, 559, 560, 561, 562, 563, 564, 565, 566, 567, 568, 569, 570, 571] (by decide +kernel) (by decide +kernel)
set_option maxRecDepth 20000 in
theorem gL_law_X2_setQuarantine : GoodIn wsL_law (wsV RL 115 RX2 yX2_setQuarantine wsX2_setQuarantine) := goodIn_app (goodIn_of _ (by decide +kernel)) ggL_law_X2_setQuarantine
set_option maxRecDepth 20000 in
theorem ggL_law_L_setNoise : GoodIn wsL_law wsL_setNoise := goodIn_ca (goodIn_r _ [134, 61, 135, 136, 137, 2, 138, 71, 72, 31, 541, 542, 543, 544, 545, 546, 547, 548, 549, 550, 551, 552, 553, 554, 555] (by decide +kernel) (by decide +kernel)) (goodIn_sub (fun _ h => List.mem_append_left _ (List.mem_append_right _ h)) (by decide +kernel))
set_option maxRecDepth 20000 in
theorem gL_law_L_setNoise : GoodIn wsL_law (va_wsS RL 116 yL_setNoise wsL_setNoise) := goodIn_app (goodIn_of _ (by decide +kernel)) ggL_law_L_setNoise
set_option maxRecDepth 20000 in
theorem ggL_law_X2_setNoise : GoodIn wsL_law wsX2_setNoise := goodIn_r _ [142, 143, 78, 79, 5, 80, 85, 86, 87, 88, 89, 556, 557, 558, 559, 560, 561, 562, 563, 564, 565, 566, 567, 568, 569, 570, 571] (by decide +kernel) (by decide +kernel)
set_option maxRecDepth 20000 in
theorem gL_law_X2_setNoise : GoodIn wsL_law (wsV RL 118 RX2 yX2_setNoise wsX2_setNoise) := goodIn_app (goodIn_of _ (by decide +kernel)) ggL_law_X2_setNoise
set_option maxRecDepth 20000 in
theorem ggL_law_L_record : GoodIn wsL_law wsL_record := goodIn_ca (goodIn_ca (goodIn_r _ [146, 60, 97, 147, 148, 149, 2, 150, 102, 103, 20, 151, 152, 153, 154, 66, 67, 28, 155, 156, 157, 158, 27, 159, 160, 161, 19, 162, 36, 38, 39, 40, 41, 163, 164, 165, 166, 541, 542, 543, 544, 545, 546, 547, 548, 549, 550, 551, 552, 553, 554, 555, 572, 573, 574, 575, 576] (by decide +kernel) (by decide +kernel)) (goodIn_sub (fun _ h => List.mem_append_right _ h) (by decide +kernel))) (goodIn_sub (fun _ h => List.mem_append_left _ (List.mem_append_left _ (List.mem_append_right _ h))) (by decide +kernel))
set_option maxRecDepth 20000 in
theorem gL_law_L_record : GoodIn wsL_law (va_wsS RL 119 yL_record wsL_record) := goodIn_app (goodIn_of _ (by decide +kernel)) ggL_law_L_record
set_option maxRecDepth 20000 in
theorem ggL_law_X2_record : GoodIn wsL_law wsX2_record := goodIn_r _ [170, 51, 52, 171, 172, 173, 5, 174, 120, 78, 79, 80, 175, 176, 177, 178, 108, 179, 180, 181, 182, 183, 184, 185, 186, 85, 86, 87, 88, 89, 187, 188, 189, 190, 556, 557, 558, 559, 560, 561, 562, 563, 564, 565, 566, 567, 568, 569, 570, 571] (by decide +kernel) (by decide +kernel)
set_option maxRecDepth 20000 in
theorem gL_law_X2_record : GoodIn wsL_law (wsV RL 122 RX2 yX2_record wsX2_record) := goodIn_app (goodIn_of _ (by decide +kernel)) ggL_law_X2_record
set_option maxRecDepth 20000 in
theorem ggL_law_L_triage : GoodIn wsL_law wsL_triage := goodIn_ca (goodIn_ca (goodIn_r _ [193, 60, 61, 194, 195, 196, 2, 197, 71, 72, 22, 23, 24, 151, 152, 153, 154, 66, 67, 28, 155, 156, 157, 158, 27, 198, 199, 200, 201, 20, 31, 202, 203, 204, 205, 15, 206, 207, 208, 209, 16, 14, 210, 211, 212, 213, 214, 215, 19, 216, 40, 217, 218, 219, 220, 41, 221, 222, 223, 224, 225, 226, 227, 541, 542, 543, 544, 545, 546, 547, 548, 549, 550, 551, 552, 553, 554, 555, 572, 573, 574, 575, 576] (by decide +kernel) (by decide +kernel)) (goodIn_sub (fun _ h => List.mem_append_left _ (List.mem_append_right _ h)) (by decide +kernel))) (goodIn_sub (fun _ h => List.mem_append_left _ (List.mem_append_left _ (List.mem_append_right _ h))) (by decide +kernel))
set_option maxRecDepth 20000 in
theorem gL_law_L_triage : GoodIn wsL_law (va_wsS RL 123 yL_triage wsL_triage) := goodIn_app (goodIn_of _ (by decide +kernel)) ggL_law_L_triage
set_option maxRecDepth 20000 in
theorem ggL_law_X2_triage : GoodIn wsL_law wsX2_triage := goodIn_r _ [231, 53, 54, 171, 172, 173, 5, 174, 120, 78, 79, 80, 175, 176, 177, 178, 108, 85, 86, 87, 88, 89, 232, 233, 234, 235, 236, 237, 238, 239, 240, 241, 242, 243, 143, 244, 245, 246, 247, 49, 248, 249, 250, 251, 50, 48, 252, 253, 254, 255, 52, 51, 556, 557, 558, 559, 560, 561, 562, 563, 564, 565, 566, 567, 568, 569, 570, 571] (by decide +kernel) (by decide +kernel)
set_option maxRecDepth 20000 in
theorem gL_law_X2_triage : GoodIn wsL_law (wsV RL 126 RX2 yX2_triage wsX2_triage) := goodIn_app (goodIn_of _ (by decide +kernel)) ggL_law_X2_triage
set_option maxRecDepth 20000 in
theorem ggL_law_L_close : GoodIn wsL_law wsL_close := goodIn_ca (goodIn_ca (goodIn_r _ [258, 60, 97, 259, 260, 261, 2, 262, 22, 151, 152, 153, 154, 66, 67, 28, 263, 264, 265, 266, 102, 103, 198, 199, 200, 201, 23, 24, 20, 31, 202, 203, 204, 205, 15, 206, 207, 208, 209, 16, 14, 210, 211, 212, 213, 214, 215, 19, 216, 40, 217, 218, 219, 220, 41, 221, 222, 223, 224, 225, 226, 227, 267, 268, 269, 270, 271, 272, 273, 274, 25, 26, 541, 542, 543, 544, 545, 546, 547, 548, 549, 550, 551, 552, 553, 554, 555, 572, 573, 574, 575, 576] (by decide +kernel) (by decide +kernel)) (goodIn_sub (fun _ h => List.mem_append_left _ (List.mem_append_left _ (List.mem_append_right _ h))) (by decide +kernel))) (goodIn_sub (fun _ h => List.mem_append_right _ h) (by decide +kernel))
set_option maxRecDepth 20000 in
theorem gL_law_L_close : GoodIn wsL_law (va_wsS RL 127 yL_close wsL_close) := goodIn_app (goodIn_of _ (by decide +kernel)) ggL_law_L_close
set_option maxRecDepth 20000 in
theorem ggL_law_X2_close : GoodIn wsL_law wsX2_close := goodIn_r _ [278, 53, 171, 172, 173, 5, 174, 120, 78, 79, 80, 279, 280, 281, 282, 85, 86, 87, 88, 89, 283, 284, 285, 286, 54, 240, 241, 242, 243, 143, 244, 245, 246, 247, 49, 248, 249, 250, 251, 50, 48, 252, 253, 254, 255, 52, 51, 232, 233, 234, 235, 236, 237, 238, 239, 287, 288, 289, 290, 291, 55, 292, 293, 294, 295, 556, 557, 558, 559, 560, 561, 562, 563, 564, 565, 566, 567, 568, 569, 570, 571] (by decide +kernel) (by decide +kernel)
set_option maxRecDepth 20000 in
theorem gL_law_X2_close : GoodIn wsL_law (wsV RL 129 RX2 yX2_close wsX2_close) := goodIn_app (goodIn_of _ (by decide +kernel)) ggL_law_X2_close
set_option maxRecDepth 20000 in
theorem ggL_law_L_enqueue : GoodIn wsL_law wsL_enqueue := goodIn_ca (goodIn_ca (goodIn_r _ [298, 60, 97, 299, 300, 301, 2, 302, 102, 103, 25, 26, 151, 152, 153, 154, 66, 67, 28, 263, 264, 265, 266, 22, 303, 304, 305, 306, 541, 542, 543, 544, 545, 546, 547, 548, 549, 550, 551, 552, 553, 554, 555] (by decide +kernel) (by decide +kernel)) (goodIn_sub (fun _ h => List.mem_append_right _ h) (by decide +kernel))) (goodIn_sub (fun _ h => List.mem_append_left _ (List.mem_append_left _ (List.mem_append_right _ h))) (by decide +kernel))
set_option maxRecDepth 20000 in
theorem gL_law_L_enqueue : GoodIn wsL_law (va_wsS RL 130 yL_enqueue wsL_enqueue) := goodIn_app (goodIn_of _ (by decide +kernel)) ggL_law_L_enqueue
set_option maxRecDepth 20000 in
theorem ggL_law_X2_enqueue : GoodIn wsL_law wsX2_enqueue := goodIn_r _ [310, 291, 171, 172, 173, 5, 174, 120, 78, 79, 80, 279, 280, 281, 282, 53, 287, 288, 289, 290, 55, 85, 86, 87, 88, 89, 311, 312, 313, 314, 556, 557, 558, 559, 560, 561, 562, 563, 564, 565, 566, 567, 568, 569, 570, 571] (by decide +kernel) (by decide +kernel)
set_option maxRecDepth 20000 in
theorem gL_law_X2_enqueue : GoodIn wsL_law (wsV RL 132 RX2 yX2_enqueue wsX2_enqueue) := goodIn_app (goodIn_of _ (by decide +kernel)) ggL_law_X2_enqueue
set_option maxRecDepth 20000 in
theorem ggL_law_L_newDay : GoodIn wsL_law wsL_newDay := goodIn_ca (goodIn_r _ [317, 61, 318, 319, 320, 2, 321, 71, 72, 32, 541, 542, 543, 544, 545, 546, 547, 548, 549, 550, 551, 552, 553, 554, 555] (by decide +kernel) (by decide +kernel)) (goodIn_sub (fun _ h => List.mem_append_left _ (List.mem_append_right _ h)) (by decide +kernel))
set_option maxRecDepth 20000 in
theorem gL_law_L_newDay : GoodIn wsL_law (va_wsS RL 133 yL_newDay wsL_newDay) := goodIn_app (goodIn_of _ (by decide +kernel)) ggL_law_L_newDay
set_option maxRecDepth 20000 in
theorem ggL_law_X2_newDay : GoodIn wsL_law wsX2_newDay := goodIn_r _ [325, 326, 78, 79, 5, 80, 85, 86, 87, 88, 89, 556, 557, 558, 559, 560, 561, 562, 563, 564, 565, 566, 567, 568, 569, 570, 571] (by decide +kernel) (by decide +kernel)
set_option maxRecDepth 20000 in
theorem gL_law_X2_newDay : GoodIn wsL_law (wsV RL 135 RX2 yX2_newDay wsX2_newDay) := goodIn_app (goodIn_of _ (by decide +kernel)) ggL_law_X2_newDay
set_option maxRecDepth 20000 in
theorem ggL_law_L_take : GoodIn wsL_law wsL_take := goodIn_ca (goodIn_r _ [329, 97, 330, 331, 332, 2, 333, 102, 103, 32, 334, 335, 336, 337, 28, 25, 271, 272, 273, 274, 26, 198, 199, 200, 201, 23, 24, 20, 31, 202, 203, 204, 205, 15, 206, 207, 208, 209, 16, 14, 210, 211, 212, 213, 214, 215, 19, 216, 40, 217, 218, 219, 220, 41, 221, 222, 223, 224, 225, 226, 227, 303, 304, 305, 306, 541, 542, 543, 544, 545, 546, 547, 548, 549, 550, 551, 552, 553, 554, 555, 572, 573, 574, 575, 576] (by decide +kernel) (by decide +kernel)) (goodIn_sub (fun _ h => List.mem_append_right _ h) (by decide +kernel))
set_option maxRecDepth 20000 in
theorem gL_law_L_take : GoodIn wsL_law (va_wsS RL 136 yL_take wsL_take) := goodIn_app (goodIn_of _ (by decide +kernel)) ggL_law_L_take
set_option maxRecDepth 20000 in
theorem ggL_law_X2_take : GoodIn wsL_law wsX2_take := goodIn_r _ [341, 291, 326, 55, 85, 86, 87, 5, 88, 89, 292, 293, 294, 295, 232, 233, 234, 235, 53, 54, 236, 237, 238, 239, 240, 241, 242, 243, 143, 244, 245, 246, 247, 49, 248, 249, 250, 251, 50, 48, 252, 253, 254, 255, 52, 51, 311, 312, 313, 314, 556, 557, 558, 559, 560, 561, 562, 563, 564, 565, 566, 567, 568, 569, 570, 571] (by decide +kernel) (by decide +kernel)
set_option maxRecDepth 20000 in
theorem gL_law_X2_take : GoodIn wsL_law (wsV RL 139 RX2 yX2_take wsX2_take) := goodIn_app (goodIn_of _ (by decide +kernel)) ggL_law_X2_take
set_option maxRecDepth 20000 in
theorem ggL_law_X1_commits : GoodIn wsL_law wsX1_commits := goodIn_r _ [345, 27, 541, 542, 543, 544, 545, 546, 547, 548, 549, 550, 551, 552, 553, 554, 555] (by decide +kernel) (by decide +kernel)
set_option maxRecDepth 20000 in
theorem gL_law_X1_commits : GoodIn wsL_law (wsV RL 140 RX1 yX1_commits wsX1_commits) := goodIn_app (goodIn_of _ (by decide +kernel)) ggL_law_X1_commits
set_option maxRecDepth 20000 in
theorem ggL_law_X2_commits : GoodIn wsL_law wsX2_commits := goodIn_r _ [349, 108, 350, 351, 352, 5, 353, 89, 556, 557, 558, 559, 560, 561, 562, 563, 564, 565, 566, 567, 568, 569, 570, 571] (by decide +kernel) (by decide +kernel)
set_option maxRecDepth 20000 in
theorem gL_law_X2_commits : GoodIn wsL_law (wsV RL 143 RX2 yX2_commits wsX2_commits) := goodIn_app (goodIn_of _ (by decide +kernel)) ggL_law_X2_commits
set_option maxRecDepth 20000 in
theorem ggL_law_X1_tests : GoodIn wsL_law wsX1_tests := goodIn_r _ [357, 28, 541, 542, 543, 544, 545, 546, 547, 548, 549, 550, 551, 552, 553, 554, 555] (by decide +kernel) (by decide +kernel)
set_option maxRecDepth 20000 in
theorem gL_law_X1_tests : GoodIn wsL_law (wsV RL 144 RX1 yX1_tests wsX1_tests) := goodIn_app (goodIn_of _ (by decide +kernel)) ggL_law_X1_tests
set_option maxRecDepth 20000 in
theorem ggL_law_X2_tests : GoodIn wsL_law wsX2_tests := goodIn_r _ [361, 120, 350, 351, 352, 5, 353, 89, 556, 557, 558, 559, 560, 561, 562, 563, 564, 565, 566, 567, 568, 569, 570, 571] (by decide +kernel) (by decide +kernel)
set_option maxRecDepth 20000 in
theorem gL_law_X2_tests : GoodIn wsL_law (wsV RL 147 RX2 yX2_tests wsX2_tests) := goodIn_app (goodIn_of _ (by decide +kernel)) ggL_law_X2_tests
set_option maxRecDepth 20000 in
theorem ggL_law_X1_budget : GoodIn wsL_law wsX1_budget := goodIn_r _ [365, 32, 541, 542, 543, 544, 545, 546, 547, 548, 549, 550, 551, 552, 553, 554, 555] (by decide +kernel) (by decide +kernel)
set_option maxRecDepth 20000 in
theorem gL_law_X1_budget : GoodIn wsL_law (wsV RL 148 RX1 yX1_budget wsX1_budget) := goodIn_app (goodIn_of _ (by decide +kernel)) ggL_law_X1_budget
set_option maxRecDepth 20000 in
theorem ggL_law_X2_budget : GoodIn wsL_law wsX2_budget := goodIn_r _ [369, 326, 350, 351, 352, 5, 353, 89, 556, 557, 558, 559, 560, 561, 562, 563, 564, 565, 566, 567, 568, 569, 570, 571] (by decide +kernel) (by decide +kernel)
set_option maxRecDepth 20000 in
theorem gL_law_X2_budget : GoodIn wsL_law (wsV RL 151 RX2 yX2_budget wsX2_budget) := goodIn_app (goodIn_of _ (by decide +kernel)) ggL_law_X2_budget
set_option maxRecDepth 20000 in
theorem ggL_law_X1_queued : GoodIn wsL_law wsX1_queued := goodIn_r _ [373, 26, 541, 542, 543, 544, 545, 546, 547, 548, 549, 550, 551, 552, 553, 554, 555] (by decide +kernel) (by decide +kernel)
set_option maxRecDepth 20000 in
theorem gL_law_X1_queued : GoodIn wsL_law (wsV RL 152 RX1 yX1_queued wsX1_queued) := goodIn_app (goodIn_of _ (by decide +kernel)) ggL_law_X1_queued
set_option maxRecDepth 20000 in
theorem ggL_law_X2_queued : GoodIn wsL_law wsX2_queued := goodIn_r _ [377, 291, 350, 351, 352, 5, 353, 89, 556, 557, 558, 559, 560, 561, 562, 563, 564, 565, 566, 567, 568, 569, 570, 571] (by decide +kernel) (by decide +kernel)
set_option maxRecDepth 20000 in
theorem gL_law_X2_queued : GoodIn wsL_law (wsV RL 155 RX2 yX2_queued wsX2_queued) := goodIn_app (goodIn_of _ (by decide +kernel)) ggL_law_X2_queued
set_option maxRecDepth 20000 in
theorem ggL_law_L_partsOf : GoodIn wsL_law wsL_partsOf := goodIn_ca (goodIn_r _ [380, 60, 381, 382, 383, 2, 384, 151, 152, 153, 154, 66, 67, 28, 206, 207, 208, 209, 16, 14, 210, 211, 212, 541, 542, 543, 544, 545, 546, 547, 548, 549, 550, 551, 552, 553, 554, 555] (by decide +kernel) (by decide +kernel)) (goodIn_sub (fun _ h => List.mem_append_left _ (List.mem_append_left _ (List.mem_append_right _ h))) (by decide +kernel))
set_option maxRecDepth 20000 in
theorem gL_law_L_partsOf : GoodIn wsL_law (va_wsS RL 156 yL_partsOf wsL_partsOf) := goodIn_app (goodIn_of _ (by decide +kernel)) ggL_law_L_partsOf
set_option maxRecDepth 20000 in
theorem ggL_law_X2_partsOf : GoodIn wsL_law wsX2_partsOf := goodIn_r _ [388, 171, 172, 173, 5, 174, 120, 78, 79, 80, 85, 86, 87, 88, 89, 248, 249, 250, 251, 50, 48, 556, 557, 558, 559, 560, 561, 562, 563, 564, 565, 566, 567, 568, 569, 570, 571] (by decide +kernel) (by decide +kernel)
set_option maxRecDepth 20000 in
theorem gL_law_X2_partsOf : GoodIn wsL_law (wsV RL 158 RX2 yX2_partsOf wsX2_partsOf) := goodIn_app (goodIn_of _ (by decide +kernel)) ggL_law_X2_partsOf
set_option maxRecDepth 20000 in
theorem ggL_law_L_touches : GoodIn wsL_law wsL_touches := goodIn_ca (goodIn_r _ [391, 60, 392, 393, 394, 2, 395, 28, 15, 155, 156, 157, 158, 66, 67, 27, 206, 207, 208, 209, 16, 14, 210, 211, 212, 541, 542, 543, 544, 545, 546, 547, 548, 549, 550, 551, 552, 553, 554, 555] (by decide +kernel) (by decide +kernel)) (goodIn_sub (fun _ h => List.mem_append_left _ (List.mem_append_left _ (List.mem_append_right _ h))) (by decide +kernel))
set_option maxRecDepth 20000 in
theorem gL_law_L_touches : GoodIn wsL_law (va_wsS RL 159 yL_touches wsL_touches) := goodIn_app (goodIn_of _ (by decide +kernel)) ggL_law_L_touches
set_option maxRecDepth 20000 in
theorem ggL_law_X2_touches : GoodIn wsL_law wsX2_touches := goodIn_r _ [399, 120, 49, 175, 176, 177, 5, 178, 108, 78, 79, 80, 85, 86, 87, 88, 89, 248, 249, 250, 251, 50, 48, 556, 557, 558, 559, 560, 561, 562, 563, 564, 565, 566, 567, 568, 569, 570, 571] (by decide +kernel) (by decide +kernel)
set_option maxRecDepth 20000 in
theorem gL_law_X2_touches : GoodIn wsL_law (wsV RL 161 RX2 yX2_touches wsX2_touches) := goodIn_app (goodIn_of _ (by decide +kernel)) ggL_law_X2_touches
set_option maxRecDepth 20000 in
theorem ggL_law_L_runs : GoodIn wsL_law wsL_runs := goodIn_ca (goodIn_r _ [402, 60, 403, 404, 405, 2, 406, 20, 151, 152, 153, 154, 66, 67, 28, 407, 408, 409, 19, 410, 36, 541, 542, 543, 544, 545, 546, 547, 548, 549, 550, 551, 552, 553, 554, 555, 572, 573, 574, 575, 576] (by decide +kernel) (by decide +kernel)) (goodIn_sub (fun _ h => List.mem_append_left _ (List.mem_append_left _ (List.mem_append_right _ h))) (by decide +kernel))
set_option maxRecDepth 20000 in
theorem gL_law_L_runs : GoodIn wsL_law (va_wsS RL 162 yL_runs wsL_runs) := goodIn_app (goodIn_of _ (by decide +kernel)) ggL_law_L_runs
set_option maxRecDepth 20000 in
theorem ggL_law_X2_runs : GoodIn wsL_law wsX2_runs := goodIn_r _ [414, 171, 172, 173, 5, 174, 120, 78, 79, 80, 85, 86, 87, 88, 89, 179, 180, 181, 182, 51, 52, 183, 184, 185, 186, 556, 557, 558, 559, 560, 561, 562, 563, 564, 565, 566, 567, 568, 569, 570, 571] (by decide +kernel) (by decide +kernel)
set_option maxRecDepth 20000 in
theorem gL_law_X2_runs : GoodIn wsL_law (wsV RL 164 RX2 yX2_runs wsX2_runs) := goodIn_app (goodIn_of _ (by decide +kernel)) ggL_law_X2_runs
set_option maxRecDepth 20000 in
theorem ggL_law_L_verdict : GoodIn wsL_law wsL_verdict := goodIn_ca (goodIn_r _ [417, 60, 418, 419, 420, 2, 421, 20, 151, 152, 153, 154, 66, 67, 28, 155, 156, 157, 158, 27, 163, 164, 165, 19, 166, 40, 41, 541, 542, 543, 544, 545, 546, 547, 548, 549, 550, 551, 552, 553, 554, 555, 572, 573, 574, 575, 576] (by decide +kernel) (by decide +kernel)) (goodIn_sub (fun _ h => List.mem_append_left _ (List.mem_append_left _ (List.mem_append_right _ h))) (by decide +kernel))
set_option maxRecDepth 20000 in
theorem gL_law_L_verdict : GoodIn wsL_law (va_wsS RL 165 yL_verdict wsL_verdict) := goodIn_app (goodIn_of _ (by decide +kernel)) ggL_law_L_verdict
set_option maxRecDepth 20000 in
theorem ggL_law_X2_verdict : GoodIn wsL_law wsX2_verdict := goodIn_r _ [425, 171, 172, 173, 5, 174, 120, 78, 79, 80, 175, 176, 177, 178, 108, 85, 86, 87, 88, 89, 187, 188, 189, 190, 51, 52, 556, 557, 558, 559, 560, 561, 562, 563, 564, 565, 566, 567, 568, 569, 570, 571] (by decide +kernel) (by decide +kernel)
set_option maxRecDepth 20000 in
theorem gL_law_X2_verdict : GoodIn wsL_law (wsV RL 167 RX2 yX2_verdict wsX2_verdict) := goodIn_app (goodIn_of _ (by decide +kernel)) ggL_law_X2_verdict
set_option maxRecDepth 20000 in
theorem ggL_law_L_failing : GoodIn wsL_law wsL_failing := goodIn_ca (goodIn_r _ [428, 60, 429, 430, 431, 2, 432, 20, 151, 152, 153, 154, 66, 67, 28, 407, 408, 409, 19, 410, 36, 433, 434, 435, 436, 41, 541, 542, 543, 544, 545, 546, 547, 548, 549, 550, 551, 552, 553, 554, 555, 572, 573, 574, 575, 576] (by decide +kernel) (by decide +kernel)) (goodIn_sub (fun _ h => List.mem_append_left _ (List.mem_append_left _ (List.mem_append_right _ h))) (by decide +kernel))
set_option maxRecDepth 20000 in
theorem gL_law_L_failing : GoodIn wsL_law (va_wsS RL 168 yL_failing wsL_failing) := goodIn_app (goodIn_of _ (by decide +kernel)) ggL_law_L_failing
set_option maxRecDepth 20000 in
theorem ggL_law_X2_failing : GoodIn wsL_law wsX2_failing := goodIn_r _ [440, 52, 171, 172, 173, 5, 174, 120, 78, 79, 80, 85, 86, 87, 88, 89, 179, 180, 181, 182, 51, 183, 184, 185, 186, 556, 557, 558, 559, 560, 561, 562, 563, 564, 565, 566, 567, 568, 569, 570, 571] (by decide +kernel) (by decide +kernel)
set_option maxRecDepth 20000 in
theorem gL_law_X2_failing : GoodIn wsL_law (wsV RL 170 RX2 yX2_failing wsX2_failing) := goodIn_app (goodIn_of _ (by decide +kernel)) ggL_law_X2_failing
set_option maxRecDepth 20000 in
theorem ggL_law_L_isQuarantined : GoodIn wsL_law wsL_isQuarantined := goodIn_ca (goodIn_r _ [443, 60, 444, 445, 446, 2, 447, 151, 152, 153, 154, 66, 67, 28, 448, 449, 450, 451, 27, 30, 452, 453, 454, 455, 20, 29, 163, 164, 165, 19, 166, 40, 41, 541, 542, 543, 544, 545, 546, 547, 548, 549, 550, 551, 552, 553, 554, 555, 572, 573, 574, 575, 576] (by decide +kernel) (by decide +kernel)) (goodIn_sub (fun _ h => List.mem_append_left _ (List.mem_append_left _ (List.mem_append_right _ h))) (by decide +kernel))
set_option maxRecDepth 20000 in
theorem gL_law_L_isQuarantined : GoodIn wsL_law (va_wsS RL 171 yL_isQuarantined wsL_isQuarantined) := goodIn_app (goodIn_of _ (by decide +kernel)) ggL_law_L_isQuarantined
set_option maxRecDepth 20000 in
theorem ggL_law_X2_isQuarantined : GoodIn wsL_law wsX2_isQuarantined := goodIn_r _ [459, 171, 172, 173, 5, 174, 120, 78, 79, 80, 85, 86, 87, 88, 89, 460, 461, 462, 463, 108, 47, 46, 187, 188, 189, 190, 51, 52, 556, 557, 558, 559, 560, 561, 562, 563, 564, 565, 566, 567, 568, 569, 570, 571] (by decide +kernel) (by decide +kernel)
set_option maxRecDepth 20000 in
theorem gL_law_X2_isQuarantined : GoodIn wsL_law (wsV RL 173 RX2 yX2_isQuarantined wsX2_isQuarantined) := goodIn_app (goodIn_of _ (by decide +kernel)) ggL_law_X2_isQuarantined
set_option maxRecDepth 20000 in
theorem ggL_law_L_broken : GoodIn wsL_law wsL_broken := goodIn_ca (goodIn_r _ [466, 60, 467, 468, 469, 2, 470, 28, 20, 155, 156, 157, 158, 66, 67, 27, 163, 164, 165, 19, 166, 40, 41, 448, 449, 450, 451, 30, 452, 453, 454, 455, 29, 541, 542, 543, 544, 545, 546, 547, 548, 549, 550, 551, 552, 553, 554, 555, 572, 573, 574, 575, 576] (by decide +kernel) (by decide +kernel)) (goodIn_sub (fun _ h => List.mem_append_left _ (List.mem_append_left _ (List.mem_append_right _ h))) (by decide +kernel))
set_option maxRecDepth 20000 in
theorem gL_law_L_broken : GoodIn wsL_law (va_wsS RL 174 yL_broken wsL_broken) := goodIn_app (goodIn_of _ (by decide +kernel)) ggL_law_L_broken
set_option maxRecDepth 20000 in
theorem ggL_law_X2_broken : GoodIn wsL_law wsX2_broken := goodIn_r _ [474, 120, 175, 176, 177, 5, 178, 108, 78, 79, 80, 85, 86, 87, 88, 89, 187, 188, 189, 190, 51, 52, 460, 461, 462, 463, 47, 46, 556, 557, 558, 559, 560, 561, 562, 563, 564, 565, 566, 567, 568, 569, 570, 571] (by decide +kernel) (by decide +kernel)
set_option maxRecDepth 20000 in
theorem gL_law_X2_broken : GoodIn wsL_law (wsV RL 176 RX2 yX2_broken wsX2_broken) := goodIn_app (goodIn_of _ (by decide +kernel)) ggL_law_X2_broken
set_option maxRecDepth 20000 in
theorem ggL_law_L_suspects : GoodIn wsL_law wsL_suspects := goodIn_ca (goodIn_ca (goodIn_r _ [477, 60, 97, 478, 479, 480, 2, 481, 151, 152, 153, 154, 66, 67, 28, 263, 264, 265, 266, 102, 103, 22, 202, 203, 204, 205, 23, 24, 15, 206, 207, 208, 209, 16, 14, 210, 211, 212, 541, 542, 543, 544, 545, 546, 547, 548, 549, 550, 551, 552, 553, 554, 555] (by decide +kernel) (by decide +kernel)) (goodIn_sub (fun _ h => List.mem_append_left _ (List.mem_append_left _ (List.mem_append_right _ h))) (by decide +kernel))) (goodIn_sub (fun _ h => List.mem_append_right _ h) (by decide +kernel))
set_option maxRecDepth 20000 in
theorem gL_law_L_suspects : GoodIn wsL_law (va_wsS RL 177 yL_suspects wsL_suspects) := goodIn_app (goodIn_of _ (by decide +kernel)) ggL_law_L_suspects
set_option maxRecDepth 20000 in
theorem ggL_law_X2_suspects : GoodIn wsL_law wsX2_suspects := goodIn_r _ [485, 108, 171, 172, 173, 5, 174, 120, 78, 79, 80, 279, 280, 281, 282, 53, 85, 86, 87, 88, 89, 244, 245, 246, 247, 54, 49, 248, 249, 250, 251, 50, 48, 556, 557, 558, 559, 560, 561, 562, 563, 564, 565, 566, 567, 568, 569, 570, 571] (by decide +kernel) (by decide +kernel)
set_option maxRecDepth 20000 in
theorem gL_law_X2_suspects : GoodIn wsL_law (wsV RL 179 RX2 yX2_suspects wsX2_suspects) := goodIn_app (goodIn_of _ (by decide +kernel)) ggL_law_X2_suspects
set_option maxRecDepth 20000 in
theorem ggL_law_L_contradictions : GoodIn wsL_law wsL_contradictions := goodIn_ca (goodIn_ca (goodIn_r _ [488, 60, 97, 489, 490, 491, 2, 492, 20, 23, 24, 151, 152, 153, 154, 66, 67, 28, 155, 156, 157, 158, 27, 263, 264, 265, 266, 102, 103, 22, 202, 203, 204, 205, 15, 206, 207, 208, 209, 16, 14, 210, 211, 212, 493, 494, 495, 19, 496, 36, 38, 39, 541, 542, 543, 544, 545, 546, 547, 548, 549, 550, 551, 552, 553, 554, 555, 572, 573, 574, 575, 576] (by decide +kernel) (by decide +kernel)) (goodIn_sub (fun _ h => List.mem_append_left _ (List.mem_append_left _ (List.mem_append_right _ h))) (by decide +kernel))) (goodIn_sub (fun _ h => List.mem_append_right _ h) (by decide +kernel))
set_option maxRecDepth 20000 in
theorem gL_law_L_contradictions : GoodIn wsL_law (va_wsS RL 180 yL_contradictions wsL_contradictions) := goodIn_app (goodIn_of _ (by decide +kernel)) ggL_law_L_contradictions
set_option maxRecDepth 20000 in
theorem ggL_law_X2_contradictions : GoodIn wsL_law wsX2_contradictions := goodIn_r _ [500, 171, 172, 173, 5, 174, 120, 78, 79, 80, 175, 176, 177, 178, 108, 279, 280, 281, 282, 53, 85, 86, 87, 88, 89, 244, 245, 246, 247, 54, 49, 248, 249, 250, 251, 50, 48, 252, 253, 254, 255, 52, 51, 556, 557, 558, 559, 560, 561, 562, 563, 564, 565, 566, 567, 568, 569, 570, 571] (by decide +kernel) (by decide +kernel)
set_option maxRecDepth 20000 in
theorem gL_law_X2_contradictions : GoodIn wsL_law (wsV RL 182 RX2 yX2_contradictions wsX2_contradictions) := goodIn_app (goodIn_of _ (by decide +kernel)) ggL_law_X2_contradictions
set_option maxRecDepth 20000 in
theorem ggL_law_L_candidates : GoodIn wsL_law wsL_candidates := goodIn_ca (goodIn_ca (goodIn_r _ [503, 60, 97, 504, 505, 506, 2, 507, 151, 152, 153, 154, 66, 67, 28, 263, 264, 265, 266, 102, 103, 22, 198, 199, 200, 201, 23, 24, 20, 31, 202, 203, 204, 205, 15, 206, 207, 208, 209, 16, 14, 210, 211, 212, 213, 214, 215, 19, 216, 40, 217, 218, 219, 220, 41, 541, 542, 543, 544, 545, 546, 547, 548, 549, 550, 551, 552, 553, 554, 555, 572, 573, 574, 575, 576] (by decide +kernel) (by decide +kernel)) (goodIn_sub (fun _ h => List.mem_append_left _ (List.mem_append_left _ (List.mem_append_right _ h))) (by decide +kernel))) (goodIn_sub (fun _ h => List.mem_append_right _ h) (by decide +kernel))
set_option maxRecDepth 20000 in
theorem gL_law_L_candidates : GoodIn wsL_law (va_wsS RL 183 yL_candidates wsL_candidates) := goodIn_app (goodIn_of _ (by decide +kernel)) ggL_law_L_candidates
set_option maxRecDepth 20000 in
theorem ggL_law_X2_candidates : GoodIn wsL_law wsX2_candidates := goodIn_r _ [511, 108, 171, 172, 173, 5, 174, 120, 78, 79, 80, 279, 280, 281, 282, 53, 85, 86, 87, 88, 89, 240, 241, 242, 243, 143, 244, 245, 246, 247, 54, 49, 248, 249, 250, 251, 50, 48, 252, 253, 254, 255, 52, 51, 556, 557, 558, 559, 560, 561, 562, 563, 564, 565, 566, 567, 568, 569, 570, 571] (by decide +kernel) (by decide +kernel)
set_option maxRecDepth 20000 in
theorem gL_law_X2_candidates : GoodIn wsL_law (wsV RL 185 RX2 yX2_candidates wsX2_candidates) := goodIn_app (goodIn_of _ (by decide +kernel)) ggL_law_X2_candidates
set_option maxRecDepth 20000 in
theorem ggL_law_L_likeliest : GoodIn wsL_law wsL_likeliest := goodIn_ca (goodIn_ca (goodIn_r _ [514, 60, 97, 515, 516, 517, 2, 518, 151, 152, 153, 154, 66, 67, 28, 263, 264, 265, 266, 102, 103, 22, 267, 268, 269, 270, 23, 24, 20, 202, 203, 204, 205, 15, 206, 207, 208, 209, 16, 14, 210, 211, 212, 213, 214, 215, 19, 216, 40, 217, 218, 219, 220, 41, 541, 542, 543, 544, 545, 546, 547, 548, 549, 550, 551, 552, 553, 554, 555, 572, 573, 574, 575, 576] (by decide +kernel) (by decide +kernel)) (goodIn_sub (fun _ h => List.mem_append_left _ (List.mem_append_left _ (List.mem_append_right _ h))) (by decide +kernel))) (goodIn_sub (fun _ h => List.mem_append_right _ h) (by decide +kernel))
set_option maxRecDepth 20000 in
theorem gL_law_L_likeliest : GoodIn wsL_law (va_wsS RL 186 yL_likeliest wsL_likeliest) := goodIn_app (goodIn_of _ (by decide +kernel)) ggL_law_L_likeliest
set_option maxRecDepth 20000 in
theorem ggL_law_X2_likeliest : GoodIn wsL_law wsX2_likeliest := goodIn_r _ [522, 54, 53, 171, 172, 173, 5, 174, 120, 78, 79, 80, 279, 280, 281, 282, 85, 86, 87, 88, 89, 244, 245, 246, 247, 49, 248, 249, 250, 251, 50, 48, 252, 253, 254, 255, 52, 51, 556, 557, 558, 559, 560, 561, 562, 563, 564, 565, 566, 567, 568, 569, 570, 571] (by decide +kernel) (by decide +kernel)
set_option maxRecDepth 20000 in
theorem gL_law_X2_likeliest : GoodIn wsL_law (wsV RL 188 RX2 yX2_likeliest wsX2_likeliest) := goodIn_app (goodIn_of _ (by decide +kernel)) ggL_law_X2_likeliest
set_option maxRecDepth 20000 in
theorem ggL_law_L_next : GoodIn wsL_law wsL_next := goodIn_ca (goodIn_ca (goodIn_r _ [525, 60, 97, 526, 527, 528, 2, 529, 23, 24, 20, 151, 152, 153, 154, 66, 67, 28, 263, 264, 265, 266, 102, 103, 22, 198, 199, 200, 201, 31, 202, 203, 204, 205, 15, 206, 207, 208, 209, 16, 14, 210, 211, 212, 213, 214, 215, 19, 216, 40, 217, 218, 219, 220, 41, 530, 531, 532, 452, 453, 454, 455, 221, 222, 223, 224, 225, 226, 227, 533, 534, 535, 536, 541, 542, 543, 544, 545, 546, 547, 548, 549, 550, 551, 552, 553, 554, 555, 572, 573, 574, 575, 576] (by decide +kernel) (by decide +kernel)) (goodIn_sub (fun _ h => List.mem_append_left _ (List.mem_append_left _ (List.mem_append_right _ h))) (by decide +kernel))) (goodIn_sub (fun _ h => List.mem_append_right _ h) (by decide +kernel))
set_option maxRecDepth 20000 in
theorem gL_law_L_next : GoodIn wsL_law (va_wsS RL 189 yL_next wsL_next) := goodIn_app (goodIn_of _ (by decide +kernel)) ggL_law_L_next
set_option maxRecDepth 20000 in
theorem ggL_law_X2_next : GoodIn wsL_law wsX2_next := goodIn_r _ [540, 53, 54, 51, 52, 171, 172, 173, 5, 174, 120, 78, 79, 80, 279, 280, 281, 282, 85, 86, 87, 88, 89, 236, 237, 238, 239, 240, 241, 242, 243, 143, 244, 245, 246, 247, 49, 248, 249, 250, 251, 50, 48, 252, 253, 254, 255, 556, 557, 558, 559, 560, 561, 562, 563, 564, 565, 566, 567, 568, 569, 570, 571] (by decide +kernel) (by decide +kernel)
set_option maxRecDepth 20000 in
theorem gL_law_X2_next : GoodIn wsL_law (wsV RL 191 RX2 yX2_next wsX2_next) := goodIn_app (goodIn_of _ (by decide +kernel)) ggL_law_X2_next
