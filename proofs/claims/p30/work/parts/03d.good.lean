theorem goodIn_cons {big a : List Cond} {c : Cond} (hm : c ∈ big) (hg : goodWord c = true) (ha : GoodIn big a) : GoodIn big (c :: a) := fun w h => (List.mem_cons.mp h).elim (fun e => e ▸ ⟨hm, good_of_word hg⟩) (ha w)
set_option maxRecDepth 20000 in
theorem ggX1_init_X0_init : GoodIn wsX1_init wsX0_init := goodIn_r _ [25, 26, 2, 3, 4, 27, 28, 29, 30, 31, 32, 48, 49, 50, 51, 52] (by decide +kernel) (by decide +kernel)
set_option maxRecDepth 20000 in
theorem gX1_init_X0_init_n21 : GoodIn wsX1_init (wsX0_init) := ggX1_init_X0_init
set_option maxRecDepth 20000 in
theorem ggX1_setUses_X1_needParts : GoodIn wsX1_setUses wsX1_needParts := goodIn_ca (goodIn_r _ [7, 8, 9, 10] (by decide +kernel) (by decide +kernel)) (goodIn_sub (fun _ h => List.mem_cons_of_mem _ (List.mem_append_right _ h)) (by decide +kernel))
set_option maxRecDepth 20000 in
theorem gX1_setUses_X1_needParts : GoodIn wsX1_setUses (va_wsS RX1 68 yX1_needParts wsX1_needParts) := goodIn_app (goodIn_of _ (by decide +kernel)) ggX1_setUses_X1_needParts
set_option maxRecDepth 20000 in
theorem ggX1_addCommit_X1_needParts : GoodIn wsX1_addCommit wsX1_needParts := goodIn_ca (goodIn_r _ [8, 9, 10, 11] (by decide +kernel) (by decide +kernel)) (goodIn_sub (fun _ h => List.mem_cons_of_mem _ (List.mem_append_right _ h)) (by decide +kernel))
set_option maxRecDepth 20000 in
theorem gX1_addCommit_X1_needParts : GoodIn wsX1_addCommit (va_wsS RX1 68 yX1_needParts wsX1_needParts) := goodIn_app (goodIn_of _ (by decide +kernel)) ggX1_addCommit_X1_needParts
set_option maxRecDepth 20000 in
theorem ggX1_addTest_X1_needParts : GoodIn wsX1_addTest wsX1_needParts := goodIn_ca (goodIn_r _ [8, 9, 10, 11] (by decide +kernel) (by decide +kernel)) (goodIn_sub (fun _ h => List.mem_cons_of_mem _ (List.mem_append_right _ h)) (by decide +kernel))
set_option maxRecDepth 20000 in
theorem gX1_addTest_X1_needParts : GoodIn wsX1_addTest (va_wsS RX1 68 yX1_needParts wsX1_needParts) := goodIn_app (goodIn_of _ (by decide +kernel)) ggX1_addTest_X1_needParts
set_option maxRecDepth 20000 in
theorem ggX1_record_X1_needTest : GoodIn wsX1_record wsX1_needTest := goodIn_ca (goodIn_r _ [8, 9, 10, 11, 31, 32, 33, 34, 35, 36, 37, 38, 39, 40, 41, 42, 43, 44, 45] (by decide +kernel) (by decide +kernel)) (goodIn_sub (fun _ h => List.mem_cons_of_mem _ (List.mem_append_right _ h)) (by decide +kernel))
set_option maxRecDepth 20000 in
theorem gX1_record_X1_needTest : GoodIn wsX1_record (wsV RX1 88 RX1 yX1_needTest wsX1_needTest) := goodIn_app (goodIn_of _ (by decide +kernel)) ggX1_record_X1_needTest
set_option maxRecDepth 20000 in
theorem ggX1_record_X1_needCommit : GoodIn wsX1_record wsX1_needCommit := goodIn_ca (goodIn_r _ [15, 9, 10, 16, 31, 32, 33, 34, 35, 36, 37, 38, 39, 40, 41, 42, 43, 44, 45] (by decide +kernel) (by decide +kernel)) (goodIn_sub (fun _ h => List.mem_cons_of_mem _ (List.mem_append_right _ h)) (by decide +kernel))
set_option maxRecDepth 20000 in
theorem gX1_record_X1_needCommit : GoodIn wsX1_record (wsV RX1 91 RX1 yX1_needCommit wsX1_needCommit) := goodIn_app (goodIn_of _ (by decide +kernel)) ggX1_record_X1_needCommit
set_option maxRecDepth 20000 in
theorem ggX1_record_X0_add : GoodIn wsX1_record wsX0_add := goodIn_r _ [21, 22, 23, 24, 25, 26, 46, 47, 48, 49, 50] (by decide +kernel) (by decide +kernel)
set_option maxRecDepth 20000 in
theorem gX1_record_X0_add : GoodIn wsX1_record (wsV RX1 94 RX0 yX0_add wsX0_add) := goodIn_app (goodIn_of _ (by decide +kernel)) ggX1_record_X0_add
set_option maxRecDepth 20000 in
theorem ggX1_record_X0_verdictAt : GoodIn wsX1_record wsX0_verdictAt := goodIn_r _ [30, 25, 26, 46, 47, 48, 49, 50] (by decide +kernel) (by decide +kernel)
set_option maxRecDepth 20000 in
theorem gX1_record_X0_verdictAt : GoodIn wsX1_record (wsV RX1 100 RX0 yX0_verdictAt wsX0_verdictAt) := goodIn_app (goodIn_of _ (by decide +kernel)) ggX1_record_X0_verdictAt
set_option maxRecDepth 20000 in
theorem ggX1_triage_X1_needTest : GoodIn wsX1_triage wsX1_needTest := goodIn_ca (goodIn_r _ [10, 11, 12, 13, 57, 58, 59, 60, 61, 62, 63, 64, 65, 66, 67, 68, 69, 70, 71] (by decide +kernel) (by decide +kernel)) (goodIn_sub (fun _ h => List.mem_cons_of_mem _ (List.mem_append_right _ h)) (by decide +kernel))
set_option maxRecDepth 20000 in
theorem gX1_triage_X1_needTest : GoodIn wsX1_triage (wsV RX1 88 RX1 yX1_needTest wsX1_needTest) := goodIn_app (goodIn_of _ (by decide +kernel)) ggX1_triage_X1_needTest
set_option maxRecDepth 20000 in
theorem ggX1_triage_X1_needCommit : GoodIn wsX1_triage wsX1_needCommit := goodIn_ca (goodIn_r _ [17, 11, 12, 18, 57, 58, 59, 60, 61, 62, 63, 64, 65, 66, 67, 68, 69, 70, 71] (by decide +kernel) (by decide +kernel)) (goodIn_sub (fun _ h => List.mem_cons_of_mem _ (List.mem_append_right _ h)) (by decide +kernel))
set_option maxRecDepth 20000 in
theorem gX1_triage_X1_needCommit : GoodIn wsX1_triage (wsV RX1 91 RX1 yX1_needCommit wsX1_needCommit) := goodIn_app (goodIn_of _ (by decide +kernel)) ggX1_triage_X1_needCommit
set_option maxRecDepth 20000 in
theorem ggX1_triage_X1_candidatesOf : GoodIn wsX1_triage wsX1_candidatesOf := goodIn_r _ [22, 4, 5, 23, 24, 25, 26, 27, 9, 28, 29, 30, 31, 32, 33, 34, 35, 36, 37, 38, 39, 40, 41, 42, 43, 44, 45, 46, 47, 48, 49, 57, 58, 59, 60, 61, 62, 63, 64, 65, 66, 67, 68, 69, 70, 71, 72, 73, 74, 75, 76] (by decide +kernel) (by decide +kernel)
set_option maxRecDepth 20000 in
theorem gX1_triage_X1_candidatesOf : GoodIn wsX1_triage (wsV RX1 106 RX1 yX1_candidatesOf wsX1_candidatesOf) := goodIn_app (goodIn_of _ (by decide +kernel)) ggX1_triage_X1_candidatesOf
set_option maxRecDepth 20000 in
theorem ggX1_triage_J13_bitCount_95d88 : GoodIn wsX1_triage wsJ13_bitCount_95d88 := goodIn_r _ [53, 54, 55, 56] (by decide +kernel) (by decide +kernel)
set_option maxRecDepth 20000 in
theorem gX1_triage_J13_bitCount_95d88 : GoodIn wsX1_triage (va_wsS RX1 110 yJ13_bitCount_95d88 wsJ13_bitCount_95d88) := goodIn_app (goodIn_of _ (by decide +kernel)) ggX1_triage_J13_bitCount_95d88
set_option maxRecDepth 20000 in
theorem ggX1_close_X1_needTest : GoodIn wsX1_close wsX1_needTest := goodIn_ca (goodIn_r _ [6, 7, 8, 9, 66, 67, 68, 69, 70, 71, 72, 73, 74, 75, 76, 77, 78, 79, 80] (by decide +kernel) (by decide +kernel)) (goodIn_sub (fun _ h => List.mem_cons_of_mem _ (List.mem_append_left _ (List.mem_append_right _ h))) (by decide +kernel))
set_option maxRecDepth 20000 in
theorem gX1_close_X1_needTest : GoodIn wsX1_close (wsV RX1 88 RX1 yX1_needTest wsX1_needTest) := goodIn_app (goodIn_of _ (by decide +kernel)) ggX1_close_X1_needTest
set_option maxRecDepth 20000 in
theorem ggX1_close_X1_needTriage : GoodIn wsX1_close wsX1_needTriage := goodIn_ca (goodIn_r _ [13, 14, 15, 1, 66, 67, 68, 69, 70, 71, 72, 73, 74, 75, 76, 77, 78, 79, 80] (by decide +kernel) (by decide +kernel)) (goodIn_sub (fun _ h => List.mem_cons_of_mem _ (List.mem_append_right _ h)) (by decide +kernel))
set_option maxRecDepth 20000 in
theorem gX1_close_X1_needTriage : GoodIn wsX1_close (wsV RX1 116 RX1 yX1_needTriage wsX1_needTriage) := goodIn_app (goodIn_of _ (by decide +kernel)) ggX1_close_X1_needTriage
set_option maxRecDepth 20000 in
theorem ggX1_close_X1_candidatesOf : GoodIn wsX1_close wsX1_candidatesOf := goodIn_r _ [19, 20, 21, 22, 23, 24, 25, 26, 5, 27, 28, 29, 30, 31, 32, 33, 34, 35, 36, 37, 38, 39, 40, 41, 42, 43, 44, 45, 46, 47, 48, 66, 67, 68, 69, 70, 71, 72, 73, 74, 75, 76, 77, 78, 79, 80, 81, 82, 83, 84, 85] (by decide +kernel) (by decide +kernel)
set_option maxRecDepth 20000 in
theorem gX1_close_X1_candidatesOf : GoodIn wsX1_close (wsV RX1 106 RX1 yX1_candidatesOf wsX1_candidatesOf) := goodIn_app (goodIn_of _ (by decide +kernel)) ggX1_close_X1_candidatesOf
set_option maxRecDepth 20000 in
theorem ggX1_close_J13_bitCount_95d88 : GoodIn wsX1_close wsJ13_bitCount_95d88 := goodIn_r _ [52, 53, 54, 55] (by decide +kernel) (by decide +kernel)
set_option maxRecDepth 20000 in
theorem gX1_close_J13_bitCount_95d88 : GoodIn wsX1_close (va_wsS RX1 110 yJ13_bitCount_95d88 wsJ13_bitCount_95d88) := goodIn_app (goodIn_of _ (by decide +kernel)) ggX1_close_J13_bitCount_95d88
set_option maxRecDepth 20000 in
theorem ggX1_close_X1_likeliestOf : GoodIn wsX1_close wsX1_likeliestOf := goodIn_r _ [59, 20, 21, 22, 24, 25, 26, 5, 27, 28, 29, 30, 31, 32, 33, 34, 35, 36, 37, 38, 39, 40, 41, 42, 43, 44, 45, 46, 47, 48, 66, 67, 68, 69, 70, 71, 72, 73, 74, 75, 76, 77, 78, 79, 80, 81, 82, 83, 84, 85] (by decide +kernel) (by decide +kernel)
set_option maxRecDepth 20000 in
theorem gX1_close_X1_likeliestOf : GoodIn wsX1_close (wsV RX1 119 RX1 yX1_likeliestOf wsX1_likeliestOf) := goodIn_app (goodIn_of _ (by decide +kernel)) ggX1_close_X1_likeliestOf
set_option maxRecDepth 20000 in
theorem ggX1_close_X1_leaveQueue : GoodIn wsX1_close wsX1_leaveQueue := goodIn_r _ [63, 64, 9, 65, 66, 67, 68, 69, 70, 71, 72, 73, 74, 75, 76, 77, 78, 79, 80] (by decide +kernel) (by decide +kernel)
set_option maxRecDepth 20000 in
theorem gX1_close_X1_leaveQueue : GoodIn wsX1_close (wsV RX1 123 RX1 yX1_leaveQueue wsX1_leaveQueue) := goodIn_app (goodIn_of _ (by decide +kernel)) ggX1_close_X1_leaveQueue
set_option maxRecDepth 20000 in
theorem ggX1_enqueue_X1_needTest : GoodIn wsX1_enqueue wsX1_needTest := goodIn_ca (goodIn_r _ [9, 10, 11, 12, 22, 23, 24, 25, 26, 27, 28, 29, 30, 31, 32, 33, 34, 35, 36] (by decide +kernel) (by decide +kernel)) (goodIn_sub (fun _ h => List.mem_cons_of_mem _ (List.mem_append_right _ h)) (by decide +kernel))
set_option maxRecDepth 20000 in
theorem gX1_enqueue_X1_needTest : GoodIn wsX1_enqueue (wsV RX1 88 RX1 yX1_needTest wsX1_needTest) := goodIn_app (goodIn_of _ (by decide +kernel)) ggX1_enqueue_X1_needTest
set_option maxRecDepth 20000 in
theorem ggX1_enqueue_X1_needTriage : GoodIn wsX1_enqueue wsX1_needTriage := goodIn_ca (goodIn_r _ [16, 1, 2, 17, 22, 23, 24, 25, 26, 27, 28, 29, 30, 31, 32, 33, 34, 35, 36] (by decide +kernel) (by decide +kernel)) (goodIn_sub (fun _ h => List.mem_cons_of_mem _ (List.mem_append_left _ (List.mem_append_right _ h))) (by decide +kernel))
set_option maxRecDepth 20000 in
theorem gX1_enqueue_X1_needTriage : GoodIn wsX1_enqueue (wsV RX1 116 RX1 yX1_needTriage wsX1_needTriage) := goodIn_app (goodIn_of _ (by decide +kernel)) ggX1_enqueue_X1_needTriage
set_option maxRecDepth 20000 in
theorem ggX1_enqueue_X1_joinQueue : GoodIn wsX1_enqueue wsX1_joinQueue := goodIn_r _ [21, 4, 3, 22, 23, 24, 25, 26, 27, 28, 29, 30, 31, 32, 33, 34, 35, 36] (by decide +kernel) (by decide +kernel)
set_option maxRecDepth 20000 in
theorem gX1_enqueue_X1_joinQueue : GoodIn wsX1_enqueue (wsV RX1 128 RX1 yX1_joinQueue wsX1_joinQueue) := goodIn_app (goodIn_of _ (by decide +kernel)) ggX1_enqueue_X1_joinQueue
set_option maxRecDepth 20000 in
theorem ggX1_take_X1_firstInQueue : GoodIn wsX1_take wsX1_firstInQueue := goodIn_r _ [8, 9, 10, 60, 61, 62, 63, 64, 65, 66, 67, 68, 69, 70, 71, 72, 73, 74] (by decide +kernel) (by decide +kernel)
set_option maxRecDepth 20000 in
theorem gX1_take_X1_firstInQueue : GoodIn wsX1_take (wsV RX1 133 RX1 yX1_firstInQueue wsX1_firstInQueue) := goodIn_app (goodIn_of _ (by decide +kernel)) ggX1_take_X1_firstInQueue
set_option maxRecDepth 20000 in
theorem ggX1_take_X1_leaveQueue : GoodIn wsX1_take wsX1_leaveQueue := goodIn_r _ [14, 10, 9, 15, 60, 61, 62, 63, 64, 65, 66, 67, 68, 69, 70, 71, 72, 73, 74] (by decide +kernel) (by decide +kernel)
set_option maxRecDepth 20000 in
theorem gX1_take_X1_leaveQueue : GoodIn wsX1_take (wsV RX1 123 RX1 yX1_leaveQueue wsX1_leaveQueue) := goodIn_app (goodIn_of _ (by decide +kernel)) ggX1_take_X1_leaveQueue
set_option maxRecDepth 20000 in
theorem ggX1_take_X1_candidatesOf : GoodIn wsX1_take wsX1_candidatesOf := goodIn_r _ [19, 20, 21, 22, 23, 24, 25, 26, 7, 27, 28, 29, 30, 31, 32, 33, 34, 35, 36, 37, 38, 39, 40, 41, 42, 43, 44, 45, 46, 47, 48, 60, 61, 62, 63, 64, 65, 66, 67, 68, 69, 70, 71, 72, 73, 74, 75, 76, 77, 78, 79] (by decide +kernel) (by decide +kernel)
set_option maxRecDepth 20000 in
theorem gX1_take_X1_candidatesOf : GoodIn wsX1_take (wsV RX1 106 RX1 yX1_candidatesOf wsX1_candidatesOf) := goodIn_app (goodIn_of _ (by decide +kernel)) ggX1_take_X1_candidatesOf
set_option maxRecDepth 20000 in
theorem ggX1_take_J13_bitCount_95d88 : GoodIn wsX1_take wsJ13_bitCount_95d88 := goodIn_r _ [52, 53, 54, 55] (by decide +kernel) (by decide +kernel)
set_option maxRecDepth 20000 in
theorem gX1_take_J13_bitCount_95d88 : GoodIn wsX1_take (va_wsS RX1 110 yJ13_bitCount_95d88 wsJ13_bitCount_95d88) := goodIn_app (goodIn_of _ (by decide +kernel)) ggX1_take_J13_bitCount_95d88
set_option maxRecDepth 20000 in
theorem ggX1_take_X1_joinQueue : GoodIn wsX1_take wsX1_joinQueue := goodIn_r _ [59, 15, 10, 60, 61, 62, 63, 64, 65, 66, 67, 68, 69, 70, 71, 72, 73, 74] (by decide +kernel) (by decide +kernel)
set_option maxRecDepth 20000 in
theorem gX1_take_X1_joinQueue : GoodIn wsX1_take (wsV RX1 128 RX1 yX1_joinQueue wsX1_joinQueue) := goodIn_app (goodIn_of _ (by decide +kernel)) ggX1_take_X1_joinQueue
set_option maxRecDepth 20000 in
theorem ggX1_partsOf_X1_needTest : GoodIn wsX1_partsOf wsX1_needTest := goodIn_ca (goodIn_r _ [5, 6, 7, 8, 18, 19, 20, 21, 22, 23, 24, 25, 26, 27, 28, 29, 30, 31, 32] (by decide +kernel) (by decide +kernel)) (goodIn_sub (fun _ h => List.mem_cons_of_mem _ (List.mem_append_right _ h)) (by decide +kernel))
set_option maxRecDepth 20000 in
theorem gX1_partsOf_X1_needTest : GoodIn wsX1_partsOf (wsV RX1 88 RX1 yX1_needTest wsX1_needTest) := goodIn_app (goodIn_of _ (by decide +kernel)) ggX1_partsOf_X1_needTest
set_option maxRecDepth 20000 in
theorem ggX1_partsOf_X1_allPartsOf : GoodIn wsX1_partsOf wsX1_allPartsOf := goodIn_r _ [12, 13, 14, 15, 16, 4, 17, 18, 19, 20, 21, 22, 23, 24, 25, 26, 27, 28, 29, 30, 31, 32] (by decide +kernel) (by decide +kernel)
set_option maxRecDepth 20000 in
theorem gX1_partsOf_X1_allPartsOf : GoodIn wsX1_partsOf (wsV RX1 141 RX1 yX1_allPartsOf wsX1_allPartsOf) := goodIn_app (goodIn_of _ (by decide +kernel)) ggX1_partsOf_X1_allPartsOf
set_option maxRecDepth 20000 in
theorem ggX1_touches_X1_needCommit : GoodIn wsX1_touches wsX1_needCommit := goodIn_ca (goodIn_r _ [7, 8, 9, 10, 20, 21, 22, 23, 24, 25, 26, 27, 28, 29, 30, 31, 32, 33, 34] (by decide +kernel) (by decide +kernel)) (goodIn_sub (fun _ h => List.mem_cons_of_mem _ (List.mem_append_right _ h)) (by decide +kernel))
set_option maxRecDepth 20000 in
theorem gX1_touches_X1_needCommit : GoodIn wsX1_touches (wsV RX1 91 RX1 yX1_needCommit wsX1_needCommit) := goodIn_app (goodIn_of _ (by decide +kernel)) ggX1_touches_X1_needCommit
set_option maxRecDepth 20000 in
theorem ggX1_touches_X1_allPartsOf : GoodIn wsX1_touches wsX1_allPartsOf := goodIn_r _ [14, 15, 16, 17, 18, 6, 19, 20, 21, 22, 23, 24, 25, 26, 27, 28, 29, 30, 31, 32, 33, 34] (by decide +kernel) (by decide +kernel)
set_option maxRecDepth 20000 in
theorem gX1_touches_X1_allPartsOf : GoodIn wsX1_touches (wsV RX1 141 RX1 yX1_allPartsOf wsX1_allPartsOf) := goodIn_app (goodIn_of _ (by decide +kernel)) ggX1_touches_X1_allPartsOf
set_option maxRecDepth 20000 in
theorem ggX1_runs_X1_needTest : GoodIn wsX1_runs wsX1_needTest := goodIn_ca (goodIn_r _ [6, 7, 8, 9, 16, 17, 18, 19, 20, 21, 22, 23, 24, 25, 26, 27, 28, 29, 30] (by decide +kernel) (by decide +kernel)) (goodIn_sub (fun _ h => List.mem_cons_of_mem _ (List.mem_append_right _ h)) (by decide +kernel))
set_option maxRecDepth 20000 in
theorem gX1_runs_X1_needTest : GoodIn wsX1_runs (wsV RX1 88 RX1 yX1_needTest wsX1_needTest) := goodIn_app (goodIn_of _ (by decide +kernel)) ggX1_runs_X1_needTest
set_option maxRecDepth 20000 in
theorem ggX1_runs_X0_countOf : GoodIn wsX1_runs wsX0_countOf := goodIn_r _ [14, 15, 31, 32, 33, 34, 35] (by decide +kernel) (by decide +kernel)
set_option maxRecDepth 20000 in
theorem gX1_runs_X0_countOf : GoodIn wsX1_runs (wsV RX1 144 RX0 yX0_countOf wsX0_countOf) := goodIn_app (goodIn_of _ (by decide +kernel)) ggX1_runs_X0_countOf
set_option maxRecDepth 20000 in
theorem ggX1_verdict_X1_needTest : GoodIn wsX1_verdict wsX1_needTest := goodIn_ca (goodIn_r _ [6, 7, 8, 9, 22, 23, 24, 25, 26, 27, 28, 29, 30, 31, 32, 33, 34, 35, 36] (by decide +kernel) (by decide +kernel)) (goodIn_sub (fun _ h => List.mem_cons_of_mem _ (List.mem_append_right _ h)) (by decide +kernel))
set_option maxRecDepth 20000 in
theorem gX1_verdict_X1_needTest : GoodIn wsX1_verdict (wsV RX1 88 RX1 yX1_needTest wsX1_needTest) := goodIn_app (goodIn_of _ (by decide +kernel)) ggX1_verdict_X1_needTest
set_option maxRecDepth 20000 in
theorem ggX1_verdict_X1_needCommit : GoodIn wsX1_verdict wsX1_needCommit := goodIn_ca (goodIn_r _ [13, 7, 8, 14, 22, 23, 24, 25, 26, 27, 28, 29, 30, 31, 32, 33, 34, 35, 36] (by decide +kernel) (by decide +kernel)) (goodIn_sub (fun _ h => List.mem_cons_of_mem _ (List.mem_append_right _ h)) (by decide +kernel))
set_option maxRecDepth 20000 in
theorem gX1_verdict_X1_needCommit : GoodIn wsX1_verdict (wsV RX1 91 RX1 yX1_needCommit wsX1_needCommit) := goodIn_app (goodIn_of _ (by decide +kernel)) ggX1_verdict_X1_needCommit
set_option maxRecDepth 20000 in
theorem ggX1_verdict_X0_verdictAt : GoodIn wsX1_verdict wsX0_verdictAt := goodIn_r _ [19, 20, 21, 37, 38, 39, 40, 41] (by decide +kernel) (by decide +kernel)
set_option maxRecDepth 20000 in
theorem gX1_verdict_X0_verdictAt : GoodIn wsX1_verdict (wsV RX1 100 RX0 yX0_verdictAt wsX0_verdictAt) := goodIn_app (goodIn_of _ (by decide +kernel)) ggX1_verdict_X0_verdictAt
set_option maxRecDepth 20000 in
theorem ggX1_failing_X1_needTest : GoodIn wsX1_failing wsX1_needTest := goodIn_ca (goodIn_r _ [6, 7, 8, 9, 21, 22, 23, 24, 25, 26, 27, 28, 29, 30, 31, 32, 33, 34, 35] (by decide +kernel) (by decide +kernel)) (goodIn_sub (fun _ h => List.mem_cons_of_mem _ (List.mem_append_right _ h)) (by decide +kernel))
set_option maxRecDepth 20000 in
theorem gX1_failing_X1_needTest : GoodIn wsX1_failing (wsV RX1 88 RX1 yX1_needTest wsX1_needTest) := goodIn_app (goodIn_of _ (by decide +kernel)) ggX1_failing_X1_needTest
set_option maxRecDepth 20000 in
theorem ggX1_failing_X0_countOf : GoodIn wsX1_failing wsX0_countOf := goodIn_r _ [14, 15, 36, 37, 38, 39, 40] (by decide +kernel) (by decide +kernel)
set_option maxRecDepth 20000 in
theorem gX1_failing_X0_countOf : GoodIn wsX1_failing (wsV RX1 144 RX0 yX0_countOf wsX0_countOf) := goodIn_app (goodIn_of _ (by decide +kernel)) ggX1_failing_X0_countOf
set_option maxRecDepth 20000 in
theorem ggX1_failing_X0_failuresOf : GoodIn wsX1_failing wsX0_failuresOf := goodIn_r _ [19, 20, 36, 37, 38, 39, 40] (by decide +kernel) (by decide +kernel)
set_option maxRecDepth 20000 in
theorem gX1_failing_X0_failuresOf : GoodIn wsX1_failing (wsV RX1 147 RX0 yX0_failuresOf wsX0_failuresOf) := goodIn_app (goodIn_of _ (by decide +kernel)) ggX1_failing_X0_failuresOf
set_option maxRecDepth 20000 in
theorem ggX1_isQuarantined_X1_needTest : GoodIn wsX1_isQuarantined wsX1_needTest := goodIn_ca (goodIn_r _ [5, 6, 7, 8, 28, 29, 30, 31, 32, 33, 34, 35, 36, 37, 38, 39, 40, 41, 42] (by decide +kernel) (by decide +kernel)) (goodIn_sub (fun _ h => List.mem_cons_of_mem _ (List.mem_append_right _ h)) (by decide +kernel))
set_option maxRecDepth 20000 in
theorem gX1_isQuarantined_X1_needTest : GoodIn wsX1_isQuarantined (wsV RX1 88 RX1 yX1_needTest wsX1_needTest) := goodIn_app (goodIn_of _ (by decide +kernel)) ggX1_isQuarantined_X1_needTest
set_option maxRecDepth 20000 in
theorem ggX1_isQuarantined_X1_isUnsteady : GoodIn wsX1_isQuarantined wsX1_isUnsteady := goodIn_r _ [12, 13, 14, 15, 16, 17, 18, 19, 20, 21, 22, 23, 24, 25, 26, 27, 28, 29, 30, 31, 32, 33, 34, 35, 36, 37, 38, 39, 40, 41, 42, 43, 44, 45, 46, 47] (by decide +kernel) (by decide +kernel)
set_option maxRecDepth 20000 in
theorem gX1_isQuarantined_X1_isUnsteady : GoodIn wsX1_isQuarantined (wsV RX1 150 RX1 yX1_isUnsteady wsX1_isUnsteady) := goodIn_app (goodIn_of _ (by decide +kernel)) ggX1_isQuarantined_X1_isUnsteady
set_option maxRecDepth 20000 in
theorem ggX1_broken_X1_needCommit : GoodIn wsX1_broken wsX1_needCommit := goodIn_ca (goodIn_r _ [7, 8, 9, 10, 28, 29, 30, 31, 32, 33, 34, 35, 36, 37, 38, 39, 40, 41, 42] (by decide +kernel) (by decide +kernel)) (goodIn_sub (fun _ h => List.mem_cons_of_mem _ (List.mem_append_right _ h)) (by decide +kernel))
set_option maxRecDepth 20000 in
theorem gX1_broken_X1_needCommit : GoodIn wsX1_broken (wsV RX1 91 RX1 yX1_needCommit wsX1_needCommit) := goodIn_app (goodIn_of _ (by decide +kernel)) ggX1_broken_X1_needCommit
set_option maxRecDepth 20000 in
theorem ggX1_broken_X0_verdictAt : GoodIn wsX1_broken wsX0_verdictAt := goodIn_r _ [15, 16, 17, 43, 44, 45, 46, 47] (by decide +kernel) (by decide +kernel)
set_option maxRecDepth 20000 in
theorem gX1_broken_X0_verdictAt : GoodIn wsX1_broken (wsV RX1 100 RX0 yX0_verdictAt wsX0_verdictAt) := goodIn_app (goodIn_of _ (by decide +kernel)) ggX1_broken_X0_verdictAt
set_option maxRecDepth 20000 in
theorem ggX1_broken_X1_isUnsteady : GoodIn wsX1_broken wsX1_isUnsteady := goodIn_r _ [21, 10, 22, 23, 24, 25, 26, 2, 27, 11, 12, 13, 14, 15, 16, 17, 28, 29, 30, 31, 32, 33, 34, 35, 36, 37, 38, 39, 40, 41, 42, 43, 44, 45, 46, 47] (by decide +kernel) (by decide +kernel)
set_option maxRecDepth 20000 in
theorem gX1_broken_X1_isUnsteady : GoodIn wsX1_broken (wsV RX1 150 RX1 yX1_isUnsteady wsX1_isUnsteady) := goodIn_app (goodIn_of _ (by decide +kernel)) ggX1_broken_X1_isUnsteady
set_option maxRecDepth 20000 in
theorem ggX1_suspects_X1_needTest : GoodIn wsX1_suspects wsX1_needTest := goodIn_ca (goodIn_r _ [5, 6, 7, 8, 32, 33, 34, 35, 36, 37, 38, 39, 40, 41, 42, 43, 44, 45, 46] (by decide +kernel) (by decide +kernel)) (goodIn_sub (fun _ h => List.mem_cons_of_mem _ (List.mem_append_left _ (List.mem_append_right _ h))) (by decide +kernel))
set_option maxRecDepth 20000 in
theorem gX1_suspects_X1_needTest : GoodIn wsX1_suspects (wsV RX1 88 RX1 yX1_needTest wsX1_needTest) := goodIn_app (goodIn_of _ (by decide +kernel)) ggX1_suspects_X1_needTest
set_option maxRecDepth 20000 in
theorem ggX1_suspects_X1_needTriage : GoodIn wsX1_suspects wsX1_needTriage := goodIn_ca (goodIn_r _ [12, 13, 14, 15, 32, 33, 34, 35, 36, 37, 38, 39, 40, 41, 42, 43, 44, 45, 46] (by decide +kernel) (by decide +kernel)) (goodIn_sub (fun _ h => List.mem_cons_of_mem _ (List.mem_append_right _ h)) (by decide +kernel))
set_option maxRecDepth 20000 in
theorem gX1_suspects_X1_needTriage : GoodIn wsX1_suspects (wsV RX1 116 RX1 yX1_needTriage wsX1_needTriage) := goodIn_app (goodIn_of _ (by decide +kernel)) ggX1_suspects_X1_needTriage
set_option maxRecDepth 20000 in
theorem ggX1_suspects_X1_suspectsOf : GoodIn wsX1_suspects wsX1_suspectsOf := goodIn_r _ [19, 20, 21, 22, 23, 24, 25, 4, 26, 27, 28, 29, 30, 31, 32, 33, 34, 35, 36, 37, 38, 39, 40, 41, 42, 43, 44, 45, 46] (by decide +kernel) (by decide +kernel)
set_option maxRecDepth 20000 in
theorem gX1_suspects_X1_suspectsOf : GoodIn wsX1_suspects (wsV RX1 154 RX1 yX1_suspectsOf wsX1_suspectsOf) := goodIn_app (goodIn_of _ (by decide +kernel)) ggX1_suspects_X1_suspectsOf
set_option maxRecDepth 20000 in
theorem ggX1_contradictions_X1_needTest : GoodIn wsX1_contradictions wsX1_needTest := goodIn_ca (goodIn_r _ [8, 9, 10, 11, 46, 47, 48, 49, 50, 51, 52, 53, 54, 55, 56, 57, 58, 59, 60] (by decide +kernel) (by decide +kernel)) (goodIn_sub (fun _ h => List.mem_cons_of_mem _ (List.mem_append_left _ (List.mem_append_right _ h))) (by decide +kernel))
set_option maxRecDepth 20000 in
theorem gX1_contradictions_X1_needTest : GoodIn wsX1_contradictions (wsV RX1 88 RX1 yX1_needTest wsX1_needTest) := goodIn_app (goodIn_of _ (by decide +kernel)) ggX1_contradictions_X1_needTest
set_option maxRecDepth 20000 in
theorem ggX1_contradictions_X1_needCommit : GoodIn wsX1_contradictions wsX1_needCommit := goodIn_ca (goodIn_r _ [15, 9, 10, 16, 46, 47, 48, 49, 50, 51, 52, 53, 54, 55, 56, 57, 58, 59, 60] (by decide +kernel) (by decide +kernel)) (goodIn_sub (fun _ h => List.mem_cons_of_mem _ (List.mem_append_left _ (List.mem_append_right _ h))) (by decide +kernel))
set_option maxRecDepth 20000 in
theorem gX1_contradictions_X1_needCommit : GoodIn wsX1_contradictions (wsV RX1 91 RX1 yX1_needCommit wsX1_needCommit) := goodIn_app (goodIn_of _ (by decide +kernel)) ggX1_contradictions_X1_needCommit
set_option maxRecDepth 20000 in
theorem ggX1_contradictions_X1_needTriage : GoodIn wsX1_contradictions wsX1_needTriage := goodIn_ca (goodIn_r _ [20, 21, 22, 23, 46, 47, 48, 49, 50, 51, 52, 53, 54, 55, 56, 57, 58, 59, 60] (by decide +kernel) (by decide +kernel)) (goodIn_sub (fun _ h => List.mem_cons_of_mem _ (List.mem_append_right _ h)) (by decide +kernel))
set_option maxRecDepth 20000 in
theorem gX1_contradictions_X1_needTriage : GoodIn wsX1_contradictions (wsV RX1 116 RX1 yX1_needTriage wsX1_needTriage) := goodIn_app (goodIn_of _ (by decide +kernel)) ggX1_contradictions_X1_needTriage
set_option maxRecDepth 20000 in
theorem ggX1_contradictions_X1_suspectsOf : GoodIn wsX1_contradictions wsX1_suspectsOf := goodIn_r _ [27, 2, 3, 28, 29, 30, 31, 7, 32, 33, 34, 35, 36, 37, 46, 47, 48, 49, 50, 51, 52, 53, 54, 55, 56, 57, 58, 59, 60] (by decide +kernel) (by decide +kernel)
set_option maxRecDepth 20000 in
theorem gX1_contradictions_X1_suspectsOf : GoodIn wsX1_contradictions (wsV RX1 154 RX1 yX1_suspectsOf wsX1_suspectsOf) := goodIn_app (goodIn_of _ (by decide +kernel)) ggX1_contradictions_X1_suspectsOf
set_option maxRecDepth 20000 in
theorem ggX1_contradictions_X1_has : GoodIn wsX1_contradictions wsX1_has := goodIn_r _ [37] (by decide +kernel) (by decide +kernel)
set_option maxRecDepth 20000 in
theorem gX1_contradictions_X1_has : GoodIn wsX1_contradictions (va_wsS RX1 157 yX1_has wsX1_has) := goodIn_app (goodIn_of _ (by decide +kernel)) ggX1_contradictions_X1_has
set_option maxRecDepth 20000 in
theorem ggX1_contradictions_X0_contradicting : GoodIn wsX1_contradictions wsX0_contradicting := goodIn_r _ [42, 43, 44, 45, 61, 62, 63, 64, 65] (by decide +kernel) (by decide +kernel)
set_option maxRecDepth 20000 in
theorem gX1_contradictions_X0_contradicting : GoodIn wsX1_contradictions (wsV RX1 161 RX0 yX0_contradicting wsX0_contradicting) := goodIn_app (goodIn_of _ (by decide +kernel)) ggX1_contradictions_X0_contradicting
set_option maxRecDepth 20000 in
theorem ggX1_candidates_X1_needTest : GoodIn wsX1_candidates wsX1_needTest := goodIn_ca (goodIn_r _ [5, 6, 7, 8, 49, 50, 51, 52, 53, 54, 55, 56, 57, 58, 59, 60, 61, 62, 63] (by decide +kernel) (by decide +kernel)) (goodIn_sub (fun _ h => List.mem_cons_of_mem _ (List.mem_append_left _ (List.mem_append_right _ h))) (by decide +kernel))
set_option maxRecDepth 20000 in
theorem gX1_candidates_X1_needTest : GoodIn wsX1_candidates (wsV RX1 88 RX1 yX1_needTest wsX1_needTest) := goodIn_app (goodIn_of _ (by decide +kernel)) ggX1_candidates_X1_needTest
set_option maxRecDepth 20000 in
theorem ggX1_candidates_X1_needTriage : GoodIn wsX1_candidates wsX1_needTriage := goodIn_ca (goodIn_r _ [12, 13, 14, 15, 49, 50, 51, 52, 53, 54, 55, 56, 57, 58, 59, 60, 61, 62, 63] (by decide +kernel) (by decide +kernel)) (goodIn_sub (fun _ h => List.mem_cons_of_mem _ (List.mem_append_right _ h)) (by decide +kernel))
set_option maxRecDepth 20000 in
theorem gX1_candidates_X1_needTriage : GoodIn wsX1_candidates (wsV RX1 116 RX1 yX1_needTriage wsX1_needTriage) := goodIn_app (goodIn_of _ (by decide +kernel)) ggX1_candidates_X1_needTriage
set_option maxRecDepth 20000 in
theorem ggX1_candidates_X1_candidatesOf : GoodIn wsX1_candidates wsX1_candidatesOf := goodIn_r _ [19, 20, 21, 22, 23, 24, 25, 26, 4, 27, 28, 29, 30, 31, 32, 33, 34, 35, 36, 37, 38, 39, 40, 41, 42, 43, 44, 45, 46, 47, 48, 49, 50, 51, 52, 53, 54, 55, 56, 57, 58, 59, 60, 61, 62, 63, 64, 65, 66, 67, 68] (by decide +kernel) (by decide +kernel)
set_option maxRecDepth 20000 in
theorem gX1_candidates_X1_candidatesOf : GoodIn wsX1_candidates (wsV RX1 106 RX1 yX1_candidatesOf wsX1_candidatesOf) := goodIn_app (goodIn_of _ (by decide +kernel)) ggX1_candidates_X1_candidatesOf
set_option maxRecDepth 20000 in
theorem ggX1_likeliest_X1_needTest : GoodIn wsX1_likeliest wsX1_needTest := goodIn_ca (goodIn_r _ [5, 6, 7, 8, 48, 49, 50, 51, 52, 53, 54, 55, 56, 57, 58, 59, 60, 61, 62] (by decide +kernel) (by decide +kernel)) (goodIn_sub (fun _ h => List.mem_cons_of_mem _ (List.mem_append_left _ (List.mem_append_right _ h))) (by decide +kernel))
set_option maxRecDepth 20000 in
theorem gX1_likeliest_X1_needTest : GoodIn wsX1_likeliest (wsV RX1 88 RX1 yX1_needTest wsX1_needTest) := goodIn_app (goodIn_of _ (by decide +kernel)) ggX1_likeliest_X1_needTest
set_option maxRecDepth 20000 in
theorem ggX1_likeliest_X1_needTriage : GoodIn wsX1_likeliest wsX1_needTriage := goodIn_ca (goodIn_r _ [12, 13, 14, 15, 48, 49, 50, 51, 52, 53, 54, 55, 56, 57, 58, 59, 60, 61, 62] (by decide +kernel) (by decide +kernel)) (goodIn_sub (fun _ h => List.mem_cons_of_mem _ (List.mem_append_right _ h)) (by decide +kernel))
set_option maxRecDepth 20000 in
theorem gX1_likeliest_X1_needTriage : GoodIn wsX1_likeliest (wsV RX1 116 RX1 yX1_needTriage wsX1_needTriage) := goodIn_app (goodIn_of _ (by decide +kernel)) ggX1_likeliest_X1_needTriage
set_option maxRecDepth 20000 in
theorem ggX1_likeliest_X1_likeliestOf : GoodIn wsX1_likeliest wsX1_likeliestOf := goodIn_r _ [19, 20, 21, 22, 23, 24, 25, 4, 26, 27, 28, 29, 30, 31, 32, 33, 34, 35, 36, 37, 38, 39, 40, 41, 42, 43, 44, 45, 46, 47, 48, 49, 50, 51, 52, 53, 54, 55, 56, 57, 58, 59, 60, 61, 62, 63, 64, 65, 66, 67] (by decide +kernel) (by decide +kernel)
set_option maxRecDepth 20000 in
theorem gX1_likeliest_X1_likeliestOf : GoodIn wsX1_likeliest (wsV RX1 119 RX1 yX1_likeliestOf wsX1_likeliestOf) := goodIn_app (goodIn_of _ (by decide +kernel)) ggX1_likeliest_X1_likeliestOf
set_option maxRecDepth 20000 in
theorem ggX1_next_X1_needTest : GoodIn wsX1_next wsX1_needTest := goodIn_ca (goodIn_r _ [8, 9, 10, 11, 67, 68, 69, 70, 71, 72, 73, 74, 75, 76, 77, 78, 79, 80, 81] (by decide +kernel) (by decide +kernel)) (goodIn_sub (fun _ h => List.mem_cons_of_mem _ (List.mem_append_left _ (List.mem_append_right _ h))) (by decide +kernel))
set_option maxRecDepth 20000 in
theorem gX1_next_X1_needTest : GoodIn wsX1_next (wsV RX1 88 RX1 yX1_needTest wsX1_needTest) := goodIn_app (goodIn_of _ (by decide +kernel)) ggX1_next_X1_needTest
set_option maxRecDepth 20000 in
theorem ggX1_next_X1_needTriage : GoodIn wsX1_next wsX1_needTriage := goodIn_ca (goodIn_r _ [15, 16, 17, 18, 67, 68, 69, 70, 71, 72, 73, 74, 75, 76, 77, 78, 79, 80, 81] (by decide +kernel) (by decide +kernel)) (goodIn_sub (fun _ h => List.mem_cons_of_mem _ (List.mem_append_right _ h)) (by decide +kernel))
set_option maxRecDepth 20000 in
theorem gX1_next_X1_needTriage : GoodIn wsX1_next (wsV RX1 116 RX1 yX1_needTriage wsX1_needTriage) := goodIn_app (goodIn_of _ (by decide +kernel)) ggX1_next_X1_needTriage
set_option maxRecDepth 20000 in
theorem ggX1_next_X1_candidatesOf : GoodIn wsX1_next wsX1_candidatesOf := goodIn_r _ [22, 1, 2, 3, 23, 24, 25, 26, 7, 27, 28, 29, 30, 31, 32, 33, 34, 35, 36, 37, 38, 39, 40, 41, 42, 43, 44, 45, 46, 47, 48, 67, 68, 69, 70, 71, 72, 73, 74, 75, 76, 77, 78, 79, 80, 81, 82, 83, 84, 85, 86] (by decide +kernel) (by decide +kernel)
set_option maxRecDepth 20000 in
theorem gX1_next_X1_candidatesOf : GoodIn wsX1_next (wsV RX1 106 RX1 yX1_candidatesOf wsX1_candidatesOf) := goodIn_app (goodIn_of _ (by decide +kernel)) ggX1_next_X1_candidatesOf
set_option maxRecDepth 20000 in
theorem ggX1_next_X1_weightAt : GoodIn wsX1_next wsX1_weightAt := goodIn_r _ [51, 52, 53, 54, 55, 56, 57, 58, 59, 60, 61, 62] (by decide +kernel) (by decide +kernel)
set_option maxRecDepth 20000 in
theorem gX1_next_X1_weightAt : GoodIn wsX1_next (va_wsS RX1 165 yX1_weightAt wsX1_weightAt) := goodIn_app (goodIn_of _ (by decide +kernel)) ggX1_next_X1_weightAt
set_option maxRecDepth 20000 in
theorem ggX1_next_X0_countAt : GoodIn wsX1_next wsX0_countAt := goodIn_r _ [66, 43, 48, 82, 83, 84, 85, 86] (by decide +kernel) (by decide +kernel)
set_option maxRecDepth 20000 in
theorem gX1_next_X0_countAt : GoodIn wsX1_next (wsV RX1 169 RX0 yX0_countAt wsX0_countAt) := goodIn_app (goodIn_of _ (by decide +kernel)) ggX1_next_X0_countAt
set_option maxRecDepth 20000 in
theorem ggX1_allPartsOf_X1_has : GoodIn wsX1_allPartsOf wsX1_has := goodIn_r _ [6] (by decide +kernel) (by decide +kernel)
set_option maxRecDepth 20000 in
theorem gX1_allPartsOf_X1_has : GoodIn wsX1_allPartsOf (va_wsS RX1 157 yX1_has wsX1_has) := goodIn_app (goodIn_of _ (by decide +kernel)) ggX1_allPartsOf_X1_has
set_option maxRecDepth 20000 in
theorem ggX1_isUnsteady_X0_verdictAt : GoodIn wsX1_isUnsteady wsX0_verdictAt := goodIn_r _ [13, 14, 15, 31, 32, 33, 34, 35] (by decide +kernel) (by decide +kernel)
set_option maxRecDepth 20000 in
theorem gX1_isUnsteady_X0_verdictAt : GoodIn wsX1_isUnsteady (wsV RX1 100 RX0 yX0_verdictAt wsX0_verdictAt) := goodIn_app (goodIn_of _ (by decide +kernel)) ggX1_isUnsteady_X0_verdictAt
set_option maxRecDepth 20000 in
theorem ggX1_suspectsOf_X1_allPartsOf : GoodIn wsX1_suspectsOf wsX1_allPartsOf := goodIn_r _ [8, 9, 10, 11, 12, 7, 13, 14, 15, 16, 17, 18, 19, 20, 21, 22, 23, 24, 25, 26, 27, 28] (by decide +kernel) (by decide +kernel)
set_option maxRecDepth 20000 in
theorem gX1_suspectsOf_X1_allPartsOf : GoodIn wsX1_suspectsOf (wsV RX1 141 RX1 yX1_allPartsOf wsX1_allPartsOf) := goodIn_app (goodIn_of _ (by decide +kernel)) ggX1_suspectsOf_X1_allPartsOf
set_option maxRecDepth 20000 in
theorem ggX1_candidatesOf_X1_suspectsOf : GoodIn wsX1_candidatesOf wsX1_suspectsOf := goodIn_r _ [9, 1, 2, 10, 11, 12, 13, 8, 14, 15, 16, 17, 18, 19, 31, 32, 33, 34, 35, 36, 37, 38, 39, 40, 41, 42, 43, 44, 45] (by decide +kernel) (by decide +kernel)
set_option maxRecDepth 20000 in
theorem gX1_candidatesOf_X1_suspectsOf : GoodIn wsX1_candidatesOf (wsV RX1 154 RX1 yX1_suspectsOf wsX1_suspectsOf) := goodIn_app (goodIn_of _ (by decide +kernel)) ggX1_candidatesOf_X1_suspectsOf
set_option maxRecDepth 20000 in
theorem ggX1_candidatesOf_X0_passesWithin : GoodIn wsX1_candidatesOf wsX0_passesWithin := goodIn_r _ [24, 25, 46, 47, 48, 49, 50] (by decide +kernel) (by decide +kernel)
set_option maxRecDepth 20000 in
theorem gX1_candidatesOf_X0_passesWithin : GoodIn wsX1_candidatesOf (wsV RX1 186 RX0 yX0_passesWithin wsX0_passesWithin) := goodIn_app (goodIn_of _ (by decide +kernel)) ggX1_candidatesOf_X0_passesWithin
set_option maxRecDepth 20000 in
theorem ggX1_candidatesOf_X0_riseBehind : GoodIn wsX1_candidatesOf wsX0_riseBehind := goodIn_r _ [29, 30, 25, 46, 47, 48, 49, 50] (by decide +kernel) (by decide +kernel)
set_option maxRecDepth 20000 in
theorem gX1_candidatesOf_X0_riseBehind : GoodIn wsX1_candidatesOf (wsV RX1 190 RX0 yX0_riseBehind wsX0_riseBehind) := goodIn_app (goodIn_of _ (by decide +kernel)) ggX1_candidatesOf_X0_riseBehind
set_option maxRecDepth 20000 in
theorem ggX1_candidatesOf_X1_has : GoodIn wsX1_candidatesOf wsX1_has := goodIn_r _ [19] (by decide +kernel) (by decide +kernel)
set_option maxRecDepth 20000 in
theorem gX1_candidatesOf_X1_has : GoodIn wsX1_candidatesOf (va_wsS RX1 157 yX1_has wsX1_has) := goodIn_app (goodIn_of _ (by decide +kernel)) ggX1_candidatesOf_X1_has
set_option maxRecDepth 20000 in
theorem ggX1_likeliestOf_X1_suspectsOf : GoodIn wsX1_likeliestOf wsX1_suspectsOf := goodIn_r _ [8, 1, 2, 9, 10, 11, 12, 7, 13, 14, 15, 16, 17, 18, 30, 31, 32, 33, 34, 35, 36, 37, 38, 39, 40, 41, 42, 43, 44] (by decide +kernel) (by decide +kernel)
set_option maxRecDepth 20000 in
theorem gX1_likeliestOf_X1_suspectsOf : GoodIn wsX1_likeliestOf (wsV RX1 154 RX1 yX1_suspectsOf wsX1_suspectsOf) := goodIn_app (goodIn_of _ (by decide +kernel)) ggX1_likeliestOf_X1_suspectsOf
set_option maxRecDepth 20000 in
theorem ggX1_likeliestOf_X0_passesWithin : GoodIn wsX1_likeliestOf wsX0_passesWithin := goodIn_r _ [23, 24, 45, 46, 47, 48, 49] (by decide +kernel) (by decide +kernel)
set_option maxRecDepth 20000 in
theorem gX1_likeliestOf_X0_passesWithin : GoodIn wsX1_likeliestOf (wsV RX1 186 RX0 yX0_passesWithin wsX0_passesWithin) := goodIn_app (goodIn_of _ (by decide +kernel)) ggX1_likeliestOf_X0_passesWithin
set_option maxRecDepth 20000 in
theorem ggX1_likeliestOf_X0_riseBehind : GoodIn wsX1_likeliestOf wsX0_riseBehind := goodIn_r _ [28, 29, 24, 45, 46, 47, 48, 49] (by decide +kernel) (by decide +kernel)
set_option maxRecDepth 20000 in
theorem gX1_likeliestOf_X0_riseBehind : GoodIn wsX1_likeliestOf (wsV RX1 190 RX0 yX0_riseBehind wsX0_riseBehind) := goodIn_app (goodIn_of _ (by decide +kernel)) ggX1_likeliestOf_X0_riseBehind
set_option maxRecDepth 20000 in
theorem ggX1_likeliestOf_X1_has : GoodIn wsX1_likeliestOf wsX1_has := goodIn_r _ [18] (by decide +kernel) (by decide +kernel)
set_option maxRecDepth 20000 in
theorem gX1_likeliestOf_X1_has : GoodIn wsX1_likeliestOf (va_wsS RX1 157 yX1_has wsX1_has) := goodIn_app (goodIn_of _ (by decide +kernel)) ggX1_likeliestOf_X1_has
set_option maxRecDepth 20000 in
theorem ggX1_weightAt_J13_bitCount_95d88 : GoodIn wsX1_weightAt wsJ13_bitCount_95d88 := goodIn_r _ [8, 9, 10, 11] (by decide +kernel) (by decide +kernel)
set_option maxRecDepth 20000 in
theorem gX1_weightAt_J13_bitCount_95d88 : GoodIn wsX1_weightAt (va_wsS RX1 110 yJ13_bitCount_95d88 wsJ13_bitCount_95d88) := goodIn_app (goodIn_of _ (by decide +kernel)) ggX1_weightAt_J13_bitCount_95d88
set_option maxRecDepth 20000 in
theorem ggL_setUses_X1_setUses : GoodIn wsL_setUses wsX1_setUses := goodIn_ca (goodIn_ca (goodIn_r _ [9, 10, 11, 12, 13, 14, 8, 15, 16, 17, 18, 19, 20, 21, 22, 23, 24, 25, 26, 27, 28, 29, 30, 31, 32, 33] (by decide +kernel) (by decide +kernel)) (goodIn_sub (fun _ h => List.mem_cons_of_mem _ (List.mem_append_left _ (List.mem_append_right _ h))) (by decide +kernel))) (goodIn_sub (fun _ h => List.mem_cons_of_mem _ (List.mem_append_right _ h)) (by decide +kernel))
set_option maxRecDepth 20000 in
theorem gL_setUses_X1_setUses : GoodIn wsL_setUses (wsV RL 10 RX1 yX1_setUses wsX1_setUses) := goodIn_app (goodIn_of _ (by decide +kernel)) ggL_setUses_X1_setUses
set_option maxRecDepth 20000 in
theorem ggL_addCommit_X1_addCommit : GoodIn wsL_addCommit wsX1_addCommit := goodIn_ca (goodIn_ca (goodIn_r _ [9, 10, 11, 12, 13, 14, 15, 8, 16, 17, 18, 19, 20, 21, 22, 23, 24, 25, 26, 27, 28, 29, 30, 31, 32, 33, 34] (by decide +kernel) (by decide +kernel)) (goodIn_sub (fun _ h => List.mem_cons_of_mem _ (List.mem_append_left _ (List.mem_append_right _ h))) (by decide +kernel))) (goodIn_sub (fun _ h => List.mem_cons_of_mem _ (List.mem_append_right _ h)) (by decide +kernel))
set_option maxRecDepth 20000 in
theorem gL_addCommit_X1_addCommit : GoodIn wsL_addCommit (wsV RL 22 RX1 yX1_addCommit wsX1_addCommit) := goodIn_app (goodIn_of _ (by decide +kernel)) ggL_addCommit_X1_addCommit
set_option maxRecDepth 20000 in
theorem ggL_addTest_X1_addTest : GoodIn wsL_addTest wsX1_addTest := goodIn_ca (goodIn_ca (goodIn_r _ [9, 10, 11, 12, 13, 14, 15, 8, 16, 17, 18, 19, 20, 21, 22, 23, 24, 25, 26, 27, 28, 29, 30, 31, 32, 33, 34] (by decide +kernel) (by decide +kernel)) (goodIn_sub (fun _ h => List.mem_cons_of_mem _ (List.mem_append_left _ (List.mem_append_right _ h))) (by decide +kernel))) (goodIn_sub (fun _ h => List.mem_cons_of_mem _ (List.mem_append_right _ h)) (by decide +kernel))
set_option maxRecDepth 20000 in
theorem gL_addTest_X1_addTest : GoodIn wsL_addTest (wsV RL 29 RX1 yX1_addTest wsX1_addTest) := goodIn_app (goodIn_of _ (by decide +kernel)) ggL_addTest_X1_addTest
set_option maxRecDepth 20000 in
theorem ggL_setQuarantine_X1_setQuarantine : GoodIn wsL_setQuarantine wsX1_setQuarantine := goodIn_ca (goodIn_r _ [7, 8, 9, 10, 11, 12, 13, 14, 15, 16, 17, 18, 19, 20, 21, 22, 23, 24, 25, 26] (by decide +kernel) (by decide +kernel)) (goodIn_sub (fun _ h => List.mem_cons_of_mem _ (List.mem_append_right _ h)) (by decide +kernel))
set_option maxRecDepth 20000 in
theorem gL_setQuarantine_X1_setQuarantine : GoodIn wsL_setQuarantine (wsV RL 32 RX1 yX1_setQuarantine wsX1_setQuarantine) := goodIn_app (goodIn_of _ (by decide +kernel)) ggL_setQuarantine_X1_setQuarantine
set_option maxRecDepth 20000 in
theorem ggL_setNoise_X1_setNoise : GoodIn wsL_setNoise wsX1_setNoise := goodIn_ca (goodIn_r _ [7, 8, 9, 10, 11, 12, 13, 14, 15, 16, 17, 18, 19, 20, 21, 22, 23, 24, 25] (by decide +kernel) (by decide +kernel)) (goodIn_sub (fun _ h => List.mem_cons_of_mem _ (List.mem_append_right _ h)) (by decide +kernel))
set_option maxRecDepth 20000 in
theorem gL_setNoise_X1_setNoise : GoodIn wsL_setNoise (wsV RL 36 RX1 yX1_setNoise wsX1_setNoise) := goodIn_app (goodIn_of _ (by decide +kernel)) ggL_setNoise_X1_setNoise
set_option maxRecDepth 20000 in
theorem ggL_record_X1_record : GoodIn wsL_record wsX1_record := goodIn_ca (goodIn_ca (goodIn_r _ [9, 10, 11, 12, 13, 14, 15, 8, 16, 17, 18, 19, 20, 21, 22, 23, 24, 25, 26, 27, 28, 29, 30, 31, 32, 33, 34, 35, 36, 37, 38, 39, 40, 41, 42, 43, 44, 45, 46, 47, 48, 49, 50, 51, 52, 53, 54, 55, 56, 57, 58] (by decide +kernel) (by decide +kernel)) (goodIn_sub (fun _ h => List.mem_cons_of_mem _ (List.mem_append_left _ (List.mem_append_right _ h))) (by decide +kernel))) (goodIn_sub (fun _ h => List.mem_cons_of_mem _ (List.mem_append_right _ h)) (by decide +kernel))
set_option maxRecDepth 20000 in
theorem gL_record_X1_record : GoodIn wsL_record (wsV RL 39 RX1 yX1_record wsX1_record) := goodIn_app (goodIn_of _ (by decide +kernel)) ggL_record_X1_record
set_option maxRecDepth 20000 in
theorem ggL_triage_X1_triage : GoodIn wsL_triage wsX1_triage := goodIn_ca (goodIn_ca (goodIn_r _ [9, 10, 11, 12, 13, 14, 15, 16, 17, 8, 18, 19, 20, 21, 22, 23, 24, 25, 26, 27, 28, 29, 30, 31, 32, 33, 34, 35, 36, 37, 38, 39, 40, 41, 42, 43, 44, 45, 46, 47, 48, 49, 50, 51, 52, 53, 54, 55, 56, 57, 58, 59, 60, 61, 62, 63, 64, 65, 66, 67, 68, 69, 70, 71, 72, 73, 74, 75, 76, 77, 78, 79, 80, 81, 82, 83, 84] (by decide +kernel) (by decide +kernel)) (goodIn_sub (fun _ h => List.mem_cons_of_mem _ (List.mem_append_left _ (List.mem_append_right _ h))) (by decide +kernel))) (goodIn_sub (fun _ h => List.mem_cons_of_mem _ (List.mem_append_right _ h)) (by decide +kernel))
set_option maxRecDepth 20000 in
theorem gL_triage_X1_triage : GoodIn wsL_triage (wsV RL 43 RX1 yX1_triage wsX1_triage) := goodIn_app (goodIn_of _ (by decide +kernel)) ggL_triage_X1_triage
set_option maxRecDepth 20000 in
theorem ggL_close_X1_close : GoodIn wsL_close wsX1_close := goodIn_ca (goodIn_ca (goodIn_r _ [9, 10, 11, 12, 13, 8, 14, 15, 16, 17, 18, 19, 20, 21, 22, 23, 24, 25, 26, 27, 28, 29, 30, 31, 32, 33, 34, 35, 36, 37, 38, 39, 40, 41, 42, 43, 44, 45, 46, 47, 48, 49, 50, 51, 52, 53, 54, 55, 56, 57, 58, 59, 60, 61, 62, 63, 64, 65, 66, 67, 68, 69, 70, 71, 72, 73, 74, 75, 76, 77, 78, 79, 80, 81, 82, 83, 84, 85, 86, 87, 88, 89, 90, 91, 92, 93] (by decide +kernel) (by decide +kernel)) (goodIn_sub (fun _ h => List.mem_cons_of_mem _ (List.mem_append_left _ (List.mem_append_right _ h))) (by decide +kernel))) (goodIn_sub (fun _ h => List.mem_cons_of_mem _ (List.mem_append_right _ h)) (by decide +kernel))
set_option maxRecDepth 20000 in
theorem gL_close_X1_close : GoodIn wsL_close (wsV RL 47 RX1 yX1_close wsX1_close) := goodIn_app (goodIn_of _ (by decide +kernel)) ggL_close_X1_close
set_option maxRecDepth 20000 in
theorem ggL_enqueue_X1_enqueue : GoodIn wsL_enqueue wsX1_enqueue := goodIn_ca (goodIn_ca (goodIn_r _ [9, 10, 11, 12, 13, 14, 15, 16, 8, 17, 18, 19, 20, 21, 22, 23, 24, 25, 26, 27, 28, 29, 30, 31, 32, 33, 34, 35, 36, 37, 38, 39, 40, 41, 42, 43, 44] (by decide +kernel) (by decide +kernel)) (goodIn_sub (fun _ h => List.mem_cons_of_mem _ (List.mem_append_left _ (List.mem_append_right _ h))) (by decide +kernel))) (goodIn_sub (fun _ h => List.mem_cons_of_mem _ (List.mem_append_right _ h)) (by decide +kernel))
set_option maxRecDepth 20000 in
theorem gL_enqueue_X1_enqueue : GoodIn wsL_enqueue (wsV RL 50 RX1 yX1_enqueue wsX1_enqueue) := goodIn_app (goodIn_of _ (by decide +kernel)) ggL_enqueue_X1_enqueue
set_option maxRecDepth 20000 in
theorem ggL_newDay_X1_newDay : GoodIn wsL_newDay wsX1_newDay := goodIn_ca (goodIn_r _ [7, 8, 9, 10, 11, 12, 13, 14, 15, 16, 17, 18, 19, 20, 21, 22, 23, 24, 25] (by decide +kernel) (by decide +kernel)) (goodIn_sub (fun _ h => List.mem_cons_of_mem _ (List.mem_append_right _ h)) (by decide +kernel))
set_option maxRecDepth 20000 in
theorem gL_newDay_X1_newDay : GoodIn wsL_newDay (wsV RL 53 RX1 yX1_newDay wsX1_newDay) := goodIn_app (goodIn_of _ (by decide +kernel)) ggL_newDay_X1_newDay
set_option maxRecDepth 20000 in
theorem ggL_take_X1_take : GoodIn wsL_take wsX1_take := goodIn_ca (goodIn_r _ [7, 8, 9, 10, 11, 12, 13, 6, 14, 15, 16, 17, 18, 19, 20, 21, 22, 23, 24, 25, 26, 27, 28, 29, 30, 31, 32, 33, 34, 35, 36, 37, 38, 39, 40, 41, 42, 43, 44, 45, 46, 47, 48, 49, 50, 51, 52, 53, 54, 55, 56, 57, 58, 59, 60, 61, 62, 63, 64, 65, 66, 67, 68, 69, 70, 71, 72, 73, 74, 75, 76, 77, 78, 79, 80, 81, 82, 83, 84, 85] (by decide +kernel) (by decide +kernel)) (goodIn_sub (fun _ h => List.mem_cons_of_mem _ (List.mem_append_right _ h)) (by decide +kernel))
set_option maxRecDepth 20000 in
theorem gL_take_X1_take : GoodIn wsL_take (wsV RL 56 RX1 yX1_take wsX1_take) := goodIn_app (goodIn_of _ (by decide +kernel)) ggL_take_X1_take
set_option maxRecDepth 20000 in
theorem ggL_partsOf_X1_partsOf : GoodIn wsL_partsOf wsX1_partsOf := goodIn_ca (goodIn_r _ [7, 8, 9, 10, 6, 11, 12, 13, 14, 15, 16, 17, 18, 19, 20, 21, 22, 23, 24, 25, 26, 27, 28, 29, 30, 31, 32, 33, 34, 35, 36, 37, 38] (by decide +kernel) (by decide +kernel)) (goodIn_sub (fun _ h => List.mem_cons_of_mem _ (List.mem_append_right _ h)) (by decide +kernel))
set_option maxRecDepth 20000 in
theorem gL_partsOf_X1_partsOf : GoodIn wsL_partsOf (wsV RL 60 RX1 yX1_partsOf wsX1_partsOf) := goodIn_app (goodIn_of _ (by decide +kernel)) ggL_partsOf_X1_partsOf
set_option maxRecDepth 20000 in
theorem ggL_touches_X1_touches : GoodIn wsL_touches wsX1_touches := goodIn_ca (goodIn_r _ [7, 8, 9, 10, 11, 12, 6, 13, 14, 15, 16, 17, 18, 19, 20, 21, 22, 23, 24, 25, 26, 27, 28, 29, 30, 31, 32, 33, 34, 35, 36, 37, 38, 39, 40] (by decide +kernel) (by decide +kernel)) (goodIn_sub (fun _ h => List.mem_cons_of_mem _ (List.mem_append_right _ h)) (by decide +kernel))
set_option maxRecDepth 20000 in
theorem gL_touches_X1_touches : GoodIn wsL_touches (wsV RL 63 RX1 yX1_touches wsX1_touches) := goodIn_app (goodIn_of _ (by decide +kernel)) ggL_touches_X1_touches
set_option maxRecDepth 20000 in
theorem ggL_runs_X1_runs : GoodIn wsL_runs wsX1_runs := goodIn_ca (goodIn_r _ [7, 8, 9, 10, 11, 6, 12, 13, 14, 15, 16, 17, 18, 19, 20, 21, 22, 23, 24, 25, 26, 27, 28, 29, 30, 31, 32, 33, 34, 35, 36, 37, 38, 39, 40, 41] (by decide +kernel) (by decide +kernel)) (goodIn_sub (fun _ h => List.mem_cons_of_mem _ (List.mem_append_right _ h)) (by decide +kernel))
set_option maxRecDepth 20000 in
theorem gL_runs_X1_runs : GoodIn wsL_runs (wsV RL 66 RX1 yX1_runs wsX1_runs) := goodIn_app (goodIn_of _ (by decide +kernel)) ggL_runs_X1_runs
set_option maxRecDepth 20000 in
theorem ggL_verdict_X1_verdict : GoodIn wsL_verdict wsX1_verdict := goodIn_ca (goodIn_r _ [7, 8, 9, 10, 11, 6, 12, 13, 14, 15, 16, 17, 18, 19, 20, 21, 22, 23, 24, 25, 26, 27, 28, 29, 30, 31, 32, 33, 34, 35, 36, 37, 38, 39, 40, 41, 42, 43, 44, 45, 46, 47] (by decide +kernel) (by decide +kernel)) (goodIn_sub (fun _ h => List.mem_cons_of_mem _ (List.mem_append_right _ h)) (by decide +kernel))
set_option maxRecDepth 20000 in
theorem gL_verdict_X1_verdict : GoodIn wsL_verdict (wsV RL 69 RX1 yX1_verdict wsX1_verdict) := goodIn_app (goodIn_of _ (by decide +kernel)) ggL_verdict_X1_verdict
set_option maxRecDepth 20000 in
theorem ggL_failing_X1_failing : GoodIn wsL_failing wsX1_failing := goodIn_ca (goodIn_r _ [7, 8, 9, 10, 11, 6, 12, 13, 14, 15, 16, 17, 18, 19, 20, 21, 22, 23, 24, 25, 26, 27, 28, 29, 30, 31, 32, 33, 34, 35, 36, 37, 38, 39, 40, 41, 42, 43, 44, 45, 46] (by decide +kernel) (by decide +kernel)) (goodIn_sub (fun _ h => List.mem_cons_of_mem _ (List.mem_append_right _ h)) (by decide +kernel))
set_option maxRecDepth 20000 in
theorem gL_failing_X1_failing : GoodIn wsL_failing (wsV RL 72 RX1 yX1_failing wsX1_failing) := goodIn_app (goodIn_of _ (by decide +kernel)) ggL_failing_X1_failing
set_option maxRecDepth 20000 in
theorem ggL_isQuarantined_X1_isQuarantined : GoodIn wsL_isQuarantined wsX1_isQuarantined := goodIn_ca (goodIn_r _ [7, 8, 9, 10, 6, 11, 12, 13, 14, 15, 16, 17, 18, 19, 20, 21, 22, 23, 24, 25, 26, 27, 28, 29, 30, 31, 32, 33, 34, 35, 36, 37, 38, 39, 40, 41, 42, 43, 44, 45, 46, 47, 48, 49, 50, 51, 52, 53] (by decide +kernel) (by decide +kernel)) (goodIn_sub (fun _ h => List.mem_cons_of_mem _ (List.mem_append_right _ h)) (by decide +kernel))
set_option maxRecDepth 20000 in
theorem gL_isQuarantined_X1_isQuarantined : GoodIn wsL_isQuarantined (wsV RL 75 RX1 yX1_isQuarantined wsX1_isQuarantined) := goodIn_app (goodIn_of _ (by decide +kernel)) ggL_isQuarantined_X1_isQuarantined
set_option maxRecDepth 20000 in
theorem ggL_broken_X1_broken : GoodIn wsL_broken wsX1_broken := goodIn_ca (goodIn_r _ [7, 8, 9, 10, 11, 12, 6, 13, 14, 15, 16, 17, 18, 19, 20, 21, 22, 23, 24, 25, 26, 27, 28, 29, 30, 31, 32, 33, 34, 35, 36, 37, 38, 39, 40, 41, 42, 43, 44, 45, 46, 47, 48, 49, 50, 51, 52, 53] (by decide +kernel) (by decide +kernel)) (goodIn_sub (fun _ h => List.mem_cons_of_mem _ (List.mem_append_right _ h)) (by decide +kernel))
set_option maxRecDepth 20000 in
theorem gL_broken_X1_broken : GoodIn wsL_broken (wsV RL 79 RX1 yX1_broken wsX1_broken) := goodIn_app (goodIn_of _ (by decide +kernel)) ggL_broken_X1_broken
set_option maxRecDepth 20000 in
theorem ggL_suspects_X1_suspects : GoodIn wsL_suspects wsX1_suspects := goodIn_ca (goodIn_ca (goodIn_r _ [9, 10, 11, 12, 8, 13, 14, 15, 16, 17, 18, 19, 20, 21, 22, 23, 24, 25, 26, 27, 28, 29, 30, 31, 32, 33, 34, 35, 36, 37, 38, 39, 40, 41, 42, 43, 44, 45, 46, 47, 48, 49, 50, 51, 52, 53, 54] (by decide +kernel) (by decide +kernel)) (goodIn_sub (fun _ h => List.mem_cons_of_mem _ (List.mem_append_left _ (List.mem_append_right _ h))) (by decide +kernel))) (goodIn_sub (fun _ h => List.mem_cons_of_mem _ (List.mem_append_right _ h)) (by decide +kernel))
set_option maxRecDepth 20000 in
theorem gL_suspects_X1_suspects : GoodIn wsL_suspects (wsV RL 82 RX1 yX1_suspects wsX1_suspects) := goodIn_app (goodIn_of _ (by decide +kernel)) ggL_suspects_X1_suspects
set_option maxRecDepth 20000 in
theorem ggL_contradictions_X1_contradictions : GoodIn wsL_contradictions wsX1_contradictions := goodIn_ca (goodIn_ca (goodIn_r _ [9, 10, 11, 12, 13, 14, 15, 8, 16, 17, 18, 19, 20, 21, 22, 23, 24, 25, 26, 27, 28, 29, 30, 31, 32, 33, 34, 35, 36, 37, 38, 39, 40, 41, 42, 43, 44, 45, 46, 47, 48, 49, 50, 51, 52, 53, 54, 55, 56, 57, 58, 59, 60, 61, 62, 63, 64, 65, 66, 67, 68, 69, 70, 71, 72, 73] (by decide +kernel) (by decide +kernel)) (goodIn_sub (fun _ h => List.mem_cons_of_mem _ (List.mem_append_left _ (List.mem_append_right _ h))) (by decide +kernel))) (goodIn_sub (fun _ h => List.mem_cons_of_mem _ (List.mem_append_right _ h)) (by decide +kernel))
set_option maxRecDepth 20000 in
theorem gL_contradictions_X1_contradictions : GoodIn wsL_contradictions (wsV RL 90 RX1 yX1_contradictions wsX1_contradictions) := goodIn_app (goodIn_of _ (by decide +kernel)) ggL_contradictions_X1_contradictions
set_option maxRecDepth 20000 in
theorem ggL_candidates_X1_candidates : GoodIn wsL_candidates wsX1_candidates := goodIn_ca (goodIn_ca (goodIn_r _ [9, 10, 11, 12, 8, 13, 14, 15, 16, 17, 18, 19, 20, 21, 22, 23, 24, 25, 26, 27, 28, 29, 30, 31, 32, 33, 34, 35, 36, 37, 38, 39, 40, 41, 42, 43, 44, 45, 46, 47, 48, 49, 50, 51, 52, 53, 54, 55, 56, 57, 58, 59, 60, 61, 62, 63, 64, 65, 66, 67, 68, 69, 70, 71, 72, 73, 74, 75, 76] (by decide +kernel) (by decide +kernel)) (goodIn_sub (fun _ h => List.mem_cons_of_mem _ (List.mem_append_left _ (List.mem_append_right _ h))) (by decide +kernel))) (goodIn_sub (fun _ h => List.mem_cons_of_mem _ (List.mem_append_right _ h)) (by decide +kernel))
set_option maxRecDepth 20000 in
theorem gL_candidates_X1_candidates : GoodIn wsL_candidates (wsV RL 93 RX1 yX1_candidates wsX1_candidates) := goodIn_app (goodIn_of _ (by decide +kernel)) ggL_candidates_X1_candidates
set_option maxRecDepth 20000 in
theorem ggL_likeliest_X1_likeliest : GoodIn wsL_likeliest wsX1_likeliest := goodIn_ca (goodIn_ca (goodIn_r _ [9, 10, 11, 12, 8, 13, 14, 15, 16, 17, 18, 19, 20, 21, 22, 23, 24, 25, 26, 27, 28, 29, 30, 31, 32, 33, 34, 35, 36, 37, 38, 39, 40, 41, 42, 43, 44, 45, 46, 47, 48, 49, 50, 51, 52, 53, 54, 55, 56, 57, 58, 59, 60, 61, 62, 63, 64, 65, 66, 67, 68, 69, 70, 71, 72, 73, 74, 75] (by decide +kernel) (by decide +kernel)) (goodIn_sub (fun _ h => List.mem_cons_of_mem _ (List.mem_append_left _ (List.mem_append_right _ h))) (by decide +kernel))) (goodIn_sub (fun _ h => List.mem_cons_of_mem _ (List.mem_append_right _ h)) (by decide +kernel))
set_option maxRecDepth 20000 in
theorem gL_likeliest_X1_likeliest : GoodIn wsL_likeliest (wsV RL 96 RX1 yX1_likeliest wsX1_likeliest) := goodIn_app (goodIn_of _ (by decide +kernel)) ggL_likeliest_X1_likeliest
set_option maxRecDepth 20000 in
theorem ggL_next_X1_next : GoodIn wsL_next wsX1_next := goodIn_ca (goodIn_ca (goodIn_r _ [9, 10, 11, 12, 13, 14, 15, 8, 16, 17, 18, 19, 20, 21, 22, 23, 24, 25, 26, 27, 28, 29, 30, 31, 32, 33, 34, 35, 36, 37, 38, 39, 40, 41, 42, 43, 44, 45, 46, 47, 48, 49, 50, 51, 52, 53, 54, 55, 56, 57, 58, 59, 60, 61, 62, 63, 64, 65, 66, 67, 68, 69, 70, 71, 72, 73, 74, 75, 76, 77, 78, 79, 80, 81, 82, 83, 84, 85, 86, 87, 88, 89, 90, 91, 92, 93, 94] (by decide +kernel) (by decide +kernel)) (goodIn_sub (fun _ h => List.mem_cons_of_mem _ (List.mem_append_left _ (List.mem_append_right _ h))) (by decide +kernel))) (goodIn_sub (fun _ h => List.mem_cons_of_mem _ (List.mem_append_right _ h)) (by decide +kernel))
set_option maxRecDepth 20000 in
theorem gL_next_X1_next : GoodIn wsL_next (wsV RL 99 RX1 yX1_next wsX1_next) := goodIn_app (goodIn_of _ (by decide +kernel)) ggL_next_X1_next
set_option maxRecDepth 20000 in
theorem ggL_parts_L_partsOf : GoodIn wsL_parts wsL_partsOf := goodIn_ca (goodIn_r _ [4, 5, 6, 7, 8, 9, 10, 11, 12, 13, 14, 15, 16, 17, 18, 19, 20, 21, 22, 23, 24, 25, 26, 27, 28, 29, 30, 31, 32, 33, 34, 35, 36, 37, 38, 39, 40, 41, 42] (by decide +kernel) (by decide +kernel)) (goodIn_sub (fun _ h => List.mem_cons_of_mem _ (List.mem_append_right _ h)) (by decide +kernel))
set_option maxRecDepth 20000 in
theorem gL_parts_L_partsOf : GoodIn wsL_parts (va_wsS RL 102 yL_partsOf wsL_partsOf) := goodIn_app (goodIn_of _ (by decide +kernel)) ggL_parts_L_partsOf
set_option maxRecDepth 20000 in
theorem ggL_verdicts_X1_tests : GoodIn wsL_verdicts wsX1_tests := goodIn_r _ [6, 7, 111, 112, 113, 114, 115, 116, 117, 118, 119, 120, 121, 122, 123, 124, 125] (by decide +kernel) (by decide +kernel)
set_option maxRecDepth 20000 in
theorem gL_verdicts_X1_tests : GoodIn wsL_verdicts (wsV RL 107 RX1 yX1_tests wsX1_tests) := goodIn_app (goodIn_of _ (by decide +kernel)) ggL_verdicts_X1_tests
set_option maxRecDepth 20000 in
theorem ggL_verdicts_X1_commits : GoodIn wsL_verdicts wsX1_commits := goodIn_r _ [11, 12, 111, 112, 113, 114, 115, 116, 117, 118, 119, 120, 121, 122, 123, 124, 125] (by decide +kernel) (by decide +kernel)
set_option maxRecDepth 20000 in
theorem gL_verdicts_X1_commits : GoodIn wsL_verdicts (wsV RL 110 RX1 yX1_commits wsX1_commits) := goodIn_app (goodIn_of _ (by decide +kernel)) ggL_verdicts_X1_commits
set_option maxRecDepth 20000 in
theorem ggL_verdicts_L_verdict : GoodIn wsL_verdicts wsL_verdict := goodIn_ca (goodIn_r _ [16, 17, 1, 18, 19, 20, 5, 21, 22, 23, 24, 25, 26, 27, 28, 7, 29, 30, 31, 32, 12, 33, 34, 35, 36, 37, 38, 39, 111, 112, 113, 114, 115, 116, 117, 118, 119, 120, 121, 122, 123, 124, 125, 126, 127, 128, 129, 130] (by decide +kernel) (by decide +kernel)) (goodIn_sub (fun _ h => List.mem_cons_of_mem _ (List.mem_append_right _ h)) (by decide +kernel))
set_option maxRecDepth 20000 in
theorem gL_verdicts_L_verdict : GoodIn wsL_verdicts (va_wsS RL 113 yL_verdict wsL_verdict) := goodIn_app (goodIn_of _ (by decide +kernel)) ggL_verdicts_L_verdict
set_option maxRecDepth 20000 in
theorem ggL_verdicts_L_runs : GoodIn wsL_verdicts wsL_runs := goodIn_ca (goodIn_r _ [42, 17, 1, 43, 44, 45, 5, 46, 22, 23, 24, 25, 26, 27, 28, 7, 47, 48, 49, 36, 50, 51, 111, 112, 113, 114, 115, 116, 117, 118, 119, 120, 121, 122, 123, 124, 125, 126, 127, 128, 129, 130] (by decide +kernel) (by decide +kernel)) (goodIn_sub (fun _ h => List.mem_cons_of_mem _ (List.mem_append_right _ h)) (by decide +kernel))
set_option maxRecDepth 20000 in
theorem gL_verdicts_L_runs : GoodIn wsL_verdicts (va_wsS RL 116 yL_runs wsL_runs) := goodIn_app (goodIn_of _ (by decide +kernel)) ggL_verdicts_L_runs
set_option maxRecDepth 20000 in
theorem ggL_verdicts_L_isQuarantined : GoodIn wsL_verdicts wsL_isQuarantined := goodIn_ca (goodIn_r _ [54, 17, 1, 55, 56, 57, 5, 58, 23, 24, 25, 26, 27, 28, 7, 59, 60, 61, 62, 12, 63, 64, 65, 66, 67, 22, 68, 33, 34, 35, 36, 37, 38, 39, 111, 112, 113, 114, 115, 116, 117, 118, 119, 120, 121, 122, 123, 124, 125, 126, 127, 128, 129, 130] (by decide +kernel) (by decide +kernel)) (goodIn_sub (fun _ h => List.mem_cons_of_mem _ (List.mem_append_right _ h)) (by decide +kernel))
set_option maxRecDepth 20000 in
theorem gL_verdicts_L_isQuarantined : GoodIn wsL_verdicts (va_wsS RL 118 yL_isQuarantined wsL_isQuarantined) := goodIn_app (goodIn_of _ (by decide +kernel)) ggL_verdicts_L_isQuarantined
set_option maxRecDepth 20000 in
theorem ggL_verdicts_L_failing : GoodIn wsL_verdicts wsL_failing := goodIn_ca (goodIn_r _ [71, 17, 1, 72, 73, 74, 5, 75, 22, 23, 24, 25, 26, 27, 28, 7, 47, 48, 49, 36, 50, 51, 76, 77, 78, 79, 39, 111, 112, 113, 114, 115, 116, 117, 118, 119, 120, 121, 122, 123, 124, 125, 126, 127, 128, 129, 130] (by decide +kernel) (by decide +kernel)) (goodIn_sub (fun _ h => List.mem_cons_of_mem _ (List.mem_append_right _ h)) (by decide +kernel))
set_option maxRecDepth 20000 in
theorem gL_verdicts_L_failing : GoodIn wsL_verdicts (va_wsS RL 120 yL_failing wsL_failing) := goodIn_app (goodIn_of _ (by decide +kernel)) ggL_verdicts_L_failing
set_option maxRecDepth 20000 in
theorem ggL_verdicts_L_partsOf : GoodIn wsL_verdicts wsL_partsOf := goodIn_ca (goodIn_r _ [82, 17, 1, 83, 84, 85, 5, 86, 23, 24, 25, 26, 27, 28, 7, 87, 88, 89, 90, 91, 92, 93, 94, 95, 111, 112, 113, 114, 115, 116, 117, 118, 119, 120, 121, 122, 123, 124, 125] (by decide +kernel) (by decide +kernel)) (goodIn_sub (fun _ h => List.mem_cons_of_mem _ (List.mem_append_right _ h)) (by decide +kernel))
set_option maxRecDepth 20000 in
theorem gL_verdicts_L_partsOf : GoodIn wsL_verdicts (va_wsS RL 102 yL_partsOf wsL_partsOf) := goodIn_app (goodIn_of _ (by decide +kernel)) ggL_verdicts_L_partsOf
set_option maxRecDepth 20000 in
theorem ggL_verdicts_L_broken : GoodIn wsL_verdicts wsL_broken := goodIn_ca (goodIn_r _ [98, 17, 1, 99, 100, 101, 5, 102, 7, 22, 29, 30, 31, 32, 27, 28, 12, 33, 34, 35, 36, 37, 38, 39, 59, 60, 61, 62, 63, 64, 65, 66, 67, 68, 111, 112, 113, 114, 115, 116, 117, 118, 119, 120, 121, 122, 123, 124, 125, 126, 127, 128, 129, 130] (by decide +kernel) (by decide +kernel)) (goodIn_sub (fun _ h => List.mem_cons_of_mem _ (List.mem_append_right _ h)) (by decide +kernel))
set_option maxRecDepth 20000 in
theorem gL_verdicts_L_broken : GoodIn wsL_verdicts (va_wsS RL 122 yL_broken wsL_broken) := goodIn_app (goodIn_of _ (by decide +kernel)) ggL_verdicts_L_broken
set_option maxRecDepth 20000 in
theorem ggL_verdicts_L_touches : GoodIn wsL_verdicts wsL_touches := goodIn_ca (goodIn_r _ [105, 17, 1, 106, 107, 108, 5, 109, 7, 110, 29, 30, 31, 32, 27, 28, 12, 87, 88, 89, 90, 91, 92, 93, 94, 95, 111, 112, 113, 114, 115, 116, 117, 118, 119, 120, 121, 122, 123, 124, 125] (by decide +kernel) (by decide +kernel)) (goodIn_sub (fun _ h => List.mem_cons_of_mem _ (List.mem_append_right _ h)) (by decide +kernel))
set_option maxRecDepth 20000 in
theorem gL_verdicts_L_touches : GoodIn wsL_verdicts (va_wsS RL 124 yL_touches wsL_touches) := goodIn_app (goodIn_of _ (by decide +kernel)) ggL_verdicts_L_touches
set_option maxRecDepth 20000 in
theorem ggL_culprits_L_suspects : GoodIn wsL_culprits wsL_suspects := goodIn_ca (goodIn_ca (goodIn_r _ [8, 9, 10, 11, 1, 12, 13, 14, 15, 16, 17, 18, 19, 20, 21, 22, 23, 24, 25, 26, 27, 28, 29, 30, 31, 32, 33, 34, 35, 36, 37, 38, 39, 40, 41, 42, 43, 44, 45, 46, 175, 176, 177, 178, 179, 180, 181, 182, 183, 184, 185, 186, 187, 188, 189] (by decide +kernel) (by decide +kernel)) (goodIn_sub (fun _ h => List.mem_cons_of_mem _ (List.mem_append_left _ (List.mem_append_right _ h))) (by decide +kernel))) (goodIn_sub (fun _ h => List.mem_cons_of_mem _ (List.mem_append_right _ h)) (by decide +kernel))
set_option maxRecDepth 20000 in
theorem gL_culprits_L_suspects : GoodIn wsL_culprits (va_wsS RL 126 yL_suspects wsL_suspects) := goodIn_app (goodIn_of _ (by decide +kernel)) ggL_culprits_L_suspects
set_option maxRecDepth 20000 in
theorem ggL_culprits_L_candidates : GoodIn wsL_culprits wsL_candidates := goodIn_ca (goodIn_ca (goodIn_r _ [49, 9, 10, 11, 1, 50, 51, 52, 15, 53, 17, 18, 19, 20, 21, 22, 23, 24, 25, 26, 27, 28, 29, 30, 54, 55, 56, 57, 35, 36, 58, 59, 31, 32, 33, 34, 37, 38, 39, 40, 41, 42, 43, 44, 45, 46, 60, 61, 62, 63, 64, 65, 66, 67, 68, 69, 70, 175, 176, 177, 178, 179, 180, 181, 182, 183, 184, 185, 186, 187, 188, 189, 190, 191, 192, 193, 194] (by decide +kernel) (by decide +kernel)) (goodIn_sub (fun _ h => List.mem_cons_of_mem _ (List.mem_append_left _ (List.mem_append_right _ h))) (by decide +kernel))) (goodIn_sub (fun _ h => List.mem_cons_of_mem _ (List.mem_append_right _ h)) (by decide +kernel))
set_option maxRecDepth 20000 in
theorem gL_culprits_L_candidates : GoodIn wsL_culprits (va_wsS RL 129 yL_candidates wsL_candidates) := goodIn_app (goodIn_of _ (by decide +kernel)) ggL_culprits_L_candidates
set_option maxRecDepth 20000 in
theorem ggL_culprits_L_contradictions : GoodIn wsL_culprits wsL_contradictions := goodIn_ca (goodIn_ca (goodIn_r _ [73, 9, 10, 2, 3, 74, 75, 76, 15, 77, 58, 35, 36, 17, 18, 19, 20, 21, 22, 23, 78, 79, 80, 81, 82, 24, 25, 26, 27, 28, 29, 30, 31, 32, 33, 34, 37, 38, 39, 40, 41, 42, 43, 44, 45, 46, 83, 84, 85, 63, 86, 87, 88, 89, 175, 176, 177, 178, 179, 180, 181, 182, 183, 184, 185, 186, 187, 188, 189, 190, 191, 192, 193, 194] (by decide +kernel) (by decide +kernel)) (goodIn_sub (fun _ h => List.mem_cons_of_mem _ (List.mem_append_left _ (List.mem_append_right _ h))) (by decide +kernel))) (goodIn_sub (fun _ h => List.mem_cons_of_mem _ (List.mem_append_right _ h)) (by decide +kernel))
set_option maxRecDepth 20000 in
theorem gL_culprits_L_contradictions : GoodIn wsL_culprits (va_wsS RL 131 yL_contradictions wsL_contradictions) := goodIn_app (goodIn_of _ (by decide +kernel)) ggL_culprits_L_contradictions
set_option maxRecDepth 20000 in
theorem ggL_culprits_X1_commits : GoodIn wsL_culprits wsX1_commits := goodIn_r _ [93, 82, 175, 176, 177, 178, 179, 180, 181, 182, 183, 184, 185, 186, 187, 188, 189] (by decide +kernel) (by decide +kernel)
set_option maxRecDepth 20000 in
theorem gL_culprits_X1_commits : GoodIn wsL_culprits (wsV RL 110 RX1 yX1_commits wsX1_commits) := goodIn_app (goodIn_of _ (by decide +kernel)) ggL_culprits_X1_commits
set_option maxRecDepth 20000 in
theorem ggL_culprits_L_likeliest : GoodIn wsL_culprits wsL_likeliest := goodIn_ca (goodIn_ca (goodIn_r _ [96, 9, 10, 2, 3, 97, 98, 99, 15, 100, 17, 18, 19, 20, 21, 22, 23, 24, 25, 26, 27, 28, 29, 30, 101, 102, 103, 104, 35, 36, 58, 31, 32, 33, 34, 37, 38, 39, 40, 41, 42, 43, 44, 45, 46, 60, 61, 62, 63, 64, 65, 66, 67, 68, 69, 70, 175, 176, 177, 178, 179, 180, 181, 182, 183, 184, 185, 186, 187, 188, 189, 190, 191, 192, 193, 194] (by decide +kernel) (by decide +kernel)) (goodIn_sub (fun _ h => List.mem_cons_of_mem _ (List.mem_append_left _ (List.mem_append_right _ h))) (by decide +kernel))) (goodIn_sub (fun _ h => List.mem_cons_of_mem _ (List.mem_append_right _ h)) (by decide +kernel))
set_option maxRecDepth 20000 in
theorem gL_culprits_L_likeliest : GoodIn wsL_culprits (va_wsS RL 133 yL_likeliest wsL_likeliest) := goodIn_app (goodIn_of _ (by decide +kernel)) ggL_culprits_L_likeliest
set_option maxRecDepth 20000 in
theorem ggL_culprits_L_next : GoodIn wsL_culprits wsL_next := goodIn_ca (goodIn_ca (goodIn_r _ [107, 9, 10, 2, 3, 108, 109, 110, 15, 111, 35, 36, 58, 17, 18, 19, 20, 21, 22, 23, 24, 25, 26, 27, 28, 29, 30, 54, 55, 56, 57, 59, 31, 32, 33, 34, 37, 38, 39, 40, 41, 42, 43, 44, 45, 46, 60, 61, 62, 63, 64, 65, 66, 67, 68, 69, 70, 112, 113, 114, 115, 116, 117, 118, 119, 120, 121, 122, 123, 124, 125, 126, 127, 128, 129, 175, 176, 177, 178, 179, 180, 181, 182, 183, 184, 185, 186, 187, 188, 189, 190, 191, 192, 193, 194] (by decide +kernel) (by decide +kernel)) (goodIn_sub (fun _ h => List.mem_cons_of_mem _ (List.mem_append_left _ (List.mem_append_right _ h))) (by decide +kernel))) (goodIn_sub (fun _ h => List.mem_cons_of_mem _ (List.mem_append_right _ h)) (by decide +kernel))
set_option maxRecDepth 20000 in
theorem gL_culprits_L_next : GoodIn wsL_culprits (va_wsS RL 135 yL_next wsL_next) := goodIn_app (goodIn_of _ (by decide +kernel)) ggL_culprits_L_next
set_option maxRecDepth 20000 in
theorem ggL_culprits_L_enqueue : GoodIn wsL_culprits wsL_enqueue := goodIn_ca (goodIn_ca (goodIn_r _ [132, 9, 10, 2, 3, 133, 134, 135, 15, 136, 28, 29, 137, 138, 17, 18, 19, 20, 21, 22, 23, 24, 25, 26, 27, 30, 139, 140, 141, 142, 175, 176, 177, 178, 179, 180, 181, 182, 183, 184, 185, 186, 187, 188, 189] (by decide +kernel) (by decide +kernel)) (goodIn_sub (fun _ h => List.mem_cons_of_mem _ (List.mem_append_right _ h)) (by decide +kernel))) (goodIn_sub (fun _ h => List.mem_cons_of_mem _ (List.mem_append_left _ (List.mem_append_right _ h))) (by decide +kernel))
set_option maxRecDepth 20000 in
theorem gL_culprits_L_enqueue : GoodIn wsL_culprits (va_wsS RL 137 yL_enqueue wsL_enqueue) := goodIn_app (goodIn_of _ (by decide +kernel)) ggL_culprits_L_enqueue
set_option maxRecDepth 20000 in
theorem ggL_culprits_L_close : GoodIn wsL_culprits wsL_close := goodIn_ca (goodIn_ca (goodIn_r _ [145, 9, 10, 2, 3, 146, 147, 148, 15, 149, 30, 17, 18, 19, 20, 21, 22, 23, 24, 25, 26, 27, 28, 29, 54, 55, 56, 57, 35, 36, 58, 59, 31, 32, 33, 34, 37, 38, 39, 40, 41, 42, 43, 44, 45, 46, 60, 61, 62, 63, 64, 65, 66, 67, 68, 69, 70, 119, 120, 121, 122, 123, 124, 125, 101, 102, 103, 104, 150, 151, 152, 153, 137, 138, 175, 176, 177, 178, 179, 180, 181, 182, 183, 184, 185, 186, 187, 188, 189, 190, 191, 192, 193, 194] (by decide +kernel) (by decide +kernel)) (goodIn_sub (fun _ h => List.mem_cons_of_mem _ (List.mem_append_left _ (List.mem_append_right _ h))) (by decide +kernel))) (goodIn_sub (fun _ h => List.mem_cons_of_mem _ (List.mem_append_right _ h)) (by decide +kernel))
set_option maxRecDepth 20000 in
theorem gL_culprits_L_close : GoodIn wsL_culprits (va_wsS RL 139 yL_close wsL_close) := goodIn_app (goodIn_of _ (by decide +kernel)) ggL_culprits_L_close
set_option maxRecDepth 20000 in
theorem ggL_culprits_L_touches : GoodIn wsL_culprits wsL_touches := goodIn_ca (goodIn_r _ [156, 9, 2, 157, 158, 159, 15, 160, 23, 37, 78, 79, 80, 81, 21, 22, 82, 38, 39, 40, 41, 42, 43, 44, 45, 46, 175, 176, 177, 178, 179, 180, 181, 182, 183, 184, 185, 186, 187, 188, 189] (by decide +kernel) (by decide +kernel)) (goodIn_sub (fun _ h => List.mem_cons_of_mem _ (List.mem_append_left _ (List.mem_append_right _ h))) (by decide +kernel))
set_option maxRecDepth 20000 in
theorem gL_culprits_L_touches : GoodIn wsL_culprits (va_wsS RL 124 yL_touches wsL_touches) := goodIn_app (goodIn_of _ (by decide +kernel)) ggL_culprits_L_touches
set_option maxRecDepth 20000 in
theorem ggL_culprits_L_runs : GoodIn wsL_culprits wsL_runs := goodIn_ca (goodIn_r _ [163, 9, 2, 164, 165, 166, 15, 167, 58, 17, 18, 19, 20, 21, 22, 23, 168, 169, 170, 63, 171, 87, 175, 176, 177, 178, 179, 180, 181, 182, 183, 184, 185, 186, 187, 188, 189, 190, 191, 192, 193, 194] (by decide +kernel) (by decide +kernel)) (goodIn_sub (fun _ h => List.mem_cons_of_mem _ (List.mem_append_left _ (List.mem_append_right _ h))) (by decide +kernel))
set_option maxRecDepth 20000 in
theorem gL_culprits_L_runs : GoodIn wsL_culprits (va_wsS RL 116 yL_runs wsL_runs) := goodIn_app (goodIn_of _ (by decide +kernel)) ggL_culprits_L_runs
set_option maxRecDepth 20000 in
theorem ggL_culprits_L_many : GoodIn wsL_culprits wsL_many := goodIn_r _ [174] (by decide +kernel) (by decide +kernel)
set_option maxRecDepth 20000 in
theorem gL_culprits_L_many : GoodIn wsL_culprits (va_wsS RL 143 yL_many wsL_many) := goodIn_app (goodIn_of _ (by decide +kernel)) ggL_culprits_L_many
set_option maxRecDepth 20000 in
theorem ggL_records_L_verdict : GoodIn wsL_records wsL_verdict := goodIn_ca (goodIn_r _ [6, 7, 8, 9, 10, 11, 12, 13, 14, 15, 16, 17, 18, 19, 20, 21, 22, 23, 24, 25, 26, 27, 28, 29, 30, 31, 32, 33, 98, 99, 100, 101, 102, 103, 104, 105, 106, 107, 108, 109, 110, 111, 112, 113, 114, 115, 116, 117] (by decide +kernel) (by decide +kernel)) (goodIn_sub (fun _ h => List.mem_cons_of_mem _ (List.mem_append_left _ (List.mem_append_right _ h))) (by decide +kernel))
set_option maxRecDepth 20000 in
theorem gL_records_L_verdict : GoodIn wsL_records (va_wsS RL 113 yL_verdict wsL_verdict) := goodIn_app (goodIn_of _ (by decide +kernel)) ggL_records_L_verdict
set_option maxRecDepth 20000 in
theorem ggL_records_L_runs : GoodIn wsL_records wsL_runs := goodIn_ca (goodIn_r _ [36, 7, 8, 37, 38, 39, 12, 40, 14, 15, 16, 17, 18, 19, 20, 21, 41, 42, 43, 30, 44, 45, 98, 99, 100, 101, 102, 103, 104, 105, 106, 107, 108, 109, 110, 111, 112, 113, 114, 115, 116, 117] (by decide +kernel) (by decide +kernel)) (goodIn_sub (fun _ h => List.mem_cons_of_mem _ (List.mem_append_left _ (List.mem_append_right _ h))) (by decide +kernel))
set_option maxRecDepth 20000 in
theorem gL_records_L_runs : GoodIn wsL_records (va_wsS RL 116 yL_runs wsL_runs) := goodIn_app (goodIn_of _ (by decide +kernel)) ggL_records_L_runs
set_option maxRecDepth 20000 in
theorem ggL_records_X1_commits : GoodIn wsL_records wsX1_commits := goodIn_r _ [49, 26, 98, 99, 100, 101, 102, 103, 104, 105, 106, 107, 108, 109, 110, 111, 112] (by decide +kernel) (by decide +kernel)
set_option maxRecDepth 20000 in
theorem gL_records_X1_commits : GoodIn wsL_records (wsV RL 110 RX1 yX1_commits wsX1_commits) := goodIn_app (goodIn_of _ (by decide +kernel)) ggL_records_X1_commits
set_option maxRecDepth 20000 in
theorem ggL_records_L_contradictions : GoodIn wsL_records wsL_contradictions := goodIn_ca (goodIn_ca (goodIn_r _ [52, 7, 53, 8, 2, 54, 55, 56, 12, 57, 14, 58, 59, 15, 16, 17, 18, 19, 20, 21, 22, 23, 24, 25, 26, 60, 61, 62, 63, 64, 65, 66, 67, 68, 69, 70, 71, 72, 73, 74, 75, 76, 77, 78, 79, 80, 81, 82, 83, 30, 84, 45, 85, 86, 98, 99, 100, 101, 102, 103, 104, 105, 106, 107, 108, 109, 110, 111, 112, 113, 114, 115, 116, 117] (by decide +kernel) (by decide +kernel)) (goodIn_sub (fun _ h => List.mem_cons_of_mem _ (List.mem_append_left _ (List.mem_append_right _ h))) (by decide +kernel))) (goodIn_sub (fun _ h => List.mem_cons_of_mem _ (List.mem_append_right _ h)) (by decide +kernel))
set_option maxRecDepth 20000 in
theorem gL_records_L_contradictions : GoodIn wsL_records (va_wsS RL 131 yL_contradictions wsL_contradictions) := goodIn_app (goodIn_of _ (by decide +kernel)) ggL_records_L_contradictions
set_option maxRecDepth 20000 in
theorem ggL_records_L_record : GoodIn wsL_records wsL_record := goodIn_ca (goodIn_ca (goodIn_r _ [89, 7, 53, 8, 2, 90, 91, 92, 12, 93, 64, 65, 14, 15, 16, 17, 18, 19, 20, 21, 22, 23, 24, 25, 26, 94, 95, 96, 30, 97, 45, 85, 86, 32, 33, 27, 28, 29, 31, 98, 99, 100, 101, 102, 103, 104, 105, 106, 107, 108, 109, 110, 111, 112, 113, 114, 115, 116, 117] (by decide +kernel) (by decide +kernel)) (goodIn_sub (fun _ h => List.mem_cons_of_mem _ (List.mem_append_right _ h)) (by decide +kernel))) (goodIn_sub (fun _ h => List.mem_cons_of_mem _ (List.mem_append_left _ (List.mem_append_right _ h))) (by decide +kernel))
set_option maxRecDepth 20000 in
theorem gL_records_L_record : GoodIn wsL_records (va_wsS RL 149 yL_record wsL_record) := goodIn_app (goodIn_of _ (by decide +kernel)) ggL_records_L_record
set_option maxRecDepth 20000 in
theorem ggL_takes_L_take : GoodIn wsL_takes wsL_take := goodIn_ca (goodIn_r _ [5, 6, 1, 7, 8, 9, 10, 11, 12, 13, 14, 15, 16, 17, 18, 19, 20, 21, 22, 23, 24, 25, 26, 27, 28, 29, 30, 31, 32, 33, 34, 35, 36, 37, 38, 39, 40, 41, 42, 43, 44, 45, 46, 47, 48, 49, 50, 51, 52, 53, 54, 55, 56, 57, 58, 59, 60, 61, 62, 63, 64, 65, 66, 67, 68, 69, 94, 95, 96, 97, 98, 99, 100, 101, 102, 103, 104, 105, 106, 107, 108, 109, 110, 111, 112, 113] (by decide +kernel) (by decide +kernel)) (goodIn_sub (fun _ h => List.mem_cons_of_mem _ (List.mem_append_left _ (List.mem_append_right _ h))) (by decide +kernel))
set_option maxRecDepth 20000 in
theorem gL_takes_L_take : GoodIn wsL_takes (va_wsS RL 152 yL_take wsL_take) := goodIn_app (goodIn_of _ (by decide +kernel)) ggL_takes_L_take
set_option maxRecDepth 20000 in
theorem ggL_takes_L_candidates : GoodIn wsL_takes wsL_candidates := goodIn_ca (goodIn_ca (goodIn_r _ [72, 73, 6, 74, 75, 76, 77, 78, 10, 79, 80, 81, 82, 83, 84, 85, 19, 86, 87, 88, 89, 12, 13, 90, 26, 27, 28, 29, 30, 31, 32, 33, 34, 35, 36, 37, 38, 39, 40, 41, 42, 43, 44, 45, 46, 47, 48, 49, 50, 51, 52, 53, 54, 55, 56, 57, 58, 94, 95, 96, 97, 98, 99, 100, 101, 102, 103, 104, 105, 106, 107, 108, 109, 110, 111, 112, 113] (by decide +kernel) (by decide +kernel)) (goodIn_sub (fun _ h => List.mem_cons_of_mem _ (List.mem_append_right _ h)) (by decide +kernel))) (goodIn_sub (fun _ h => List.mem_cons_of_mem _ (List.mem_append_left _ (List.mem_append_right _ h))) (by decide +kernel))
set_option maxRecDepth 20000 in
theorem gL_takes_L_candidates : GoodIn wsL_takes (va_wsS RL 129 yL_candidates wsL_candidates) := goodIn_app (goodIn_of _ (by decide +kernel)) ggL_takes_L_candidates
set_option maxRecDepth 20000 in
theorem ggL_takes_L_many : GoodIn wsL_takes wsL_many := goodIn_r _ [93] (by decide +kernel) (by decide +kernel)
set_option maxRecDepth 20000 in
theorem gL_takes_L_many : GoodIn wsL_takes (va_wsS RL 143 yL_many wsL_many) := goodIn_app (goodIn_of _ (by decide +kernel)) ggL_takes_L_many
set_option maxRecDepth 20000 in
theorem ggL_leaves_L_candidates : GoodIn wsL_leaves wsL_candidates := goodIn_ca (goodIn_ca (goodIn_r _ [4, 5, 6, 7, 8, 9, 10, 11, 12, 13, 14, 15, 16, 17, 18, 19, 20, 21, 22, 23, 24, 25, 26, 27, 28, 29, 30, 31, 32, 33, 34, 35, 36, 37, 38, 39, 40, 41, 42, 43, 44, 45, 46, 47, 48, 49, 50, 51, 52, 53, 54, 55, 56, 57, 58, 59, 60, 90, 91, 92, 93, 94, 95, 96, 97, 98, 99, 100, 101, 102, 103, 104, 105, 106, 107, 108, 109] (by decide +kernel) (by decide +kernel)) (goodIn_sub (fun _ h => List.mem_cons_of_mem _ (List.mem_append_left _ (List.mem_append_right _ h))) (by decide +kernel))) (goodIn_sub (fun _ h => List.mem_cons_of_mem _ (List.mem_append_right _ h)) (by decide +kernel))
set_option maxRecDepth 20000 in
theorem gL_leaves_L_candidates : GoodIn wsL_leaves (va_wsS RL 129 yL_candidates wsL_candidates) := goodIn_app (goodIn_of _ (by decide +kernel)) ggL_leaves_L_candidates
set_option maxRecDepth 20000 in
theorem ggL_leaves_L_close : GoodIn wsL_leaves wsL_close := goodIn_ca (goodIn_ca (goodIn_r _ [63, 5, 6, 64, 65, 66, 67, 68, 12, 69, 27, 14, 15, 16, 17, 18, 19, 20, 21, 22, 23, 24, 25, 26, 28, 29, 30, 31, 32, 33, 34, 35, 36, 37, 38, 39, 40, 41, 42, 43, 44, 45, 46, 47, 48, 49, 50, 51, 52, 53, 54, 55, 56, 57, 58, 59, 60, 70, 71, 72, 73, 74, 75, 76, 77, 78, 79, 80, 81, 82, 83, 84, 85, 86, 90, 91, 92, 93, 94, 95, 96, 97, 98, 99, 100, 101, 102, 103, 104, 105, 106, 107, 108, 109] (by decide +kernel) (by decide +kernel)) (goodIn_sub (fun _ h => List.mem_cons_of_mem _ (List.mem_append_left _ (List.mem_append_right _ h))) (by decide +kernel))) (goodIn_sub (fun _ h => List.mem_cons_of_mem _ (List.mem_append_right _ h)) (by decide +kernel))
set_option maxRecDepth 20000 in
theorem gL_leaves_L_close : GoodIn wsL_leaves (va_wsS RL 139 yL_close wsL_close) := goodIn_app (goodIn_of _ (by decide +kernel)) ggL_leaves_L_close
set_option maxRecDepth 20000 in
theorem ggL_leaves_L_many : GoodIn wsL_leaves wsL_many := goodIn_r _ [89] (by decide +kernel) (by decide +kernel)
set_option maxRecDepth 20000 in
theorem gL_leaves_L_many : GoodIn wsL_leaves (va_wsS RL 143 yL_many wsL_many) := goodIn_app (goodIn_of _ (by decide +kernel)) ggL_leaves_L_many
set_option maxRecDepth 20000 in
theorem ggL_acts_L_low : GoodIn wsL_acts wsL_low := goodIn_r _ [8, 9] (by decide +kernel) (by decide +kernel)
set_option maxRecDepth 20000 in
theorem gL_acts_L_low : GoodIn wsL_acts (va_wsS RL 155 yL_low wsL_low) := goodIn_app (goodIn_of _ (by decide +kernel)) ggL_acts_L_low
set_option maxRecDepth 20000 in
theorem ggL_acts_X1_tests : GoodIn wsL_acts wsX1_tests := goodIn_r _ [14, 15, 247, 248, 249, 250, 251, 252, 253, 254, 255, 256, 257, 258, 259, 260, 261] (by decide +kernel) (by decide +kernel)
set_option maxRecDepth 20000 in
theorem gL_acts_X1_tests : GoodIn wsL_acts (wsV RL 107 RX1 yX1_tests wsX1_tests) := goodIn_app (goodIn_of _ (by decide +kernel)) ggL_acts_X1_tests
set_option maxRecDepth 20000 in
theorem ggL_acts_X1_commits : GoodIn wsL_acts wsX1_commits := goodIn_r _ [19, 20, 247, 248, 249, 250, 251, 252, 253, 254, 255, 256, 257, 258, 259, 260, 261] (by decide +kernel) (by decide +kernel)
set_option maxRecDepth 20000 in
theorem gL_acts_X1_commits : GoodIn wsL_acts (wsV RL 110 RX1 yX1_commits wsX1_commits) := goodIn_app (goodIn_of _ (by decide +kernel)) ggL_acts_X1_commits
set_option maxRecDepth 20000 in
theorem ggL_acts_L_addTest : GoodIn wsL_acts wsL_addTest := goodIn_ca (goodIn_ca (goodIn_r _ [23, 24, 25, 3, 1, 26, 27, 28, 13, 29, 30, 31, 15, 32, 33, 34, 35, 36, 37, 38, 247, 248, 249, 250, 251, 252, 253, 254, 255, 256, 257, 258, 259, 260, 261] (by decide +kernel) (by decide +kernel)) (goodIn_sub (fun _ h => List.mem_cons_of_mem _ (List.mem_append_left _ (List.mem_append_left _ (List.mem_append_right _ h)))) (by decide +kernel))) (goodIn_sub (fun _ h => List.mem_cons_of_mem _ (List.mem_append_left _ (List.mem_append_right _ h))) (by decide +kernel))
set_option maxRecDepth 20000 in
theorem gL_acts_L_addTest : GoodIn wsL_acts (va_wsS RL 158 yL_addTest wsL_addTest) := goodIn_app (goodIn_of _ (by decide +kernel)) ggL_acts_L_addTest
set_option maxRecDepth 20000 in
theorem ggL_acts_L_addCommit : GoodIn wsL_acts wsL_addCommit := goodIn_ca (goodIn_ca (goodIn_r _ [41, 24, 25, 3, 1, 42, 43, 44, 13, 45, 30, 31, 20, 46, 33, 34, 35, 36, 37, 38, 247, 248, 249, 250, 251, 252, 253, 254, 255, 256, 257, 258, 259, 260, 261] (by decide +kernel) (by decide +kernel)) (goodIn_sub (fun _ h => List.mem_cons_of_mem _ (List.mem_append_left _ (List.mem_append_left _ (List.mem_append_right _ h)))) (by decide +kernel))) (goodIn_sub (fun _ h => List.mem_cons_of_mem _ (List.mem_append_left _ (List.mem_append_right _ h))) (by decide +kernel))
set_option maxRecDepth 20000 in
theorem gL_acts_L_addCommit : GoodIn wsL_acts (va_wsS RL 161 yL_addCommit wsL_addCommit) := goodIn_app (goodIn_of _ (by decide +kernel)) ggL_acts_L_addCommit
set_option maxRecDepth 20000 in
theorem ggL_acts_L_setUses : GoodIn wsL_acts wsL_setUses := goodIn_ca (goodIn_ca (goodIn_r _ [49, 50, 24, 4, 3, 51, 52, 53, 13, 54, 55, 56, 57, 33, 34, 35, 36, 37, 38, 247, 248, 249, 250, 251, 252, 253, 254, 255, 256, 257, 258, 259, 260, 261] (by decide +kernel) (by decide +kernel)) (goodIn_sub (fun _ h => List.mem_cons_of_mem _ (List.mem_append_right _ h)) (by decide +kernel))) (goodIn_sub (fun _ h => List.mem_cons_of_mem _ (List.mem_append_left _ (List.mem_append_right _ h))) (by decide +kernel))
set_option maxRecDepth 20000 in
theorem gL_acts_L_setUses : GoodIn wsL_acts (va_wsS RL 163 yL_setUses wsL_setUses) := goodIn_app (goodIn_of _ (by decide +kernel)) ggL_acts_L_setUses
set_option maxRecDepth 20000 in
theorem ggL_acts_L_setQuarantine : GoodIn wsL_acts wsL_setQuarantine := goodIn_ca (goodIn_r _ [60, 24, 3, 61, 62, 63, 13, 64, 36, 37, 65, 66, 247, 248, 249, 250, 251, 252, 253, 254, 255, 256, 257, 258, 259, 260, 261] (by decide +kernel) (by decide +kernel)) (goodIn_sub (fun _ h => List.mem_cons_of_mem _ (List.mem_append_left _ (List.mem_append_right _ h))) (by decide +kernel))
set_option maxRecDepth 20000 in
theorem gL_acts_L_setQuarantine : GoodIn wsL_acts (va_wsS RL 165 yL_setQuarantine wsL_setQuarantine) := goodIn_app (goodIn_of _ (by decide +kernel)) ggL_acts_L_setQuarantine
set_option maxRecDepth 20000 in
theorem ggL_acts_L_setNoise : GoodIn wsL_acts wsL_setNoise := goodIn_ca (goodIn_r _ [69, 24, 3, 70, 71, 72, 13, 73, 36, 37, 74, 247, 248, 249, 250, 251, 252, 253, 254, 255, 256, 257, 258, 259, 260, 261] (by decide +kernel) (by decide +kernel)) (goodIn_sub (fun _ h => List.mem_cons_of_mem _ (List.mem_append_left _ (List.mem_append_right _ h))) (by decide +kernel))
set_option maxRecDepth 20000 in
theorem gL_acts_L_setNoise : GoodIn wsL_acts (va_wsS RL 167 yL_setNoise wsL_setNoise) := goodIn_app (goodIn_of _ (by decide +kernel)) ggL_acts_L_setNoise
set_option maxRecDepth 20000 in
theorem ggL_acts_L_triage : GoodIn wsL_acts wsL_triage := goodIn_ca (goodIn_ca (goodIn_r _ [77, 50, 24, 4, 3, 78, 79, 80, 13, 81, 36, 37, 82, 83, 84, 85, 86, 87, 88, 55, 56, 15, 89, 90, 91, 92, 20, 93, 94, 95, 96, 97, 74, 98, 99, 100, 101, 46, 102, 103, 104, 105, 32, 57, 106, 107, 108, 109, 110, 111, 112, 113, 114, 115, 116, 117, 118, 119, 120, 121, 122, 123, 124, 125, 126, 247, 248, 249, 250, 251, 252, 253, 254, 255, 256, 257, 258, 259, 260, 261, 262, 263, 264, 265, 266] (by decide +kernel) (by decide +kernel)) (goodIn_sub (fun _ h => List.mem_cons_of_mem _ (List.mem_append_left _ (List.mem_append_right _ h))) (by decide +kernel))) (goodIn_sub (fun _ h => List.mem_cons_of_mem _ (List.mem_append_right _ h)) (by decide +kernel))
set_option maxRecDepth 20000 in
theorem gL_acts_L_triage : GoodIn wsL_acts (va_wsS RL 169 yL_triage wsL_triage) := goodIn_app (goodIn_of _ (by decide +kernel)) ggL_acts_L_triage
set_option maxRecDepth 20000 in
theorem ggL_acts_L_candidates : GoodIn wsL_acts wsL_candidates := goodIn_ca (goodIn_ca (goodIn_r _ [129, 50, 25, 130, 131, 132, 133, 134, 13, 135, 85, 86, 87, 88, 55, 56, 15, 136, 137, 138, 139, 30, 31, 82, 93, 94, 95, 96, 83, 84, 97, 74, 98, 99, 100, 101, 46, 102, 103, 104, 105, 32, 57, 106, 107, 108, 109, 110, 111, 112, 113, 114, 115, 116, 117, 118, 119, 247, 248, 249, 250, 251, 252, 253, 254, 255, 256, 257, 258, 259, 260, 261, 262, 263, 264, 265, 266] (by decide +kernel) (by decide +kernel)) (goodIn_sub (fun _ h => List.mem_cons_of_mem _ (List.mem_append_right _ h)) (by decide +kernel))) (goodIn_sub (fun _ h => List.mem_cons_of_mem _ (List.mem_append_left _ (List.mem_append_left _ (List.mem_append_right _ h)))) (by decide +kernel))
set_option maxRecDepth 20000 in
theorem gL_acts_L_candidates : GoodIn wsL_acts (va_wsS RL 129 yL_candidates wsL_candidates) := goodIn_app (goodIn_of _ (by decide +kernel)) ggL_acts_L_candidates
set_option maxRecDepth 20000 in
theorem ggL_acts_L_many : GoodIn wsL_acts wsL_many := goodIn_r _ [142] (by decide +kernel) (by decide +kernel)
set_option maxRecDepth 20000 in
theorem gL_acts_L_many : GoodIn wsL_acts (va_wsS RL 143 yL_many wsL_many) := goodIn_app (goodIn_of _ (by decide +kernel)) ggL_acts_L_many
set_option maxRecDepth 20000 in
theorem ggL_acts_L_close : GoodIn wsL_acts wsL_close := goodIn_ca (goodIn_ca (goodIn_r _ [145, 50, 25, 4, 1, 146, 147, 148, 13, 149, 82, 85, 86, 87, 88, 55, 56, 15, 136, 137, 138, 139, 30, 31, 93, 94, 95, 96, 83, 84, 97, 74, 98, 99, 100, 101, 46, 102, 103, 104, 105, 32, 57, 106, 107, 108, 109, 110, 111, 112, 113, 114, 115, 116, 117, 118, 119, 120, 121, 122, 123, 124, 125, 126, 150, 151, 152, 153, 154, 155, 156, 157, 158, 159, 247, 248, 249, 250, 251, 252, 253, 254, 255, 256, 257, 258, 259, 260, 261, 262, 263, 264, 265, 266] (by decide +kernel) (by decide +kernel)) (goodIn_sub (fun _ h => List.mem_cons_of_mem _ (List.mem_append_right _ h)) (by decide +kernel))) (goodIn_sub (fun _ h => List.mem_cons_of_mem _ (List.mem_append_left _ (List.mem_append_left _ (List.mem_append_right _ h)))) (by decide +kernel))
set_option maxRecDepth 20000 in
theorem gL_acts_L_close : GoodIn wsL_acts (va_wsS RL 139 yL_close wsL_close) := goodIn_app (goodIn_of _ (by decide +kernel)) ggL_acts_L_close
set_option maxRecDepth 20000 in
theorem ggL_acts_L_leaves : GoodIn wsL_acts wsL_leaves := goodIn_ca (goodIn_ca (goodIn_r _ [162, 127, 128, 7, 129, 50, 25, 130, 131, 132, 133, 134, 13, 135, 85, 86, 87, 88, 55, 56, 15, 136, 137, 138, 139, 30, 31, 82, 93, 94, 95, 96, 83, 84, 97, 74, 98, 99, 100, 101, 46, 102, 103, 104, 105, 32, 57, 106, 107, 108, 109, 110, 111, 112, 113, 114, 115, 116, 117, 118, 119, 143, 144, 145, 4, 1, 146, 147, 148, 149, 120, 121, 122, 123, 124, 125, 126, 150, 151, 152, 153, 154, 155, 156, 157, 158, 159, 140, 141, 142, 247, 248, 249, 250, 251, 252, 253, 254, 255, 256, 257, 258, 259, 260, 261, 262, 263, 264, 265, 266] (by decide +kernel) (by decide +kernel)) (goodIn_sub (fun _ h => List.mem_cons_of_mem _ (List.mem_append_right _ h)) (by decide +kernel))) (goodIn_sub (fun _ h => List.mem_cons_of_mem _ (List.mem_append_left _ (List.mem_append_left _ (List.mem_append_right _ h)))) (by decide +kernel))
set_option maxRecDepth 20000 in
theorem gL_acts_L_leaves : GoodIn wsL_acts (va_wsS RL 172 yL_leaves wsL_leaves) := goodIn_app (goodIn_of _ (by decide +kernel)) ggL_acts_L_leaves
set_option maxRecDepth 20000 in
theorem ggL_acts_L_enqueue : GoodIn wsL_acts wsL_enqueue := goodIn_ca (goodIn_ca (goodIn_r _ [165, 50, 25, 4, 1, 166, 167, 168, 13, 169, 30, 31, 158, 159, 85, 86, 87, 88, 55, 56, 15, 136, 137, 138, 139, 82, 170, 171, 172, 173, 247, 248, 249, 250, 251, 252, 253, 254, 255, 256, 257, 258, 259, 260, 261] (by decide +kernel) (by decide +kernel)) (goodIn_sub (fun _ h => List.mem_cons_of_mem _ (List.mem_append_left _ (List.mem_append_left _ (List.mem_append_right _ h)))) (by decide +kernel))) (goodIn_sub (fun _ h => List.mem_cons_of_mem _ (List.mem_append_right _ h)) (by decide +kernel))
set_option maxRecDepth 20000 in
theorem gL_acts_L_enqueue : GoodIn wsL_acts (va_wsS RL 137 yL_enqueue wsL_enqueue) := goodIn_app (goodIn_of _ (by decide +kernel)) ggL_acts_L_enqueue
set_option maxRecDepth 20000 in
theorem ggL_acts_L_newDay : GoodIn wsL_acts wsL_newDay := goodIn_ca (goodIn_r _ [176, 24, 3, 177, 178, 179, 13, 180, 36, 37, 181, 247, 248, 249, 250, 251, 252, 253, 254, 255, 256, 257, 258, 259, 260, 261] (by decide +kernel) (by decide +kernel)) (goodIn_sub (fun _ h => List.mem_cons_of_mem _ (List.mem_append_left _ (List.mem_append_right _ h))) (by decide +kernel))
set_option maxRecDepth 20000 in
theorem gL_acts_L_newDay : GoodIn wsL_acts (va_wsS RL 176 yL_newDay wsL_newDay) := goodIn_app (goodIn_of _ (by decide +kernel)) ggL_acts_L_newDay
set_option maxRecDepth 20000 in
theorem ggL_acts_L_takes : GoodIn wsL_acts wsL_takes := goodIn_ca (goodIn_ca (goodIn_r _ [184, 1, 185, 186, 7, 187, 25, 188, 189, 190, 13, 191, 30, 31, 181, 192, 193, 194, 195, 15, 158, 154, 155, 156, 157, 159, 93, 94, 95, 96, 83, 84, 97, 74, 98, 99, 100, 101, 46, 102, 103, 104, 105, 32, 57, 106, 107, 108, 109, 110, 111, 112, 113, 114, 115, 116, 117, 118, 119, 120, 121, 122, 123, 124, 125, 126, 170, 171, 172, 173, 127, 128, 129, 50, 130, 131, 132, 133, 134, 135, 85, 86, 87, 88, 55, 56, 136, 137, 138, 139, 82, 140, 141, 142, 247, 248, 249, 250, 251, 252, 253, 254, 255, 256, 257, 258, 259, 260, 261, 262, 263, 264, 265, 266] (by decide +kernel) (by decide +kernel)) (goodIn_sub (fun _ h => List.mem_cons_of_mem _ (List.mem_append_left _ (List.mem_append_left _ (List.mem_append_right _ h)))) (by decide +kernel))) (goodIn_sub (fun _ h => List.mem_cons_of_mem _ (List.mem_append_right _ h)) (by decide +kernel))
set_option maxRecDepth 20000 in
theorem gL_acts_L_takes : GoodIn wsL_acts (va_wsS RL 178 yL_takes wsL_takes) := goodIn_app (goodIn_of _ (by decide +kernel)) ggL_acts_L_takes
set_option maxRecDepth 20000 in
theorem ggL_acts_L_record : GoodIn wsL_acts wsL_record := goodIn_ca (goodIn_ca (goodIn_r _ [198, 50, 25, 4, 1, 199, 200, 201, 13, 202, 30, 31, 97, 85, 86, 87, 88, 55, 56, 15, 89, 90, 91, 92, 20, 203, 204, 205, 112, 206, 207, 208, 209, 114, 119, 210, 211, 212, 213, 247, 248, 249, 250, 251, 252, 253, 254, 255, 256, 257, 258, 259, 260, 261, 262, 263, 264, 265, 266] (by decide +kernel) (by decide +kernel)) (goodIn_sub (fun _ h => List.mem_cons_of_mem _ (List.mem_append_left _ (List.mem_append_left _ (List.mem_append_right _ h)))) (by decide +kernel))) (goodIn_sub (fun _ h => List.mem_cons_of_mem _ (List.mem_append_right _ h)) (by decide +kernel))
set_option maxRecDepth 20000 in
theorem gL_acts_L_record : GoodIn wsL_acts (va_wsS RL 149 yL_record wsL_record) := goodIn_app (goodIn_of _ (by decide +kernel)) ggL_acts_L_record
set_option maxRecDepth 20000 in
theorem bwL_acts_records : Cond.code yL_records cL_records 16 (some .boolean) ∈ wsL_acts := List.mem_of_getElem? (i := 216) rfl
set_option maxRecDepth 20000 in
theorem ggL_acts_L_records : GoodIn wsL_acts wsL_records := goodIn_ca (goodIn_ca (goodIn_cons bwL_acts_records (by decide +kernel) (goodIn_r _ [217, 1, 218, 219, 7, 220, 50, 4, 221, 222, 223, 13, 224, 97, 85, 86, 87, 88, 55, 56, 15, 89, 90, 91, 92, 20, 210, 211, 212, 112, 213, 114, 119, 225, 226, 227, 228, 229, 230, 231, 232, 233, 234, 235, 207, 16, 17, 18, 19, 236, 237, 238, 25, 239, 240, 241, 242, 83, 84, 136, 137, 138, 139, 30, 31, 82, 98, 99, 100, 101, 46, 102, 103, 104, 105, 32, 57, 106, 107, 108, 243, 244, 245, 246, 208, 209, 196, 197, 198, 199, 200, 201, 202, 203, 204, 205, 206, 247, 248, 249, 250, 251, 252, 253, 254, 255, 256, 257, 258, 259, 260, 261, 262, 263, 264, 265, 266] (by decide +kernel) (by decide +kernel))) (goodIn_sub (fun _ h => List.mem_cons_of_mem _ (List.mem_append_right _ h)) (by decide +kernel))) (goodIn_sub (fun _ h => List.mem_cons_of_mem _ (List.mem_append_left _ (List.mem_append_left _ (List.mem_append_right _ h)))) (by decide +kernel))
set_option maxRecDepth 20000 in
theorem gL_acts_L_records : GoodIn wsL_acts (va_wsS RL 182 yL_records wsL_records) := goodIn_app (goodIn_of _ (by decide +kernel)) ggL_acts_L_records
set_option maxRecDepth 20000 in
theorem ggL_law_X1_init : GoodIn wsL_law wsX1_init := goodIn_r _ [9, 10, 11, 12, 3, 13, 14, 15, 16, 17, 18, 19, 20, 21, 22, 23, 24, 25, 26, 27, 28, 29, 30, 31, 32, 33, 34, 35, 36, 37, 38, 39, 40, 363, 364, 365, 366, 367, 368, 369, 370, 371, 372, 373, 374, 375, 376, 377, 378, 379, 380, 381, 382] (by decide +kernel) (by decide +kernel)
set_option maxRecDepth 20000 in
theorem gL_law_X1_init : GoodIn wsL_law (wsX1_init) := ggL_law_X1_init
set_option maxRecDepth 20000 in
theorem ggL_law_X1_commits : GoodIn wsL_law wsX1_commits := goodIn_r _ [44, 26, 363, 364, 365, 366, 367, 368, 369, 370, 371, 372, 373, 374, 375, 376, 377] (by decide +kernel) (by decide +kernel)
set_option maxRecDepth 20000 in
theorem gL_law_X1_commits : GoodIn wsL_law (wsV RL 110 RX1 yX1_commits wsX1_commits) := goodIn_app (goodIn_of _ (by decide +kernel)) ggL_law_X1_commits
set_option maxRecDepth 20000 in
theorem ggL_law_X1_tests : GoodIn wsL_law wsX1_tests := goodIn_r _ [48, 27, 363, 364, 365, 366, 367, 368, 369, 370, 371, 372, 373, 374, 375, 376, 377] (by decide +kernel) (by decide +kernel)
set_option maxRecDepth 20000 in
theorem gL_law_X1_tests : GoodIn wsL_law (wsV RL 107 RX1 yX1_tests wsX1_tests) := goodIn_app (goodIn_of _ (by decide +kernel)) ggL_law_X1_tests
set_option maxRecDepth 20000 in
theorem ggL_law_X1_budget : GoodIn wsL_law wsX1_budget := goodIn_r _ [52, 31, 363, 364, 365, 366, 367, 368, 369, 370, 371, 372, 373, 374, 375, 376, 377] (by decide +kernel) (by decide +kernel)
set_option maxRecDepth 20000 in
theorem gL_law_X1_budget : GoodIn wsL_law (wsV RL 187 RX1 yX1_budget wsX1_budget) := goodIn_app (goodIn_of _ (by decide +kernel)) ggL_law_X1_budget
set_option maxRecDepth 20000 in
theorem ggL_law_X1_queued : GoodIn wsL_law wsX1_queued := goodIn_r _ [56, 25, 363, 364, 365, 366, 367, 368, 369, 370, 371, 372, 373, 374, 375, 376, 377] (by decide +kernel) (by decide +kernel)
set_option maxRecDepth 20000 in
theorem gL_law_X1_queued : GoodIn wsL_law (wsV RL 190 RX1 yX1_queued wsX1_queued) := goodIn_app (goodIn_of _ (by decide +kernel)) ggL_law_X1_queued
set_option maxRecDepth 20000 in
theorem ggL_law_L_take : GoodIn wsL_law wsL_take := goodIn_ca (goodIn_r _ [60, 61, 4, 62, 63, 64, 2, 65, 66, 67, 31, 68, 69, 70, 71, 27, 24, 72, 73, 74, 75, 25, 76, 77, 78, 79, 22, 23, 19, 30, 80, 81, 82, 83, 14, 84, 85, 86, 87, 15, 13, 88, 89, 90, 91, 92, 93, 18, 94, 39, 95, 96, 97, 98, 40, 99, 100, 101, 102, 103, 104, 105, 106, 107, 108, 109, 363, 364, 365, 366, 367, 368, 369, 370, 371, 372, 373, 374, 375, 376, 377, 378, 379, 380, 381, 382] (by decide +kernel) (by decide +kernel)) (goodIn_sub (fun _ h => List.mem_append_left _ (List.mem_append_left _ (List.mem_append_right _ h))) (by decide +kernel))
set_option maxRecDepth 20000 in
theorem gL_law_L_take : GoodIn wsL_law (va_wsS RL 152 yL_take wsL_take) := goodIn_app (goodIn_of _ (by decide +kernel)) ggL_law_L_take
set_option maxRecDepth 20000 in
theorem ggL_law_L_partsOf : GoodIn wsL_law wsL_partsOf := goodIn_ca (goodIn_r _ [112, 113, 5, 114, 115, 116, 2, 117, 118, 119, 120, 121, 122, 123, 27, 84, 85, 86, 87, 15, 13, 88, 89, 90, 363, 364, 365, 366, 367, 368, 369, 370, 371, 372, 373, 374, 375, 376, 377] (by decide +kernel) (by decide +kernel)) (goodIn_sub (fun _ h => List.mem_append_left _ (List.mem_append_right _ h)) (by decide +kernel))
set_option maxRecDepth 20000 in
theorem gL_law_L_partsOf : GoodIn wsL_law (va_wsS RL 102 yL_partsOf wsL_partsOf) := goodIn_app (goodIn_of _ (by decide +kernel)) ggL_law_L_partsOf
set_option maxRecDepth 20000 in
theorem ggL_law_L_at : GoodIn wsL_law wsL_at := goodIn_r _ [126, 127, 128] (by decide +kernel) (by decide +kernel)
set_option maxRecDepth 20000 in
theorem gL_law_L_at : GoodIn wsL_law (va_wsS RL 193 yL_at wsL_at) := goodIn_app (goodIn_of _ (by decide +kernel)) ggL_law_L_at
set_option maxRecDepth 20000 in
theorem bwL_law_acts : Cond.code yL_acts cL_acts 20 (some .boolean) ∈ wsL_law := List.mem_of_getElem? (i := 131) rfl
set_option maxRecDepth 20000 in
theorem ggL_law_L_acts : GoodIn wsL_law wsL_acts := goodIn_ca (goodIn_ca (goodIn_ca (goodIn_cons bwL_law_acts (by decide +kernel) (goodIn_r _ [4, 132, 133, 5, 134, 135, 59, 136, 137, 45, 46, 47, 2, 48, 27, 41, 42, 43, 44, 26, 138, 139, 140, 141, 61, 142, 143, 144, 145, 66, 67, 15, 146, 147, 148, 149, 150, 151, 152, 153, 154, 155, 156, 157, 158, 14, 159, 160, 161, 113, 162, 163, 164, 165, 122, 123, 13, 166, 167, 168, 169, 170, 171, 172, 28, 29, 173, 174, 175, 176, 177, 178, 179, 30, 180, 181, 182, 183, 184, 185, 186, 21, 22, 23, 118, 119, 120, 121, 187, 188, 189, 190, 76, 77, 78, 79, 19, 80, 81, 82, 83, 84, 85, 86, 87, 88, 89, 90, 91, 92, 93, 18, 94, 39, 95, 96, 97, 98, 40, 99, 100, 101, 102, 103, 104, 105, 191, 192, 193, 6, 194, 195, 196, 197, 198, 199, 200, 201, 202, 203, 204, 205, 206, 207, 208, 209, 210, 211, 212, 213, 214, 215, 216, 72, 73, 74, 75, 24, 25, 217, 218, 219, 220, 221, 222, 223, 224, 225, 226, 106, 107, 108, 109, 227, 228, 229, 230, 231, 232, 233, 31, 234, 235, 236, 57, 58, 60, 62, 63, 64, 65, 68, 69, 70, 71, 237, 238, 239, 240, 241, 242, 243, 244, 245, 246, 247, 35, 37, 38, 248, 249, 250, 251, 252, 253, 254, 255, 256, 257, 258, 259, 260, 261, 262, 263, 264, 265, 266, 267, 268, 269, 270, 271, 272, 273, 274, 275, 276, 277, 278, 279, 280, 281, 282, 283, 284, 363, 364, 365, 366, 367, 368, 369, 370, 371, 372, 373, 374, 375, 376, 377, 378, 379, 380, 381, 382] (by decide +kernel) (by decide +kernel))) (goodIn_sub (fun _ h => List.mem_append_left _ (List.mem_append_left _ (List.mem_append_right _ h))) (by decide +kernel))) (goodIn_sub (fun _ h => List.mem_append_right _ h) (by decide +kernel))) (goodIn_sub (fun _ h => List.mem_append_left _ (List.mem_append_right _ h)) (by decide +kernel))
set_option maxRecDepth 20000 in
theorem gL_law_L_acts : GoodIn wsL_law (va_wsS RL 197 yL_acts wsL_acts) := goodIn_app (goodIn_of _ (by decide +kernel)) ggL_law_L_acts
set_option maxRecDepth 20000 in
theorem bwL_law_verdicts : Cond.code yL_verdicts cL_verdicts 9 (some .boolean) ∈ wsL_law := List.mem_of_getElem? (i := 287) rfl
set_option maxRecDepth 20000 in
theorem ggL_law_L_verdicts : GoodIn wsL_law wsL_verdicts := goodIn_ca (goodIn_cons bwL_law_verdicts (by decide +kernel) (goodIn_r _ [5, 45, 46, 47, 2, 48, 27, 41, 42, 43, 44, 26, 256, 257, 59, 258, 113, 259, 260, 261, 262, 19, 118, 119, 120, 121, 122, 123, 187, 188, 189, 190, 248, 249, 250, 18, 251, 39, 40, 263, 264, 265, 266, 267, 268, 269, 270, 271, 272, 273, 35, 288, 289, 290, 291, 292, 293, 294, 295, 296, 297, 298, 29, 299, 300, 301, 302, 28, 303, 304, 305, 306, 307, 308, 309, 310, 311, 312, 313, 110, 111, 112, 114, 115, 116, 117, 84, 85, 86, 87, 15, 13, 88, 89, 90, 314, 315, 316, 317, 318, 319, 320, 321, 322, 323, 324, 325, 326, 327, 14, 363, 364, 365, 366, 367, 368, 369, 370, 371, 372, 373, 374, 375, 376, 377, 378, 379, 380, 381, 382] (by decide +kernel) (by decide +kernel))) (goodIn_sub (fun _ h => List.mem_append_left _ (List.mem_append_right _ h)) (by decide +kernel))
set_option maxRecDepth 20000 in
theorem gL_law_L_verdicts : GoodIn wsL_law (va_wsS RL 201 yL_verdicts wsL_verdicts) := goodIn_app (goodIn_of _ (by decide +kernel)) ggL_law_L_verdicts
set_option maxRecDepth 20000 in
theorem ggL_law_L_parts : GoodIn wsL_law wsL_parts := goodIn_ca (goodIn_r _ [330, 110, 111, 59, 112, 113, 5, 114, 115, 116, 2, 117, 118, 119, 120, 121, 122, 123, 27, 84, 85, 86, 87, 15, 13, 88, 89, 90, 363, 364, 365, 366, 367, 368, 369, 370, 371, 372, 373, 374, 375, 376, 377] (by decide +kernel) (by decide +kernel)) (goodIn_sub (fun _ h => List.mem_append_left _ (List.mem_append_right _ h)) (by decide +kernel))
set_option maxRecDepth 20000 in
theorem gL_law_L_parts : GoodIn wsL_law (va_wsS RL 205 yL_parts wsL_parts) := goodIn_app (goodIn_of _ (by decide +kernel)) ggL_law_L_parts
set_option maxRecDepth 20000 in
theorem bwL_law_culprits : Cond.code yL_culprits cL_culprits 15 (some .boolean) ∈ wsL_law := List.mem_of_getElem? (i := 333) rfl
set_option maxRecDepth 20000 in
theorem ggL_law_L_culprits : GoodIn wsL_law wsL_culprits := goodIn_ca (goodIn_ca (goodIn_cons bwL_law_culprits (by decide +kernel) (goodIn_r _ [194, 5, 4, 334, 335, 336, 59, 337, 113, 61, 6, 338, 339, 340, 2, 341, 118, 119, 120, 121, 122, 123, 27, 199, 200, 201, 202, 66, 67, 21, 80, 81, 82, 83, 22, 23, 14, 84, 85, 86, 87, 15, 13, 88, 89, 90, 191, 192, 193, 195, 196, 197, 198, 76, 77, 78, 79, 19, 30, 91, 92, 93, 18, 94, 39, 95, 96, 97, 98, 40, 274, 275, 276, 277, 278, 279, 280, 187, 188, 189, 190, 26, 281, 282, 283, 284, 35, 37, 38, 41, 42, 43, 44, 342, 343, 344, 345, 346, 347, 348, 213, 214, 215, 216, 349, 350, 351, 352, 353, 354, 355, 356, 357, 358, 299, 300, 301, 302, 99, 100, 101, 102, 103, 104, 105, 359, 360, 361, 362, 220, 221, 222, 223, 224, 225, 226, 24, 25, 106, 107, 108, 109, 206, 207, 208, 209, 210, 211, 212, 72, 73, 74, 75, 321, 322, 323, 324, 325, 326, 327, 263, 264, 265, 266, 267, 268, 269, 270, 271, 272, 273, 203, 204, 205, 363, 364, 365, 366, 367, 368, 369, 370, 371, 372, 373, 374, 375, 376, 377, 378, 379, 380, 381, 382] (by decide +kernel) (by decide +kernel))) (goodIn_sub (fun _ h => List.mem_append_left _ (List.mem_append_right _ h)) (by decide +kernel))) (goodIn_sub (fun _ h => List.mem_append_left _ (List.mem_append_left _ (List.mem_append_right _ h))) (by decide +kernel))
set_option maxRecDepth 20000 in
theorem gL_law_L_culprits : GoodIn wsL_law (va_wsS RL 209 yL_culprits wsL_culprits) := goodIn_app (goodIn_of _ (by decide +kernel)) ggL_law_L_culprits
set_option maxRecDepth 20000 in
theorem ggL_law_L_suspects : GoodIn wsL_law wsL_suspects := goodIn_ca (goodIn_ca (goodIn_r _ [337, 113, 61, 6, 194, 338, 339, 340, 2, 341, 118, 119, 120, 121, 122, 123, 27, 199, 200, 201, 202, 66, 67, 21, 80, 81, 82, 83, 22, 23, 14, 84, 85, 86, 87, 15, 13, 88, 89, 90, 363, 364, 365, 366, 367, 368, 369, 370, 371, 372, 373, 374, 375, 376, 377] (by decide +kernel) (by decide +kernel)) (goodIn_sub (fun _ h => List.mem_append_left _ (List.mem_append_right _ h)) (by decide +kernel))) (goodIn_sub (fun _ h => List.mem_append_left _ (List.mem_append_left _ (List.mem_append_right _ h))) (by decide +kernel))
set_option maxRecDepth 20000 in
theorem gL_law_L_suspects : GoodIn wsL_law (va_wsS RL 126 yL_suspects wsL_suspects) := goodIn_app (goodIn_of _ (by decide +kernel)) ggL_law_L_suspects
set_option maxRecDepth 20000 in
theorem ggL_law_L_close : GoodIn wsL_law wsL_close := goodIn_ca (goodIn_ca (goodIn_r _ [208, 113, 61, 5, 4, 209, 210, 211, 2, 212, 21, 118, 119, 120, 121, 122, 123, 27, 199, 200, 201, 202, 66, 67, 76, 77, 78, 79, 22, 23, 19, 30, 80, 81, 82, 83, 14, 84, 85, 86, 87, 15, 13, 88, 89, 90, 91, 92, 93, 18, 94, 39, 95, 96, 97, 98, 40, 99, 100, 101, 102, 103, 104, 105, 213, 214, 215, 216, 72, 73, 74, 75, 24, 25, 363, 364, 365, 366, 367, 368, 369, 370, 371, 372, 373, 374, 375, 376, 377, 378, 379, 380, 381, 382] (by decide +kernel) (by decide +kernel)) (goodIn_sub (fun _ h => List.mem_append_left _ (List.mem_append_right _ h)) (by decide +kernel))) (goodIn_sub (fun _ h => List.mem_append_left _ (List.mem_append_left _ (List.mem_append_right _ h))) (by decide +kernel))
set_option maxRecDepth 20000 in
theorem gL_law_L_close : GoodIn wsL_law (va_wsS RL 139 yL_close wsL_close) := goodIn_app (goodIn_of _ (by decide +kernel)) ggL_law_L_close
set_option maxRecDepth 20000 in
theorem ggL_law_L_enqueue : GoodIn wsL_law wsL_enqueue := goodIn_ca (goodIn_ca (goodIn_r _ [222, 113, 61, 5, 4, 223, 224, 225, 2, 226, 66, 67, 24, 25, 118, 119, 120, 121, 122, 123, 27, 199, 200, 201, 202, 21, 106, 107, 108, 109, 363, 364, 365, 366, 367, 368, 369, 370, 371, 372, 373, 374, 375, 376, 377] (by decide +kernel) (by decide +kernel)) (goodIn_sub (fun _ h => List.mem_append_left _ (List.mem_append_left _ (List.mem_append_right _ h))) (by decide +kernel))) (goodIn_sub (fun _ h => List.mem_append_left _ (List.mem_append_right _ h)) (by decide +kernel))
set_option maxRecDepth 20000 in
theorem gL_law_L_enqueue : GoodIn wsL_law (va_wsS RL 137 yL_enqueue wsL_enqueue) := goodIn_app (goodIn_of _ (by decide +kernel)) ggL_law_L_enqueue
set_option maxRecDepth 20000 in
theorem ggL_law_L_next : GoodIn wsL_law wsL_next := goodIn_ca (goodIn_ca (goodIn_r _ [351, 113, 61, 5, 4, 352, 353, 354, 2, 355, 22, 23, 19, 118, 119, 120, 121, 122, 123, 27, 199, 200, 201, 202, 66, 67, 21, 76, 77, 78, 79, 30, 80, 81, 82, 83, 14, 84, 85, 86, 87, 15, 13, 88, 89, 90, 91, 92, 93, 18, 94, 39, 95, 96, 97, 98, 40, 356, 357, 358, 299, 300, 301, 302, 99, 100, 101, 102, 103, 104, 105, 359, 360, 361, 362, 363, 364, 365, 366, 367, 368, 369, 370, 371, 372, 373, 374, 375, 376, 377, 378, 379, 380, 381, 382] (by decide +kernel) (by decide +kernel)) (goodIn_sub (fun _ h => List.mem_append_left _ (List.mem_append_right _ h)) (by decide +kernel))) (goodIn_sub (fun _ h => List.mem_append_left _ (List.mem_append_left _ (List.mem_append_right _ h))) (by decide +kernel))
set_option maxRecDepth 20000 in
theorem gL_law_L_next : GoodIn wsL_law (va_wsS RL 135 yL_next wsL_next) := goodIn_app (goodIn_of _ (by decide +kernel)) ggL_law_L_next
