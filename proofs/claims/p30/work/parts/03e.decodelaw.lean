theorem dL_at_0 : decode cL_at 0 = .ok (.iload_n 1, 1) := by decide +kernel
theorem dL_at_1 : decode cL_at 1 = .ok (.aload_n 0, 1) := by decide +kernel
theorem dL_at_2 : decode cL_at 2 = .ok (.arraylength, 1) := by decide +kernel
theorem dL_at_3 : decode cL_at 3 = .ok (.if_icmp .ge 9, 3) := by decide +kernel
theorem dL_at_6 : decode cL_at 6 = .ok (.aload_n 0, 1) := by decide +kernel
theorem dL_at_7 : decode cL_at 7 = .ok (.iload_n 1, 1) := by decide +kernel
theorem dL_at_8 : decode cL_at 8 = .ok (.iaload, 1) := by decide +kernel
theorem dL_at_9 : decode cL_at 9 = .ok (.goto 12, 3) := by decide +kernel
theorem dL_at_12 : decode cL_at 12 = .ok (.ldc 7, 2) := by decide +kernel
theorem dL_at_14 : decode cL_at 14 = .ok (.iload_n 1, 1) := by decide +kernel
theorem dL_at_15 : decode cL_at 15 = .ok (.iconst 1, 1) := by decide +kernel
theorem dL_at_16 : decode cL_at 16 = .ok (.iadd, 1) := by decide +kernel
theorem dL_at_17 : decode cL_at 17 = .ok (.imul, 1) := by decide +kernel
theorem dL_at_18 : decode cL_at 18 = .ok (.ldc 8, 2) := by decide +kernel
theorem dL_at_20 : decode cL_at 20 = .ok (.iadd, 1) := by decide +kernel
theorem dL_at_21 : decode cL_at 21 = .ok (.ireturn, 1) := by decide +kernel
theorem dL_low_0 : decode cL_low 0 = .ok (.iload_n 0, 1) := by decide +kernel
theorem dL_low_1 : decode cL_low 1 = .ok (.ldc 9, 2) := by decide +kernel
theorem dL_low_3 : decode cL_low 3 = .ok (.iand, 1) := by decide +kernel
theorem dL_low_4 : decode cL_low 4 = .ok (.iload_n 1, 1) := by decide +kernel
theorem dL_low_5 : decode cL_low 5 = .ok (.irem, 1) := by decide +kernel
theorem dL_low_6 : decode cL_low 6 = .ok (.ireturn, 1) := by decide +kernel
theorem dL_setUses_0 : decode cL_setUses 0 = .ok (.aload_n 0, 1) := by decide +kernel
theorem dL_setUses_1 : decode cL_setUses 1 = .ok (.iload_n 1, 1) := by decide +kernel
theorem dL_setUses_2 : decode cL_setUses 2 = .ok (.iload_n 2, 1) := by decide +kernel
theorem dL_setUses_3 : decode cL_setUses 3 = .ok (.invokevirtual 10, 3) := by decide +kernel
theorem dL_setUses_6 : decode cL_setUses 6 = .ok (.ireturn, 1) := by decide +kernel
theorem dL_setUses_7 : decode cL_setUses 7 = .ok (.astore_n 3, 1) := by decide +kernel
theorem dL_setUses_8 : decode cL_setUses 8 = .ok (.ldc 18, 2) := by decide +kernel
theorem dL_setUses_10 : decode cL_setUses 10 = .ok (.ireturn, 1) := by decide +kernel
theorem dL_setUses_11 : decode cL_setUses 11 = .ok (.astore_n 3, 1) := by decide +kernel
theorem dL_setUses_12 : decode cL_setUses 12 = .ok (.ldc 21, 2) := by decide +kernel
theorem dL_setUses_14 : decode cL_setUses 14 = .ok (.ireturn, 1) := by decide +kernel
theorem dL_addCommit_0 : decode cL_addCommit 0 = .ok (.aload_n 0, 1) := by decide +kernel
theorem dL_addCommit_1 : decode cL_addCommit 1 = .ok (.iload_n 1, 1) := by decide +kernel
theorem dL_addCommit_2 : decode cL_addCommit 2 = .ok (.invokevirtual 22, 3) := by decide +kernel
theorem dL_addCommit_5 : decode cL_addCommit 5 = .ok (.ireturn, 1) := by decide +kernel
theorem dL_addCommit_6 : decode cL_addCommit 6 = .ok (.astore_n 2, 1) := by decide +kernel
theorem dL_addCommit_7 : decode cL_addCommit 7 = .ok (.ldc 21, 2) := by decide +kernel
theorem dL_addCommit_9 : decode cL_addCommit 9 = .ok (.ireturn, 1) := by decide +kernel
theorem dL_addCommit_10 : decode cL_addCommit 10 = .ok (.astore_n 2, 1) := by decide +kernel
theorem dL_addCommit_11 : decode cL_addCommit 11 = .ok (.ldc 28, 2) := by decide +kernel
theorem dL_addCommit_13 : decode cL_addCommit 13 = .ok (.ireturn, 1) := by decide +kernel
theorem dL_addTest_0 : decode cL_addTest 0 = .ok (.aload_n 0, 1) := by decide +kernel
theorem dL_addTest_1 : decode cL_addTest 1 = .ok (.iload_n 1, 1) := by decide +kernel
theorem dL_addTest_2 : decode cL_addTest 2 = .ok (.invokevirtual 29, 3) := by decide +kernel
theorem dL_addTest_5 : decode cL_addTest 5 = .ok (.ireturn, 1) := by decide +kernel
theorem dL_addTest_6 : decode cL_addTest 6 = .ok (.astore_n 2, 1) := by decide +kernel
theorem dL_addTest_7 : decode cL_addTest 7 = .ok (.ldc 21, 2) := by decide +kernel
theorem dL_addTest_9 : decode cL_addTest 9 = .ok (.ireturn, 1) := by decide +kernel
theorem dL_addTest_10 : decode cL_addTest 10 = .ok (.astore_n 2, 1) := by decide +kernel
theorem dL_addTest_11 : decode cL_addTest 11 = .ok (.ldc 28, 2) := by decide +kernel
theorem dL_addTest_13 : decode cL_addTest 13 = .ok (.ireturn, 1) := by decide +kernel
theorem dL_setQuarantine_0 : decode cL_setQuarantine 0 = .ok (.aload_n 0, 1) := by decide +kernel
theorem dL_setQuarantine_1 : decode cL_setQuarantine 1 = .ok (.iload_n 1, 1) := by decide +kernel
theorem dL_setQuarantine_2 : decode cL_setQuarantine 2 = .ok (.iload_n 2, 1) := by decide +kernel
theorem dL_setQuarantine_3 : decode cL_setQuarantine 3 = .ok (.invokevirtual 32, 3) := by decide +kernel
theorem dL_setQuarantine_6 : decode cL_setQuarantine 6 = .ok (.iconst 0, 1) := by decide +kernel
theorem dL_setQuarantine_7 : decode cL_setQuarantine 7 = .ok (.ireturn, 1) := by decide +kernel
theorem dL_setQuarantine_8 : decode cL_setQuarantine 8 = .ok (.astore_n 3, 1) := by decide +kernel
theorem dL_setQuarantine_9 : decode cL_setQuarantine 9 = .ok (.ldc 21, 2) := by decide +kernel
theorem dL_setQuarantine_11 : decode cL_setQuarantine 11 = .ok (.ireturn, 1) := by decide +kernel
theorem dL_setNoise_0 : decode cL_setNoise 0 = .ok (.aload_n 0, 1) := by decide +kernel
theorem dL_setNoise_1 : decode cL_setNoise 1 = .ok (.iload_n 1, 1) := by decide +kernel
theorem dL_setNoise_2 : decode cL_setNoise 2 = .ok (.invokevirtual 36, 3) := by decide +kernel
theorem dL_setNoise_5 : decode cL_setNoise 5 = .ok (.ireturn, 1) := by decide +kernel
theorem dL_setNoise_6 : decode cL_setNoise 6 = .ok (.astore_n 2, 1) := by decide +kernel
theorem dL_setNoise_7 : decode cL_setNoise 7 = .ok (.ldc 21, 2) := by decide +kernel
theorem dL_setNoise_9 : decode cL_setNoise 9 = .ok (.ireturn, 1) := by decide +kernel
theorem dL_record_0 : decode cL_record 0 = .ok (.aload_n 0, 1) := by decide +kernel
theorem dL_record_1 : decode cL_record 1 = .ok (.iload_n 1, 1) := by decide +kernel
theorem dL_record_2 : decode cL_record 2 = .ok (.iload_n 2, 1) := by decide +kernel
theorem dL_record_3 : decode cL_record 3 = .ok (.iload_n 3, 1) := by decide +kernel
theorem dL_record_4 : decode cL_record 4 = .ok (.invokevirtual 39, 3) := by decide +kernel
theorem dL_record_7 : decode cL_record 7 = .ok (.ireturn, 1) := by decide +kernel
theorem dL_record_8 : decode cL_record 8 = .ok (.astore 4, 2) := by decide +kernel
theorem dL_record_10 : decode cL_record 10 = .ok (.ldc 18, 2) := by decide +kernel
theorem dL_record_12 : decode cL_record 12 = .ok (.ireturn, 1) := by decide +kernel
theorem dL_record_13 : decode cL_record 13 = .ok (.astore 4, 2) := by decide +kernel
theorem dL_record_15 : decode cL_record 15 = .ok (.ldc 28, 2) := by decide +kernel
theorem dL_record_17 : decode cL_record 17 = .ok (.ireturn, 1) := by decide +kernel
theorem dL_triage_0 : decode cL_triage 0 = .ok (.aload_n 0, 1) := by decide +kernel
theorem dL_triage_1 : decode cL_triage 1 = .ok (.iload_n 1, 1) := by decide +kernel
theorem dL_triage_2 : decode cL_triage 2 = .ok (.iload_n 2, 1) := by decide +kernel
theorem dL_triage_3 : decode cL_triage 3 = .ok (.iload_n 3, 1) := by decide +kernel
theorem dL_triage_4 : decode cL_triage 4 = .ok (.invokevirtual 43, 3) := by decide +kernel
theorem dL_triage_7 : decode cL_triage 7 = .ok (.ireturn, 1) := by decide +kernel
theorem dL_triage_8 : decode cL_triage 8 = .ok (.astore 4, 2) := by decide +kernel
theorem dL_triage_10 : decode cL_triage 10 = .ok (.ldc 18, 2) := by decide +kernel
theorem dL_triage_12 : decode cL_triage 12 = .ok (.ireturn, 1) := by decide +kernel
theorem dL_triage_13 : decode cL_triage 13 = .ok (.astore 4, 2) := by decide +kernel
theorem dL_triage_15 : decode cL_triage 15 = .ok (.ldc 21, 2) := by decide +kernel
theorem dL_triage_17 : decode cL_triage 17 = .ok (.ireturn, 1) := by decide +kernel
theorem dL_close_0 : decode cL_close 0 = .ok (.aload_n 0, 1) := by decide +kernel
theorem dL_close_1 : decode cL_close 1 = .ok (.iload_n 1, 1) := by decide +kernel
theorem dL_close_2 : decode cL_close 2 = .ok (.invokevirtual 47, 3) := by decide +kernel
theorem dL_close_5 : decode cL_close 5 = .ok (.ireturn, 1) := by decide +kernel
theorem dL_close_6 : decode cL_close 6 = .ok (.astore_n 2, 1) := by decide +kernel
theorem dL_close_7 : decode cL_close 7 = .ok (.ldc 18, 2) := by decide +kernel
theorem dL_close_9 : decode cL_close 9 = .ok (.ireturn, 1) := by decide +kernel
theorem dL_close_10 : decode cL_close 10 = .ok (.astore_n 2, 1) := by decide +kernel
theorem dL_close_11 : decode cL_close 11 = .ok (.ldc 28, 2) := by decide +kernel
theorem dL_close_13 : decode cL_close 13 = .ok (.ireturn, 1) := by decide +kernel
theorem dL_enqueue_0 : decode cL_enqueue 0 = .ok (.aload_n 0, 1) := by decide +kernel
theorem dL_enqueue_1 : decode cL_enqueue 1 = .ok (.iload_n 1, 1) := by decide +kernel
theorem dL_enqueue_2 : decode cL_enqueue 2 = .ok (.invokevirtual 50, 3) := by decide +kernel
theorem dL_enqueue_5 : decode cL_enqueue 5 = .ok (.ireturn, 1) := by decide +kernel
theorem dL_enqueue_6 : decode cL_enqueue 6 = .ok (.astore_n 2, 1) := by decide +kernel
theorem dL_enqueue_7 : decode cL_enqueue 7 = .ok (.ldc 18, 2) := by decide +kernel
theorem dL_enqueue_9 : decode cL_enqueue 9 = .ok (.ireturn, 1) := by decide +kernel
theorem dL_enqueue_10 : decode cL_enqueue 10 = .ok (.astore_n 2, 1) := by decide +kernel
theorem dL_enqueue_11 : decode cL_enqueue 11 = .ok (.ldc 28, 2) := by decide +kernel
theorem dL_enqueue_13 : decode cL_enqueue 13 = .ok (.ireturn, 1) := by decide +kernel
theorem dL_newDay_0 : decode cL_newDay 0 = .ok (.aload_n 0, 1) := by decide +kernel
theorem dL_newDay_1 : decode cL_newDay 1 = .ok (.iload_n 1, 1) := by decide +kernel
theorem dL_newDay_2 : decode cL_newDay 2 = .ok (.invokevirtual 53, 3) := by decide +kernel
theorem dL_newDay_5 : decode cL_newDay 5 = .ok (.ireturn, 1) := by decide +kernel
theorem dL_newDay_6 : decode cL_newDay 6 = .ok (.astore_n 2, 1) := by decide +kernel
theorem dL_newDay_7 : decode cL_newDay 7 = .ok (.ldc 21, 2) := by decide +kernel
theorem dL_newDay_9 : decode cL_newDay 9 = .ok (.ireturn, 1) := by decide +kernel
theorem dL_take_0 : decode cL_take 0 = .ok (.aload_n 0, 1) := by decide +kernel
theorem dL_take_1 : decode cL_take 1 = .ok (.invokevirtual 56, 3) := by decide +kernel
theorem dL_take_4 : decode cL_take 4 = .ok (.ireturn, 1) := by decide +kernel
theorem dL_take_5 : decode cL_take 5 = .ok (.astore_n 1, 1) := by decide +kernel
theorem dL_take_6 : decode cL_take 6 = .ok (.ldc 28, 2) := by decide +kernel
theorem dL_take_8 : decode cL_take 8 = .ok (.ireturn, 1) := by decide +kernel
theorem dL_partsOf_0 : decode cL_partsOf 0 = .ok (.aload_n 0, 1) := by decide +kernel
theorem dL_partsOf_1 : decode cL_partsOf 1 = .ok (.iload_n 1, 1) := by decide +kernel
theorem dL_partsOf_2 : decode cL_partsOf 2 = .ok (.invokevirtual 60, 3) := by decide +kernel
theorem dL_partsOf_5 : decode cL_partsOf 5 = .ok (.ireturn, 1) := by decide +kernel
theorem dL_partsOf_6 : decode cL_partsOf 6 = .ok (.astore_n 2, 1) := by decide +kernel
theorem dL_partsOf_7 : decode cL_partsOf 7 = .ok (.ldc 18, 2) := by decide +kernel
theorem dL_partsOf_9 : decode cL_partsOf 9 = .ok (.ireturn, 1) := by decide +kernel
theorem dL_touches_0 : decode cL_touches 0 = .ok (.aload_n 0, 1) := by decide +kernel
theorem dL_touches_1 : decode cL_touches 1 = .ok (.iload_n 1, 1) := by decide +kernel
theorem dL_touches_2 : decode cL_touches 2 = .ok (.invokevirtual 63, 3) := by decide +kernel
theorem dL_touches_5 : decode cL_touches 5 = .ok (.ireturn, 1) := by decide +kernel
theorem dL_touches_6 : decode cL_touches 6 = .ok (.astore_n 2, 1) := by decide +kernel
theorem dL_touches_7 : decode cL_touches 7 = .ok (.ldc 18, 2) := by decide +kernel
theorem dL_touches_9 : decode cL_touches 9 = .ok (.ireturn, 1) := by decide +kernel
theorem dL_runs_0 : decode cL_runs 0 = .ok (.aload_n 0, 1) := by decide +kernel
theorem dL_runs_1 : decode cL_runs 1 = .ok (.iload_n 1, 1) := by decide +kernel
theorem dL_runs_2 : decode cL_runs 2 = .ok (.invokevirtual 66, 3) := by decide +kernel
theorem dL_runs_5 : decode cL_runs 5 = .ok (.ireturn, 1) := by decide +kernel
theorem dL_runs_6 : decode cL_runs 6 = .ok (.astore_n 2, 1) := by decide +kernel
theorem dL_runs_7 : decode cL_runs 7 = .ok (.ldc 18, 2) := by decide +kernel
theorem dL_runs_9 : decode cL_runs 9 = .ok (.ireturn, 1) := by decide +kernel
theorem dL_verdict_0 : decode cL_verdict 0 = .ok (.aload_n 0, 1) := by decide +kernel
theorem dL_verdict_1 : decode cL_verdict 1 = .ok (.iload_n 1, 1) := by decide +kernel
theorem dL_verdict_2 : decode cL_verdict 2 = .ok (.iload_n 2, 1) := by decide +kernel
theorem dL_verdict_3 : decode cL_verdict 3 = .ok (.invokevirtual 69, 3) := by decide +kernel
theorem dL_verdict_6 : decode cL_verdict 6 = .ok (.ireturn, 1) := by decide +kernel
theorem dL_verdict_7 : decode cL_verdict 7 = .ok (.astore_n 3, 1) := by decide +kernel
theorem dL_verdict_8 : decode cL_verdict 8 = .ok (.ldc 18, 2) := by decide +kernel
theorem dL_verdict_10 : decode cL_verdict 10 = .ok (.ireturn, 1) := by decide +kernel
theorem dL_failing_0 : decode cL_failing 0 = .ok (.aload_n 0, 1) := by decide +kernel
theorem dL_failing_1 : decode cL_failing 1 = .ok (.iload_n 1, 1) := by decide +kernel
theorem dL_failing_2 : decode cL_failing 2 = .ok (.invokevirtual 72, 3) := by decide +kernel
theorem dL_failing_5 : decode cL_failing 5 = .ok (.ireturn, 1) := by decide +kernel
theorem dL_failing_6 : decode cL_failing 6 = .ok (.astore_n 2, 1) := by decide +kernel
theorem dL_failing_7 : decode cL_failing 7 = .ok (.ldc 18, 2) := by decide +kernel
theorem dL_failing_9 : decode cL_failing 9 = .ok (.ireturn, 1) := by decide +kernel
theorem dL_isQuarantined_0 : decode cL_isQuarantined 0 = .ok (.aload_n 0, 1) := by decide +kernel
theorem dL_isQuarantined_1 : decode cL_isQuarantined 1 = .ok (.iload_n 1, 1) := by decide +kernel
theorem dL_isQuarantined_2 : decode cL_isQuarantined 2 = .ok (.invokevirtual 75, 3) := by decide +kernel
theorem dL_isQuarantined_5 : decode cL_isQuarantined 5 = .ok (.ifCond .eq 7, 3) := by decide +kernel
theorem dL_isQuarantined_8 : decode cL_isQuarantined 8 = .ok (.iconst 1, 1) := by decide +kernel
theorem dL_isQuarantined_9 : decode cL_isQuarantined 9 = .ok (.goto 4, 3) := by decide +kernel
theorem dL_isQuarantined_12 : decode cL_isQuarantined 12 = .ok (.iconst 0, 1) := by decide +kernel
theorem dL_isQuarantined_13 : decode cL_isQuarantined 13 = .ok (.ireturn, 1) := by decide +kernel
theorem dL_isQuarantined_14 : decode cL_isQuarantined 14 = .ok (.astore_n 2, 1) := by decide +kernel
theorem dL_isQuarantined_15 : decode cL_isQuarantined 15 = .ok (.ldc 18, 2) := by decide +kernel
theorem dL_isQuarantined_17 : decode cL_isQuarantined 17 = .ok (.ireturn, 1) := by decide +kernel
theorem dL_broken_0 : decode cL_broken 0 = .ok (.aload_n 0, 1) := by decide +kernel
theorem dL_broken_1 : decode cL_broken 1 = .ok (.iload_n 1, 1) := by decide +kernel
theorem dL_broken_2 : decode cL_broken 2 = .ok (.invokevirtual 79, 3) := by decide +kernel
theorem dL_broken_5 : decode cL_broken 5 = .ok (.ireturn, 1) := by decide +kernel
theorem dL_broken_6 : decode cL_broken 6 = .ok (.astore_n 2, 1) := by decide +kernel
theorem dL_broken_7 : decode cL_broken 7 = .ok (.ldc 18, 2) := by decide +kernel
theorem dL_broken_9 : decode cL_broken 9 = .ok (.ireturn, 1) := by decide +kernel
theorem dL_suspects_0 : decode cL_suspects 0 = .ok (.aload_n 0, 1) := by decide +kernel
theorem dL_suspects_1 : decode cL_suspects 1 = .ok (.iload_n 1, 1) := by decide +kernel
theorem dL_suspects_2 : decode cL_suspects 2 = .ok (.invokevirtual 82, 3) := by decide +kernel
theorem dL_suspects_5 : decode cL_suspects 5 = .ok (.lreturn, 1) := by decide +kernel
theorem dL_suspects_6 : decode cL_suspects 6 = .ok (.astore_n 2, 1) := by decide +kernel
theorem dL_suspects_7 : decode cL_suspects 7 = .ok (.ldc2_w 86, 3) := by decide +kernel
theorem dL_suspects_10 : decode cL_suspects 10 = .ok (.lreturn, 1) := by decide +kernel
theorem dL_suspects_11 : decode cL_suspects 11 = .ok (.astore_n 2, 1) := by decide +kernel
theorem dL_suspects_12 : decode cL_suspects 12 = .ok (.ldc2_w 88, 3) := by decide +kernel
theorem dL_suspects_15 : decode cL_suspects 15 = .ok (.lreturn, 1) := by decide +kernel
theorem dL_contradictions_0 : decode cL_contradictions 0 = .ok (.aload_n 0, 1) := by decide +kernel
theorem dL_contradictions_1 : decode cL_contradictions 1 = .ok (.iload_n 1, 1) := by decide +kernel
theorem dL_contradictions_2 : decode cL_contradictions 2 = .ok (.iload_n 2, 1) := by decide +kernel
theorem dL_contradictions_3 : decode cL_contradictions 3 = .ok (.invokevirtual 90, 3) := by decide +kernel
theorem dL_contradictions_6 : decode cL_contradictions 6 = .ok (.ireturn, 1) := by decide +kernel
theorem dL_contradictions_7 : decode cL_contradictions 7 = .ok (.astore_n 3, 1) := by decide +kernel
theorem dL_contradictions_8 : decode cL_contradictions 8 = .ok (.ldc 18, 2) := by decide +kernel
theorem dL_contradictions_10 : decode cL_contradictions 10 = .ok (.ireturn, 1) := by decide +kernel
theorem dL_contradictions_11 : decode cL_contradictions 11 = .ok (.astore_n 3, 1) := by decide +kernel
theorem dL_contradictions_12 : decode cL_contradictions 12 = .ok (.ldc 28, 2) := by decide +kernel
theorem dL_contradictions_14 : decode cL_contradictions 14 = .ok (.ireturn, 1) := by decide +kernel
theorem dL_candidates_0 : decode cL_candidates 0 = .ok (.aload_n 0, 1) := by decide +kernel
theorem dL_candidates_1 : decode cL_candidates 1 = .ok (.iload_n 1, 1) := by decide +kernel
theorem dL_candidates_2 : decode cL_candidates 2 = .ok (.invokevirtual 93, 3) := by decide +kernel
theorem dL_candidates_5 : decode cL_candidates 5 = .ok (.lreturn, 1) := by decide +kernel
theorem dL_candidates_6 : decode cL_candidates 6 = .ok (.astore_n 2, 1) := by decide +kernel
theorem dL_candidates_7 : decode cL_candidates 7 = .ok (.ldc2_w 86, 3) := by decide +kernel
theorem dL_candidates_10 : decode cL_candidates 10 = .ok (.lreturn, 1) := by decide +kernel
theorem dL_candidates_11 : decode cL_candidates 11 = .ok (.astore_n 2, 1) := by decide +kernel
theorem dL_candidates_12 : decode cL_candidates 12 = .ok (.ldc2_w 88, 3) := by decide +kernel
theorem dL_candidates_15 : decode cL_candidates 15 = .ok (.lreturn, 1) := by decide +kernel
theorem dL_likeliest_0 : decode cL_likeliest 0 = .ok (.aload_n 0, 1) := by decide +kernel
theorem dL_likeliest_1 : decode cL_likeliest 1 = .ok (.iload_n 1, 1) := by decide +kernel
theorem dL_likeliest_2 : decode cL_likeliest 2 = .ok (.invokevirtual 96, 3) := by decide +kernel
theorem dL_likeliest_5 : decode cL_likeliest 5 = .ok (.ireturn, 1) := by decide +kernel
theorem dL_likeliest_6 : decode cL_likeliest 6 = .ok (.astore_n 2, 1) := by decide +kernel
theorem dL_likeliest_7 : decode cL_likeliest 7 = .ok (.ldc 18, 2) := by decide +kernel
theorem dL_likeliest_9 : decode cL_likeliest 9 = .ok (.ireturn, 1) := by decide +kernel
theorem dL_likeliest_10 : decode cL_likeliest 10 = .ok (.astore_n 2, 1) := by decide +kernel
theorem dL_likeliest_11 : decode cL_likeliest 11 = .ok (.ldc 28, 2) := by decide +kernel
theorem dL_likeliest_13 : decode cL_likeliest 13 = .ok (.ireturn, 1) := by decide +kernel
theorem dL_next_0 : decode cL_next 0 = .ok (.aload_n 0, 1) := by decide +kernel
theorem dL_next_1 : decode cL_next 1 = .ok (.iload_n 1, 1) := by decide +kernel
theorem dL_next_2 : decode cL_next 2 = .ok (.invokevirtual 99, 3) := by decide +kernel
theorem dL_next_5 : decode cL_next 5 = .ok (.ireturn, 1) := by decide +kernel
theorem dL_next_6 : decode cL_next 6 = .ok (.astore_n 2, 1) := by decide +kernel
theorem dL_next_7 : decode cL_next 7 = .ok (.ldc 18, 2) := by decide +kernel
theorem dL_next_9 : decode cL_next 9 = .ok (.ireturn, 1) := by decide +kernel
theorem dL_next_10 : decode cL_next 10 = .ok (.astore_n 2, 1) := by decide +kernel
theorem dL_next_11 : decode cL_next 11 = .ok (.ldc 28, 2) := by decide +kernel
theorem dL_next_13 : decode cL_next 13 = .ok (.ireturn, 1) := by decide +kernel
theorem dL_many_0 : decode cL_many 0 = .ok (.iconst 0, 1) := by decide +kernel
theorem dL_many_1 : decode cL_many 1 = .ok (.istore_n 2, 1) := by decide +kernel
theorem dL_many_2 : decode cL_many 2 = .ok (.iconst 0, 1) := by decide +kernel
theorem dL_many_3 : decode cL_many 3 = .ok (.istore_n 3, 1) := by decide +kernel
theorem dL_many_4 : decode cL_many 4 = .ok (.iload_n 3, 1) := by decide +kernel
theorem dL_many_5 : decode cL_many 5 = .ok (.bipush 40, 2) := by decide +kernel
theorem dL_many_7 : decode cL_many 7 = .ok (.if_icmp .ge 18, 3) := by decide +kernel
theorem dL_many_10 : decode cL_many 10 = .ok (.iload_n 2, 1) := by decide +kernel
theorem dL_many_11 : decode cL_many 11 = .ok (.lload_n 0, 1) := by decide +kernel
theorem dL_many_12 : decode cL_many 12 = .ok (.iload_n 3, 1) := by decide +kernel
theorem dL_many_13 : decode cL_many 13 = .ok (.lshr, 1) := by decide +kernel
theorem dL_many_14 : decode cL_many 14 = .ok (.lconst 1, 1) := by decide +kernel
theorem dL_many_15 : decode cL_many 15 = .ok (.land, 1) := by decide +kernel
theorem dL_many_16 : decode cL_many 16 = .ok (.l2i, 1) := by decide +kernel
theorem dL_many_17 : decode cL_many 17 = .ok (.iadd, 1) := by decide +kernel
theorem dL_many_18 : decode cL_many 18 = .ok (.istore_n 2, 1) := by decide +kernel
theorem dL_many_19 : decode cL_many 19 = .ok (.iinc 3 1, 3) := by decide +kernel
theorem dL_many_22 : decode cL_many 22 = .ok (.goto (-18), 3) := by decide +kernel
theorem dL_many_25 : decode cL_many 25 = .ok (.iload_n 2, 1) := by decide +kernel
theorem dL_many_26 : decode cL_many 26 = .ok (.ireturn, 1) := by decide +kernel
theorem dL_parts_0 : decode cL_parts 0 = .ok (.aload_n 0, 1) := by decide +kernel
theorem dL_parts_1 : decode cL_parts 1 = .ok (.iload_n 3, 1) := by decide +kernel
theorem dL_parts_2 : decode cL_parts 2 = .ok (.invokestatic 102, 3) := by decide +kernel
theorem dL_parts_5 : decode cL_parts 5 = .ok (.istore 4, 2) := by decide +kernel
theorem dL_parts_7 : decode cL_parts 7 = .ok (.iconst 0, 1) := by decide +kernel
theorem dL_parts_8 : decode cL_parts 8 = .ok (.istore 5, 2) := by decide +kernel
theorem dL_parts_10 : decode cL_parts 10 = .ok (.iconst 0, 1) := by decide +kernel
theorem dL_parts_11 : decode cL_parts 11 = .ok (.istore 6, 2) := by decide +kernel
theorem dL_parts_13 : decode cL_parts 13 = .ok (.iload 6, 2) := by decide +kernel
theorem dL_parts_15 : decode cL_parts 15 = .ok (.bipush 16, 2) := by decide +kernel
theorem dL_parts_17 : decode cL_parts 17 = .ok (.if_icmp .ge 33, 3) := by decide +kernel
theorem dL_parts_20 : decode cL_parts 20 = .ok (.iload 5, 2) := by decide +kernel
theorem dL_parts_22 : decode cL_parts 22 = .ok (.iload 4, 2) := by decide +kernel
theorem dL_parts_24 : decode cL_parts 24 = .ok (.iload 6, 2) := by decide +kernel
theorem dL_parts_26 : decode cL_parts 26 = .ok (.ishr, 1) := by decide +kernel
theorem dL_parts_27 : decode cL_parts 27 = .ok (.iconst 1, 1) := by decide +kernel
theorem dL_parts_28 : decode cL_parts 28 = .ok (.iand, 1) := by decide +kernel
theorem dL_parts_29 : decode cL_parts 29 = .ok (.iconst 1, 1) := by decide +kernel
theorem dL_parts_30 : decode cL_parts 30 = .ok (.if_icmp .ne 10, 3) := by decide +kernel
theorem dL_parts_33 : decode cL_parts 33 = .ok (.aload_n 1, 1) := by decide +kernel
theorem dL_parts_34 : decode cL_parts 34 = .ok (.iload 6, 2) := by decide +kernel
theorem dL_parts_36 : decode cL_parts 36 = .ok (.iaload, 1) := by decide +kernel
theorem dL_parts_37 : decode cL_parts 37 = .ok (.goto 4, 3) := by decide +kernel
theorem dL_parts_40 : decode cL_parts 40 = .ok (.iconst 0, 1) := by decide +kernel
theorem dL_parts_41 : decode cL_parts 41 = .ok (.ior, 1) := by decide +kernel
theorem dL_parts_42 : decode cL_parts 42 = .ok (.istore 5, 2) := by decide +kernel
theorem dL_parts_44 : decode cL_parts 44 = .ok (.iinc 6 1, 3) := by decide +kernel
theorem dL_parts_47 : decode cL_parts 47 = .ok (.goto (-34), 3) := by decide +kernel
theorem dL_parts_50 : decode cL_parts 50 = .ok (.aload_n 2, 1) := by decide +kernel
theorem dL_parts_51 : decode cL_parts 51 = .ok (.iload_n 3, 1) := by decide +kernel
theorem dL_parts_52 : decode cL_parts 52 = .ok (.iaload, 1) := by decide +kernel
theorem dL_parts_53 : decode cL_parts 53 = .ok (.istore 6, 2) := by decide +kernel
theorem dL_parts_55 : decode cL_parts 55 = .ok (.iconst 0, 1) := by decide +kernel
theorem dL_parts_56 : decode cL_parts 56 = .ok (.istore 7, 2) := by decide +kernel
theorem dL_parts_58 : decode cL_parts 58 = .ok (.iload 7, 2) := by decide +kernel
theorem dL_parts_60 : decode cL_parts 60 = .ok (.sipush 256, 3) := by decide +kernel
theorem dL_parts_63 : decode cL_parts 63 = .ok (.if_icmp .ge 39, 3) := by decide +kernel
theorem dL_parts_66 : decode cL_parts 66 = .ok (.iload 6, 2) := by decide +kernel
theorem dL_parts_68 : decode cL_parts 68 = .ok (.iload 6, 2) := by decide +kernel
theorem dL_parts_70 : decode cL_parts 70 = .ok (.iload 7, 2) := by decide +kernel
theorem dL_parts_72 : decode cL_parts 72 = .ok (.bipush 16, 2) := by decide +kernel
theorem dL_parts_74 : decode cL_parts 74 = .ok (.irem, 1) := by decide +kernel
theorem dL_parts_75 : decode cL_parts 75 = .ok (.ishr, 1) := by decide +kernel
theorem dL_parts_76 : decode cL_parts 76 = .ok (.iconst 1, 1) := by decide +kernel
theorem dL_parts_77 : decode cL_parts 77 = .ok (.iand, 1) := by decide +kernel
theorem dL_parts_78 : decode cL_parts 78 = .ok (.iconst 1, 1) := by decide +kernel
theorem dL_parts_79 : decode cL_parts 79 = .ok (.if_icmp .ne 13, 3) := by decide +kernel
theorem dL_parts_82 : decode cL_parts 82 = .ok (.aload_n 1, 1) := by decide +kernel
theorem dL_parts_83 : decode cL_parts 83 = .ok (.iload 7, 2) := by decide +kernel
theorem dL_parts_85 : decode cL_parts 85 = .ok (.bipush 16, 2) := by decide +kernel
theorem dL_parts_87 : decode cL_parts 87 = .ok (.irem, 1) := by decide +kernel
theorem dL_parts_88 : decode cL_parts 88 = .ok (.iaload, 1) := by decide +kernel
theorem dL_parts_89 : decode cL_parts 89 = .ok (.goto 4, 3) := by decide +kernel
theorem dL_parts_92 : decode cL_parts 92 = .ok (.iconst 0, 1) := by decide +kernel
theorem dL_parts_93 : decode cL_parts 93 = .ok (.ior, 1) := by decide +kernel
theorem dL_parts_94 : decode cL_parts 94 = .ok (.istore 6, 2) := by decide +kernel
theorem dL_parts_96 : decode cL_parts 96 = .ok (.iinc 7 1, 3) := by decide +kernel
theorem dL_parts_99 : decode cL_parts 99 = .ok (.goto (-41), 3) := by decide +kernel
theorem dL_parts_102 : decode cL_parts 102 = .ok (.iload 4, 2) := by decide +kernel
theorem dL_parts_104 : decode cL_parts 104 = .ok (.aload_n 2, 1) := by decide +kernel
theorem dL_parts_105 : decode cL_parts 105 = .ok (.iload_n 3, 1) := by decide +kernel
theorem dL_parts_106 : decode cL_parts 106 = .ok (.iaload, 1) := by decide +kernel
theorem dL_parts_107 : decode cL_parts 107 = .ok (.iand, 1) := by decide +kernel
theorem dL_parts_108 : decode cL_parts 108 = .ok (.aload_n 2, 1) := by decide +kernel
theorem dL_parts_109 : decode cL_parts 109 = .ok (.iload_n 3, 1) := by decide +kernel
theorem dL_parts_110 : decode cL_parts 110 = .ok (.iaload, 1) := by decide +kernel
theorem dL_parts_111 : decode cL_parts 111 = .ok (.if_icmp .ne 24, 3) := by decide +kernel
theorem dL_parts_114 : decode cL_parts 114 = .ok (.iload 4, 2) := by decide +kernel
theorem dL_parts_116 : decode cL_parts 116 = .ok (.iload 5, 2) := by decide +kernel
theorem dL_parts_118 : decode cL_parts 118 = .ok (.iand, 1) := by decide +kernel
theorem dL_parts_119 : decode cL_parts 119 = .ok (.iload 5, 2) := by decide +kernel
theorem dL_parts_121 : decode cL_parts 121 = .ok (.if_icmp .ne 14, 3) := by decide +kernel
theorem dL_parts_124 : decode cL_parts 124 = .ok (.iload 4, 2) := by decide +kernel
theorem dL_parts_126 : decode cL_parts 126 = .ok (.iload 6, 2) := by decide +kernel
theorem dL_parts_128 : decode cL_parts 128 = .ok (.if_icmp .ne 7, 3) := by decide +kernel
theorem dL_parts_131 : decode cL_parts 131 = .ok (.iconst 1, 1) := by decide +kernel
theorem dL_parts_132 : decode cL_parts 132 = .ok (.goto 4, 3) := by decide +kernel
theorem dL_parts_135 : decode cL_parts 135 = .ok (.iconst 0, 1) := by decide +kernel
theorem dL_parts_136 : decode cL_parts 136 = .ok (.ireturn, 1) := by decide +kernel
theorem dL_verdicts_0 : decode cL_verdicts 0 = .ok (.iconst 0, 1) := by decide +kernel
theorem dL_verdicts_1 : decode cL_verdicts 1 = .ok (.istore 4, 2) := by decide +kernel
theorem dL_verdicts_3 : decode cL_verdicts 3 = .ok (.iload 4, 2) := by decide +kernel
theorem dL_verdicts_5 : decode cL_verdicts 5 = .ok (.aload_n 0, 1) := by decide +kernel
theorem dL_verdicts_6 : decode cL_verdicts 6 = .ok (.invokevirtual 107, 3) := by decide +kernel
theorem dL_verdicts_9 : decode cL_verdicts 9 = .ok (.if_icmp .ge 177, 3) := by decide +kernel
theorem dL_verdicts_12 : decode cL_verdicts 12 = .ok (.iconst 0, 1) := by decide +kernel
theorem dL_verdicts_13 : decode cL_verdicts 13 = .ok (.istore 5, 2) := by decide +kernel
theorem dL_verdicts_15 : decode cL_verdicts 15 = .ok (.iconst 0, 1) := by decide +kernel
theorem dL_verdicts_16 : decode cL_verdicts 16 = .ok (.istore 6, 2) := by decide +kernel
theorem dL_verdicts_18 : decode cL_verdicts 18 = .ok (.iconst 0, 1) := by decide +kernel
theorem dL_verdicts_19 : decode cL_verdicts 19 = .ok (.istore 7, 2) := by decide +kernel
theorem dL_verdicts_21 : decode cL_verdicts 21 = .ok (.iload 7, 2) := by decide +kernel
theorem dL_verdicts_23 : decode cL_verdicts 23 = .ok (.aload_n 0, 1) := by decide +kernel
theorem dL_verdicts_24 : decode cL_verdicts 24 = .ok (.invokevirtual 110, 3) := by decide +kernel
theorem dL_verdicts_27 : decode cL_verdicts 27 = .ok (.if_icmp .ge 76, 3) := by decide +kernel
theorem dL_verdicts_30 : decode cL_verdicts 30 = .ok (.aload_n 0, 1) := by decide +kernel
theorem dL_verdicts_31 : decode cL_verdicts 31 = .ok (.iload 4, 2) := by decide +kernel
theorem dL_verdicts_33 : decode cL_verdicts 33 = .ok (.iload 7, 2) := by decide +kernel
theorem dL_verdicts_35 : decode cL_verdicts 35 = .ok (.invokestatic 113, 3) := by decide +kernel
theorem dL_verdicts_38 : decode cL_verdicts 38 = .ok (.istore 8, 2) := by decide +kernel
theorem dL_verdicts_40 : decode cL_verdicts 40 = .ok (.iload 5, 2) := by decide +kernel
theorem dL_verdicts_42 : decode cL_verdicts 42 = .ok (.iload 8, 2) := by decide +kernel
theorem dL_verdicts_44 : decode cL_verdicts 44 = .ok (.iconst 3, 1) := by decide +kernel
theorem dL_verdicts_45 : decode cL_verdicts 45 = .ok (.if_icmp .ne 20, 3) := by decide +kernel
theorem dL_verdicts_48 : decode cL_verdicts 48 = .ok (.iload 7, 2) := by decide +kernel
theorem dL_verdicts_50 : decode cL_verdicts 50 = .ok (.aload_n 0, 1) := by decide +kernel
theorem dL_verdicts_51 : decode cL_verdicts 51 = .ok (.invokevirtual 110, 3) := by decide +kernel
theorem dL_verdicts_54 : decode cL_verdicts 54 = .ok (.aload_n 3, 1) := by decide +kernel
theorem dL_verdicts_55 : decode cL_verdicts 55 = .ok (.iconst 2, 1) := by decide +kernel
theorem dL_verdicts_56 : decode cL_verdicts 56 = .ok (.iaload, 1) := by decide +kernel
theorem dL_verdicts_57 : decode cL_verdicts 57 = .ok (.isub, 1) := by decide +kernel
theorem dL_verdicts_58 : decode cL_verdicts 58 = .ok (.if_icmp .lt 7, 3) := by decide +kernel
theorem dL_verdicts_61 : decode cL_verdicts 61 = .ok (.iconst 1, 1) := by decide +kernel
theorem dL_verdicts_62 : decode cL_verdicts 62 = .ok (.goto 4, 3) := by decide +kernel
theorem dL_verdicts_65 : decode cL_verdicts 65 = .ok (.iconst 0, 1) := by decide +kernel
theorem dL_verdicts_66 : decode cL_verdicts 66 = .ok (.iadd, 1) := by decide +kernel
theorem dL_verdicts_67 : decode cL_verdicts 67 = .ok (.istore 5, 2) := by decide +kernel
theorem dL_verdicts_69 : decode cL_verdicts 69 = .ok (.iload 6, 2) := by decide +kernel
theorem dL_verdicts_71 : decode cL_verdicts 71 = .ok (.iload 8, 2) := by decide +kernel
theorem dL_verdicts_73 : decode cL_verdicts 73 = .ok (.ifCond .le 7, 3) := by decide +kernel
theorem dL_verdicts_76 : decode cL_verdicts 76 = .ok (.iconst 1, 1) := by decide +kernel
theorem dL_verdicts_77 : decode cL_verdicts 77 = .ok (.goto 4, 3) := by decide +kernel
theorem dL_verdicts_80 : decode cL_verdicts 80 = .ok (.iconst 0, 1) := by decide +kernel
theorem dL_verdicts_81 : decode cL_verdicts 81 = .ok (.iadd, 1) := by decide +kernel
theorem dL_verdicts_82 : decode cL_verdicts 82 = .ok (.istore 6, 2) := by decide +kernel
theorem dL_verdicts_84 : decode cL_verdicts 84 = .ok (.iload 8, 2) := by decide +kernel
theorem dL_verdicts_86 : decode cL_verdicts 86 = .ok (.ifCond .lt 9, 3) := by decide +kernel
theorem dL_verdicts_89 : decode cL_verdicts 89 = .ok (.iload 8, 2) := by decide +kernel
theorem dL_verdicts_91 : decode cL_verdicts 91 = .ok (.iconst 3, 1) := by decide +kernel
theorem dL_verdicts_92 : decode cL_verdicts 92 = .ok (.if_icmp .le 5, 3) := by decide +kernel
theorem dL_verdicts_95 : decode cL_verdicts 95 = .ok (.iconst 0, 1) := by decide +kernel
theorem dL_verdicts_96 : decode cL_verdicts 96 = .ok (.ireturn, 1) := by decide +kernel
theorem dL_verdicts_97 : decode cL_verdicts 97 = .ok (.iinc 7 1, 3) := by decide +kernel
theorem dL_verdicts_100 : decode cL_verdicts 100 = .ok (.goto (-79), 3) := by decide +kernel
theorem dL_verdicts_103 : decode cL_verdicts 103 = .ok (.aload_n 0, 1) := by decide +kernel
theorem dL_verdicts_104 : decode cL_verdicts 104 = .ok (.iload 4, 2) := by decide +kernel
theorem dL_verdicts_106 : decode cL_verdicts 106 = .ok (.invokestatic 116, 3) := by decide +kernel
theorem dL_verdicts_109 : decode cL_verdicts 109 = .ok (.istore 7, 2) := by decide +kernel
theorem dL_verdicts_111 : decode cL_verdicts 111 = .ok (.aload_n 0, 1) := by decide +kernel
theorem dL_verdicts_112 : decode cL_verdicts 112 = .ok (.iload 4, 2) := by decide +kernel
theorem dL_verdicts_114 : decode cL_verdicts 114 = .ok (.invokestatic 118, 3) := by decide +kernel
theorem dL_verdicts_117 : decode cL_verdicts 117 = .ok (.iload 5, 2) := by decide +kernel
theorem dL_verdicts_119 : decode cL_verdicts 119 = .ok (.aload_n 3, 1) := by decide +kernel
theorem dL_verdicts_120 : decode cL_verdicts 120 = .ok (.iconst 1, 1) := by decide +kernel
theorem dL_verdicts_121 : decode cL_verdicts 121 = .ok (.iaload, 1) := by decide +kernel
theorem dL_verdicts_122 : decode cL_verdicts 122 = .ok (.if_icmp .lt 7, 3) := by decide +kernel
theorem dL_verdicts_125 : decode cL_verdicts 125 = .ok (.iconst 1, 1) := by decide +kernel
theorem dL_verdicts_126 : decode cL_verdicts 126 = .ok (.goto 4, 3) := by decide +kernel
theorem dL_verdicts_129 : decode cL_verdicts 129 = .ok (.iconst 0, 1) := by decide +kernel
theorem dL_verdicts_130 : decode cL_verdicts 130 = .ok (.if_icmp .ne 48, 3) := by decide +kernel
theorem dL_verdicts_133 : decode cL_verdicts 133 = .ok (.iload 7, 2) := by decide +kernel
theorem dL_verdicts_135 : decode cL_verdicts 135 = .ok (.iload 6, 2) := by decide +kernel
theorem dL_verdicts_137 : decode cL_verdicts 137 = .ok (.if_icmp .lt 41, 3) := by decide +kernel
theorem dL_verdicts_140 : decode cL_verdicts 140 = .ok (.iload 6, 2) := by decide +kernel
theorem dL_verdicts_142 : decode cL_verdicts 142 = .ok (.ifCond .ne 8, 3) := by decide +kernel
theorem dL_verdicts_145 : decode cL_verdicts 145 = .ok (.iload 7, 2) := by decide +kernel
theorem dL_verdicts_147 : decode cL_verdicts 147 = .ok (.ifCond .gt 31, 3) := by decide +kernel
theorem dL_verdicts_150 : decode cL_verdicts 150 = .ok (.aload_n 0, 1) := by decide +kernel
theorem dL_verdicts_151 : decode cL_verdicts 151 = .ok (.iload 4, 2) := by decide +kernel
theorem dL_verdicts_153 : decode cL_verdicts 153 = .ok (.invokestatic 120, 3) := by decide +kernel
theorem dL_verdicts_156 : decode cL_verdicts 156 = .ok (.iload 7, 2) := by decide +kernel
theorem dL_verdicts_158 : decode cL_verdicts 158 = .ok (.ifCond .ne 7, 3) := by decide +kernel
theorem dL_verdicts_161 : decode cL_verdicts 161 = .ok (.iconst 0, 1) := by decide +kernel
theorem dL_verdicts_162 : decode cL_verdicts 162 = .ok (.goto 13, 3) := by decide +kernel
theorem dL_verdicts_165 : decode cL_verdicts 165 = .ok (.bipush 100, 2) := by decide +kernel
theorem dL_verdicts_167 : decode cL_verdicts 167 = .ok (.aload_n 2, 1) := by decide +kernel
theorem dL_verdicts_168 : decode cL_verdicts 168 = .ok (.iload 4, 2) := by decide +kernel
theorem dL_verdicts_170 : decode cL_verdicts 170 = .ok (.iaload, 1) := by decide +kernel
theorem dL_verdicts_171 : decode cL_verdicts 171 = .ok (.imul, 1) := by decide +kernel
theorem dL_verdicts_172 : decode cL_verdicts 172 = .ok (.iload 7, 2) := by decide +kernel
theorem dL_verdicts_174 : decode cL_verdicts 174 = .ok (.idiv, 1) := by decide +kernel
theorem dL_verdicts_175 : decode cL_verdicts 175 = .ok (.if_icmp .eq 5, 3) := by decide +kernel
theorem dL_verdicts_178 : decode cL_verdicts 178 = .ok (.iconst 0, 1) := by decide +kernel
theorem dL_verdicts_179 : decode cL_verdicts 179 = .ok (.ireturn, 1) := by decide +kernel
theorem dL_verdicts_180 : decode cL_verdicts 180 = .ok (.iinc 4 1, 3) := by decide +kernel
theorem dL_verdicts_183 : decode cL_verdicts 183 = .ok (.goto (-180), 3) := by decide +kernel
theorem dL_verdicts_186 : decode cL_verdicts 186 = .ok (.iconst 0, 1) := by decide +kernel
theorem dL_verdicts_187 : decode cL_verdicts 187 = .ok (.istore 4, 2) := by decide +kernel
theorem dL_verdicts_189 : decode cL_verdicts 189 = .ok (.iload 4, 2) := by decide +kernel
theorem dL_verdicts_191 : decode cL_verdicts 191 = .ok (.aload_n 0, 1) := by decide +kernel
theorem dL_verdicts_192 : decode cL_verdicts 192 = .ok (.invokevirtual 110, 3) := by decide +kernel
theorem dL_verdicts_195 : decode cL_verdicts 195 = .ok (.if_icmp .ge 118, 3) := by decide +kernel
theorem dL_verdicts_198 : decode cL_verdicts 198 = .ok (.iconst 0, 1) := by decide +kernel
theorem dL_verdicts_199 : decode cL_verdicts 199 = .ok (.istore 5, 2) := by decide +kernel
theorem dL_verdicts_201 : decode cL_verdicts 201 = .ok (.iconst 0, 1) := by decide +kernel
theorem dL_verdicts_202 : decode cL_verdicts 202 = .ok (.istore 6, 2) := by decide +kernel
theorem dL_verdicts_204 : decode cL_verdicts 204 = .ok (.iconst 0, 1) := by decide +kernel
theorem dL_verdicts_205 : decode cL_verdicts 205 = .ok (.istore 7, 2) := by decide +kernel
theorem dL_verdicts_207 : decode cL_verdicts 207 = .ok (.iload 7, 2) := by decide +kernel
theorem dL_verdicts_209 : decode cL_verdicts 209 = .ok (.aload_n 0, 1) := by decide +kernel
theorem dL_verdicts_210 : decode cL_verdicts 210 = .ok (.invokevirtual 107, 3) := by decide +kernel
theorem dL_verdicts_213 : decode cL_verdicts 213 = .ok (.if_icmp .ge 70, 3) := by decide +kernel
theorem dL_verdicts_216 : decode cL_verdicts 216 = .ok (.iload 5, 2) := by decide +kernel
theorem dL_verdicts_218 : decode cL_verdicts 218 = .ok (.aload_n 0, 1) := by decide +kernel
theorem dL_verdicts_219 : decode cL_verdicts 219 = .ok (.iload 7, 2) := by decide +kernel
theorem dL_verdicts_221 : decode cL_verdicts 221 = .ok (.iload 4, 2) := by decide +kernel
theorem dL_verdicts_223 : decode cL_verdicts 223 = .ok (.invokestatic 113, 3) := by decide +kernel
theorem dL_verdicts_226 : decode cL_verdicts 226 = .ok (.iconst 2, 1) := by decide +kernel
theorem dL_verdicts_227 : decode cL_verdicts 227 = .ok (.if_icmp .ne 19, 3) := by decide +kernel
theorem dL_verdicts_230 : decode cL_verdicts 230 = .ok (.aload_n 0, 1) := by decide +kernel
theorem dL_verdicts_231 : decode cL_verdicts 231 = .ok (.iload 7, 2) := by decide +kernel
theorem dL_verdicts_233 : decode cL_verdicts 233 = .ok (.invokestatic 118, 3) := by decide +kernel
theorem dL_verdicts_236 : decode cL_verdicts 236 = .ok (.ifCond .ne 10, 3) := by decide +kernel
theorem dL_verdicts_239 : decode cL_verdicts 239 = .ok (.iconst 1, 1) := by decide +kernel
theorem dL_verdicts_240 : decode cL_verdicts 240 = .ok (.iload 7, 2) := by decide +kernel
theorem dL_verdicts_242 : decode cL_verdicts 242 = .ok (.ishl, 1) := by decide +kernel
theorem dL_verdicts_243 : decode cL_verdicts 243 = .ok (.goto 4, 3) := by decide +kernel
theorem dL_verdicts_246 : decode cL_verdicts 246 = .ok (.iconst 0, 1) := by decide +kernel
theorem dL_verdicts_247 : decode cL_verdicts 247 = .ok (.ior, 1) := by decide +kernel
theorem dL_verdicts_248 : decode cL_verdicts 248 = .ok (.istore 5, 2) := by decide +kernel
theorem dL_verdicts_250 : decode cL_verdicts 250 = .ok (.iload 6, 2) := by decide +kernel
theorem dL_verdicts_252 : decode cL_verdicts 252 = .ok (.aload_n 1, 1) := by decide +kernel
theorem dL_verdicts_253 : decode cL_verdicts 253 = .ok (.iload 4, 2) := by decide +kernel
theorem dL_verdicts_255 : decode cL_verdicts 255 = .ok (.iaload, 1) := by decide +kernel
theorem dL_verdicts_256 : decode cL_verdicts 256 = .ok (.aload_n 0, 1) := by decide +kernel
theorem dL_verdicts_257 : decode cL_verdicts 257 = .ok (.iload 7, 2) := by decide +kernel
theorem dL_verdicts_259 : decode cL_verdicts 259 = .ok (.invokestatic 102, 3) := by decide +kernel
theorem dL_verdicts_262 : decode cL_verdicts 262 = .ok (.iand, 1) := by decide +kernel
theorem dL_verdicts_263 : decode cL_verdicts 263 = .ok (.ifCond .eq 10, 3) := by decide +kernel
theorem dL_verdicts_266 : decode cL_verdicts 266 = .ok (.iconst 1, 1) := by decide +kernel
theorem dL_verdicts_267 : decode cL_verdicts 267 = .ok (.iload 7, 2) := by decide +kernel
theorem dL_verdicts_269 : decode cL_verdicts 269 = .ok (.ishl, 1) := by decide +kernel
theorem dL_verdicts_270 : decode cL_verdicts 270 = .ok (.goto 4, 3) := by decide +kernel
theorem dL_verdicts_273 : decode cL_verdicts 273 = .ok (.iconst 0, 1) := by decide +kernel
theorem dL_verdicts_274 : decode cL_verdicts 274 = .ok (.ior, 1) := by decide +kernel
theorem dL_verdicts_275 : decode cL_verdicts 275 = .ok (.istore 6, 2) := by decide +kernel
theorem dL_verdicts_277 : decode cL_verdicts 277 = .ok (.iinc 7 1, 3) := by decide +kernel
theorem dL_verdicts_280 : decode cL_verdicts 280 = .ok (.goto (-73), 3) := by decide +kernel
theorem dL_verdicts_283 : decode cL_verdicts 283 = .ok (.aload_n 0, 1) := by decide +kernel
theorem dL_verdicts_284 : decode cL_verdicts 284 = .ok (.iload 4, 2) := by decide +kernel
theorem dL_verdicts_286 : decode cL_verdicts 286 = .ok (.invokestatic 122, 3) := by decide +kernel
theorem dL_verdicts_289 : decode cL_verdicts 289 = .ok (.iload 5, 2) := by decide +kernel
theorem dL_verdicts_291 : decode cL_verdicts 291 = .ok (.if_icmp .ne 14, 3) := by decide +kernel
theorem dL_verdicts_294 : decode cL_verdicts 294 = .ok (.aload_n 0, 1) := by decide +kernel
theorem dL_verdicts_295 : decode cL_verdicts 295 = .ok (.iload 4, 2) := by decide +kernel
theorem dL_verdicts_297 : decode cL_verdicts 297 = .ok (.invokestatic 124, 3) := by decide +kernel
theorem dL_verdicts_300 : decode cL_verdicts 300 = .ok (.iload 6, 2) := by decide +kernel
theorem dL_verdicts_302 : decode cL_verdicts 302 = .ok (.if_icmp .eq 5, 3) := by decide +kernel
theorem dL_verdicts_305 : decode cL_verdicts 305 = .ok (.iconst 0, 1) := by decide +kernel
theorem dL_verdicts_306 : decode cL_verdicts 306 = .ok (.ireturn, 1) := by decide +kernel
theorem dL_verdicts_307 : decode cL_verdicts 307 = .ok (.iinc 4 1, 3) := by decide +kernel
theorem dL_verdicts_310 : decode cL_verdicts 310 = .ok (.goto (-121), 3) := by decide +kernel
theorem dL_verdicts_313 : decode cL_verdicts 313 = .ok (.aload_n 0, 1) := by decide +kernel
theorem dL_verdicts_314 : decode cL_verdicts 314 = .ok (.aload_n 0, 1) := by decide +kernel
theorem dL_verdicts_315 : decode cL_verdicts 315 = .ok (.invokevirtual 110, 3) := by decide +kernel
theorem dL_verdicts_318 : decode cL_verdicts 318 = .ok (.invokestatic 124, 3) := by decide +kernel
theorem dL_verdicts_321 : decode cL_verdicts 321 = .ok (.ldc 18, 2) := by decide +kernel
theorem dL_verdicts_323 : decode cL_verdicts 323 = .ok (.if_icmp .ne 44, 3) := by decide +kernel
theorem dL_verdicts_326 : decode cL_verdicts 326 = .ok (.aload_n 0, 1) := by decide +kernel
theorem dL_verdicts_327 : decode cL_verdicts 327 = .ok (.iconst (-1), 1) := by decide +kernel
theorem dL_verdicts_328 : decode cL_verdicts 328 = .ok (.invokestatic 122, 3) := by decide +kernel
theorem dL_verdicts_331 : decode cL_verdicts 331 = .ok (.ldc 18, 2) := by decide +kernel
theorem dL_verdicts_333 : decode cL_verdicts 333 = .ok (.if_icmp .ne 34, 3) := by decide +kernel
theorem dL_verdicts_336 : decode cL_verdicts 336 = .ok (.aload_n 0, 1) := by decide +kernel
theorem dL_verdicts_337 : decode cL_verdicts 337 = .ok (.iconst 0, 1) := by decide +kernel
theorem dL_verdicts_338 : decode cL_verdicts 338 = .ok (.aload_n 0, 1) := by decide +kernel
theorem dL_verdicts_339 : decode cL_verdicts 339 = .ok (.invokevirtual 110, 3) := by decide +kernel
theorem dL_verdicts_342 : decode cL_verdicts 342 = .ok (.invokestatic 113, 3) := by decide +kernel
theorem dL_verdicts_345 : decode cL_verdicts 345 = .ok (.ldc 18, 2) := by decide +kernel
theorem dL_verdicts_347 : decode cL_verdicts 347 = .ok (.if_icmp .ne 20, 3) := by decide +kernel
theorem dL_verdicts_350 : decode cL_verdicts 350 = .ok (.aload_n 0, 1) := by decide +kernel
theorem dL_verdicts_351 : decode cL_verdicts 351 = .ok (.aload_n 0, 1) := by decide +kernel
theorem dL_verdicts_352 : decode cL_verdicts 352 = .ok (.invokevirtual 107, 3) := by decide +kernel
theorem dL_verdicts_355 : decode cL_verdicts 355 = .ok (.invokestatic 118, 3) := by decide +kernel
theorem dL_verdicts_358 : decode cL_verdicts 358 = .ok (.ldc 18, 2) := by decide +kernel
theorem dL_verdicts_360 : decode cL_verdicts 360 = .ok (.if_icmp .ne 7, 3) := by decide +kernel
theorem dL_verdicts_363 : decode cL_verdicts 363 = .ok (.iconst 1, 1) := by decide +kernel
theorem dL_verdicts_364 : decode cL_verdicts 364 = .ok (.goto 4, 3) := by decide +kernel
theorem dL_verdicts_367 : decode cL_verdicts 367 = .ok (.iconst 0, 1) := by decide +kernel
theorem dL_verdicts_368 : decode cL_verdicts 368 = .ok (.ireturn, 1) := by decide +kernel
theorem dL_culprits_0 : decode cL_culprits 0 = .ok (.aload_n 1, 1) := by decide +kernel
theorem dL_culprits_1 : decode cL_culprits 1 = .ok (.iload 4, 2) := by decide +kernel
theorem dL_culprits_3 : decode cL_culprits 3 = .ok (.iaload, 1) := by decide +kernel
theorem dL_culprits_4 : decode cL_culprits 4 = .ok (.ifCond .ge 103, 3) := by decide +kernel
theorem dL_culprits_7 : decode cL_culprits 7 = .ok (.aload_n 0, 1) := by decide +kernel
theorem dL_culprits_8 : decode cL_culprits 8 = .ok (.iload 4, 2) := by decide +kernel
theorem dL_culprits_10 : decode cL_culprits 10 = .ok (.invokestatic 126, 3) := by decide +kernel
theorem dL_culprits_13 : decode cL_culprits 13 = .ok (.ldc2_w 88, 3) := by decide +kernel
theorem dL_culprits_16 : decode cL_culprits 16 = .ok (.lcmp, 1) := by decide +kernel
theorem dL_culprits_17 : decode cL_culprits 17 = .ok (.ifCond .ne 88, 3) := by decide +kernel
theorem dL_culprits_20 : decode cL_culprits 20 = .ok (.aload_n 0, 1) := by decide +kernel
theorem dL_culprits_21 : decode cL_culprits 21 = .ok (.iload 4, 2) := by decide +kernel
theorem dL_culprits_23 : decode cL_culprits 23 = .ok (.invokestatic 129, 3) := by decide +kernel
theorem dL_culprits_26 : decode cL_culprits 26 = .ok (.ldc2_w 88, 3) := by decide +kernel
theorem dL_culprits_29 : decode cL_culprits 29 = .ok (.lcmp, 1) := by decide +kernel
theorem dL_culprits_30 : decode cL_culprits 30 = .ok (.ifCond .ne 75, 3) := by decide +kernel
theorem dL_culprits_33 : decode cL_culprits 33 = .ok (.aload_n 0, 1) := by decide +kernel
theorem dL_culprits_34 : decode cL_culprits 34 = .ok (.iload 4, 2) := by decide +kernel
theorem dL_culprits_36 : decode cL_culprits 36 = .ok (.iconst 0, 1) := by decide +kernel
theorem dL_culprits_37 : decode cL_culprits 37 = .ok (.invokestatic 131, 3) := by decide +kernel
theorem dL_culprits_40 : decode cL_culprits 40 = .ok (.aload_n 0, 1) := by decide +kernel
theorem dL_culprits_41 : decode cL_culprits 41 = .ok (.invokevirtual 110, 3) := by decide +kernel
theorem dL_culprits_44 : decode cL_culprits 44 = .ok (.ifCond .ne 8, 3) := by decide +kernel
theorem dL_culprits_47 : decode cL_culprits 47 = .ok (.ldc 18, 2) := by decide +kernel
theorem dL_culprits_49 : decode cL_culprits 49 = .ok (.goto 5, 3) := by decide +kernel
theorem dL_culprits_52 : decode cL_culprits 52 = .ok (.ldc 28, 2) := by decide +kernel
theorem dL_culprits_54 : decode cL_culprits 54 = .ok (.if_icmp .ne 51, 3) := by decide +kernel
theorem dL_culprits_57 : decode cL_culprits 57 = .ok (.aload_n 0, 1) := by decide +kernel
theorem dL_culprits_58 : decode cL_culprits 58 = .ok (.iload 4, 2) := by decide +kernel
theorem dL_culprits_60 : decode cL_culprits 60 = .ok (.invokestatic 133, 3) := by decide +kernel
theorem dL_culprits_63 : decode cL_culprits 63 = .ok (.ldc 28, 2) := by decide +kernel
theorem dL_culprits_65 : decode cL_culprits 65 = .ok (.if_icmp .ne 40, 3) := by decide +kernel
theorem dL_culprits_68 : decode cL_culprits 68 = .ok (.aload_n 0, 1) := by decide +kernel
theorem dL_culprits_69 : decode cL_culprits 69 = .ok (.iload 4, 2) := by decide +kernel
theorem dL_culprits_71 : decode cL_culprits 71 = .ok (.invokestatic 135, 3) := by decide +kernel
theorem dL_culprits_74 : decode cL_culprits 74 = .ok (.ldc 28, 2) := by decide +kernel
theorem dL_culprits_76 : decode cL_culprits 76 = .ok (.if_icmp .ne 29, 3) := by decide +kernel
theorem dL_culprits_79 : decode cL_culprits 79 = .ok (.aload_n 0, 1) := by decide +kernel
theorem dL_culprits_80 : decode cL_culprits 80 = .ok (.iload 4, 2) := by decide +kernel
theorem dL_culprits_82 : decode cL_culprits 82 = .ok (.invokestatic 137, 3) := by decide +kernel
theorem dL_culprits_85 : decode cL_culprits 85 = .ok (.ldc 28, 2) := by decide +kernel
theorem dL_culprits_87 : decode cL_culprits 87 = .ok (.if_icmp .ne 18, 3) := by decide +kernel
theorem dL_culprits_90 : decode cL_culprits 90 = .ok (.aload_n 0, 1) := by decide +kernel
theorem dL_culprits_91 : decode cL_culprits 91 = .ok (.iload 4, 2) := by decide +kernel
theorem dL_culprits_93 : decode cL_culprits 93 = .ok (.invokestatic 139, 3) := by decide +kernel
theorem dL_culprits_96 : decode cL_culprits 96 = .ok (.ldc 28, 2) := by decide +kernel
theorem dL_culprits_98 : decode cL_culprits 98 = .ok (.if_icmp .ne 7, 3) := by decide +kernel
theorem dL_culprits_101 : decode cL_culprits 101 = .ok (.iconst 1, 1) := by decide +kernel
theorem dL_culprits_102 : decode cL_culprits 102 = .ok (.goto 4, 3) := by decide +kernel
theorem dL_culprits_105 : decode cL_culprits 105 = .ok (.iconst 0, 1) := by decide +kernel
theorem dL_culprits_106 : decode cL_culprits 106 = .ok (.ireturn, 1) := by decide +kernel
theorem dL_culprits_107 : decode cL_culprits 107 = .ok (.lconst 0, 1) := by decide +kernel
theorem dL_culprits_108 : decode cL_culprits 108 = .ok (.lstore 5, 2) := by decide +kernel
theorem dL_culprits_110 : decode cL_culprits 110 = .ok (.lconst 0, 1) := by decide +kernel
theorem dL_culprits_111 : decode cL_culprits 111 = .ok (.lstore 7, 2) := by decide +kernel
theorem dL_culprits_113 : decode cL_culprits 113 = .ok (.iconst (-1), 1) := by decide +kernel
theorem dL_culprits_114 : decode cL_culprits 114 = .ok (.istore 9, 2) := by decide +kernel
theorem dL_culprits_116 : decode cL_culprits 116 = .ok (.iconst 0, 1) := by decide +kernel
theorem dL_culprits_117 : decode cL_culprits 117 = .ok (.istore 10, 2) := by decide +kernel
theorem dL_culprits_119 : decode cL_culprits 119 = .ok (.iload 10, 2) := by decide +kernel
theorem dL_culprits_121 : decode cL_culprits 121 = .ok (.aload_n 0, 1) := by decide +kernel
theorem dL_culprits_122 : decode cL_culprits 122 = .ok (.invokevirtual 110, 3) := by decide +kernel
theorem dL_culprits_125 : decode cL_culprits 125 = .ok (.if_icmp .ge 167, 3) := by decide +kernel
theorem dL_culprits_128 : decode cL_culprits 128 = .ok (.iload 10, 2) := by decide +kernel
theorem dL_culprits_130 : decode cL_culprits 130 = .ok (.aload_n 1, 1) := by decide +kernel
theorem dL_culprits_131 : decode cL_culprits 131 = .ok (.iload 4, 2) := by decide +kernel
theorem dL_culprits_133 : decode cL_culprits 133 = .ok (.iaload, 1) := by decide +kernel
theorem dL_culprits_134 : decode cL_culprits 134 = .ok (.if_icmp .le 31, 3) := by decide +kernel
theorem dL_culprits_137 : decode cL_culprits 137 = .ok (.iload 10, 2) := by decide +kernel
theorem dL_culprits_139 : decode cL_culprits 139 = .ok (.aload_n 2, 1) := by decide +kernel
theorem dL_culprits_140 : decode cL_culprits 140 = .ok (.iload 4, 2) := by decide +kernel
theorem dL_culprits_142 : decode cL_culprits 142 = .ok (.iaload, 1) := by decide +kernel
theorem dL_culprits_143 : decode cL_culprits 143 = .ok (.if_icmp .gt 22, 3) := by decide +kernel
theorem dL_culprits_146 : decode cL_culprits 146 = .ok (.aload_n 0, 1) := by decide +kernel
