/-! ===== the law, from its entry ===== -/
abbrev gv9 : Cond := Jvm.Cond.and given_1 narrow_1
theorem st_dec : ∀ y ∈ zdec, Cond.declares y ∈ lw_tbl := by decide +kernel
theorem st_cas : ∀ X ∈ [xI, xG, xS], Cond.castable X X ∈ lw_tbl := by decide +kernel
theorem st_str : ∀ x ∈ zstr, Cond.stringRef RX1 x.1 x.2 ∈ lw_tbl := by decide +kernel
theorem st_exa : ∀ x ∈ zstr, Cond.exactly (.string RX1 x.1) "java/lang/String" ∈ flatC gv9 := by decide +kernel
theorem st_not : ∀ X ∈ [xI, xG, xS], ∀ Y ∈ [xI, xG, xS], X ≠ Y → Cond.not (.castable X Y) ∈ flatC gv9 := by decide +kernel
theorem st_tx {s : State} {b : Nat} (hts : ∀ w ∈ lw_tbl, w.before #[Value.ref b] s = true) (hgv : gv9.before #[Value.ref b] s = true) : z_Tx (fun q : Nat => s.heap.size ≤ q) s s.heap := by
  have hs := flat_of_before _ hgv
  have hA : ∀ a : Nat, a < s.heap.size → ¬ (fun q : Nat => s.heap.size ≤ q) a := fun a h => Nat.not_le.mpr h
  refine ⟨vx_Zqof (hts (.laysStatic Bundle.tN "UNASSIGNED_STACK" Bundle.steD) (by decide +kernel)) (hts (.initialized Bundle.tN) (by decide +kernel)) (hs (.isRef (.static Bundle.tN "UNASSIGNED_STACK" Bundle.steD)) (by decide +kernel)) hA, vx_Zqof (hts (.laysStatic Bundle.tN "SUPPRESSED_SENTINEL" Bundle.listD) (by decide +kernel)) (hts (.initialized Bundle.tN) (by decide +kernel)) (hs (.isRef (.static Bundle.tN "SUPPRESSED_SENTINEL" Bundle.listD)) (by decide +kernel)) hA, fun y hy => va_tabs rfl rfl (hts _ (st_dec y hy)), fun X hX => va_tabs rfl rfl (hts _ (st_cas X hX)), fun x hx => ?_, fun X hX Y hY hne => va_Nc.of (hs _ (st_not X hX Y hY hne))⟩
  obtain ⟨q, -, -, -, hq, -⟩ := Cond.exactly_spec (hs _ (st_exa x hx))
  exact ⟨q, vk_R.of (hts _ (st_str x hx)) hq⟩
theorem st_arr {s : State} {args : Array Value} {ty : FieldType} (h : (Cond.arrayClass ty).before args s = true) : ∃ c : ClassId, s.vm.findClass ("[" ++ ty.toString) = some c ∧ ArrOfT s c ty := by
  obtain ⟨c, k, comp, h1, h2, h3⟩ := Cond.arrayClass_spec h
  exact ⟨c, h1, fun n z => ⟨fun k h => (by cases h), k, h2, comp, h3⟩⟩
theorem st_ovr {s : State} (h : va_AOA .int s) : ∃ c : ClassId, s.vm.findClass ("[" ++ (FieldType.array .int).toString) = some c ∧ ArrOfT s c (.array .int) := by
  obtain ⟨comp, c, k, h1, h2, h3, h4⟩ := Cond.arrayOver_specA h
  exact ⟨c, h4, fun n z => ⟨fun k h => (by cases h), k, h2, comp, h3⟩⟩
def bq (q0 q1 q2 q3 q4 q5 q6 q7 : Nat) : Nat → Nat := fun k => if k = 0 then q0 else if k = 1 then q1 else if k = 2 then q2 else if k = 3 then q3 else if k = 4 then q4 else if k = 5 then q5 else if k = 6 then q6 else q7
abbrev wR (cI : ClassId) (q0 q1 q2 q3 q4 q5 q6 q7 : Nat) : va_W := [(q0, .inl (cI, 16, .inl (fun _ => 0))), (q1, .inl (cI, 40, .inl (fun _ => 0))), (q2, .inl (cI, 12, .inl (fun _ => 0))), (q3, .inl (cI, 12, .inl (fun _ => 0))), (q4, .inl (cI, 12, .inl (fun _ => 0))), (q5, .inl (cI, 12, .inl (fun _ => 0))), (q6, .inl (cI, 12, .inl (fun _ => 0))), (q7, .inl (cI, 5, .inl (fun _ => 0)))]
theorem w_ini {cI : ClassId} {q0 q1 q2 q3 q4 q5 q6 q7 : Nat} {w2 : va_W} : wR cI q0 q1 q2 q3 q4 q5 q6 q7 ++ w2 = wA cI (bq q0 q1 q2 q3 q4 q5 q6 q7) (z_U S0) (z_C S0) (z_D S0) (g9 S0) (z_B S0) (f9 S0) (fun _ => 0) (n9 0 0 0 0 0) ++ w2 := by
  have e0 : nI 0 = 0 := rfl
  have e1 : (fun j => nI (n9 0 0 0 0 0 j)) = fun _ => 0 := by
    funext j
    have : n9 0 0 0 0 0 j = 0 := by
      unfold n9
      split
      · rfl
      · split
        · rfl
        · split
          · rfl
          · split
            · rfl
            · split <;> rfl
    show nI (n9 0 0 0 0 0 j) = 0
    rw [this]
    rfl
  have e2 : g9 S0 = fun _ => 0 := by
    funext j
    exact if_neg (Nat.not_lt_zero _)
  have e3 : (fun j => nI (f9 S0 j)) = fun _ => 0 := by
    funext j
    have : f9 S0 j = 0 := sm_z 40 (fun _ _ => rfl)
    show nI (f9 S0 j) = 0
    rw [this]
    rfl
  unfold wA
  rw [e1, e2, e3]
  rfl
set_option maxHeartbeats 8000000 in
set_option maxRecDepth 100000 in
theorem whole_start {p : Program} {e : Env} {s : State} {m : MethodId} {below : List Frame} {meth : Method} {c : Code} (l : Launch) (hflags : l.flags = flags0) {b L : Nat} {xs : Nat → Int32} (hL : L ≤ 260) (C0 : lw_At p s m meth c b L xs) : W p l e room_1 s m #[Value.ref b] below meth c s.heap [] 0 0 (lw_Z below #[Value.ref b] s) (entryFrame m ([Value.ref b] : List Value).toArray 15) := by
  obtain ⟨hx, hb, hr, hml, hown, hts, hX, hbl, hlocks, hgv⟩ := C0
  have hA : ∀ q : Nat, s.heap.size ≤ q → (fun q : Nat => s.heap.size ≤ q) q := fun _ h => h
  have hbA : ¬ (fun q : Nat => s.heap.size ≤ q) b := Nat.not_le.mpr hbl
  have hTx := st_tx hts hgv
  have hl : l.stackTraces = false := by
    unfold Launch.stackTraces
    rw [hflags]
    decide
  have htl : ∀ w ∈ wsL_law, w.before #[Value.ref b] s = true := fun w h => hts w (wsL_law_in w h)
  have hZ : zini s := ⟨va_AOA.of (hts _ (by decide +kernel)), va_tabs rfl rfl (hts (.methodLinkNest RX1 21 yX0_init "FlakeTriage") (by decide +kernel))⟩
  obtain ⟨c0, iS0, hKn0⟩ := u_known (C := RX0) (T := TX0) (N := 5) (n := 5) hts inX0 (hts (.instantiable RX0 5) (by decide +kernel))
  obtain ⟨c1, iS1, hKn1⟩ := u_known (C := RX1) (T := TX1) (N := 15) (n := 15) hts inX1 (hts (.instantiable RX1 15) (by decide +kernel))
  obtain ⟨D, hKc⟩ : ∃ D : va_G, ∀ (k : Nat) (q : vw_C), vwCl[k]? = some q → u_Kn s q.1 q.2.1 q.2.2 (D.1 k) (D.2 k) := by
    refine ⟨(fun k => if k = 0 then c0 else c1, fun k => if k = 0 then iS0 else iS1), ?_⟩
    intro k q hq
    match k, hq with
    | 0, hq => cases hq; exact hKn0
    | 1, hq => cases hq; exact hKn1
    | k + 2, hq => simp [vwCl] at hq
  obtain ⟨cI, hcI, hoI⟩ := st_arr (hts (.arrayClass .int) (by decide +kernel))
  obtain ⟨cZ, hcZ, hoZ⟩ := st_arr (hts (.arrayClass .boolean) (by decide +kernel))
  obtain ⟨cQ, hcQ, hoQ⟩ := st_ovr hZ.1
  have hK : va_K D vwCl (wTy cI cZ cQ cI) s := by
    refine ⟨hKc, fun k q hq => ?_⟩
    match k, hq with
    | 0, hq => cases hq; exact ⟨hoI, hcI⟩
    | 1, hq => cases hq; exact ⟨hoZ, hcZ⟩
    | 2, hq => cases hq; exact ⟨hoQ, hcQ⟩
    | k + 3, hq => simp at hq
  have E : LE9 p s m b meth c D cI cZ cQ cI := ⟨hx, hb, hml, htl, hown, hK, hlocks, fun _ _ _ q => q.1⟩
  have hD0 : va_D (fun q : Nat => s.heap.size ≤ q) [] := ⟨fun i j p q h => by simp at h, fun k q h => by simp at h⟩
  have hl9 := lv_entry ([.ref b]) (n := 15) (Nat.le_of_ble_eq_true rfl)
  rw [lg_entry_eq]
  refine (?_ : LV p l e s m b below meth c D 0 0 0 [(0, .ref b)] [] []) s.heap [] _ ⟨v_nil _, hD0, va_S.rf⟩ hl9
  have hinX1 : ∀ w ∈ u_ws RX1 TX1 15, w ∈ wsL_law := by decide +kernel
  refine v_new (C := RX1) (T := TX1) (N := 15) (ci := 1) (fs := [.null, .null, .null, .null, .null, .null, .null, .null, .int 0, .int 0, .int 0, .int 0, .int 0, .int 0, .int 0]) E hA dL_law_0 hinX1 tyX1 tyX1_ok (by decide +kernel) (by decide +kernel) (by decide +kernel) rfl (fun j hj => by rcases (show j = 0 ∨ j = 1 ∨ j = 2 ∨ j = 3 ∨ j = 4 ∨ j = 5 ∨ j = 6 ∨ j = 7 ∨ j = 8 ∨ j = 9 ∨ j = 10 ∨ j = 11 ∨ j = 12 ∨ j = 13 ∨ j = 14 by omega) with rfl | rfl | rfl | rfl | rfl | rfl | rfl | rfl | rfl | rfl | rfl | rfl | rfl | rfl | rfl <;> rfl) (by show _ ≤ 718090; omega) (by show _ ≤ 6947199; omega) (fun r => ?_)
  refine v_dup E dL_law_3 rfl ?_
  refine v_w (w' := [(r, .inr (1, [.null, .null, .null, .null, .null, .null, .null, .null, .int 0, .int 0, .int 0, .int 0, .int 0, .int 0, .int 0]))] ++ []) rfl ?_
  refine x_cI E hA hZ dL_law_4 (x_X1_init l D cI cZ cQ cI r) (cwI 0 htl gL_law_X1_init rfl rfl rfl (htl (.initialized RX1) (by decide +kernel)) (htl (.methodLink RL 186 yX1_init) (by decide +kernel)) (htl (.instanceMethod yX1_init) (by decide +kernel)) rfl (by decide +kernel) ⟨Nat.le_of_ble_eq_true rfl, Nat.le_of_ble_eq_true rfl⟩) ⟨(by show _ ≤ 718090; omega), (by show _ ≤ 6947199; omega)⟩ (Nat.le_of_ble_eq_true rfl) (fun a ha => ?_)
  refine v_w (w' := wX cI cZ cQ a S0) (List.append_nil _) ?_
  refine v_astore_n E dL_law_7 rfl (by decide) rfl ?_
  refine v_bipush E dL_law_8 (v := nI 16) rfl ?_
  refine v_newa E hA dL_law_10 0 rfl (by decide +kernel) rfl (a0 := (16, .inl (fun _ => 0))) (fun _ => rfl) (by decide) (by decide) (by show _ ≤ 718090; omega) (by show _ ≤ 6947199; omega) (fun q0 => ?_)
  refine v_astore_n E dL_law_12 rfl (by decide) rfl ?_
  refine v_bipush E dL_law_13 (v := nI 40) rfl ?_
  refine v_newa E hA dL_law_15 0 rfl (by decide +kernel) rfl (a0 := (40, .inl (fun _ => 0))) (fun _ => rfl) (by decide) (by decide) (by show _ ≤ 718090; omega) (by show _ ≤ 6947199; omega) (fun q1 => ?_)
  refine v_astore_n E dL_law_17 rfl (by decide) rfl ?_
  refine v_bipush E dL_law_18 (v := nI 12) rfl ?_
  refine v_newa E hA dL_law_20 0 rfl (by decide +kernel) rfl (a0 := (12, .inl (fun _ => 0))) (fun _ => rfl) (by decide) (by decide) (by show _ ≤ 718090; omega) (by show _ ≤ 6947199; omega) (fun q2 => ?_)
  refine v_astore E dL_law_22 (by decide) rfl ?_
  refine v_bipush E dL_law_24 (v := nI 12) rfl ?_
  refine v_newa E hA dL_law_26 0 rfl (by decide +kernel) rfl (a0 := (12, .inl (fun _ => 0))) (fun _ => rfl) (by decide) (by decide) (by show _ ≤ 718090; omega) (by show _ ≤ 6947199; omega) (fun q3 => ?_)
  refine v_astore E dL_law_28 (by decide) rfl ?_
  refine v_bipush E dL_law_30 (v := nI 12) rfl ?_
  refine v_newa E hA dL_law_32 0 rfl (by decide +kernel) rfl (a0 := (12, .inl (fun _ => 0))) (fun _ => rfl) (by decide) (by decide) (by show _ ≤ 718090; omega) (by show _ ≤ 6947199; omega) (fun q4 => ?_)
  refine v_astore E dL_law_34 (by decide) rfl ?_
  refine v_bipush E dL_law_36 (v := nI 12) rfl ?_
  refine v_newa E hA dL_law_38 0 rfl (by decide +kernel) rfl (a0 := (12, .inl (fun _ => 0))) (fun _ => rfl) (by decide) (by decide) (by show _ ≤ 718090; omega) (by show _ ≤ 6947199; omega) (fun q5 => ?_)
  refine v_astore E dL_law_40 (by decide) rfl ?_
  refine v_bipush E dL_law_42 (v := nI 12) rfl ?_
  refine v_newa E hA dL_law_44 0 rfl (by decide +kernel) rfl (a0 := (12, .inl (fun _ => 0))) (fun _ => rfl) (by decide) (by decide) (by show _ ≤ 718090; omega) (by show _ ≤ 6947199; omega) (fun q6 => ?_)
  refine v_astore E dL_law_46 (by decide) rfl ?_
  refine v_iconst E dL_law_48 (v := nI 5) rfl ?_
  refine v_newa E hA dL_law_49 0 rfl (by decide +kernel) rfl (a0 := (5, .inl (fun _ => 0))) (fun _ => rfl) (by decide) (by decide) (by show _ ≤ 718090; omega) (by show _ ≤ 6947199; omega) (fun q7 => ?_)
  refine v_astore E dL_law_51 (by decide) rfl ?_
  refine v_perm (w' := wR cI q0 q1 q2 q3 q4 q5 q6 q7 ++ wX cI cZ cQ a S0) (by rw [List.append_assoc, List.append_assoc, List.append_assoc, List.append_assoc, List.append_assoc, List.append_assoc, List.append_assoc]; exact List.perm_append_comm) ?_
  refine v_w (w' := wA cI (bq q0 q1 q2 q3 q4 q5 q6 q7) (z_U S0) (z_C S0) (z_D S0) (g9 S0) (z_B S0) (f9 S0) (fun _ => 0) (n9 0 0 0 0 0) ++ wX cI cZ cQ a S0) w_ini ?_
  subst ha
  refine v_more (c2 := 80) (s2 := 6200) (by omega) (by omega) ?_
  refine v_lv [9, 8, 7, 6, 5, 4, 3, 2, 1, 0] rfl ?_
  exact law_53 E hr hA hTx hl hX hbl hbA hL
