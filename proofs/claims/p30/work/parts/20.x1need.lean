/-! ===== the class: what arguments must be ===== -/
set_option maxHeartbeats 4000000 in
set_option maxRecDepth 100000 in
theorem x_X1_needParts (l : Launch) (D : va_G) (cI cZ cQ cJ : ClassId) (w0 : va_W) (hl : l.stackTraces = false) (u0 : Int32) : v_Thr l yX1_needParts wsX1_needParts { frames := 6, cells := 1, slots := 6, locals := 90 } D (wTy cI cZ cQ cJ) [.int (u0)] w0 (kk1 (zin u0 65536)) exG none w0 1 6 := by
  refine v_thrower (cc := cX1_needParts) (maxL := 1) (ret := none) (own := RX1) (lv0 := [(0, .int (u0))]) (by decide) rfl rfl (Nat.le_of_ble_eq_true rfl) rfl ?_
  intro p9 e9 s9 m9 as9 bl9 me9 cd9 A E hA htab hTx hr
  refine v_iload_n E dX1_needParts_0 0 rfl rfl ?_
  refine v_if_lt E dX1_needParts_1 (tgt := 10) (by decide) (fun c1 => ?_) (fun c1 => ?_)
  · have hk9 : kk1 (zin u0 65536) = 1 := kk1_f (zin_lo c1)
    exact x_throwG E htab hTx hl (is := 173) (text := "parts are not 0 to 65535") (by decide +kernel) dX1_needParts_10 dX1_needParts_13 dX1_needParts_14 dX1_needParts_16 dX1_needParts_19 (by decide +kernel) (by decide +kernel) (fun w h => List.mem_cons_of_mem _ (List.mem_append_right _ h)) (by rw [hk9]; decide) (by rw [hk9]; rfl) (Nat.le_of_ble_eq_true rfl) (Nat.le_of_ble_eq_true rfl) (Nat.le_of_ble_eq_true rfl) (Nat.le_of_ble_eq_true rfl) (by decide) (by decide)
  · refine v_iload_n E dX1_needParts_4 0 rfl rfl ?_
    refine v_ldc E dX1_needParts_5 (v := 65535) (x := nI 65535) (by decide +kernel) rfl ?_
    refine v_icmp_le E dX1_needParts_7 (tgt := 20) (by decide) (fun c7 => ?_) (fun c7 => ?_)
    · exact x_retv E hr (by obtain ⟨j, hj, rfl⟩ := zin_le (n := 65535) (by decide) c1 c7; exact kk1_t (zin_n hj (by decide))) rfl (by decide) (by decide) dX1_needParts_20
    · have hk9 : kk1 (zin u0 65536) = 1 := kk1_f (zin_gt (n := 65535) (by decide) c7)
      exact x_throwG E htab hTx hl (is := 173) (text := "parts are not 0 to 65535") (by decide +kernel) dX1_needParts_10 dX1_needParts_13 dX1_needParts_14 dX1_needParts_16 dX1_needParts_19 (by decide +kernel) (by decide +kernel) (fun w h => List.mem_cons_of_mem _ (List.mem_append_right _ h)) (by rw [hk9]; decide) (by rw [hk9]; rfl) (Nat.le_of_ble_eq_true rfl) (Nat.le_of_ble_eq_true rfl) (Nat.le_of_ble_eq_true rfl) (Nat.le_of_ble_eq_true rfl) (by decide) (by decide)

set_option maxHeartbeats 4000000 in
set_option maxRecDepth 100000 in
theorem x_X1_needTest (l : Launch) (D : va_G) (cI cZ cQ cJ : ClassId) (a : Nat → Nat) (S : zS) (hok : zOK S) (hl : l.stackTraces = false) (u0 : Int32) : v_Thr l yX1_needTest wsX1_needTest { frames := 6, cells := 1, slots := 6, locals := 90 } D (wTy cI cZ cQ cJ) [.ref (a 0), .int (u0)] (wX cI cZ cQ a S) (kk1 (zin u0 (z_nt S))) exI none (wX cI cZ cQ a S) 1 6 := by
  refine v_thrower (cc := cX1_needTest) (maxL := 2) (ret := none) (own := RX1) (lv0 := [(0, .ref (a 0)), (1, .int (u0))]) (by decide) rfl rfl (Nat.le_of_ble_eq_true rfl) rfl ?_
  intro p9 e9 s9 m9 as9 bl9 me9 cd9 A E hA htab hTx hr
  have hinX1 : ∀ w ∈ u_ws RX1 TX1 15, w ∈ wsX1_needTest := by decide +kernel
  obtain ⟨⟨k1, k2, k3, k4, k5, k6, k7, k8⟩, k9, k10, k11, k12, k13⟩ := id hok
  refine v_iload_n E dX1_needTest_0 1 rfl rfl ?_
  refine v_if_lt E dX1_needTest_1 (tgt := 12) (by decide) (fun c1 => ?_) (fun c1 => ?_)
  · have hk9 : kk1 (zin u0 (z_nt S)) = 1 := kk1_f (zin_lo c1)
    exact x_throwI E htab hTx hl (is := 175) (text := "no such test") (by decide +kernel) dX1_needTest_12 dX1_needTest_15 dX1_needTest_16 dX1_needTest_18 dX1_needTest_21 (by decide +kernel) (by decide +kernel) (fun w h => List.mem_cons_of_mem _ (List.mem_append_right _ h)) (by rw [hk9]; decide) (by rw [hk9]; rfl) (Nat.le_of_ble_eq_true rfl) (Nat.le_of_ble_eq_true rfl) (Nat.le_of_ble_eq_true rfl) (Nat.le_of_ble_eq_true rfl) (by decide) (by decide)
  · refine v_iload_n E dX1_needTest_4 1 rfl rfl ?_
    refine v_aload_n E dX1_needTest_5 0 rfl rfl ?_
    refine v_get E dX1_needTest_6 0 10 hinX1 rfl rfl (by decide) (by decide +kernel) rfl rfl ?_
    refine v_icmp_lt E dX1_needTest_9 (tgt := 22) (by decide) (fun c9 => ?_) (fun c9 => ?_)
    · exact x_retv E hr (by obtain ⟨j, hj, rfl⟩ := zin_ok (by omega) c1 c9; exact kk1_t (zin_n hj (by omega))) rfl (by decide) (by decide) dX1_needTest_22
    · have hk9 : kk1 (zin u0 (z_nt S)) = 1 := kk1_f (zin_ge (by omega) c9)
      exact x_throwI E htab hTx hl (is := 175) (text := "no such test") (by decide +kernel) dX1_needTest_12 dX1_needTest_15 dX1_needTest_16 dX1_needTest_18 dX1_needTest_21 (by decide +kernel) (by decide +kernel) (fun w h => List.mem_cons_of_mem _ (List.mem_append_right _ h)) (by rw [hk9]; decide) (by rw [hk9]; rfl) (Nat.le_of_ble_eq_true rfl) (Nat.le_of_ble_eq_true rfl) (Nat.le_of_ble_eq_true rfl) (Nat.le_of_ble_eq_true rfl) (by decide) (by decide)

set_option maxHeartbeats 4000000 in
set_option maxRecDepth 100000 in
theorem x_X1_needCommit (l : Launch) (D : va_G) (cI cZ cQ cJ : ClassId) (a : Nat → Nat) (S : zS) (hok : zOK S) (hl : l.stackTraces = false) (u0 : Int32) : v_Thr l yX1_needCommit wsX1_needCommit { frames := 6, cells := 1, slots := 6, locals := 90 } D (wTy cI cZ cQ cJ) [.ref (a 0), .int (u0)] (wX cI cZ cQ a S) (kk1 (zin u0 (z_nc S))) exI none (wX cI cZ cQ a S) 1 6 := by
  refine v_thrower (cc := cX1_needCommit) (maxL := 2) (ret := none) (own := RX1) (lv0 := [(0, .ref (a 0)), (1, .int (u0))]) (by decide) rfl rfl (Nat.le_of_ble_eq_true rfl) rfl ?_
  intro p9 e9 s9 m9 as9 bl9 me9 cd9 A E hA htab hTx hr
  have hinX1 : ∀ w ∈ u_ws RX1 TX1 15, w ∈ wsX1_needCommit := by decide +kernel
  obtain ⟨⟨k1, k2, k3, k4, k5, k6, k7, k8⟩, k9, k10, k11, k12, k13⟩ := id hok
  refine v_iload_n E dX1_needCommit_0 1 rfl rfl ?_
  refine v_if_lt E dX1_needCommit_1 (tgt := 12) (by decide) (fun c1 => ?_) (fun c1 => ?_)
  · have hk9 : kk1 (zin u0 (z_nc S)) = 1 := kk1_f (zin_lo c1)
    exact x_throwI E htab hTx hl (is := 177) (text := "no such commit") (by decide +kernel) dX1_needCommit_12 dX1_needCommit_15 dX1_needCommit_16 dX1_needCommit_18 dX1_needCommit_21 (by decide +kernel) (by decide +kernel) (fun w h => List.mem_cons_of_mem _ (List.mem_append_right _ h)) (by rw [hk9]; decide) (by rw [hk9]; rfl) (Nat.le_of_ble_eq_true rfl) (Nat.le_of_ble_eq_true rfl) (Nat.le_of_ble_eq_true rfl) (Nat.le_of_ble_eq_true rfl) (by decide) (by decide)
  · refine v_iload_n E dX1_needCommit_4 1 rfl rfl ?_
    refine v_aload_n E dX1_needCommit_5 0 rfl rfl ?_
    refine v_get E dX1_needCommit_6 0 9 hinX1 rfl rfl (by decide) (by decide +kernel) rfl rfl ?_
    refine v_icmp_lt E dX1_needCommit_9 (tgt := 22) (by decide) (fun c9 => ?_) (fun c9 => ?_)
    · exact x_retv E hr (by obtain ⟨j, hj, rfl⟩ := zin_ok (by omega) c1 c9; exact kk1_t (zin_n hj (by omega))) rfl (by decide) (by decide) dX1_needCommit_22
    · have hk9 : kk1 (zin u0 (z_nc S)) = 1 := kk1_f (zin_ge (by omega) c9)
      exact x_throwI E htab hTx hl (is := 177) (text := "no such commit") (by decide +kernel) dX1_needCommit_12 dX1_needCommit_15 dX1_needCommit_16 dX1_needCommit_18 dX1_needCommit_21 (by decide +kernel) (by decide +kernel) (fun w h => List.mem_cons_of_mem _ (List.mem_append_right _ h)) (by rw [hk9]; decide) (by rw [hk9]; rfl) (Nat.le_of_ble_eq_true rfl) (Nat.le_of_ble_eq_true rfl) (Nat.le_of_ble_eq_true rfl) (Nat.le_of_ble_eq_true rfl) (by decide) (by decide)

set_option maxHeartbeats 4000000 in
set_option maxRecDepth 100000 in
theorem x_X1_needTriage (l : Launch) (D : va_G) (cI cZ cQ cJ : ClassId) (a : Nat → Nat) (S : zS) (hok : zOK S) (hl : l.stackTraces = false) (t : Nat) (ht : t < 12) : v_Thr l yX1_needTriage wsX1_needTriage { frames := 6, cells := 1, slots := 6, locals := 90 } D (wTy cI cZ cQ cJ) [.ref (a 0), .int (nI (t))] (wX cI cZ cQ a S) (kk1 (z_T S t)) exS none (wX cI cZ cQ a S) 1 6 := by
  refine v_thrower (cc := cX1_needTriage) (maxL := 2) (ret := none) (own := RX1) (lv0 := [(0, .ref (a 0)), (1, .int (nI (t)))]) (by decide) rfl rfl (Nat.le_of_ble_eq_true rfl) rfl ?_
  intro p9 e9 s9 m9 as9 bl9 me9 cd9 A E hA htab hTx hr
  have hinX1 : ∀ w ∈ u_ws RX1 TX1 15, w ∈ wsX1_needTriage := by decide +kernel
  obtain ⟨⟨k1, k2, k3, k4, k5, k6, k7, k8⟩, k9, k10, k11, k12, k13⟩ := id hok
  refine v_aload_n E dX1_needTriage_0 0 rfl rfl ?_
  refine v_get E dX1_needTriage_1 0 4 hinX1 rfl rfl (by decide) (by decide +kernel) rfl rfl ?_
  refine v_iload_n E dX1_needTriage_4 1 rfl rfl ?_
  refine v_zald E dX1_needTriage_5 5 1 rfl rfl (by omega) (by decide) rfl ?_
  refine b_if_ne E dX1_needTriage_6 (tgt := 19) (by decide) (fun c6 => ?_) (fun c6 => ?_)
  · exact x_retv E hr (kk1_t c6) rfl (by decide) (by decide) dX1_needTriage_19
  · have hk9 : kk1 (z_T S t) = 1 := kk1_f c6
    exact x_throwS E htab hTx hl (is := 179) (text := "the test is not in triage") (by decide +kernel) dX1_needTriage_9 dX1_needTriage_12 dX1_needTriage_13 dX1_needTriage_15 dX1_needTriage_18 (by decide +kernel) (by decide +kernel) (fun w h => List.mem_cons_of_mem _ (List.mem_append_right _ h)) (by rw [hk9]; decide) (by rw [hk9]; rfl) (Nat.le_of_ble_eq_true rfl) (Nat.le_of_ble_eq_true rfl) (Nat.le_of_ble_eq_true rfl) (Nat.le_of_ble_eq_true rfl) (by decide) (by decide)

