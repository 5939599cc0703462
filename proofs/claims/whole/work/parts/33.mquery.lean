/-! ===== the model: what it answers ===== -/
theorem con_kk (a c d : Bool) : kk2 (a && c) (a && d) = kk2 (a && c) d := by cases a <;> rfl
set_option maxHeartbeats 4000000 in
set_option maxRecDepth 100000 in
theorem x_X2_partsOf (l : Launch) (D : va_G) (cI cZ cQ cJ : ClassId) (b : Nat → Nat) (S : zS) (th : Nat) (hok : zOK S)  (u0 : Int32) : v_Thr l yX2_partsOf wsX2_partsOf { frames := 2, cells := 0, slots := 0, locals := 43 } D (wTy cI cZ cQ cJ) [.ref (b 0), .int (u0)] (wM cI b S th) (0) exI (some (.int (mV (kk1 (zin u0 (z_nt S))) (nI (zre S (iN u0)))))) (wM cI b S (kk1 (zin u0 (z_nt S)))) 0 0 := by
  refine v_thrower (cc := cX2_partsOf) (maxL := 2) (ret := (some .int)) (own := RX2) (lv0 := [(0, .ref (b 0)), (1, .int (u0))]) (by decide) rfl rfl (Nat.le_of_ble_eq_true rfl) rfl ?_
  intro p9 e9 s9 m9 as9 bl9 me9 cd9 A E hA htab hTx hr
  obtain ⟨⟨k1, k2, k3, k4, k5, k6, k7, k8⟩, k9, k10, k11, k12, k13⟩ := id hok
  have hqn := zqn_le hok
  refine v_aload_n E dX2_partsOf_0 0 rfl rfl ?_
  refine v_aload_n E dX2_partsOf_1 0 rfl rfl ?_
  refine v_iload_n E dX2_partsOf_2 1 rfl rfl ?_
  refine v_cVi' E dX2_partsOf_3 (x_X2_isTest l D cI cZ cQ cJ b S (th) hok ((u0))) (cwV 1 E.2.2.2.1 gX2_partsOf_X2_isTest rfl rfl rfl (by decide +kernel) ⟨Nat.le_of_ble_eq_true rfl, Nat.le_of_ble_eq_true rfl⟩) 0 rfl rfl rfl (fun _ h => h) rfl rfl ⟨Nat.le_of_ble_eq_true rfl, Nat.le_of_ble_eq_true rfl⟩ (Nat.le_of_ble_eq_true rfl) ?_
  refine v_iconst E dX2_partsOf_6 (v := nI 1) rfl ?_
  refine v_top (y := bI (true)) rfl ?_
  refine x_cVn E hA hTx dX2_partsOf_7 (x_X2_goes l D cI cZ cQ cJ b S (th) hok (zin ((u0)) (z_nt S)) (true)) (cwV 2 E.2.2.2.1 gX2_partsOf_X2_goes rfl rfl rfl (by decide +kernel) ⟨Nat.le_of_ble_eq_true rfl, Nat.le_of_ble_eq_true rfl⟩) 0 rfl rfl rfl rfl rfl ⟨Nat.le_of_ble_eq_true rfl, Nat.le_of_ble_eq_true rfl⟩ (Nat.le_of_ble_eq_true rfl) ?_
  refine v_w (w' := wM cI b S (kk1 (zin u0 (z_nt S)))) (by rw [kk2_tt]) ?_
  refine b_if_eq E dX2_partsOf_10 (tgt := 21) (by decide) (fun c10 => ?_) (fun c10 => ?_)
  · have hkn : kk1 (zin u0 (z_nt S)) ≠ 0 := (by rw [← kk2_tt]; exact kk2_bf c10)
    refine v_iconst E dX2_partsOf_21 (v := nI 0) rfl ?_
    exact y_ret E hr (by trivial) (by rw [mV_n hkn]) rfl (by decide) (by decide) dX2_partsOf_22
  · have hk0 : kk1 (zin u0 (z_nt S)) = 0 := (by rw [← kk2_tt]; exact kk2_bt c10)
    refine v_w (w' := wM cI b S 0) (by rw [hk0]) ?_
    have h2 := kk1_z hk0
    obtain ⟨t, ht, rfl⟩ := zin_of (by omega) h2
    try simp only [iN_nI (show t < 2 ^ 31 by omega)] at hk0 ⊢
    have hzt := zin_n ht (show z_nt S ≤ 2 ^ 31 by omega)
    refine v_aload_n E dX2_partsOf_13 0 rfl rfl ?_
    refine v_iload_n E dX2_partsOf_14 1 rfl rfl ?_
    refine v_cVi' E dX2_partsOf_15 (x_X2_reach l D cI cZ cQ cJ b S (0) hok (t) (by omega)) (cwV 1 E.2.2.2.1 gX2_partsOf_X2_reach rfl rfl rfl (by decide +kernel) ⟨Nat.le_of_ble_eq_true rfl, Nat.le_of_ble_eq_true rfl⟩) 0 rfl rfl rfl (fun _ h => h) rfl rfl ⟨Nat.le_of_ble_eq_true rfl, Nat.le_of_ble_eq_true rfl⟩ (Nat.le_of_ble_eq_true rfl) ?_
    refine v_goto E dX2_partsOf_18 (tgt := 22) (by decide) ?_
    exact y_ret E hr (by trivial) (by rw [mV_0 hk0]) (by rw [hk0]) (by decide) (by decide) dX2_partsOf_22

set_option maxHeartbeats 4000000 in
set_option maxRecDepth 100000 in
theorem x_X2_runs (l : Launch) (D : va_G) (cI cZ cQ cJ : ClassId) (b : Nat → Nat) (S : zS) (th : Nat) (hok : zOK S)  (u0 : Int32) : v_Thr l yX2_runs wsX2_runs { frames := 2, cells := 0, slots := 0, locals := 45 } D (wTy cI cZ cQ cJ) [.ref (b 0), .int (u0)] (wM cI b S th) (0) exI (some (.int (mV (kk1 (zin u0 (z_nt S))) (nI (z_R S (iN u0)))))) (wM cI b S (kk1 (zin u0 (z_nt S)))) 0 0 := by
  refine v_thrower (cc := cX2_runs) (maxL := 2) (ret := (some .int)) (own := RX2) (lv0 := [(0, .ref (b 0)), (1, .int (u0))]) (by decide) rfl rfl (Nat.le_of_ble_eq_true rfl) rfl ?_
  intro p9 e9 s9 m9 as9 bl9 me9 cd9 A E hA htab hTx hr
  obtain ⟨⟨k1, k2, k3, k4, k5, k6, k7, k8⟩, k9, k10, k11, k12, k13⟩ := id hok
  have hqn := zqn_le hok
  refine v_aload_n E dX2_runs_0 0 rfl rfl ?_
  refine v_aload_n E dX2_runs_1 0 rfl rfl ?_
  refine v_iload_n E dX2_runs_2 1 rfl rfl ?_
  refine v_cVi' E dX2_runs_3 (x_X2_isTest l D cI cZ cQ cJ b S (th) hok ((u0))) (cwV 1 E.2.2.2.1 gX2_runs_X2_isTest rfl rfl rfl (by decide +kernel) ⟨Nat.le_of_ble_eq_true rfl, Nat.le_of_ble_eq_true rfl⟩) 0 rfl rfl rfl (fun _ h => h) rfl rfl ⟨Nat.le_of_ble_eq_true rfl, Nat.le_of_ble_eq_true rfl⟩ (Nat.le_of_ble_eq_true rfl) ?_
  refine v_iconst E dX2_runs_6 (v := nI 1) rfl ?_
  refine v_top (y := bI (true)) rfl ?_
  refine x_cVn E hA hTx dX2_runs_7 (x_X2_goes l D cI cZ cQ cJ b S (th) hok (zin ((u0)) (z_nt S)) (true)) (cwV 2 E.2.2.2.1 gX2_runs_X2_goes rfl rfl rfl (by decide +kernel) ⟨Nat.le_of_ble_eq_true rfl, Nat.le_of_ble_eq_true rfl⟩) 0 rfl rfl rfl rfl rfl ⟨Nat.le_of_ble_eq_true rfl, Nat.le_of_ble_eq_true rfl⟩ (Nat.le_of_ble_eq_true rfl) ?_
  refine v_w (w' := wM cI b S (kk1 (zin u0 (z_nt S)))) (by rw [kk2_tt]) ?_
  refine b_if_eq E dX2_runs_10 (tgt := 21) (by decide) (fun c10 => ?_) (fun c10 => ?_)
  · have hkn : kk1 (zin u0 (z_nt S)) ≠ 0 := (by rw [← kk2_tt]; exact kk2_bf c10)
    refine v_iconst E dX2_runs_21 (v := nI 0) rfl ?_
    exact y_ret E hr (by trivial) (by rw [mV_n hkn]) rfl (by decide) (by decide) dX2_runs_22
  · have hk0 : kk1 (zin u0 (z_nt S)) = 0 := (by rw [← kk2_tt]; exact kk2_bt c10)
    refine v_w (w' := wM cI b S 0) (by rw [hk0]) ?_
    have h2 := kk1_z hk0
    obtain ⟨t, ht, rfl⟩ := zin_of (by omega) h2
    try simp only [iN_nI (show t < 2 ^ 31 by omega)] at hk0 ⊢
    have hzt := zin_n ht (show z_nt S ≤ 2 ^ 31 by omega)
    refine v_aload_n E dX2_runs_13 0 rfl rfl ?_
    refine v_iload_n E dX2_runs_14 1 rfl rfl ?_
    refine v_cVi' E dX2_runs_15 (x_X2_allRuns l D cI cZ cQ cJ b S (0) hok (t) (by omega)) (cwV 1 E.2.2.2.1 gX2_runs_X2_allRuns rfl rfl rfl (by decide +kernel) ⟨Nat.le_of_ble_eq_true rfl, Nat.le_of_ble_eq_true rfl⟩) 0 rfl rfl rfl (fun _ h => h) rfl rfl ⟨Nat.le_of_ble_eq_true rfl, Nat.le_of_ble_eq_true rfl⟩ (Nat.le_of_ble_eq_true rfl) ?_
    refine v_goto E dX2_runs_18 (tgt := 22) (by decide) ?_
    exact y_ret E hr (by trivial) (by rw [mV_0 hk0]) (by rw [hk0]) (by decide) (by decide) dX2_runs_22

set_option maxHeartbeats 4000000 in
set_option maxRecDepth 100000 in
theorem x_X2_failing (l : Launch) (D : va_G) (cI cZ cQ cJ : ClassId) (b : Nat → Nat) (S : zS) (th : Nat) (hok : zOK S)  (u0 : Int32) : v_Thr l yX2_failing wsX2_failing { frames := 2, cells := 0, slots := 0, locals := 45 } D (wTy cI cZ cQ cJ) [.ref (b 0), .int (u0)] (wM cI b S th) (0) exI (some (.int (mV (kk1 (zin u0 (z_nt S))) (nI (zfai S (iN u0)))))) (wM cI b S (kk1 (zin u0 (z_nt S)))) 0 0 := by
  refine v_thrower (cc := cX2_failing) (maxL := 2) (ret := (some .int)) (own := RX2) (lv0 := [(0, .ref (b 0)), (1, .int (u0))]) (by decide) rfl rfl (Nat.le_of_ble_eq_true rfl) rfl ?_
  intro p9 e9 s9 m9 as9 bl9 me9 cd9 A E hA htab hTx hr
  have hinX2 : ∀ w ∈ u_ws RX2 TX2 16, w ∈ wsX2_failing := by decide +kernel
  obtain ⟨⟨k1, k2, k3, k4, k5, k6, k7, k8⟩, k9, k10, k11, k12, k13⟩ := id hok
  have hqn := zqn_le hok
  refine v_aload_n E dX2_failing_0 0 rfl rfl ?_
  refine v_aload_n E dX2_failing_1 0 rfl rfl ?_
  refine v_iload_n E dX2_failing_2 1 rfl rfl ?_
  refine v_cVi' E dX2_failing_3 (x_X2_isTest l D cI cZ cQ cJ b S (th) hok ((u0))) (cwV 1 E.2.2.2.1 gX2_failing_X2_isTest rfl rfl rfl (by decide +kernel) ⟨Nat.le_of_ble_eq_true rfl, Nat.le_of_ble_eq_true rfl⟩) 0 rfl rfl rfl (fun _ h => h) rfl rfl ⟨Nat.le_of_ble_eq_true rfl, Nat.le_of_ble_eq_true rfl⟩ (Nat.le_of_ble_eq_true rfl) ?_
  refine v_iconst E dX2_failing_6 (v := nI 1) rfl ?_
  refine v_top (y := bI (true)) rfl ?_
  refine x_cVn E hA hTx dX2_failing_7 (x_X2_goes l D cI cZ cQ cJ b S (th) hok (zin ((u0)) (z_nt S)) (true)) (cwV 2 E.2.2.2.1 gX2_failing_X2_goes rfl rfl rfl (by decide +kernel) ⟨Nat.le_of_ble_eq_true rfl, Nat.le_of_ble_eq_true rfl⟩) 0 rfl rfl rfl rfl rfl ⟨Nat.le_of_ble_eq_true rfl, Nat.le_of_ble_eq_true rfl⟩ (Nat.le_of_ble_eq_true rfl) ?_
  refine v_w (w' := wM cI b S (kk1 (zin u0 (z_nt S)))) (by rw [kk2_tt]) ?_
  refine b_if_eq E dX2_failing_10 (tgt := 21) (by decide) (fun c10 => ?_) (fun c10 => ?_)
  · have hkn : kk1 (zin u0 (z_nt S)) ≠ 0 := (by rw [← kk2_tt]; exact kk2_bf c10)
    refine v_iconst E dX2_failing_21 (v := nI 0) rfl ?_
    exact y_ret E hr (by trivial) (by rw [mV_n hkn]) rfl (by decide) (by decide) dX2_failing_22
  · have hk0 : kk1 (zin u0 (z_nt S)) = 0 := (by rw [← kk2_tt]; exact kk2_bt c10)
    refine v_w (w' := wM cI b S 0) (by rw [hk0]) ?_
    have h2 := kk1_z hk0
    obtain ⟨t, ht, rfl⟩ := zin_of (by omega) h2
    try simp only [iN_nI (show t < 2 ^ 31 by omega)] at hk0 ⊢
    have hzt := zin_n ht (show z_nt S ≤ 2 ^ 31 by omega)
    have hpf := zPF_sum hok t
    have hRt := (k12 t).1
    refine v_aload_n E dX2_failing_13 0 rfl rfl ?_
    refine v_iload_n E dX2_failing_14 1 rfl rfl ?_
    refine v_cVi' E dX2_failing_15 (x_X2_allRuns l D cI cZ cQ cJ b S (0) hok (t) (by omega)) (cwV 1 E.2.2.2.1 gX2_failing_X2_allRuns rfl rfl rfl (by decide +kernel) ⟨Nat.le_of_ble_eq_true rfl, Nat.le_of_ble_eq_true rfl⟩) 0 rfl rfl rfl (fun _ h => h) rfl rfl ⟨Nat.le_of_ble_eq_true rfl, Nat.le_of_ble_eq_true rfl⟩ (Nat.le_of_ble_eq_true rfl) ?_
    refine n_if_ne E dX2_failing_18 (by omega) (tgt := 23) (by decide) (fun c18 => ?_) (fun c18 => ?_)
    · refine v_bipush E dX2_failing_23 (v := nI 100) rfl ?_
      refine v_aload_n E dX2_failing_25 0 rfl rfl ?_
      refine v_iload_n E dX2_failing_26 1 rfl rfl ?_
      refine v_aload_n E dX2_failing_27 0 rfl rfl ?_
      refine v_get E dX2_failing_28 0 10 hinX2 rfl rfl (by decide) (by decide +kernel) rfl rfl ?_
      refine v_cVi' E dX2_failing_31 (x_X2_all_F l D cI cZ cQ cJ b S (0) hok (t) (by omega)) (cwV 2 E.2.2.2.1 gX2_failing_X2_all rfl rfl rfl (by decide +kernel) ⟨Nat.le_of_ble_eq_true rfl, Nat.le_of_ble_eq_true rfl⟩) 0 rfl rfl rfl (fun _ h => h) rfl rfl ⟨Nat.le_of_ble_eq_true rfl, Nat.le_of_ble_eq_true rfl⟩ (Nat.le_of_ble_eq_true rfl) ?_
      refine v_imul E dX2_failing_34 (pk_mul _ _) ?_
      refine v_aload_n E dX2_failing_35 0 rfl rfl ?_
      refine v_iload_n E dX2_failing_36 1 rfl rfl ?_
      refine v_cVi' E dX2_failing_37 (x_X2_allRuns l D cI cZ cQ cJ b S (0) hok (t) (by omega)) (cwV 1 E.2.2.2.1 gX2_failing_X2_allRuns rfl rfl rfl (by decide +kernel) ⟨Nat.le_of_ble_eq_true rfl, Nat.le_of_ble_eq_true rfl⟩) 0 rfl rfl rfl (fun _ h => h) rfl rfl ⟨Nat.le_of_ble_eq_true rfl, Nat.le_of_ble_eq_true rfl⟩ (Nat.le_of_ble_eq_true rfl) ?_
      refine v_idiv E dX2_failing_40 (n_ne0 (by omega) (by omega)) (pk_div (by omega) (by omega) (by omega)) ?_
      exact y_ret E hr (by trivial) (by rw [mV_0 hk0]; unfold zfai; rw [if_neg (by omega)]) (by rw [hk0]) (by decide) (by decide) dX2_failing_41
    · refine v_iconst E dX2_failing_21 (v := nI 0) rfl ?_
      exact y_ret E hr (by trivial) (by rw [mV_0 hk0]; unfold zfai; rw [if_pos c18]) (by rw [hk0]) (by decide) (by decide) dX2_failing_22

set_option maxHeartbeats 4000000 in
set_option maxRecDepth 100000 in
theorem x_X2_isQuarantined (l : Launch) (D : va_G) (cI cZ cQ cJ : ClassId) (b : Nat → Nat) (S : zS) (th : Nat) (hok : zOK S)  (u0 : Int32) : v_Thr l yX2_isQuarantined wsX2_isQuarantined { frames := 2, cells := 0, slots := 0, locals := 46 } D (wTy cI cZ cQ cJ) [.ref (b 0), .int (u0)] (wM cI b S th) (0) exI (some (.int (bI (mB (kk1 (zin u0 (z_nt S))) (decide (z_li S ≤ zmix S (iN u0))))))) (wM cI b S (kk1 (zin u0 (z_nt S)))) 0 0 := by
  refine v_thrower (cc := cX2_isQuarantined) (maxL := 2) (ret := (some .boolean)) (own := RX2) (lv0 := [(0, .ref (b 0)), (1, .int (u0))]) (by decide) rfl rfl (Nat.le_of_ble_eq_true rfl) rfl ?_
  intro p9 e9 s9 m9 as9 bl9 me9 cd9 A E hA htab hTx hr
  obtain ⟨⟨k1, k2, k3, k4, k5, k6, k7, k8⟩, k9, k10, k11, k12, k13⟩ := id hok
  have hqn := zqn_le hok
  refine v_aload_n E dX2_isQuarantined_0 0 rfl rfl ?_
  refine v_aload_n E dX2_isQuarantined_1 0 rfl rfl ?_
  refine v_iload_n E dX2_isQuarantined_2 1 rfl rfl ?_
  refine v_cVi' E dX2_isQuarantined_3 (x_X2_isTest l D cI cZ cQ cJ b S (th) hok ((u0))) (cwV 1 E.2.2.2.1 gX2_isQuarantined_X2_isTest rfl rfl rfl (by decide +kernel) ⟨Nat.le_of_ble_eq_true rfl, Nat.le_of_ble_eq_true rfl⟩) 0 rfl rfl rfl (fun _ h => h) rfl rfl ⟨Nat.le_of_ble_eq_true rfl, Nat.le_of_ble_eq_true rfl⟩ (Nat.le_of_ble_eq_true rfl) ?_
  refine v_iconst E dX2_isQuarantined_6 (v := nI 1) rfl ?_
  refine v_top (y := bI (true)) rfl ?_
  refine x_cVn E hA hTx dX2_isQuarantined_7 (x_X2_goes l D cI cZ cQ cJ b S (th) hok (zin ((u0)) (z_nt S)) (true)) (cwV 2 E.2.2.2.1 gX2_isQuarantined_X2_goes rfl rfl rfl (by decide +kernel) ⟨Nat.le_of_ble_eq_true rfl, Nat.le_of_ble_eq_true rfl⟩) 0 rfl rfl rfl rfl rfl ⟨Nat.le_of_ble_eq_true rfl, Nat.le_of_ble_eq_true rfl⟩ (Nat.le_of_ble_eq_true rfl) ?_
  refine v_w (w' := wM cI b S (kk1 (zin u0 (z_nt S)))) (by rw [kk2_tt]) ?_
  refine b_if_eq E dX2_isQuarantined_10 (tgt := 25) (by decide) (fun c10 => ?_) (fun c10 => ?_)
  · have hkn : kk1 (zin u0 (z_nt S)) ≠ 0 := (by rw [← kk2_tt]; exact kk2_bf c10)
    refine v_iconst E dX2_isQuarantined_25 (v := nI 0) rfl ?_
    exact y_retz E hr rfl (by trivial) (by rw [mB_n hkn]; rfl) rfl (by decide) (by decide) dX2_isQuarantined_26
  · have hk0 : kk1 (zin u0 (z_nt S)) = 0 := (by rw [← kk2_tt]; exact kk2_bt c10)
    refine v_w (w' := wM cI b S 0) (by rw [hk0]) ?_
    have h2 := kk1_z hk0
    obtain ⟨t, ht, rfl⟩ := zin_of (by omega) h2
    try simp only [iN_nI (show t < 2 ^ 31 by omega)] at hk0 ⊢
    have hzt := zin_n ht (show z_nt S ≤ 2 ^ 31 by omega)
    refine v_aload_n E dX2_isQuarantined_13 0 rfl rfl ?_
    refine v_iload_n E dX2_isQuarantined_14 1 rfl rfl ?_
    refine v_cVi' E dX2_isQuarantined_15 (x_X2_isUnsteady l D cI cZ cQ cJ b S (0) hok (t) (by omega)) (cwV 1 E.2.2.2.1 gX2_isQuarantined_X2_isUnsteady rfl rfl rfl (by decide +kernel) ⟨Nat.le_of_ble_eq_true rfl, Nat.le_of_ble_eq_true rfl⟩) 0 rfl rfl rfl (fun _ h => h) rfl rfl ⟨Nat.le_of_ble_eq_true rfl, Nat.le_of_ble_eq_true rfl⟩ (Nat.le_of_ble_eq_true rfl) ?_
    refine b_if_eq E dX2_isQuarantined_18 (tgt := 25) (by decide) (fun c18 => ?_) (fun c18 => ?_)
    · refine v_iconst E dX2_isQuarantined_25 (v := nI 0) rfl ?_
      exact y_retz E hr rfl (by trivial) (by rw [mB_0 hk0]; rw [c18]; rfl) (by rw [hk0]) (by decide) (by decide) dX2_isQuarantined_26
    · refine v_iconst E dX2_isQuarantined_21 (v := nI 1) rfl ?_
      refine v_goto E dX2_isQuarantined_22 (tgt := 26) (by decide) ?_
      exact y_retz E hr rfl (by trivial) (by rw [mB_0 hk0]; rw [c18]; rfl) (by rw [hk0]) (by decide) (by decide) dX2_isQuarantined_26

set_option maxHeartbeats 4000000 in
set_option maxRecDepth 100000 in
theorem x_X2_verdict (l : Launch) (D : va_G) (cI cZ cQ cJ : ClassId) (b : Nat → Nat) (S : zS) (th : Nat) (hok : zOK S)  (u0 u1 : Int32) : v_Thr l yX2_verdict wsX2_verdict { frames := 2, cells := 0, slots := 0, locals := 43 } D (wTy cI cZ cQ cJ) [.ref (b 0), .int (u0), .int (u1)] (wM cI b S th) (0) exI (some (.int (mV (kk1 (zin u0 (z_nt S) && zin u1 (z_nc S))) (nI (vd (z_P S (iN u0) (iN u1)) (z_F S (iN u0) (iN u1))))))) (wM cI b S (kk1 (zin u0 (z_nt S) && zin u1 (z_nc S)))) 0 0 := by
  refine v_thrower (cc := cX2_verdict) (maxL := 3) (ret := (some .int)) (own := RX2) (lv0 := [(0, .ref (b 0)), (1, .int (u0)), (2, .int (u1))]) (by decide) rfl rfl (Nat.le_of_ble_eq_true rfl) rfl ?_
  intro p9 e9 s9 m9 as9 bl9 me9 cd9 A E hA htab hTx hr
  obtain ⟨⟨k1, k2, k3, k4, k5, k6, k7, k8⟩, k9, k10, k11, k12, k13⟩ := id hok
  have hqn := zqn_le hok
  refine v_aload_n E dX2_verdict_0 0 rfl rfl ?_
  refine v_aload_n E dX2_verdict_1 0 rfl rfl ?_
  refine v_iload_n E dX2_verdict_2 1 rfl rfl ?_
  refine v_cVi' E dX2_verdict_3 (x_X2_isTest l D cI cZ cQ cJ b S (th) hok ((u0))) (cwV 1 E.2.2.2.1 gX2_verdict_X2_isTest rfl rfl rfl (by decide +kernel) ⟨Nat.le_of_ble_eq_true rfl, Nat.le_of_ble_eq_true rfl⟩) 0 rfl rfl rfl (fun _ h => h) rfl rfl ⟨Nat.le_of_ble_eq_true rfl, Nat.le_of_ble_eq_true rfl⟩ (Nat.le_of_ble_eq_true rfl) ?_
  refine b_if_eq E dX2_verdict_6 (tgt := 21) (by decide) (fun c6 => ?_) (fun c6 => ?_)
  · refine v_iconst E dX2_verdict_21 (v := nI 0) rfl ?_
    refine v_top (y := bI ((zin u0 (z_nt S) && zin u1 (z_nc S)))) (by rw [c6]; rfl) ?_
    refine v_iconst E dX2_verdict_22 (v := nI 1) rfl ?_
    refine v_top (y := bI (true)) rfl ?_
    refine x_cVn E hA hTx dX2_verdict_23 (x_X2_goes l D cI cZ cQ cJ b S (th) hok ((zin u0 (z_nt S) && zin u1 (z_nc S))) (true)) (cwV 2 E.2.2.2.1 gX2_verdict_X2_goes rfl rfl rfl (by decide +kernel) ⟨Nat.le_of_ble_eq_true rfl, Nat.le_of_ble_eq_true rfl⟩) 0 rfl rfl rfl rfl rfl ⟨Nat.le_of_ble_eq_true rfl, Nat.le_of_ble_eq_true rfl⟩ (Nat.le_of_ble_eq_true rfl) ?_
    refine v_w (w' := wM cI b S (kk1 (zin u0 (z_nt S) && zin u1 (z_nc S)))) (by rw [kk2_tt]) ?_
    refine b_if_eq E dX2_verdict_26 (tgt := 38) (by decide) (fun c26 => ?_) (fun c26 => ?_)
    · have hkn : kk1 (zin u0 (z_nt S) && zin u1 (z_nc S)) ≠ 0 := (by rw [← kk2_tt]; exact kk2_bf c26)
      refine v_iconst E dX2_verdict_38 (v := nI 0) rfl ?_
      exact y_ret E hr (by trivial) (by rw [mV_n hkn]) rfl (by decide) (by decide) dX2_verdict_39
    · have hk0 : kk1 (zin u0 (z_nt S) && zin u1 (z_nc S)) = 0 := (by rw [← kk2_tt]; exact kk2_bt c26)
      refine v_w (w' := wM cI b S 0) (by rw [hk0]) ?_
      obtain ⟨h1, h2⟩ := and_tt (kk1_z hk0)
      obtain ⟨t, ht, rfl⟩ := zin_of (by omega) h1
      try simp only [iN_nI (show t < 2 ^ 31 by omega)] at hk0 h2 ⊢
      have hzt := zin_n ht (show z_nt S ≤ 2 ^ 31 by omega)
      obtain ⟨c, hc, rfl⟩ := zin_of (by omega) h2
      try simp only [iN_nI (show c < 2 ^ 31 by omega)] at hk0 ⊢
      have hzc := zin_n hc (show z_nc S ≤ 2 ^ 31 by omega)
      refine v_aload_n E dX2_verdict_29 0 rfl rfl ?_
      refine v_iload_n E dX2_verdict_30 1 rfl rfl ?_
      refine v_iload_n E dX2_verdict_31 2 rfl rfl ?_
      refine v_cVi' E dX2_verdict_32 (x_X2_verdictOf l D cI cZ cQ cJ b S (0) hok (t) (c) (by omega) (by omega)) (cwV 2 E.2.2.2.1 gX2_verdict_X2_verdictOf rfl rfl rfl (by decide +kernel) ⟨Nat.le_of_ble_eq_true rfl, Nat.le_of_ble_eq_true rfl⟩) 0 rfl rfl rfl (fun _ h => h) rfl rfl ⟨Nat.le_of_ble_eq_true rfl, Nat.le_of_ble_eq_true rfl⟩ (Nat.le_of_ble_eq_true rfl) ?_
      refine v_goto E dX2_verdict_35 (tgt := 39) (by decide) ?_
      exact y_ret E hr (by trivial) (by rw [mV_0 hk0]) (by rw [hk0]) (by decide) (by decide) dX2_verdict_39
  · refine v_aload_n E dX2_verdict_9 0 rfl rfl ?_
    refine v_iload_n E dX2_verdict_10 2 rfl rfl ?_
    refine v_cVi' E dX2_verdict_11 (x_X2_isCommit l D cI cZ cQ cJ b S (th) hok ((u1))) (cwV 1 E.2.2.2.1 gX2_verdict_X2_isCommit rfl rfl rfl (by decide +kernel) ⟨Nat.le_of_ble_eq_true rfl, Nat.le_of_ble_eq_true rfl⟩) 0 rfl rfl rfl (fun _ h => h) rfl rfl ⟨Nat.le_of_ble_eq_true rfl, Nat.le_of_ble_eq_true rfl⟩ (Nat.le_of_ble_eq_true rfl) ?_
    refine b_if_eq E dX2_verdict_14 (tgt := 21) (by decide) (fun c14 => ?_) (fun c14 => ?_)
    · refine v_iconst E dX2_verdict_21 (v := nI 0) rfl ?_
      refine v_top (y := bI ((zin u0 (z_nt S) && zin u1 (z_nc S)))) (by rw [c14, Bool.and_false]; rfl) ?_
      refine v_iconst E dX2_verdict_22 (v := nI 1) rfl ?_
      refine v_top (y := bI (true)) rfl ?_
      refine x_cVn E hA hTx dX2_verdict_23 (x_X2_goes l D cI cZ cQ cJ b S (th) hok ((zin u0 (z_nt S) && zin u1 (z_nc S))) (true)) (cwV 2 E.2.2.2.1 gX2_verdict_X2_goes rfl rfl rfl (by decide +kernel) ⟨Nat.le_of_ble_eq_true rfl, Nat.le_of_ble_eq_true rfl⟩) 0 rfl rfl rfl rfl rfl ⟨Nat.le_of_ble_eq_true rfl, Nat.le_of_ble_eq_true rfl⟩ (Nat.le_of_ble_eq_true rfl) ?_
      refine v_w (w' := wM cI b S (kk1 (zin u0 (z_nt S) && zin u1 (z_nc S)))) (by rw [kk2_tt]) ?_
      refine b_if_eq E dX2_verdict_26 (tgt := 38) (by decide) (fun c26 => ?_) (fun c26 => ?_)
      · have hkn : kk1 (zin u0 (z_nt S) && zin u1 (z_nc S)) ≠ 0 := (by rw [← kk2_tt]; exact kk2_bf c26)
        refine v_iconst E dX2_verdict_38 (v := nI 0) rfl ?_
        exact y_ret E hr (by trivial) (by rw [mV_n hkn]) rfl (by decide) (by decide) dX2_verdict_39
      · have hk0 : kk1 (zin u0 (z_nt S) && zin u1 (z_nc S)) = 0 := (by rw [← kk2_tt]; exact kk2_bt c26)
        refine v_w (w' := wM cI b S 0) (by rw [hk0]) ?_
        obtain ⟨h1, h2⟩ := and_tt (kk1_z hk0)
        obtain ⟨t, ht, rfl⟩ := zin_of (by omega) h1
        try simp only [iN_nI (show t < 2 ^ 31 by omega)] at hk0 h2 ⊢
        have hzt := zin_n ht (show z_nt S ≤ 2 ^ 31 by omega)
        obtain ⟨c, hc, rfl⟩ := zin_of (by omega) h2
        try simp only [iN_nI (show c < 2 ^ 31 by omega)] at hk0 ⊢
        have hzc := zin_n hc (show z_nc S ≤ 2 ^ 31 by omega)
        refine v_aload_n E dX2_verdict_29 0 rfl rfl ?_
        refine v_iload_n E dX2_verdict_30 1 rfl rfl ?_
        refine v_iload_n E dX2_verdict_31 2 rfl rfl ?_
        refine v_cVi' E dX2_verdict_32 (x_X2_verdictOf l D cI cZ cQ cJ b S (0) hok (t) (c) (by omega) (by omega)) (cwV 2 E.2.2.2.1 gX2_verdict_X2_verdictOf rfl rfl rfl (by decide +kernel) ⟨Nat.le_of_ble_eq_true rfl, Nat.le_of_ble_eq_true rfl⟩) 0 rfl rfl rfl (fun _ h => h) rfl rfl ⟨Nat.le_of_ble_eq_true rfl, Nat.le_of_ble_eq_true rfl⟩ (Nat.le_of_ble_eq_true rfl) ?_
        refine v_goto E dX2_verdict_35 (tgt := 39) (by decide) ?_
        exact y_ret E hr (by trivial) (by rw [mV_0 hk0]) (by rw [hk0]) (by decide) (by decide) dX2_verdict_39
    · refine v_iconst E dX2_verdict_17 (v := nI 1) rfl ?_
      refine v_goto E dX2_verdict_18 (tgt := 22) (by decide) ?_
      refine v_top (y := bI ((zin u0 (z_nt S) && zin u1 (z_nc S)))) (by rw [c6, c14]; rfl) ?_
      refine v_iconst E dX2_verdict_22 (v := nI 1) rfl ?_
      refine v_top (y := bI (true)) rfl ?_
      refine x_cVn E hA hTx dX2_verdict_23 (x_X2_goes l D cI cZ cQ cJ b S (th) hok ((zin u0 (z_nt S) && zin u1 (z_nc S))) (true)) (cwV 2 E.2.2.2.1 gX2_verdict_X2_goes rfl rfl rfl (by decide +kernel) ⟨Nat.le_of_ble_eq_true rfl, Nat.le_of_ble_eq_true rfl⟩) 0 rfl rfl rfl rfl rfl ⟨Nat.le_of_ble_eq_true rfl, Nat.le_of_ble_eq_true rfl⟩ (Nat.le_of_ble_eq_true rfl) ?_
      refine v_w (w' := wM cI b S (kk1 (zin u0 (z_nt S) && zin u1 (z_nc S)))) (by rw [kk2_tt]) ?_
      refine b_if_eq E dX2_verdict_26 (tgt := 38) (by decide) (fun c26 => ?_) (fun c26 => ?_)
      · have hkn : kk1 (zin u0 (z_nt S) && zin u1 (z_nc S)) ≠ 0 := (by rw [← kk2_tt]; exact kk2_bf c26)
        refine v_iconst E dX2_verdict_38 (v := nI 0) rfl ?_
        exact y_ret E hr (by trivial) (by rw [mV_n hkn]) rfl (by decide) (by decide) dX2_verdict_39
      · have hk0 : kk1 (zin u0 (z_nt S) && zin u1 (z_nc S)) = 0 := (by rw [← kk2_tt]; exact kk2_bt c26)
        refine v_w (w' := wM cI b S 0) (by rw [hk0]) ?_
        obtain ⟨h1, h2⟩ := and_tt (kk1_z hk0)
        obtain ⟨t, ht, rfl⟩ := zin_of (by omega) h1
        try simp only [iN_nI (show t < 2 ^ 31 by omega)] at hk0 h2 ⊢
        have hzt := zin_n ht (show z_nt S ≤ 2 ^ 31 by omega)
        obtain ⟨c, hc, rfl⟩ := zin_of (by omega) h2
        try simp only [iN_nI (show c < 2 ^ 31 by omega)] at hk0 ⊢
        have hzc := zin_n hc (show z_nc S ≤ 2 ^ 31 by omega)
        refine v_aload_n E dX2_verdict_29 0 rfl rfl ?_
        refine v_iload_n E dX2_verdict_30 1 rfl rfl ?_
        refine v_iload_n E dX2_verdict_31 2 rfl rfl ?_
        refine v_cVi' E dX2_verdict_32 (x_X2_verdictOf l D cI cZ cQ cJ b S (0) hok (t) (c) (by omega) (by omega)) (cwV 2 E.2.2.2.1 gX2_verdict_X2_verdictOf rfl rfl rfl (by decide +kernel) ⟨Nat.le_of_ble_eq_true rfl, Nat.le_of_ble_eq_true rfl⟩) 0 rfl rfl rfl (fun _ h => h) rfl rfl ⟨Nat.le_of_ble_eq_true rfl, Nat.le_of_ble_eq_true rfl⟩ (Nat.le_of_ble_eq_true rfl) ?_
        refine v_goto E dX2_verdict_35 (tgt := 39) (by decide) ?_
        exact y_ret E hr (by trivial) (by rw [mV_0 hk0]) (by rw [hk0]) (by decide) (by decide) dX2_verdict_39

set_option maxHeartbeats 4000000 in
set_option maxRecDepth 100000 in
theorem x_X2_contradictions (l : Launch) (D : va_G) (cI cZ cQ cJ : ClassId) (b : Nat → Nat) (S : zS) (th : Nat) (hok : zOK S)  (u0 u1 : Int32) : v_Thr l yX2_contradictions wsX2_contradictions { frames := 3, cells := 0, slots := 0, locals := 64 } D (wTy cI cZ cQ cJ) [.ref (b 0), .int (u0), .int (u1)] (wM cI b S th) (0) exI (some (.int (mV (kk2 (zin u0 (z_nt S) && zin u1 (z_nc S)) (z_T S (iN u0))) (zco S (iN u0) (iN u1))))) (wM cI b S (kk2 (zin u0 (z_nt S) && zin u1 (z_nc S)) (z_T S (iN u0)))) 0 0 := by
  refine v_thrower (cc := cX2_contradictions) (maxL := 3) (ret := (some .int)) (own := RX2) (lv0 := [(0, .ref (b 0)), (1, .int (u0)), (2, .int (u1))]) (by decide) rfl rfl (Nat.le_of_ble_eq_true rfl) rfl ?_
  intro p9 e9 s9 m9 as9 bl9 me9 cd9 A E hA htab hTx hr
  obtain ⟨⟨k1, k2, k3, k4, k5, k6, k7, k8⟩, k9, k10, k11, k12, k13⟩ := id hok
  have hqn := zqn_le hok
  refine v_aload_n E dX2_contradictions_0 0 rfl rfl ?_
  refine v_aload_n E dX2_contradictions_1 0 rfl rfl ?_
  refine v_iload_n E dX2_contradictions_2 1 rfl rfl ?_
  refine v_cVi' E dX2_contradictions_3 (x_X2_isTest l D cI cZ cQ cJ b S (th) hok ((u0))) (cwV 1 E.2.2.2.1 gX2_contradictions_X2_isTest rfl rfl rfl (by decide +kernel) ⟨Nat.le_of_ble_eq_true rfl, Nat.le_of_ble_eq_true rfl⟩) 0 rfl rfl rfl (fun _ h => h) rfl rfl ⟨Nat.le_of_ble_eq_true rfl, Nat.le_of_ble_eq_true rfl⟩ (Nat.le_of_ble_eq_true rfl) ?_
  refine b_if_eq E dX2_contradictions_6 (tgt := 21) (by decide) (fun c6 => ?_) (fun c6 => ?_)
  · refine v_iconst E dX2_contradictions_21 (v := nI 0) rfl ?_
    refine v_top (y := bI ((zin u0 (z_nt S) && zin u1 (z_nc S)))) (by rw [c6]; rfl) ?_
    refine v_aload_n E dX2_contradictions_22 0 rfl rfl ?_
    refine v_iload_n E dX2_contradictions_23 1 rfl rfl ?_
    refine v_cVi' E dX2_contradictions_24 (x_X2_isInTriage l D cI cZ cQ cJ b S (th) hok ((u0))) (cwV 1 E.2.2.2.1 gX2_contradictions_X2_isInTriage rfl rfl rfl (by decide +kernel) ⟨Nat.le_of_ble_eq_true rfl, Nat.le_of_ble_eq_true rfl⟩) 0 rfl rfl rfl (fun _ h => h) rfl rfl ⟨Nat.le_of_ble_eq_true rfl, Nat.le_of_ble_eq_true rfl⟩ (Nat.le_of_ble_eq_true rfl) ?_
    refine x_cVn E hA hTx dX2_contradictions_27 (x_X2_goes l D cI cZ cQ cJ b S (th) hok ((zin u0 (z_nt S) && zin u1 (z_nc S))) (zin ((u0)) (z_nt S) && z_T S (iN u0))) (cwV 2 E.2.2.2.1 gX2_contradictions_X2_goes rfl rfl rfl (by decide +kernel) ⟨Nat.le_of_ble_eq_true rfl, Nat.le_of_ble_eq_true rfl⟩) 0 rfl rfl rfl rfl rfl ⟨Nat.le_of_ble_eq_true rfl, Nat.le_of_ble_eq_true rfl⟩ (Nat.le_of_ble_eq_true rfl) ?_
    refine v_w (w' := wM cI b S (kk2 (zin u0 (z_nt S) && zin u1 (z_nc S)) (z_T S (iN u0)))) (by rw [con_kk]) ?_
    refine b_if_ne E dX2_contradictions_30 (tgt := 35) (by decide) (fun c30 => ?_) (fun c30 => ?_)
    · exact absurd (and_tt c30).1 (by rw [c6, Bool.false_and]; decide)
    · have hkn : kk2 (zin u0 (z_nt S) && zin u1 (z_nc S)) (z_T S (iN u0)) ≠ 0 := (by rw [← con_kk]; exact kk2_bf c30)
      refine v_iconst E dX2_contradictions_33 (v := nI 0) rfl ?_
      exact y_ret E hr (by trivial) (by rw [mV_n hkn]) rfl (by decide) (by decide) dX2_contradictions_34
  · refine v_aload_n E dX2_contradictions_9 0 rfl rfl ?_
    refine v_iload_n E dX2_contradictions_10 2 rfl rfl ?_
    refine v_cVi' E dX2_contradictions_11 (x_X2_isCommit l D cI cZ cQ cJ b S (th) hok ((u1))) (cwV 1 E.2.2.2.1 gX2_contradictions_X2_isCommit rfl rfl rfl (by decide +kernel) ⟨Nat.le_of_ble_eq_true rfl, Nat.le_of_ble_eq_true rfl⟩) 0 rfl rfl rfl (fun _ h => h) rfl rfl ⟨Nat.le_of_ble_eq_true rfl, Nat.le_of_ble_eq_true rfl⟩ (Nat.le_of_ble_eq_true rfl) ?_
    refine b_if_eq E dX2_contradictions_14 (tgt := 21) (by decide) (fun c14 => ?_) (fun c14 => ?_)
    · refine v_iconst E dX2_contradictions_21 (v := nI 0) rfl ?_
      refine v_top (y := bI ((zin u0 (z_nt S) && zin u1 (z_nc S)))) (by rw [c14, Bool.and_false]; rfl) ?_
      refine v_aload_n E dX2_contradictions_22 0 rfl rfl ?_
      refine v_iload_n E dX2_contradictions_23 1 rfl rfl ?_
      refine v_cVi' E dX2_contradictions_24 (x_X2_isInTriage l D cI cZ cQ cJ b S (th) hok ((u0))) (cwV 1 E.2.2.2.1 gX2_contradictions_X2_isInTriage rfl rfl rfl (by decide +kernel) ⟨Nat.le_of_ble_eq_true rfl, Nat.le_of_ble_eq_true rfl⟩) 0 rfl rfl rfl (fun _ h => h) rfl rfl ⟨Nat.le_of_ble_eq_true rfl, Nat.le_of_ble_eq_true rfl⟩ (Nat.le_of_ble_eq_true rfl) ?_
      refine x_cVn E hA hTx dX2_contradictions_27 (x_X2_goes l D cI cZ cQ cJ b S (th) hok ((zin u0 (z_nt S) && zin u1 (z_nc S))) (zin ((u0)) (z_nt S) && z_T S (iN u0))) (cwV 2 E.2.2.2.1 gX2_contradictions_X2_goes rfl rfl rfl (by decide +kernel) ⟨Nat.le_of_ble_eq_true rfl, Nat.le_of_ble_eq_true rfl⟩) 0 rfl rfl rfl rfl rfl ⟨Nat.le_of_ble_eq_true rfl, Nat.le_of_ble_eq_true rfl⟩ (Nat.le_of_ble_eq_true rfl) ?_
      refine v_w (w' := wM cI b S (kk2 (zin u0 (z_nt S) && zin u1 (z_nc S)) (z_T S (iN u0)))) (by rw [con_kk]) ?_
      refine b_if_ne E dX2_contradictions_30 (tgt := 35) (by decide) (fun c30 => ?_) (fun c30 => ?_)
      · exact absurd (and_tt c30).1 (by rw [c14, Bool.and_false]; decide)
      · have hkn : kk2 (zin u0 (z_nt S) && zin u1 (z_nc S)) (z_T S (iN u0)) ≠ 0 := (by rw [← con_kk]; exact kk2_bf c30)
        refine v_iconst E dX2_contradictions_33 (v := nI 0) rfl ?_
        exact y_ret E hr (by trivial) (by rw [mV_n hkn]) rfl (by decide) (by decide) dX2_contradictions_34
    · refine v_iconst E dX2_contradictions_17 (v := nI 1) rfl ?_
      refine v_goto E dX2_contradictions_18 (tgt := 22) (by decide) ?_
      refine v_top (y := bI ((zin u0 (z_nt S) && zin u1 (z_nc S)))) (by rw [c6, c14]; rfl) ?_
      refine v_aload_n E dX2_contradictions_22 0 rfl rfl ?_
      refine v_iload_n E dX2_contradictions_23 1 rfl rfl ?_
      refine v_cVi' E dX2_contradictions_24 (x_X2_isInTriage l D cI cZ cQ cJ b S (th) hok ((u0))) (cwV 1 E.2.2.2.1 gX2_contradictions_X2_isInTriage rfl rfl rfl (by decide +kernel) ⟨Nat.le_of_ble_eq_true rfl, Nat.le_of_ble_eq_true rfl⟩) 0 rfl rfl rfl (fun _ h => h) rfl rfl ⟨Nat.le_of_ble_eq_true rfl, Nat.le_of_ble_eq_true rfl⟩ (Nat.le_of_ble_eq_true rfl) ?_
      refine x_cVn E hA hTx dX2_contradictions_27 (x_X2_goes l D cI cZ cQ cJ b S (th) hok ((zin u0 (z_nt S) && zin u1 (z_nc S))) (zin ((u0)) (z_nt S) && z_T S (iN u0))) (cwV 2 E.2.2.2.1 gX2_contradictions_X2_goes rfl rfl rfl (by decide +kernel) ⟨Nat.le_of_ble_eq_true rfl, Nat.le_of_ble_eq_true rfl⟩) 0 rfl rfl rfl rfl rfl ⟨Nat.le_of_ble_eq_true rfl, Nat.le_of_ble_eq_true rfl⟩ (Nat.le_of_ble_eq_true rfl) ?_
      refine v_w (w' := wM cI b S (kk2 (zin u0 (z_nt S) && zin u1 (z_nc S)) (z_T S (iN u0)))) (by rw [con_kk]) ?_
      refine b_if_ne E dX2_contradictions_30 (tgt := 35) (by decide) (fun c30 => ?_) (fun c30 => ?_)
      · have hk0 : kk2 (zin u0 (z_nt S) && zin u1 (z_nc S)) (z_T S (iN u0)) = 0 := (by rw [← con_kk]; exact kk2_bt c30)
        refine v_w (w' := wM cI b S 0) (by rw [hk0]) ?_
        obtain ⟨h1, h2⟩ := kk2_0 hk0
        obtain ⟨h3, h4⟩ := and_tt h1
        obtain ⟨t, ht, rfl⟩ := zin_of (by omega) h3
        try simp only [iN_nI (show t < 2 ^ 31 by omega)] at hk0 h2 ⊢
        have hzt := zin_n ht (show z_nt S ≤ 2 ^ 31 by omega)
        obtain ⟨c, hc, rfl⟩ := zin_of (by omega) h4
        try simp only [iN_nI (show c < 2 ^ 31 by omega)] at hk0 h2 ⊢
        have hzc := zin_n hc (show z_nc S ≤ 2 ^ 31 by omega)
        have hT := h2
        obtain ⟨q1, q2, q3⟩ := k10 t hT
        refine v_aload_n E dX2_contradictions_35 0 rfl rfl ?_
        refine v_iload_n E dX2_contradictions_36 1 rfl rfl ?_
        refine v_iload_n E dX2_contradictions_37 2 rfl rfl ?_
        refine v_cVi' E dX2_contradictions_38 (x_X2_isSuspect l D cI cZ cQ cJ b S (0) hok (t) (c) (by omega) hT (by omega)) (cwV 2 E.2.2.2.1 gX2_contradictions_X2_isSuspect rfl rfl rfl (by decide +kernel) ⟨Nat.le_of_ble_eq_true rfl, Nat.le_of_ble_eq_true rfl⟩) 0 rfl rfl rfl (fun _ h => h) rfl rfl ⟨Nat.le_of_ble_eq_true rfl, Nat.le_of_ble_eq_true rfl⟩ (Nat.le_of_ble_eq_true rfl) ?_
        refine b_if_eq E dX2_contradictions_41 (tgt := 53) (by decide) (fun c41 => ?_) (fun c41 => ?_)
        · refine v_iconst E dX2_contradictions_53 (v := (-1)) rfl ?_
          exact y_ret E hr (by trivial) (by rw [mV_0 hk0]; unfold zco; rw [if_neg (by rw [c41]; decide)]) (by rw [hk0]) (by decide) (by decide) dX2_contradictions_54
        · refine v_aload_n E dX2_contradictions_44 0 rfl rfl ?_
          refine v_iload_n E dX2_contradictions_45 1 rfl rfl ?_
          refine v_iload_n E dX2_contradictions_46 2 rfl rfl ?_
          refine v_cVi' E dX2_contradictions_47 (x_X2_against l D cI cZ cQ cJ b S (0) hok (t) (c) (by omega) hT (by omega)) (cwV 2 E.2.2.2.1 gX2_contradictions_X2_against rfl rfl rfl (by decide +kernel) ⟨Nat.le_of_ble_eq_true rfl, Nat.le_of_ble_eq_true rfl⟩) 0 rfl rfl rfl (fun _ h => h) rfl rfl ⟨Nat.le_of_ble_eq_true rfl, Nat.le_of_ble_eq_true rfl⟩ (Nat.le_of_ble_eq_true rfl) ?_
          refine v_goto E dX2_contradictions_50 (tgt := 54) (by decide) ?_
          exact y_ret E hr (by trivial) (by rw [mV_0 hk0]; unfold zco; rw [if_pos c41]) (by rw [hk0]) (by decide) (by decide) dX2_contradictions_54
      · have hkn : kk2 (zin u0 (z_nt S) && zin u1 (z_nc S)) (z_T S (iN u0)) ≠ 0 := (by rw [← con_kk]; exact kk2_bf c30)
        refine v_iconst E dX2_contradictions_33 (v := nI 0) rfl ?_
        exact y_ret E hr (by trivial) (by rw [mV_n hkn]) rfl (by decide) (by decide) dX2_contradictions_34

set_option maxHeartbeats 4000000 in
set_option maxRecDepth 100000 in
theorem x_X2_touches (l : Launch) (D : va_G) (cI cZ cQ cJ : ClassId) (b : Nat → Nat) (S : zS) (th : Nat) (hok : zOK S)  (u0 : Int32) : v_Thr l yX2_touches wsX2_touches { frames := 2, cells := 0, slots := 0, locals := 43 } D (wTy cI cZ cQ cJ) [.ref (b 0), .int (u0)] (wM cI b S th) (0) exI (some (.int (mV (kk1 (zin u0 (z_nc S))) (nI (msk (ztou S (iN u0)) (z_nt S)))))) (wM cI b S (kk1 (zin u0 (z_nc S)))) 0 0 := by
  refine v_thrower (cc := cX2_touches) (maxL := 5) (ret := (some .int)) (own := RX2) (lv0 := [(0, .ref (b 0)), (1, .int (u0))]) (by decide) rfl rfl (Nat.le_of_ble_eq_true rfl) rfl ?_
  intro p9 e9 s9 m9 as9 bl9 me9 cd9 A E hA htab hTx hr
  have hinX2 : ∀ w ∈ u_ws RX2 TX2 16, w ∈ wsX2_touches := by decide +kernel
  obtain ⟨⟨k1, k2, k3, k4, k5, k6, k7, k8⟩, k9, k10, k11, k12, k13⟩ := id hok
  have hqn := zqn_le hok
  refine v_iconst E dX2_touches_0 (v := nI 0) rfl ?_
  refine v_istore_n E dX2_touches_1 rfl (by decide) rfl ?_
  refine v_aload_n E dX2_touches_2 1 rfl rfl ?_
  refine v_aload_n E dX2_touches_3 1 rfl rfl ?_
  refine v_iload_n E dX2_touches_4 2 rfl rfl ?_
  refine v_cVi' E dX2_touches_5 (x_X2_isCommit l D cI cZ cQ cJ b S (th) hok ((u0))) (cwV 1 E.2.2.2.1 gX2_touches_X2_isCommit rfl rfl rfl (by decide +kernel) ⟨Nat.le_of_ble_eq_true rfl, Nat.le_of_ble_eq_true rfl⟩) 0 rfl rfl rfl (fun _ h => h) rfl rfl ⟨Nat.le_of_ble_eq_true rfl, Nat.le_of_ble_eq_true rfl⟩ (Nat.le_of_ble_eq_true rfl) ?_
  refine v_iconst E dX2_touches_8 (v := nI 1) rfl ?_
  refine v_top (y := bI (true)) rfl ?_
  refine x_cVn E hA hTx dX2_touches_9 (x_X2_goes l D cI cZ cQ cJ b S (th) hok (zin ((u0)) (z_nc S)) (true)) (cwV 2 E.2.2.2.1 gX2_touches_X2_goes rfl rfl rfl (by decide +kernel) ⟨Nat.le_of_ble_eq_true rfl, Nat.le_of_ble_eq_true rfl⟩) 0 rfl rfl rfl rfl rfl ⟨Nat.le_of_ble_eq_true rfl, Nat.le_of_ble_eq_true rfl⟩ (Nat.le_of_ble_eq_true rfl) ?_
  refine v_w (w' := wM cI b S (kk1 (zin u0 (z_nc S)))) (by rw [kk2_tt]) ?_
  by_cases hP : ((zin u0 (z_nc S)) && (true)) = true
  · have hk0 : kk1 (zin u0 (z_nc S)) = 0 := (by rw [← kk2_tt]; exact kk2_bt hP)
    refine v_w (w' := wM cI b S 0) (by rw [hk0]) ?_
    have h2 := kk1_z hk0
    obtain ⟨c, hc, rfl⟩ := zin_of (by omega) h2
    try simp only [iN_nI (show c < 2 ^ 31 by omega)] at hk0 ⊢
    have hzc := zin_n hc (show z_nc S ≤ 2 ^ 31 by omega)
    refine v_top (y := nI (1)) (by rw [hP]; rfl) ?_
    refine v_istore_n E dX2_touches_12 rfl (by decide) rfl ?_
    refine v_iconst E dX2_touches_13 (v := nI 0) rfl ?_
    refine v_istore E dX2_touches_14 (by decide) rfl ?_
    have L16_1 : ∀ (n16 : Nat) (mm : Nat) (t : Nat), z_nt S - t < n16 → (mm = msk (ztou S c) t) → (t ≤ z_nt S) → V p9 l e9 (headSpec wsX2_touches { frames := 2, cells := 0, slots := 0, locals := 43 }).room s9 m9 as9 bl9 me9 cd9 0 0 (vx_MQ bl9 (v_Qo D (wTy cI cZ cQ cJ) True (some (.int (mV (kk1 (zin (nI (c)) (z_nc S))) (nI (msk (ztou S (c)) (z_nt S)))))) (wM cI b S (kk1 (zin (nI (c)) (z_nc S)))) A) (v_XC D (wTy cI cZ cQ cJ) (0) exI (wM cI b S th) A) as9 s9 0 0 A) (v_rw D A s9) 5 16 [(2, .int (nI (mm))), (4, .int (nI (t))), (3, .int (nI (1))), (0, .ref (b 0)), (1, .int (nI (c)))] [] (wM cI b S (0)) := by
      intro n16
      induction n16 with
      | zero => intro mm t hm16 hm h3; exact absurd hm16 (Nat.not_lt_zero _)
      | succ n16 ih16 =>
        intro mm t hm16 hm h3
        refine v_iload E dX2_touches_16 1 rfl ?_
        refine v_aload_n E dX2_touches_18 3 rfl rfl ?_
        refine v_get E dX2_touches_19 0 1 hinX2 rfl rfl (by decide) (by decide +kernel) rfl rfl ?_
        refine n_icmp_ge E dX2_touches_22 (by omega) (by omega) (tgt := 62) (by decide) (fun c22 => ?_) (fun c22 => ?_)
        · refine v_iload_n E dX2_touches_62 0 rfl rfl ?_
          exact y_ret E hr (by trivial) (by rw [mV_0 hk0]; rw [hm, show t = z_nt S by omega]) (by rw [hk0]) (by decide) (by decide) dX2_touches_63
        · refine v_iload_n E dX2_touches_25 2 rfl rfl ?_
          refine n_if_eq E dX2_touches_26 (by omega) (tgt := 62) (by decide) (fun c26 => ?_) (fun c26 => ?_)
          · exact absurd c26 (by omega)
          · have hv := vd_le (z_P S t c) (z_F S t c)
            refine v_iload_n E dX2_touches_29 0 rfl rfl ?_
            refine v_aload_n E dX2_touches_30 3 rfl rfl ?_
            refine v_get E dX2_touches_31 0 7 hinX2 rfl rfl (by decide) (by decide +kernel) rfl rfl ?_
            refine v_iload_n E dX2_touches_34 4 rfl rfl ?_
            refine v_iald E dX2_touches_35 2 0 rfl rfl (by omega) (by decide) rfl ?_
            refine v_aload_n E dX2_touches_36 3 rfl rfl ?_
            refine v_iload E dX2_touches_37 1 rfl ?_
            refine v_cVi' E dX2_touches_39 (x_X2_reach l D cI cZ cQ cJ b S (0) hok (t) (by omega)) (cwV 1 E.2.2.2.1 gX2_touches_X2_reach rfl rfl rfl (by decide +kernel) ⟨Nat.le_of_ble_eq_true rfl, Nat.le_of_ble_eq_true rfl⟩) 0 rfl rfl rfl (fun _ h => h) rfl rfl ⟨Nat.le_of_ble_eq_true rfl, Nat.le_of_ble_eq_true rfl⟩ (Nat.le_of_ble_eq_true rfl) ?_
            refine v_iand E dX2_touches_42 (nx_and _ _) ?_
            refine n_if_eq E dX2_touches_43 (Nat.lt_of_le_of_lt Nat.and_le_left (by have := (k9 c).2.1; omega)) (tgt := 53) (by decide) (fun c43 => ?_) (fun c43 => ?_)
            · refine v_iconst E dX2_touches_53 (v := nI 0) rfl ?_
              refine v_ior E dX2_touches_54 (z := nI (mm)) (by rw [nx_or, Nat.or_zero]) ?_
              refine v_istore_n E dX2_touches_55 rfl (by decide) rfl ?_
              refine v_iinc E dX2_touches_56 1 rfl (nI_1 _) (by decide) rfl ?_
              refine v_goto E dX2_touches_59 (tgt := 16) (by decide) ?_
              refine v_lv [1, 0, 2, 3, 4] rfl ?_
              exact ih16 (mm) (t + 1) (by omega) (msk_f hm (decide_eq_false (fun q => q c43))) (by omega)
            · refine v_iconst E dX2_touches_46 (v := nI 1) rfl ?_
              refine v_iload E dX2_touches_47 1 rfl ?_
              refine v_ishl E dX2_touches_49 (n_shl1 (by omega)) ?_
              refine v_goto E dX2_touches_50 (tgt := 54) (by decide) ?_
              refine v_ior E dX2_touches_54 (z := nI ((mm) ||| (2 ^ (t)))) (nx_or _ _) ?_
              refine v_istore_n E dX2_touches_55 rfl (by decide) rfl ?_
              refine v_iinc E dX2_touches_56 1 rfl (nI_1 _) (by decide) rfl ?_
              refine v_goto E dX2_touches_59 (tgt := 16) (by decide) ?_
              refine v_lv [1, 0, 2, 3, 4] rfl ?_
              exact ih16 (mm ||| 2 ^ t) (t + 1) (by omega) (msk_t hm (decide_eq_true (Nat.ne_of_gt c43))) (by omega)
    refine v_lv [2, 0, 1, 3, 4] rfl ?_
    exact L16_1 ((z_nt S - (0)) + 1) (0) (0) (by omega) rfl (by omega)
  · have hkn : kk1 (zin u0 (z_nc S)) ≠ 0 := (by rw [← kk2_tt]; exact kk2_bf (by simpa using hP))
    refine v_top (y := nI (0)) (by rw [show ((zin u0 (z_nc S)) && (true)) = false from by simpa using hP]; rfl) ?_
    refine v_istore_n E dX2_touches_12 rfl (by decide) rfl ?_
    refine v_iconst E dX2_touches_13 (v := nI 0) rfl ?_
    refine v_istore E dX2_touches_14 (by decide) rfl ?_
    refine v_iload E dX2_touches_16 0 rfl ?_
    refine v_aload_n E dX2_touches_18 3 rfl rfl ?_
    refine v_get E dX2_touches_19 0 1 hinX2 rfl rfl (by decide) (by decide +kernel) rfl rfl ?_
    refine n_icmp_ge E dX2_touches_22 (by omega) (by omega) (tgt := 62) (by decide) (fun c22 => ?_) (fun c22 => ?_)
    · refine v_iload_n E dX2_touches_62 2 rfl rfl ?_
      exact y_ret E hr (by trivial) (by rw [mV_n hkn]) rfl (by decide) (by decide) dX2_touches_63
    · refine v_iload_n E dX2_touches_25 1 rfl rfl ?_
      refine n_if_eq E dX2_touches_26 (by omega) (tgt := 62) (by decide) (fun c26 => ?_) (fun c26 => ?_)
      · refine v_iload_n E dX2_touches_62 2 rfl rfl ?_
        exact y_ret E hr (by trivial) (by rw [mV_n hkn]) rfl (by decide) (by decide) dX2_touches_63
      · exact absurd c26 (by omega)

set_option maxHeartbeats 4000000 in
set_option maxRecDepth 100000 in
theorem x_X2_broken (l : Launch) (D : va_G) (cI cZ cQ cJ : ClassId) (b : Nat → Nat) (S : zS) (th : Nat) (hok : zOK S)  (u0 : Int32) : v_Thr l yX2_broken wsX2_broken { frames := 2, cells := 0, slots := 0, locals := 46 } D (wTy cI cZ cQ cJ) [.ref (b 0), .int (u0)] (wM cI b S th) (0) exI (some (.int (mV (kk1 (zin u0 (z_nc S))) (nI (msk (zbro S (iN u0)) (z_nt S)))))) (wM cI b S (kk1 (zin u0 (z_nc S)))) 0 0 := by
  refine v_thrower (cc := cX2_broken) (maxL := 5) (ret := (some .int)) (own := RX2) (lv0 := [(0, .ref (b 0)), (1, .int (u0))]) (by decide) rfl rfl (Nat.le_of_ble_eq_true rfl) rfl ?_
  intro p9 e9 s9 m9 as9 bl9 me9 cd9 A E hA htab hTx hr
  have hinX2 : ∀ w ∈ u_ws RX2 TX2 16, w ∈ wsX2_broken := by decide +kernel
  obtain ⟨⟨k1, k2, k3, k4, k5, k6, k7, k8⟩, k9, k10, k11, k12, k13⟩ := id hok
  have hqn := zqn_le hok
  refine v_iconst E dX2_broken_0 (v := nI 0) rfl ?_
  refine v_istore_n E dX2_broken_1 rfl (by decide) rfl ?_
  refine v_aload_n E dX2_broken_2 1 rfl rfl ?_
  refine v_aload_n E dX2_broken_3 1 rfl rfl ?_
  refine v_iload_n E dX2_broken_4 2 rfl rfl ?_
  refine v_cVi' E dX2_broken_5 (x_X2_isCommit l D cI cZ cQ cJ b S (th) hok ((u0))) (cwV 1 E.2.2.2.1 gX2_broken_X2_isCommit rfl rfl rfl (by decide +kernel) ⟨Nat.le_of_ble_eq_true rfl, Nat.le_of_ble_eq_true rfl⟩) 0 rfl rfl rfl (fun _ h => h) rfl rfl ⟨Nat.le_of_ble_eq_true rfl, Nat.le_of_ble_eq_true rfl⟩ (Nat.le_of_ble_eq_true rfl) ?_
  refine v_iconst E dX2_broken_8 (v := nI 1) rfl ?_
  refine v_top (y := bI (true)) rfl ?_
  refine x_cVn E hA hTx dX2_broken_9 (x_X2_goes l D cI cZ cQ cJ b S (th) hok (zin ((u0)) (z_nc S)) (true)) (cwV 2 E.2.2.2.1 gX2_broken_X2_goes rfl rfl rfl (by decide +kernel) ⟨Nat.le_of_ble_eq_true rfl, Nat.le_of_ble_eq_true rfl⟩) 0 rfl rfl rfl rfl rfl ⟨Nat.le_of_ble_eq_true rfl, Nat.le_of_ble_eq_true rfl⟩ (Nat.le_of_ble_eq_true rfl) ?_
  refine v_w (w' := wM cI b S (kk1 (zin u0 (z_nc S)))) (by rw [kk2_tt]) ?_
  by_cases hP : ((zin u0 (z_nc S)) && (true)) = true
  · have hk0 : kk1 (zin u0 (z_nc S)) = 0 := (by rw [← kk2_tt]; exact kk2_bt hP)
    refine v_w (w' := wM cI b S 0) (by rw [hk0]) ?_
    have h2 := kk1_z hk0
    obtain ⟨c, hc, rfl⟩ := zin_of (by omega) h2
    try simp only [iN_nI (show c < 2 ^ 31 by omega)] at hk0 ⊢
    have hzc := zin_n hc (show z_nc S ≤ 2 ^ 31 by omega)
    refine v_top (y := nI (1)) (by rw [hP]; rfl) ?_
    refine v_istore_n E dX2_broken_12 rfl (by decide) rfl ?_
    refine v_iconst E dX2_broken_13 (v := nI 0) rfl ?_
    refine v_istore E dX2_broken_14 (by decide) rfl ?_
    have L16_1 : ∀ (n16 : Nat) (mm : Nat) (t : Nat), z_nt S - t < n16 → (mm = msk (zbro S c) t) → (t ≤ z_nt S) → V p9 l e9 (headSpec wsX2_broken { frames := 2, cells := 0, slots := 0, locals := 46 }).room s9 m9 as9 bl9 me9 cd9 0 0 (vx_MQ bl9 (v_Qo D (wTy cI cZ cQ cJ) True (some (.int (mV (kk1 (zin (nI (c)) (z_nc S))) (nI (msk (zbro S (c)) (z_nt S)))))) (wM cI b S (kk1 (zin (nI (c)) (z_nc S)))) A) (v_XC D (wTy cI cZ cQ cJ) (0) exI (wM cI b S th) A) as9 s9 0 0 A) (v_rw D A s9) 5 16 [(2, .int (nI (mm))), (4, .int (nI (t))), (3, .int (nI (1))), (0, .ref (b 0)), (1, .int (nI (c)))] [] (wM cI b S (0)) := by
      intro n16
      induction n16 with
      | zero => intro mm t hm16 hm h3; exact absurd hm16 (Nat.not_lt_zero _)
      | succ n16 ih16 =>
        intro mm t hm16 hm h3
        refine v_iload E dX2_broken_16 1 rfl ?_
        refine v_aload_n E dX2_broken_18 3 rfl rfl ?_
        refine v_get E dX2_broken_19 0 1 hinX2 rfl rfl (by decide) (by decide +kernel) rfl rfl ?_
        refine n_icmp_ge E dX2_broken_22 (by omega) (by omega) (tgt := 66) (by decide) (fun c22 => ?_) (fun c22 => ?_)
        · refine v_iload_n E dX2_broken_66 0 rfl rfl ?_
          exact y_ret E hr (by trivial) (by rw [mV_0 hk0]; rw [hm, show t = z_nt S by omega]) (by rw [hk0]) (by decide) (by decide) dX2_broken_67
        · refine v_iload_n E dX2_broken_25 2 rfl rfl ?_
          refine n_if_eq E dX2_broken_26 (by omega) (tgt := 66) (by decide) (fun c26 => ?_) (fun c26 => ?_)
          · exact absurd c26 (by omega)
          · have hv := vd_le (z_P S t c) (z_F S t c)
            refine v_iload_n E dX2_broken_29 0 rfl rfl ?_
            refine v_aload_n E dX2_broken_30 3 rfl rfl ?_
            refine v_iload E dX2_broken_31 1 rfl ?_
            refine v_iload_n E dX2_broken_33 4 rfl rfl ?_
            refine v_cVi' E dX2_broken_34 (x_X2_verdictOf l D cI cZ cQ cJ b S (0) hok (t) (c) (by omega) (by omega)) (cwV 2 E.2.2.2.1 gX2_broken_X2_verdictOf rfl rfl rfl (by decide +kernel) ⟨Nat.le_of_ble_eq_true rfl, Nat.le_of_ble_eq_true rfl⟩) 0 rfl rfl rfl (fun _ h => h) rfl rfl ⟨Nat.le_of_ble_eq_true rfl, Nat.le_of_ble_eq_true rfl⟩ (Nat.le_of_ble_eq_true rfl) ?_
            refine v_iconst E dX2_broken_37 (v := nI 2) rfl ?_
            refine n_icmp_ne E dX2_broken_38 (by omega) (by omega) (tgt := 57) (by decide) (fun c38 => ?_) (fun c38 => ?_)
            · refine v_iconst E dX2_broken_57 (v := nI 0) rfl ?_
              refine v_ior E dX2_broken_58 (z := nI (mm)) (by rw [nx_or, Nat.or_zero]) ?_
              refine v_istore_n E dX2_broken_59 rfl (by decide) rfl ?_
              refine v_iinc E dX2_broken_60 1 rfl (nI_1 _) (by decide) rfl ?_
              refine v_goto E dX2_broken_63 (tgt := 16) (by decide) ?_
              refine v_lv [1, 0, 2, 3, 4] rfl ?_
              exact ih16 (mm) (t + 1) (by omega) (msk_f hm (by unfold zbro; rw [decide_eq_false c38]; rfl)) (by omega)
            · refine v_aload_n E dX2_broken_41 3 rfl rfl ?_
              refine v_iload E dX2_broken_42 1 rfl ?_
              refine v_cVi' E dX2_broken_44 (x_X2_isUnsteady l D cI cZ cQ cJ b S (0) hok (t) (by omega)) (cwV 1 E.2.2.2.1 gX2_broken_X2_isUnsteady rfl rfl rfl (by decide +kernel) ⟨Nat.le_of_ble_eq_true rfl, Nat.le_of_ble_eq_true rfl⟩) 0 rfl rfl rfl (fun _ h => h) rfl rfl ⟨Nat.le_of_ble_eq_true rfl, Nat.le_of_ble_eq_true rfl⟩ (Nat.le_of_ble_eq_true rfl) ?_
              refine b_if_ne E dX2_broken_47 (tgt := 57) (by decide) (fun c47 => ?_) (fun c47 => ?_)
              · refine v_iconst E dX2_broken_57 (v := nI 0) rfl ?_
                refine v_ior E dX2_broken_58 (z := nI (mm)) (by rw [nx_or, Nat.or_zero]) ?_
                refine v_istore_n E dX2_broken_59 rfl (by decide) rfl ?_
                refine v_iinc E dX2_broken_60 1 rfl (nI_1 _) (by decide) rfl ?_
                refine v_goto E dX2_broken_63 (tgt := 16) (by decide) ?_
                refine v_lv [1, 0, 2, 3, 4] rfl ?_
                exact ih16 (mm) (t + 1) (by omega) (msk_f hm (by unfold zbro; rw [c47, Bool.not_true, Bool.and_false])) (by omega)
              · refine v_iconst E dX2_broken_50 (v := nI 1) rfl ?_
                refine v_iload E dX2_broken_51 1 rfl ?_
                refine v_ishl E dX2_broken_53 (n_shl1 (by omega)) ?_
                refine v_goto E dX2_broken_54 (tgt := 58) (by decide) ?_
                refine v_ior E dX2_broken_58 (z := nI ((mm) ||| (2 ^ (t)))) (nx_or _ _) ?_
                refine v_istore_n E dX2_broken_59 rfl (by decide) rfl ?_
                refine v_iinc E dX2_broken_60 1 rfl (nI_1 _) (by decide) rfl ?_
                refine v_goto E dX2_broken_63 (tgt := 16) (by decide) ?_
                refine v_lv [1, 0, 2, 3, 4] rfl ?_
                exact ih16 (mm ||| 2 ^ t) (t + 1) (by omega) (msk_t hm (by unfold zbro; rw [decide_eq_true c38, c47]; rfl)) (by omega)
    refine v_lv [2, 0, 1, 3, 4] rfl ?_
    exact L16_1 ((z_nt S - (0)) + 1) (0) (0) (by omega) rfl (by omega)
  · have hkn : kk1 (zin u0 (z_nc S)) ≠ 0 := (by rw [← kk2_tt]; exact kk2_bf (by simpa using hP))
    refine v_top (y := nI (0)) (by rw [show ((zin u0 (z_nc S)) && (true)) = false from by simpa using hP]; rfl) ?_
    refine v_istore_n E dX2_broken_12 rfl (by decide) rfl ?_
    refine v_iconst E dX2_broken_13 (v := nI 0) rfl ?_
    refine v_istore E dX2_broken_14 (by decide) rfl ?_
    refine v_iload E dX2_broken_16 0 rfl ?_
    refine v_aload_n E dX2_broken_18 3 rfl rfl ?_
    refine v_get E dX2_broken_19 0 1 hinX2 rfl rfl (by decide) (by decide +kernel) rfl rfl ?_
    refine n_icmp_ge E dX2_broken_22 (by omega) (by omega) (tgt := 66) (by decide) (fun c22 => ?_) (fun c22 => ?_)
    · refine v_iload_n E dX2_broken_66 2 rfl rfl ?_
      exact y_ret E hr (by trivial) (by rw [mV_n hkn]) rfl (by decide) (by decide) dX2_broken_67
    · refine v_iload_n E dX2_broken_25 1 rfl rfl ?_
      refine n_if_eq E dX2_broken_26 (by omega) (tgt := 66) (by decide) (fun c26 => ?_) (fun c26 => ?_)
      · refine v_iload_n E dX2_broken_66 2 rfl rfl ?_
        exact y_ret E hr (by trivial) (by rw [mV_n hkn]) rfl (by decide) (by decide) dX2_broken_67
      · exact absurd c26 (by omega)

set_option maxHeartbeats 4000000 in
set_option maxRecDepth 100000 in
theorem x_X2_suspects (l : Launch) (D : va_G) (cI cZ cQ cJ : ClassId) (b : Nat → Nat) (S : zS) (th : Nat) (hok : zOK S)  (u0 : Int32) : v_Thr l yX2_suspects wsX2_suspects { frames := 3, cells := 0, slots := 0, locals := 64 } D (wTy cI cZ cQ cJ) [.ref (b 0), .int (u0)] (wM cI b S th) (0) exI (some (.long (mL (kk2 (zin u0 (z_nt S)) (z_T S (iN u0))) (lN (msk (sus S (iN u0)) (z_B S (iN u0) + 1)))))) (wM cI b S (kk2 (zin u0 (z_nt S)) (z_T S (iN u0)))) 0 0 := by
  refine v_thrower (cc := cX2_suspects) (maxL := 6) (ret := (some .long)) (own := RX2) (lv0 := [(0, .ref (b 0)), (1, .int (u0))]) (by decide) rfl rfl (Nat.le_of_ble_eq_true rfl) rfl ?_
  intro p9 e9 s9 m9 as9 bl9 me9 cd9 A E hA htab hTx hr
  have hinX2 : ∀ w ∈ u_ws RX2 TX2 16, w ∈ wsX2_suspects := by decide +kernel
  obtain ⟨⟨k1, k2, k3, k4, k5, k6, k7, k8⟩, k9, k10, k11, k12, k13⟩ := id hok
  have hqn := zqn_le hok
  refine v_lconst E dX2_suspects_0 (v := lN 0) rfl ?_
  refine v_lstore_n E dX2_suspects_1 rfl (by decide) rfl ?_
  refine v_aload_n E dX2_suspects_2 1 rfl rfl ?_
  refine v_aload_n E dX2_suspects_3 1 rfl rfl ?_
  refine v_iload_n E dX2_suspects_4 2 rfl rfl ?_
  refine v_cVi' E dX2_suspects_5 (x_X2_isTest l D cI cZ cQ cJ b S (th) hok ((u0))) (cwV 1 E.2.2.2.1 gX2_suspects_X2_isTest rfl rfl rfl (by decide +kernel) ⟨Nat.le_of_ble_eq_true rfl, Nat.le_of_ble_eq_true rfl⟩) 0 rfl rfl rfl (fun _ h => h) rfl rfl ⟨Nat.le_of_ble_eq_true rfl, Nat.le_of_ble_eq_true rfl⟩ (Nat.le_of_ble_eq_true rfl) ?_
  refine v_aload_n E dX2_suspects_8 1 rfl rfl ?_
  refine v_iload_n E dX2_suspects_9 2 rfl rfl ?_
  refine v_cVi' E dX2_suspects_10 (x_X2_isInTriage l D cI cZ cQ cJ b S (th) hok ((u0))) (cwV 1 E.2.2.2.1 gX2_suspects_X2_isInTriage rfl rfl rfl (by decide +kernel) ⟨Nat.le_of_ble_eq_true rfl, Nat.le_of_ble_eq_true rfl⟩) 0 rfl rfl rfl (fun _ h => h) rfl rfl ⟨Nat.le_of_ble_eq_true rfl, Nat.le_of_ble_eq_true rfl⟩ (Nat.le_of_ble_eq_true rfl) ?_
  refine x_cVn E hA hTx dX2_suspects_13 (x_X2_goes l D cI cZ cQ cJ b S (th) hok (zin ((u0)) (z_nt S)) (zin ((u0)) (z_nt S) && z_T S (iN u0))) (cwV 2 E.2.2.2.1 gX2_suspects_X2_goes rfl rfl rfl (by decide +kernel) ⟨Nat.le_of_ble_eq_true rfl, Nat.le_of_ble_eq_true rfl⟩) 0 rfl rfl rfl rfl rfl ⟨Nat.le_of_ble_eq_true rfl, Nat.le_of_ble_eq_true rfl⟩ (Nat.le_of_ble_eq_true rfl) ?_
  refine v_w (w' := wM cI b S (kk2 (zin u0 (z_nt S)) (z_T S (iN u0)))) (by rw [kk2_and]) ?_
  by_cases hP : ((zin u0 (z_nt S)) && (zin u0 (z_nt S) && z_T S (iN u0))) = true
  · have hk0 : kk2 (zin u0 (z_nt S)) (z_T S (iN u0)) = 0 := (by rw [← kk2_and]; exact kk2_bt hP)
    refine v_w (w' := wM cI b S 0) (by rw [hk0]) ?_
    obtain ⟨h1, h2⟩ := kk2_0 hk0
    obtain ⟨t, ht, rfl⟩ := zin_of (by omega) h1
    try simp only [iN_nI (show t < 2 ^ 31 by omega)] at hk0 h2 ⊢
    have hzt := zin_n ht (show z_nt S ≤ 2 ^ 31 by omega)
    have hT := h2
    obtain ⟨q1, q2, q3⟩ := k10 t hT
    refine v_top (y := nI (1)) (by rw [hzt, hT]; rfl) ?_
    refine v_istore E dX2_suspects_16 (by decide) rfl ?_
    refine v_iconst E dX2_suspects_18 (v := nI 0) rfl ?_
    refine v_istore E dX2_suspects_19 (by decide) rfl ?_
    have L21_1 : ∀ (n21 : Nat) (mm : Nat) (c : Nat), z_nc S - c < n21 → (mm = msk (sus S t) c) → (c ≤ z_nc S) → V p9 l e9 (headSpec wsX2_suspects { frames := 3, cells := 0, slots := 0, locals := 64 }).room s9 m9 as9 bl9 me9 cd9 0 0 (vx_MQ bl9 (v_Qo D (wTy cI cZ cQ cJ) True (some (.long (mL (kk2 (zin (nI (t)) (z_nt S)) (z_T S (t))) (lN (msk (sus S (t)) (z_B S (t) + 1)))))) (wM cI b S (kk2 (zin (nI (t)) (z_nt S)) (z_T S (t)))) A) (v_XC D (wTy cI cZ cQ cJ) (0) exI (wM cI b S th) A) as9 s9 0 0 A) (v_rw D A s9) 6 21 [(2, .long (lN (mm))), (5, .int (nI (c))), (4, .int (nI (1))), (0, .ref (b 0)), (1, .int (nI (t)))] [] (wM cI b S (0)) := by
      intro n21
      induction n21 with
      | zero => intro mm c hm21 hm h3; exact absurd hm21 (Nat.not_lt_zero _)
      | succ n21 ih21 =>
        intro mm c hm21 hm h3
        refine v_iload E dX2_suspects_21 1 rfl ?_
        refine v_aload_n E dX2_suspects_23 3 rfl rfl ?_
        refine v_get E dX2_suspects_24 0 0 hinX2 rfl rfl (by decide) (by decide +kernel) rfl rfl ?_
        refine n_icmp_ge E dX2_suspects_27 (by omega) (by omega) (tgt := 62) (by decide) (fun c27 => ?_) (fun c27 => ?_)
        · refine v_lload_n E dX2_suspects_62 0 rfl rfl ?_
          exact y_retl E hr (by trivial) (by rw [mL_0 hk0]; rw [hm, show c = z_nc S by omega, msk_to (show z_B S t + 1 ≤ z_nc S by omega) (fun i hi => sus_hi (by omega))]) (by rw [hk0]) (by decide) (by decide) dX2_suspects_63
        · refine v_iload E dX2_suspects_30 2 rfl ?_
          refine n_if_eq E dX2_suspects_32 (by omega) (tgt := 62) (by decide) (fun c32 => ?_) (fun c32 => ?_)
          · exact absurd c32 (by omega)
          · refine v_lload_n E dX2_suspects_35 0 rfl rfl ?_
            refine v_aload_n E dX2_suspects_36 3 rfl rfl ?_
            refine v_iload_n E dX2_suspects_37 4 rfl rfl ?_
            refine v_iload E dX2_suspects_38 1 rfl ?_
            refine v_cVi' E dX2_suspects_40 (x_X2_isSuspect l D cI cZ cQ cJ b S (0) hok (t) (c) (by omega) hT (by omega)) (cwV 2 E.2.2.2.1 gX2_suspects_X2_isSuspect rfl rfl rfl (by decide +kernel) ⟨Nat.le_of_ble_eq_true rfl, Nat.le_of_ble_eq_true rfl⟩) 0 rfl rfl rfl (fun _ h => h) rfl rfl ⟨Nat.le_of_ble_eq_true rfl, Nat.le_of_ble_eq_true rfl⟩ (Nat.le_of_ble_eq_true rfl) ?_
            refine b_if_eq E dX2_suspects_43 (tgt := 53) (by decide) (fun c43 => ?_) (fun c43 => ?_)
            · refine v_lconst E dX2_suspects_53 (v := lN 0) rfl ?_
              refine v_lor E dX2_suspects_54 (z := lN (mm)) (by rw [lx_or, Nat.or_zero]) ?_
              refine v_lstore_n E dX2_suspects_55 rfl (by decide) rfl ?_
              refine v_iinc E dX2_suspects_56 1 rfl (nI_1 _) (by decide) rfl ?_
              refine v_goto E dX2_suspects_59 (tgt := 21) (by decide) ?_
              refine v_lv [1, 0, 2, 3, 4] rfl ?_
              exact ih21 (mm) (c + 1) (by omega) (msk_f hm c43) (by omega)
            · refine v_lconst E dX2_suspects_46 (v := lN 1) rfl ?_
              refine v_iload E dX2_suspects_47 1 rfl ?_
              refine v_lshl E dX2_suspects_49 (l_shl1 (by omega)) ?_
              refine v_goto E dX2_suspects_50 (tgt := 54) (by decide) ?_
              refine v_lor E dX2_suspects_54 (z := lN ((mm) ||| (2 ^ (c)))) (lx_or _ _) ?_
              refine v_lstore_n E dX2_suspects_55 rfl (by decide) rfl ?_
              refine v_iinc E dX2_suspects_56 1 rfl (nI_1 _) (by decide) rfl ?_
              refine v_goto E dX2_suspects_59 (tgt := 21) (by decide) ?_
              refine v_lv [1, 0, 2, 3, 4] rfl ?_
              exact ih21 (mm ||| 2 ^ c) (c + 1) (by omega) (msk_t hm c43) (by omega)
    refine v_lv [2, 0, 1, 3, 4] rfl ?_
    exact L21_1 ((z_nc S - (0)) + 1) (0) (0) (by omega) rfl (by omega)
  · have hkn : kk2 (zin u0 (z_nt S)) (z_T S (iN u0)) ≠ 0 := (by rw [← kk2_and]; exact kk2_bf (by simpa using hP))
    refine v_top (y := nI (0)) (by rw [show ((zin u0 (z_nt S)) && (zin u0 (z_nt S) && z_T S (iN u0))) = false from by simpa using hP]; rfl) ?_
    refine v_istore E dX2_suspects_16 (by decide) rfl ?_
    refine v_iconst E dX2_suspects_18 (v := nI 0) rfl ?_
    refine v_istore E dX2_suspects_19 (by decide) rfl ?_
    refine v_iload E dX2_suspects_21 0 rfl ?_
    refine v_aload_n E dX2_suspects_23 3 rfl rfl ?_
    refine v_get E dX2_suspects_24 0 0 hinX2 rfl rfl (by decide) (by decide +kernel) rfl rfl ?_
    refine n_icmp_ge E dX2_suspects_27 (by omega) (by omega) (tgt := 62) (by decide) (fun c27 => ?_) (fun c27 => ?_)
    · refine v_lload_n E dX2_suspects_62 2 rfl rfl ?_
      exact y_retl E hr (by trivial) (by rw [mL_n hkn]) rfl (by decide) (by decide) dX2_suspects_63
    · refine v_iload E dX2_suspects_30 1 rfl ?_
      refine n_if_eq E dX2_suspects_32 (by omega) (tgt := 62) (by decide) (fun c32 => ?_) (fun c32 => ?_)
      · refine v_lload_n E dX2_suspects_62 2 rfl rfl ?_
        exact y_retl E hr (by trivial) (by rw [mL_n hkn]) rfl (by decide) (by decide) dX2_suspects_63
      · exact absurd c32 (by omega)

set_option maxHeartbeats 4000000 in
set_option maxRecDepth 100000 in
theorem x_X2_candidates (l : Launch) (D : va_G) (cI cZ cQ cJ : ClassId) (b : Nat → Nat) (S : zS) (th : Nat) (hok : zOK S)  (u0 : Int32) : v_Thr l yX2_candidates wsX2_candidates { frames := 3, cells := 0, slots := 0, locals := 68 } D (wTy cI cZ cQ cJ) [.ref (b 0), .int (u0)] (wM cI b S th) (0) exI (some (.long (mL (kk2 (zin u0 (z_nt S)) (z_T S (iN u0))) (lN (msk (cnd S (iN u0)) (z_B S (iN u0) + 1)))))) (wM cI b S (kk2 (zin u0 (z_nt S)) (z_T S (iN u0)))) 0 0 := by
  refine v_thrower (cc := cX2_candidates) (maxL := 6) (ret := (some .long)) (own := RX2) (lv0 := [(0, .ref (b 0)), (1, .int (u0))]) (by decide) rfl rfl (Nat.le_of_ble_eq_true rfl) rfl ?_
  intro p9 e9 s9 m9 as9 bl9 me9 cd9 A E hA htab hTx hr
  have hinX2 : ∀ w ∈ u_ws RX2 TX2 16, w ∈ wsX2_candidates := by decide +kernel
  obtain ⟨⟨k1, k2, k3, k4, k5, k6, k7, k8⟩, k9, k10, k11, k12, k13⟩ := id hok
  have hqn := zqn_le hok
  refine v_lconst E dX2_candidates_0 (v := lN 0) rfl ?_
  refine v_lstore_n E dX2_candidates_1 rfl (by decide) rfl ?_
  refine v_aload_n E dX2_candidates_2 1 rfl rfl ?_
  refine v_aload_n E dX2_candidates_3 1 rfl rfl ?_
  refine v_iload_n E dX2_candidates_4 2 rfl rfl ?_
  refine v_cVi' E dX2_candidates_5 (x_X2_isTest l D cI cZ cQ cJ b S (th) hok ((u0))) (cwV 1 E.2.2.2.1 gX2_candidates_X2_isTest rfl rfl rfl (by decide +kernel) ⟨Nat.le_of_ble_eq_true rfl, Nat.le_of_ble_eq_true rfl⟩) 0 rfl rfl rfl (fun _ h => h) rfl rfl ⟨Nat.le_of_ble_eq_true rfl, Nat.le_of_ble_eq_true rfl⟩ (Nat.le_of_ble_eq_true rfl) ?_
  refine v_aload_n E dX2_candidates_8 1 rfl rfl ?_
  refine v_iload_n E dX2_candidates_9 2 rfl rfl ?_
  refine v_cVi' E dX2_candidates_10 (x_X2_isInTriage l D cI cZ cQ cJ b S (th) hok ((u0))) (cwV 1 E.2.2.2.1 gX2_candidates_X2_isInTriage rfl rfl rfl (by decide +kernel) ⟨Nat.le_of_ble_eq_true rfl, Nat.le_of_ble_eq_true rfl⟩) 0 rfl rfl rfl (fun _ h => h) rfl rfl ⟨Nat.le_of_ble_eq_true rfl, Nat.le_of_ble_eq_true rfl⟩ (Nat.le_of_ble_eq_true rfl) ?_
  refine x_cVn E hA hTx dX2_candidates_13 (x_X2_goes l D cI cZ cQ cJ b S (th) hok (zin ((u0)) (z_nt S)) (zin ((u0)) (z_nt S) && z_T S (iN u0))) (cwV 2 E.2.2.2.1 gX2_candidates_X2_goes rfl rfl rfl (by decide +kernel) ⟨Nat.le_of_ble_eq_true rfl, Nat.le_of_ble_eq_true rfl⟩) 0 rfl rfl rfl rfl rfl ⟨Nat.le_of_ble_eq_true rfl, Nat.le_of_ble_eq_true rfl⟩ (Nat.le_of_ble_eq_true rfl) ?_
  refine v_w (w' := wM cI b S (kk2 (zin u0 (z_nt S)) (z_T S (iN u0)))) (by rw [kk2_and]) ?_
  by_cases hP : ((zin u0 (z_nt S)) && (zin u0 (z_nt S) && z_T S (iN u0))) = true
  · have hk0 : kk2 (zin u0 (z_nt S)) (z_T S (iN u0)) = 0 := (by rw [← kk2_and]; exact kk2_bt hP)
    refine v_w (w' := wM cI b S 0) (by rw [hk0]) ?_
    obtain ⟨h1, h2⟩ := kk2_0 hk0
    obtain ⟨t, ht, rfl⟩ := zin_of (by omega) h1
    try simp only [iN_nI (show t < 2 ^ 31 by omega)] at hk0 h2 ⊢
    have hzt := zin_n ht (show z_nt S ≤ 2 ^ 31 by omega)
    have hT := h2
    obtain ⟨q1, q2, q3⟩ := k10 t hT
    refine v_top (y := nI (1)) (by rw [hzt, hT]; rfl) ?_
    refine v_istore E dX2_candidates_16 (by decide) rfl ?_
    refine v_iconst E dX2_candidates_18 (v := nI 0) rfl ?_
    refine v_istore E dX2_candidates_19 (by decide) rfl ?_
    have L21_1 : ∀ (n21 : Nat) (mm : Nat) (c : Nat), z_nc S - c < n21 → (mm = msk (cnd S t) c) → (c ≤ z_nc S) → V p9 l e9 (headSpec wsX2_candidates { frames := 3, cells := 0, slots := 0, locals := 68 }).room s9 m9 as9 bl9 me9 cd9 0 0 (vx_MQ bl9 (v_Qo D (wTy cI cZ cQ cJ) True (some (.long (mL (kk2 (zin (nI (t)) (z_nt S)) (z_T S (t))) (lN (msk (cnd S (t)) (z_B S (t) + 1)))))) (wM cI b S (kk2 (zin (nI (t)) (z_nt S)) (z_T S (t)))) A) (v_XC D (wTy cI cZ cQ cJ) (0) exI (wM cI b S th) A) as9 s9 0 0 A) (v_rw D A s9) 6 21 [(2, .long (lN (mm))), (5, .int (nI (c))), (4, .int (nI (1))), (0, .ref (b 0)), (1, .int (nI (t)))] [] (wM cI b S (0)) := by
      intro n21
      induction n21 with
      | zero => intro mm c hm21 hm h3; exact absurd hm21 (Nat.not_lt_zero _)
      | succ n21 ih21 =>
        intro mm c hm21 hm h3
        refine v_iload E dX2_candidates_21 1 rfl ?_
        refine v_aload_n E dX2_candidates_23 3 rfl rfl ?_
        refine v_get E dX2_candidates_24 0 0 hinX2 rfl rfl (by decide) (by decide +kernel) rfl rfl ?_
        refine n_icmp_ge E dX2_candidates_27 (by omega) (by omega) (tgt := 62) (by decide) (fun c27 => ?_) (fun c27 => ?_)
        · refine v_lload_n E dX2_candidates_62 0 rfl rfl ?_
          exact y_retl E hr (by trivial) (by rw [mL_0 hk0]; rw [hm, show c = z_nc S by omega, msk_to (show z_B S t + 1 ≤ z_nc S by omega) (fun i hi => cnd_hi (by omega))]) (by rw [hk0]) (by decide) (by decide) dX2_candidates_63
        · refine v_iload E dX2_candidates_30 2 rfl ?_
          refine n_if_eq E dX2_candidates_32 (by omega) (tgt := 62) (by decide) (fun c32 => ?_) (fun c32 => ?_)
          · exact absurd c32 (by omega)
          · refine v_lload_n E dX2_candidates_35 0 rfl rfl ?_
            refine v_aload_n E dX2_candidates_36 3 rfl rfl ?_
            refine v_iload_n E dX2_candidates_37 4 rfl rfl ?_
            refine v_iload E dX2_candidates_38 1 rfl ?_
            refine v_cVi' E dX2_candidates_40 (x_X2_isCandidate l D cI cZ cQ cJ b S (0) hok (t) (c) (by omega) hT (by omega)) (cwV 2 E.2.2.2.1 gX2_candidates_X2_isCandidate rfl rfl rfl (by decide +kernel) ⟨Nat.le_of_ble_eq_true rfl, Nat.le_of_ble_eq_true rfl⟩) 0 rfl rfl rfl (fun _ h => h) rfl rfl ⟨Nat.le_of_ble_eq_true rfl, Nat.le_of_ble_eq_true rfl⟩ (Nat.le_of_ble_eq_true rfl) ?_
            refine b_if_eq E dX2_candidates_43 (tgt := 53) (by decide) (fun c43 => ?_) (fun c43 => ?_)
            · refine v_lconst E dX2_candidates_53 (v := lN 0) rfl ?_
              refine v_lor E dX2_candidates_54 (z := lN (mm)) (by rw [lx_or, Nat.or_zero]) ?_
              refine v_lstore_n E dX2_candidates_55 rfl (by decide) rfl ?_
              refine v_iinc E dX2_candidates_56 1 rfl (nI_1 _) (by decide) rfl ?_
              refine v_goto E dX2_candidates_59 (tgt := 21) (by decide) ?_
              refine v_lv [1, 0, 2, 3, 4] rfl ?_
              exact ih21 (mm) (c + 1) (by omega) (msk_f hm c43) (by omega)
            · refine v_lconst E dX2_candidates_46 (v := lN 1) rfl ?_
              refine v_iload E dX2_candidates_47 1 rfl ?_
              refine v_lshl E dX2_candidates_49 (l_shl1 (by omega)) ?_
              refine v_goto E dX2_candidates_50 (tgt := 54) (by decide) ?_
              refine v_lor E dX2_candidates_54 (z := lN ((mm) ||| (2 ^ (c)))) (lx_or _ _) ?_
              refine v_lstore_n E dX2_candidates_55 rfl (by decide) rfl ?_
              refine v_iinc E dX2_candidates_56 1 rfl (nI_1 _) (by decide) rfl ?_
              refine v_goto E dX2_candidates_59 (tgt := 21) (by decide) ?_
              refine v_lv [1, 0, 2, 3, 4] rfl ?_
              exact ih21 (mm ||| 2 ^ c) (c + 1) (by omega) (msk_t hm c43) (by omega)
    refine v_lv [2, 0, 1, 3, 4] rfl ?_
    exact L21_1 ((z_nc S - (0)) + 1) (0) (0) (by omega) rfl (by omega)
  · have hkn : kk2 (zin u0 (z_nt S)) (z_T S (iN u0)) ≠ 0 := (by rw [← kk2_and]; exact kk2_bf (by simpa using hP))
    refine v_top (y := nI (0)) (by rw [show ((zin u0 (z_nt S)) && (zin u0 (z_nt S) && z_T S (iN u0))) = false from by simpa using hP]; rfl) ?_
    refine v_istore E dX2_candidates_16 (by decide) rfl ?_
    refine v_iconst E dX2_candidates_18 (v := nI 0) rfl ?_
    refine v_istore E dX2_candidates_19 (by decide) rfl ?_
    refine v_iload E dX2_candidates_21 0 rfl ?_
    refine v_aload_n E dX2_candidates_23 3 rfl rfl ?_
    refine v_get E dX2_candidates_24 0 0 hinX2 rfl rfl (by decide) (by decide +kernel) rfl rfl ?_
    refine n_icmp_ge E dX2_candidates_27 (by omega) (by omega) (tgt := 62) (by decide) (fun c27 => ?_) (fun c27 => ?_)
    · refine v_lload_n E dX2_candidates_62 2 rfl rfl ?_
      exact y_retl E hr (by trivial) (by rw [mL_n hkn]) rfl (by decide) (by decide) dX2_candidates_63
    · refine v_iload E dX2_candidates_30 1 rfl ?_
      refine n_if_eq E dX2_candidates_32 (by omega) (tgt := 62) (by decide) (fun c32 => ?_) (fun c32 => ?_)
      · refine v_lload_n E dX2_candidates_62 2 rfl rfl ?_
        exact y_retl E hr (by trivial) (by rw [mL_n hkn]) rfl (by decide) (by decide) dX2_candidates_63
      · exact absurd c32 (by omega)

set_option maxHeartbeats 4000000 in
set_option maxRecDepth 100000 in
theorem x_X2_likeliest (l : Launch) (D : va_G) (cI cZ cQ cJ : ClassId) (b : Nat → Nat) (S : zS) (th : Nat) (hok : zOK S)  (u0 : Int32) : v_Thr l yX2_likeliest wsX2_likeliest { frames := 3, cells := 0, slots := 0, locals := 64 } D (wTy cI cZ cQ cJ) [.ref (b 0), .int (u0)] (wM cI b S th) (0) exI (some (.int (mV (kk2 (zin u0 (z_nt S)) (z_T S (iN u0))) (oI (zlk S (iN u0) (z_B S (iN u0) + 1)))))) (wM cI b S (kk2 (zin u0 (z_nt S)) (z_T S (iN u0)))) 0 0 := by
  refine v_thrower (cc := cX2_likeliest) (maxL := 5) (ret := (some .int)) (own := RX2) (lv0 := [(0, .ref (b 0)), (1, .int (u0))]) (by decide) rfl rfl (Nat.le_of_ble_eq_true rfl) rfl ?_
  intro p9 e9 s9 m9 as9 bl9 me9 cd9 A E hA htab hTx hr
  have hinX2 : ∀ w ∈ u_ws RX2 TX2 16, w ∈ wsX2_likeliest := by decide +kernel
  obtain ⟨⟨k1, k2, k3, k4, k5, k6, k7, k8⟩, k9, k10, k11, k12, k13⟩ := id hok
  have hqn := zqn_le hok
  refine v_aload_n E dX2_likeliest_0 0 rfl rfl ?_
  refine v_aload_n E dX2_likeliest_1 0 rfl rfl ?_
  refine v_iload_n E dX2_likeliest_2 1 rfl rfl ?_
  refine v_cVi' E dX2_likeliest_3 (x_X2_isTest l D cI cZ cQ cJ b S (th) hok ((u0))) (cwV 1 E.2.2.2.1 gX2_likeliest_X2_isTest rfl rfl rfl (by decide +kernel) ⟨Nat.le_of_ble_eq_true rfl, Nat.le_of_ble_eq_true rfl⟩) 0 rfl rfl rfl (fun _ h => h) rfl rfl ⟨Nat.le_of_ble_eq_true rfl, Nat.le_of_ble_eq_true rfl⟩ (Nat.le_of_ble_eq_true rfl) ?_
  refine v_aload_n E dX2_likeliest_6 0 rfl rfl ?_
  refine v_iload_n E dX2_likeliest_7 1 rfl rfl ?_
  refine v_cVi' E dX2_likeliest_8 (x_X2_isInTriage l D cI cZ cQ cJ b S (th) hok ((u0))) (cwV 1 E.2.2.2.1 gX2_likeliest_X2_isInTriage rfl rfl rfl (by decide +kernel) ⟨Nat.le_of_ble_eq_true rfl, Nat.le_of_ble_eq_true rfl⟩) 0 rfl rfl rfl (fun _ h => h) rfl rfl ⟨Nat.le_of_ble_eq_true rfl, Nat.le_of_ble_eq_true rfl⟩ (Nat.le_of_ble_eq_true rfl) ?_
  refine x_cVn E hA hTx dX2_likeliest_11 (x_X2_goes l D cI cZ cQ cJ b S (th) hok (zin ((u0)) (z_nt S)) (zin ((u0)) (z_nt S) && z_T S (iN u0))) (cwV 2 E.2.2.2.1 gX2_likeliest_X2_goes rfl rfl rfl (by decide +kernel) ⟨Nat.le_of_ble_eq_true rfl, Nat.le_of_ble_eq_true rfl⟩) 0 rfl rfl rfl rfl rfl ⟨Nat.le_of_ble_eq_true rfl, Nat.le_of_ble_eq_true rfl⟩ (Nat.le_of_ble_eq_true rfl) ?_
  refine v_w (w' := wM cI b S (kk2 (zin u0 (z_nt S)) (z_T S (iN u0)))) (by rw [kk2_and]) ?_
  refine b_if_ne E dX2_likeliest_14 (tgt := 19) (by decide) (fun c14 => ?_) (fun c14 => ?_)
  · have hk0 : kk2 (zin u0 (z_nt S)) (z_T S (iN u0)) = 0 := (by rw [← kk2_and]; exact kk2_bt c14)
    refine v_w (w' := wM cI b S 0) (by rw [hk0]) ?_
    obtain ⟨h1, h2⟩ := kk2_0 hk0
    obtain ⟨t, ht, rfl⟩ := zin_of (by omega) h1
    try simp only [iN_nI (show t < 2 ^ 31 by omega)] at hk0 h2 ⊢
    have hzt := zin_n ht (show z_nt S ≤ 2 ^ 31 by omega)
    have hT := h2
    obtain ⟨q1, q2, q3⟩ := k10 t hT
    refine v_iconst E dX2_likeliest_19 (v := (-1)) rfl ?_
    refine v_istore_n E dX2_likeliest_20 rfl (by decide) rfl ?_
    refine v_aload_n E dX2_likeliest_21 1 rfl rfl ?_
    refine v_get E dX2_likeliest_22 0 12 hinX2 rfl rfl (by decide) (by decide +kernel) rfl rfl ?_
    refine v_iload_n E dX2_likeliest_25 2 rfl rfl ?_
    refine v_iald E dX2_likeliest_26 7 0 rfl rfl (by omega) (by decide) rfl ?_
    refine v_istore_n E dX2_likeliest_27 rfl (by decide) rfl ?_
    have L28_1 : ∀ (n28 : Nat) (bb : Nat) (k : Nat), k < n28 → (zbest S t (k + 1) (z_B S t + 1) bb) → (z_G S t ≤ k) → (k ≤ z_B S t) → V p9 l e9 (headSpec wsX2_likeliest { frames := 3, cells := 0, slots := 0, locals := 64 }).room s9 m9 as9 bl9 me9 cd9 0 0 (vx_MQ bl9 (v_Qo D (wTy cI cZ cQ cJ) True (some (.int (mV (kk2 (zin (nI (t)) (z_nt S)) (z_T S (t))) (oI (zlk S (t) (z_B S (t) + 1)))))) (wM cI b S (kk2 (zin (nI (t)) (z_nt S)) (z_T S (t)))) A) (v_XC D (wTy cI cZ cQ cJ) (0) exI (wM cI b S th) A) as9 s9 0 0 A) (v_rw D A s9) 5 28 [(2, .int (oI bb)), (3, .int (nI (k))), (0, .ref (b 0)), (1, .int (nI (t)))] [] (wM cI b S (0)) := by
      intro n28
      induction n28 with
      | zero => intro bb k hm28 hb h3 h4; exact absurd hm28 (Nat.not_lt_zero _)
      | succ n28 ih28 =>
        intro bb k hm28 hb h3 h4
        have hbl := zbest_le hb
        refine v_iload_n E dX2_likeliest_28 1 rfl rfl ?_
        refine v_aload_n E dX2_likeliest_29 2 rfl rfl ?_
        refine v_get E dX2_likeliest_30 0 11 hinX2 rfl rfl (by decide) (by decide +kernel) rfl rfl ?_
        refine v_iload_n E dX2_likeliest_33 3 rfl rfl ?_
        refine v_iald E dX2_likeliest_34 (v := nI (z_G S t)) 6 0 rfl rfl (by omega) (by decide) (zgood_t hT) ?_
        refine n_icmp_le E dX2_likeliest_35 (by omega) (by omega) (tgt := 91) (by decide) (fun c35 => ?_) (fun c35 => ?_)
        · refine v_iload_n E dX2_likeliest_91 0 rfl rfl ?_
          exact y_ret E hr (by trivial) (by rw [mV_0 hk0]; rw [zbest_one hb (show zbest S t (k + 1) (z_B S t + 1) (zlk S t (z_B S t + 1)) from zlk_best S t (k + 1) (z_B S t + 1) (fun j hj => sus_lo (by omega)))]) (by rw [hk0]) (by decide) (by decide) dX2_likeliest_92
        · refine v_aload_n E dX2_likeliest_38 2 rfl rfl ?_
          refine v_iload_n E dX2_likeliest_39 3 rfl rfl ?_
          refine v_iload_n E dX2_likeliest_40 1 rfl rfl ?_
          refine v_cVi' E dX2_likeliest_41 (x_X2_isSuspect l D cI cZ cQ cJ b S (0) hok (t) (k) (by omega) hT (by omega)) (cwV 2 E.2.2.2.1 gX2_likeliest_X2_isSuspect rfl rfl rfl (by decide +kernel) ⟨Nat.le_of_ble_eq_true rfl, Nat.le_of_ble_eq_true rfl⟩) 0 rfl rfl rfl (fun _ h => h) rfl rfl ⟨Nat.le_of_ble_eq_true rfl, Nat.le_of_ble_eq_true rfl⟩ (Nat.le_of_ble_eq_true rfl) ?_
          refine b_if_eq E dX2_likeliest_44 (tgt := 71) (by decide) (fun c44 => ?_) (fun c44 => ?_)
          · refine v_iconst E dX2_likeliest_71 (v := nI 0) rfl ?_
            refine v_istore E dX2_likeliest_72 (by decide) rfl ?_
            refine v_iload E dX2_likeliest_74 0 rfl ?_
            refine n_if_eq E dX2_likeliest_76 (by omega) (tgt := 83) (by decide) (fun c76 => ?_) (fun c76 => ?_)
            · refine v_iload_n E dX2_likeliest_83 1 rfl rfl ?_
              refine v_top (y := (oI bb)) rfl ?_
              refine v_istore_n E dX2_likeliest_84 rfl (by decide) rfl ?_
              refine v_iinc E dX2_likeliest_85 2 rfl (n_dec (by omega)) (by decide) rfl ?_
              refine v_goto E dX2_likeliest_88 (tgt := 28) (by decide) ?_
              refine v_lv [1, 0, 3, 4] rfl ?_
              exact ih28 (bb) (k - 1) (by omega) (by rw [show k - 1 + 1 = k by omega]; exact zbest_f hb (fun z => by rw [c44] at z; exact absurd z.1 (by decide))) (by omega) (by omega)
            · exact absurd c76 (by omega)
          · refine v_iload_n E dX2_likeliest_47 0 rfl rfl ?_
            refine v_iconst E dX2_likeliest_48 (v := (-1)) rfl ?_
            refine v_icmp_eq E dX2_likeliest_49 (tgt := 67) (by decide) (fun c49 => ?_) (fun c49 => ?_)
            · have c49 := (oI_m1 (by omega)).mp c49
              refine v_iconst E dX2_likeliest_67 (v := nI 1) rfl ?_
              refine v_goto E dX2_likeliest_68 (tgt := 72) (by decide) ?_
              refine v_istore E dX2_likeliest_72 (by decide) rfl ?_
              refine v_iload E dX2_likeliest_74 0 rfl ?_
              refine n_if_eq E dX2_likeliest_76 (by omega) (tgt := 83) (by decide) (fun c76 => ?_) (fun c76 => ?_)
              · exact absurd c76 (by omega)
              · refine v_iload_n E dX2_likeliest_79 2 rfl rfl ?_
                refine v_goto E dX2_likeliest_80 (tgt := 84) (by decide) ?_
                refine v_top (y := (oI (k + 1))) (oI_s k).symm ?_
                refine v_istore_n E dX2_likeliest_84 rfl (by decide) rfl ?_
                refine v_iinc E dX2_likeliest_85 2 rfl (n_dec (by omega)) (by decide) rfl ?_
                refine v_goto E dX2_likeliest_88 (tgt := 28) (by decide) ?_
                refine v_lv [1, 0, 3, 4] rfl ?_
                exact ih28 (k + 1) (k - 1) (by omega) (by rw [show k - 1 + 1 = k by omega]; exact zbest_t hb (by omega) c44 (Or.inl c49)) (by omega) (by omega)
            · have c49 : bb ≠ 0 := fun q => c49 ((oI_m1 (by omega)).mpr q)
              have hz1 := zag_le hok (t := t) k (by omega)
              have hz2 := zag_le hok (t := t) (bb - 1) (by omega)
              refine v_aload_n E dX2_likeliest_52 2 rfl rfl ?_
              refine v_iload_n E dX2_likeliest_53 3 rfl rfl ?_
              refine v_iload_n E dX2_likeliest_54 1 rfl rfl ?_
              refine v_cVi' E dX2_likeliest_55 (x_X2_against l D cI cZ cQ cJ b S (0) hok (t) (k) (by omega) hT (by omega)) (cwV 2 E.2.2.2.1 gX2_likeliest_X2_against rfl rfl rfl (by decide +kernel) ⟨Nat.le_of_ble_eq_true rfl, Nat.le_of_ble_eq_true rfl⟩) 0 rfl rfl rfl (fun _ h => h) rfl rfl ⟨Nat.le_of_ble_eq_true rfl, Nat.le_of_ble_eq_true rfl⟩ (Nat.le_of_ble_eq_true rfl) ?_
              refine v_aload_n E dX2_likeliest_58 2 rfl rfl ?_
              refine v_iload_n E dX2_likeliest_59 3 rfl rfl ?_
              refine v_iload_n E dX2_likeliest_60 0 rfl rfl ?_
              refine v_top (y := nI (bb - 1)) (oI_n c49) ?_
              refine v_cVi' E dX2_likeliest_61 (x_X2_against l D cI cZ cQ cJ b S (0) hok (t) (bb - 1) (by omega) hT (by omega)) (cwV 2 E.2.2.2.1 gX2_likeliest_X2_against rfl rfl rfl (by decide +kernel) ⟨Nat.le_of_ble_eq_true rfl, Nat.le_of_ble_eq_true rfl⟩) 0 rfl rfl rfl (fun _ h => h) rfl rfl ⟨Nat.le_of_ble_eq_true rfl, Nat.le_of_ble_eq_true rfl⟩ (Nat.le_of_ble_eq_true rfl) ?_
              refine n_icmp_gt E dX2_likeliest_64 (by omega) (by omega) (tgt := 71) (by decide) (fun c64 => ?_) (fun c64 => ?_)
              · refine v_iconst E dX2_likeliest_71 (v := nI 0) rfl ?_
                refine v_istore E dX2_likeliest_72 (by decide) rfl ?_
                refine v_iload E dX2_likeliest_74 0 rfl ?_
                refine n_if_eq E dX2_likeliest_76 (by omega) (tgt := 83) (by decide) (fun c76 => ?_) (fun c76 => ?_)
                · refine v_iload_n E dX2_likeliest_83 1 rfl rfl ?_
                  refine v_top (y := (oI bb)) rfl ?_
                  refine v_istore_n E dX2_likeliest_84 rfl (by decide) rfl ?_
                  refine v_iinc E dX2_likeliest_85 2 rfl (n_dec (by omega)) (by decide) rfl ?_
                  refine v_goto E dX2_likeliest_88 (tgt := 28) (by decide) ?_
                  refine v_lv [1, 0, 3, 4] rfl ?_
                  exact ih28 (bb) (k - 1) (by omega) (by rw [show k - 1 + 1 = k by omega]; exact zbest_f hb (fun z => by rcases z.2 with z | z; exact c49 z; omega)) (by omega) (by omega)
                · exact absurd c76 (by omega)
              · refine v_iconst E dX2_likeliest_67 (v := nI 1) rfl ?_
                refine v_goto E dX2_likeliest_68 (tgt := 72) (by decide) ?_
                refine v_istore E dX2_likeliest_72 (by decide) rfl ?_
                refine v_iload E dX2_likeliest_74 0 rfl ?_
                refine n_if_eq E dX2_likeliest_76 (by omega) (tgt := 83) (by decide) (fun c76 => ?_) (fun c76 => ?_)
                · exact absurd c76 (by omega)
                · refine v_iload_n E dX2_likeliest_79 2 rfl rfl ?_
                  refine v_goto E dX2_likeliest_80 (tgt := 84) (by decide) ?_
                  refine v_top (y := (oI (k + 1))) (oI_s k).symm ?_
                  refine v_istore_n E dX2_likeliest_84 rfl (by decide) rfl ?_
                  refine v_iinc E dX2_likeliest_85 2 rfl (n_dec (by omega)) (by decide) rfl ?_
                  refine v_goto E dX2_likeliest_88 (tgt := 28) (by decide) ?_
                  refine v_lv [1, 0, 3, 4] rfl ?_
                  exact ih28 (k + 1) (k - 1) (by omega) (by rw [show k - 1 + 1 = k by omega]; exact zbest_t hb (by omega) c44 (Or.inr (by omega))) (by omega) (by omega)
    refine v_lv [1, 0, 2, 3] rfl ?_
    exact L28_1 (((z_B S t)) + 1) (0) (z_B S t) (by omega) (Or.inl ⟨rfl, fun j x y => absurd y (by omega)⟩) (by omega) (by omega)
  · have hkn : kk2 (zin u0 (z_nt S)) (z_T S (iN u0)) ≠ 0 := (by rw [← kk2_and]; exact kk2_bf c14)
    refine v_iconst E dX2_likeliest_17 (v := nI 0) rfl ?_
    exact y_ret E hr (by trivial) (by rw [mV_n hkn]) rfl (by decide) (by decide) dX2_likeliest_18

set_option maxHeartbeats 4000000 in
set_option maxRecDepth 100000 in
theorem x_X2_next (l : Launch) (D : va_G) (cI cZ cQ cJ : ClassId) (b : Nat → Nat) (S : zS) (th : Nat) (hok : zOK S)  (u0 : Int32) : v_Thr l yX2_next wsX2_next { frames := 4, cells := 0, slots := 0, locals := 93 } D (wTy cI cZ cQ cJ) [.ref (b 0), .int (u0)] (wM cI b S th) (0) exI (some (.int (mV (kk2 (zin u0 (z_nt S)) (z_T S (iN u0))) (oI (znx S (iN u0) (z_B S (iN u0))))))) (wM cI b S (kk2 (zin u0 (z_nt S)) (z_T S (iN u0)))) 0 0 := by
  refine v_thrower (cc := cX2_next) (maxL := 9) (ret := (some .int)) (own := RX2) (lv0 := [(0, .ref (b 0)), (1, .int (u0))]) (by decide) rfl rfl (Nat.le_of_ble_eq_true rfl) rfl ?_
  intro p9 e9 s9 m9 as9 bl9 me9 cd9 A E hA htab hTx hr
  have hinX2 : ∀ w ∈ u_ws RX2 TX2 16, w ∈ wsX2_next := by decide +kernel
  obtain ⟨⟨k1, k2, k3, k4, k5, k6, k7, k8⟩, k9, k10, k11, k12, k13⟩ := id hok
  have hqn := zqn_le hok
  refine v_aload_n E dX2_next_0 0 rfl rfl ?_
  refine v_aload_n E dX2_next_1 0 rfl rfl ?_
  refine v_iload_n E dX2_next_2 1 rfl rfl ?_
  refine v_cVi' E dX2_next_3 (x_X2_isTest l D cI cZ cQ cJ b S (th) hok ((u0))) (cwV 1 E.2.2.2.1 gX2_next_X2_isTest rfl rfl rfl (by decide +kernel) ⟨Nat.le_of_ble_eq_true rfl, Nat.le_of_ble_eq_true rfl⟩) 0 rfl rfl rfl (fun _ h => h) rfl rfl ⟨Nat.le_of_ble_eq_true rfl, Nat.le_of_ble_eq_true rfl⟩ (Nat.le_of_ble_eq_true rfl) ?_
  refine v_aload_n E dX2_next_6 0 rfl rfl ?_
  refine v_iload_n E dX2_next_7 1 rfl rfl ?_
  refine v_cVi' E dX2_next_8 (x_X2_isInTriage l D cI cZ cQ cJ b S (th) hok ((u0))) (cwV 1 E.2.2.2.1 gX2_next_X2_isInTriage rfl rfl rfl (by decide +kernel) ⟨Nat.le_of_ble_eq_true rfl, Nat.le_of_ble_eq_true rfl⟩) 0 rfl rfl rfl (fun _ h => h) rfl rfl ⟨Nat.le_of_ble_eq_true rfl, Nat.le_of_ble_eq_true rfl⟩ (Nat.le_of_ble_eq_true rfl) ?_
  refine x_cVn E hA hTx dX2_next_11 (x_X2_goes l D cI cZ cQ cJ b S (th) hok (zin ((u0)) (z_nt S)) (zin ((u0)) (z_nt S) && z_T S (iN u0))) (cwV 2 E.2.2.2.1 gX2_next_X2_goes rfl rfl rfl (by decide +kernel) ⟨Nat.le_of_ble_eq_true rfl, Nat.le_of_ble_eq_true rfl⟩) 0 rfl rfl rfl rfl rfl ⟨Nat.le_of_ble_eq_true rfl, Nat.le_of_ble_eq_true rfl⟩ (Nat.le_of_ble_eq_true rfl) ?_
  refine v_w (w' := wM cI b S (kk2 (zin u0 (z_nt S)) (z_T S (iN u0)))) (by rw [kk2_and]) ?_
  refine b_if_ne E dX2_next_14 (tgt := 19) (by decide) (fun c14 => ?_) (fun c14 => ?_)
  · have hk0 : kk2 (zin u0 (z_nt S)) (z_T S (iN u0)) = 0 := (by rw [← kk2_and]; exact kk2_bt c14)
    refine v_w (w' := wM cI b S 0) (by rw [hk0]) ?_
    obtain ⟨h1, h2⟩ := kk2_0 hk0
    obtain ⟨t, ht, rfl⟩ := zin_of (by omega) h1
    try simp only [iN_nI (show t < 2 ^ 31 by omega)] at hk0 h2 ⊢
    have hzt := zin_n ht (show z_nt S ≤ 2 ^ 31 by omega)
    have hT := h2
    obtain ⟨q1, q2, q3⟩ := k10 t hT
    refine v_iconst E dX2_next_19 (v := (-1)) rfl ?_
    refine v_istore_n E dX2_next_20 rfl (by decide) rfl ?_
    refine v_iconst E dX2_next_21 (v := nI 0) rfl ?_
    refine v_istore_n E dX2_next_22 rfl (by decide) rfl ?_
    refine v_aload_n E dX2_next_23 2 rfl rfl ?_
    refine v_get E dX2_next_24 0 11 hinX2 rfl rfl (by decide) (by decide +kernel) rfl rfl ?_
    refine v_iload_n E dX2_next_27 3 rfl rfl ?_
    refine v_iald E dX2_next_28 (v := nI (z_G S t)) 6 0 rfl rfl (by omega) (by decide) (zgood_t hT) ?_
    refine v_iconst E dX2_next_29 (v := nI 1) rfl ?_
    refine v_iadd E dX2_next_30 (nI_add _ _) ?_
    refine v_istore E dX2_next_31 (by decide) rfl ?_
    have L33_1 : ∀ (n33 : Nat) (bb : Nat) (w : Nat) (k : Nat), z_B S t - k < n33 → (bb = znx S t k) → (bb ≠ 0 → w = 1000 * zwt S t (bb - 1) + zrn S t (bb - 1)) → (w ≤ 100000) → (z_G S t + 1 ≤ k) → (k ≤ z_B S t) → V p9 l e9 (headSpec wsX2_next { frames := 4, cells := 0, slots := 0, locals := 93 }).room s9 m9 as9 bl9 me9 cd9 0 0 (vx_MQ bl9 (v_Qo D (wTy cI cZ cQ cJ) True (some (.int (mV (kk2 (zin (nI (t)) (z_nt S)) (z_T S (t))) (oI (znx S (t) (z_B S (t))))))) (wM cI b S (kk2 (zin (nI (t)) (z_nt S)) (z_T S (t)))) A) (v_XC D (wTy cI cZ cQ cJ) (0) exI (wM cI b S th) A) as9 s9 0 0 A) (v_rw D A s9) 9 33 [(2, .int (oI bb)), (3, .int (nI (w))), (4, .int (nI (k))), (0, .ref (b 0)), (1, .int (nI (t)))] [] (wM cI b S (0)) := by
      intro n33
      induction n33 with
      | zero => intro bb w k hm33 hb hw hwl h3 h4; exact absurd hm33 (Nat.not_lt_zero _)
      | succ n33 ih33 =>
        intro bb w k hm33 hb hw hwl h3 h4
        have hbl : bb ≤ k := by rw [hb]; exact znx_le S t k
        refine v_iload E dX2_next_33 2 rfl ?_
        refine v_aload_n E dX2_next_35 3 rfl rfl ?_
        refine v_get E dX2_next_36 0 12 hinX2 rfl rfl (by decide) (by decide +kernel) rfl rfl ?_
        refine v_iload_n E dX2_next_39 4 rfl rfl ?_
        refine v_iald E dX2_next_40 7 0 rfl rfl (by omega) (by decide) rfl ?_
        refine n_icmp_ge E dX2_next_41 (by omega) (by omega) (tgt := 172) (by decide) (fun c41 => ?_) (fun c41 => ?_)
        · refine v_iload_n E dX2_next_172 0 rfl rfl ?_
          exact y_ret E hr (by trivial) (by rw [mV_0 hk0]; rw [hb, show k = z_B S t by omega]) (by rw [hk0]) (by decide) (by decide) dX2_next_173
        · have hzw := zwt_le (S := S) (t := t) (c := k) (by omega) (by omega)
          have hzr := zrn_le hok t k
          have hc1 := ct_le (cnd S t) (k + 1)
          have hc2 : zcc S t ≤ z_B S t + 1 := ct_le _ _
          have hP := zP_le hok t k
          have hF := zF_le hok t k
          refine v_aload_n E dX2_next_44 3 rfl rfl ?_
          refine v_iload_n E dX2_next_45 4 rfl rfl ?_
          refine v_aload_n E dX2_next_46 3 rfl rfl ?_
          refine v_get E dX2_next_47 0 11 hinX2 rfl rfl (by decide) (by decide +kernel) rfl rfl ?_
          refine v_iload_n E dX2_next_50 4 rfl rfl ?_
          refine v_iald E dX2_next_51 (v := nI (z_G S t)) 6 0 rfl rfl (by omega) (by decide) (zgood_t hT) ?_
          refine v_iconst E dX2_next_52 (v := nI 1) rfl ?_
          refine v_iadd E dX2_next_53 (nI_add _ _) ?_
          refine v_iload E dX2_next_54 2 rfl ?_
          refine v_cVi' E dX2_next_56 (x_X2_counts l D cI cZ cQ cJ b S (0) hok (t) (z_G S t + 1) (k) (by omega) hT (by omega) (by omega)) (cwV 3 E.2.2.2.1 gX2_next_X2_counts rfl rfl rfl (by decide +kernel) ⟨Nat.le_of_ble_eq_true rfl, Nat.le_of_ble_eq_true rfl⟩) 0 rfl rfl rfl (fun _ h => h) rfl rfl ⟨Nat.le_of_ble_eq_true rfl, Nat.le_of_ble_eq_true rfl⟩ (Nat.le_of_ble_eq_true rfl) ?_
          refine v_top (y := nI (ct (cnd S t) (k + 1))) (congrArg nI (sr_cnd (by omega))) ?_
          refine v_istore E dX2_next_59 (by decide) rfl ?_
          refine v_aload_n E dX2_next_61 4 rfl rfl ?_
          refine v_iload_n E dX2_next_62 5 rfl rfl ?_
          refine v_iload E dX2_next_63 3 rfl ?_
          refine v_iconst E dX2_next_65 (v := nI 1) rfl ?_
          refine v_iadd E dX2_next_66 (nI_add _ _) ?_
          refine v_aload_n E dX2_next_67 4 rfl rfl ?_
          refine v_get E dX2_next_68 0 12 hinX2 rfl rfl (by decide) (by decide +kernel) rfl rfl ?_
          refine v_iload_n E dX2_next_71 5 rfl rfl ?_
          refine v_iald E dX2_next_72 7 0 rfl rfl (by omega) (by decide) rfl ?_
          refine v_cVi' E dX2_next_73 (x_X2_counts l D cI cZ cQ cJ b S (0) hok (t) (k + 1) (z_B S (t)) (by omega) hT (by omega) (by omega)) (cwV 3 E.2.2.2.1 gX2_next_X2_counts rfl rfl rfl (by decide +kernel) ⟨Nat.le_of_ble_eq_true rfl, Nat.le_of_ble_eq_true rfl⟩) 0 rfl rfl rfl (fun _ h => h) rfl rfl ⟨Nat.le_of_ble_eq_true rfl, Nat.le_of_ble_eq_true rfl⟩ (Nat.le_of_ble_eq_true rfl) ?_
          refine v_top (y := nI (zcc S t - ct (cnd S t) (k + 1))) (congrArg nI (sr_bh (by omega))) ?_
          refine v_istore E dX2_next_76 (by decide) rfl ?_
          refine v_sipush E dX2_next_78 (v := nI 1000) rfl ?_
          refine v_iload E dX2_next_81 1 rfl ?_
          refine v_iload E dX2_next_83 0 rfl ?_
          refine n_icmp_le E dX2_next_85 (by omega) (by omega) (tgt := 93) (by decide) (fun c85 => ?_) (fun c85 => ?_)
          · refine v_iload E dX2_next_93 0 rfl ?_
            refine v_top (y := nI (zwt S t k)) (congrArg nI (by unfold zwt zmax; split <;> omega)) ?_
            refine v_imul E dX2_next_95 (pk_mul _ _) ?_
            refine v_aload_n E dX2_next_96 5 rfl rfl ?_
            refine v_get E dX2_next_97 0 9 hinX2 rfl rfl (by decide) (by decide +kernel) rfl rfl ?_
            refine v_bipush E dX2_next_100 (v := nI 40) rfl ?_
            refine v_iload_n E dX2_next_102 6 rfl rfl ?_
            refine v_imul E dX2_next_103 (pk_mul _ _) ?_
            refine v_iload E dX2_next_104 4 rfl ?_
            refine v_iadd E dX2_next_106 (nI_add _ _) ?_
            refine v_iald E dX2_next_107 (v := nI (z_P S (t) (k))) 4 0 rfl rfl (by omega) (by decide) (zP_e (by omega)) ?_
            refine v_iadd E dX2_next_108 (nI_add _ _) ?_
            refine v_aload_n E dX2_next_109 5 rfl rfl ?_
            refine v_get E dX2_next_110 0 10 hinX2 rfl rfl (by decide) (by decide +kernel) rfl rfl ?_
            refine v_bipush E dX2_next_113 (v := nI 40) rfl ?_
            refine v_iload_n E dX2_next_115 6 rfl rfl ?_
            refine v_imul E dX2_next_116 (pk_mul _ _) ?_
            refine v_iload E dX2_next_117 4 rfl ?_
            refine v_iadd E dX2_next_119 (nI_add _ _) ?_
            refine v_iald E dX2_next_120 (v := nI (z_F S (t) (k))) 5 0 rfl rfl (by omega) (by decide) (zF_e (by omega)) ?_
            refine v_iadd E dX2_next_121 (nI_add _ _) ?_
            refine v_top (y := nI (1000 * zwt S t k + zrn S t k)) (congrArg nI (by unfold zrn; omega)) ?_
            refine v_istore E dX2_next_122 (by decide) rfl ?_
            refine v_iload_n E dX2_next_124 3 rfl rfl ?_
            refine v_iconst E dX2_next_125 (v := (-1)) rfl ?_
            refine v_icmp_eq E dX2_next_126 (tgt := 135) (by decide) (fun c126 => ?_) (fun c126 => ?_)
            · have c126 := (oI_m1 (by omega)).mp c126
              refine v_iconst E dX2_next_135 (v := nI 1) rfl ?_
              refine v_goto E dX2_next_136 (tgt := 140) (by decide) ?_
              refine v_istore E dX2_next_140 (by decide) rfl ?_
              refine v_iload E dX2_next_142 0 rfl ?_
              refine n_if_eq E dX2_next_144 (by omega) (tgt := 152) (by decide) (fun c144 => ?_) (fun c144 => ?_)
              · exact absurd c144 (by omega)
              · refine v_iload E dX2_next_147 6 rfl ?_
                refine v_goto E dX2_next_149 (tgt := 153) (by decide) ?_
                refine v_top (y := (oI (k + 1))) (oI_s k).symm ?_
                refine v_istore_n E dX2_next_153 rfl (by decide) rfl ?_
                refine v_iload E dX2_next_154 1 rfl ?_
                refine n_if_eq E dX2_next_156 (by omega) (tgt := 164) (by decide) (fun c156 => ?_) (fun c156 => ?_)
                · exact absurd c156 (by omega)
                · refine v_iload E dX2_next_159 2 rfl ?_
                  refine v_goto E dX2_next_161 (tgt := 165) (by decide) ?_
                  refine v_istore_n E dX2_next_165 rfl (by decide) rfl ?_
                  refine v_iinc E dX2_next_166 6 rfl (nI_1 _) (by decide) rfl ?_
                  refine v_goto E dX2_next_169 (tgt := 33) (by decide) ?_
                  refine v_lv [2, 1, 0, 7, 8] rfl ?_
                  exact ih33 (k + 1) (1000 * zwt S t k + zrn S t k) (k + 1) (by omega) (znx_t hb ⟨by omega, c41⟩ (Or.inl c126)) (fun _ => rfl) (by omega) (by omega) (by omega)
            · have c126 : bb ≠ 0 := fun q => c126 ((oI_m1 (by omega)).mpr q)
              refine v_iload E dX2_next_129 0 rfl ?_
              refine v_iload_n E dX2_next_131 4 rfl rfl ?_
              refine n_icmp_ge E dX2_next_132 (by omega) (by omega) (tgt := 139) (by decide) (fun c132 => ?_) (fun c132 => ?_)
              · refine v_iconst E dX2_next_139 (v := nI 0) rfl ?_
                refine v_istore E dX2_next_140 (by decide) rfl ?_
                refine v_iload E dX2_next_142 0 rfl ?_
                refine n_if_eq E dX2_next_144 (by omega) (tgt := 152) (by decide) (fun c144 => ?_) (fun c144 => ?_)
                · refine v_iload_n E dX2_next_152 4 rfl rfl ?_
                  refine v_top (y := (oI bb)) rfl ?_
                  refine v_istore_n E dX2_next_153 rfl (by decide) rfl ?_
                  refine v_iload E dX2_next_154 1 rfl ?_
                  refine n_if_eq E dX2_next_156 (by omega) (tgt := 164) (by decide) (fun c156 => ?_) (fun c156 => ?_)
                  · refine v_iload_n E dX2_next_164 5 rfl rfl ?_
                    refine v_istore_n E dX2_next_165 rfl (by decide) rfl ?_
                    refine v_iinc E dX2_next_166 6 rfl (nI_1 _) (by decide) rfl ?_
                    refine v_goto E dX2_next_169 (tgt := 33) (by decide) ?_
                    refine v_lv [2, 1, 0, 7, 8] rfl ?_
                    exact ih33 (bb) (w) (k + 1) (by omega) (znx_f hb (fun q => by obtain ⟨-, z⟩ := q; have hw9 := hw c126; have hr9 := zrn_le hok t (bb - 1); omega)) hw hwl (by omega) (by omega)
                  · exact absurd c156 (by omega)
                · exact absurd c144 (by omega)
              · refine v_iconst E dX2_next_135 (v := nI 1) rfl ?_
                refine v_goto E dX2_next_136 (tgt := 140) (by decide) ?_
                refine v_istore E dX2_next_140 (by decide) rfl ?_
                refine v_iload E dX2_next_142 0 rfl ?_
                refine n_if_eq E dX2_next_144 (by omega) (tgt := 152) (by decide) (fun c144 => ?_) (fun c144 => ?_)
                · exact absurd c144 (by omega)
                · refine v_iload E dX2_next_147 6 rfl ?_
                  refine v_goto E dX2_next_149 (tgt := 153) (by decide) ?_
                  refine v_top (y := (oI (k + 1))) (oI_s k).symm ?_
                  refine v_istore_n E dX2_next_153 rfl (by decide) rfl ?_
                  refine v_iload E dX2_next_154 1 rfl ?_
                  refine n_if_eq E dX2_next_156 (by omega) (tgt := 164) (by decide) (fun c156 => ?_) (fun c156 => ?_)
                  · exact absurd c156 (by omega)
                  · refine v_iload E dX2_next_159 2 rfl ?_
                    refine v_goto E dX2_next_161 (tgt := 165) (by decide) ?_
                    refine v_istore_n E dX2_next_165 rfl (by decide) rfl ?_
                    refine v_iinc E dX2_next_166 6 rfl (nI_1 _) (by decide) rfl ?_
                    refine v_goto E dX2_next_169 (tgt := 33) (by decide) ?_
                    refine v_lv [2, 1, 0, 7, 8] rfl ?_
                    exact ih33 (k + 1) (1000 * zwt S t k + zrn S t k) (k + 1) (by omega) (znx_t hb ⟨by omega, c41⟩ (by have hw9 := hw c126; have hr9 := zrn_le hok t (bb - 1); omega)) (fun _ => rfl) (by omega) (by omega) (by omega)
          · refine v_iload E dX2_next_88 1 rfl ?_
            refine v_goto E dX2_next_90 (tgt := 95) (by decide) ?_
            refine v_top (y := nI (zwt S t k)) (congrArg nI (by unfold zwt zmax; split <;> omega)) ?_
            refine v_imul E dX2_next_95 (pk_mul _ _) ?_
            refine v_aload_n E dX2_next_96 5 rfl rfl ?_
            refine v_get E dX2_next_97 0 9 hinX2 rfl rfl (by decide) (by decide +kernel) rfl rfl ?_
            refine v_bipush E dX2_next_100 (v := nI 40) rfl ?_
            refine v_iload_n E dX2_next_102 6 rfl rfl ?_
            refine v_imul E dX2_next_103 (pk_mul _ _) ?_
            refine v_iload E dX2_next_104 4 rfl ?_
            refine v_iadd E dX2_next_106 (nI_add _ _) ?_
            refine v_iald E dX2_next_107 (v := nI (z_P S (t) (k))) 4 0 rfl rfl (by omega) (by decide) (zP_e (by omega)) ?_
            refine v_iadd E dX2_next_108 (nI_add _ _) ?_
            refine v_aload_n E dX2_next_109 5 rfl rfl ?_
            refine v_get E dX2_next_110 0 10 hinX2 rfl rfl (by decide) (by decide +kernel) rfl rfl ?_
            refine v_bipush E dX2_next_113 (v := nI 40) rfl ?_
            refine v_iload_n E dX2_next_115 6 rfl rfl ?_
            refine v_imul E dX2_next_116 (pk_mul _ _) ?_
            refine v_iload E dX2_next_117 4 rfl ?_
            refine v_iadd E dX2_next_119 (nI_add _ _) ?_
            refine v_iald E dX2_next_120 (v := nI (z_F S (t) (k))) 5 0 rfl rfl (by omega) (by decide) (zF_e (by omega)) ?_
            refine v_iadd E dX2_next_121 (nI_add _ _) ?_
            refine v_top (y := nI (1000 * zwt S t k + zrn S t k)) (congrArg nI (by unfold zrn; omega)) ?_
            refine v_istore E dX2_next_122 (by decide) rfl ?_
            refine v_iload_n E dX2_next_124 3 rfl rfl ?_
            refine v_iconst E dX2_next_125 (v := (-1)) rfl ?_
            refine v_icmp_eq E dX2_next_126 (tgt := 135) (by decide) (fun c126 => ?_) (fun c126 => ?_)
            · have c126 := (oI_m1 (by omega)).mp c126
              refine v_iconst E dX2_next_135 (v := nI 1) rfl ?_
              refine v_goto E dX2_next_136 (tgt := 140) (by decide) ?_
              refine v_istore E dX2_next_140 (by decide) rfl ?_
              refine v_iload E dX2_next_142 0 rfl ?_
              refine n_if_eq E dX2_next_144 (by omega) (tgt := 152) (by decide) (fun c144 => ?_) (fun c144 => ?_)
              · exact absurd c144 (by omega)
              · refine v_iload E dX2_next_147 6 rfl ?_
                refine v_goto E dX2_next_149 (tgt := 153) (by decide) ?_
                refine v_top (y := (oI (k + 1))) (oI_s k).symm ?_
                refine v_istore_n E dX2_next_153 rfl (by decide) rfl ?_
                refine v_iload E dX2_next_154 1 rfl ?_
                refine n_if_eq E dX2_next_156 (by omega) (tgt := 164) (by decide) (fun c156 => ?_) (fun c156 => ?_)
                · exact absurd c156 (by omega)
                · refine v_iload E dX2_next_159 2 rfl ?_
                  refine v_goto E dX2_next_161 (tgt := 165) (by decide) ?_
                  refine v_istore_n E dX2_next_165 rfl (by decide) rfl ?_
                  refine v_iinc E dX2_next_166 6 rfl (nI_1 _) (by decide) rfl ?_
                  refine v_goto E dX2_next_169 (tgt := 33) (by decide) ?_
                  refine v_lv [2, 1, 0, 7, 8] rfl ?_
                  exact ih33 (k + 1) (1000 * zwt S t k + zrn S t k) (k + 1) (by omega) (znx_t hb ⟨by omega, c41⟩ (Or.inl c126)) (fun _ => rfl) (by omega) (by omega) (by omega)
            · have c126 : bb ≠ 0 := fun q => c126 ((oI_m1 (by omega)).mpr q)
              refine v_iload E dX2_next_129 0 rfl ?_
              refine v_iload_n E dX2_next_131 4 rfl rfl ?_
              refine n_icmp_ge E dX2_next_132 (by omega) (by omega) (tgt := 139) (by decide) (fun c132 => ?_) (fun c132 => ?_)
              · refine v_iconst E dX2_next_139 (v := nI 0) rfl ?_
                refine v_istore E dX2_next_140 (by decide) rfl ?_
                refine v_iload E dX2_next_142 0 rfl ?_
                refine n_if_eq E dX2_next_144 (by omega) (tgt := 152) (by decide) (fun c144 => ?_) (fun c144 => ?_)
                · refine v_iload_n E dX2_next_152 4 rfl rfl ?_
                  refine v_top (y := (oI bb)) rfl ?_
                  refine v_istore_n E dX2_next_153 rfl (by decide) rfl ?_
                  refine v_iload E dX2_next_154 1 rfl ?_
                  refine n_if_eq E dX2_next_156 (by omega) (tgt := 164) (by decide) (fun c156 => ?_) (fun c156 => ?_)
                  · refine v_iload_n E dX2_next_164 5 rfl rfl ?_
                    refine v_istore_n E dX2_next_165 rfl (by decide) rfl ?_
                    refine v_iinc E dX2_next_166 6 rfl (nI_1 _) (by decide) rfl ?_
                    refine v_goto E dX2_next_169 (tgt := 33) (by decide) ?_
                    refine v_lv [2, 1, 0, 7, 8] rfl ?_
                    exact ih33 (bb) (w) (k + 1) (by omega) (znx_f hb (fun q => by obtain ⟨-, z⟩ := q; have hw9 := hw c126; have hr9 := zrn_le hok t (bb - 1); omega)) hw hwl (by omega) (by omega)
                  · exact absurd c156 (by omega)
                · exact absurd c144 (by omega)
              · refine v_iconst E dX2_next_135 (v := nI 1) rfl ?_
                refine v_goto E dX2_next_136 (tgt := 140) (by decide) ?_
                refine v_istore E dX2_next_140 (by decide) rfl ?_
                refine v_iload E dX2_next_142 0 rfl ?_
                refine n_if_eq E dX2_next_144 (by omega) (tgt := 152) (by decide) (fun c144 => ?_) (fun c144 => ?_)
                · exact absurd c144 (by omega)
                · refine v_iload E dX2_next_147 6 rfl ?_
                  refine v_goto E dX2_next_149 (tgt := 153) (by decide) ?_
                  refine v_top (y := (oI (k + 1))) (oI_s k).symm ?_
                  refine v_istore_n E dX2_next_153 rfl (by decide) rfl ?_
                  refine v_iload E dX2_next_154 1 rfl ?_
                  refine n_if_eq E dX2_next_156 (by omega) (tgt := 164) (by decide) (fun c156 => ?_) (fun c156 => ?_)
                  · exact absurd c156 (by omega)
                  · refine v_iload E dX2_next_159 2 rfl ?_
                    refine v_goto E dX2_next_161 (tgt := 165) (by decide) ?_
                    refine v_istore_n E dX2_next_165 rfl (by decide) rfl ?_
                    refine v_iinc E dX2_next_166 6 rfl (nI_1 _) (by decide) rfl ?_
                    refine v_goto E dX2_next_169 (tgt := 33) (by decide) ?_
                    refine v_lv [2, 1, 0, 7, 8] rfl ?_
                    exact ih33 (k + 1) (1000 * zwt S t k + zrn S t k) (k + 1) (by omega) (znx_t hb ⟨by omega, c41⟩ (by have hw9 := hw c126; have hr9 := zrn_le hok t (bb - 1); omega)) (fun _ => rfl) (by omega) (by omega) (by omega)
    refine v_lv [2, 1, 0, 3, 4] rfl ?_
    exact L33_1 ((z_B S t - (z_G S t + 1)) + 1) (0) (0) (z_G S t + 1) (by omega) (znx_z _ (by omega)) (fun q => absurd rfl q) (by omega) (by omega) (by omega)
  · have hkn : kk2 (zin u0 (z_nt S)) (z_T S (iN u0)) ≠ 0 := (by rw [← kk2_and]; exact kk2_bf c14)
    refine v_iconst E dX2_next_17 (v := nI 0) rfl ?_
    exact y_ret E hr (by trivial) (by rw [mV_n hkn]) rfl (by decide) (by decide) dX2_next_18

