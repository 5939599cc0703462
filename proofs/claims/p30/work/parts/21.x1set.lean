/-! ===== the class: settings ===== -/
set_option maxHeartbeats 4000000 in
set_option maxRecDepth 100000 in
theorem x_X1_setUses (l : Launch) (D : va_G) (cI cZ cQ cJ : ClassId) (a : Nat → Nat) (S : zS) (hok : zOK S) (hl : l.stackTraces = false) (u0 u1 : Int32) : v_Thr l yX1_setUses wsX1_setUses { frames := 7, cells := 1, slots := 6, locals := 110 } D (wTy cI cZ cQ cJ) [.ref (a 0), .int (u0), .int (u1)] (wX cI cZ cQ a S) (kk2 (zin u0 16) (zin u1 65536)) exIG (some (.int (nI (z_U S (iN u0))))) (wX cI cZ cQ a (zs_U S (va_up (z_U S) (iN u0) (iN u1)))) 1 6 := by
  refine v_thrower (cc := cX1_setUses) (maxL := 4) (ret := (some .int)) (own := RX1) (lv0 := [(0, .ref (a 0)), (1, .int (u0)), (2, .int (u1))]) (by decide) rfl rfl (Nat.le_of_ble_eq_true rfl) rfl ?_
  intro p9 e9 s9 m9 as9 bl9 me9 cd9 A E hA htab hTx hr
  have hinX1 : ∀ w ∈ u_ws RX1 TX1 15, w ∈ wsX1_setUses := by decide +kernel
  obtain ⟨⟨k1, k2, k3, k4, k5, k6, k7, k8⟩, k9, k10, k11, k12, k13⟩ := id hok
  refine v_iload_n E dX1_setUses_0 1 rfl rfl ?_
  refine v_if_lt E dX1_setUses_1 (tgt := 10) (by decide) (fun c1 => ?_) (fun c1 => ?_)
  · have hk9 : kk2 (zin u0 16) (zin u1 65536) = 1 := kk2_f (zin_lo c1)
    exact x_throwI E htab hTx hl (is := 63) (text := "no such part") (by decide +kernel) dX1_setUses_10 dX1_setUses_13 dX1_setUses_14 dX1_setUses_16 dX1_setUses_19 (by decide +kernel) (by decide +kernel) (fun w h => List.mem_cons_of_mem _ (List.mem_append_left _ (List.mem_append_right _ h))) (by rw [hk9]; decide) (by rw [hk9]; rfl) (Nat.le_of_ble_eq_true rfl) (Nat.le_of_ble_eq_true rfl) (Nat.le_of_ble_eq_true rfl) (Nat.le_of_ble_eq_true rfl) (by decide) (by decide)
  · refine v_iload_n E dX1_setUses_4 1 rfl rfl ?_
    refine v_bipush E dX1_setUses_5 (v := nI 16) rfl ?_
    refine v_icmp_lt E dX1_setUses_7 (tgt := 20) (by decide) (fun c7 => ?_) (fun c7 => ?_)
    · obtain ⟨i, hi, rfl⟩ := zin_ok (n := 16) (by decide) c1 c7
      try simp only [iN_nI (show i < 2 ^ 31 by omega)]
      refine v_iload_n E dX1_setUses_20 2 rfl rfl ?_
      have hp21 : kk1 (zin ((u1)) 65536) ≠ 0 → kk2 (zin (nI (i)) 16) (zin u1 65536) ≠ 0 ∧ exG (kk1 (zin ((u1)) 65536)) = exIG (kk2 (zin (nI (i)) 16) (zin u1 65536)) := by
        intro hk
        have e9 : kk2 (zin (nI (i)) 16) (zin u1 65536) = 2 := kk2_2 (zin_n hi (by decide)) (kk1_n hk)
        rw [e9]
        exact ⟨by decide, rfl⟩
      refine x_cSp E hA htab hTx dX1_setUses_21 (x_X1_needParts l D cI cZ cQ cJ (wX cI cZ cQ a S) hl ((u1))) (va_cwS 1 E.2.2.2.1 gX1_setUses_X1_needParts rfl rfl rfl (by decide +kernel) ⟨Nat.le_of_ble_eq_true rfl, Nat.le_of_ble_eq_true rfl⟩) rfl rfl ⟨Nat.le_of_ble_eq_true rfl, Nat.le_of_ble_eq_true rfl⟩ (Nat.le_of_ble_eq_true rfl) hp21 (by decide) (by decide) (fun hk21 => ?_)
      obtain ⟨j, hj, rfl⟩ := zin_of (by decide) (kk1_z hk21)
      try simp only [iN_nI (show j < 2 ^ 31 by omega)]
      refine v_aload_n E dX1_setUses_24 0 rfl rfl ?_
      refine v_get E dX1_setUses_25 0 0 hinX1 rfl rfl (by decide) (by decide +kernel) rfl rfl ?_
      refine v_iload_n E dX1_setUses_28 1 rfl rfl ?_
      refine v_iald E dX1_setUses_29 1 0 rfl rfl (by omega) (by decide) rfl ?_
      refine v_istore_n E dX1_setUses_30 rfl (by decide) rfl ?_
      refine v_aload_n E dX1_setUses_31 1 rfl rfl ?_
      refine v_get E dX1_setUses_32 0 0 hinX1 rfl rfl (by decide) (by decide +kernel) rfl rfl ?_
      refine v_iload_n E dX1_setUses_35 2 rfl rfl ?_
      refine v_iload_n E dX1_setUses_36 3 rfl rfl ?_
      refine v_iast E dX1_setUses_37 1 0 rfl rfl (by omega) (by decide) (w' := (wX cI cZ cQ a (zs_U S (va_up (z_U S) (i) (j))))) (wX_a_U _ _) ?_
      refine v_iload_n E dX1_setUses_38 0 rfl rfl ?_
      exact x_ret E hr (kk2_t (zin_n hi (by decide)) (zin_n hj (by decide))) rfl (by decide) (by decide) dX1_setUses_39
    · have hk9 : kk2 (zin u0 16) (zin u1 65536) = 1 := kk2_f (zin_ge (n := 16) (by decide) c7)
      exact x_throwI E htab hTx hl (is := 63) (text := "no such part") (by decide +kernel) dX1_setUses_10 dX1_setUses_13 dX1_setUses_14 dX1_setUses_16 dX1_setUses_19 (by decide +kernel) (by decide +kernel) (fun w h => List.mem_cons_of_mem _ (List.mem_append_left _ (List.mem_append_right _ h))) (by rw [hk9]; decide) (by rw [hk9]; rfl) (Nat.le_of_ble_eq_true rfl) (Nat.le_of_ble_eq_true rfl) (Nat.le_of_ble_eq_true rfl) (Nat.le_of_ble_eq_true rfl) (by decide) (by decide)

set_option maxHeartbeats 4000000 in
set_option maxRecDepth 100000 in
theorem x_X1_addCommit (l : Launch) (D : va_G) (cI cZ cQ cJ : ClassId) (a : Nat → Nat) (S : zS) (hok : zOK S) (hl : l.stackTraces = false) (u0 : Int32) : v_Thr l yX1_addCommit wsX1_addCommit { frames := 7, cells := 2, slots := 12, locals := 110 } D (wTy cI cZ cQ cJ) [.ref (a 0), .int (u0)] (wX cI cZ cQ a S) (kk2 (zin u0 65536) (decide (z_nc S < 40))) exGS (some (.int (nI (z_nc S)))) (wX cI cZ cQ a (sadC S (iN u0))) 2 12 := by
  refine v_thrower (cc := cX1_addCommit) (maxL := 3) (ret := (some .int)) (own := RX1) (lv0 := [(0, .ref (a 0)), (1, .int (u0))]) (by decide) rfl rfl (Nat.le_of_ble_eq_true rfl) rfl ?_
  intro p9 e9 s9 m9 as9 bl9 me9 cd9 A E hA htab hTx hr
  have hinX1 : ∀ w ∈ u_ws RX1 TX1 15, w ∈ wsX1_addCommit := by decide +kernel
  obtain ⟨⟨k1, k2, k3, k4, k5, k6, k7, k8⟩, k9, k10, k11, k12, k13⟩ := id hok
  refine v_iload_n E dX1_addCommit_0 1 rfl rfl ?_
  have hp1 : kk1 (zin ((u0)) 65536) ≠ 0 → kk2 (zin u0 65536) (decide (z_nc S < 40)) ≠ 0 ∧ exG (kk1 (zin ((u0)) 65536)) = exGS (kk2 (zin u0 65536) (decide (z_nc S < 40))) := by
    intro hk
    have e9 : kk2 (zin u0 65536) (decide (z_nc S < 40)) = 1 := kk2_f (kk1_n hk)
    rw [e9]
    exact ⟨by decide, rfl⟩
  refine x_cSp E hA htab hTx dX1_addCommit_1 (x_X1_needParts l D cI cZ cQ cJ (wX cI cZ cQ a S) hl ((u0))) (va_cwS 1 E.2.2.2.1 gX1_addCommit_X1_needParts rfl rfl rfl (by decide +kernel) ⟨Nat.le_of_ble_eq_true rfl, Nat.le_of_ble_eq_true rfl⟩) rfl rfl ⟨Nat.le_of_ble_eq_true rfl, Nat.le_of_ble_eq_true rfl⟩ (Nat.le_of_ble_eq_true rfl) hp1 (by decide) (by decide) (fun hk1 => ?_)
  obtain ⟨j, hj, rfl⟩ := zin_of (by decide) (kk1_z hk1)
  try simp only [iN_nI (show j < 2 ^ 31 by omega)]
  refine v_aload_n E dX1_addCommit_4 0 rfl rfl ?_
  refine v_get E dX1_addCommit_5 0 9 hinX1 rfl rfl (by decide) (by decide +kernel) rfl rfl ?_
  refine v_istore_n E dX1_addCommit_8 rfl (by decide) rfl ?_
  refine v_iload_n E dX1_addCommit_9 0 rfl rfl ?_
  refine v_bipush E dX1_addCommit_10 (v := nI 40) rfl ?_
  refine n_icmp_lt E dX1_addCommit_12 (by omega) (by omega) (tgt := 25) (by decide) (fun c12 => ?_) (fun c12 => ?_)
  · refine v_aload_n E dX1_addCommit_25 1 rfl rfl ?_
    refine v_get E dX1_addCommit_26 0 1 hinX1 rfl rfl (by decide) (by decide +kernel) rfl rfl ?_
    refine v_iload_n E dX1_addCommit_29 0 rfl rfl ?_
    refine v_iload_n E dX1_addCommit_30 2 rfl rfl ?_
    refine v_iast E dX1_addCommit_31 2 0 rfl rfl (by omega) (by decide) (w' := (wX cI cZ cQ a (zs_C S (va_up (z_C S) (z_nc S) (j))))) (wX_a_C _ _) ?_
    refine v_aload_n E dX1_addCommit_32 1 rfl rfl ?_
    refine v_iload_n E dX1_addCommit_33 0 rfl rfl ?_
    refine v_iconst E dX1_addCommit_34 (v := nI 1) rfl ?_
    refine v_iadd E dX1_addCommit_35 (nI_add _ _) ?_
    refine v_put E dX1_addCommit_36 0 9 tyX1 tyX1_ok nmX1 hinX1 rfl rfl (by decide) (by decide +kernel) rfl rfl rfl rfl rfl (Nat.le_of_ble_eq_true rfl) (w' := (wX cI cZ cQ a (zs_nc (zs_C S (va_up (z_C S) (z_nc S) (j))) (z_nc S + 1)))) (wX_f_nc _) ?_
    refine v_iload_n E dX1_addCommit_39 0 rfl rfl ?_
    exact x_ret E hr (kk2_t (zin_n hj (by decide)) (decide_eq_true c12)) rfl (by decide) (by decide) dX1_addCommit_40
  · have hk9 : kk2 (zin (nI (j)) 65536) (decide (z_nc S < 40)) = 2 := kk2_2 (zin_n hj (by decide)) (decide_eq_false (by omega))
    exact x_throwS E htab hTx hl (is := 74) (text := "there are 40 commits") (by decide +kernel) dX1_addCommit_15 dX1_addCommit_18 dX1_addCommit_19 dX1_addCommit_21 dX1_addCommit_24 (by decide +kernel) (by decide +kernel) (fun w h => List.mem_cons_of_mem _ (List.mem_append_left _ (List.mem_append_right _ h))) (by rw [hk9]; decide) (by rw [hk9]; rfl) (Nat.le_of_ble_eq_true rfl) (Nat.le_of_ble_eq_true rfl) (Nat.le_of_ble_eq_true rfl) (Nat.le_of_ble_eq_true rfl) (by decide) (by decide)

set_option maxHeartbeats 4000000 in
set_option maxRecDepth 100000 in
theorem x_X1_addTest (l : Launch) (D : va_G) (cI cZ cQ cJ : ClassId) (a : Nat → Nat) (S : zS) (hok : zOK S) (hl : l.stackTraces = false) (u0 : Int32) : v_Thr l yX1_addTest wsX1_addTest { frames := 7, cells := 2, slots := 12, locals := 110 } D (wTy cI cZ cQ cJ) [.ref (a 0), .int (u0)] (wX cI cZ cQ a S) (kk2 (zin u0 65536) (decide (z_nt S < 12))) exGS (some (.int (nI (z_nt S)))) (wX cI cZ cQ a (sadT S (iN u0))) 2 12 := by
  refine v_thrower (cc := cX1_addTest) (maxL := 3) (ret := (some .int)) (own := RX1) (lv0 := [(0, .ref (a 0)), (1, .int (u0))]) (by decide) rfl rfl (Nat.le_of_ble_eq_true rfl) rfl ?_
  intro p9 e9 s9 m9 as9 bl9 me9 cd9 A E hA htab hTx hr
  have hinX1 : ∀ w ∈ u_ws RX1 TX1 15, w ∈ wsX1_addTest := by decide +kernel
  obtain ⟨⟨k1, k2, k3, k4, k5, k6, k7, k8⟩, k9, k10, k11, k12, k13⟩ := id hok
  refine v_iload_n E dX1_addTest_0 1 rfl rfl ?_
  have hp1 : kk1 (zin ((u0)) 65536) ≠ 0 → kk2 (zin u0 65536) (decide (z_nt S < 12)) ≠ 0 ∧ exG (kk1 (zin ((u0)) 65536)) = exGS (kk2 (zin u0 65536) (decide (z_nt S < 12))) := by
    intro hk
    have e9 : kk2 (zin u0 65536) (decide (z_nt S < 12)) = 1 := kk2_f (kk1_n hk)
    rw [e9]
    exact ⟨by decide, rfl⟩
  refine x_cSp E hA htab hTx dX1_addTest_1 (x_X1_needParts l D cI cZ cQ cJ (wX cI cZ cQ a S) hl ((u0))) (va_cwS 1 E.2.2.2.1 gX1_addTest_X1_needParts rfl rfl rfl (by decide +kernel) ⟨Nat.le_of_ble_eq_true rfl, Nat.le_of_ble_eq_true rfl⟩) rfl rfl ⟨Nat.le_of_ble_eq_true rfl, Nat.le_of_ble_eq_true rfl⟩ (Nat.le_of_ble_eq_true rfl) hp1 (by decide) (by decide) (fun hk1 => ?_)
  obtain ⟨j, hj, rfl⟩ := zin_of (by decide) (kk1_z hk1)
  try simp only [iN_nI (show j < 2 ^ 31 by omega)]
  refine v_aload_n E dX1_addTest_4 0 rfl rfl ?_
  refine v_get E dX1_addTest_5 0 10 hinX1 rfl rfl (by decide) (by decide +kernel) rfl rfl ?_
  refine v_istore_n E dX1_addTest_8 rfl (by decide) rfl ?_
  refine v_iload_n E dX1_addTest_9 0 rfl rfl ?_
  refine v_bipush E dX1_addTest_10 (v := nI 12) rfl ?_
  refine n_icmp_lt E dX1_addTest_12 (by omega) (by omega) (tgt := 25) (by decide) (fun c12 => ?_) (fun c12 => ?_)
  · refine v_aload_n E dX1_addTest_25 1 rfl rfl ?_
    refine v_get E dX1_addTest_26 0 2 hinX1 rfl rfl (by decide) (by decide +kernel) rfl rfl ?_
    refine v_iload_n E dX1_addTest_29 0 rfl rfl ?_
    refine v_iload_n E dX1_addTest_30 2 rfl rfl ?_
    refine v_iast E dX1_addTest_31 3 0 rfl rfl (by omega) (by decide) (w' := (wX cI cZ cQ a (zs_D S (va_up (z_D S) (z_nt S) (j))))) (wX_a_D _ _) ?_
    refine v_aload_n E dX1_addTest_32 1 rfl rfl ?_
    refine v_iload_n E dX1_addTest_33 0 rfl rfl ?_
    refine v_iconst E dX1_addTest_34 (v := nI 1) rfl ?_
    refine v_iadd E dX1_addTest_35 (nI_add _ _) ?_
    refine v_put E dX1_addTest_36 0 10 tyX1 tyX1_ok nmX1 hinX1 rfl rfl (by decide) (by decide +kernel) rfl rfl rfl rfl rfl (Nat.le_of_ble_eq_true rfl) (w' := (wX cI cZ cQ a (zs_nt (zs_D S (va_up (z_D S) (z_nt S) (j))) (z_nt S + 1)))) (wX_f_nt _) ?_
    refine v_iload_n E dX1_addTest_39 0 rfl rfl ?_
    exact x_ret E hr (kk2_t (zin_n hj (by decide)) (decide_eq_true c12)) rfl (by decide) (by decide) dX1_addTest_40
  · have hk9 : kk2 (zin (nI (j)) 65536) (decide (z_nt S < 12)) = 2 := kk2_2 (zin_n hj (by decide)) (decide_eq_false (by omega))
    exact x_throwS E htab hTx hl (is := 77) (text := "there are 12 tests") (by decide +kernel) dX1_addTest_15 dX1_addTest_18 dX1_addTest_19 dX1_addTest_21 dX1_addTest_24 (by decide +kernel) (by decide +kernel) (fun w h => List.mem_cons_of_mem _ (List.mem_append_left _ (List.mem_append_right _ h))) (by rw [hk9]; decide) (by rw [hk9]; rfl) (Nat.le_of_ble_eq_true rfl) (Nat.le_of_ble_eq_true rfl) (Nat.le_of_ble_eq_true rfl) (Nat.le_of_ble_eq_true rfl) (by decide) (by decide)

set_option maxHeartbeats 4000000 in
set_option maxRecDepth 100000 in
theorem x_X1_setQuarantine (l : Launch) (D : va_G) (cI cZ cQ cJ : ClassId) (a : Nat → Nat) (S : zS) (hok : zOK S) (hl : l.stackTraces = false) (u0 u1 : Int32) : v_Thr l yX1_setQuarantine wsX1_setQuarantine { frames := 6, cells := 1, slots := 6, locals := 90 } D (wTy cI cZ cQ cJ) [.ref (a 0), .int (u0), .int (u1)] (wX cI cZ cQ a S) (kk1 (zin1 u0 11 && zin1 u1 41)) exG none (wX cI cZ cQ a (zs_wi (zs_li S (iN u0)) (iN u1))) 1 6 := by
  refine v_thrower (cc := cX1_setQuarantine) (maxL := 3) (ret := none) (own := RX1) (lv0 := [(0, .ref (a 0)), (1, .int (u0)), (2, .int (u1))]) (by decide) rfl rfl (Nat.le_of_ble_eq_true rfl) rfl ?_
  intro p9 e9 s9 m9 as9 bl9 me9 cd9 A E hA htab hTx hr
  have hinX1 : ∀ w ∈ u_ws RX1 TX1 15, w ∈ wsX1_setQuarantine := by decide +kernel
  obtain ⟨⟨k1, k2, k3, k4, k5, k6, k7, k8⟩, k9, k10, k11, k12, k13⟩ := id hok
  refine v_iload_n E dX1_setQuarantine_0 1 rfl rfl ?_
  refine v_iconst E dX1_setQuarantine_1 (v := nI 1) rfl ?_
  refine v_icmp_lt E dX1_setQuarantine_2 (tgt := 11) (by decide) (fun c2 => ?_) (fun c2 => ?_)
  · have hk9 : kk1 (zin1 u0 11 && zin1 u1 41) = 1 := kk1_f (by rw [zin1_lo c2]; rfl)
    exact x_throwG E htab hTx hl (is := 81) (text := "the limit is not 1 to 10") (by decide +kernel) dX1_setQuarantine_11 dX1_setQuarantine_14 dX1_setQuarantine_15 dX1_setQuarantine_17 dX1_setQuarantine_20 (by decide +kernel) (by decide +kernel) (fun w h => List.mem_cons_of_mem _ (List.mem_append_right _ h)) (by rw [hk9]; decide) (by rw [hk9]; rfl) (Nat.le_of_ble_eq_true rfl) (Nat.le_of_ble_eq_true rfl) (Nat.le_of_ble_eq_true rfl) (Nat.le_of_ble_eq_true rfl) (by decide) (by decide)
  · refine v_iload_n E dX1_setQuarantine_5 1 rfl rfl ?_
    refine v_bipush E dX1_setQuarantine_6 (v := nI 10) rfl ?_
    refine v_icmp_le E dX1_setQuarantine_8 (tgt := 21) (by decide) (fun c8 => ?_) (fun c8 => ?_)
    · obtain ⟨i, hi1, hi, rfl⟩ := zin1_le (n := 10) (by decide) c2 c8
      try simp only [iN_nI (show i < 2 ^ 31 by omega)]
      have hzi := zin1_n hi1 hi (by decide)
      refine v_iload_n E dX1_setQuarantine_21 2 rfl rfl ?_
      refine v_iconst E dX1_setQuarantine_22 (v := nI 1) rfl ?_
      refine v_icmp_lt E dX1_setQuarantine_23 (tgt := 32) (by decide) (fun c23 => ?_) (fun c23 => ?_)
      · have hk9 : kk1 (zin1 (nI (i)) 11 && zin1 u1 41) = 1 := kk1_f (by rw [zin1_lo c23, Bool.and_false])
        exact x_throwG E htab hTx hl (is := 84) (text := "the window is not 1 to 40") (by decide +kernel) dX1_setQuarantine_32 dX1_setQuarantine_35 dX1_setQuarantine_36 dX1_setQuarantine_38 dX1_setQuarantine_41 (by decide +kernel) (by decide +kernel) (fun w h => List.mem_cons_of_mem _ (List.mem_append_right _ h)) (by rw [hk9]; decide) (by rw [hk9]; rfl) (Nat.le_of_ble_eq_true rfl) (Nat.le_of_ble_eq_true rfl) (Nat.le_of_ble_eq_true rfl) (Nat.le_of_ble_eq_true rfl) (by decide) (by decide)
      · refine v_iload_n E dX1_setQuarantine_26 2 rfl rfl ?_
        refine v_bipush E dX1_setQuarantine_27 (v := nI 40) rfl ?_
        refine v_icmp_le E dX1_setQuarantine_29 (tgt := 42) (by decide) (fun c29 => ?_) (fun c29 => ?_)
        · obtain ⟨j, hj1, hj, rfl⟩ := zin1_le (n := 40) (by decide) c23 c29
          try simp only [iN_nI (show j < 2 ^ 31 by omega)]
          refine v_aload_n E dX1_setQuarantine_42 0 rfl rfl ?_
          refine v_iload_n E dX1_setQuarantine_43 1 rfl rfl ?_
          refine v_put E dX1_setQuarantine_44 0 11 tyX1 tyX1_ok nmX1 hinX1 rfl rfl (by decide) (by decide +kernel) rfl rfl rfl rfl rfl (Nat.le_of_ble_eq_true rfl) (w' := (wX cI cZ cQ a (zs_li S (i)))) (wX_f_li _) ?_
          refine v_aload_n E dX1_setQuarantine_47 0 rfl rfl ?_
          refine v_iload_n E dX1_setQuarantine_48 2 rfl rfl ?_
          refine v_put E dX1_setQuarantine_49 0 12 tyX1 tyX1_ok nmX1 hinX1 rfl rfl (by decide) (by decide +kernel) rfl rfl rfl rfl rfl (Nat.le_of_ble_eq_true rfl) (w' := (wX cI cZ cQ a (zs_wi (zs_li S (i)) (j)))) (wX_f_wi _) ?_
          exact x_retv E hr (kk1_t (by rw [hzi, zin1_n hj1 hj (by decide)]; rfl)) rfl (by decide) (by decide) dX1_setQuarantine_52
        · have hk9 : kk1 (zin1 (nI (i)) 11 && zin1 u1 41) = 1 := kk1_f (by rw [zin1_gt (n := 40) (by decide) c29, Bool.and_false])
          exact x_throwG E htab hTx hl (is := 84) (text := "the window is not 1 to 40") (by decide +kernel) dX1_setQuarantine_32 dX1_setQuarantine_35 dX1_setQuarantine_36 dX1_setQuarantine_38 dX1_setQuarantine_41 (by decide +kernel) (by decide +kernel) (fun w h => List.mem_cons_of_mem _ (List.mem_append_right _ h)) (by rw [hk9]; decide) (by rw [hk9]; rfl) (Nat.le_of_ble_eq_true rfl) (Nat.le_of_ble_eq_true rfl) (Nat.le_of_ble_eq_true rfl) (Nat.le_of_ble_eq_true rfl) (by decide) (by decide)
    · have hk9 : kk1 (zin1 u0 11 && zin1 u1 41) = 1 := kk1_f (by rw [zin1_gt (n := 10) (by decide) c8]; rfl)
      exact x_throwG E htab hTx hl (is := 81) (text := "the limit is not 1 to 10") (by decide +kernel) dX1_setQuarantine_11 dX1_setQuarantine_14 dX1_setQuarantine_15 dX1_setQuarantine_17 dX1_setQuarantine_20 (by decide +kernel) (by decide +kernel) (fun w h => List.mem_cons_of_mem _ (List.mem_append_right _ h)) (by rw [hk9]; decide) (by rw [hk9]; rfl) (Nat.le_of_ble_eq_true rfl) (Nat.le_of_ble_eq_true rfl) (Nat.le_of_ble_eq_true rfl) (Nat.le_of_ble_eq_true rfl) (by decide) (by decide)

set_option maxHeartbeats 4000000 in
set_option maxRecDepth 100000 in
theorem x_X1_setNoise (l : Launch) (D : va_G) (cI cZ cQ cJ : ClassId) (a : Nat → Nat) (S : zS) (hok : zOK S) (hl : l.stackTraces = false) (u0 : Int32) : v_Thr l yX1_setNoise wsX1_setNoise { frames := 6, cells := 1, slots := 6, locals := 90 } D (wTy cI cZ cQ cJ) [.ref (a 0), .int (u0)] (wX cI cZ cQ a S) (kk1 (zin u0 21)) exG (some (.int (nI (z_no S)))) (wX cI cZ cQ a (zs_no S (iN u0))) 1 6 := by
  refine v_thrower (cc := cX1_setNoise) (maxL := 3) (ret := (some .int)) (own := RX1) (lv0 := [(0, .ref (a 0)), (1, .int (u0))]) (by decide) rfl rfl (Nat.le_of_ble_eq_true rfl) rfl ?_
  intro p9 e9 s9 m9 as9 bl9 me9 cd9 A E hA htab hTx hr
  have hinX1 : ∀ w ∈ u_ws RX1 TX1 15, w ∈ wsX1_setNoise := by decide +kernel
  obtain ⟨⟨k1, k2, k3, k4, k5, k6, k7, k8⟩, k9, k10, k11, k12, k13⟩ := id hok
  refine v_iload_n E dX1_setNoise_0 1 rfl rfl ?_
  refine v_if_lt E dX1_setNoise_1 (tgt := 10) (by decide) (fun c1 => ?_) (fun c1 => ?_)
  · have hk9 : kk1 (zin u0 21) = 1 := kk1_f (zin_lo c1)
    exact x_throwG E htab hTx hl (is := 86) (text := "the noise is not 0 to 20") (by decide +kernel) dX1_setNoise_10 dX1_setNoise_13 dX1_setNoise_14 dX1_setNoise_16 dX1_setNoise_19 (by decide +kernel) (by decide +kernel) (fun w h => List.mem_cons_of_mem _ (List.mem_append_right _ h)) (by rw [hk9]; decide) (by rw [hk9]; rfl) (Nat.le_of_ble_eq_true rfl) (Nat.le_of_ble_eq_true rfl) (Nat.le_of_ble_eq_true rfl) (Nat.le_of_ble_eq_true rfl) (by decide) (by decide)
  · refine v_iload_n E dX1_setNoise_4 1 rfl rfl ?_
    refine v_bipush E dX1_setNoise_5 (v := nI 20) rfl ?_
    refine v_icmp_le E dX1_setNoise_7 (tgt := 20) (by decide) (fun c7 => ?_) (fun c7 => ?_)
    · obtain ⟨i, hi, rfl⟩ := zin_le (n := 20) (by decide) c1 c7
      try simp only [iN_nI (show i < 2 ^ 31 by omega)]
      refine v_aload_n E dX1_setNoise_20 0 rfl rfl ?_
      refine v_get E dX1_setNoise_21 0 13 hinX1 rfl rfl (by decide) (by decide +kernel) rfl rfl ?_
      refine v_istore_n E dX1_setNoise_24 rfl (by decide) rfl ?_
      refine v_aload_n E dX1_setNoise_25 1 rfl rfl ?_
      refine v_iload_n E dX1_setNoise_26 2 rfl rfl ?_
      refine v_put E dX1_setNoise_27 0 13 tyX1 tyX1_ok nmX1 hinX1 rfl rfl (by decide) (by decide +kernel) rfl rfl rfl rfl rfl (Nat.le_of_ble_eq_true rfl) (w' := (wX cI cZ cQ a (zs_no S (i)))) (wX_f_no _) ?_
      refine v_iload_n E dX1_setNoise_30 0 rfl rfl ?_
      exact x_ret E hr (kk1_t (zin_n hi (by decide))) rfl (by decide) (by decide) dX1_setNoise_31
    · have hk9 : kk1 (zin u0 21) = 1 := kk1_f (zin_gt (n := 20) (by decide) c7)
      exact x_throwG E htab hTx hl (is := 86) (text := "the noise is not 0 to 20") (by decide +kernel) dX1_setNoise_10 dX1_setNoise_13 dX1_setNoise_14 dX1_setNoise_16 dX1_setNoise_19 (by decide +kernel) (by decide +kernel) (fun w h => List.mem_cons_of_mem _ (List.mem_append_right _ h)) (by rw [hk9]; decide) (by rw [hk9]; rfl) (Nat.le_of_ble_eq_true rfl) (Nat.le_of_ble_eq_true rfl) (Nat.le_of_ble_eq_true rfl) (Nat.le_of_ble_eq_true rfl) (by decide) (by decide)

set_option maxHeartbeats 4000000 in
set_option maxRecDepth 100000 in
theorem x_X1_newDay (l : Launch) (D : va_G) (cI cZ cQ cJ : ClassId) (a : Nat → Nat) (S : zS) (hok : zOK S) (hl : l.stackTraces = false) (u0 : Int32) : v_Thr l yX1_newDay wsX1_newDay { frames := 6, cells := 1, slots := 6, locals := 90 } D (wTy cI cZ cQ cJ) [.ref (a 0), .int (u0)] (wX cI cZ cQ a S) (kk1 (zin u0 101)) exG (some (.int (nI (z_bu S)))) (wX cI cZ cQ a (zs_bu S (iN u0))) 1 6 := by
  refine v_thrower (cc := cX1_newDay) (maxL := 3) (ret := (some .int)) (own := RX1) (lv0 := [(0, .ref (a 0)), (1, .int (u0))]) (by decide) rfl rfl (Nat.le_of_ble_eq_true rfl) rfl ?_
  intro p9 e9 s9 m9 as9 bl9 me9 cd9 A E hA htab hTx hr
  have hinX1 : ∀ w ∈ u_ws RX1 TX1 15, w ∈ wsX1_newDay := by decide +kernel
  obtain ⟨⟨k1, k2, k3, k4, k5, k6, k7, k8⟩, k9, k10, k11, k12, k13⟩ := id hok
  refine v_iload_n E dX1_newDay_0 1 rfl rfl ?_
  refine v_if_lt E dX1_newDay_1 (tgt := 10) (by decide) (fun c1 => ?_) (fun c1 => ?_)
  · have hk9 : kk1 (zin u0 101) = 1 := kk1_f (zin_lo c1)
    exact x_throwG E htab hTx hl (is := 131) (text := "the budget is not 0 to 100") (by decide +kernel) dX1_newDay_10 dX1_newDay_13 dX1_newDay_14 dX1_newDay_16 dX1_newDay_19 (by decide +kernel) (by decide +kernel) (fun w h => List.mem_cons_of_mem _ (List.mem_append_right _ h)) (by rw [hk9]; decide) (by rw [hk9]; rfl) (Nat.le_of_ble_eq_true rfl) (Nat.le_of_ble_eq_true rfl) (Nat.le_of_ble_eq_true rfl) (Nat.le_of_ble_eq_true rfl) (by decide) (by decide)
  · refine v_iload_n E dX1_newDay_4 1 rfl rfl ?_
    refine v_bipush E dX1_newDay_5 (v := nI 100) rfl ?_
    refine v_icmp_le E dX1_newDay_7 (tgt := 20) (by decide) (fun c7 => ?_) (fun c7 => ?_)
    · obtain ⟨i, hi, rfl⟩ := zin_le (n := 100) (by decide) c1 c7
      try simp only [iN_nI (show i < 2 ^ 31 by omega)]
      refine v_aload_n E dX1_newDay_20 0 rfl rfl ?_
      refine v_get E dX1_newDay_21 0 14 hinX1 rfl rfl (by decide) (by decide +kernel) rfl rfl ?_
      refine v_istore_n E dX1_newDay_24 rfl (by decide) rfl ?_
      refine v_aload_n E dX1_newDay_25 1 rfl rfl ?_
      refine v_iload_n E dX1_newDay_26 2 rfl rfl ?_
      refine v_put E dX1_newDay_27 0 14 tyX1 tyX1_ok nmX1 hinX1 rfl rfl (by decide) (by decide +kernel) rfl rfl rfl rfl rfl (Nat.le_of_ble_eq_true rfl) (w' := (wX cI cZ cQ a (zs_bu S (i)))) (wX_f_bu _) ?_
      refine v_iload_n E dX1_newDay_30 0 rfl rfl ?_
      exact x_ret E hr (kk1_t (zin_n hi (by decide))) rfl (by decide) (by decide) dX1_newDay_31
    · have hk9 : kk1 (zin u0 101) = 1 := kk1_f (zin_gt (n := 100) (by decide) c7)
      exact x_throwG E htab hTx hl (is := 131) (text := "the budget is not 0 to 100") (by decide +kernel) dX1_newDay_10 dX1_newDay_13 dX1_newDay_14 dX1_newDay_16 dX1_newDay_19 (by decide +kernel) (by decide +kernel) (fun w h => List.mem_cons_of_mem _ (List.mem_append_right _ h)) (by rw [hk9]; decide) (by rw [hk9]; rfl) (Nat.le_of_ble_eq_true rfl) (Nat.le_of_ble_eq_true rfl) (Nat.le_of_ble_eq_true rfl) (Nat.le_of_ble_eq_true rfl) (by decide) (by decide)

