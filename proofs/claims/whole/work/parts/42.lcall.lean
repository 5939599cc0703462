/-! ===== the law's callers ===== -/
def zL (b : Bool) : Int64 := if b then lN 1 else lN 0
set_option maxHeartbeats 4000000 in
set_option maxRecDepth 100000 in
theorem x_L_setUses (l : Launch) (D : va_G) (cI cZ cQ cJ : ClassId) (a : Nat → Nat) (S : zS) (hok : zOK S) (hl : l.stackTraces = false) (o : Nat) (f : Nat → Int64) (u0 : Int32) (u1 : Int32) : v_Thr l yL_setUses wsL_setUses { frames := 8, cells := 1, slots := 6, locals := 133 } D (wTy cI cZ cQ cJ) [.ref (a 0), .int (u0), .int (u1), .ref (o)] (outE cJ o f :: wX cI cZ cQ a S) 0 exI (some (.int (nI (kk2 (zin u0 16) (zin u1 65536))))) (outE cJ o (mF (kk2 (zin u0 16) (zin u1 65536)) (vp_updL f 0 (nI (z_U S (iN u0))).toInt64) f) :: wX cI cZ cQ a (mS (kk2 (zin u0 16) (zin u1 65536)) (zs_U S (va_up (z_U S) (iN u0) (iN u1))) S)) 1 6 := by
  refine v_throwerH (cc := cL_setUses) (maxL := 5) (ret := some .int) (own := RL) (lv0 := [(0, .ref (a 0)), (1, .int (u0)), (2, .int (u1)), (3, .ref (o))]) (by decide) rfl rfl (Nat.le_of_ble_eq_true rfl) rfl ?_
  intro p9 e9 s9 m9 as9 bl9 me9 cd9 A E hA htab hTx hr
  refine v_aload_n E dL_setUses_0 3 rfl rfl ?_
  refine v_iconst E dL_setUses_1 (v := nI 0) rfl ?_
  refine v_aload_n E dL_setUses_2 0 rfl rfl ?_
  refine v_iload_n E dL_setUses_3 1 rfl rfl ?_
  refine v_iload_n E dL_setUses_4 2 rfl rfl ?_
  refine x_cVc2 E hA hTx dL_setUses_5 (thr_perm (x_X1_setUses l D cI cZ cQ cJ a S hok hl u0 u1) [outE cJ o f] outE_perm outE_perm) (cwV 2 E.2.2.2.1 gL_setUses_X1_setUses rfl rfl rfl (by decide +kernel) ⟨Nat.le_of_ble_eq_true rfl, Nat.le_of_ble_eq_true rfl⟩) 1 rfl rfl rfl rfl rfl ⟨Nat.le_of_ble_eq_true rfl, Nat.le_of_ble_eq_true rfl⟩ (Nat.le_of_ble_eq_true rfl) (x := ⟨0, 10, 13, 13⟩) (x2 := ⟨0, 10, 17, 15⟩) (n1 := xI) (n2 := xG) htab rfl (by decide) (by decide +kernel) (by decide +kernel) rfl (by decide) (by decide +kernel) (by decide +kernel) (by decide +kernel) (kk2_12 _ _) rfl rfl (fun hk q9 => ?_) (fun hk q9 => ?_) (fun hk => ?_)
  · have hkn : kk2 (zin u0 16) (zin u1 65536) ≠ 0 := (by rw [hk]; decide)
    have hk1 := hk
    refine v_astore E dL_setUses_13 (by decide) rfl ?_
    refine v_iconst E dL_setUses_15 (v := nI 1) rfl ?_
    exact y_ret E hr rfl (by rw [hk1]) (by rw [mF_n hkn, mS_n hkn]) (by decide) (by decide) dL_setUses_16
  · have hkn : kk2 (zin u0 16) (zin u1 65536) ≠ 0 := (by rw [hk]; decide)
    have hk1 := hk
    refine v_astore E dL_setUses_17 (by decide) rfl ?_
    refine v_iconst E dL_setUses_19 (v := nI 2) rfl ?_
    exact y_ret E hr rfl (by rw [hk1]) (by rw [mF_n hkn, mS_n hkn]) (by decide) (by decide) dL_setUses_20
  · refine v_i2l E dL_setUses_8 (z := (nI (z_U S (iN u0))).toInt64) rfl ?_
    refine v_last E dL_setUses_9 0 3 rfl rfl (by decide) (by decide) (w' := (outE cJ o (vp_updL f 0 (nI (z_U S (iN u0))).toInt64) :: wX cI cZ cQ a (zs_U S (va_up (z_U S) (iN u0) (iN u1))))) rfl ?_
    refine v_goto E dL_setUses_10 (tgt := 21) (by decide) ?_
    refine v_iconst E dL_setUses_21 (v := nI 0) rfl ?_
    exact y_ret E hr rfl (by rw [hk]) (by rw [mF_0 hk, mS_0 hk]) (by decide) (by decide) dL_setUses_22
set_option maxHeartbeats 4000000 in
set_option maxRecDepth 100000 in
theorem x_L_addCommit (l : Launch) (D : va_G) (cI cZ cQ cJ : ClassId) (a : Nat → Nat) (S : zS) (hok : zOK S) (hl : l.stackTraces = false) (o : Nat) (f : Nat → Int64) (u0 : Int32) : v_Thr l yL_addCommit wsL_addCommit { frames := 8, cells := 2, slots := 12, locals := 132 } D (wTy cI cZ cQ cJ) [.ref (a 0), .int (u0), .ref (o)] (outE cJ o f :: wX cI cZ cQ a S) 0 exI (some (.int (nI (kk2 (zin u0 65536) (decide (z_nc S < 40)))))) (outE cJ o (mF (kk2 (zin u0 65536) (decide (z_nc S < 40))) (vp_updL f 0 (nI (z_nc S)).toInt64) f) :: wX cI cZ cQ a (mS (kk2 (zin u0 65536) (decide (z_nc S < 40))) (sadC S (iN u0)) S)) 2 12 := by
  refine v_throwerH (cc := cL_addCommit) (maxL := 4) (ret := some .int) (own := RL) (lv0 := [(0, .ref (a 0)), (1, .int (u0)), (2, .ref (o))]) (by decide) rfl rfl (Nat.le_of_ble_eq_true rfl) rfl ?_
  intro p9 e9 s9 m9 as9 bl9 me9 cd9 A E hA htab hTx hr
  refine v_aload_n E dL_addCommit_0 2 rfl rfl ?_
  refine v_iconst E dL_addCommit_1 (v := nI 0) rfl ?_
  refine v_aload_n E dL_addCommit_2 0 rfl rfl ?_
  refine v_iload_n E dL_addCommit_3 1 rfl rfl ?_
  refine x_cVc2 E hA hTx dL_addCommit_4 (thr_perm (x_X1_addCommit l D cI cZ cQ cJ a S hok hl u0) [outE cJ o f] outE_perm outE_perm) (cwV 1 E.2.2.2.1 gL_addCommit_X1_addCommit rfl rfl rfl (by decide +kernel) ⟨Nat.le_of_ble_eq_true rfl, Nat.le_of_ble_eq_true rfl⟩) 1 rfl rfl rfl rfl rfl ⟨Nat.le_of_ble_eq_true rfl, Nat.le_of_ble_eq_true rfl⟩ (Nat.le_of_ble_eq_true rfl) (x := ⟨0, 9, 12, 15⟩) (x2 := ⟨0, 9, 15, 21⟩) (n1 := xG) (n2 := xS) htab rfl (by decide) (by decide +kernel) (by decide +kernel) rfl (by decide) (by decide +kernel) (by decide +kernel) (by decide +kernel) (kk2_12 _ _) rfl rfl (fun hk q9 => ?_) (fun hk q9 => ?_) (fun hk => ?_)
  · have hkn : kk2 (zin u0 65536) (decide (z_nc S < 40)) ≠ 0 := (by rw [hk]; decide)
    have hk1 := hk
    refine v_astore_n E dL_addCommit_12 rfl (by decide) rfl ?_
    refine v_iconst E dL_addCommit_13 (v := nI 1) rfl ?_
    exact y_ret E hr rfl (by rw [hk1]) (by rw [mF_n hkn, mS_n hkn]) (by decide) (by decide) dL_addCommit_14
  · have hkn : kk2 (zin u0 65536) (decide (z_nc S < 40)) ≠ 0 := (by rw [hk]; decide)
    have hk1 := hk
    refine v_astore_n E dL_addCommit_15 rfl (by decide) rfl ?_
    refine v_iconst E dL_addCommit_16 (v := nI 2) rfl ?_
    exact y_ret E hr rfl (by rw [hk1]) (by rw [mF_n hkn, mS_n hkn]) (by decide) (by decide) dL_addCommit_17
  · refine v_i2l E dL_addCommit_7 (z := (nI (z_nc S)).toInt64) rfl ?_
    refine v_last E dL_addCommit_8 0 3 rfl rfl (by decide) (by decide) (w' := (outE cJ o (vp_updL f 0 (nI (z_nc S)).toInt64) :: wX cI cZ cQ a (sadC S (iN u0)))) rfl ?_
    refine v_goto E dL_addCommit_9 (tgt := 18) (by decide) ?_
    refine v_iconst E dL_addCommit_18 (v := nI 0) rfl ?_
    exact y_ret E hr rfl (by rw [hk]) (by rw [mF_0 hk, mS_0 hk]) (by decide) (by decide) dL_addCommit_19
set_option maxHeartbeats 4000000 in
set_option maxRecDepth 100000 in
theorem x_L_addTest (l : Launch) (D : va_G) (cI cZ cQ cJ : ClassId) (a : Nat → Nat) (S : zS) (hok : zOK S) (hl : l.stackTraces = false) (o : Nat) (f : Nat → Int64) (u0 : Int32) : v_Thr l yL_addTest wsL_addTest { frames := 8, cells := 2, slots := 12, locals := 132 } D (wTy cI cZ cQ cJ) [.ref (a 0), .int (u0), .ref (o)] (outE cJ o f :: wX cI cZ cQ a S) 0 exI (some (.int (nI (kk2 (zin u0 65536) (decide (z_nt S < 12)))))) (outE cJ o (mF (kk2 (zin u0 65536) (decide (z_nt S < 12))) (vp_updL f 0 (nI (z_nt S)).toInt64) f) :: wX cI cZ cQ a (mS (kk2 (zin u0 65536) (decide (z_nt S < 12))) (sadT S (iN u0)) S)) 2 12 := by
  refine v_throwerH (cc := cL_addTest) (maxL := 4) (ret := some .int) (own := RL) (lv0 := [(0, .ref (a 0)), (1, .int (u0)), (2, .ref (o))]) (by decide) rfl rfl (Nat.le_of_ble_eq_true rfl) rfl ?_
  intro p9 e9 s9 m9 as9 bl9 me9 cd9 A E hA htab hTx hr
  refine v_aload_n E dL_addTest_0 2 rfl rfl ?_
  refine v_iconst E dL_addTest_1 (v := nI 0) rfl ?_
  refine v_aload_n E dL_addTest_2 0 rfl rfl ?_
  refine v_iload_n E dL_addTest_3 1 rfl rfl ?_
  refine x_cVc2 E hA hTx dL_addTest_4 (thr_perm (x_X1_addTest l D cI cZ cQ cJ a S hok hl u0) [outE cJ o f] outE_perm outE_perm) (cwV 1 E.2.2.2.1 gL_addTest_X1_addTest rfl rfl rfl (by decide +kernel) ⟨Nat.le_of_ble_eq_true rfl, Nat.le_of_ble_eq_true rfl⟩) 1 rfl rfl rfl rfl rfl ⟨Nat.le_of_ble_eq_true rfl, Nat.le_of_ble_eq_true rfl⟩ (Nat.le_of_ble_eq_true rfl) (x := ⟨0, 9, 12, 15⟩) (x2 := ⟨0, 9, 15, 21⟩) (n1 := xG) (n2 := xS) htab rfl (by decide) (by decide +kernel) (by decide +kernel) rfl (by decide) (by decide +kernel) (by decide +kernel) (by decide +kernel) (kk2_12 _ _) rfl rfl (fun hk q9 => ?_) (fun hk q9 => ?_) (fun hk => ?_)
  · have hkn : kk2 (zin u0 65536) (decide (z_nt S < 12)) ≠ 0 := (by rw [hk]; decide)
    have hk1 := hk
    refine v_astore_n E dL_addTest_12 rfl (by decide) rfl ?_
    refine v_iconst E dL_addTest_13 (v := nI 1) rfl ?_
    exact y_ret E hr rfl (by rw [hk1]) (by rw [mF_n hkn, mS_n hkn]) (by decide) (by decide) dL_addTest_14
  · have hkn : kk2 (zin u0 65536) (decide (z_nt S < 12)) ≠ 0 := (by rw [hk]; decide)
    have hk1 := hk
    refine v_astore_n E dL_addTest_15 rfl (by decide) rfl ?_
    refine v_iconst E dL_addTest_16 (v := nI 2) rfl ?_
    exact y_ret E hr rfl (by rw [hk1]) (by rw [mF_n hkn, mS_n hkn]) (by decide) (by decide) dL_addTest_17
  · refine v_i2l E dL_addTest_7 (z := (nI (z_nt S)).toInt64) rfl ?_
    refine v_last E dL_addTest_8 0 3 rfl rfl (by decide) (by decide) (w' := (outE cJ o (vp_updL f 0 (nI (z_nt S)).toInt64) :: wX cI cZ cQ a (sadT S (iN u0)))) rfl ?_
    refine v_goto E dL_addTest_9 (tgt := 18) (by decide) ?_
    refine v_iconst E dL_addTest_18 (v := nI 0) rfl ?_
    exact y_ret E hr rfl (by rw [hk]) (by rw [mF_0 hk, mS_0 hk]) (by decide) (by decide) dL_addTest_19
set_option maxHeartbeats 4000000 in
set_option maxRecDepth 100000 in
theorem x_L_setQuarantine (l : Launch) (D : va_G) (cI cZ cQ cJ : ClassId) (a : Nat → Nat) (S : zS) (hok : zOK S) (hl : l.stackTraces = false) (u0 : Int32) (u1 : Int32) : v_Thr l yL_setQuarantine wsL_setQuarantine { frames := 7, cells := 1, slots := 6, locals := 112 } D (wTy cI cZ cQ cJ) [.ref (a 0), .int (u0), .int (u1)] (wX cI cZ cQ a S) 0 exI (some (.int (nI (kk1 (zin1 u0 11 && zin1 u1 41))))) (wX cI cZ cQ a (mS (kk1 (zin1 u0 11 && zin1 u1 41)) (zs_wi (zs_li S (iN u0)) (iN u1)) S)) 1 6 := by
  refine v_throwerH (cc := cL_setQuarantine) (maxL := 4) (ret := some .int) (own := RL) (lv0 := [(0, .ref (a 0)), (1, .int (u0)), (2, .int (u1))]) (by decide) rfl rfl (Nat.le_of_ble_eq_true rfl) rfl ?_
  intro p9 e9 s9 m9 as9 bl9 me9 cd9 A E hA htab hTx hr
  refine v_aload_n E dL_setQuarantine_0 0 rfl rfl ?_
  refine v_iload_n E dL_setQuarantine_1 1 rfl rfl ?_
  refine v_iload_n E dL_setQuarantine_2 2 rfl rfl ?_
  refine x_cVc1 E hA hTx dL_setQuarantine_3 (x_X1_setQuarantine l D cI cZ cQ cJ a S hok hl u0 u1) (cwV 2 E.2.2.2.1 gL_setQuarantine_X1_setQuarantine rfl rfl rfl (by decide +kernel) ⟨Nat.le_of_ble_eq_true rfl, Nat.le_of_ble_eq_true rfl⟩) 0 rfl rfl rfl rfl rfl ⟨Nat.le_of_ble_eq_true rfl, Nat.le_of_ble_eq_true rfl⟩ (Nat.le_of_ble_eq_true rfl) (x := ⟨0, 6, 9, 15⟩) (n1 := xG) htab rfl (by decide) (by decide +kernel) (by decide +kernel) (fun hk => rfl) (fun hk q9 => ?_) (fun hk => ?_)
  · have hkn : kk1 (zin1 u0 11 && zin1 u1 41) ≠ 0 := hk
    have hk1 : kk1 (zin1 u0 11 && zin1 u1 41) = 1 := (kk1_12 _).resolve_left hk
    refine v_astore_n E dL_setQuarantine_9 rfl (by decide) rfl ?_
    refine v_iconst E dL_setQuarantine_10 (v := nI 1) rfl ?_
    exact y_ret E hr rfl (by rw [hk1]) (by rw [mS_n hkn]) (by decide) (by decide) dL_setQuarantine_11
  · skip
    refine v_goto E dL_setQuarantine_6 (tgt := 12) (by decide) ?_
    refine v_iconst E dL_setQuarantine_12 (v := nI 0) rfl ?_
    exact y_ret E hr rfl (by rw [hk]) (by rw [mS_0 hk]) (by decide) (by decide) dL_setQuarantine_13
set_option maxHeartbeats 4000000 in
set_option maxRecDepth 100000 in
theorem x_L_setNoise (l : Launch) (D : va_G) (cI cZ cQ cJ : ClassId) (a : Nat → Nat) (S : zS) (hok : zOK S) (hl : l.stackTraces = false) (o : Nat) (f : Nat → Int64) (u0 : Int32) : v_Thr l yL_setNoise wsL_setNoise { frames := 7, cells := 1, slots := 6, locals := 112 } D (wTy cI cZ cQ cJ) [.ref (a 0), .int (u0), .ref (o)] (outE cJ o f :: wX cI cZ cQ a S) 0 exI (some (.int (nI (kk1 (zin u0 21))))) (outE cJ o (mF (kk1 (zin u0 21)) (vp_updL f 0 (nI (z_no S)).toInt64) f) :: wX cI cZ cQ a (mS (kk1 (zin u0 21)) (zs_no S (iN u0)) S)) 1 6 := by
  refine v_throwerH (cc := cL_setNoise) (maxL := 4) (ret := some .int) (own := RL) (lv0 := [(0, .ref (a 0)), (1, .int (u0)), (2, .ref (o))]) (by decide) rfl rfl (Nat.le_of_ble_eq_true rfl) rfl ?_
  intro p9 e9 s9 m9 as9 bl9 me9 cd9 A E hA htab hTx hr
  refine v_aload_n E dL_setNoise_0 2 rfl rfl ?_
  refine v_iconst E dL_setNoise_1 (v := nI 0) rfl ?_
  refine v_aload_n E dL_setNoise_2 0 rfl rfl ?_
  refine v_iload_n E dL_setNoise_3 1 rfl rfl ?_
  refine x_cVc1 E hA hTx dL_setNoise_4 (thr_perm (x_X1_setNoise l D cI cZ cQ cJ a S hok hl u0) [outE cJ o f] outE_perm outE_perm) (cwV 1 E.2.2.2.1 gL_setNoise_X1_setNoise rfl rfl rfl (by decide +kernel) ⟨Nat.le_of_ble_eq_true rfl, Nat.le_of_ble_eq_true rfl⟩) 1 rfl rfl rfl rfl rfl ⟨Nat.le_of_ble_eq_true rfl, Nat.le_of_ble_eq_true rfl⟩ (Nat.le_of_ble_eq_true rfl) (x := ⟨0, 9, 12, 15⟩) (n1 := xG) htab rfl (by decide) (by decide +kernel) (by decide +kernel) (fun hk => rfl) (fun hk q9 => ?_) (fun hk => ?_)
  · have hkn : kk1 (zin u0 21) ≠ 0 := hk
    have hk1 : kk1 (zin u0 21) = 1 := (kk1_12 _).resolve_left hk
    refine v_astore_n E dL_setNoise_12 rfl (by decide) rfl ?_
    refine v_iconst E dL_setNoise_13 (v := nI 1) rfl ?_
    exact y_ret E hr rfl (by rw [hk1]) (by rw [mF_n hkn, mS_n hkn]) (by decide) (by decide) dL_setNoise_14
  · refine v_i2l E dL_setNoise_7 (z := (nI (z_no S)).toInt64) rfl ?_
    refine v_last E dL_setNoise_8 0 3 rfl rfl (by decide) (by decide) (w' := (outE cJ o (vp_updL f 0 (nI (z_no S)).toInt64) :: wX cI cZ cQ a (zs_no S (iN u0)))) rfl ?_
    refine v_goto E dL_setNoise_9 (tgt := 15) (by decide) ?_
    refine v_iconst E dL_setNoise_15 (v := nI 0) rfl ?_
    exact y_ret E hr rfl (by rw [hk]) (by rw [mF_0 hk, mS_0 hk]) (by decide) (by decide) dL_setNoise_16
set_option maxHeartbeats 4000000 in
set_option maxRecDepth 100000 in
theorem x_L_record (l : Launch) (D : va_G) (cI cZ cQ cJ : ClassId) (a : Nat → Nat) (S : zS) (hok : zOK S) (hl : l.stackTraces = false) (o : Nat) (f : Nat → Int64) (u0 : Int32) (u1 : Int32) (u2 : Bool) : v_Thr l yL_record wsL_record { frames := 8, cells := 3, slots := 18, locals := 134 } D (wTy cI cZ cQ cJ) [.ref (a 0), .int (u0), .int (u1), .int (bI (u2)), .ref (o)] (outE cJ o f :: wX cI cZ cQ a S) 0 exI (some (.int (nI (kk2 (zin u0 (z_nt S) && zin u1 (z_nc S)) (decide (z_R S (iN u0) < 200)))))) (outE cJ o (mF (kk2 (zin u0 (z_nt S) && zin u1 (z_nc S)) (decide (z_R S (iN u0) < 200))) (vp_updL f 0 (nI (vd (z_P (srec S (iN u0) (iN u1) u2) (iN u0) (iN u1)) (z_F (srec S (iN u0) (iN u1) u2) (iN u0) (iN u1)))).toInt64) f) :: wX cI cZ cQ a (mS (kk2 (zin u0 (z_nt S) && zin u1 (z_nc S)) (decide (z_R S (iN u0) < 200))) (srec S (iN u0) (iN u1) u2) S)) 3 18 := by
  refine v_throwerH (cc := cL_record) (maxL := 6) (ret := some .int) (own := RL) (lv0 := [(0, .ref (a 0)), (1, .int (u0)), (2, .int (u1)), (3, .int (bI (u2))), (4, .ref (o))]) (by decide) rfl rfl (Nat.le_of_ble_eq_true rfl) rfl ?_
  intro p9 e9 s9 m9 as9 bl9 me9 cd9 A E hA htab hTx hr
  refine v_aload E dL_record_0 4 rfl ?_
  refine v_iconst E dL_record_2 (v := nI 0) rfl ?_
  refine v_aload_n E dL_record_3 0 rfl rfl ?_
  refine v_iload_n E dL_record_4 1 rfl rfl ?_
  refine v_iload_n E dL_record_5 2 rfl rfl ?_
  refine v_iload_n E dL_record_6 3 rfl rfl ?_
  refine x_cVc2 E hA hTx dL_record_7 (thr_perm (x_X1_record l D cI cZ cQ cJ a S hok hl u0 u1 u2) [outE cJ o f] outE_perm outE_perm) (cwV 3 E.2.2.2.1 gL_record_X1_record rfl rfl rfl (by decide +kernel) ⟨Nat.le_of_ble_eq_true rfl, Nat.le_of_ble_eq_true rfl⟩) 1 rfl rfl rfl rfl rfl ⟨Nat.le_of_ble_eq_true rfl, Nat.le_of_ble_eq_true rfl⟩ (Nat.le_of_ble_eq_true rfl) (x := ⟨0, 12, 15, 13⟩) (x2 := ⟨0, 12, 19, 21⟩) (n1 := xI) (n2 := xS) htab rfl (by decide) (by decide +kernel) (by decide +kernel) rfl (by decide) (by decide +kernel) (by decide +kernel) (by decide +kernel) (kk2_12 _ _) rfl rfl (fun hk q9 => ?_) (fun hk q9 => ?_) (fun hk => ?_)
  · have hkn : kk2 (zin u0 (z_nt S) && zin u1 (z_nc S)) (decide (z_R S (iN u0) < 200)) ≠ 0 := (by rw [hk]; decide)
    have hk1 := hk
    refine v_astore E dL_record_15 (by decide) rfl ?_
    refine v_iconst E dL_record_17 (v := nI 1) rfl ?_
    exact y_ret E hr rfl (by rw [hk1]) (by rw [mF_n hkn, mS_n hkn]) (by decide) (by decide) dL_record_18
  · have hkn : kk2 (zin u0 (z_nt S) && zin u1 (z_nc S)) (decide (z_R S (iN u0) < 200)) ≠ 0 := (by rw [hk]; decide)
    have hk1 := hk
    refine v_astore E dL_record_19 (by decide) rfl ?_
    refine v_iconst E dL_record_21 (v := nI 2) rfl ?_
    exact y_ret E hr rfl (by rw [hk1]) (by rw [mF_n hkn, mS_n hkn]) (by decide) (by decide) dL_record_22
  · refine v_i2l E dL_record_10 (z := (nI (vd (z_P (srec S (iN u0) (iN u1) u2) (iN u0) (iN u1)) (z_F (srec S (iN u0) (iN u1) u2) (iN u0) (iN u1)))).toInt64) rfl ?_
    refine v_last E dL_record_11 0 3 rfl rfl (by decide) (by decide) (w' := (outE cJ o (vp_updL f 0 (nI (vd (z_P (srec S (iN u0) (iN u1) u2) (iN u0) (iN u1)) (z_F (srec S (iN u0) (iN u1) u2) (iN u0) (iN u1)))).toInt64) :: wX cI cZ cQ a (srec S (iN u0) (iN u1) u2))) rfl ?_
    refine v_goto E dL_record_12 (tgt := 23) (by decide) ?_
    refine v_iconst E dL_record_23 (v := nI 0) rfl ?_
    exact y_ret E hr rfl (by rw [hk]) (by rw [mF_0 hk, mS_0 hk]) (by decide) (by decide) dL_record_24
set_option maxHeartbeats 4000000 in
set_option maxRecDepth 100000 in
theorem x_L_triage (l : Launch) (D : va_G) (cI cZ cQ cJ : ClassId) (a : Nat → Nat) (S : zS) (hok : zOK S) (hl : l.stackTraces = false) (o : Nat) (f : Nat → Int64) (u0 : Int32) (u1 : Int32) (u2 : Int32) : v_Thr l yL_triage wsL_triage { frames := 8, cells := 4, slots := 24, locals := 134 } D (wTy cI cZ cQ cJ) [.ref (a 0), .int (u0), .int (u1), .int (u2), .ref (o)] (outE cJ o f :: wX cI cZ cQ a S) 0 exI (some (.int (nI (kk2 (zin u0 (z_nt S) && zin u1 (z_nc S) && zin u2 (z_nc S)) (decide (iN u1 < iN u2)))))) (outE cJ o (mF (kk2 (zin u0 (z_nt S) && zin u1 (z_nc S) && zin u2 (z_nc S)) (decide (iN u1 < iN u2))) (vp_updL f 0 (nI (zcc (stri S (iN u0) (iN u1) (iN u2)) (iN u0))).toInt64) f) :: wX cI cZ cQ a (mS (kk2 (zin u0 (z_nt S) && zin u1 (z_nc S) && zin u2 (z_nc S)) (decide (iN u1 < iN u2))) (stri S (iN u0) (iN u1) (iN u2)) S)) 4 24 := by
  refine v_throwerH (cc := cL_triage) (maxL := 6) (ret := some .int) (own := RL) (lv0 := [(0, .ref (a 0)), (1, .int (u0)), (2, .int (u1)), (3, .int (u2)), (4, .ref (o))]) (by decide) rfl rfl (Nat.le_of_ble_eq_true rfl) rfl ?_
  intro p9 e9 s9 m9 as9 bl9 me9 cd9 A E hA htab hTx hr
  refine v_aload E dL_triage_0 4 rfl ?_
  refine v_iconst E dL_triage_2 (v := nI 0) rfl ?_
  refine v_aload_n E dL_triage_3 0 rfl rfl ?_
  refine v_iload_n E dL_triage_4 1 rfl rfl ?_
  refine v_iload_n E dL_triage_5 2 rfl rfl ?_
  refine v_iload_n E dL_triage_6 3 rfl rfl ?_
  refine x_cVc2 E hA hTx dL_triage_7 (thr_perm (x_X1_triage l D cI cZ cQ cJ a S hok hl u0 u1 u2) [outE cJ o f] outE_perm outE_perm) (cwV 3 E.2.2.2.1 gL_triage_X1_triage rfl rfl rfl (by decide +kernel) ⟨Nat.le_of_ble_eq_true rfl, Nat.le_of_ble_eq_true rfl⟩) 1 rfl rfl rfl rfl rfl ⟨Nat.le_of_ble_eq_true rfl, Nat.le_of_ble_eq_true rfl⟩ (Nat.le_of_ble_eq_true rfl) (x := ⟨0, 12, 15, 13⟩) (x2 := ⟨0, 12, 19, 15⟩) (n1 := xI) (n2 := xG) htab rfl (by decide) (by decide +kernel) (by decide +kernel) rfl (by decide) (by decide +kernel) (by decide +kernel) (by decide +kernel) (kk2_12 _ _) rfl rfl (fun hk q9 => ?_) (fun hk q9 => ?_) (fun hk => ?_)
  · have hkn : kk2 (zin u0 (z_nt S) && zin u1 (z_nc S) && zin u2 (z_nc S)) (decide (iN u1 < iN u2)) ≠ 0 := (by rw [hk]; decide)
    have hk1 := hk
    refine v_astore E dL_triage_15 (by decide) rfl ?_
    refine v_iconst E dL_triage_17 (v := nI 1) rfl ?_
    exact y_ret E hr rfl (by rw [hk1]) (by rw [mF_n hkn, mS_n hkn]) (by decide) (by decide) dL_triage_18
  · have hkn : kk2 (zin u0 (z_nt S) && zin u1 (z_nc S) && zin u2 (z_nc S)) (decide (iN u1 < iN u2)) ≠ 0 := (by rw [hk]; decide)
    have hk1 := hk
    refine v_astore E dL_triage_19 (by decide) rfl ?_
    refine v_iconst E dL_triage_21 (v := nI 2) rfl ?_
    exact y_ret E hr rfl (by rw [hk1]) (by rw [mF_n hkn, mS_n hkn]) (by decide) (by decide) dL_triage_22
  · refine v_i2l E dL_triage_10 (z := (nI (zcc (stri S (iN u0) (iN u1) (iN u2)) (iN u0))).toInt64) rfl ?_
    refine v_last E dL_triage_11 0 3 rfl rfl (by decide) (by decide) (w' := (outE cJ o (vp_updL f 0 (nI (zcc (stri S (iN u0) (iN u1) (iN u2)) (iN u0))).toInt64) :: wX cI cZ cQ a (stri S (iN u0) (iN u1) (iN u2)))) rfl ?_
    refine v_goto E dL_triage_12 (tgt := 23) (by decide) ?_
    refine v_iconst E dL_triage_23 (v := nI 0) rfl ?_
    exact y_ret E hr rfl (by rw [hk]) (by rw [mF_0 hk, mS_0 hk]) (by decide) (by decide) dL_triage_24
set_option maxHeartbeats 4000000 in
set_option maxRecDepth 100000 in
theorem x_L_close (l : Launch) (D : va_G) (cI cZ cQ cJ : ClassId) (a : Nat → Nat) (S : zS) (hok : zOK S) (hl : l.stackTraces = false) (o : Nat) (f : Nat → Int64) (u0 : Int32) : v_Thr l yL_close wsL_close { frames := 8, cells := 2, slots := 12, locals := 133 } D (wTy cI cZ cQ cJ) [.ref (a 0), .int (u0), .ref (o)] (outE cJ o f :: wX cI cZ cQ a S) 0 exI (some (.int (nI (kk2 (zin u0 (z_nt S)) (z_T S (iN u0)))))) (outE cJ o (mF (kk2 (zin u0 (z_nt S)) (z_T S (iN u0))) (vp_updL f 0 (zonly S (iN u0)).toInt64) f) :: wX cI cZ cQ a (mS (kk2 (zin u0 (z_nt S)) (z_T S (iN u0))) (sclo S (iN u0)) S)) 2 12 := by
  refine v_throwerH (cc := cL_close) (maxL := 4) (ret := some .int) (own := RL) (lv0 := [(0, .ref (a 0)), (1, .int (u0)), (2, .ref (o))]) (by decide) rfl rfl (Nat.le_of_ble_eq_true rfl) rfl ?_
  intro p9 e9 s9 m9 as9 bl9 me9 cd9 A E hA htab hTx hr
  refine v_aload_n E dL_close_0 2 rfl rfl ?_
  refine v_iconst E dL_close_1 (v := nI 0) rfl ?_
  refine v_aload_n E dL_close_2 0 rfl rfl ?_
  refine v_iload_n E dL_close_3 1 rfl rfl ?_
  refine x_cVc2 E hA hTx dL_close_4 (thr_perm (x_X1_close l D cI cZ cQ cJ a S hok hl u0) [outE cJ o f] outE_perm outE_perm) (cwV 1 E.2.2.2.1 gL_close_X1_close rfl rfl rfl (by decide +kernel) ⟨Nat.le_of_ble_eq_true rfl, Nat.le_of_ble_eq_true rfl⟩) 1 rfl rfl rfl rfl rfl ⟨Nat.le_of_ble_eq_true rfl, Nat.le_of_ble_eq_true rfl⟩ (Nat.le_of_ble_eq_true rfl) (x := ⟨0, 9, 12, 13⟩) (x2 := ⟨0, 9, 15, 21⟩) (n1 := xI) (n2 := xS) htab rfl (by decide) (by decide +kernel) (by decide +kernel) rfl (by decide) (by decide +kernel) (by decide +kernel) (by decide +kernel) (kk2_12 _ _) rfl rfl (fun hk q9 => ?_) (fun hk q9 => ?_) (fun hk => ?_)
  · have hkn : kk2 (zin u0 (z_nt S)) (z_T S (iN u0)) ≠ 0 := (by rw [hk]; decide)
    have hk1 := hk
    refine v_astore_n E dL_close_12 rfl (by decide) rfl ?_
    refine v_iconst E dL_close_13 (v := nI 1) rfl ?_
    exact y_ret E hr rfl (by rw [hk1]) (by rw [mF_n hkn, mS_n hkn]) (by decide) (by decide) dL_close_14
  · have hkn : kk2 (zin u0 (z_nt S)) (z_T S (iN u0)) ≠ 0 := (by rw [hk]; decide)
    have hk1 := hk
    refine v_astore_n E dL_close_15 rfl (by decide) rfl ?_
    refine v_iconst E dL_close_16 (v := nI 2) rfl ?_
    exact y_ret E hr rfl (by rw [hk1]) (by rw [mF_n hkn, mS_n hkn]) (by decide) (by decide) dL_close_17
  · refine v_i2l E dL_close_7 (z := (zonly S (iN u0)).toInt64) rfl ?_
    refine v_last E dL_close_8 0 3 rfl rfl (by decide) (by decide) (w' := (outE cJ o (vp_updL f 0 (zonly S (iN u0)).toInt64) :: wX cI cZ cQ a (sclo S (iN u0)))) rfl ?_
    refine v_goto E dL_close_9 (tgt := 18) (by decide) ?_
    refine v_iconst E dL_close_18 (v := nI 0) rfl ?_
    exact y_ret E hr rfl (by rw [hk]) (by rw [mF_0 hk, mS_0 hk]) (by decide) (by decide) dL_close_19
set_option maxHeartbeats 4000000 in
set_option maxRecDepth 100000 in
theorem x_L_enqueue (l : Launch) (D : va_G) (cI cZ cQ cJ : ClassId) (a : Nat → Nat) (S : zS) (hok : zOK S) (hl : l.stackTraces = false) (o : Nat) (f : Nat → Int64) (u0 : Int32) : v_Thr l yL_enqueue wsL_enqueue { frames := 8, cells := 3, slots := 18, locals := 132 } D (wTy cI cZ cQ cJ) [.ref (a 0), .int (u0), .ref (o)] (outE cJ o f :: wX cI cZ cQ a S) 0 exI (some (.int (nI (kk2 (zin u0 (z_nt S)) (z_T S (iN u0) && decide (plc (z_Q S) (z_qn S) (iN u0) = 0)))))) (outE cJ o (mF (kk2 (zin u0 (z_nt S)) (z_T S (iN u0) && decide (plc (z_Q S) (z_qn S) (iN u0) = 0))) (vp_updL f 0 (nI (z_qn S + 1)).toInt64) f) :: wX cI cZ cQ a (mS (kk2 (zin u0 (z_nt S)) (z_T S (iN u0) && decide (plc (z_Q S) (z_qn S) (iN u0) = 0))) (sjn S (iN u0)) S)) 3 18 := by
  refine v_throwerH (cc := cL_enqueue) (maxL := 4) (ret := some .int) (own := RL) (lv0 := [(0, .ref (a 0)), (1, .int (u0)), (2, .ref (o))]) (by decide) rfl rfl (Nat.le_of_ble_eq_true rfl) rfl ?_
  intro p9 e9 s9 m9 as9 bl9 me9 cd9 A E hA htab hTx hr
  refine v_aload_n E dL_enqueue_0 2 rfl rfl ?_
  refine v_iconst E dL_enqueue_1 (v := nI 0) rfl ?_
  refine v_aload_n E dL_enqueue_2 0 rfl rfl ?_
  refine v_iload_n E dL_enqueue_3 1 rfl rfl ?_
  refine x_cVc2 E hA hTx dL_enqueue_4 (thr_perm (x_X1_enqueue l D cI cZ cQ cJ a S hok hl u0) [outE cJ o f] outE_perm outE_perm) (cwV 1 E.2.2.2.1 gL_enqueue_X1_enqueue rfl rfl rfl (by decide +kernel) ⟨Nat.le_of_ble_eq_true rfl, Nat.le_of_ble_eq_true rfl⟩) 1 rfl rfl rfl rfl rfl ⟨Nat.le_of_ble_eq_true rfl, Nat.le_of_ble_eq_true rfl⟩ (Nat.le_of_ble_eq_true rfl) (x := ⟨0, 9, 12, 13⟩) (x2 := ⟨0, 9, 15, 21⟩) (n1 := xI) (n2 := xS) htab rfl (by decide) (by decide +kernel) (by decide +kernel) rfl (by decide) (by decide +kernel) (by decide +kernel) (by decide +kernel) (kk2_12 _ _) rfl rfl (fun hk q9 => ?_) (fun hk q9 => ?_) (fun hk => ?_)
  · have hkn : kk2 (zin u0 (z_nt S)) (z_T S (iN u0) && decide (plc (z_Q S) (z_qn S) (iN u0) = 0)) ≠ 0 := (by rw [hk]; decide)
    have hk1 := hk
    refine v_astore_n E dL_enqueue_12 rfl (by decide) rfl ?_
    refine v_iconst E dL_enqueue_13 (v := nI 1) rfl ?_
    exact y_ret E hr rfl (by rw [hk1]) (by rw [mF_n hkn, mS_n hkn]) (by decide) (by decide) dL_enqueue_14
  · have hkn : kk2 (zin u0 (z_nt S)) (z_T S (iN u0) && decide (plc (z_Q S) (z_qn S) (iN u0) = 0)) ≠ 0 := (by rw [hk]; decide)
    have hk1 := hk
    refine v_astore_n E dL_enqueue_15 rfl (by decide) rfl ?_
    refine v_iconst E dL_enqueue_16 (v := nI 2) rfl ?_
    exact y_ret E hr rfl (by rw [hk1]) (by rw [mF_n hkn, mS_n hkn]) (by decide) (by decide) dL_enqueue_17
  · refine v_i2l E dL_enqueue_7 (z := (nI (z_qn S + 1)).toInt64) rfl ?_
    refine v_last E dL_enqueue_8 0 3 rfl rfl (by decide) (by decide) (w' := (outE cJ o (vp_updL f 0 (nI (z_qn S + 1)).toInt64) :: wX cI cZ cQ a (sjn S (iN u0)))) rfl ?_
    refine v_goto E dL_enqueue_9 (tgt := 18) (by decide) ?_
    refine v_iconst E dL_enqueue_18 (v := nI 0) rfl ?_
    exact y_ret E hr rfl (by rw [hk]) (by rw [mF_0 hk, mS_0 hk]) (by decide) (by decide) dL_enqueue_19
set_option maxHeartbeats 4000000 in
set_option maxRecDepth 100000 in
theorem x_L_newDay (l : Launch) (D : va_G) (cI cZ cQ cJ : ClassId) (a : Nat → Nat) (S : zS) (hok : zOK S) (hl : l.stackTraces = false) (o : Nat) (f : Nat → Int64) (u0 : Int32) : v_Thr l yL_newDay wsL_newDay { frames := 7, cells := 1, slots := 6, locals := 112 } D (wTy cI cZ cQ cJ) [.ref (a 0), .int (u0), .ref (o)] (outE cJ o f :: wX cI cZ cQ a S) 0 exI (some (.int (nI (kk1 (zin u0 101))))) (outE cJ o (mF (kk1 (zin u0 101)) (vp_updL f 0 (nI (z_bu S)).toInt64) f) :: wX cI cZ cQ a (mS (kk1 (zin u0 101)) (zs_bu S (iN u0)) S)) 1 6 := by
  refine v_throwerH (cc := cL_newDay) (maxL := 4) (ret := some .int) (own := RL) (lv0 := [(0, .ref (a 0)), (1, .int (u0)), (2, .ref (o))]) (by decide) rfl rfl (Nat.le_of_ble_eq_true rfl) rfl ?_
  intro p9 e9 s9 m9 as9 bl9 me9 cd9 A E hA htab hTx hr
  refine v_aload_n E dL_newDay_0 2 rfl rfl ?_
  refine v_iconst E dL_newDay_1 (v := nI 0) rfl ?_
  refine v_aload_n E dL_newDay_2 0 rfl rfl ?_
  refine v_iload_n E dL_newDay_3 1 rfl rfl ?_
  refine x_cVc1 E hA hTx dL_newDay_4 (thr_perm (x_X1_newDay l D cI cZ cQ cJ a S hok hl u0) [outE cJ o f] outE_perm outE_perm) (cwV 1 E.2.2.2.1 gL_newDay_X1_newDay rfl rfl rfl (by decide +kernel) ⟨Nat.le_of_ble_eq_true rfl, Nat.le_of_ble_eq_true rfl⟩) 1 rfl rfl rfl rfl rfl ⟨Nat.le_of_ble_eq_true rfl, Nat.le_of_ble_eq_true rfl⟩ (Nat.le_of_ble_eq_true rfl) (x := ⟨0, 9, 12, 15⟩) (n1 := xG) htab rfl (by decide) (by decide +kernel) (by decide +kernel) (fun hk => rfl) (fun hk q9 => ?_) (fun hk => ?_)
  · have hkn : kk1 (zin u0 101) ≠ 0 := hk
    have hk1 : kk1 (zin u0 101) = 1 := (kk1_12 _).resolve_left hk
    refine v_astore_n E dL_newDay_12 rfl (by decide) rfl ?_
    refine v_iconst E dL_newDay_13 (v := nI 1) rfl ?_
    exact y_ret E hr rfl (by rw [hk1]) (by rw [mF_n hkn, mS_n hkn]) (by decide) (by decide) dL_newDay_14
  · refine v_i2l E dL_newDay_7 (z := (nI (z_bu S)).toInt64) rfl ?_
    refine v_last E dL_newDay_8 0 3 rfl rfl (by decide) (by decide) (w' := (outE cJ o (vp_updL f 0 (nI (z_bu S)).toInt64) :: wX cI cZ cQ a (zs_bu S (iN u0)))) rfl ?_
    refine v_goto E dL_newDay_9 (tgt := 15) (by decide) ?_
    refine v_iconst E dL_newDay_15 (v := nI 0) rfl ?_
    exact y_ret E hr rfl (by rw [hk]) (by rw [mF_0 hk, mS_0 hk]) (by decide) (by decide) dL_newDay_16
set_option maxHeartbeats 4000000 in
set_option maxRecDepth 100000 in
theorem x_L_take (l : Launch) (D : va_G) (cI cZ cQ cJ : ClassId) (a : Nat → Nat) (S : zS) (hok : zOK S) (hl : l.stackTraces = false) (o : Nat) (f : Nat → Int64)  : v_Thr l yL_take wsL_take { frames := 7, cells := 1, slots := 6, locals := 122 } D (wTy cI cZ cQ cJ) [.ref (a 0), .ref (o)] (outE cJ o f :: wX cI cZ cQ a S) 0 exI (some (.int (nI (kk1 (decide (0 < z_qn S) && decide (0 < z_bu S)))))) (outE cJ o (mF (kk1 (decide (0 < z_qn S) && decide (0 < z_bu S))) (vp_updL f 0 (nI (z_Q S 0)).toInt64) f) :: wX cI cZ cQ a (mS (kk1 (decide (0 < z_qn S) && decide (0 < z_bu S))) (stak S) S)) 1 6 := by
  refine v_throwerH (cc := cL_take) (maxL := 3) (ret := some .int) (own := RL) (lv0 := [(0, .ref (a 0)), (1, .ref (o))]) (by decide) rfl rfl (Nat.le_of_ble_eq_true rfl) rfl ?_
  intro p9 e9 s9 m9 as9 bl9 me9 cd9 A E hA htab hTx hr
  refine v_aload_n E dL_take_0 1 rfl rfl ?_
  refine v_iconst E dL_take_1 (v := nI 0) rfl ?_
  refine v_aload_n E dL_take_2 0 rfl rfl ?_
  refine x_cVc1 E hA hTx dL_take_3 (thr_perm (x_X1_take l D cI cZ cQ cJ a S hok hl ) [outE cJ o f] outE_perm outE_perm) (cwV 0 E.2.2.2.1 gL_take_X1_take rfl rfl rfl (by decide +kernel) ⟨Nat.le_of_ble_eq_true rfl, Nat.le_of_ble_eq_true rfl⟩) 1 rfl rfl rfl rfl rfl ⟨Nat.le_of_ble_eq_true rfl, Nat.le_of_ble_eq_true rfl⟩ (Nat.le_of_ble_eq_true rfl) (x := ⟨0, 8, 11, 21⟩) (n1 := xS) htab rfl (by decide) (by decide +kernel) (by decide +kernel) (fun hk => rfl) (fun hk q9 => ?_) (fun hk => ?_)
  · have hkn : kk1 (decide (0 < z_qn S) && decide (0 < z_bu S)) ≠ 0 := hk
    have hk1 : kk1 (decide (0 < z_qn S) && decide (0 < z_bu S)) = 1 := (kk1_12 _).resolve_left hk
    refine v_astore_n E dL_take_11 rfl (by decide) rfl ?_
    refine v_iconst E dL_take_12 (v := nI 1) rfl ?_
    exact y_ret E hr rfl (by rw [hk1]) (by rw [mF_n hkn, mS_n hkn]) (by decide) (by decide) dL_take_13
  · refine v_i2l E dL_take_6 (z := (nI (z_Q S 0)).toInt64) rfl ?_
    refine v_last E dL_take_7 0 3 rfl rfl (by decide) (by decide) (w' := (outE cJ o (vp_updL f 0 (nI (z_Q S 0)).toInt64) :: wX cI cZ cQ a (stak S))) rfl ?_
    refine v_goto E dL_take_8 (tgt := 14) (by decide) ?_
    refine v_iconst E dL_take_14 (v := nI 0) rfl ?_
    exact y_ret E hr rfl (by rw [hk]) (by rw [mF_0 hk, mS_0 hk]) (by decide) (by decide) dL_take_15
set_option maxHeartbeats 4000000 in
set_option maxRecDepth 100000 in
theorem x_L_partsOf (l : Launch) (D : va_G) (cI cZ cQ cJ : ClassId) (a : Nat → Nat) (S : zS) (hok : zOK S) (hl : l.stackTraces = false) (o : Nat) (f : Nat → Int64) (u0 : Int32) : v_Thr l yL_partsOf wsL_partsOf { frames := 8, cells := 1, slots := 6, locals := 132 } D (wTy cI cZ cQ cJ) [.ref (a 0), .int (u0), .ref (o)] (outE cJ o f :: wX cI cZ cQ a S) 0 exI (some (.int (nI (kk1 (zin u0 (z_nt S)))))) (outE cJ o (mF (kk1 (zin u0 (z_nt S))) (vp_updL f 0 (nI (zre S (iN u0))).toInt64) f) :: wX cI cZ cQ a S) 1 6 := by
  refine v_throwerH (cc := cL_partsOf) (maxL := 4) (ret := some .int) (own := RL) (lv0 := [(0, .ref (a 0)), (1, .int (u0)), (2, .ref (o))]) (by decide) rfl rfl (Nat.le_of_ble_eq_true rfl) rfl ?_
  intro p9 e9 s9 m9 as9 bl9 me9 cd9 A E hA htab hTx hr
  refine v_aload_n E dL_partsOf_0 2 rfl rfl ?_
  refine v_iconst E dL_partsOf_1 (v := nI 0) rfl ?_
  refine v_aload_n E dL_partsOf_2 0 rfl rfl ?_
  refine v_iload_n E dL_partsOf_3 1 rfl rfl ?_
  refine x_cVc1 E hA hTx dL_partsOf_4 (thr_perm (x_X1_partsOf l D cI cZ cQ cJ a S hok hl u0) [outE cJ o f] outE_perm outE_perm) (cwV 1 E.2.2.2.1 gL_partsOf_X1_partsOf rfl rfl rfl (by decide +kernel) ⟨Nat.le_of_ble_eq_true rfl, Nat.le_of_ble_eq_true rfl⟩) 1 rfl rfl rfl rfl rfl ⟨Nat.le_of_ble_eq_true rfl, Nat.le_of_ble_eq_true rfl⟩ (Nat.le_of_ble_eq_true rfl) (x := ⟨0, 9, 12, 13⟩) (n1 := xI) htab rfl (by decide) (by decide +kernel) (by decide +kernel) (fun hk => rfl) (fun hk q9 => ?_) (fun hk => ?_)
  · have hkn : kk1 (zin u0 (z_nt S)) ≠ 0 := hk
    have hk1 : kk1 (zin u0 (z_nt S)) = 1 := (kk1_12 _).resolve_left hk
    refine v_astore_n E dL_partsOf_12 rfl (by decide) rfl ?_
    refine v_iconst E dL_partsOf_13 (v := nI 1) rfl ?_
    exact y_ret E hr rfl (by rw [hk1]) (by rw [mF_n hkn]) (by decide) (by decide) dL_partsOf_14
  · refine v_i2l E dL_partsOf_7 (z := (nI (zre S (iN u0))).toInt64) rfl ?_
    refine v_last E dL_partsOf_8 0 3 rfl rfl (by decide) (by decide) (w' := (outE cJ o (vp_updL f 0 (nI (zre S (iN u0))).toInt64) :: wX cI cZ cQ a (S))) rfl ?_
    refine v_goto E dL_partsOf_9 (tgt := 15) (by decide) ?_
    refine v_iconst E dL_partsOf_15 (v := nI 0) rfl ?_
    exact y_ret E hr rfl (by rw [hk]) (by rw [mF_0 hk]) (by decide) (by decide) dL_partsOf_16
set_option maxHeartbeats 4000000 in
set_option maxRecDepth 100000 in
theorem x_L_touches (l : Launch) (D : va_G) (cI cZ cQ cJ : ClassId) (a : Nat → Nat) (S : zS) (hok : zOK S) (hl : l.stackTraces = false) (o : Nat) (f : Nat → Int64) (u0 : Int32) : v_Thr l yL_touches wsL_touches { frames := 8, cells := 1, slots := 6, locals := 134 } D (wTy cI cZ cQ cJ) [.ref (a 0), .int (u0), .ref (o)] (outE cJ o f :: wX cI cZ cQ a S) 0 exI (some (.int (nI (kk1 (zin u0 (z_nc S)))))) (outE cJ o (mF (kk1 (zin u0 (z_nc S))) (vp_updL f 0 (nI (msk (ztou S (iN u0)) (z_nt S))).toInt64) f) :: wX cI cZ cQ a S) 1 6 := by
  refine v_throwerH (cc := cL_touches) (maxL := 4) (ret := some .int) (own := RL) (lv0 := [(0, .ref (a 0)), (1, .int (u0)), (2, .ref (o))]) (by decide) rfl rfl (Nat.le_of_ble_eq_true rfl) rfl ?_
  intro p9 e9 s9 m9 as9 bl9 me9 cd9 A E hA htab hTx hr
  refine v_aload_n E dL_touches_0 2 rfl rfl ?_
  refine v_iconst E dL_touches_1 (v := nI 0) rfl ?_
  refine v_aload_n E dL_touches_2 0 rfl rfl ?_
  refine v_iload_n E dL_touches_3 1 rfl rfl ?_
  refine x_cVc1 E hA hTx dL_touches_4 (thr_perm (x_X1_touches l D cI cZ cQ cJ a S hok hl u0) [outE cJ o f] outE_perm outE_perm) (cwV 1 E.2.2.2.1 gL_touches_X1_touches rfl rfl rfl (by decide +kernel) ⟨Nat.le_of_ble_eq_true rfl, Nat.le_of_ble_eq_true rfl⟩) 1 rfl rfl rfl rfl rfl ⟨Nat.le_of_ble_eq_true rfl, Nat.le_of_ble_eq_true rfl⟩ (Nat.le_of_ble_eq_true rfl) (x := ⟨0, 9, 12, 13⟩) (n1 := xI) htab rfl (by decide) (by decide +kernel) (by decide +kernel) (fun hk => rfl) (fun hk q9 => ?_) (fun hk => ?_)
  · have hkn : kk1 (zin u0 (z_nc S)) ≠ 0 := hk
    have hk1 : kk1 (zin u0 (z_nc S)) = 1 := (kk1_12 _).resolve_left hk
    refine v_astore_n E dL_touches_12 rfl (by decide) rfl ?_
    refine v_iconst E dL_touches_13 (v := nI 1) rfl ?_
    exact y_ret E hr rfl (by rw [hk1]) (by rw [mF_n hkn]) (by decide) (by decide) dL_touches_14
  · refine v_i2l E dL_touches_7 (z := (nI (msk (ztou S (iN u0)) (z_nt S))).toInt64) rfl ?_
    refine v_last E dL_touches_8 0 3 rfl rfl (by decide) (by decide) (w' := (outE cJ o (vp_updL f 0 (nI (msk (ztou S (iN u0)) (z_nt S))).toInt64) :: wX cI cZ cQ a (S))) rfl ?_
    refine v_goto E dL_touches_9 (tgt := 15) (by decide) ?_
    refine v_iconst E dL_touches_15 (v := nI 0) rfl ?_
    exact y_ret E hr rfl (by rw [hk]) (by rw [mF_0 hk]) (by decide) (by decide) dL_touches_16
set_option maxHeartbeats 4000000 in
set_option maxRecDepth 100000 in
theorem x_L_runs (l : Launch) (D : va_G) (cI cZ cQ cJ : ClassId) (a : Nat → Nat) (S : zS) (hok : zOK S) (hl : l.stackTraces = false) (o : Nat) (f : Nat → Int64) (u0 : Int32) : v_Thr l yL_runs wsL_runs { frames := 8, cells := 1, slots := 6, locals := 132 } D (wTy cI cZ cQ cJ) [.ref (a 0), .int (u0), .ref (o)] (outE cJ o f :: wX cI cZ cQ a S) 0 exI (some (.int (nI (kk1 (zin u0 (z_nt S)))))) (outE cJ o (mF (kk1 (zin u0 (z_nt S))) (vp_updL f 0 (nI (z_R S (iN u0))).toInt64) f) :: wX cI cZ cQ a S) 1 6 := by
  refine v_throwerH (cc := cL_runs) (maxL := 4) (ret := some .int) (own := RL) (lv0 := [(0, .ref (a 0)), (1, .int (u0)), (2, .ref (o))]) (by decide) rfl rfl (Nat.le_of_ble_eq_true rfl) rfl ?_
  intro p9 e9 s9 m9 as9 bl9 me9 cd9 A E hA htab hTx hr
  refine v_aload_n E dL_runs_0 2 rfl rfl ?_
  refine v_iconst E dL_runs_1 (v := nI 0) rfl ?_
  refine v_aload_n E dL_runs_2 0 rfl rfl ?_
  refine v_iload_n E dL_runs_3 1 rfl rfl ?_
  refine x_cVc1 E hA hTx dL_runs_4 (thr_perm (x_X1_runs l D cI cZ cQ cJ a S hok hl u0) [outE cJ o f] outE_perm outE_perm) (cwV 1 E.2.2.2.1 gL_runs_X1_runs rfl rfl rfl (by decide +kernel) ⟨Nat.le_of_ble_eq_true rfl, Nat.le_of_ble_eq_true rfl⟩) 1 rfl rfl rfl rfl rfl ⟨Nat.le_of_ble_eq_true rfl, Nat.le_of_ble_eq_true rfl⟩ (Nat.le_of_ble_eq_true rfl) (x := ⟨0, 9, 12, 13⟩) (n1 := xI) htab rfl (by decide) (by decide +kernel) (by decide +kernel) (fun hk => rfl) (fun hk q9 => ?_) (fun hk => ?_)
  · have hkn : kk1 (zin u0 (z_nt S)) ≠ 0 := hk
    have hk1 : kk1 (zin u0 (z_nt S)) = 1 := (kk1_12 _).resolve_left hk
    refine v_astore_n E dL_runs_12 rfl (by decide) rfl ?_
    refine v_iconst E dL_runs_13 (v := nI 1) rfl ?_
    exact y_ret E hr rfl (by rw [hk1]) (by rw [mF_n hkn]) (by decide) (by decide) dL_runs_14
  · refine v_i2l E dL_runs_7 (z := (nI (z_R S (iN u0))).toInt64) rfl ?_
    refine v_last E dL_runs_8 0 3 rfl rfl (by decide) (by decide) (w' := (outE cJ o (vp_updL f 0 (nI (z_R S (iN u0))).toInt64) :: wX cI cZ cQ a (S))) rfl ?_
    refine v_goto E dL_runs_9 (tgt := 15) (by decide) ?_
    refine v_iconst E dL_runs_15 (v := nI 0) rfl ?_
    exact y_ret E hr rfl (by rw [hk]) (by rw [mF_0 hk]) (by decide) (by decide) dL_runs_16
set_option maxHeartbeats 4000000 in
set_option maxRecDepth 100000 in
theorem x_L_verdict (l : Launch) (D : va_G) (cI cZ cQ cJ : ClassId) (a : Nat → Nat) (S : zS) (hok : zOK S) (hl : l.stackTraces = false) (o : Nat) (f : Nat → Int64) (u0 : Int32) (u1 : Int32) : v_Thr l yL_verdict wsL_verdict { frames := 8, cells := 2, slots := 12, locals := 133 } D (wTy cI cZ cQ cJ) [.ref (a 0), .int (u0), .int (u1), .ref (o)] (outE cJ o f :: wX cI cZ cQ a S) 0 exI (some (.int (nI (kk1 (zin u0 (z_nt S) && zin u1 (z_nc S)))))) (outE cJ o (mF (kk1 (zin u0 (z_nt S) && zin u1 (z_nc S))) (vp_updL f 0 (nI (vd (z_P S (iN u0) (iN u1)) (z_F S (iN u0) (iN u1)))).toInt64) f) :: wX cI cZ cQ a S) 2 12 := by
  refine v_throwerH (cc := cL_verdict) (maxL := 5) (ret := some .int) (own := RL) (lv0 := [(0, .ref (a 0)), (1, .int (u0)), (2, .int (u1)), (3, .ref (o))]) (by decide) rfl rfl (Nat.le_of_ble_eq_true rfl) rfl ?_
  intro p9 e9 s9 m9 as9 bl9 me9 cd9 A E hA htab hTx hr
  refine v_aload_n E dL_verdict_0 3 rfl rfl ?_
  refine v_iconst E dL_verdict_1 (v := nI 0) rfl ?_
  refine v_aload_n E dL_verdict_2 0 rfl rfl ?_
  refine v_iload_n E dL_verdict_3 1 rfl rfl ?_
  refine v_iload_n E dL_verdict_4 2 rfl rfl ?_
  refine x_cVc1 E hA hTx dL_verdict_5 (thr_perm (x_X1_verdict l D cI cZ cQ cJ a S hok hl u0 u1) [outE cJ o f] outE_perm outE_perm) (cwV 2 E.2.2.2.1 gL_verdict_X1_verdict rfl rfl rfl (by decide +kernel) ⟨Nat.le_of_ble_eq_true rfl, Nat.le_of_ble_eq_true rfl⟩) 1 rfl rfl rfl rfl rfl ⟨Nat.le_of_ble_eq_true rfl, Nat.le_of_ble_eq_true rfl⟩ (Nat.le_of_ble_eq_true rfl) (x := ⟨0, 10, 13, 13⟩) (n1 := xI) htab rfl (by decide) (by decide +kernel) (by decide +kernel) (fun hk => rfl) (fun hk q9 => ?_) (fun hk => ?_)
  · have hkn : kk1 (zin u0 (z_nt S) && zin u1 (z_nc S)) ≠ 0 := hk
    have hk1 : kk1 (zin u0 (z_nt S) && zin u1 (z_nc S)) = 1 := (kk1_12 _).resolve_left hk
    refine v_astore E dL_verdict_13 (by decide) rfl ?_
    refine v_iconst E dL_verdict_15 (v := nI 1) rfl ?_
    exact y_ret E hr rfl (by rw [hk1]) (by rw [mF_n hkn]) (by decide) (by decide) dL_verdict_16
  · refine v_i2l E dL_verdict_8 (z := (nI (vd (z_P S (iN u0) (iN u1)) (z_F S (iN u0) (iN u1)))).toInt64) rfl ?_
    refine v_last E dL_verdict_9 0 3 rfl rfl (by decide) (by decide) (w' := (outE cJ o (vp_updL f 0 (nI (vd (z_P S (iN u0) (iN u1)) (z_F S (iN u0) (iN u1)))).toInt64) :: wX cI cZ cQ a (S))) rfl ?_
    refine v_goto E dL_verdict_10 (tgt := 17) (by decide) ?_
    refine v_iconst E dL_verdict_17 (v := nI 0) rfl ?_
    exact y_ret E hr rfl (by rw [hk]) (by rw [mF_0 hk]) (by decide) (by decide) dL_verdict_18
set_option maxHeartbeats 4000000 in
set_option maxRecDepth 100000 in
theorem x_L_failing (l : Launch) (D : va_G) (cI cZ cQ cJ : ClassId) (a : Nat → Nat) (S : zS) (hok : zOK S) (hl : l.stackTraces = false) (o : Nat) (f : Nat → Int64) (u0 : Int32) : v_Thr l yL_failing wsL_failing { frames := 8, cells := 1, slots := 6, locals := 133 } D (wTy cI cZ cQ cJ) [.ref (a 0), .int (u0), .ref (o)] (outE cJ o f :: wX cI cZ cQ a S) 0 exI (some (.int (nI (kk1 (zin u0 (z_nt S)))))) (outE cJ o (mF (kk1 (zin u0 (z_nt S))) (vp_updL f 0 (nI (zfai S (iN u0))).toInt64) f) :: wX cI cZ cQ a S) 1 6 := by
  refine v_throwerH (cc := cL_failing) (maxL := 4) (ret := some .int) (own := RL) (lv0 := [(0, .ref (a 0)), (1, .int (u0)), (2, .ref (o))]) (by decide) rfl rfl (Nat.le_of_ble_eq_true rfl) rfl ?_
  intro p9 e9 s9 m9 as9 bl9 me9 cd9 A E hA htab hTx hr
  refine v_aload_n E dL_failing_0 2 rfl rfl ?_
  refine v_iconst E dL_failing_1 (v := nI 0) rfl ?_
  refine v_aload_n E dL_failing_2 0 rfl rfl ?_
  refine v_iload_n E dL_failing_3 1 rfl rfl ?_
  refine x_cVc1 E hA hTx dL_failing_4 (thr_perm (x_X1_failing l D cI cZ cQ cJ a S hok hl u0) [outE cJ o f] outE_perm outE_perm) (cwV 1 E.2.2.2.1 gL_failing_X1_failing rfl rfl rfl (by decide +kernel) ⟨Nat.le_of_ble_eq_true rfl, Nat.le_of_ble_eq_true rfl⟩) 1 rfl rfl rfl rfl rfl ⟨Nat.le_of_ble_eq_true rfl, Nat.le_of_ble_eq_true rfl⟩ (Nat.le_of_ble_eq_true rfl) (x := ⟨0, 9, 12, 13⟩) (n1 := xI) htab rfl (by decide) (by decide +kernel) (by decide +kernel) (fun hk => rfl) (fun hk q9 => ?_) (fun hk => ?_)
  · have hkn : kk1 (zin u0 (z_nt S)) ≠ 0 := hk
    have hk1 : kk1 (zin u0 (z_nt S)) = 1 := (kk1_12 _).resolve_left hk
    refine v_astore_n E dL_failing_12 rfl (by decide) rfl ?_
    refine v_iconst E dL_failing_13 (v := nI 1) rfl ?_
    exact y_ret E hr rfl (by rw [hk1]) (by rw [mF_n hkn]) (by decide) (by decide) dL_failing_14
  · refine v_i2l E dL_failing_7 (z := (nI (zfai S (iN u0))).toInt64) rfl ?_
    refine v_last E dL_failing_8 0 3 rfl rfl (by decide) (by decide) (w' := (outE cJ o (vp_updL f 0 (nI (zfai S (iN u0))).toInt64) :: wX cI cZ cQ a (S))) rfl ?_
    refine v_goto E dL_failing_9 (tgt := 15) (by decide) ?_
    refine v_iconst E dL_failing_15 (v := nI 0) rfl ?_
    exact y_ret E hr rfl (by rw [hk]) (by rw [mF_0 hk]) (by decide) (by decide) dL_failing_16
set_option maxHeartbeats 4000000 in
set_option maxRecDepth 100000 in
theorem x_L_isQuarantined (l : Launch) (D : va_G) (cI cZ cQ cJ : ClassId) (a : Nat → Nat) (S : zS) (hok : zOK S) (hl : l.stackTraces = false) (o : Nat) (f : Nat → Int64) (u0 : Int32) : v_Thr l yL_isQuarantined wsL_isQuarantined { frames := 8, cells := 1, slots := 6, locals := 132 } D (wTy cI cZ cQ cJ) [.ref (a 0), .int (u0), .ref (o)] (outE cJ o f :: wX cI cZ cQ a S) 0 exI (some (.int (nI (kk1 (zin u0 (z_nt S)))))) (outE cJ o (mF (kk1 (zin u0 (z_nt S))) (vp_updL f 0 (zL (decide (z_li S ≤ zmix S (iN u0))))) f) :: wX cI cZ cQ a S) 1 6 := by
  refine v_throwerH (cc := cL_isQuarantined) (maxL := 4) (ret := some .int) (own := RL) (lv0 := [(0, .ref (a 0)), (1, .int (u0)), (2, .ref (o))]) (by decide) rfl rfl (Nat.le_of_ble_eq_true rfl) rfl ?_
  intro p9 e9 s9 m9 as9 bl9 me9 cd9 A E hA htab hTx hr
  refine v_aload_n E dL_isQuarantined_0 2 rfl rfl ?_
  refine v_iconst E dL_isQuarantined_1 (v := nI 0) rfl ?_
  refine v_aload_n E dL_isQuarantined_2 0 rfl rfl ?_
  refine v_iload_n E dL_isQuarantined_3 1 rfl rfl ?_
  refine x_cVc1 E hA hTx dL_isQuarantined_4 (thr_perm (x_X1_isQuarantined l D cI cZ cQ cJ a S hok hl u0) [outE cJ o f] outE_perm outE_perm) (cwV 1 E.2.2.2.1 gL_isQuarantined_X1_isQuarantined rfl rfl rfl (by decide +kernel) ⟨Nat.le_of_ble_eq_true rfl, Nat.le_of_ble_eq_true rfl⟩) 1 rfl rfl rfl rfl rfl ⟨Nat.le_of_ble_eq_true rfl, Nat.le_of_ble_eq_true rfl⟩ (Nat.le_of_ble_eq_true rfl) (x := ⟨0, 16, 19, 13⟩) (n1 := xI) htab rfl (by decide) (by decide +kernel) (by decide +kernel) (fun hk => rfl) (fun hk q9 => ?_) (fun hk => ?_)
  · have hkn : kk1 (zin u0 (z_nt S)) ≠ 0 := hk
    have hk1 : kk1 (zin u0 (z_nt S)) = 1 := (kk1_12 _).resolve_left hk
    refine v_astore_n E dL_isQuarantined_19 rfl (by decide) rfl ?_
    refine v_iconst E dL_isQuarantined_20 (v := nI 1) rfl ?_
    exact y_ret E hr rfl (by rw [hk1]) (by rw [mF_n hkn]) (by decide) (by decide) dL_isQuarantined_21
  · refine b_if_eq E dL_isQuarantined_7 (tgt := 14) (by decide) (fun c7 => ?_) (fun c7 => ?_)
    · refine v_lconst E dL_isQuarantined_14 (v := lN 0) rfl ?_
      refine v_topl (y := (zL (decide (z_li S ≤ zmix S (iN u0))))) (by rw [c7]; rfl) ?_
      refine v_last E dL_isQuarantined_15 0 3 rfl rfl (by decide) (by decide) (w' := (outE cJ o (vp_updL f 0 (zL (decide (z_li S ≤ zmix S (iN u0))))) :: wX cI cZ cQ a (S))) rfl ?_
      refine v_goto E dL_isQuarantined_16 (tgt := 22) (by decide) ?_
      refine v_iconst E dL_isQuarantined_22 (v := nI 0) rfl ?_
      exact y_ret E hr rfl (by rw [hk]) (by rw [mF_0 hk]) (by decide) (by decide) dL_isQuarantined_23
    · refine v_lconst E dL_isQuarantined_10 (v := lN 1) rfl ?_
      refine v_goto E dL_isQuarantined_11 (tgt := 15) (by decide) ?_
      refine v_topl (y := (zL (decide (z_li S ≤ zmix S (iN u0))))) (by rw [c7]; rfl) ?_
      refine v_last E dL_isQuarantined_15 0 3 rfl rfl (by decide) (by decide) (w' := (outE cJ o (vp_updL f 0 (zL (decide (z_li S ≤ zmix S (iN u0))))) :: wX cI cZ cQ a (S))) rfl ?_
      refine v_goto E dL_isQuarantined_16 (tgt := 22) (by decide) ?_
      refine v_iconst E dL_isQuarantined_22 (v := nI 0) rfl ?_
      exact y_ret E hr rfl (by rw [hk]) (by rw [mF_0 hk]) (by decide) (by decide) dL_isQuarantined_23
set_option maxHeartbeats 4000000 in
set_option maxRecDepth 100000 in
theorem x_L_broken (l : Launch) (D : va_G) (cI cZ cQ cJ : ClassId) (a : Nat → Nat) (S : zS) (hok : zOK S) (hl : l.stackTraces = false) (o : Nat) (f : Nat → Int64) (u0 : Int32) : v_Thr l yL_broken wsL_broken { frames := 8, cells := 1, slots := 6, locals := 134 } D (wTy cI cZ cQ cJ) [.ref (a 0), .int (u0), .ref (o)] (outE cJ o f :: wX cI cZ cQ a S) 0 exI (some (.int (nI (kk1 (zin u0 (z_nc S)))))) (outE cJ o (mF (kk1 (zin u0 (z_nc S))) (vp_updL f 0 (nI (msk (zbro S (iN u0)) (z_nt S))).toInt64) f) :: wX cI cZ cQ a S) 1 6 := by
  refine v_throwerH (cc := cL_broken) (maxL := 4) (ret := some .int) (own := RL) (lv0 := [(0, .ref (a 0)), (1, .int (u0)), (2, .ref (o))]) (by decide) rfl rfl (Nat.le_of_ble_eq_true rfl) rfl ?_
  intro p9 e9 s9 m9 as9 bl9 me9 cd9 A E hA htab hTx hr
  refine v_aload_n E dL_broken_0 2 rfl rfl ?_
  refine v_iconst E dL_broken_1 (v := nI 0) rfl ?_
  refine v_aload_n E dL_broken_2 0 rfl rfl ?_
  refine v_iload_n E dL_broken_3 1 rfl rfl ?_
  refine x_cVc1 E hA hTx dL_broken_4 (thr_perm (x_X1_broken l D cI cZ cQ cJ a S hok hl u0) [outE cJ o f] outE_perm outE_perm) (cwV 1 E.2.2.2.1 gL_broken_X1_broken rfl rfl rfl (by decide +kernel) ⟨Nat.le_of_ble_eq_true rfl, Nat.le_of_ble_eq_true rfl⟩) 1 rfl rfl rfl rfl rfl ⟨Nat.le_of_ble_eq_true rfl, Nat.le_of_ble_eq_true rfl⟩ (Nat.le_of_ble_eq_true rfl) (x := ⟨0, 9, 12, 13⟩) (n1 := xI) htab rfl (by decide) (by decide +kernel) (by decide +kernel) (fun hk => rfl) (fun hk q9 => ?_) (fun hk => ?_)
  · have hkn : kk1 (zin u0 (z_nc S)) ≠ 0 := hk
    have hk1 : kk1 (zin u0 (z_nc S)) = 1 := (kk1_12 _).resolve_left hk
    refine v_astore_n E dL_broken_12 rfl (by decide) rfl ?_
    refine v_iconst E dL_broken_13 (v := nI 1) rfl ?_
    exact y_ret E hr rfl (by rw [hk1]) (by rw [mF_n hkn]) (by decide) (by decide) dL_broken_14
  · refine v_i2l E dL_broken_7 (z := (nI (msk (zbro S (iN u0)) (z_nt S))).toInt64) rfl ?_
    refine v_last E dL_broken_8 0 3 rfl rfl (by decide) (by decide) (w' := (outE cJ o (vp_updL f 0 (nI (msk (zbro S (iN u0)) (z_nt S))).toInt64) :: wX cI cZ cQ a (S))) rfl ?_
    refine v_goto E dL_broken_9 (tgt := 15) (by decide) ?_
    refine v_iconst E dL_broken_15 (v := nI 0) rfl ?_
    exact y_ret E hr rfl (by rw [hk]) (by rw [mF_0 hk]) (by decide) (by decide) dL_broken_16
set_option maxHeartbeats 4000000 in
set_option maxRecDepth 100000 in
theorem x_L_suspects (l : Launch) (D : va_G) (cI cZ cQ cJ : ClassId) (a : Nat → Nat) (S : zS) (hok : zOK S) (hl : l.stackTraces = false) (o : Nat) (f : Nat → Int64) (u0 : Int32) : v_Thr l yL_suspects wsL_suspects { frames := 8, cells := 2, slots := 12, locals := 132 } D (wTy cI cZ cQ cJ) [.ref (a 0), .int (u0), .ref (o)] (outE cJ o f :: wX cI cZ cQ a S) 0 exI (some (.int (nI (kk2 (zin u0 (z_nt S)) (z_T S (iN u0)))))) (outE cJ o (mF (kk2 (zin u0 (z_nt S)) (z_T S (iN u0))) (vp_updL f 0 (lN (msk (sus S (iN u0)) (z_B S (iN u0) + 1)))) f) :: wX cI cZ cQ a S) 2 12 := by
  refine v_throwerH (cc := cL_suspects) (maxL := 4) (ret := some .int) (own := RL) (lv0 := [(0, .ref (a 0)), (1, .int (u0)), (2, .ref (o))]) (by decide) rfl rfl (Nat.le_of_ble_eq_true rfl) rfl ?_
  intro p9 e9 s9 m9 as9 bl9 me9 cd9 A E hA htab hTx hr
  refine v_aload_n E dL_suspects_0 2 rfl rfl ?_
  refine v_iconst E dL_suspects_1 (v := nI 0) rfl ?_
  refine v_aload_n E dL_suspects_2 0 rfl rfl ?_
  refine v_iload_n E dL_suspects_3 1 rfl rfl ?_
  refine x_cVc2 E hA hTx dL_suspects_4 (thr_perm (x_X1_suspects l D cI cZ cQ cJ a S hok hl u0) [outE cJ o f] outE_perm outE_perm) (cwV 1 E.2.2.2.1 gL_suspects_X1_suspects rfl rfl rfl (by decide +kernel) ⟨Nat.le_of_ble_eq_true rfl, Nat.le_of_ble_eq_true rfl⟩) 1 rfl rfl rfl rfl rfl ⟨Nat.le_of_ble_eq_true rfl, Nat.le_of_ble_eq_true rfl⟩ (Nat.le_of_ble_eq_true rfl) (x := ⟨0, 8, 11, 13⟩) (x2 := ⟨0, 8, 14, 21⟩) (n1 := xI) (n2 := xS) htab rfl (by decide) (by decide +kernel) (by decide +kernel) rfl (by decide) (by decide +kernel) (by decide +kernel) (by decide +kernel) (kk2_12 _ _) rfl rfl (fun hk q9 => ?_) (fun hk q9 => ?_) (fun hk => ?_)
  · have hkn : kk2 (zin u0 (z_nt S)) (z_T S (iN u0)) ≠ 0 := (by rw [hk]; decide)
    have hk1 := hk
    refine v_astore_n E dL_suspects_11 rfl (by decide) rfl ?_
    refine v_iconst E dL_suspects_12 (v := nI 1) rfl ?_
    exact y_ret E hr rfl (by rw [hk1]) (by rw [mF_n hkn]) (by decide) (by decide) dL_suspects_13
  · have hkn : kk2 (zin u0 (z_nt S)) (z_T S (iN u0)) ≠ 0 := (by rw [hk]; decide)
    have hk1 := hk
    refine v_astore_n E dL_suspects_14 rfl (by decide) rfl ?_
    refine v_iconst E dL_suspects_15 (v := nI 2) rfl ?_
    exact y_ret E hr rfl (by rw [hk1]) (by rw [mF_n hkn]) (by decide) (by decide) dL_suspects_16
  · skip
    refine v_last E dL_suspects_7 0 3 rfl rfl (by decide) (by decide) (w' := (outE cJ o (vp_updL f 0 (lN (msk (sus S (iN u0)) (z_B S (iN u0) + 1)))) :: wX cI cZ cQ a (S))) rfl ?_
    refine v_goto E dL_suspects_8 (tgt := 17) (by decide) ?_
    refine v_iconst E dL_suspects_17 (v := nI 0) rfl ?_
    exact y_ret E hr rfl (by rw [hk]) (by rw [mF_0 hk]) (by decide) (by decide) dL_suspects_18
set_option maxHeartbeats 4000000 in
set_option maxRecDepth 100000 in
theorem x_L_contradictions (l : Launch) (D : va_G) (cI cZ cQ cJ : ClassId) (a : Nat → Nat) (S : zS) (hok : zOK S) (hl : l.stackTraces = false) (o : Nat) (f : Nat → Int64) (u0 : Int32) (u1 : Int32) : v_Thr l yL_contradictions wsL_contradictions { frames := 8, cells := 3, slots := 18, locals := 133 } D (wTy cI cZ cQ cJ) [.ref (a 0), .int (u0), .int (u1), .ref (o)] (outE cJ o f :: wX cI cZ cQ a S) 0 exI (some (.int (nI (kk2 (zin u0 (z_nt S) && zin u1 (z_nc S)) (z_T S (iN u0)))))) (outE cJ o (mF (kk2 (zin u0 (z_nt S) && zin u1 (z_nc S)) (z_T S (iN u0))) (vp_updL f 0 (zco S (iN u0) (iN u1)).toInt64) f) :: wX cI cZ cQ a S) 3 18 := by
  refine v_throwerH (cc := cL_contradictions) (maxL := 5) (ret := some .int) (own := RL) (lv0 := [(0, .ref (a 0)), (1, .int (u0)), (2, .int (u1)), (3, .ref (o))]) (by decide) rfl rfl (Nat.le_of_ble_eq_true rfl) rfl ?_
  intro p9 e9 s9 m9 as9 bl9 me9 cd9 A E hA htab hTx hr
  refine v_aload_n E dL_contradictions_0 3 rfl rfl ?_
  refine v_iconst E dL_contradictions_1 (v := nI 0) rfl ?_
  refine v_aload_n E dL_contradictions_2 0 rfl rfl ?_
  refine v_iload_n E dL_contradictions_3 1 rfl rfl ?_
  refine v_iload_n E dL_contradictions_4 2 rfl rfl ?_
  refine x_cVc2 E hA hTx dL_contradictions_5 (thr_perm (x_X1_contradictions l D cI cZ cQ cJ a S hok hl u0 u1) [outE cJ o f] outE_perm outE_perm) (cwV 2 E.2.2.2.1 gL_contradictions_X1_contradictions rfl rfl rfl (by decide +kernel) ⟨Nat.le_of_ble_eq_true rfl, Nat.le_of_ble_eq_true rfl⟩) 1 rfl rfl rfl rfl rfl ⟨Nat.le_of_ble_eq_true rfl, Nat.le_of_ble_eq_true rfl⟩ (Nat.le_of_ble_eq_true rfl) (x := ⟨0, 10, 13, 13⟩) (x2 := ⟨0, 10, 17, 21⟩) (n1 := xI) (n2 := xS) htab rfl (by decide) (by decide +kernel) (by decide +kernel) rfl (by decide) (by decide +kernel) (by decide +kernel) (by decide +kernel) (kk2_12 _ _) rfl rfl (fun hk q9 => ?_) (fun hk q9 => ?_) (fun hk => ?_)
  · have hkn : kk2 (zin u0 (z_nt S) && zin u1 (z_nc S)) (z_T S (iN u0)) ≠ 0 := (by rw [hk]; decide)
    have hk1 := hk
    refine v_astore E dL_contradictions_13 (by decide) rfl ?_
    refine v_iconst E dL_contradictions_15 (v := nI 1) rfl ?_
    exact y_ret E hr rfl (by rw [hk1]) (by rw [mF_n hkn]) (by decide) (by decide) dL_contradictions_16
  · have hkn : kk2 (zin u0 (z_nt S) && zin u1 (z_nc S)) (z_T S (iN u0)) ≠ 0 := (by rw [hk]; decide)
    have hk1 := hk
    refine v_astore E dL_contradictions_17 (by decide) rfl ?_
    refine v_iconst E dL_contradictions_19 (v := nI 2) rfl ?_
    exact y_ret E hr rfl (by rw [hk1]) (by rw [mF_n hkn]) (by decide) (by decide) dL_contradictions_20
  · refine v_i2l E dL_contradictions_8 (z := (zco S (iN u0) (iN u1)).toInt64) rfl ?_
    refine v_last E dL_contradictions_9 0 3 rfl rfl (by decide) (by decide) (w' := (outE cJ o (vp_updL f 0 (zco S (iN u0) (iN u1)).toInt64) :: wX cI cZ cQ a (S))) rfl ?_
    refine v_goto E dL_contradictions_10 (tgt := 21) (by decide) ?_
    refine v_iconst E dL_contradictions_21 (v := nI 0) rfl ?_
    exact y_ret E hr rfl (by rw [hk]) (by rw [mF_0 hk]) (by decide) (by decide) dL_contradictions_22
set_option maxHeartbeats 4000000 in
set_option maxRecDepth 100000 in
theorem x_L_candidates (l : Launch) (D : va_G) (cI cZ cQ cJ : ClassId) (a : Nat → Nat) (S : zS) (hok : zOK S) (hl : l.stackTraces = false) (o : Nat) (f : Nat → Int64) (u0 : Int32) : v_Thr l yL_candidates wsL_candidates { frames := 8, cells := 2, slots := 12, locals := 132 } D (wTy cI cZ cQ cJ) [.ref (a 0), .int (u0), .ref (o)] (outE cJ o f :: wX cI cZ cQ a S) 0 exI (some (.int (nI (kk2 (zin u0 (z_nt S)) (z_T S (iN u0)))))) (outE cJ o (mF (kk2 (zin u0 (z_nt S)) (z_T S (iN u0))) (vp_updL f 0 (lN (msk (cnd S (iN u0)) (z_B S (iN u0) + 1)))) f) :: wX cI cZ cQ a S) 2 12 := by
  refine v_throwerH (cc := cL_candidates) (maxL := 4) (ret := some .int) (own := RL) (lv0 := [(0, .ref (a 0)), (1, .int (u0)), (2, .ref (o))]) (by decide) rfl rfl (Nat.le_of_ble_eq_true rfl) rfl ?_
  intro p9 e9 s9 m9 as9 bl9 me9 cd9 A E hA htab hTx hr
  refine v_aload_n E dL_candidates_0 2 rfl rfl ?_
  refine v_iconst E dL_candidates_1 (v := nI 0) rfl ?_
  refine v_aload_n E dL_candidates_2 0 rfl rfl ?_
  refine v_iload_n E dL_candidates_3 1 rfl rfl ?_
  refine x_cVc2 E hA hTx dL_candidates_4 (thr_perm (x_X1_candidates l D cI cZ cQ cJ a S hok hl u0) [outE cJ o f] outE_perm outE_perm) (cwV 1 E.2.2.2.1 gL_candidates_X1_candidates rfl rfl rfl (by decide +kernel) ⟨Nat.le_of_ble_eq_true rfl, Nat.le_of_ble_eq_true rfl⟩) 1 rfl rfl rfl rfl rfl ⟨Nat.le_of_ble_eq_true rfl, Nat.le_of_ble_eq_true rfl⟩ (Nat.le_of_ble_eq_true rfl) (x := ⟨0, 8, 11, 13⟩) (x2 := ⟨0, 8, 14, 21⟩) (n1 := xI) (n2 := xS) htab rfl (by decide) (by decide +kernel) (by decide +kernel) rfl (by decide) (by decide +kernel) (by decide +kernel) (by decide +kernel) (kk2_12 _ _) rfl rfl (fun hk q9 => ?_) (fun hk q9 => ?_) (fun hk => ?_)
  · have hkn : kk2 (zin u0 (z_nt S)) (z_T S (iN u0)) ≠ 0 := (by rw [hk]; decide)
    have hk1 := hk
    refine v_astore_n E dL_candidates_11 rfl (by decide) rfl ?_
    refine v_iconst E dL_candidates_12 (v := nI 1) rfl ?_
    exact y_ret E hr rfl (by rw [hk1]) (by rw [mF_n hkn]) (by decide) (by decide) dL_candidates_13
  · have hkn : kk2 (zin u0 (z_nt S)) (z_T S (iN u0)) ≠ 0 := (by rw [hk]; decide)
    have hk1 := hk
    refine v_astore_n E dL_candidates_14 rfl (by decide) rfl ?_
    refine v_iconst E dL_candidates_15 (v := nI 2) rfl ?_
    exact y_ret E hr rfl (by rw [hk1]) (by rw [mF_n hkn]) (by decide) (by decide) dL_candidates_16
  · skip
    refine v_last E dL_candidates_7 0 3 rfl rfl (by decide) (by decide) (w' := (outE cJ o (vp_updL f 0 (lN (msk (cnd S (iN u0)) (z_B S (iN u0) + 1)))) :: wX cI cZ cQ a (S))) rfl ?_
    refine v_goto E dL_candidates_8 (tgt := 17) (by decide) ?_
    refine v_iconst E dL_candidates_17 (v := nI 0) rfl ?_
    exact y_ret E hr rfl (by rw [hk]) (by rw [mF_0 hk]) (by decide) (by decide) dL_candidates_18
set_option maxHeartbeats 4000000 in
set_option maxRecDepth 100000 in
theorem x_L_likeliest (l : Launch) (D : va_G) (cI cZ cQ cJ : ClassId) (a : Nat → Nat) (S : zS) (hok : zOK S) (hl : l.stackTraces = false) (o : Nat) (f : Nat → Int64) (u0 : Int32) : v_Thr l yL_likeliest wsL_likeliest { frames := 8, cells := 2, slots := 12, locals := 132 } D (wTy cI cZ cQ cJ) [.ref (a 0), .int (u0), .ref (o)] (outE cJ o f :: wX cI cZ cQ a S) 0 exI (some (.int (nI (kk2 (zin u0 (z_nt S)) (z_T S (iN u0)))))) (outE cJ o (mF (kk2 (zin u0 (z_nt S)) (z_T S (iN u0))) (vp_updL f 0 (oI (zlk S (iN u0) (z_B S (iN u0) + 1))).toInt64) f) :: wX cI cZ cQ a S) 2 12 := by
  refine v_throwerH (cc := cL_likeliest) (maxL := 4) (ret := some .int) (own := RL) (lv0 := [(0, .ref (a 0)), (1, .int (u0)), (2, .ref (o))]) (by decide) rfl rfl (Nat.le_of_ble_eq_true rfl) rfl ?_
  intro p9 e9 s9 m9 as9 bl9 me9 cd9 A E hA htab hTx hr
  refine v_aload_n E dL_likeliest_0 2 rfl rfl ?_
  refine v_iconst E dL_likeliest_1 (v := nI 0) rfl ?_
  refine v_aload_n E dL_likeliest_2 0 rfl rfl ?_
  refine v_iload_n E dL_likeliest_3 1 rfl rfl ?_
  refine x_cVc2 E hA hTx dL_likeliest_4 (thr_perm (x_X1_likeliest l D cI cZ cQ cJ a S hok hl u0) [outE cJ o f] outE_perm outE_perm) (cwV 1 E.2.2.2.1 gL_likeliest_X1_likeliest rfl rfl rfl (by decide +kernel) ⟨Nat.le_of_ble_eq_true rfl, Nat.le_of_ble_eq_true rfl⟩) 1 rfl rfl rfl rfl rfl ⟨Nat.le_of_ble_eq_true rfl, Nat.le_of_ble_eq_true rfl⟩ (Nat.le_of_ble_eq_true rfl) (x := ⟨0, 9, 12, 13⟩) (x2 := ⟨0, 9, 15, 21⟩) (n1 := xI) (n2 := xS) htab rfl (by decide) (by decide +kernel) (by decide +kernel) rfl (by decide) (by decide +kernel) (by decide +kernel) (by decide +kernel) (kk2_12 _ _) rfl rfl (fun hk q9 => ?_) (fun hk q9 => ?_) (fun hk => ?_)
  · have hkn : kk2 (zin u0 (z_nt S)) (z_T S (iN u0)) ≠ 0 := (by rw [hk]; decide)
    have hk1 := hk
    refine v_astore_n E dL_likeliest_12 rfl (by decide) rfl ?_
    refine v_iconst E dL_likeliest_13 (v := nI 1) rfl ?_
    exact y_ret E hr rfl (by rw [hk1]) (by rw [mF_n hkn]) (by decide) (by decide) dL_likeliest_14
  · have hkn : kk2 (zin u0 (z_nt S)) (z_T S (iN u0)) ≠ 0 := (by rw [hk]; decide)
    have hk1 := hk
    refine v_astore_n E dL_likeliest_15 rfl (by decide) rfl ?_
    refine v_iconst E dL_likeliest_16 (v := nI 2) rfl ?_
    exact y_ret E hr rfl (by rw [hk1]) (by rw [mF_n hkn]) (by decide) (by decide) dL_likeliest_17
  · refine v_i2l E dL_likeliest_7 (z := (oI (zlk S (iN u0) (z_B S (iN u0) + 1))).toInt64) rfl ?_
    refine v_last E dL_likeliest_8 0 3 rfl rfl (by decide) (by decide) (w' := (outE cJ o (vp_updL f 0 (oI (zlk S (iN u0) (z_B S (iN u0) + 1))).toInt64) :: wX cI cZ cQ a (S))) rfl ?_
    refine v_goto E dL_likeliest_9 (tgt := 18) (by decide) ?_
    refine v_iconst E dL_likeliest_18 (v := nI 0) rfl ?_
    exact y_ret E hr rfl (by rw [hk]) (by rw [mF_0 hk]) (by decide) (by decide) dL_likeliest_19
set_option maxHeartbeats 4000000 in
set_option maxRecDepth 100000 in
theorem x_L_next (l : Launch) (D : va_G) (cI cZ cQ cJ : ClassId) (a : Nat → Nat) (S : zS) (hok : zOK S) (hl : l.stackTraces = false) (o : Nat) (f : Nat → Int64) (u0 : Int32) : v_Thr l yL_next wsL_next { frames := 8, cells := 2, slots := 12, locals := 140 } D (wTy cI cZ cQ cJ) [.ref (a 0), .int (u0), .ref (o)] (outE cJ o f :: wX cI cZ cQ a S) 0 exI (some (.int (nI (kk2 (zin u0 (z_nt S)) (z_T S (iN u0)))))) (outE cJ o (mF (kk2 (zin u0 (z_nt S)) (z_T S (iN u0))) (vp_updL f 0 (oI (znx S (iN u0) (z_B S (iN u0)))).toInt64) f) :: wX cI cZ cQ a S) 2 12 := by
  refine v_throwerH (cc := cL_next) (maxL := 4) (ret := some .int) (own := RL) (lv0 := [(0, .ref (a 0)), (1, .int (u0)), (2, .ref (o))]) (by decide) rfl rfl (Nat.le_of_ble_eq_true rfl) rfl ?_
  intro p9 e9 s9 m9 as9 bl9 me9 cd9 A E hA htab hTx hr
  refine v_aload_n E dL_next_0 2 rfl rfl ?_
  refine v_iconst E dL_next_1 (v := nI 0) rfl ?_
  refine v_aload_n E dL_next_2 0 rfl rfl ?_
  refine v_iload_n E dL_next_3 1 rfl rfl ?_
  refine x_cVc2 E hA hTx dL_next_4 (thr_perm (x_X1_next l D cI cZ cQ cJ a S hok hl u0) [outE cJ o f] outE_perm outE_perm) (cwV 1 E.2.2.2.1 gL_next_X1_next rfl rfl rfl (by decide +kernel) ⟨Nat.le_of_ble_eq_true rfl, Nat.le_of_ble_eq_true rfl⟩) 1 rfl rfl rfl rfl rfl ⟨Nat.le_of_ble_eq_true rfl, Nat.le_of_ble_eq_true rfl⟩ (Nat.le_of_ble_eq_true rfl) (x := ⟨0, 9, 12, 13⟩) (x2 := ⟨0, 9, 15, 21⟩) (n1 := xI) (n2 := xS) htab rfl (by decide) (by decide +kernel) (by decide +kernel) rfl (by decide) (by decide +kernel) (by decide +kernel) (by decide +kernel) (kk2_12 _ _) rfl rfl (fun hk q9 => ?_) (fun hk q9 => ?_) (fun hk => ?_)
  · have hkn : kk2 (zin u0 (z_nt S)) (z_T S (iN u0)) ≠ 0 := (by rw [hk]; decide)
    have hk1 := hk
    refine v_astore_n E dL_next_12 rfl (by decide) rfl ?_
    refine v_iconst E dL_next_13 (v := nI 1) rfl ?_
    exact y_ret E hr rfl (by rw [hk1]) (by rw [mF_n hkn]) (by decide) (by decide) dL_next_14
  · have hkn : kk2 (zin u0 (z_nt S)) (z_T S (iN u0)) ≠ 0 := (by rw [hk]; decide)
    have hk1 := hk
    refine v_astore_n E dL_next_15 rfl (by decide) rfl ?_
    refine v_iconst E dL_next_16 (v := nI 2) rfl ?_
    exact y_ret E hr rfl (by rw [hk1]) (by rw [mF_n hkn]) (by decide) (by decide) dL_next_17
  · refine v_i2l E dL_next_7 (z := (oI (znx S (iN u0) (z_B S (iN u0)))).toInt64) rfl ?_
    refine v_last E dL_next_8 0 3 rfl rfl (by decide) (by decide) (w' := (outE cJ o (vp_updL f 0 (oI (znx S (iN u0) (z_B S (iN u0)))).toInt64) :: wX cI cZ cQ a (S))) rfl ?_
    refine v_goto E dL_next_9 (tgt := 18) (by decide) ?_
    refine v_iconst E dL_next_18 (v := nI 0) rfl ?_
    exact y_ret E hr rfl (by rw [hk]) (by rw [mF_0 hk]) (by decide) (by decide) dL_next_19
