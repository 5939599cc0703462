/-! ===== the law's wrappers ===== -/
def aI (k : Nat) (v a b : Int32) : Int32 := if k = 0 then v else if k = 1 then a else b
def aJ (k : Nat) (v a b : Int64) : Int64 := if k = 0 then v else if k = 1 then a else b
theorem aI_0 {k : Nat} {v a b : Int32} (h : k = 0) : aI k v a b = v := if_pos h
theorem aI_1 {k : Nat} {v a b : Int32} (h : k = 1) : aI k v a b = a := by subst h; rfl
theorem aI_2 {k : Nat} {v a b : Int32} (h : k = 2) : aI k v a b = b := by subst h; rfl
theorem aJ_0 {k : Nat} {v a b : Int64} (h : k = 0) : aJ k v a b = v := if_pos h
theorem aJ_1 {k : Nat} {v a b : Int64} (h : k = 1) : aJ k v a b = a := by subst h; rfl
theorem aJ_2 {k : Nat} {v a b : Int64} (h : k = 2) : aJ k v a b = b := by subst h; rfl
set_option maxHeartbeats 4000000 in
set_option maxRecDepth 100000 in
theorem x_L_setUses (l : Launch) (D : va_G) (cI cZ cQ cJ : ClassId) (a : Nat → Nat) (S : zS) (hok : zOK S) (hl : l.stackTraces = false) (u0 : Int32) (u1 : Int32) : v_Thr l yL_setUses wsL_setUses { frames := 8, cells := 1, slots := 6, locals := 133 } D (wTy cI cZ cQ cJ) [.ref (a 0), .int (u0), .int (u1)] (wX cI cZ cQ a S) 0 exI (some (.int (aI (kk2 (zin u0 16) (zin u1 65536)) (nI (z_U S (iN u0))) (-1000001) (-1000002)))) (wX cI cZ cQ a (mS (kk2 (zin u0 16) (zin u1 65536)) (zs_U S (va_up (z_U S) (iN u0) (iN u1))) S)) 1 6 := by
  refine v_throwerH (cc := cL_setUses) (maxL := 4) (ret := (some .int)) (own := RL) (lv0 := [(0, .ref (a 0)), (1, .int (u0)), (2, .int (u1))]) (by decide) rfl rfl (Nat.le_of_ble_eq_true rfl) rfl ?_
  intro p9 e9 s9 m9 as9 bl9 me9 cd9 A E hA htab hTx hr
  refine v_aload_n E dL_setUses_0 0 rfl rfl ?_
  refine v_iload_n E dL_setUses_1 1 rfl rfl ?_
  refine v_iload_n E dL_setUses_2 2 rfl rfl ?_
  refine x_cVc2 E hA hTx dL_setUses_3 (x_X1_setUses l D cI cZ cQ cJ a S hok hl u0 u1) (cwV 2 E.2.2.2.1 gL_setUses_X1_setUses rfl rfl rfl (by decide +kernel) ⟨Nat.le_of_ble_eq_true rfl, Nat.le_of_ble_eq_true rfl⟩) 0 rfl rfl rfl rfl rfl ⟨Nat.le_of_ble_eq_true rfl, Nat.le_of_ble_eq_true rfl⟩ (Nat.le_of_ble_eq_true rfl) (x := ⟨0, 6, 7, 16⟩) (x2 := ⟨0, 6, 11, 19⟩) (n1 := xI) (n2 := xG) htab rfl (by decide) (by decide +kernel) (by decide +kernel) rfl (by decide) (by decide +kernel) (by decide +kernel) (by decide +kernel) (kk2_12 _ _) rfl rfl (fun hk q9 => ?_) (fun hk q9 => ?_) (fun hk => ?_)
  · have hkn : kk2 (zin u0 16) (zin u1 65536) ≠ 0 := (by rw [hk]; decide)
    have hk1 := hk
    refine v_astore_n E dL_setUses_7 rfl (by decide) rfl ?_
    refine v_ldc E dL_setUses_8 (v := -1000001) (x := -1000001) (by decide +kernel) rfl ?_
    exact y_ret E hr rfl (by rw [aI_1 hk1]) (by rw [mS_n hkn]) (by decide) (by decide) dL_setUses_10
  · have hkn : kk2 (zin u0 16) (zin u1 65536) ≠ 0 := (by rw [hk]; decide)
    have hk1 := hk
    refine v_astore_n E dL_setUses_11 rfl (by decide) rfl ?_
    refine v_ldc E dL_setUses_12 (v := -1000002) (x := -1000002) (by decide +kernel) rfl ?_
    exact y_ret E hr rfl (by rw [aI_2 hk1]) (by rw [mS_n hkn]) (by decide) (by decide) dL_setUses_14
  · exact y_ret E hr rfl (by rw [aI_0 hk]) (by rw [mS_0 hk]) (by decide) (by decide) dL_setUses_6
set_option maxHeartbeats 4000000 in
set_option maxRecDepth 100000 in
theorem x_L_addCommit (l : Launch) (D : va_G) (cI cZ cQ cJ : ClassId) (a : Nat → Nat) (S : zS) (hok : zOK S) (hl : l.stackTraces = false) (u0 : Int32) : v_Thr l yL_addCommit wsL_addCommit { frames := 8, cells := 2, slots := 12, locals := 132 } D (wTy cI cZ cQ cJ) [.ref (a 0), .int (u0)] (wX cI cZ cQ a S) 0 exI (some (.int (aI (kk2 (zin u0 65536) (decide (z_nc S < 40))) (nI (z_nc S)) (-1000002) (-1000003)))) (wX cI cZ cQ a (mS (kk2 (zin u0 65536) (decide (z_nc S < 40))) (sadC S (iN u0)) S)) 2 12 := by
  refine v_throwerH (cc := cL_addCommit) (maxL := 3) (ret := (some .int)) (own := RL) (lv0 := [(0, .ref (a 0)), (1, .int (u0))]) (by decide) rfl rfl (Nat.le_of_ble_eq_true rfl) rfl ?_
  intro p9 e9 s9 m9 as9 bl9 me9 cd9 A E hA htab hTx hr
  refine v_aload_n E dL_addCommit_0 0 rfl rfl ?_
  refine v_iload_n E dL_addCommit_1 1 rfl rfl ?_
  refine x_cVc2 E hA hTx dL_addCommit_2 (x_X1_addCommit l D cI cZ cQ cJ a S hok hl u0) (cwV 1 E.2.2.2.1 gL_addCommit_X1_addCommit rfl rfl rfl (by decide +kernel) ⟨Nat.le_of_ble_eq_true rfl, Nat.le_of_ble_eq_true rfl⟩) 0 rfl rfl rfl rfl rfl ⟨Nat.le_of_ble_eq_true rfl, Nat.le_of_ble_eq_true rfl⟩ (Nat.le_of_ble_eq_true rfl) (x := ⟨0, 5, 6, 19⟩) (x2 := ⟨0, 5, 10, 26⟩) (n1 := xG) (n2 := xS) htab rfl (by decide) (by decide +kernel) (by decide +kernel) rfl (by decide) (by decide +kernel) (by decide +kernel) (by decide +kernel) (kk2_12 _ _) rfl rfl (fun hk q9 => ?_) (fun hk q9 => ?_) (fun hk => ?_)
  · have hkn : kk2 (zin u0 65536) (decide (z_nc S < 40)) ≠ 0 := (by rw [hk]; decide)
    have hk1 := hk
    refine v_astore_n E dL_addCommit_6 rfl (by decide) rfl ?_
    refine v_ldc E dL_addCommit_7 (v := -1000002) (x := -1000002) (by decide +kernel) rfl ?_
    exact y_ret E hr rfl (by rw [aI_1 hk1]) (by rw [mS_n hkn]) (by decide) (by decide) dL_addCommit_9
  · have hkn : kk2 (zin u0 65536) (decide (z_nc S < 40)) ≠ 0 := (by rw [hk]; decide)
    have hk1 := hk
    refine v_astore_n E dL_addCommit_10 rfl (by decide) rfl ?_
    refine v_ldc E dL_addCommit_11 (v := -1000003) (x := -1000003) (by decide +kernel) rfl ?_
    exact y_ret E hr rfl (by rw [aI_2 hk1]) (by rw [mS_n hkn]) (by decide) (by decide) dL_addCommit_13
  · exact y_ret E hr rfl (by rw [aI_0 hk]) (by rw [mS_0 hk]) (by decide) (by decide) dL_addCommit_5
set_option maxHeartbeats 4000000 in
set_option maxRecDepth 100000 in
theorem x_L_addTest (l : Launch) (D : va_G) (cI cZ cQ cJ : ClassId) (a : Nat → Nat) (S : zS) (hok : zOK S) (hl : l.stackTraces = false) (u0 : Int32) : v_Thr l yL_addTest wsL_addTest { frames := 8, cells := 2, slots := 12, locals := 132 } D (wTy cI cZ cQ cJ) [.ref (a 0), .int (u0)] (wX cI cZ cQ a S) 0 exI (some (.int (aI (kk2 (zin u0 65536) (decide (z_nt S < 12))) (nI (z_nt S)) (-1000002) (-1000003)))) (wX cI cZ cQ a (mS (kk2 (zin u0 65536) (decide (z_nt S < 12))) (sadT S (iN u0)) S)) 2 12 := by
  refine v_throwerH (cc := cL_addTest) (maxL := 3) (ret := (some .int)) (own := RL) (lv0 := [(0, .ref (a 0)), (1, .int (u0))]) (by decide) rfl rfl (Nat.le_of_ble_eq_true rfl) rfl ?_
  intro p9 e9 s9 m9 as9 bl9 me9 cd9 A E hA htab hTx hr
  refine v_aload_n E dL_addTest_0 0 rfl rfl ?_
  refine v_iload_n E dL_addTest_1 1 rfl rfl ?_
  refine x_cVc2 E hA hTx dL_addTest_2 (x_X1_addTest l D cI cZ cQ cJ a S hok hl u0) (cwV 1 E.2.2.2.1 gL_addTest_X1_addTest rfl rfl rfl (by decide +kernel) ⟨Nat.le_of_ble_eq_true rfl, Nat.le_of_ble_eq_true rfl⟩) 0 rfl rfl rfl rfl rfl ⟨Nat.le_of_ble_eq_true rfl, Nat.le_of_ble_eq_true rfl⟩ (Nat.le_of_ble_eq_true rfl) (x := ⟨0, 5, 6, 19⟩) (x2 := ⟨0, 5, 10, 26⟩) (n1 := xG) (n2 := xS) htab rfl (by decide) (by decide +kernel) (by decide +kernel) rfl (by decide) (by decide +kernel) (by decide +kernel) (by decide +kernel) (kk2_12 _ _) rfl rfl (fun hk q9 => ?_) (fun hk q9 => ?_) (fun hk => ?_)
  · have hkn : kk2 (zin u0 65536) (decide (z_nt S < 12)) ≠ 0 := (by rw [hk]; decide)
    have hk1 := hk
    refine v_astore_n E dL_addTest_6 rfl (by decide) rfl ?_
    refine v_ldc E dL_addTest_7 (v := -1000002) (x := -1000002) (by decide +kernel) rfl ?_
    exact y_ret E hr rfl (by rw [aI_1 hk1]) (by rw [mS_n hkn]) (by decide) (by decide) dL_addTest_9
  · have hkn : kk2 (zin u0 65536) (decide (z_nt S < 12)) ≠ 0 := (by rw [hk]; decide)
    have hk1 := hk
    refine v_astore_n E dL_addTest_10 rfl (by decide) rfl ?_
    refine v_ldc E dL_addTest_11 (v := -1000003) (x := -1000003) (by decide +kernel) rfl ?_
    exact y_ret E hr rfl (by rw [aI_2 hk1]) (by rw [mS_n hkn]) (by decide) (by decide) dL_addTest_13
  · exact y_ret E hr rfl (by rw [aI_0 hk]) (by rw [mS_0 hk]) (by decide) (by decide) dL_addTest_5
set_option maxHeartbeats 4000000 in
set_option maxRecDepth 100000 in
theorem x_L_setQuarantine (l : Launch) (D : va_G) (cI cZ cQ cJ : ClassId) (a : Nat → Nat) (S : zS) (hok : zOK S) (hl : l.stackTraces = false) (u0 : Int32) (u1 : Int32) : v_Thr l yL_setQuarantine wsL_setQuarantine { frames := 7, cells := 1, slots := 6, locals := 112 } D (wTy cI cZ cQ cJ) [.ref (a 0), .int (u0), .int (u1)] (wX cI cZ cQ a S) 0 exI (some (.int (aI (kk1 (zin1 u0 11 && zin1 u1 41)) (nI 0) (-1000002) (-1000002)))) (wX cI cZ cQ a (mS (kk1 (zin1 u0 11 && zin1 u1 41)) (zs_wi (zs_li S (iN u0)) (iN u1)) S)) 1 6 := by
  refine v_throwerH (cc := cL_setQuarantine) (maxL := 4) (ret := (some .int)) (own := RL) (lv0 := [(0, .ref (a 0)), (1, .int (u0)), (2, .int (u1))]) (by decide) rfl rfl (Nat.le_of_ble_eq_true rfl) rfl ?_
  intro p9 e9 s9 m9 as9 bl9 me9 cd9 A E hA htab hTx hr
  refine v_aload_n E dL_setQuarantine_0 0 rfl rfl ?_
  refine v_iload_n E dL_setQuarantine_1 1 rfl rfl ?_
  refine v_iload_n E dL_setQuarantine_2 2 rfl rfl ?_
  refine x_cVc1 E hA hTx dL_setQuarantine_3 (x_X1_setQuarantine l D cI cZ cQ cJ a S hok hl u0 u1) (cwV 2 E.2.2.2.1 gL_setQuarantine_X1_setQuarantine rfl rfl rfl (by decide +kernel) ⟨Nat.le_of_ble_eq_true rfl, Nat.le_of_ble_eq_true rfl⟩) 0 rfl rfl rfl rfl rfl ⟨Nat.le_of_ble_eq_true rfl, Nat.le_of_ble_eq_true rfl⟩ (Nat.le_of_ble_eq_true rfl) (x := ⟨0, 7, 8, 19⟩) (n1 := xG) htab rfl (by decide) (by decide +kernel) (by decide +kernel) (fun hk => rfl) (fun hk q9 => ?_) (fun hk => ?_)
  · have hkn : kk1 (zin1 u0 11 && zin1 u1 41) ≠ 0 := hk
    have hk1 : kk1 (zin1 u0 11 && zin1 u1 41) = 1 := (kk1_12 _).resolve_left hk
    refine v_astore_n E dL_setQuarantine_8 rfl (by decide) rfl ?_
    refine v_ldc E dL_setQuarantine_9 (v := -1000002) (x := -1000002) (by decide +kernel) rfl ?_
    exact y_ret E hr rfl (by rw [aI_1 hk1]) (by rw [mS_n hkn]) (by decide) (by decide) dL_setQuarantine_11
  · refine v_iconst E dL_setQuarantine_6 (v := nI 0) rfl ?_
    exact y_ret E hr rfl (by rw [aI_0 hk]) (by rw [mS_0 hk]) (by decide) (by decide) dL_setQuarantine_7
set_option maxHeartbeats 4000000 in
set_option maxRecDepth 100000 in
theorem x_L_setNoise (l : Launch) (D : va_G) (cI cZ cQ cJ : ClassId) (a : Nat → Nat) (S : zS) (hok : zOK S) (hl : l.stackTraces = false) (u0 : Int32) : v_Thr l yL_setNoise wsL_setNoise { frames := 7, cells := 1, slots := 6, locals := 112 } D (wTy cI cZ cQ cJ) [.ref (a 0), .int (u0)] (wX cI cZ cQ a S) 0 exI (some (.int (aI (kk1 (zin u0 21)) (nI (z_no S)) (-1000002) (-1000002)))) (wX cI cZ cQ a (mS (kk1 (zin u0 21)) (zs_no S (iN u0)) S)) 1 6 := by
  refine v_throwerH (cc := cL_setNoise) (maxL := 3) (ret := (some .int)) (own := RL) (lv0 := [(0, .ref (a 0)), (1, .int (u0))]) (by decide) rfl rfl (Nat.le_of_ble_eq_true rfl) rfl ?_
  intro p9 e9 s9 m9 as9 bl9 me9 cd9 A E hA htab hTx hr
  refine v_aload_n E dL_setNoise_0 0 rfl rfl ?_
  refine v_iload_n E dL_setNoise_1 1 rfl rfl ?_
  refine x_cVc1 E hA hTx dL_setNoise_2 (x_X1_setNoise l D cI cZ cQ cJ a S hok hl u0) (cwV 1 E.2.2.2.1 gL_setNoise_X1_setNoise rfl rfl rfl (by decide +kernel) ⟨Nat.le_of_ble_eq_true rfl, Nat.le_of_ble_eq_true rfl⟩) 0 rfl rfl rfl rfl rfl ⟨Nat.le_of_ble_eq_true rfl, Nat.le_of_ble_eq_true rfl⟩ (Nat.le_of_ble_eq_true rfl) (x := ⟨0, 5, 6, 19⟩) (n1 := xG) htab rfl (by decide) (by decide +kernel) (by decide +kernel) (fun hk => rfl) (fun hk q9 => ?_) (fun hk => ?_)
  · have hkn : kk1 (zin u0 21) ≠ 0 := hk
    have hk1 : kk1 (zin u0 21) = 1 := (kk1_12 _).resolve_left hk
    refine v_astore_n E dL_setNoise_6 rfl (by decide) rfl ?_
    refine v_ldc E dL_setNoise_7 (v := -1000002) (x := -1000002) (by decide +kernel) rfl ?_
    exact y_ret E hr rfl (by rw [aI_1 hk1]) (by rw [mS_n hkn]) (by decide) (by decide) dL_setNoise_9
  · exact y_ret E hr rfl (by rw [aI_0 hk]) (by rw [mS_0 hk]) (by decide) (by decide) dL_setNoise_5
set_option maxHeartbeats 4000000 in
set_option maxRecDepth 100000 in
theorem x_L_record (l : Launch) (D : va_G) (cI cZ cQ cJ : ClassId) (a : Nat → Nat) (S : zS) (hok : zOK S) (hl : l.stackTraces = false) (u0 : Int32) (u1 : Int32) (u2 : Bool) : v_Thr l yL_record wsL_record { frames := 8, cells := 3, slots := 18, locals := 134 } D (wTy cI cZ cQ cJ) [.ref (a 0), .int (u0), .int (u1), .int (bI (u2))] (wX cI cZ cQ a S) 0 exI (some (.int (aI (kk2 (zin u0 (z_nt S) && zin u1 (z_nc S)) (decide (z_R S (iN u0) < 200))) (nI (vd (z_P (srec S (iN u0) (iN u1) u2) (iN u0) (iN u1)) (z_F (srec S (iN u0) (iN u1) u2) (iN u0) (iN u1)))) (-1000001) (-1000003)))) (wX cI cZ cQ a (mS (kk2 (zin u0 (z_nt S) && zin u1 (z_nc S)) (decide (z_R S (iN u0) < 200))) (srec S (iN u0) (iN u1) u2) S)) 3 18 := by
  refine v_throwerH (cc := cL_record) (maxL := 5) (ret := (some .int)) (own := RL) (lv0 := [(0, .ref (a 0)), (1, .int (u0)), (2, .int (u1)), (3, .int (bI (u2)))]) (by decide) rfl rfl (Nat.le_of_ble_eq_true rfl) rfl ?_
  intro p9 e9 s9 m9 as9 bl9 me9 cd9 A E hA htab hTx hr
  refine v_aload_n E dL_record_0 0 rfl rfl ?_
  refine v_iload_n E dL_record_1 1 rfl rfl ?_
  refine v_iload_n E dL_record_2 2 rfl rfl ?_
  refine v_iload_n E dL_record_3 3 rfl rfl ?_
  refine x_cVc2 E hA hTx dL_record_4 (x_X1_record l D cI cZ cQ cJ a S hok hl u0 u1 u2) (cwV 3 E.2.2.2.1 gL_record_X1_record rfl rfl rfl (by decide +kernel) ⟨Nat.le_of_ble_eq_true rfl, Nat.le_of_ble_eq_true rfl⟩) 0 rfl rfl rfl rfl rfl ⟨Nat.le_of_ble_eq_true rfl, Nat.le_of_ble_eq_true rfl⟩ (Nat.le_of_ble_eq_true rfl) (x := ⟨0, 7, 8, 16⟩) (x2 := ⟨0, 7, 13, 26⟩) (n1 := xI) (n2 := xS) htab rfl (by decide) (by decide +kernel) (by decide +kernel) rfl (by decide) (by decide +kernel) (by decide +kernel) (by decide +kernel) (kk2_12 _ _) rfl rfl (fun hk q9 => ?_) (fun hk q9 => ?_) (fun hk => ?_)
  · have hkn : kk2 (zin u0 (z_nt S) && zin u1 (z_nc S)) (decide (z_R S (iN u0) < 200)) ≠ 0 := (by rw [hk]; decide)
    have hk1 := hk
    refine v_astore E dL_record_8 (by decide) rfl ?_
    refine v_ldc E dL_record_10 (v := -1000001) (x := -1000001) (by decide +kernel) rfl ?_
    exact y_ret E hr rfl (by rw [aI_1 hk1]) (by rw [mS_n hkn]) (by decide) (by decide) dL_record_12
  · have hkn : kk2 (zin u0 (z_nt S) && zin u1 (z_nc S)) (decide (z_R S (iN u0) < 200)) ≠ 0 := (by rw [hk]; decide)
    have hk1 := hk
    refine v_astore E dL_record_13 (by decide) rfl ?_
    refine v_ldc E dL_record_15 (v := -1000003) (x := -1000003) (by decide +kernel) rfl ?_
    exact y_ret E hr rfl (by rw [aI_2 hk1]) (by rw [mS_n hkn]) (by decide) (by decide) dL_record_17
  · exact y_ret E hr rfl (by rw [aI_0 hk]) (by rw [mS_0 hk]) (by decide) (by decide) dL_record_7
set_option maxHeartbeats 4000000 in
set_option maxRecDepth 100000 in
theorem x_L_triage (l : Launch) (D : va_G) (cI cZ cQ cJ : ClassId) (a : Nat → Nat) (S : zS) (hok : zOK S) (hl : l.stackTraces = false) (u0 : Int32) (u1 : Int32) (u2 : Int32) : v_Thr l yL_triage wsL_triage { frames := 8, cells := 4, slots := 24, locals := 134 } D (wTy cI cZ cQ cJ) [.ref (a 0), .int (u0), .int (u1), .int (u2)] (wX cI cZ cQ a S) 0 exI (some (.int (aI (kk2 (zin u0 (z_nt S) && zin u1 (z_nc S) && zin u2 (z_nc S)) (decide (iN u1 < iN u2))) (nI (zcc (stri S (iN u0) (iN u1) (iN u2)) (iN u0))) (-1000001) (-1000002)))) (wX cI cZ cQ a (mS (kk2 (zin u0 (z_nt S) && zin u1 (z_nc S) && zin u2 (z_nc S)) (decide (iN u1 < iN u2))) (stri S (iN u0) (iN u1) (iN u2)) S)) 4 24 := by
  refine v_throwerH (cc := cL_triage) (maxL := 5) (ret := (some .int)) (own := RL) (lv0 := [(0, .ref (a 0)), (1, .int (u0)), (2, .int (u1)), (3, .int (u2))]) (by decide) rfl rfl (Nat.le_of_ble_eq_true rfl) rfl ?_
  intro p9 e9 s9 m9 as9 bl9 me9 cd9 A E hA htab hTx hr
  refine v_aload_n E dL_triage_0 0 rfl rfl ?_
  refine v_iload_n E dL_triage_1 1 rfl rfl ?_
  refine v_iload_n E dL_triage_2 2 rfl rfl ?_
  refine v_iload_n E dL_triage_3 3 rfl rfl ?_
  refine x_cVc2 E hA hTx dL_triage_4 (x_X1_triage l D cI cZ cQ cJ a S hok hl u0 u1 u2) (cwV 3 E.2.2.2.1 gL_triage_X1_triage rfl rfl rfl (by decide +kernel) ⟨Nat.le_of_ble_eq_true rfl, Nat.le_of_ble_eq_true rfl⟩) 0 rfl rfl rfl rfl rfl ⟨Nat.le_of_ble_eq_true rfl, Nat.le_of_ble_eq_true rfl⟩ (Nat.le_of_ble_eq_true rfl) (x := ⟨0, 7, 8, 16⟩) (x2 := ⟨0, 7, 13, 19⟩) (n1 := xI) (n2 := xG) htab rfl (by decide) (by decide +kernel) (by decide +kernel) rfl (by decide) (by decide +kernel) (by decide +kernel) (by decide +kernel) (kk2_12 _ _) rfl rfl (fun hk q9 => ?_) (fun hk q9 => ?_) (fun hk => ?_)
  · have hkn : kk2 (zin u0 (z_nt S) && zin u1 (z_nc S) && zin u2 (z_nc S)) (decide (iN u1 < iN u2)) ≠ 0 := (by rw [hk]; decide)
    have hk1 := hk
    refine v_astore E dL_triage_8 (by decide) rfl ?_
    refine v_ldc E dL_triage_10 (v := -1000001) (x := -1000001) (by decide +kernel) rfl ?_
    exact y_ret E hr rfl (by rw [aI_1 hk1]) (by rw [mS_n hkn]) (by decide) (by decide) dL_triage_12
  · have hkn : kk2 (zin u0 (z_nt S) && zin u1 (z_nc S) && zin u2 (z_nc S)) (decide (iN u1 < iN u2)) ≠ 0 := (by rw [hk]; decide)
    have hk1 := hk
    refine v_astore E dL_triage_13 (by decide) rfl ?_
    refine v_ldc E dL_triage_15 (v := -1000002) (x := -1000002) (by decide +kernel) rfl ?_
    exact y_ret E hr rfl (by rw [aI_2 hk1]) (by rw [mS_n hkn]) (by decide) (by decide) dL_triage_17
  · exact y_ret E hr rfl (by rw [aI_0 hk]) (by rw [mS_0 hk]) (by decide) (by decide) dL_triage_7
set_option maxHeartbeats 4000000 in
set_option maxRecDepth 100000 in
theorem x_L_close (l : Launch) (D : va_G) (cI cZ cQ cJ : ClassId) (a : Nat → Nat) (S : zS) (hok : zOK S) (hl : l.stackTraces = false) (u0 : Int32) : v_Thr l yL_close wsL_close { frames := 8, cells := 2, slots := 12, locals := 133 } D (wTy cI cZ cQ cJ) [.ref (a 0), .int (u0)] (wX cI cZ cQ a S) 0 exI (some (.int (aI (kk2 (zin u0 (z_nt S)) (z_T S (iN u0))) (zonly S (iN u0)) (-1000001) (-1000003)))) (wX cI cZ cQ a (mS (kk2 (zin u0 (z_nt S)) (z_T S (iN u0))) (sclo S (iN u0)) S)) 2 12 := by
  refine v_throwerH (cc := cL_close) (maxL := 3) (ret := (some .int)) (own := RL) (lv0 := [(0, .ref (a 0)), (1, .int (u0))]) (by decide) rfl rfl (Nat.le_of_ble_eq_true rfl) rfl ?_
  intro p9 e9 s9 m9 as9 bl9 me9 cd9 A E hA htab hTx hr
  refine v_aload_n E dL_close_0 0 rfl rfl ?_
  refine v_iload_n E dL_close_1 1 rfl rfl ?_
  refine x_cVc2 E hA hTx dL_close_2 (x_X1_close l D cI cZ cQ cJ a S hok hl u0) (cwV 1 E.2.2.2.1 gL_close_X1_close rfl rfl rfl (by decide +kernel) ⟨Nat.le_of_ble_eq_true rfl, Nat.le_of_ble_eq_true rfl⟩) 0 rfl rfl rfl rfl rfl ⟨Nat.le_of_ble_eq_true rfl, Nat.le_of_ble_eq_true rfl⟩ (Nat.le_of_ble_eq_true rfl) (x := ⟨0, 5, 6, 16⟩) (x2 := ⟨0, 5, 10, 26⟩) (n1 := xI) (n2 := xS) htab rfl (by decide) (by decide +kernel) (by decide +kernel) rfl (by decide) (by decide +kernel) (by decide +kernel) (by decide +kernel) (kk2_12 _ _) rfl rfl (fun hk q9 => ?_) (fun hk q9 => ?_) (fun hk => ?_)
  · have hkn : kk2 (zin u0 (z_nt S)) (z_T S (iN u0)) ≠ 0 := (by rw [hk]; decide)
    have hk1 := hk
    refine v_astore_n E dL_close_6 rfl (by decide) rfl ?_
    refine v_ldc E dL_close_7 (v := -1000001) (x := -1000001) (by decide +kernel) rfl ?_
    exact y_ret E hr rfl (by rw [aI_1 hk1]) (by rw [mS_n hkn]) (by decide) (by decide) dL_close_9
  · have hkn : kk2 (zin u0 (z_nt S)) (z_T S (iN u0)) ≠ 0 := (by rw [hk]; decide)
    have hk1 := hk
    refine v_astore_n E dL_close_10 rfl (by decide) rfl ?_
    refine v_ldc E dL_close_11 (v := -1000003) (x := -1000003) (by decide +kernel) rfl ?_
    exact y_ret E hr rfl (by rw [aI_2 hk1]) (by rw [mS_n hkn]) (by decide) (by decide) dL_close_13
  · exact y_ret E hr rfl (by rw [aI_0 hk]) (by rw [mS_0 hk]) (by decide) (by decide) dL_close_5
set_option maxHeartbeats 4000000 in
set_option maxRecDepth 100000 in
theorem x_L_enqueue (l : Launch) (D : va_G) (cI cZ cQ cJ : ClassId) (a : Nat → Nat) (S : zS) (hok : zOK S) (hl : l.stackTraces = false) (u0 : Int32) : v_Thr l yL_enqueue wsL_enqueue { frames := 8, cells := 3, slots := 18, locals := 132 } D (wTy cI cZ cQ cJ) [.ref (a 0), .int (u0)] (wX cI cZ cQ a S) 0 exI (some (.int (aI (kk2 (zin u0 (z_nt S)) (z_T S (iN u0) && decide (plc (z_Q S) (z_qn S) (iN u0) = 0))) (nI (z_qn S + 1)) (-1000001) (-1000003)))) (wX cI cZ cQ a (mS (kk2 (zin u0 (z_nt S)) (z_T S (iN u0) && decide (plc (z_Q S) (z_qn S) (iN u0) = 0))) (sjn S (iN u0)) S)) 3 18 := by
  refine v_throwerH (cc := cL_enqueue) (maxL := 3) (ret := (some .int)) (own := RL) (lv0 := [(0, .ref (a 0)), (1, .int (u0))]) (by decide) rfl rfl (Nat.le_of_ble_eq_true rfl) rfl ?_
  intro p9 e9 s9 m9 as9 bl9 me9 cd9 A E hA htab hTx hr
  refine v_aload_n E dL_enqueue_0 0 rfl rfl ?_
  refine v_iload_n E dL_enqueue_1 1 rfl rfl ?_
  refine x_cVc2 E hA hTx dL_enqueue_2 (x_X1_enqueue l D cI cZ cQ cJ a S hok hl u0) (cwV 1 E.2.2.2.1 gL_enqueue_X1_enqueue rfl rfl rfl (by decide +kernel) ⟨Nat.le_of_ble_eq_true rfl, Nat.le_of_ble_eq_true rfl⟩) 0 rfl rfl rfl rfl rfl ⟨Nat.le_of_ble_eq_true rfl, Nat.le_of_ble_eq_true rfl⟩ (Nat.le_of_ble_eq_true rfl) (x := ⟨0, 5, 6, 16⟩) (x2 := ⟨0, 5, 10, 26⟩) (n1 := xI) (n2 := xS) htab rfl (by decide) (by decide +kernel) (by decide +kernel) rfl (by decide) (by decide +kernel) (by decide +kernel) (by decide +kernel) (kk2_12 _ _) rfl rfl (fun hk q9 => ?_) (fun hk q9 => ?_) (fun hk => ?_)
  · have hkn : kk2 (zin u0 (z_nt S)) (z_T S (iN u0) && decide (plc (z_Q S) (z_qn S) (iN u0) = 0)) ≠ 0 := (by rw [hk]; decide)
    have hk1 := hk
    refine v_astore_n E dL_enqueue_6 rfl (by decide) rfl ?_
    refine v_ldc E dL_enqueue_7 (v := -1000001) (x := -1000001) (by decide +kernel) rfl ?_
    exact y_ret E hr rfl (by rw [aI_1 hk1]) (by rw [mS_n hkn]) (by decide) (by decide) dL_enqueue_9
  · have hkn : kk2 (zin u0 (z_nt S)) (z_T S (iN u0) && decide (plc (z_Q S) (z_qn S) (iN u0) = 0)) ≠ 0 := (by rw [hk]; decide)
    have hk1 := hk
    refine v_astore_n E dL_enqueue_10 rfl (by decide) rfl ?_
    refine v_ldc E dL_enqueue_11 (v := -1000003) (x := -1000003) (by decide +kernel) rfl ?_
    exact y_ret E hr rfl (by rw [aI_2 hk1]) (by rw [mS_n hkn]) (by decide) (by decide) dL_enqueue_13
  · exact y_ret E hr rfl (by rw [aI_0 hk]) (by rw [mS_0 hk]) (by decide) (by decide) dL_enqueue_5
set_option maxHeartbeats 4000000 in
set_option maxRecDepth 100000 in
theorem x_L_newDay (l : Launch) (D : va_G) (cI cZ cQ cJ : ClassId) (a : Nat → Nat) (S : zS) (hok : zOK S) (hl : l.stackTraces = false) (u0 : Int32) : v_Thr l yL_newDay wsL_newDay { frames := 7, cells := 1, slots := 6, locals := 112 } D (wTy cI cZ cQ cJ) [.ref (a 0), .int (u0)] (wX cI cZ cQ a S) 0 exI (some (.int (aI (kk1 (zin u0 101)) (nI (z_bu S)) (-1000002) (-1000002)))) (wX cI cZ cQ a (mS (kk1 (zin u0 101)) (zs_bu S (iN u0)) S)) 1 6 := by
  refine v_throwerH (cc := cL_newDay) (maxL := 3) (ret := (some .int)) (own := RL) (lv0 := [(0, .ref (a 0)), (1, .int (u0))]) (by decide) rfl rfl (Nat.le_of_ble_eq_true rfl) rfl ?_
  intro p9 e9 s9 m9 as9 bl9 me9 cd9 A E hA htab hTx hr
  refine v_aload_n E dL_newDay_0 0 rfl rfl ?_
  refine v_iload_n E dL_newDay_1 1 rfl rfl ?_
  refine x_cVc1 E hA hTx dL_newDay_2 (x_X1_newDay l D cI cZ cQ cJ a S hok hl u0) (cwV 1 E.2.2.2.1 gL_newDay_X1_newDay rfl rfl rfl (by decide +kernel) ⟨Nat.le_of_ble_eq_true rfl, Nat.le_of_ble_eq_true rfl⟩) 0 rfl rfl rfl rfl rfl ⟨Nat.le_of_ble_eq_true rfl, Nat.le_of_ble_eq_true rfl⟩ (Nat.le_of_ble_eq_true rfl) (x := ⟨0, 5, 6, 19⟩) (n1 := xG) htab rfl (by decide) (by decide +kernel) (by decide +kernel) (fun hk => rfl) (fun hk q9 => ?_) (fun hk => ?_)
  · have hkn : kk1 (zin u0 101) ≠ 0 := hk
    have hk1 : kk1 (zin u0 101) = 1 := (kk1_12 _).resolve_left hk
    refine v_astore_n E dL_newDay_6 rfl (by decide) rfl ?_
    refine v_ldc E dL_newDay_7 (v := -1000002) (x := -1000002) (by decide +kernel) rfl ?_
    exact y_ret E hr rfl (by rw [aI_1 hk1]) (by rw [mS_n hkn]) (by decide) (by decide) dL_newDay_9
  · exact y_ret E hr rfl (by rw [aI_0 hk]) (by rw [mS_0 hk]) (by decide) (by decide) dL_newDay_5
set_option maxHeartbeats 4000000 in
set_option maxRecDepth 100000 in
theorem x_L_take (l : Launch) (D : va_G) (cI cZ cQ cJ : ClassId) (a : Nat → Nat) (S : zS) (hok : zOK S) (hl : l.stackTraces = false)  : v_Thr l yL_take wsL_take { frames := 7, cells := 1, slots := 6, locals := 122 } D (wTy cI cZ cQ cJ) [.ref (a 0)] (wX cI cZ cQ a S) 0 exI (some (.int (aI (kk1 (decide (0 < z_qn S) && decide (0 < z_bu S))) (nI (z_Q S 0)) (-1000003) (-1000003)))) (wX cI cZ cQ a (mS (kk1 (decide (0 < z_qn S) && decide (0 < z_bu S))) (stak S) S)) 1 6 := by
  refine v_throwerH (cc := cL_take) (maxL := 2) (ret := (some .int)) (own := RL) (lv0 := [(0, .ref (a 0))]) (by decide) rfl rfl (Nat.le_of_ble_eq_true rfl) rfl ?_
  intro p9 e9 s9 m9 as9 bl9 me9 cd9 A E hA htab hTx hr
  refine v_aload_n E dL_take_0 0 rfl rfl ?_
  refine x_cVc1 E hA hTx dL_take_1 (x_X1_take l D cI cZ cQ cJ a S hok hl ) (cwV 0 E.2.2.2.1 gL_take_X1_take rfl rfl rfl (by decide +kernel) ⟨Nat.le_of_ble_eq_true rfl, Nat.le_of_ble_eq_true rfl⟩) 0 rfl rfl rfl rfl rfl ⟨Nat.le_of_ble_eq_true rfl, Nat.le_of_ble_eq_true rfl⟩ (Nat.le_of_ble_eq_true rfl) (x := ⟨0, 4, 5, 26⟩) (n1 := xS) htab rfl (by decide) (by decide +kernel) (by decide +kernel) (fun hk => rfl) (fun hk q9 => ?_) (fun hk => ?_)
  · have hkn : kk1 (decide (0 < z_qn S) && decide (0 < z_bu S)) ≠ 0 := hk
    have hk1 : kk1 (decide (0 < z_qn S) && decide (0 < z_bu S)) = 1 := (kk1_12 _).resolve_left hk
    refine v_astore_n E dL_take_5 rfl (by decide) rfl ?_
    refine v_ldc E dL_take_6 (v := -1000003) (x := -1000003) (by decide +kernel) rfl ?_
    exact y_ret E hr rfl (by rw [aI_1 hk1]) (by rw [mS_n hkn]) (by decide) (by decide) dL_take_8
  · exact y_ret E hr rfl (by rw [aI_0 hk]) (by rw [mS_0 hk]) (by decide) (by decide) dL_take_4
set_option maxHeartbeats 4000000 in
set_option maxRecDepth 100000 in
theorem x_L_partsOf (l : Launch) (D : va_G) (cI cZ cQ cJ : ClassId) (a : Nat → Nat) (S : zS) (hok : zOK S) (hl : l.stackTraces = false) (u0 : Int32) : v_Thr l yL_partsOf wsL_partsOf { frames := 8, cells := 1, slots := 6, locals := 132 } D (wTy cI cZ cQ cJ) [.ref (a 0), .int (u0)] (wX cI cZ cQ a S) 0 exI (some (.int (aI (kk1 (zin u0 (z_nt S))) (nI (zre S (iN u0))) (-1000001) (-1000001)))) (wX cI cZ cQ a S) 1 6 := by
  refine v_throwerH (cc := cL_partsOf) (maxL := 3) (ret := (some .int)) (own := RL) (lv0 := [(0, .ref (a 0)), (1, .int (u0))]) (by decide) rfl rfl (Nat.le_of_ble_eq_true rfl) rfl ?_
  intro p9 e9 s9 m9 as9 bl9 me9 cd9 A E hA htab hTx hr
  refine v_aload_n E dL_partsOf_0 0 rfl rfl ?_
  refine v_iload_n E dL_partsOf_1 1 rfl rfl ?_
  refine x_cVc1 E hA hTx dL_partsOf_2 (x_X1_partsOf l D cI cZ cQ cJ a S hok hl u0) (cwV 1 E.2.2.2.1 gL_partsOf_X1_partsOf rfl rfl rfl (by decide +kernel) ⟨Nat.le_of_ble_eq_true rfl, Nat.le_of_ble_eq_true rfl⟩) 0 rfl rfl rfl rfl rfl ⟨Nat.le_of_ble_eq_true rfl, Nat.le_of_ble_eq_true rfl⟩ (Nat.le_of_ble_eq_true rfl) (x := ⟨0, 5, 6, 16⟩) (n1 := xI) htab rfl (by decide) (by decide +kernel) (by decide +kernel) (fun hk => rfl) (fun hk q9 => ?_) (fun hk => ?_)
  · have hkn : kk1 (zin u0 (z_nt S)) ≠ 0 := hk
    have hk1 : kk1 (zin u0 (z_nt S)) = 1 := (kk1_12 _).resolve_left hk
    refine v_astore_n E dL_partsOf_6 rfl (by decide) rfl ?_
    refine v_ldc E dL_partsOf_7 (v := -1000001) (x := -1000001) (by decide +kernel) rfl ?_
    exact y_ret E hr rfl (by rw [aI_1 hk1]) rfl (by decide) (by decide) dL_partsOf_9
  · exact y_ret E hr rfl (by rw [aI_0 hk]) rfl (by decide) (by decide) dL_partsOf_5
set_option maxHeartbeats 4000000 in
set_option maxRecDepth 100000 in
theorem x_L_touches (l : Launch) (D : va_G) (cI cZ cQ cJ : ClassId) (a : Nat → Nat) (S : zS) (hok : zOK S) (hl : l.stackTraces = false) (u0 : Int32) : v_Thr l yL_touches wsL_touches { frames := 8, cells := 1, slots := 6, locals := 134 } D (wTy cI cZ cQ cJ) [.ref (a 0), .int (u0)] (wX cI cZ cQ a S) 0 exI (some (.int (aI (kk1 (zin u0 (z_nc S))) (nI (msk (ztou S (iN u0)) (z_nt S))) (-1000001) (-1000001)))) (wX cI cZ cQ a S) 1 6 := by
  refine v_throwerH (cc := cL_touches) (maxL := 3) (ret := (some .int)) (own := RL) (lv0 := [(0, .ref (a 0)), (1, .int (u0))]) (by decide) rfl rfl (Nat.le_of_ble_eq_true rfl) rfl ?_
  intro p9 e9 s9 m9 as9 bl9 me9 cd9 A E hA htab hTx hr
  refine v_aload_n E dL_touches_0 0 rfl rfl ?_
  refine v_iload_n E dL_touches_1 1 rfl rfl ?_
  refine x_cVc1 E hA hTx dL_touches_2 (x_X1_touches l D cI cZ cQ cJ a S hok hl u0) (cwV 1 E.2.2.2.1 gL_touches_X1_touches rfl rfl rfl (by decide +kernel) ⟨Nat.le_of_ble_eq_true rfl, Nat.le_of_ble_eq_true rfl⟩) 0 rfl rfl rfl rfl rfl ⟨Nat.le_of_ble_eq_true rfl, Nat.le_of_ble_eq_true rfl⟩ (Nat.le_of_ble_eq_true rfl) (x := ⟨0, 5, 6, 16⟩) (n1 := xI) htab rfl (by decide) (by decide +kernel) (by decide +kernel) (fun hk => rfl) (fun hk q9 => ?_) (fun hk => ?_)
  · have hkn : kk1 (zin u0 (z_nc S)) ≠ 0 := hk
    have hk1 : kk1 (zin u0 (z_nc S)) = 1 := (kk1_12 _).resolve_left hk
    refine v_astore_n E dL_touches_6 rfl (by decide) rfl ?_
    refine v_ldc E dL_touches_7 (v := -1000001) (x := -1000001) (by decide +kernel) rfl ?_
    exact y_ret E hr rfl (by rw [aI_1 hk1]) rfl (by decide) (by decide) dL_touches_9
  · exact y_ret E hr rfl (by rw [aI_0 hk]) rfl (by decide) (by decide) dL_touches_5
set_option maxHeartbeats 4000000 in
set_option maxRecDepth 100000 in
theorem x_L_runs (l : Launch) (D : va_G) (cI cZ cQ cJ : ClassId) (a : Nat → Nat) (S : zS) (hok : zOK S) (hl : l.stackTraces = false) (u0 : Int32) : v_Thr l yL_runs wsL_runs { frames := 8, cells := 1, slots := 6, locals := 132 } D (wTy cI cZ cQ cJ) [.ref (a 0), .int (u0)] (wX cI cZ cQ a S) 0 exI (some (.int (aI (kk1 (zin u0 (z_nt S))) (nI (z_R S (iN u0))) (-1000001) (-1000001)))) (wX cI cZ cQ a S) 1 6 := by
  refine v_throwerH (cc := cL_runs) (maxL := 3) (ret := (some .int)) (own := RL) (lv0 := [(0, .ref (a 0)), (1, .int (u0))]) (by decide) rfl rfl (Nat.le_of_ble_eq_true rfl) rfl ?_
  intro p9 e9 s9 m9 as9 bl9 me9 cd9 A E hA htab hTx hr
  refine v_aload_n E dL_runs_0 0 rfl rfl ?_
  refine v_iload_n E dL_runs_1 1 rfl rfl ?_
  refine x_cVc1 E hA hTx dL_runs_2 (x_X1_runs l D cI cZ cQ cJ a S hok hl u0) (cwV 1 E.2.2.2.1 gL_runs_X1_runs rfl rfl rfl (by decide +kernel) ⟨Nat.le_of_ble_eq_true rfl, Nat.le_of_ble_eq_true rfl⟩) 0 rfl rfl rfl rfl rfl ⟨Nat.le_of_ble_eq_true rfl, Nat.le_of_ble_eq_true rfl⟩ (Nat.le_of_ble_eq_true rfl) (x := ⟨0, 5, 6, 16⟩) (n1 := xI) htab rfl (by decide) (by decide +kernel) (by decide +kernel) (fun hk => rfl) (fun hk q9 => ?_) (fun hk => ?_)
  · have hkn : kk1 (zin u0 (z_nt S)) ≠ 0 := hk
    have hk1 : kk1 (zin u0 (z_nt S)) = 1 := (kk1_12 _).resolve_left hk
    refine v_astore_n E dL_runs_6 rfl (by decide) rfl ?_
    refine v_ldc E dL_runs_7 (v := -1000001) (x := -1000001) (by decide +kernel) rfl ?_
    exact y_ret E hr rfl (by rw [aI_1 hk1]) rfl (by decide) (by decide) dL_runs_9
  · exact y_ret E hr rfl (by rw [aI_0 hk]) rfl (by decide) (by decide) dL_runs_5
set_option maxHeartbeats 4000000 in
set_option maxRecDepth 100000 in
theorem x_L_verdict (l : Launch) (D : va_G) (cI cZ cQ cJ : ClassId) (a : Nat → Nat) (S : zS) (hok : zOK S) (hl : l.stackTraces = false) (u0 : Int32) (u1 : Int32) : v_Thr l yL_verdict wsL_verdict { frames := 8, cells := 2, slots := 12, locals := 133 } D (wTy cI cZ cQ cJ) [.ref (a 0), .int (u0), .int (u1)] (wX cI cZ cQ a S) 0 exI (some (.int (aI (kk1 (zin u0 (z_nt S) && zin u1 (z_nc S))) (nI (vd (z_P S (iN u0) (iN u1)) (z_F S (iN u0) (iN u1)))) (-1000001) (-1000001)))) (wX cI cZ cQ a S) 2 12 := by
  refine v_throwerH (cc := cL_verdict) (maxL := 4) (ret := (some .int)) (own := RL) (lv0 := [(0, .ref (a 0)), (1, .int (u0)), (2, .int (u1))]) (by decide) rfl rfl (Nat.le_of_ble_eq_true rfl) rfl ?_
  intro p9 e9 s9 m9 as9 bl9 me9 cd9 A E hA htab hTx hr
  refine v_aload_n E dL_verdict_0 0 rfl rfl ?_
  refine v_iload_n E dL_verdict_1 1 rfl rfl ?_
  refine v_iload_n E dL_verdict_2 2 rfl rfl ?_
  refine x_cVc1 E hA hTx dL_verdict_3 (x_X1_verdict l D cI cZ cQ cJ a S hok hl u0 u1) (cwV 2 E.2.2.2.1 gL_verdict_X1_verdict rfl rfl rfl (by decide +kernel) ⟨Nat.le_of_ble_eq_true rfl, Nat.le_of_ble_eq_true rfl⟩) 0 rfl rfl rfl rfl rfl ⟨Nat.le_of_ble_eq_true rfl, Nat.le_of_ble_eq_true rfl⟩ (Nat.le_of_ble_eq_true rfl) (x := ⟨0, 6, 7, 16⟩) (n1 := xI) htab rfl (by decide) (by decide +kernel) (by decide +kernel) (fun hk => rfl) (fun hk q9 => ?_) (fun hk => ?_)
  · have hkn : kk1 (zin u0 (z_nt S) && zin u1 (z_nc S)) ≠ 0 := hk
    have hk1 : kk1 (zin u0 (z_nt S) && zin u1 (z_nc S)) = 1 := (kk1_12 _).resolve_left hk
    refine v_astore_n E dL_verdict_7 rfl (by decide) rfl ?_
    refine v_ldc E dL_verdict_8 (v := -1000001) (x := -1000001) (by decide +kernel) rfl ?_
    exact y_ret E hr rfl (by rw [aI_1 hk1]) rfl (by decide) (by decide) dL_verdict_10
  · exact y_ret E hr rfl (by rw [aI_0 hk]) rfl (by decide) (by decide) dL_verdict_6
set_option maxHeartbeats 4000000 in
set_option maxRecDepth 100000 in
theorem x_L_failing (l : Launch) (D : va_G) (cI cZ cQ cJ : ClassId) (a : Nat → Nat) (S : zS) (hok : zOK S) (hl : l.stackTraces = false) (u0 : Int32) : v_Thr l yL_failing wsL_failing { frames := 8, cells := 1, slots := 6, locals := 133 } D (wTy cI cZ cQ cJ) [.ref (a 0), .int (u0)] (wX cI cZ cQ a S) 0 exI (some (.int (aI (kk1 (zin u0 (z_nt S))) (nI (zfai S (iN u0))) (-1000001) (-1000001)))) (wX cI cZ cQ a S) 1 6 := by
  refine v_throwerH (cc := cL_failing) (maxL := 3) (ret := (some .int)) (own := RL) (lv0 := [(0, .ref (a 0)), (1, .int (u0))]) (by decide) rfl rfl (Nat.le_of_ble_eq_true rfl) rfl ?_
  intro p9 e9 s9 m9 as9 bl9 me9 cd9 A E hA htab hTx hr
  refine v_aload_n E dL_failing_0 0 rfl rfl ?_
  refine v_iload_n E dL_failing_1 1 rfl rfl ?_
  refine x_cVc1 E hA hTx dL_failing_2 (x_X1_failing l D cI cZ cQ cJ a S hok hl u0) (cwV 1 E.2.2.2.1 gL_failing_X1_failing rfl rfl rfl (by decide +kernel) ⟨Nat.le_of_ble_eq_true rfl, Nat.le_of_ble_eq_true rfl⟩) 0 rfl rfl rfl rfl rfl ⟨Nat.le_of_ble_eq_true rfl, Nat.le_of_ble_eq_true rfl⟩ (Nat.le_of_ble_eq_true rfl) (x := ⟨0, 5, 6, 16⟩) (n1 := xI) htab rfl (by decide) (by decide +kernel) (by decide +kernel) (fun hk => rfl) (fun hk q9 => ?_) (fun hk => ?_)
  · have hkn : kk1 (zin u0 (z_nt S)) ≠ 0 := hk
    have hk1 : kk1 (zin u0 (z_nt S)) = 1 := (kk1_12 _).resolve_left hk
    refine v_astore_n E dL_failing_6 rfl (by decide) rfl ?_
    refine v_ldc E dL_failing_7 (v := -1000001) (x := -1000001) (by decide +kernel) rfl ?_
    exact y_ret E hr rfl (by rw [aI_1 hk1]) rfl (by decide) (by decide) dL_failing_9
  · exact y_ret E hr rfl (by rw [aI_0 hk]) rfl (by decide) (by decide) dL_failing_5
set_option maxHeartbeats 4000000 in
set_option maxRecDepth 100000 in
theorem x_L_isQuarantined (l : Launch) (D : va_G) (cI cZ cQ cJ : ClassId) (a : Nat → Nat) (S : zS) (hok : zOK S) (hl : l.stackTraces = false) (u0 : Int32) : v_Thr l yL_isQuarantined wsL_isQuarantined { frames := 8, cells := 1, slots := 6, locals := 132 } D (wTy cI cZ cQ cJ) [.ref (a 0), .int (u0)] (wX cI cZ cQ a S) 0 exI (some (.int (aI (kk1 (zin u0 (z_nt S))) (bI (decide (z_li S ≤ zmix S (iN u0)))) (-1000001) (-1000001)))) (wX cI cZ cQ a S) 1 6 := by
  refine v_throwerH (cc := cL_isQuarantined) (maxL := 3) (ret := (some .int)) (own := RL) (lv0 := [(0, .ref (a 0)), (1, .int (u0))]) (by decide) rfl rfl (Nat.le_of_ble_eq_true rfl) rfl ?_
  intro p9 e9 s9 m9 as9 bl9 me9 cd9 A E hA htab hTx hr
  refine v_aload_n E dL_isQuarantined_0 0 rfl rfl ?_
  refine v_iload_n E dL_isQuarantined_1 1 rfl rfl ?_
  refine x_cVc1 E hA hTx dL_isQuarantined_2 (x_X1_isQuarantined l D cI cZ cQ cJ a S hok hl u0) (cwV 1 E.2.2.2.1 gL_isQuarantined_X1_isQuarantined rfl rfl rfl (by decide +kernel) ⟨Nat.le_of_ble_eq_true rfl, Nat.le_of_ble_eq_true rfl⟩) 0 rfl rfl rfl rfl rfl ⟨Nat.le_of_ble_eq_true rfl, Nat.le_of_ble_eq_true rfl⟩ (Nat.le_of_ble_eq_true rfl) (x := ⟨0, 13, 14, 16⟩) (n1 := xI) htab rfl (by decide) (by decide +kernel) (by decide +kernel) (fun hk => rfl) (fun hk q9 => ?_) (fun hk => ?_)
  · have hkn : kk1 (zin u0 (z_nt S)) ≠ 0 := hk
    have hk1 : kk1 (zin u0 (z_nt S)) = 1 := (kk1_12 _).resolve_left hk
    refine v_astore_n E dL_isQuarantined_14 rfl (by decide) rfl ?_
    refine v_ldc E dL_isQuarantined_15 (v := -1000001) (x := -1000001) (by decide +kernel) rfl ?_
    exact y_ret E hr rfl (by rw [aI_1 hk1]) rfl (by decide) (by decide) dL_isQuarantined_17
  · refine b_if_eq E dL_isQuarantined_5 (tgt := 12) (by decide) (fun c7 => ?_) (fun c7 => ?_)
    · refine v_iconst E dL_isQuarantined_12 (v := nI 0) rfl ?_
      exact y_ret E hr rfl (by rw [aI_0 hk, c7]; rfl) rfl (by decide) (by decide) dL_isQuarantined_13
    · refine v_iconst E dL_isQuarantined_8 (v := nI 1) rfl ?_
      refine v_goto E dL_isQuarantined_9 (tgt := 13) (by decide) ?_
      exact y_ret E hr rfl (by rw [aI_0 hk, c7]; rfl) rfl (by decide) (by decide) dL_isQuarantined_13
set_option maxHeartbeats 4000000 in
set_option maxRecDepth 100000 in
theorem x_L_broken (l : Launch) (D : va_G) (cI cZ cQ cJ : ClassId) (a : Nat → Nat) (S : zS) (hok : zOK S) (hl : l.stackTraces = false) (u0 : Int32) : v_Thr l yL_broken wsL_broken { frames := 8, cells := 1, slots := 6, locals := 134 } D (wTy cI cZ cQ cJ) [.ref (a 0), .int (u0)] (wX cI cZ cQ a S) 0 exI (some (.int (aI (kk1 (zin u0 (z_nc S))) (nI (msk (zbro S (iN u0)) (z_nt S))) (-1000001) (-1000001)))) (wX cI cZ cQ a S) 1 6 := by
  refine v_throwerH (cc := cL_broken) (maxL := 3) (ret := (some .int)) (own := RL) (lv0 := [(0, .ref (a 0)), (1, .int (u0))]) (by decide) rfl rfl (Nat.le_of_ble_eq_true rfl) rfl ?_
  intro p9 e9 s9 m9 as9 bl9 me9 cd9 A E hA htab hTx hr
  refine v_aload_n E dL_broken_0 0 rfl rfl ?_
  refine v_iload_n E dL_broken_1 1 rfl rfl ?_
  refine x_cVc1 E hA hTx dL_broken_2 (x_X1_broken l D cI cZ cQ cJ a S hok hl u0) (cwV 1 E.2.2.2.1 gL_broken_X1_broken rfl rfl rfl (by decide +kernel) ⟨Nat.le_of_ble_eq_true rfl, Nat.le_of_ble_eq_true rfl⟩) 0 rfl rfl rfl rfl rfl ⟨Nat.le_of_ble_eq_true rfl, Nat.le_of_ble_eq_true rfl⟩ (Nat.le_of_ble_eq_true rfl) (x := ⟨0, 5, 6, 16⟩) (n1 := xI) htab rfl (by decide) (by decide +kernel) (by decide +kernel) (fun hk => rfl) (fun hk q9 => ?_) (fun hk => ?_)
  · have hkn : kk1 (zin u0 (z_nc S)) ≠ 0 := hk
    have hk1 : kk1 (zin u0 (z_nc S)) = 1 := (kk1_12 _).resolve_left hk
    refine v_astore_n E dL_broken_6 rfl (by decide) rfl ?_
    refine v_ldc E dL_broken_7 (v := -1000001) (x := -1000001) (by decide +kernel) rfl ?_
    exact y_ret E hr rfl (by rw [aI_1 hk1]) rfl (by decide) (by decide) dL_broken_9
  · exact y_ret E hr rfl (by rw [aI_0 hk]) rfl (by decide) (by decide) dL_broken_5
set_option maxHeartbeats 4000000 in
set_option maxRecDepth 100000 in
theorem x_L_suspects (l : Launch) (D : va_G) (cI cZ cQ cJ : ClassId) (a : Nat → Nat) (S : zS) (hok : zOK S) (hl : l.stackTraces = false) (u0 : Int32) : v_Thr l yL_suspects wsL_suspects { frames := 8, cells := 2, slots := 12, locals := 132 } D (wTy cI cZ cQ cJ) [.ref (a 0), .int (u0)] (wX cI cZ cQ a S) 0 exI (some (.long (aJ (kk2 (zin u0 (z_nt S)) (z_T S (iN u0))) (lN (msk (sus S (iN u0)) (z_B S (iN u0) + 1))) (-1000001) (-1000003)))) (wX cI cZ cQ a S) 2 12 := by
  refine v_throwerH (cc := cL_suspects) (maxL := 3) (ret := (some .long)) (own := RL) (lv0 := [(0, .ref (a 0)), (1, .int (u0))]) (by decide) rfl rfl (Nat.le_of_ble_eq_true rfl) rfl ?_
  intro p9 e9 s9 m9 as9 bl9 me9 cd9 A E hA htab hTx hr
  refine v_aload_n E dL_suspects_0 0 rfl rfl ?_
  refine v_iload_n E dL_suspects_1 1 rfl rfl ?_
  refine x_cVc2 E hA hTx dL_suspects_2 (x_X1_suspects l D cI cZ cQ cJ a S hok hl u0) (cwV 1 E.2.2.2.1 gL_suspects_X1_suspects rfl rfl rfl (by decide +kernel) ⟨Nat.le_of_ble_eq_true rfl, Nat.le_of_ble_eq_true rfl⟩) 0 rfl rfl rfl rfl rfl ⟨Nat.le_of_ble_eq_true rfl, Nat.le_of_ble_eq_true rfl⟩ (Nat.le_of_ble_eq_true rfl) (x := ⟨0, 5, 6, 16⟩) (x2 := ⟨0, 5, 11, 26⟩) (n1 := xI) (n2 := xS) htab rfl (by decide) (by decide +kernel) (by decide +kernel) rfl (by decide) (by decide +kernel) (by decide +kernel) (by decide +kernel) (kk2_12 _ _) rfl rfl (fun hk q9 => ?_) (fun hk q9 => ?_) (fun hk => ?_)
  · have hkn : kk2 (zin u0 (z_nt S)) (z_T S (iN u0)) ≠ 0 := (by rw [hk]; decide)
    have hk1 := hk
    refine v_astore_n E dL_suspects_6 rfl (by decide) rfl ?_
    refine v_ldc2 E dL_suspects_7 (v := -1000001) (x := -1000001) (by decide +kernel) rfl ?_
    exact y_retl E hr rfl (by rw [aJ_1 hk1]) rfl (by decide) (by decide) dL_suspects_10
  · have hkn : kk2 (zin u0 (z_nt S)) (z_T S (iN u0)) ≠ 0 := (by rw [hk]; decide)
    have hk1 := hk
    refine v_astore_n E dL_suspects_11 rfl (by decide) rfl ?_
    refine v_ldc2 E dL_suspects_12 (v := -1000003) (x := -1000003) (by decide +kernel) rfl ?_
    exact y_retl E hr rfl (by rw [aJ_2 hk1]) rfl (by decide) (by decide) dL_suspects_15
  · exact y_retl E hr rfl (by rw [aJ_0 hk]) rfl (by decide) (by decide) dL_suspects_5
set_option maxHeartbeats 4000000 in
set_option maxRecDepth 100000 in
theorem x_L_contradictions (l : Launch) (D : va_G) (cI cZ cQ cJ : ClassId) (a : Nat → Nat) (S : zS) (hok : zOK S) (hl : l.stackTraces = false) (u0 : Int32) (u1 : Int32) : v_Thr l yL_contradictions wsL_contradictions { frames := 8, cells := 3, slots := 18, locals := 133 } D (wTy cI cZ cQ cJ) [.ref (a 0), .int (u0), .int (u1)] (wX cI cZ cQ a S) 0 exI (some (.int (aI (kk2 (zin u0 (z_nt S) && zin u1 (z_nc S)) (z_T S (iN u0))) (zco S (iN u0) (iN u1)) (-1000001) (-1000003)))) (wX cI cZ cQ a S) 3 18 := by
  refine v_throwerH (cc := cL_contradictions) (maxL := 4) (ret := (some .int)) (own := RL) (lv0 := [(0, .ref (a 0)), (1, .int (u0)), (2, .int (u1))]) (by decide) rfl rfl (Nat.le_of_ble_eq_true rfl) rfl ?_
  intro p9 e9 s9 m9 as9 bl9 me9 cd9 A E hA htab hTx hr
  refine v_aload_n E dL_contradictions_0 0 rfl rfl ?_
  refine v_iload_n E dL_contradictions_1 1 rfl rfl ?_
  refine v_iload_n E dL_contradictions_2 2 rfl rfl ?_
  refine x_cVc2 E hA hTx dL_contradictions_3 (x_X1_contradictions l D cI cZ cQ cJ a S hok hl u0 u1) (cwV 2 E.2.2.2.1 gL_contradictions_X1_contradictions rfl rfl rfl (by decide +kernel) ⟨Nat.le_of_ble_eq_true rfl, Nat.le_of_ble_eq_true rfl⟩) 0 rfl rfl rfl rfl rfl ⟨Nat.le_of_ble_eq_true rfl, Nat.le_of_ble_eq_true rfl⟩ (Nat.le_of_ble_eq_true rfl) (x := ⟨0, 6, 7, 16⟩) (x2 := ⟨0, 6, 11, 26⟩) (n1 := xI) (n2 := xS) htab rfl (by decide) (by decide +kernel) (by decide +kernel) rfl (by decide) (by decide +kernel) (by decide +kernel) (by decide +kernel) (kk2_12 _ _) rfl rfl (fun hk q9 => ?_) (fun hk q9 => ?_) (fun hk => ?_)
  · have hkn : kk2 (zin u0 (z_nt S) && zin u1 (z_nc S)) (z_T S (iN u0)) ≠ 0 := (by rw [hk]; decide)
    have hk1 := hk
    refine v_astore_n E dL_contradictions_7 rfl (by decide) rfl ?_
    refine v_ldc E dL_contradictions_8 (v := -1000001) (x := -1000001) (by decide +kernel) rfl ?_
    exact y_ret E hr rfl (by rw [aI_1 hk1]) rfl (by decide) (by decide) dL_contradictions_10
  · have hkn : kk2 (zin u0 (z_nt S) && zin u1 (z_nc S)) (z_T S (iN u0)) ≠ 0 := (by rw [hk]; decide)
    have hk1 := hk
    refine v_astore_n E dL_contradictions_11 rfl (by decide) rfl ?_
    refine v_ldc E dL_contradictions_12 (v := -1000003) (x := -1000003) (by decide +kernel) rfl ?_
    exact y_ret E hr rfl (by rw [aI_2 hk1]) rfl (by decide) (by decide) dL_contradictions_14
  · exact y_ret E hr rfl (by rw [aI_0 hk]) rfl (by decide) (by decide) dL_contradictions_6
set_option maxHeartbeats 4000000 in
set_option maxRecDepth 100000 in
theorem x_L_candidates (l : Launch) (D : va_G) (cI cZ cQ cJ : ClassId) (a : Nat → Nat) (S : zS) (hok : zOK S) (hl : l.stackTraces = false) (u0 : Int32) : v_Thr l yL_candidates wsL_candidates { frames := 8, cells := 2, slots := 12, locals := 132 } D (wTy cI cZ cQ cJ) [.ref (a 0), .int (u0)] (wX cI cZ cQ a S) 0 exI (some (.long (aJ (kk2 (zin u0 (z_nt S)) (z_T S (iN u0))) (lN (msk (cnd S (iN u0)) (z_B S (iN u0) + 1))) (-1000001) (-1000003)))) (wX cI cZ cQ a S) 2 12 := by
  refine v_throwerH (cc := cL_candidates) (maxL := 3) (ret := (some .long)) (own := RL) (lv0 := [(0, .ref (a 0)), (1, .int (u0))]) (by decide) rfl rfl (Nat.le_of_ble_eq_true rfl) rfl ?_
  intro p9 e9 s9 m9 as9 bl9 me9 cd9 A E hA htab hTx hr
  refine v_aload_n E dL_candidates_0 0 rfl rfl ?_
  refine v_iload_n E dL_candidates_1 1 rfl rfl ?_
  refine x_cVc2 E hA hTx dL_candidates_2 (x_X1_candidates l D cI cZ cQ cJ a S hok hl u0) (cwV 1 E.2.2.2.1 gL_candidates_X1_candidates rfl rfl rfl (by decide +kernel) ⟨Nat.le_of_ble_eq_true rfl, Nat.le_of_ble_eq_true rfl⟩) 0 rfl rfl rfl rfl rfl ⟨Nat.le_of_ble_eq_true rfl, Nat.le_of_ble_eq_true rfl⟩ (Nat.le_of_ble_eq_true rfl) (x := ⟨0, 5, 6, 16⟩) (x2 := ⟨0, 5, 11, 26⟩) (n1 := xI) (n2 := xS) htab rfl (by decide) (by decide +kernel) (by decide +kernel) rfl (by decide) (by decide +kernel) (by decide +kernel) (by decide +kernel) (kk2_12 _ _) rfl rfl (fun hk q9 => ?_) (fun hk q9 => ?_) (fun hk => ?_)
  · have hkn : kk2 (zin u0 (z_nt S)) (z_T S (iN u0)) ≠ 0 := (by rw [hk]; decide)
    have hk1 := hk
    refine v_astore_n E dL_candidates_6 rfl (by decide) rfl ?_
    refine v_ldc2 E dL_candidates_7 (v := -1000001) (x := -1000001) (by decide +kernel) rfl ?_
    exact y_retl E hr rfl (by rw [aJ_1 hk1]) rfl (by decide) (by decide) dL_candidates_10
  · have hkn : kk2 (zin u0 (z_nt S)) (z_T S (iN u0)) ≠ 0 := (by rw [hk]; decide)
    have hk1 := hk
    refine v_astore_n E dL_candidates_11 rfl (by decide) rfl ?_
    refine v_ldc2 E dL_candidates_12 (v := -1000003) (x := -1000003) (by decide +kernel) rfl ?_
    exact y_retl E hr rfl (by rw [aJ_2 hk1]) rfl (by decide) (by decide) dL_candidates_15
  · exact y_retl E hr rfl (by rw [aJ_0 hk]) rfl (by decide) (by decide) dL_candidates_5
set_option maxHeartbeats 4000000 in
set_option maxRecDepth 100000 in
theorem x_L_likeliest (l : Launch) (D : va_G) (cI cZ cQ cJ : ClassId) (a : Nat → Nat) (S : zS) (hok : zOK S) (hl : l.stackTraces = false) (u0 : Int32) : v_Thr l yL_likeliest wsL_likeliest { frames := 8, cells := 2, slots := 12, locals := 132 } D (wTy cI cZ cQ cJ) [.ref (a 0), .int (u0)] (wX cI cZ cQ a S) 0 exI (some (.int (aI (kk2 (zin u0 (z_nt S)) (z_T S (iN u0))) (oI (zlk S (iN u0) (z_B S (iN u0) + 1))) (-1000001) (-1000003)))) (wX cI cZ cQ a S) 2 12 := by
  refine v_throwerH (cc := cL_likeliest) (maxL := 3) (ret := (some .int)) (own := RL) (lv0 := [(0, .ref (a 0)), (1, .int (u0))]) (by decide) rfl rfl (Nat.le_of_ble_eq_true rfl) rfl ?_
  intro p9 e9 s9 m9 as9 bl9 me9 cd9 A E hA htab hTx hr
  refine v_aload_n E dL_likeliest_0 0 rfl rfl ?_
  refine v_iload_n E dL_likeliest_1 1 rfl rfl ?_
  refine x_cVc2 E hA hTx dL_likeliest_2 (x_X1_likeliest l D cI cZ cQ cJ a S hok hl u0) (cwV 1 E.2.2.2.1 gL_likeliest_X1_likeliest rfl rfl rfl (by decide +kernel) ⟨Nat.le_of_ble_eq_true rfl, Nat.le_of_ble_eq_true rfl⟩) 0 rfl rfl rfl rfl rfl ⟨Nat.le_of_ble_eq_true rfl, Nat.le_of_ble_eq_true rfl⟩ (Nat.le_of_ble_eq_true rfl) (x := ⟨0, 5, 6, 16⟩) (x2 := ⟨0, 5, 10, 26⟩) (n1 := xI) (n2 := xS) htab rfl (by decide) (by decide +kernel) (by decide +kernel) rfl (by decide) (by decide +kernel) (by decide +kernel) (by decide +kernel) (kk2_12 _ _) rfl rfl (fun hk q9 => ?_) (fun hk q9 => ?_) (fun hk => ?_)
  · have hkn : kk2 (zin u0 (z_nt S)) (z_T S (iN u0)) ≠ 0 := (by rw [hk]; decide)
    have hk1 := hk
    refine v_astore_n E dL_likeliest_6 rfl (by decide) rfl ?_
    refine v_ldc E dL_likeliest_7 (v := -1000001) (x := -1000001) (by decide +kernel) rfl ?_
    exact y_ret E hr rfl (by rw [aI_1 hk1]) rfl (by decide) (by decide) dL_likeliest_9
  · have hkn : kk2 (zin u0 (z_nt S)) (z_T S (iN u0)) ≠ 0 := (by rw [hk]; decide)
    have hk1 := hk
    refine v_astore_n E dL_likeliest_10 rfl (by decide) rfl ?_
    refine v_ldc E dL_likeliest_11 (v := -1000003) (x := -1000003) (by decide +kernel) rfl ?_
    exact y_ret E hr rfl (by rw [aI_2 hk1]) rfl (by decide) (by decide) dL_likeliest_13
  · exact y_ret E hr rfl (by rw [aI_0 hk]) rfl (by decide) (by decide) dL_likeliest_5
set_option maxHeartbeats 4000000 in
set_option maxRecDepth 100000 in
theorem x_L_next (l : Launch) (D : va_G) (cI cZ cQ cJ : ClassId) (a : Nat → Nat) (S : zS) (hok : zOK S) (hl : l.stackTraces = false) (u0 : Int32) : v_Thr l yL_next wsL_next { frames := 8, cells := 2, slots := 12, locals := 140 } D (wTy cI cZ cQ cJ) [.ref (a 0), .int (u0)] (wX cI cZ cQ a S) 0 exI (some (.int (aI (kk2 (zin u0 (z_nt S)) (z_T S (iN u0))) (oI (znx S (iN u0) (z_B S (iN u0)))) (-1000001) (-1000003)))) (wX cI cZ cQ a S) 2 12 := by
  refine v_throwerH (cc := cL_next) (maxL := 3) (ret := (some .int)) (own := RL) (lv0 := [(0, .ref (a 0)), (1, .int (u0))]) (by decide) rfl rfl (Nat.le_of_ble_eq_true rfl) rfl ?_
  intro p9 e9 s9 m9 as9 bl9 me9 cd9 A E hA htab hTx hr
  refine v_aload_n E dL_next_0 0 rfl rfl ?_
  refine v_iload_n E dL_next_1 1 rfl rfl ?_
  refine x_cVc2 E hA hTx dL_next_2 (x_X1_next l D cI cZ cQ cJ a S hok hl u0) (cwV 1 E.2.2.2.1 gL_next_X1_next rfl rfl rfl (by decide +kernel) ⟨Nat.le_of_ble_eq_true rfl, Nat.le_of_ble_eq_true rfl⟩) 0 rfl rfl rfl rfl rfl ⟨Nat.le_of_ble_eq_true rfl, Nat.le_of_ble_eq_true rfl⟩ (Nat.le_of_ble_eq_true rfl) (x := ⟨0, 5, 6, 16⟩) (x2 := ⟨0, 5, 10, 26⟩) (n1 := xI) (n2 := xS) htab rfl (by decide) (by decide +kernel) (by decide +kernel) rfl (by decide) (by decide +kernel) (by decide +kernel) (by decide +kernel) (kk2_12 _ _) rfl rfl (fun hk q9 => ?_) (fun hk q9 => ?_) (fun hk => ?_)
  · have hkn : kk2 (zin u0 (z_nt S)) (z_T S (iN u0)) ≠ 0 := (by rw [hk]; decide)
    have hk1 := hk
    refine v_astore_n E dL_next_6 rfl (by decide) rfl ?_
    refine v_ldc E dL_next_7 (v := -1000001) (x := -1000001) (by decide +kernel) rfl ?_
    exact y_ret E hr rfl (by rw [aI_1 hk1]) rfl (by decide) (by decide) dL_next_9
  · have hkn : kk2 (zin u0 (z_nt S)) (z_T S (iN u0)) ≠ 0 := (by rw [hk]; decide)
    have hk1 := hk
    refine v_astore_n E dL_next_10 rfl (by decide) rfl ?_
    refine v_ldc E dL_next_11 (v := -1000003) (x := -1000003) (by decide +kernel) rfl ?_
    exact y_ret E hr rfl (by rw [aI_2 hk1]) rfl (by decide) (by decide) dL_next_13
  · exact y_ret E hr rfl (by rw [aI_0 hk]) rfl (by decide) (by decide) dL_next_5
