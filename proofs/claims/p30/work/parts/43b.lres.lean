/-! ===== the wrappers, their arguments known ===== -/
theorem zin_no {j n : Nat} (h : n ≤ j) (hj : j < 2 ^ 31) : zin (nI j) n = false := by
  refine decide_eq_false ?_
  rw [nI_toInt hj]
  omega
theorem zin_m1 (n : Nat) : zin (-1) n = false := decide_eq_false (fun h => absurd h.1 (by decide))
theorem zin1_hi {j n : Nat} (h : n ≤ j) (hj : j < 2 ^ 31) : zin1 (nI j) n = false := by
  refine decide_eq_false ?_
  rw [nI_toInt hj]
  omega
theorem zin1_0 (n : Nat) : zin1 (nI 0) n = false := decide_eq_false (fun h => absurd h.1 (by decide))
set_option maxHeartbeats 1000000 in
theorem l_verdict0 (l : Launch) (D : va_G) (cI cZ cQ cJ : ClassId) (a : Nat → Nat) (S : zS) (hok : zOK S) (hl : l.stackTraces = false) (w2 : va_W) (t c : Nat) (ht : t < z_nt S)(hc : c < z_nc S) : v_Thr l yL_verdict wsL_verdict { frames := 8, cells := 2, slots := 12, locals := 133 } D (wTy cI cZ cQ cJ) [.ref (a 0), .int (nI t), .int (nI c)] (w2 ++ wX cI cZ cQ a S) 0 exI (some (.int (nI (vd (z_P S (t) (c)) (z_F S (t) (c)))))) (w2 ++ wX cI cZ cQ a (S)) 2 12 := by
  have hn1 := hok.1.1
  have hn2 := hok.1.2.1
  have h := x_L_verdict l D cI cZ cQ cJ a S hok hl (nI t) (nI c)
  rw [iN_nI (show t < 2 ^ 31 by omega), iN_nI (show c < 2 ^ 31 by omega)] at h
  have hK : kk1 (zin (nI t) (z_nt S) && zin (nI c) (z_nc S)) = 0 := by rw [zin_n ht (by omega), zin_n hc (by omega)]; rfl
  rw [aI_0 hK] at h
  exact thr_fr w2 h
set_option maxHeartbeats 1000000 in
theorem l_verdictX (l : Launch) (D : va_G) (cI cZ cQ cJ : ClassId) (a : Nat → Nat) (S : zS) (hok : zOK S) (hl : l.stackTraces = false) (w2 : va_W)   : v_Thr l yL_verdict wsL_verdict { frames := 8, cells := 2, slots := 12, locals := 133 } D (wTy cI cZ cQ cJ) [.ref (a 0), .int (nI 0), .int (nI (z_nc S))] (w2 ++ wX cI cZ cQ a S) 0 exI (some (.int ((-1000001)))) (w2 ++ wX cI cZ cQ a (S)) 2 12 := by
  have hn1 := hok.1.1
  have hn2 := hok.1.2.1
  have h := x_L_verdict l D cI cZ cQ cJ a S hok hl (nI 0) (nI (z_nc S))
  rw [iN_nI (show 0 < 2 ^ 31 by omega), iN_nI (show (z_nc S) < 2 ^ 31 by omega)] at h
  have hK : kk1 (zin (nI 0) (z_nt S) && zin (nI (z_nc S)) (z_nc S)) = 1 := by simp only [zin_no (Nat.le_refl (z_nc S)) (by omega), Bool.and_false]; rfl
  rw [aI_1 hK] at h
  exact thr_fr w2 h
set_option maxHeartbeats 1000000 in
theorem l_runs0 (l : Launch) (D : va_G) (cI cZ cQ cJ : ClassId) (a : Nat → Nat) (S : zS) (hok : zOK S) (hl : l.stackTraces = false) (w2 : va_W) (t : Nat) (ht : t < z_nt S) : v_Thr l yL_runs wsL_runs { frames := 8, cells := 1, slots := 6, locals := 132 } D (wTy cI cZ cQ cJ) [.ref (a 0), .int (nI t)] (w2 ++ wX cI cZ cQ a S) 0 exI (some (.int (nI (z_R S (t))))) (w2 ++ wX cI cZ cQ a (S)) 1 6 := by
  have hn1 := hok.1.1
  have hn2 := hok.1.2.1
  have h := x_L_runs l D cI cZ cQ cJ a S hok hl (nI t)
  rw [iN_nI (show t < 2 ^ 31 by omega)] at h
  have hK : kk1 (zin (nI t) (z_nt S)) = 0 := by rw [zin_n ht (by omega)]; rfl
  rw [aI_0 hK] at h
  exact thr_fr w2 h
set_option maxHeartbeats 1000000 in
theorem l_isQuarantined0 (l : Launch) (D : va_G) (cI cZ cQ cJ : ClassId) (a : Nat → Nat) (S : zS) (hok : zOK S) (hl : l.stackTraces = false) (w2 : va_W) (t : Nat) (ht : t < z_nt S) : v_Thr l yL_isQuarantined wsL_isQuarantined { frames := 8, cells := 1, slots := 6, locals := 132 } D (wTy cI cZ cQ cJ) [.ref (a 0), .int (nI t)] (w2 ++ wX cI cZ cQ a S) 0 exI (some (.int (bI (decide (z_li S ≤ zmix S (t)))))) (w2 ++ wX cI cZ cQ a (S)) 1 6 := by
  have hn1 := hok.1.1
  have hn2 := hok.1.2.1
  have h := x_L_isQuarantined l D cI cZ cQ cJ a S hok hl (nI t)
  rw [iN_nI (show t < 2 ^ 31 by omega)] at h
  have hK : kk1 (zin (nI t) (z_nt S)) = 0 := by rw [zin_n ht (by omega)]; rfl
  rw [aI_0 hK] at h
  exact thr_fr w2 h
set_option maxHeartbeats 1000000 in
theorem l_failing0 (l : Launch) (D : va_G) (cI cZ cQ cJ : ClassId) (a : Nat → Nat) (S : zS) (hok : zOK S) (hl : l.stackTraces = false) (w2 : va_W) (t : Nat) (ht : t < z_nt S) : v_Thr l yL_failing wsL_failing { frames := 8, cells := 1, slots := 6, locals := 133 } D (wTy cI cZ cQ cJ) [.ref (a 0), .int (nI t)] (w2 ++ wX cI cZ cQ a S) 0 exI (some (.int (nI (zfai S (t))))) (w2 ++ wX cI cZ cQ a (S)) 1 6 := by
  have hn1 := hok.1.1
  have hn2 := hok.1.2.1
  have h := x_L_failing l D cI cZ cQ cJ a S hok hl (nI t)
  rw [iN_nI (show t < 2 ^ 31 by omega)] at h
  have hK : kk1 (zin (nI t) (z_nt S)) = 0 := by rw [zin_n ht (by omega)]; rfl
  rw [aI_0 hK] at h
  exact thr_fr w2 h
set_option maxHeartbeats 1000000 in
theorem l_partsOf0 (l : Launch) (D : va_G) (cI cZ cQ cJ : ClassId) (a : Nat → Nat) (S : zS) (hok : zOK S) (hl : l.stackTraces = false) (w2 : va_W) (t : Nat) (ht : t < z_nt S) : v_Thr l yL_partsOf wsL_partsOf { frames := 8, cells := 1, slots := 6, locals := 132 } D (wTy cI cZ cQ cJ) [.ref (a 0), .int (nI t)] (w2 ++ wX cI cZ cQ a S) 0 exI (some (.int (nI (zre S (t))))) (w2 ++ wX cI cZ cQ a (S)) 1 6 := by
  have hn1 := hok.1.1
  have hn2 := hok.1.2.1
  have h := x_L_partsOf l D cI cZ cQ cJ a S hok hl (nI t)
  rw [iN_nI (show t < 2 ^ 31 by omega)] at h
  have hK : kk1 (zin (nI t) (z_nt S)) = 0 := by rw [zin_n ht (by omega)]; rfl
  rw [aI_0 hK] at h
  exact thr_fr w2 h
set_option maxHeartbeats 1000000 in
theorem l_isQuarantinedX (l : Launch) (D : va_G) (cI cZ cQ cJ : ClassId) (a : Nat → Nat) (S : zS) (hok : zOK S) (hl : l.stackTraces = false) (w2 : va_W)   : v_Thr l yL_isQuarantined wsL_isQuarantined { frames := 8, cells := 1, slots := 6, locals := 132 } D (wTy cI cZ cQ cJ) [.ref (a 0), .int (nI (z_nt S))] (w2 ++ wX cI cZ cQ a S) 0 exI (some (.int ((-1000001)))) (w2 ++ wX cI cZ cQ a (S)) 1 6 := by
  have hn1 := hok.1.1
  have hn2 := hok.1.2.1
  have h := x_L_isQuarantined l D cI cZ cQ cJ a S hok hl (nI (z_nt S))
  rw [iN_nI (show (z_nt S) < 2 ^ 31 by omega)] at h
  have hK : kk1 (zin (nI (z_nt S)) (z_nt S)) = 1 := by rw [zin_no (Nat.le_refl (z_nt S)) (by omega)]; rfl
  rw [aI_1 hK] at h
  exact thr_fr w2 h
set_option maxHeartbeats 1000000 in
theorem l_partsOfX (l : Launch) (D : va_G) (cI cZ cQ cJ : ClassId) (a : Nat → Nat) (S : zS) (hok : zOK S) (hl : l.stackTraces = false) (w2 : va_W)  (h0 : z_nt S = 0) : v_Thr l yL_partsOf wsL_partsOf { frames := 8, cells := 1, slots := 6, locals := 132 } D (wTy cI cZ cQ cJ) [.ref (a 0), .int (nI 0)] (w2 ++ wX cI cZ cQ a S) 0 exI (some (.int ((-1000001)))) (w2 ++ wX cI cZ cQ a (S)) 1 6 := by
  have hn1 := hok.1.1
  have hn2 := hok.1.2.1
  have h := x_L_partsOf l D cI cZ cQ cJ a S hok hl (nI 0)
  rw [iN_nI (show 0 < 2 ^ 31 by omega)] at h
  have hK : kk1 (zin (nI 0) (z_nt S)) = 1 := by rw [h0, zin_no (Nat.le_refl 0) (by omega)]; rfl
  rw [aI_1 hK] at h
  exact thr_fr w2 h
set_option maxHeartbeats 1000000 in
theorem l_broken0 (l : Launch) (D : va_G) (cI cZ cQ cJ : ClassId) (a : Nat → Nat) (S : zS) (hok : zOK S) (hl : l.stackTraces = false) (w2 : va_W) (c : Nat) (hc : c < z_nc S) : v_Thr l yL_broken wsL_broken { frames := 8, cells := 1, slots := 6, locals := 134 } D (wTy cI cZ cQ cJ) [.ref (a 0), .int (nI c)] (w2 ++ wX cI cZ cQ a S) 0 exI (some (.int (nI (msk (zbro S (c)) (z_nt S))))) (w2 ++ wX cI cZ cQ a (S)) 1 6 := by
  have hn1 := hok.1.1
  have hn2 := hok.1.2.1
  have h := x_L_broken l D cI cZ cQ cJ a S hok hl (nI c)
  rw [iN_nI (show c < 2 ^ 31 by omega)] at h
  have hK : kk1 (zin (nI c) (z_nc S)) = 0 := by rw [zin_n hc (by omega)]; rfl
  rw [aI_0 hK] at h
  exact thr_fr w2 h
set_option maxHeartbeats 1000000 in
theorem l_touches0 (l : Launch) (D : va_G) (cI cZ cQ cJ : ClassId) (a : Nat → Nat) (S : zS) (hok : zOK S) (hl : l.stackTraces = false) (w2 : va_W) (c : Nat) (hc : c < z_nc S) : v_Thr l yL_touches wsL_touches { frames := 8, cells := 1, slots := 6, locals := 134 } D (wTy cI cZ cQ cJ) [.ref (a 0), .int (nI c)] (w2 ++ wX cI cZ cQ a S) 0 exI (some (.int (nI (msk (ztou S (c)) (z_nt S))))) (w2 ++ wX cI cZ cQ a (S)) 1 6 := by
  have hn1 := hok.1.1
  have hn2 := hok.1.2.1
  have h := x_L_touches l D cI cZ cQ cJ a S hok hl (nI c)
  rw [iN_nI (show c < 2 ^ 31 by omega)] at h
  have hK : kk1 (zin (nI c) (z_nc S)) = 0 := by rw [zin_n hc (by omega)]; rfl
  rw [aI_0 hK] at h
  exact thr_fr w2 h
set_option maxHeartbeats 1000000 in
theorem l_brokenX (l : Launch) (D : va_G) (cI cZ cQ cJ : ClassId) (a : Nat → Nat) (S : zS) (hok : zOK S) (hl : l.stackTraces = false) (w2 : va_W)   : v_Thr l yL_broken wsL_broken { frames := 8, cells := 1, slots := 6, locals := 134 } D (wTy cI cZ cQ cJ) [.ref (a 0), .int ((-1))] (w2 ++ wX cI cZ cQ a S) 0 exI (some (.int ((-1000001)))) (w2 ++ wX cI cZ cQ a (S)) 1 6 := by
  have hn1 := hok.1.1
  have hn2 := hok.1.2.1
  have h := x_L_broken l D cI cZ cQ cJ a S hok hl ((-1))
  have hK : kk1 (zin ((-1)) (z_nc S)) = 1 := by rw [zin_m1]; rfl
  rw [aI_1 hK] at h
  exact thr_fr w2 h
set_option maxHeartbeats 1000000 in
theorem l_touchesX (l : Launch) (D : va_G) (cI cZ cQ cJ : ClassId) (a : Nat → Nat) (S : zS) (hok : zOK S) (hl : l.stackTraces = false) (w2 : va_W)   : v_Thr l yL_touches wsL_touches { frames := 8, cells := 1, slots := 6, locals := 134 } D (wTy cI cZ cQ cJ) [.ref (a 0), .int (nI (z_nc S))] (w2 ++ wX cI cZ cQ a S) 0 exI (some (.int ((-1000001)))) (w2 ++ wX cI cZ cQ a (S)) 1 6 := by
  have hn1 := hok.1.1
  have hn2 := hok.1.2.1
  have h := x_L_touches l D cI cZ cQ cJ a S hok hl (nI (z_nc S))
  rw [iN_nI (show (z_nc S) < 2 ^ 31 by omega)] at h
  have hK : kk1 (zin (nI (z_nc S)) (z_nc S)) = 1 := by rw [zin_no (Nat.le_refl (z_nc S)) (by omega)]; rfl
  rw [aI_1 hK] at h
  exact thr_fr w2 h
set_option maxHeartbeats 1000000 in
theorem l_suspects0 (l : Launch) (D : va_G) (cI cZ cQ cJ : ClassId) (a : Nat → Nat) (S : zS) (hok : zOK S) (hl : l.stackTraces = false) (w2 : va_W) (t : Nat) (ht : t < z_nt S)(hT : z_T S t = true) : v_Thr l yL_suspects wsL_suspects { frames := 8, cells := 2, slots := 12, locals := 132 } D (wTy cI cZ cQ cJ) [.ref (a 0), .int (nI t)] (w2 ++ wX cI cZ cQ a S) 0 exI (some (.long (lN (msk (sus S (t)) (z_B S (t) + 1))))) (w2 ++ wX cI cZ cQ a (S)) 2 12 := by
  have hn1 := hok.1.1
  have hn2 := hok.1.2.1
  have h := x_L_suspects l D cI cZ cQ cJ a S hok hl (nI t)
  rw [iN_nI (show t < 2 ^ 31 by omega)] at h
  have hK : kk2 (zin (nI t) (z_nt S)) (z_T S (t)) = 0 := by rw [zin_n ht (by omega), hT]; rfl
  rw [aJ_0 hK] at h
  exact thr_fr w2 h
set_option maxHeartbeats 1000000 in
theorem l_suspectsF (l : Launch) (D : va_G) (cI cZ cQ cJ : ClassId) (a : Nat → Nat) (S : zS) (hok : zOK S) (hl : l.stackTraces = false) (w2 : va_W) (t : Nat) (ht : t < z_nt S)(hT : z_T S t = false) : v_Thr l yL_suspects wsL_suspects { frames := 8, cells := 2, slots := 12, locals := 132 } D (wTy cI cZ cQ cJ) [.ref (a 0), .int (nI t)] (w2 ++ wX cI cZ cQ a S) 0 exI (some (.long ((-1000003)))) (w2 ++ wX cI cZ cQ a (S)) 2 12 := by
  have hn1 := hok.1.1
  have hn2 := hok.1.2.1
  have h := x_L_suspects l D cI cZ cQ cJ a S hok hl (nI t)
  rw [iN_nI (show t < 2 ^ 31 by omega)] at h
  have hK : kk2 (zin (nI t) (z_nt S)) (z_T S (t)) = 2 := by rw [zin_n ht (by omega), hT]; rfl
  rw [aJ_2 hK] at h
  exact thr_fr w2 h
set_option maxHeartbeats 1000000 in
theorem l_candidates0 (l : Launch) (D : va_G) (cI cZ cQ cJ : ClassId) (a : Nat → Nat) (S : zS) (hok : zOK S) (hl : l.stackTraces = false) (w2 : va_W) (t : Nat) (ht : t < z_nt S)(hT : z_T S t = true) : v_Thr l yL_candidates wsL_candidates { frames := 8, cells := 2, slots := 12, locals := 132 } D (wTy cI cZ cQ cJ) [.ref (a 0), .int (nI t)] (w2 ++ wX cI cZ cQ a S) 0 exI (some (.long (lN (msk (cnd S (t)) (z_B S (t) + 1))))) (w2 ++ wX cI cZ cQ a (S)) 2 12 := by
  have hn1 := hok.1.1
  have hn2 := hok.1.2.1
  have h := x_L_candidates l D cI cZ cQ cJ a S hok hl (nI t)
  rw [iN_nI (show t < 2 ^ 31 by omega)] at h
  have hK : kk2 (zin (nI t) (z_nt S)) (z_T S (t)) = 0 := by rw [zin_n ht (by omega), hT]; rfl
  rw [aJ_0 hK] at h
  exact thr_fr w2 h
set_option maxHeartbeats 1000000 in
theorem l_candidatesF (l : Launch) (D : va_G) (cI cZ cQ cJ : ClassId) (a : Nat → Nat) (S : zS) (hok : zOK S) (hl : l.stackTraces = false) (w2 : va_W) (t : Nat) (ht : t < z_nt S)(hT : z_T S t = false) : v_Thr l yL_candidates wsL_candidates { frames := 8, cells := 2, slots := 12, locals := 132 } D (wTy cI cZ cQ cJ) [.ref (a 0), .int (nI t)] (w2 ++ wX cI cZ cQ a S) 0 exI (some (.long ((-1000003)))) (w2 ++ wX cI cZ cQ a (S)) 2 12 := by
  have hn1 := hok.1.1
  have hn2 := hok.1.2.1
  have h := x_L_candidates l D cI cZ cQ cJ a S hok hl (nI t)
  rw [iN_nI (show t < 2 ^ 31 by omega)] at h
  have hK : kk2 (zin (nI t) (z_nt S)) (z_T S (t)) = 2 := by rw [zin_n ht (by omega), hT]; rfl
  rw [aJ_2 hK] at h
  exact thr_fr w2 h
set_option maxHeartbeats 1000000 in
theorem l_likeliest0 (l : Launch) (D : va_G) (cI cZ cQ cJ : ClassId) (a : Nat → Nat) (S : zS) (hok : zOK S) (hl : l.stackTraces = false) (w2 : va_W) (t : Nat) (ht : t < z_nt S)(hT : z_T S t = true) : v_Thr l yL_likeliest wsL_likeliest { frames := 8, cells := 2, slots := 12, locals := 132 } D (wTy cI cZ cQ cJ) [.ref (a 0), .int (nI t)] (w2 ++ wX cI cZ cQ a S) 0 exI (some (.int (oI (zlk S (t) (z_B S (t) + 1))))) (w2 ++ wX cI cZ cQ a (S)) 2 12 := by
  have hn1 := hok.1.1
  have hn2 := hok.1.2.1
  have h := x_L_likeliest l D cI cZ cQ cJ a S hok hl (nI t)
  rw [iN_nI (show t < 2 ^ 31 by omega)] at h
  have hK : kk2 (zin (nI t) (z_nt S)) (z_T S (t)) = 0 := by rw [zin_n ht (by omega), hT]; rfl
  rw [aI_0 hK] at h
  exact thr_fr w2 h
set_option maxHeartbeats 1000000 in
theorem l_likeliestF (l : Launch) (D : va_G) (cI cZ cQ cJ : ClassId) (a : Nat → Nat) (S : zS) (hok : zOK S) (hl : l.stackTraces = false) (w2 : va_W) (t : Nat) (ht : t < z_nt S)(hT : z_T S t = false) : v_Thr l yL_likeliest wsL_likeliest { frames := 8, cells := 2, slots := 12, locals := 132 } D (wTy cI cZ cQ cJ) [.ref (a 0), .int (nI t)] (w2 ++ wX cI cZ cQ a S) 0 exI (some (.int ((-1000003)))) (w2 ++ wX cI cZ cQ a (S)) 2 12 := by
  have hn1 := hok.1.1
  have hn2 := hok.1.2.1
  have h := x_L_likeliest l D cI cZ cQ cJ a S hok hl (nI t)
  rw [iN_nI (show t < 2 ^ 31 by omega)] at h
  have hK : kk2 (zin (nI t) (z_nt S)) (z_T S (t)) = 2 := by rw [zin_n ht (by omega), hT]; rfl
  rw [aI_2 hK] at h
  exact thr_fr w2 h
set_option maxHeartbeats 1000000 in
theorem l_next0 (l : Launch) (D : va_G) (cI cZ cQ cJ : ClassId) (a : Nat → Nat) (S : zS) (hok : zOK S) (hl : l.stackTraces = false) (w2 : va_W) (t : Nat) (ht : t < z_nt S)(hT : z_T S t = true) : v_Thr l yL_next wsL_next { frames := 8, cells := 2, slots := 12, locals := 140 } D (wTy cI cZ cQ cJ) [.ref (a 0), .int (nI t)] (w2 ++ wX cI cZ cQ a S) 0 exI (some (.int (oI (znx S (t) (z_B S (t)))))) (w2 ++ wX cI cZ cQ a (S)) 2 12 := by
  have hn1 := hok.1.1
  have hn2 := hok.1.2.1
  have h := x_L_next l D cI cZ cQ cJ a S hok hl (nI t)
  rw [iN_nI (show t < 2 ^ 31 by omega)] at h
  have hK : kk2 (zin (nI t) (z_nt S)) (z_T S (t)) = 0 := by rw [zin_n ht (by omega), hT]; rfl
  rw [aI_0 hK] at h
  exact thr_fr w2 h
set_option maxHeartbeats 1000000 in
theorem l_nextF (l : Launch) (D : va_G) (cI cZ cQ cJ : ClassId) (a : Nat → Nat) (S : zS) (hok : zOK S) (hl : l.stackTraces = false) (w2 : va_W) (t : Nat) (ht : t < z_nt S)(hT : z_T S t = false) : v_Thr l yL_next wsL_next { frames := 8, cells := 2, slots := 12, locals := 140 } D (wTy cI cZ cQ cJ) [.ref (a 0), .int (nI t)] (w2 ++ wX cI cZ cQ a S) 0 exI (some (.int ((-1000003)))) (w2 ++ wX cI cZ cQ a (S)) 2 12 := by
  have hn1 := hok.1.1
  have hn2 := hok.1.2.1
  have h := x_L_next l D cI cZ cQ cJ a S hok hl (nI t)
  rw [iN_nI (show t < 2 ^ 31 by omega)] at h
  have hK : kk2 (zin (nI t) (z_nt S)) (z_T S (t)) = 2 := by rw [zin_n ht (by omega), hT]; rfl
  rw [aI_2 hK] at h
  exact thr_fr w2 h
set_option maxHeartbeats 1000000 in
theorem l_close0 (l : Launch) (D : va_G) (cI cZ cQ cJ : ClassId) (a : Nat → Nat) (S : zS) (hok : zOK S) (hl : l.stackTraces = false) (w2 : va_W) (t : Nat) (ht : t < z_nt S)(hT : z_T S t = true) : v_Thr l yL_close wsL_close { frames := 8, cells := 2, slots := 12, locals := 133 } D (wTy cI cZ cQ cJ) [.ref (a 0), .int (nI t)] (w2 ++ wX cI cZ cQ a S) 0 exI (some (.int (zonly S (t)))) (w2 ++ wX cI cZ cQ a (sclo S (t))) 2 12 := by
  have hn1 := hok.1.1
  have hn2 := hok.1.2.1
  have h := x_L_close l D cI cZ cQ cJ a S hok hl (nI t)
  rw [iN_nI (show t < 2 ^ 31 by omega)] at h
  have hK : kk2 (zin (nI t) (z_nt S)) (z_T S (t)) = 0 := by rw [zin_n ht (by omega), hT]; rfl
  rw [aI_0 hK, mS_0 hK] at h
  exact thr_fr w2 h
set_option maxHeartbeats 1000000 in
theorem l_closeF (l : Launch) (D : va_G) (cI cZ cQ cJ : ClassId) (a : Nat → Nat) (S : zS) (hok : zOK S) (hl : l.stackTraces = false) (w2 : va_W) (t : Nat) (ht : t < z_nt S)(hT : z_T S t = false) : v_Thr l yL_close wsL_close { frames := 8, cells := 2, slots := 12, locals := 133 } D (wTy cI cZ cQ cJ) [.ref (a 0), .int (nI t)] (w2 ++ wX cI cZ cQ a S) 0 exI (some (.int ((-1000003)))) (w2 ++ wX cI cZ cQ a (S)) 2 12 := by
  have hn1 := hok.1.1
  have hn2 := hok.1.2.1
  have h := x_L_close l D cI cZ cQ cJ a S hok hl (nI t)
  rw [iN_nI (show t < 2 ^ 31 by omega)] at h
  have hK : kk2 (zin (nI t) (z_nt S)) (z_T S (t)) = 2 := by rw [zin_n ht (by omega), hT]; rfl
  rw [aI_2 hK, mS_n (by rw [hK]; decide)] at h
  exact thr_fr w2 h
set_option maxHeartbeats 1000000 in
theorem l_suspectsX (l : Launch) (D : va_G) (cI cZ cQ cJ : ClassId) (a : Nat → Nat) (S : zS) (hok : zOK S) (hl : l.stackTraces = false) (w2 : va_W)   : v_Thr l yL_suspects wsL_suspects { frames := 8, cells := 2, slots := 12, locals := 132 } D (wTy cI cZ cQ cJ) [.ref (a 0), .int (nI 12)] (w2 ++ wX cI cZ cQ a S) 0 exI (some (.long ((-1000001)))) (w2 ++ wX cI cZ cQ a (S)) 2 12 := by
  have hn1 := hok.1.1
  have hn2 := hok.1.2.1
  have h := x_L_suspects l D cI cZ cQ cJ a S hok hl (nI 12)
  rw [iN_nI (show 12 < 2 ^ 31 by omega)] at h
  have hK : kk2 (zin (nI 12) (z_nt S)) (z_T S (12)) = 1 := by rw [zin_no (show z_nt S ≤ 12 by omega) (by decide)]; rfl
  rw [aJ_1 hK] at h
  exact thr_fr w2 h
set_option maxHeartbeats 1000000 in
theorem l_enqueueX (l : Launch) (D : va_G) (cI cZ cQ cJ : ClassId) (a : Nat → Nat) (S : zS) (hok : zOK S) (hl : l.stackTraces = false) (w2 : va_W)   : v_Thr l yL_enqueue wsL_enqueue { frames := 8, cells := 3, slots := 18, locals := 132 } D (wTy cI cZ cQ cJ) [.ref (a 0), .int (nI 12)] (w2 ++ wX cI cZ cQ a S) 0 exI (some (.int ((-1000001)))) (w2 ++ wX cI cZ cQ a (S)) 3 18 := by
  have hn1 := hok.1.1
  have hn2 := hok.1.2.1
  have h := x_L_enqueue l D cI cZ cQ cJ a S hok hl (nI 12)
  rw [iN_nI (show 12 < 2 ^ 31 by omega)] at h
  have hK : kk2 (zin (nI 12) (z_nt S)) (z_T S (12) && decide (plc (z_Q S) (z_qn S) (12) = 0)) = 1 := by rw [zin_no (show z_nt S ≤ 12 by omega) (by decide)]; rfl
  rw [aI_1 hK, mS_n (by rw [hK]; decide)] at h
  exact thr_fr w2 h
set_option maxHeartbeats 1000000 in
theorem l_nextX (l : Launch) (D : va_G) (cI cZ cQ cJ : ClassId) (a : Nat → Nat) (S : zS) (hok : zOK S) (hl : l.stackTraces = false) (w2 : va_W)   : v_Thr l yL_next wsL_next { frames := 8, cells := 2, slots := 12, locals := 140 } D (wTy cI cZ cQ cJ) [.ref (a 0), .int ((-1))] (w2 ++ wX cI cZ cQ a S) 0 exI (some (.int ((-1000001)))) (w2 ++ wX cI cZ cQ a (S)) 2 12 := by
  have hn1 := hok.1.1
  have hn2 := hok.1.2.1
  have h := x_L_next l D cI cZ cQ cJ a S hok hl ((-1))
  have hK : kk2 (zin ((-1)) (z_nt S)) (z_T S (iN ((-1)))) = 1 := by rw [zin_m1]; rfl
  rw [aI_1 hK] at h
  exact thr_fr w2 h
set_option maxHeartbeats 1000000 in
theorem l_closeX (l : Launch) (D : va_G) (cI cZ cQ cJ : ClassId) (a : Nat → Nat) (S : zS) (hok : zOK S) (hl : l.stackTraces = false) (w2 : va_W)   : v_Thr l yL_close wsL_close { frames := 8, cells := 2, slots := 12, locals := 133 } D (wTy cI cZ cQ cJ) [.ref (a 0), .int ((-1))] (w2 ++ wX cI cZ cQ a S) 0 exI (some (.int ((-1000001)))) (w2 ++ wX cI cZ cQ a (S)) 2 12 := by
  have hn1 := hok.1.1
  have hn2 := hok.1.2.1
  have h := x_L_close l D cI cZ cQ cJ a S hok hl ((-1))
  have hK : kk2 (zin ((-1)) (z_nt S)) (z_T S (iN ((-1)))) = 1 := by rw [zin_m1]; rfl
  rw [aI_1 hK, mS_n (by rw [hK]; decide)] at h
  exact thr_fr w2 h
set_option maxHeartbeats 1000000 in
theorem l_contradictions0 (l : Launch) (D : va_G) (cI cZ cQ cJ : ClassId) (a : Nat → Nat) (S : zS) (hok : zOK S) (hl : l.stackTraces = false) (w2 : va_W) (t c : Nat) (ht : t < z_nt S)(hc : c < z_nc S)(hT : z_T S t = true) : v_Thr l yL_contradictions wsL_contradictions { frames := 8, cells := 3, slots := 18, locals := 133 } D (wTy cI cZ cQ cJ) [.ref (a 0), .int (nI t), .int (nI c)] (w2 ++ wX cI cZ cQ a S) 0 exI (some (.int (zco S (t) (c)))) (w2 ++ wX cI cZ cQ a (S)) 3 18 := by
  have hn1 := hok.1.1
  have hn2 := hok.1.2.1
  have h := x_L_contradictions l D cI cZ cQ cJ a S hok hl (nI t) (nI c)
  rw [iN_nI (show t < 2 ^ 31 by omega), iN_nI (show c < 2 ^ 31 by omega)] at h
  have hK : kk2 (zin (nI t) (z_nt S) && zin (nI c) (z_nc S)) (z_T S (t)) = 0 := by rw [zin_n ht (by omega), zin_n hc (by omega), hT]; rfl
  rw [aI_0 hK] at h
  exact thr_fr w2 h
set_option maxHeartbeats 1000000 in
theorem l_contradictionsF (l : Launch) (D : va_G) (cI cZ cQ cJ : ClassId) (a : Nat → Nat) (S : zS) (hok : zOK S) (hl : l.stackTraces = false) (w2 : va_W) (t : Nat) (ht : t < z_nt S)(hT : z_T S t = false)(hc : 0 < z_nc S) : v_Thr l yL_contradictions wsL_contradictions { frames := 8, cells := 3, slots := 18, locals := 133 } D (wTy cI cZ cQ cJ) [.ref (a 0), .int (nI t), .int (nI 0)] (w2 ++ wX cI cZ cQ a S) 0 exI (some (.int ((-1000003)))) (w2 ++ wX cI cZ cQ a (S)) 3 18 := by
  have hn1 := hok.1.1
  have hn2 := hok.1.2.1
  have h := x_L_contradictions l D cI cZ cQ cJ a S hok hl (nI t) (nI 0)
  rw [iN_nI (show t < 2 ^ 31 by omega), iN_nI (show 0 < 2 ^ 31 by omega)] at h
  have hK : kk2 (zin (nI t) (z_nt S) && zin (nI 0) (z_nc S)) (z_T S (t)) = 2 := by rw [zin_n ht (by omega), zin_n hc (by omega), hT]; rfl
  rw [aI_2 hK] at h
  exact thr_fr w2 h
set_option maxHeartbeats 1000000 in
theorem l_contradictionsZ (l : Launch) (D : va_G) (cI cZ cQ cJ : ClassId) (a : Nat → Nat) (S : zS) (hok : zOK S) (hl : l.stackTraces = false) (w2 : va_W) (t : Nat) (ht : t < z_nt S)(hT : z_T S t = false)(hc : z_nc S = 0) : v_Thr l yL_contradictions wsL_contradictions { frames := 8, cells := 3, slots := 18, locals := 133 } D (wTy cI cZ cQ cJ) [.ref (a 0), .int (nI t), .int (nI 0)] (w2 ++ wX cI cZ cQ a S) 0 exI (some (.int ((-1000001)))) (w2 ++ wX cI cZ cQ a (S)) 3 18 := by
  have hn1 := hok.1.1
  have hn2 := hok.1.2.1
  have h := x_L_contradictions l D cI cZ cQ cJ a S hok hl (nI t) (nI 0)
  rw [iN_nI (show t < 2 ^ 31 by omega), iN_nI (show 0 < 2 ^ 31 by omega)] at h
  have hK : kk2 (zin (nI t) (z_nt S) && zin (nI 0) (z_nc S)) (z_T S (t)) = 1 := by simp only [zin_n ht (by omega), hc, zin_no (Nat.le_refl 0) (by omega), Bool.and_false]; rfl
  rw [aI_1 hK] at h
  exact thr_fr w2 h
set_option maxHeartbeats 1000000 in
theorem l_enqueue0 (l : Launch) (D : va_G) (cI cZ cQ cJ : ClassId) (a : Nat → Nat) (S : zS) (hok : zOK S) (hl : l.stackTraces = false) (w2 : va_W) (t : Nat) (ht : t < z_nt S)(hT : z_T S t = true)(hp : plc (z_Q S) (z_qn S) t = 0) : v_Thr l yL_enqueue wsL_enqueue { frames := 8, cells := 3, slots := 18, locals := 132 } D (wTy cI cZ cQ cJ) [.ref (a 0), .int (nI t)] (w2 ++ wX cI cZ cQ a S) 0 exI (some (.int (nI (z_qn S + 1)))) (w2 ++ wX cI cZ cQ a (sjn S (t))) 3 18 := by
  have hn1 := hok.1.1
  have hn2 := hok.1.2.1
  have h := x_L_enqueue l D cI cZ cQ cJ a S hok hl (nI t)
  rw [iN_nI (show t < 2 ^ 31 by omega)] at h
  have hK : kk2 (zin (nI t) (z_nt S)) (z_T S (t) && decide (plc (z_Q S) (z_qn S) (t) = 0)) = 0 := by rw [zin_n ht (by omega), hT, hp]; rfl
  rw [aI_0 hK, mS_0 hK] at h
  exact thr_fr w2 h
set_option maxHeartbeats 1000000 in
theorem l_enqueueF (l : Launch) (D : va_G) (cI cZ cQ cJ : ClassId) (a : Nat → Nat) (S : zS) (hok : zOK S) (hl : l.stackTraces = false) (w2 : va_W) (t : Nat) (ht : t < z_nt S)(hT : z_T S t = false) : v_Thr l yL_enqueue wsL_enqueue { frames := 8, cells := 3, slots := 18, locals := 132 } D (wTy cI cZ cQ cJ) [.ref (a 0), .int (nI t)] (w2 ++ wX cI cZ cQ a S) 0 exI (some (.int ((-1000003)))) (w2 ++ wX cI cZ cQ a (S)) 3 18 := by
  have hn1 := hok.1.1
  have hn2 := hok.1.2.1
  have h := x_L_enqueue l D cI cZ cQ cJ a S hok hl (nI t)
  rw [iN_nI (show t < 2 ^ 31 by omega)] at h
  have hK : kk2 (zin (nI t) (z_nt S)) (z_T S (t) && decide (plc (z_Q S) (z_qn S) (t) = 0)) = 2 := by rw [zin_n ht (by omega), hT]; rfl
  rw [aI_2 hK, mS_n (by rw [hK]; decide)] at h
  exact thr_fr w2 h
set_option maxHeartbeats 1000000 in
theorem l_enqueueQ (l : Launch) (D : va_G) (cI cZ cQ cJ : ClassId) (a : Nat → Nat) (S : zS) (hok : zOK S) (hl : l.stackTraces = false) (w2 : va_W) (t : Nat) (ht : t < z_nt S)(hT : z_T S t = true)(hp : plc (z_Q S) (z_qn S) t ≠ 0) : v_Thr l yL_enqueue wsL_enqueue { frames := 8, cells := 3, slots := 18, locals := 132 } D (wTy cI cZ cQ cJ) [.ref (a 0), .int (nI t)] (w2 ++ wX cI cZ cQ a S) 0 exI (some (.int ((-1000003)))) (w2 ++ wX cI cZ cQ a (S)) 3 18 := by
  have hn1 := hok.1.1
  have hn2 := hok.1.2.1
  have h := x_L_enqueue l D cI cZ cQ cJ a S hok hl (nI t)
  rw [iN_nI (show t < 2 ^ 31 by omega)] at h
  have hK : kk2 (zin (nI t) (z_nt S)) (z_T S (t) && decide (plc (z_Q S) (z_qn S) (t) = 0)) = 2 := by rw [zin_n ht (by omega), hT, decide_eq_false hp]; rfl
  rw [aI_2 hK, mS_n (by rw [hK]; decide)] at h
  exact thr_fr w2 h
set_option maxHeartbeats 1000000 in
theorem l_record0 (l : Launch) (D : va_G) (cI cZ cQ cJ : ClassId) (a : Nat → Nat) (S : zS) (hok : zOK S) (hl : l.stackTraces = false) (w2 : va_W) (t c : Nat) (b : Bool) (ht : t < z_nt S)(hc : c < z_nc S)(hR : z_R S t < 200) : v_Thr l yL_record wsL_record { frames := 8, cells := 3, slots := 18, locals := 134 } D (wTy cI cZ cQ cJ) [.ref (a 0), .int (nI t), .int (nI c), .int (bI (b))] (w2 ++ wX cI cZ cQ a S) 0 exI (some (.int (nI (vd (z_P (srec S (t) (c) (b)) (t) (c)) (z_F (srec S (t) (c) (b)) (t) (c)))))) (w2 ++ wX cI cZ cQ a (srec S (t) (c) (b))) 3 18 := by
  have hn1 := hok.1.1
  have hn2 := hok.1.2.1
  have h := x_L_record l D cI cZ cQ cJ a S hok hl (nI t) (nI c) (b)
  rw [iN_nI (show t < 2 ^ 31 by omega), iN_nI (show c < 2 ^ 31 by omega)] at h
  have hK : kk2 (zin (nI t) (z_nt S) && zin (nI c) (z_nc S)) (decide (z_R S (t) < 200)) = 0 := by rw [zin_n ht (by omega), zin_n hc (by omega), decide_eq_true hR]; rfl
  rw [aI_0 hK, mS_0 hK] at h
  exact thr_fr w2 h
set_option maxHeartbeats 1000000 in
theorem l_recordF (l : Launch) (D : va_G) (cI cZ cQ cJ : ClassId) (a : Nat → Nat) (S : zS) (hok : zOK S) (hl : l.stackTraces = false) (w2 : va_W) (t c : Nat) (b : Bool) (ht : t < z_nt S)(hc : c < z_nc S)(hR : ¬ z_R S t < 200) : v_Thr l yL_record wsL_record { frames := 8, cells := 3, slots := 18, locals := 134 } D (wTy cI cZ cQ cJ) [.ref (a 0), .int (nI t), .int (nI c), .int (bI (b))] (w2 ++ wX cI cZ cQ a S) 0 exI (some (.int ((-1000003)))) (w2 ++ wX cI cZ cQ a (S)) 3 18 := by
  have hn1 := hok.1.1
  have hn2 := hok.1.2.1
  have h := x_L_record l D cI cZ cQ cJ a S hok hl (nI t) (nI c) (b)
  rw [iN_nI (show t < 2 ^ 31 by omega), iN_nI (show c < 2 ^ 31 by omega)] at h
  have hK : kk2 (zin (nI t) (z_nt S) && zin (nI c) (z_nc S)) (decide (z_R S (t) < 200)) = 2 := by rw [zin_n ht (by omega), zin_n hc (by omega), decide_eq_false hR]; rfl
  rw [aI_2 hK, mS_n (by rw [hK]; decide)] at h
  exact thr_fr w2 h
set_option maxHeartbeats 1000000 in
theorem l_recordX (l : Launch) (D : va_G) (cI cZ cQ cJ : ClassId) (a : Nat → Nat) (S : zS) (hok : zOK S) (hl : l.stackTraces = false) (w2 : va_W) (c : Nat) (hc : c < z_nc S) : v_Thr l yL_record wsL_record { frames := 8, cells := 3, slots := 18, locals := 134 } D (wTy cI cZ cQ cJ) [.ref (a 0), .int (nI (z_nt S)), .int (nI c), .int (bI (true))] (w2 ++ wX cI cZ cQ a S) 0 exI (some (.int ((-1000001)))) (w2 ++ wX cI cZ cQ a (S)) 3 18 := by
  have hn1 := hok.1.1
  have hn2 := hok.1.2.1
  have h := x_L_record l D cI cZ cQ cJ a S hok hl (nI (z_nt S)) (nI c) (true)
  rw [iN_nI (show (z_nt S) < 2 ^ 31 by omega), iN_nI (show c < 2 ^ 31 by omega)] at h
  have hK : kk2 (zin (nI (z_nt S)) (z_nt S) && zin (nI c) (z_nc S)) (decide (z_R S ((z_nt S)) < 200)) = 1 := by simp only [zin_no (Nat.le_refl (z_nt S)) (by omega), Bool.false_and]; rfl
  rw [aI_1 hK, mS_n (by rw [hK]; decide)] at h
  exact thr_fr w2 h
set_option maxHeartbeats 1000000 in
theorem l_recordY (l : Launch) (D : va_G) (cI cZ cQ cJ : ClassId) (a : Nat → Nat) (S : zS) (hok : zOK S) (hl : l.stackTraces = false) (w2 : va_W) (t : Nat) (ht : t < z_nt S) : v_Thr l yL_record wsL_record { frames := 8, cells := 3, slots := 18, locals := 134 } D (wTy cI cZ cQ cJ) [.ref (a 0), .int (nI t), .int (nI (z_nc S)), .int (bI (true))] (w2 ++ wX cI cZ cQ a S) 0 exI (some (.int ((-1000001)))) (w2 ++ wX cI cZ cQ a (S)) 3 18 := by
  have hn1 := hok.1.1
  have hn2 := hok.1.2.1
  have h := x_L_record l D cI cZ cQ cJ a S hok hl (nI t) (nI (z_nc S)) (true)
  rw [iN_nI (show t < 2 ^ 31 by omega), iN_nI (show (z_nc S) < 2 ^ 31 by omega)] at h
  have hK : kk2 (zin (nI t) (z_nt S) && zin (nI (z_nc S)) (z_nc S)) (decide (z_R S (t) < 200)) = 1 := by simp only [zin_no (Nat.le_refl (z_nc S)) (by omega), Bool.and_false]; rfl
  rw [aI_1 hK, mS_n (by rw [hK]; decide)] at h
  exact thr_fr w2 h
set_option maxHeartbeats 1000000 in
theorem l_triage0 (l : Launch) (D : va_G) (cI cZ cQ cJ : ClassId) (a : Nat → Nat) (S : zS) (hok : zOK S) (hl : l.stackTraces = false) (w2 : va_W) (t g b : Nat) (ht : t < z_nt S)(hg : g < z_nc S) (hb : b < z_nc S) (hgb : g < b) : v_Thr l yL_triage wsL_triage { frames := 8, cells := 4, slots := 24, locals := 134 } D (wTy cI cZ cQ cJ) [.ref (a 0), .int (nI t), .int (nI g), .int (nI b)] (w2 ++ wX cI cZ cQ a S) 0 exI (some (.int (nI (zcc (stri S (t) (g) (b)) (t))))) (w2 ++ wX cI cZ cQ a (stri S (t) (g) (b))) 4 24 := by
  have hn1 := hok.1.1
  have hn2 := hok.1.2.1
  have h := x_L_triage l D cI cZ cQ cJ a S hok hl (nI t) (nI g) (nI b)
  rw [iN_nI (show t < 2 ^ 31 by omega), iN_nI (show g < 2 ^ 31 by omega), iN_nI (show b < 2 ^ 31 by omega)] at h
  have hK : kk2 (zin (nI t) (z_nt S) && zin (nI g) (z_nc S) && zin (nI b) (z_nc S)) (decide (g < b)) = 0 := by rw [zin_n ht (by omega), zin_n hg (by omega), zin_n hb (by omega), decide_eq_true hgb]; rfl
  rw [aI_0 hK, mS_0 hK] at h
  exact thr_fr w2 h
set_option maxHeartbeats 1000000 in
theorem l_triageF (l : Launch) (D : va_G) (cI cZ cQ cJ : ClassId) (a : Nat → Nat) (S : zS) (hok : zOK S) (hl : l.stackTraces = false) (w2 : va_W) (t g b : Nat) (ht : t < z_nt S)(hg : g < z_nc S) (hb : b < z_nc S) (hgb : ¬ g < b) : v_Thr l yL_triage wsL_triage { frames := 8, cells := 4, slots := 24, locals := 134 } D (wTy cI cZ cQ cJ) [.ref (a 0), .int (nI t), .int (nI g), .int (nI b)] (w2 ++ wX cI cZ cQ a S) 0 exI (some (.int ((-1000002)))) (w2 ++ wX cI cZ cQ a (S)) 4 24 := by
  have hn1 := hok.1.1
  have hn2 := hok.1.2.1
  have h := x_L_triage l D cI cZ cQ cJ a S hok hl (nI t) (nI g) (nI b)
  rw [iN_nI (show t < 2 ^ 31 by omega), iN_nI (show g < 2 ^ 31 by omega), iN_nI (show b < 2 ^ 31 by omega)] at h
  have hK : kk2 (zin (nI t) (z_nt S) && zin (nI g) (z_nc S) && zin (nI b) (z_nc S)) (decide (g < b)) = 2 := by rw [zin_n ht (by omega), zin_n hg (by omega), zin_n hb (by omega), decide_eq_false hgb]; rfl
  rw [aI_2 hK, mS_n (by rw [hK]; decide)] at h
  exact thr_fr w2 h
set_option maxHeartbeats 1000000 in
theorem l_take0 (l : Launch) (D : va_G) (cI cZ cQ cJ : ClassId) (a : Nat → Nat) (S : zS) (hok : zOK S) (hl : l.stackTraces = false) (w2 : va_W)  (hq : 0 < z_qn S) (hb : 0 < z_bu S) : v_Thr l yL_take wsL_take { frames := 7, cells := 1, slots := 6, locals := 122 } D (wTy cI cZ cQ cJ) [.ref (a 0)] (w2 ++ wX cI cZ cQ a S) 0 exI (some (.int (nI (z_Q S 0)))) (w2 ++ wX cI cZ cQ a (stak S)) 1 6 := by
  have hn1 := hok.1.1
  have hn2 := hok.1.2.1
  have h := x_L_take l D cI cZ cQ cJ a S hok hl 
  have hK : kk1 (decide (0 < z_qn S) && decide (0 < z_bu S)) = 0 := by rw [decide_eq_true hq, decide_eq_true hb]; rfl
  rw [aI_0 hK, mS_0 hK] at h
  exact thr_fr w2 h
set_option maxHeartbeats 1000000 in
theorem l_takeF (l : Launch) (D : va_G) (cI cZ cQ cJ : ClassId) (a : Nat → Nat) (S : zS) (hok : zOK S) (hl : l.stackTraces = false) (w2 : va_W)  (hq : z_qn S = 0 ∨ z_bu S = 0) : v_Thr l yL_take wsL_take { frames := 7, cells := 1, slots := 6, locals := 122 } D (wTy cI cZ cQ cJ) [.ref (a 0)] (w2 ++ wX cI cZ cQ a S) 0 exI (some (.int ((-1000003)))) (w2 ++ wX cI cZ cQ a (S)) 1 6 := by
  have hn1 := hok.1.1
  have hn2 := hok.1.2.1
  have h := x_L_take l D cI cZ cQ cJ a S hok hl 
  have hK : kk1 (decide (0 < z_qn S) && decide (0 < z_bu S)) = 1 := by rcases hq with h9 | h9 <;> rw [h9] <;> simp [kk1]
  rw [aI_1 hK, mS_n (by rw [hK]; decide)] at h
  exact thr_fr w2 h
set_option maxHeartbeats 1000000 in
theorem l_newDay0 (l : Launch) (D : va_G) (cI cZ cQ cJ : ClassId) (a : Nat → Nat) (S : zS) (hok : zOK S) (hl : l.stackTraces = false) (w2 : va_W) (v : Nat) (hv : v < 101) : v_Thr l yL_newDay wsL_newDay { frames := 7, cells := 1, slots := 6, locals := 112 } D (wTy cI cZ cQ cJ) [.ref (a 0), .int (nI v)] (w2 ++ wX cI cZ cQ a S) 0 exI (some (.int (nI (z_bu S)))) (w2 ++ wX cI cZ cQ a (zs_bu S (v))) 1 6 := by
  have hn1 := hok.1.1
  have hn2 := hok.1.2.1
  have h := x_L_newDay l D cI cZ cQ cJ a S hok hl (nI v)
  rw [iN_nI (show v < 2 ^ 31 by omega)] at h
  have hK : kk1 (zin (nI v) 101) = 0 := by rw [zin_n hv (by decide)]; rfl
  rw [aI_0 hK, mS_0 hK] at h
  exact thr_fr w2 h
set_option maxHeartbeats 1000000 in
theorem l_newDayX (l : Launch) (D : va_G) (cI cZ cQ cJ : ClassId) (a : Nat → Nat) (S : zS) (hok : zOK S) (hl : l.stackTraces = false) (w2 : va_W)   : v_Thr l yL_newDay wsL_newDay { frames := 7, cells := 1, slots := 6, locals := 112 } D (wTy cI cZ cQ cJ) [.ref (a 0), .int (nI 101)] (w2 ++ wX cI cZ cQ a S) 0 exI (some (.int ((-1000002)))) (w2 ++ wX cI cZ cQ a (S)) 1 6 := by
  have hn1 := hok.1.1
  have hn2 := hok.1.2.1
  have h := x_L_newDay l D cI cZ cQ cJ a S hok hl (nI 101)
  rw [iN_nI (show 101 < 2 ^ 31 by omega)] at h
  have hK : kk1 (zin (nI 101) 101) = 1 := by rw [zin_no (show 101 ≤ 101 by decide) (by decide)]; rfl
  rw [aI_1 hK, mS_n (by rw [hK]; decide)] at h
  exact thr_fr w2 h
set_option maxHeartbeats 1000000 in
theorem l_newDayM (l : Launch) (D : va_G) (cI cZ cQ cJ : ClassId) (a : Nat → Nat) (S : zS) (hok : zOK S) (hl : l.stackTraces = false) (w2 : va_W)   : v_Thr l yL_newDay wsL_newDay { frames := 7, cells := 1, slots := 6, locals := 112 } D (wTy cI cZ cQ cJ) [.ref (a 0), .int ((-1))] (w2 ++ wX cI cZ cQ a S) 0 exI (some (.int ((-1000002)))) (w2 ++ wX cI cZ cQ a (S)) 1 6 := by
  have hn1 := hok.1.1
  have hn2 := hok.1.2.1
  have h := x_L_newDay l D cI cZ cQ cJ a S hok hl ((-1))
  have hK : kk1 (zin ((-1)) 101) = 1 := by rw [zin_m1]; rfl
  rw [aI_1 hK, mS_n (by rw [hK]; decide)] at h
  exact thr_fr w2 h
set_option maxHeartbeats 1000000 in
theorem l_setNoise0 (l : Launch) (D : va_G) (cI cZ cQ cJ : ClassId) (a : Nat → Nat) (S : zS) (hok : zOK S) (hl : l.stackTraces = false) (w2 : va_W) (v : Nat) (hv : v < 21) : v_Thr l yL_setNoise wsL_setNoise { frames := 7, cells := 1, slots := 6, locals := 112 } D (wTy cI cZ cQ cJ) [.ref (a 0), .int (nI v)] (w2 ++ wX cI cZ cQ a S) 0 exI (some (.int (nI (z_no S)))) (w2 ++ wX cI cZ cQ a (zs_no S (v))) 1 6 := by
  have hn1 := hok.1.1
  have hn2 := hok.1.2.1
  have h := x_L_setNoise l D cI cZ cQ cJ a S hok hl (nI v)
  rw [iN_nI (show v < 2 ^ 31 by omega)] at h
  have hK : kk1 (zin (nI v) 21) = 0 := by rw [zin_n hv (by decide)]; rfl
  rw [aI_0 hK, mS_0 hK] at h
  exact thr_fr w2 h
set_option maxHeartbeats 1000000 in
theorem l_setNoiseX (l : Launch) (D : va_G) (cI cZ cQ cJ : ClassId) (a : Nat → Nat) (S : zS) (hok : zOK S) (hl : l.stackTraces = false) (w2 : va_W)   : v_Thr l yL_setNoise wsL_setNoise { frames := 7, cells := 1, slots := 6, locals := 112 } D (wTy cI cZ cQ cJ) [.ref (a 0), .int (nI 21)] (w2 ++ wX cI cZ cQ a S) 0 exI (some (.int ((-1000002)))) (w2 ++ wX cI cZ cQ a (S)) 1 6 := by
  have hn1 := hok.1.1
  have hn2 := hok.1.2.1
  have h := x_L_setNoise l D cI cZ cQ cJ a S hok hl (nI 21)
  rw [iN_nI (show 21 < 2 ^ 31 by omega)] at h
  have hK : kk1 (zin (nI 21) 21) = 1 := by rw [zin_no (show 21 ≤ 21 by decide) (by decide)]; rfl
  rw [aI_1 hK, mS_n (by rw [hK]; decide)] at h
  exact thr_fr w2 h
set_option maxHeartbeats 1000000 in
theorem l_setQuarantine0 (l : Launch) (D : va_G) (cI cZ cQ cJ : ClassId) (a : Nat → Nat) (S : zS) (hok : zOK S) (hl : l.stackTraces = false) (w2 : va_W) (v k : Nat) (hv1 : 1 ≤ v) (hv : v < 11) (hk1 : 1 ≤ k) (hk : k < 41) : v_Thr l yL_setQuarantine wsL_setQuarantine { frames := 7, cells := 1, slots := 6, locals := 112 } D (wTy cI cZ cQ cJ) [.ref (a 0), .int (nI v), .int (nI k)] (w2 ++ wX cI cZ cQ a S) 0 exI (some (.int (nI 0))) (w2 ++ wX cI cZ cQ a (zs_wi (zs_li S (v)) (k))) 1 6 := by
  have hn1 := hok.1.1
  have hn2 := hok.1.2.1
  have h := x_L_setQuarantine l D cI cZ cQ cJ a S hok hl (nI v) (nI k)
  rw [iN_nI (show v < 2 ^ 31 by omega), iN_nI (show k < 2 ^ 31 by omega)] at h
  have hK : kk1 (zin1 (nI v) 11 && zin1 (nI k) 41) = 0 := by rw [zin1_n hv1 hv (by decide), zin1_n hk1 hk (by decide)]; rfl
  rw [aI_0 hK, mS_0 hK] at h
  exact thr_fr w2 h
set_option maxHeartbeats 1000000 in
theorem l_setQuarantineX (l : Launch) (D : va_G) (cI cZ cQ cJ : ClassId) (a : Nat → Nat) (S : zS) (hok : zOK S) (hl : l.stackTraces = false) (w2 : va_W)   : v_Thr l yL_setQuarantine wsL_setQuarantine { frames := 7, cells := 1, slots := 6, locals := 112 } D (wTy cI cZ cQ cJ) [.ref (a 0), .int (nI 0), .int (nI 1)] (w2 ++ wX cI cZ cQ a S) 0 exI (some (.int ((-1000002)))) (w2 ++ wX cI cZ cQ a (S)) 1 6 := by
  have hn1 := hok.1.1
  have hn2 := hok.1.2.1
  have h := x_L_setQuarantine l D cI cZ cQ cJ a S hok hl (nI 0) (nI 1)
  rw [iN_nI (show 0 < 2 ^ 31 by omega), iN_nI (show 1 < 2 ^ 31 by omega)] at h
  have hK : kk1 (zin1 (nI 0) 11 && zin1 (nI 1) 41) = 1 := by simp only [zin1_0, Bool.false_and]; rfl
  rw [aI_1 hK, mS_n (by rw [hK]; decide)] at h
  exact thr_fr w2 h
set_option maxHeartbeats 1000000 in
theorem l_setQuarantineY (l : Launch) (D : va_G) (cI cZ cQ cJ : ClassId) (a : Nat → Nat) (S : zS) (hok : zOK S) (hl : l.stackTraces = false) (w2 : va_W)   : v_Thr l yL_setQuarantine wsL_setQuarantine { frames := 7, cells := 1, slots := 6, locals := 112 } D (wTy cI cZ cQ cJ) [.ref (a 0), .int (nI 1), .int (nI 41)] (w2 ++ wX cI cZ cQ a S) 0 exI (some (.int ((-1000002)))) (w2 ++ wX cI cZ cQ a (S)) 1 6 := by
  have hn1 := hok.1.1
  have hn2 := hok.1.2.1
  have h := x_L_setQuarantine l D cI cZ cQ cJ a S hok hl (nI 1) (nI 41)
  rw [iN_nI (show 1 < 2 ^ 31 by omega), iN_nI (show 41 < 2 ^ 31 by omega)] at h
  have hK : kk1 (zin1 (nI 1) 11 && zin1 (nI 41) 41) = 1 := by simp only [zin1_hi (show 41 ≤ 41 by decide) (by decide), Bool.and_false]; rfl
  rw [aI_1 hK, mS_n (by rw [hK]; decide)] at h
  exact thr_fr w2 h
set_option maxHeartbeats 1000000 in
theorem l_setUses0 (l : Launch) (D : va_G) (cI cZ cQ cJ : ClassId) (a : Nat → Nat) (S : zS) (hok : zOK S) (hl : l.stackTraces = false) (w2 : va_W) (p v : Nat) (hp : p < 16) (hv : v < 65536) : v_Thr l yL_setUses wsL_setUses { frames := 8, cells := 1, slots := 6, locals := 133 } D (wTy cI cZ cQ cJ) [.ref (a 0), .int (nI p), .int (nI v)] (w2 ++ wX cI cZ cQ a S) 0 exI (some (.int (nI (z_U S (p))))) (w2 ++ wX cI cZ cQ a (zs_U S (va_up (z_U S) (p) (v)))) 1 6 := by
  have hn1 := hok.1.1
  have hn2 := hok.1.2.1
  have h := x_L_setUses l D cI cZ cQ cJ a S hok hl (nI p) (nI v)
  rw [iN_nI (show p < 2 ^ 31 by omega), iN_nI (show v < 2 ^ 31 by omega)] at h
  have hK : kk2 (zin (nI p) 16) (zin (nI v) 65536) = 0 := by rw [zin_n hp (by decide), zin_n hv (by decide)]; rfl
  rw [aI_0 hK, mS_0 hK] at h
  exact thr_fr w2 h
set_option maxHeartbeats 1000000 in
theorem l_setUsesX (l : Launch) (D : va_G) (cI cZ cQ cJ : ClassId) (a : Nat → Nat) (S : zS) (hok : zOK S) (hl : l.stackTraces = false) (w2 : va_W)   : v_Thr l yL_setUses wsL_setUses { frames := 8, cells := 1, slots := 6, locals := 133 } D (wTy cI cZ cQ cJ) [.ref (a 0), .int (nI 16), .int ((-1))] (w2 ++ wX cI cZ cQ a S) 0 exI (some (.int ((-1000001)))) (w2 ++ wX cI cZ cQ a (S)) 1 6 := by
  have hn1 := hok.1.1
  have hn2 := hok.1.2.1
  have h := x_L_setUses l D cI cZ cQ cJ a S hok hl (nI 16) ((-1))
  rw [iN_nI (show 16 < 2 ^ 31 by omega)] at h
  have hK : kk2 (zin (nI 16) 16) (zin ((-1)) 65536) = 1 := by rw [zin_no (show 16 ≤ 16 by decide) (by decide)]; rfl
  rw [aI_1 hK, mS_n (by rw [hK]; decide)] at h
  exact thr_fr w2 h
set_option maxHeartbeats 1000000 in
theorem l_setUsesY (l : Launch) (D : va_G) (cI cZ cQ cJ : ClassId) (a : Nat → Nat) (S : zS) (hok : zOK S) (hl : l.stackTraces = false) (w2 : va_W)   : v_Thr l yL_setUses wsL_setUses { frames := 8, cells := 1, slots := 6, locals := 133 } D (wTy cI cZ cQ cJ) [.ref (a 0), .int (nI 0), .int (nI 65536)] (w2 ++ wX cI cZ cQ a S) 0 exI (some (.int ((-1000002)))) (w2 ++ wX cI cZ cQ a (S)) 1 6 := by
  have hn1 := hok.1.1
  have hn2 := hok.1.2.1
  have h := x_L_setUses l D cI cZ cQ cJ a S hok hl (nI 0) (nI 65536)
  rw [iN_nI (show 0 < 2 ^ 31 by omega), iN_nI (show 65536 < 2 ^ 31 by omega)] at h
  have hK : kk2 (zin (nI 0) 16) (zin (nI 65536) 65536) = 2 := by rw [zin_n (show 0 < 16 by decide) (by decide), zin_no (show 65536 ≤ 65536 by decide) (by decide)]; rfl
  rw [aI_2 hK, mS_n (by rw [hK]; decide)] at h
  exact thr_fr w2 h
set_option maxHeartbeats 1000000 in
theorem l_addCommit0 (l : Launch) (D : va_G) (cI cZ cQ cJ : ClassId) (a : Nat → Nat) (S : zS) (hok : zOK S) (hl : l.stackTraces = false) (w2 : va_W) (v : Nat) (hv : v < 65536) (hn : z_nc S < 40) : v_Thr l yL_addCommit wsL_addCommit { frames := 8, cells := 2, slots := 12, locals := 132 } D (wTy cI cZ cQ cJ) [.ref (a 0), .int (nI v)] (w2 ++ wX cI cZ cQ a S) 0 exI (some (.int (nI (z_nc S)))) (w2 ++ wX cI cZ cQ a (sadC S (v))) 2 12 := by
  have hn1 := hok.1.1
  have hn2 := hok.1.2.1
  have h := x_L_addCommit l D cI cZ cQ cJ a S hok hl (nI v)
  rw [iN_nI (show v < 2 ^ 31 by omega)] at h
  have hK : kk2 (zin (nI v) 65536) (decide (z_nc S < 40)) = 0 := by rw [zin_n hv (by decide), decide_eq_true hn]; rfl
  rw [aI_0 hK, mS_0 hK] at h
  exact thr_fr w2 h
set_option maxHeartbeats 1000000 in
theorem l_addCommitF (l : Launch) (D : va_G) (cI cZ cQ cJ : ClassId) (a : Nat → Nat) (S : zS) (hok : zOK S) (hl : l.stackTraces = false) (w2 : va_W) (v : Nat) (hv : v < 65536) (hn : ¬ z_nc S < 40) : v_Thr l yL_addCommit wsL_addCommit { frames := 8, cells := 2, slots := 12, locals := 132 } D (wTy cI cZ cQ cJ) [.ref (a 0), .int (nI v)] (w2 ++ wX cI cZ cQ a S) 0 exI (some (.int ((-1000003)))) (w2 ++ wX cI cZ cQ a (S)) 2 12 := by
  have hn1 := hok.1.1
  have hn2 := hok.1.2.1
  have h := x_L_addCommit l D cI cZ cQ cJ a S hok hl (nI v)
  rw [iN_nI (show v < 2 ^ 31 by omega)] at h
  have hK : kk2 (zin (nI v) 65536) (decide (z_nc S < 40)) = 2 := by rw [zin_n hv (by decide), decide_eq_false hn]; rfl
  rw [aI_2 hK, mS_n (by rw [hK]; decide)] at h
  exact thr_fr w2 h
set_option maxHeartbeats 1000000 in
theorem l_addTest0 (l : Launch) (D : va_G) (cI cZ cQ cJ : ClassId) (a : Nat → Nat) (S : zS) (hok : zOK S) (hl : l.stackTraces = false) (w2 : va_W) (v : Nat) (hv : v < 65536) (hn : z_nt S < 12) : v_Thr l yL_addTest wsL_addTest { frames := 8, cells := 2, slots := 12, locals := 132 } D (wTy cI cZ cQ cJ) [.ref (a 0), .int (nI v)] (w2 ++ wX cI cZ cQ a S) 0 exI (some (.int (nI (z_nt S)))) (w2 ++ wX cI cZ cQ a (sadT S (v))) 2 12 := by
  have hn1 := hok.1.1
  have hn2 := hok.1.2.1
  have h := x_L_addTest l D cI cZ cQ cJ a S hok hl (nI v)
  rw [iN_nI (show v < 2 ^ 31 by omega)] at h
  have hK : kk2 (zin (nI v) 65536) (decide (z_nt S < 12)) = 0 := by rw [zin_n hv (by decide), decide_eq_true hn]; rfl
  rw [aI_0 hK, mS_0 hK] at h
  exact thr_fr w2 h
set_option maxHeartbeats 1000000 in
theorem l_addTestF (l : Launch) (D : va_G) (cI cZ cQ cJ : ClassId) (a : Nat → Nat) (S : zS) (hok : zOK S) (hl : l.stackTraces = false) (w2 : va_W) (v : Nat) (hv : v < 65536) (hn : ¬ z_nt S < 12) : v_Thr l yL_addTest wsL_addTest { frames := 8, cells := 2, slots := 12, locals := 132 } D (wTy cI cZ cQ cJ) [.ref (a 0), .int (nI v)] (w2 ++ wX cI cZ cQ a S) 0 exI (some (.int ((-1000003)))) (w2 ++ wX cI cZ cQ a (S)) 2 12 := by
  have hn1 := hok.1.1
  have hn2 := hok.1.2.1
  have h := x_L_addTest l D cI cZ cQ cJ a S hok hl (nI v)
  rw [iN_nI (show v < 2 ^ 31 by omega)] at h
  have hK : kk2 (zin (nI v) 65536) (decide (z_nt S < 12)) = 2 := by rw [zin_n hv (by decide), decide_eq_false hn]; rfl
  rw [aI_2 hK, mS_n (by rw [hK]; decide)] at h
  exact thr_fr w2 h
set_option maxHeartbeats 1000000 in
theorem l_addCommitX (l : Launch) (D : va_G) (cI cZ cQ cJ : ClassId) (a : Nat → Nat) (S : zS) (hok : zOK S) (hl : l.stackTraces = false) (w2 : va_W)   : v_Thr l yL_addCommit wsL_addCommit { frames := 8, cells := 2, slots := 12, locals := 132 } D (wTy cI cZ cQ cJ) [.ref (a 0), .int ((-1))] (w2 ++ wX cI cZ cQ a S) 0 exI (some (.int ((-1000002)))) (w2 ++ wX cI cZ cQ a (S)) 2 12 := by
  have hn1 := hok.1.1
  have hn2 := hok.1.2.1
  have h := x_L_addCommit l D cI cZ cQ cJ a S hok hl ((-1))
  have hK : kk2 (zin ((-1)) 65536) (decide (z_nc S < 40)) = 1 := by rw [zin_m1]; rfl
  rw [aI_1 hK, mS_n (by rw [hK]; decide)] at h
  exact thr_fr w2 h
set_option maxHeartbeats 1000000 in
theorem l_addTestX (l : Launch) (D : va_G) (cI cZ cQ cJ : ClassId) (a : Nat → Nat) (S : zS) (hok : zOK S) (hl : l.stackTraces = false) (w2 : va_W)   : v_Thr l yL_addTest wsL_addTest { frames := 8, cells := 2, slots := 12, locals := 132 } D (wTy cI cZ cQ cJ) [.ref (a 0), .int (nI 65536)] (w2 ++ wX cI cZ cQ a S) 0 exI (some (.int ((-1000002)))) (w2 ++ wX cI cZ cQ a (S)) 2 12 := by
  have hn1 := hok.1.1
  have hn2 := hok.1.2.1
  have h := x_L_addTest l D cI cZ cQ cJ a S hok hl (nI 65536)
  rw [iN_nI (show 65536 < 2 ^ 31 by omega)] at h
  have hK : kk2 (zin (nI 65536) 65536) (decide (z_nt S < 12)) = 1 := by rw [zin_no (show 65536 ≤ 65536 by decide) (by decide)]; rfl
  rw [aI_1 hK, mS_n (by rw [hK]; decide)] at h
  exact thr_fr w2 h
