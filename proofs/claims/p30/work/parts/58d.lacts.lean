/-! ===== the law: acts, triage and queue ===== -/
set_option maxHeartbeats 8000000 in
set_option maxRecDepth 100000 in
theorem z_acts_E1 (l : Launch) (D : va_G) (cI cZ cQ cJ : ClassId) (a bx : Nat → Nat) (S : zS) (hok : zOK S) (hl : l.stackTraces = false) (qf : Nat → Nat) (u0 u1 : Int32) (kd v : Nat) (t c : Nat) (o : Nat) (ekd : lo9 u0 % 24 = kd) (est : st9 u1 = v)(et : lo9 (u0 >>> (nI (5) &&& 31)) % z_nt S = t) (ec : lo9 u1 % z_nc S = c) (hnt : 0 < z_nt S) (hnc : 0 < z_nc S)(hkd6 : 8 ≤ kd ∧ kd < 10) (eo : lo9 (u1 >>> (nI (9) &&& 31)) % z_nc S = o)(hco : c < o) : v_Thr l yL_acts wsL_acts { frames := 10, cells := 1002, slots := 6012, locals := 193 } D (wTy cI cZ cQ cJ) [.ref (a 0), .ref (bx 0), .ref (bx 1), .ref (bx 2), .ref (bx 3), .ref (bx 4), .ref (bx 5), .ref (bx 6), .ref (bx 7), .int (u0), .int (u1)] ((wA cI bx (z_U S) (z_C S) (z_D S) (g9 S) (z_B S) (f9 S) qf (n9 (z_no S) (z_li S) (z_wi S) (z_bu S) (z_qn S))) ++ wX cI cZ cQ a S) 0 exI (some (.int (nI 1))) ((wA cI bx (z_U ((stri S t c o))) (z_C ((stri S t c o))) (z_D ((stri S t c o))) (g9 ((stri S t c o))) (z_B ((stri S t c o))) (f9 ((stri S t c o))) qf (n9 (z_no ((stri S t c o))) (z_li ((stri S t c o))) (z_wi ((stri S t c o))) (z_bu ((stri S t c o))) (z_qn ((stri S t c o))))) ++ wX cI cZ cQ a ((stri S t c o))) 1002 6012 := by
  refine v_thrower (cc := cL_acts) (maxL := 20) (ret := (some .boolean)) (own := RL) (lv0 := [(0, .ref (a 0)), (1, .ref (bx 0)), (2, .ref (bx 1)), (3, .ref (bx 2)), (4, .ref (bx 3)), (5, .ref (bx 4)), (6, .ref (bx 5)), (7, .ref (bx 6)), (8, .ref (bx 7)), (9, .int (u0)), (10, .int (u1))]) (by decide) rfl rfl (Nat.le_of_ble_eq_true rfl) rfl ?_
  intro p9 e9 s9 m9 as9 bl9 me9 cd9 A E hA htab hTx hr
  have hn1 := hok.1.1
  have hn2 := hok.1.2.1
  have hkd : kd < 24 := by rw [← ekd]; exact Nat.mod_lt _ (by decide)
  have hv : v < 65536 := by rw [← est]; exact st9_lt u1
  have hqn := zqn_le hok
  have ht : t < z_nt S := by rw [← et]; exact Nat.mod_lt _ hnt
  have hc : c < z_nc S := by rw [← ec]; exact Nat.mod_lt _ hnc
  have ho : o < z_nc S := by rw [← eo]; exact Nat.mod_lt _ hnc
  have hBo : z_B (stri S t c o) t = o := if_pos rfl
  have hTo : z_T (stri S t c o) t = true := if_pos rfl
  refine v_iload E dL_acts_0 9 rfl ?_
  refine v_bipush E dL_acts_2 (v := nI 24) rfl ?_
  refine v_cSi' E dL_acts_4 (x_L_low l D cI cZ cQ cJ ((u0)) (24) (by omega) (by omega)) (va_cwS 2 E.2.2.2.1 gL_acts_L_low rfl rfl rfl (by decide +kernel) ⟨Nat.le_of_ble_eq_true rfl, Nat.le_of_ble_eq_true rfl⟩) (fun _ _ => v_nil _) rfl rfl ⟨(by show _ ≤ 1002; omega), (by show _ ≤ 6012; omega)⟩ (Nat.le_of_ble_eq_true rfl) ?_
  refine v_top (y := nI (kd)) (congrArg nI ekd) ?_
  refine v_istore E dL_acts_7 (by decide) rfl ?_
  refine v_aload_n E dL_acts_9 1 rfl rfl ?_
  refine v_cVi' E dL_acts_10 (x_X1_tests l D cI cZ cQ cJ a S hok) (cwV 0 E.2.2.2.1 gL_acts_X1_tests rfl rfl rfl (by decide +kernel) ⟨Nat.le_of_ble_eq_true rfl, Nat.le_of_ble_eq_true rfl⟩) 8 rfl rfl rfl (fun H h => subR H h) rfl rfl ⟨(by show _ ≤ 1002; omega), (by show _ ≤ 6012; omega)⟩ (Nat.le_of_ble_eq_true rfl) ?_
  refine v_istore E dL_acts_13 (by decide) rfl ?_
  refine v_aload_n E dL_acts_15 2 rfl rfl ?_
  refine v_cVi' E dL_acts_16 (x_X1_commits l D cI cZ cQ cJ a S hok) (cwV 0 E.2.2.2.1 gL_acts_X1_commits rfl rfl rfl (by decide +kernel) ⟨Nat.le_of_ble_eq_true rfl, Nat.le_of_ble_eq_true rfl⟩) 8 rfl rfl rfl (fun H h => subR H h) rfl rfl ⟨(by show _ ≤ 1002; omega), (by show _ ≤ 6012; omega)⟩ (Nat.le_of_ble_eq_true rfl) ?_
  refine v_istore E dL_acts_19 (by decide) rfl ?_
  refine v_iconst E dL_acts_21 (v := nI 1) rfl ?_
  refine v_iload E dL_acts_22 13 rfl ?_
  refine v_bipush E dL_acts_24 (v := nI 16) rfl ?_
  refine v_cSi' E dL_acts_26 (x_L_low l D cI cZ cQ cJ ((u1)) (16) (by omega) (by omega)) (va_cwS 2 E.2.2.2.1 gL_acts_L_low rfl rfl rfl (by decide +kernel) ⟨Nat.le_of_ble_eq_true rfl, Nat.le_of_ble_eq_true rfl⟩) (fun _ _ => v_nil _) rfl rfl ⟨(by show _ ≤ 1002; omega), (by show _ ≤ 6012; omega)⟩ (Nat.le_of_ble_eq_true rfl) ?_
  refine v_ishl E dL_acts_29 (n_shl1 (by omega)) ?_
  refine v_iconst E dL_acts_30 (v := nI 1) rfl ?_
  refine v_iload E dL_acts_31 13 rfl ?_
  refine v_iconst E dL_acts_33 (v := nI 4) rfl ?_
  refine v_ishr E dL_acts_34 (z := ((u1 >>> (nI (4) &&& 31)))) rfl ?_
  refine v_bipush E dL_acts_35 (v := nI 6) rfl ?_
  refine v_cSi' E dL_acts_37 (x_L_low l D cI cZ cQ cJ (((u1 >>> (nI (4) &&& 31)))) (6) (by omega) (by omega)) (va_cwS 2 E.2.2.2.1 gL_acts_L_low rfl rfl rfl (by decide +kernel) ⟨Nat.le_of_ble_eq_true rfl, Nat.le_of_ble_eq_true rfl⟩) (fun _ _ => v_nil _) rfl rfl ⟨(by show _ ≤ 1002; omega), (by show _ ≤ 6012; omega)⟩ (Nat.le_of_ble_eq_true rfl) ?_
  refine v_ishl E dL_acts_40 (n_shl1 (by omega)) ?_
  refine v_ior E dL_acts_41 (nx_or _ _) ?_
  refine v_iload E dL_acts_42 13 rfl ?_
  refine v_bipush E dL_acts_44 (v := nI 8) rfl ?_
  refine v_ishr E dL_acts_46 (z := ((u1 >>> (nI (8) &&& 31)))) rfl ?_
  refine v_iconst E dL_acts_47 (v := nI 3) rfl ?_
  refine v_cSi' E dL_acts_48 (x_L_low l D cI cZ cQ cJ (((u1 >>> (nI (8) &&& 31)))) (3) (by omega) (by omega)) (va_cwS 2 E.2.2.2.1 gL_acts_L_low rfl rfl rfl (by decide +kernel) ⟨Nat.le_of_ble_eq_true rfl, Nat.le_of_ble_eq_true rfl⟩) (fun _ _ => v_nil _) rfl rfl ⟨(by show _ ≤ 1002; omega), (by show _ ≤ 6012; omega)⟩ (Nat.le_of_ble_eq_true rfl) ?_
  have J70_1 : V p9 l e9 (headSpec wsL_acts { frames := 10, cells := 1002, slots := 6012, locals := 193 }).room s9 m9 as9 bl9 me9 cd9 (0) (0) (vx_MQ bl9 (v_Qo D (wTy cI cZ cQ cJ) (0 = 0) (some (.int (nI 1))) ((wA cI bx (z_U ((stri S t c o))) (z_C ((stri S t c o))) (z_D ((stri S t c o))) (g9 ((stri S t c o))) (z_B ((stri S t c o))) (f9 ((stri S t c o))) qf (n9 (z_no ((stri S t c o))) (z_li ((stri S t c o))) (z_wi ((stri S t c o))) (z_bu ((stri S t c o))) (z_qn ((stri S t c o))))) ++ wX cI cZ cQ a ((stri S t c o))) A) (v_XC D (wTy cI cZ cQ cJ) 0 exI ((wA cI bx (z_U S) (z_C S) (z_D S) (g9 S) (z_B S) (f9 S) qf (n9 (z_no S) (z_li S) (z_wi S) (z_bu S) (z_qn S))) ++ wX cI cZ cQ a S) A) as9 s9 1002 6012 A) (v_rw D A s9) 20 70 [(13, .int (nI (z_nc S))), (12, .int (nI (z_nt S))), (11, .int (nI (kd))), (0, .ref (a 0)), (1, .ref (bx 0)), (2, .ref (bx 1)), (3, .ref (bx 2)), (4, .ref (bx 3)), (5, .ref (bx 4)), (6, .ref (bx 5)), (7, .ref (bx 6)), (8, .ref (bx 7)), (9, .int (u0)), (10, .int (u1))] [.int (nI ((if lo9 (u1 >>> (nI (8) &&& 31)) % 3 = 0 then 2 ^ (lo9 (u1 >>> (nI (10) &&& 31)) % 16) else 0))), .int (nI ((2 ^ (lo9 ((u1)) % 16)) ||| (2 ^ (lo9 (((u1 >>> (nI (4) &&& 31)))) % 6))))] ((wA cI bx (z_U S) (z_C S) (z_D S) (g9 S) (z_B S) (f9 S) qf (n9 (z_no S) (z_li S) (z_wi S) (z_bu S) (z_qn S))) ++ wX cI cZ cQ a S) := by
    refine v_ior E dL_acts_70 (nx_or _ _) ?_
    refine v_top (y := nI (v)) (congrArg nI est) ?_
    refine v_istore E dL_acts_71 (by decide) rfl ?_
    refine v_iload E dL_acts_73 3 rfl ?_
    refine n_if_eq E dL_acts_75 (by omega) (tgt := 83) (by decide) (fun c75 => ?_) (fun c75 => ?_)
    · exact absurd c75 (by omega)
    · refine v_iload E dL_acts_78 2 rfl ?_
      refine n_if_ne E dL_acts_80 (by omega) (tgt := 142) (by decide) (fun c80 => ?_) (fun c80 => ?_)
      · refine v_iload E dL_acts_142 3 rfl ?_
        refine v_bipush E dL_acts_144 (v := nI 6) rfl ?_
        refine n_icmp_lt E dL_acts_146 (by omega) (by omega) (tgt := 154) (by decide) (fun c146 => ?_) (fun c146 => ?_)
        · exact absurd c146 (by omega)
        · refine v_iload E dL_acts_149 1 rfl ?_
          refine n_if_ne E dL_acts_151 (by omega) (tgt := 206) (by decide) (fun c151 => ?_) (fun c151 => ?_)
          · refine v_iload E dL_acts_206 13 rfl ?_
            refine v_iconst E dL_acts_208 (v := nI 5) rfl ?_
            refine v_ishr E dL_acts_209 (z := ((u0 >>> (nI (5) &&& 31)))) rfl ?_
            refine v_iload E dL_acts_210 2 rfl ?_
            refine v_cSi' E dL_acts_212 (x_L_low l D cI cZ cQ cJ (((u0 >>> (nI (5) &&& 31)))) (z_nt S) (by omega) (by omega)) (va_cwS 2 E.2.2.2.1 gL_acts_L_low rfl rfl rfl (by decide +kernel) ⟨Nat.le_of_ble_eq_true rfl, Nat.le_of_ble_eq_true rfl⟩) (fun _ _ => v_nil _) rfl rfl ⟨(by show _ ≤ 1002; omega), (by show _ ≤ 6012; omega)⟩ (Nat.le_of_ble_eq_true rfl) ?_
            refine v_top (y := nI (t)) (congrArg nI et) ?_
            refine v_istore E dL_acts_215 (by decide) rfl ?_
            refine v_iload E dL_acts_217 15 rfl ?_
            refine v_iload E dL_acts_219 2 rfl ?_
            refine v_cSi' E dL_acts_221 (x_L_low l D cI cZ cQ cJ ((u1)) (z_nc S) (by omega) (by omega)) (va_cwS 2 E.2.2.2.1 gL_acts_L_low rfl rfl rfl (by decide +kernel) ⟨Nat.le_of_ble_eq_true rfl, Nat.le_of_ble_eq_true rfl⟩) (fun _ _ => v_nil _) rfl rfl ⟨(by show _ ≤ 1002; omega), (by show _ ≤ 6012; omega)⟩ (Nat.le_of_ble_eq_true rfl) ?_
            refine v_top (y := nI (c)) (congrArg nI ec) ?_
            refine v_istore E dL_acts_224 (by decide) rfl ?_
            refine v_iload E dL_acts_226 5 rfl ?_
            refine v_bipush E dL_acts_228 (v := nI 6) rfl ?_
            refine n_icmp_ne E dL_acts_230 (by omega) (by omega) (tgt := 317) (by decide) (fun c230 => ?_) (fun c230 => ?_)
            · refine v_iload E dL_acts_317 5 rfl ?_
              refine v_bipush E dL_acts_319 (v := nI 7) rfl ?_
              refine n_icmp_ne E dL_acts_321 (by omega) (by omega) (tgt := 455) (by decide) (fun c321 => ?_) (fun c321 => ?_)
              · refine v_iload E dL_acts_455 5 rfl ?_
                refine v_bipush E dL_acts_457 (v := nI 10) rfl ?_
                refine n_icmp_ge E dL_acts_459 (by omega) (by omega) (tgt := 580) (by decide) (fun c459 => ?_) (fun c459 => ?_)
                · exact absurd c459 (by omega)
                · refine v_iload E dL_acts_462 16 rfl ?_
                  refine v_bipush E dL_acts_464 (v := nI 9) rfl ?_
                  refine v_ishr E dL_acts_466 (z := ((u1 >>> (nI (9) &&& 31)))) rfl ?_
                  refine v_iload E dL_acts_467 3 rfl ?_
                  refine v_cSi' E dL_acts_469 (x_L_low l D cI cZ cQ cJ (((u1 >>> (nI (9) &&& 31)))) (z_nc S) (by omega) (by omega)) (va_cwS 2 E.2.2.2.1 gL_acts_L_low rfl rfl rfl (by decide +kernel) ⟨Nat.le_of_ble_eq_true rfl, Nat.le_of_ble_eq_true rfl⟩) (fun _ _ => v_nil _) rfl rfl ⟨(by show _ ≤ 1002; omega), (by show _ ≤ 6012; omega)⟩ (Nat.le_of_ble_eq_true rfl) ?_
                  refine v_top (y := nI (o)) (congrArg nI eo) ?_
                  refine v_istore E dL_acts_472 (by decide) rfl ?_
                  refine v_iload E dL_acts_474 0 rfl ?_
                  refine v_iload E dL_acts_476 1 rfl ?_
                  refine n_icmp_le E dL_acts_478 (by omega) (by omega) (tgt := 485) (by decide) (fun c478 => ?_) (fun c478 => ?_)
                  · exact absurd c478 (by omega)
                  · refine v_iconst E dL_acts_481 (v := nI 1) rfl ?_
                    refine v_goto E dL_acts_482 (tgt := 486) (by decide) ?_
                    refine v_istore E dL_acts_486 (by decide) rfl ?_
                    refine v_aload E dL_acts_488 12 rfl ?_
                    refine v_iload E dL_acts_490 3 rfl ?_
                    refine v_iload E dL_acts_492 0 rfl ?_
                    refine n_if_eq E dL_acts_494 (by omega) (tgt := 502) (by decide) (fun c494 => ?_) (fun c494 => ?_)
                    · exact absurd c494 (by omega)
                    · refine v_iload E dL_acts_497 2 rfl ?_
                      refine v_goto E dL_acts_499 (tgt := 507) (by decide) ?_
                      refine v_iast E dL_acts_507 3 0 rfl rfl (by omega) (by decide) (w' := ((wA cI bx (z_U S) (z_C S) (z_D S) (upd (g9 S) (t) (nI (c))) (z_B S) (f9 S) qf (n9 (z_no S) (z_li S) (z_wi S) (z_bu S) (z_qn S))) ++ wX cI cZ cQ a S)) (wA_g _ _) ?_
                      refine v_aload E dL_acts_508 13 rfl ?_
                      refine v_iload E dL_acts_510 3 rfl ?_
                      refine v_iload E dL_acts_512 0 rfl ?_
                      refine n_if_eq E dL_acts_514 (by omega) (tgt := 522) (by decide) (fun c514 => ?_) (fun c514 => ?_)
                      · exact absurd c514 (by omega)
                      · refine v_iload E dL_acts_517 1 rfl ?_
                        refine v_goto E dL_acts_519 (tgt := 527) (by decide) ?_
                        refine v_iast E dL_acts_527 4 0 rfl rfl (by omega) (by decide) (w' := ((wA cI bx (z_U S) (z_C S) (z_D S) (upd (g9 S) (t) (nI (c))) (va_up (z_B S) (t) (o)) (f9 S) qf (n9 (z_no S) (z_li S) (z_wi S) (z_bu S) (z_qn S))) ++ wX cI cZ cQ a S)) (wA_b _ _) ?_
                        refine v_aload_n E dL_acts_528 8 rfl rfl ?_
                        refine v_iload E dL_acts_529 3 rfl ?_
                        refine v_iload E dL_acts_531 2 rfl ?_
                        refine v_iload E dL_acts_533 1 rfl ?_
                        refine x_cSn E hA hTx dL_acts_535 (l_triage0 l D cI cZ cQ cJ a S hok hl (wA cI bx (z_U S) (z_C S) (z_D S) (upd (g9 S) (t) (nI (c))) (va_up (z_B S) (t) (o)) (f9 S) qf (n9 (z_no S) (z_li S) (z_wi S) (z_bu S) (z_qn S))) t c o ht hc ho hco) (vx_cwSW 4 E.2.2.2.1 gL_acts_L_triage rfl rfl rfl (by decide +kernel) ⟨Nat.le_of_ble_eq_true rfl, Nat.le_of_ble_eq_true rfl⟩) rfl rfl ⟨(by show _ ≤ 1002; omega), (by show _ ≤ 6012; omega)⟩ (Nat.le_of_ble_eq_true rfl) ?_
                        refine v_istore E dL_acts_538 (by decide) rfl ?_
                        refine v_iload E dL_acts_540 1 rfl ?_
                        refine n_if_eq E dL_acts_542 (by omega) (tgt := 567) (by decide) (fun c542 => ?_) (fun c542 => ?_)
                        · exact absurd c542 (by omega)
                        · refine v_iload E dL_acts_545 0 rfl ?_
                          refine v_aload_n E dL_acts_547 9 rfl rfl ?_
                          refine v_iload E dL_acts_548 4 rfl ?_
                          refine x_cSn E hA hTx dL_acts_550 (l_candidates0 l D cI cZ cQ cJ a ((stri S (t) (c) (o))) (zOK_tri hok ht hco ho) hl (wA cI bx (z_U S) (z_C S) (z_D S) (upd (g9 S) (t) (nI (c))) (va_up (z_B S) (t) (o)) (f9 S) qf (n9 (z_no S) (z_li S) (z_wi S) (z_bu S) (z_qn S))) t ht hTo) (vx_cwSW 2 E.2.2.2.1 gL_acts_L_candidates rfl rfl rfl (by decide +kernel) ⟨Nat.le_of_ble_eq_true rfl, Nat.le_of_ble_eq_true rfl⟩) rfl rfl ⟨(by show _ ≤ 1002; omega), (by show _ ≤ 6012; omega)⟩ (Nat.le_of_ble_eq_true rfl) ?_
                          refine v_cSi' E dL_acts_553 (x_L_many l D cI cZ cQ cJ (msk (cnd ((stri S (t) (c) (o))) (t)) (z_B ((stri S (t) (c) (o))) (t) + 1)) (Nat.lt_trans (msk_lt62 _ (by omega)) (by decide))) (va_cwS 1 E.2.2.2.1 gL_acts_L_many rfl rfl rfl (by decide +kernel) ⟨Nat.le_of_ble_eq_true rfl, Nat.le_of_ble_eq_true rfl⟩) (fun _ _ => v_nil _) rfl rfl ⟨(by show _ ≤ 1002; omega), (by show _ ≤ 6012; omega)⟩ (Nat.le_of_ble_eq_true rfl) ?_
                          refine v_top (y := nI (zcc (stri S t c o) t)) (congrArg nI (po9_msk (by omega))) ?_
                          refine v_icmp_ne E dL_acts_556 (tgt := 563) (by decide) (fun c556 => ?_) (fun c556 => ?_)
                          · exact absurd rfl c556
                          · refine v_iconst E dL_acts_559 (v := nI 1) rfl ?_
                            refine v_goto E dL_acts_560 (tgt := 579) (by decide) ?_
                            exact y_retz E hr rfl rfl rfl (w_tri ht (wX cI cZ cQ a)) (by omega) (by omega) dL_acts_579
              · exact absurd c321 (by omega)
            · exact absurd c230 (by omega)
          · exact absurd c151 (by omega)
      · exact absurd c80 (by omega)
  refine n_if_ne E dL_acts_51 (by omega) (tgt := 69) (by decide) (fun c51 => ?_) (fun c51 => ?_)
  · refine v_iconst E dL_acts_69 (v := nI 0) rfl ?_
    refine v_top (y := nI ((if lo9 (u1 >>> (nI (8) &&& 31)) % 3 = 0 then 2 ^ (lo9 (u1 >>> (nI (10) &&& 31)) % 16) else 0))) (by rw [if_neg (by omega)]) ?_
    exact J70_1
  · refine v_iconst E dL_acts_54 (v := nI 1) rfl ?_
    refine v_iload E dL_acts_55 13 rfl ?_
    refine v_bipush E dL_acts_57 (v := nI 10) rfl ?_
    refine v_ishr E dL_acts_59 (z := ((u1 >>> (nI (10) &&& 31)))) rfl ?_
    refine v_bipush E dL_acts_60 (v := nI 16) rfl ?_
    refine v_cSi' E dL_acts_62 (x_L_low l D cI cZ cQ cJ (((u1 >>> (nI (10) &&& 31)))) (16) (by omega) (by omega)) (va_cwS 2 E.2.2.2.1 gL_acts_L_low rfl rfl rfl (by decide +kernel) ⟨Nat.le_of_ble_eq_true rfl, Nat.le_of_ble_eq_true rfl⟩) (fun _ _ => v_nil _) rfl rfl ⟨(by show _ ≤ 1002; omega), (by show _ ≤ 6012; omega)⟩ (Nat.le_of_ble_eq_true rfl) ?_
    refine v_ishl E dL_acts_65 (n_shl1 (by omega)) ?_
    refine v_goto E dL_acts_66 (tgt := 70) (by decide) ?_
    refine v_top (y := nI ((if lo9 (u1 >>> (nI (8) &&& 31)) % 3 = 0 then 2 ^ (lo9 (u1 >>> (nI (10) &&& 31)) % 16) else 0))) (by rw [if_pos c51]) ?_
    exact J70_1
set_option maxHeartbeats 8000000 in
set_option maxRecDepth 100000 in
theorem z_acts_E2 (l : Launch) (D : va_G) (cI cZ cQ cJ : ClassId) (a bx : Nat → Nat) (S : zS) (hok : zOK S) (hl : l.stackTraces = false) (qf : Nat → Nat) (u0 u1 : Int32) (kd v : Nat) (t c : Nat) (o : Nat) (ekd : lo9 u0 % 24 = kd) (est : st9 u1 = v)(et : lo9 (u0 >>> (nI (5) &&& 31)) % z_nt S = t) (ec : lo9 u1 % z_nc S = c) (hnt : 0 < z_nt S) (hnc : 0 < z_nc S)(hkd6 : 8 ≤ kd ∧ kd < 10) (eo : lo9 (u1 >>> (nI (9) &&& 31)) % z_nc S = o)(hco : ¬ c < o) : v_Thr l yL_acts wsL_acts { frames := 10, cells := 1002, slots := 6012, locals := 193 } D (wTy cI cZ cQ cJ) [.ref (a 0), .ref (bx 0), .ref (bx 1), .ref (bx 2), .ref (bx 3), .ref (bx 4), .ref (bx 5), .ref (bx 6), .ref (bx 7), .int (u0), .int (u1)] ((wA cI bx (z_U S) (z_C S) (z_D S) (g9 S) (z_B S) (f9 S) qf (n9 (z_no S) (z_li S) (z_wi S) (z_bu S) (z_qn S))) ++ wX cI cZ cQ a S) 0 exI (some (.int (nI 1))) ((wA cI bx (z_U S) (z_C S) (z_D S) (g9 S) (z_B S) (f9 S) qf (n9 (z_no S) (z_li S) (z_wi S) (z_bu S) (z_qn S))) ++ wX cI cZ cQ a S) 1002 6012 := by
  refine v_thrower (cc := cL_acts) (maxL := 20) (ret := (some .boolean)) (own := RL) (lv0 := [(0, .ref (a 0)), (1, .ref (bx 0)), (2, .ref (bx 1)), (3, .ref (bx 2)), (4, .ref (bx 3)), (5, .ref (bx 4)), (6, .ref (bx 5)), (7, .ref (bx 6)), (8, .ref (bx 7)), (9, .int (u0)), (10, .int (u1))]) (by decide) rfl rfl (Nat.le_of_ble_eq_true rfl) rfl ?_
  intro p9 e9 s9 m9 as9 bl9 me9 cd9 A E hA htab hTx hr
  have hn1 := hok.1.1
  have hn2 := hok.1.2.1
  have hkd : kd < 24 := by rw [← ekd]; exact Nat.mod_lt _ (by decide)
  have hv : v < 65536 := by rw [← est]; exact st9_lt u1
  have hqn := zqn_le hok
  have ht : t < z_nt S := by rw [← et]; exact Nat.mod_lt _ hnt
  have hc : c < z_nc S := by rw [← ec]; exact Nat.mod_lt _ hnc
  have ho : o < z_nc S := by rw [← eo]; exact Nat.mod_lt _ hnc
  refine v_iload E dL_acts_0 9 rfl ?_
  refine v_bipush E dL_acts_2 (v := nI 24) rfl ?_
  refine v_cSi' E dL_acts_4 (x_L_low l D cI cZ cQ cJ ((u0)) (24) (by omega) (by omega)) (va_cwS 2 E.2.2.2.1 gL_acts_L_low rfl rfl rfl (by decide +kernel) ⟨Nat.le_of_ble_eq_true rfl, Nat.le_of_ble_eq_true rfl⟩) (fun _ _ => v_nil _) rfl rfl ⟨(by show _ ≤ 1002; omega), (by show _ ≤ 6012; omega)⟩ (Nat.le_of_ble_eq_true rfl) ?_
  refine v_top (y := nI (kd)) (congrArg nI ekd) ?_
  refine v_istore E dL_acts_7 (by decide) rfl ?_
  refine v_aload_n E dL_acts_9 1 rfl rfl ?_
  refine v_cVi' E dL_acts_10 (x_X1_tests l D cI cZ cQ cJ a S hok) (cwV 0 E.2.2.2.1 gL_acts_X1_tests rfl rfl rfl (by decide +kernel) ⟨Nat.le_of_ble_eq_true rfl, Nat.le_of_ble_eq_true rfl⟩) 8 rfl rfl rfl (fun H h => subR H h) rfl rfl ⟨(by show _ ≤ 1002; omega), (by show _ ≤ 6012; omega)⟩ (Nat.le_of_ble_eq_true rfl) ?_
  refine v_istore E dL_acts_13 (by decide) rfl ?_
  refine v_aload_n E dL_acts_15 2 rfl rfl ?_
  refine v_cVi' E dL_acts_16 (x_X1_commits l D cI cZ cQ cJ a S hok) (cwV 0 E.2.2.2.1 gL_acts_X1_commits rfl rfl rfl (by decide +kernel) ⟨Nat.le_of_ble_eq_true rfl, Nat.le_of_ble_eq_true rfl⟩) 8 rfl rfl rfl (fun H h => subR H h) rfl rfl ⟨(by show _ ≤ 1002; omega), (by show _ ≤ 6012; omega)⟩ (Nat.le_of_ble_eq_true rfl) ?_
  refine v_istore E dL_acts_19 (by decide) rfl ?_
  refine v_iconst E dL_acts_21 (v := nI 1) rfl ?_
  refine v_iload E dL_acts_22 13 rfl ?_
  refine v_bipush E dL_acts_24 (v := nI 16) rfl ?_
  refine v_cSi' E dL_acts_26 (x_L_low l D cI cZ cQ cJ ((u1)) (16) (by omega) (by omega)) (va_cwS 2 E.2.2.2.1 gL_acts_L_low rfl rfl rfl (by decide +kernel) ⟨Nat.le_of_ble_eq_true rfl, Nat.le_of_ble_eq_true rfl⟩) (fun _ _ => v_nil _) rfl rfl ⟨(by show _ ≤ 1002; omega), (by show _ ≤ 6012; omega)⟩ (Nat.le_of_ble_eq_true rfl) ?_
  refine v_ishl E dL_acts_29 (n_shl1 (by omega)) ?_
  refine v_iconst E dL_acts_30 (v := nI 1) rfl ?_
  refine v_iload E dL_acts_31 13 rfl ?_
  refine v_iconst E dL_acts_33 (v := nI 4) rfl ?_
  refine v_ishr E dL_acts_34 (z := ((u1 >>> (nI (4) &&& 31)))) rfl ?_
  refine v_bipush E dL_acts_35 (v := nI 6) rfl ?_
  refine v_cSi' E dL_acts_37 (x_L_low l D cI cZ cQ cJ (((u1 >>> (nI (4) &&& 31)))) (6) (by omega) (by omega)) (va_cwS 2 E.2.2.2.1 gL_acts_L_low rfl rfl rfl (by decide +kernel) ⟨Nat.le_of_ble_eq_true rfl, Nat.le_of_ble_eq_true rfl⟩) (fun _ _ => v_nil _) rfl rfl ⟨(by show _ ≤ 1002; omega), (by show _ ≤ 6012; omega)⟩ (Nat.le_of_ble_eq_true rfl) ?_
  refine v_ishl E dL_acts_40 (n_shl1 (by omega)) ?_
  refine v_ior E dL_acts_41 (nx_or _ _) ?_
  refine v_iload E dL_acts_42 13 rfl ?_
  refine v_bipush E dL_acts_44 (v := nI 8) rfl ?_
  refine v_ishr E dL_acts_46 (z := ((u1 >>> (nI (8) &&& 31)))) rfl ?_
  refine v_iconst E dL_acts_47 (v := nI 3) rfl ?_
  refine v_cSi' E dL_acts_48 (x_L_low l D cI cZ cQ cJ (((u1 >>> (nI (8) &&& 31)))) (3) (by omega) (by omega)) (va_cwS 2 E.2.2.2.1 gL_acts_L_low rfl rfl rfl (by decide +kernel) ⟨Nat.le_of_ble_eq_true rfl, Nat.le_of_ble_eq_true rfl⟩) (fun _ _ => v_nil _) rfl rfl ⟨(by show _ ≤ 1002; omega), (by show _ ≤ 6012; omega)⟩ (Nat.le_of_ble_eq_true rfl) ?_
  have J70_1 : V p9 l e9 (headSpec wsL_acts { frames := 10, cells := 1002, slots := 6012, locals := 193 }).room s9 m9 as9 bl9 me9 cd9 (0) (0) (vx_MQ bl9 (v_Qo D (wTy cI cZ cQ cJ) (0 = 0) (some (.int (nI 1))) ((wA cI bx (z_U S) (z_C S) (z_D S) (g9 S) (z_B S) (f9 S) qf (n9 (z_no S) (z_li S) (z_wi S) (z_bu S) (z_qn S))) ++ wX cI cZ cQ a S) A) (v_XC D (wTy cI cZ cQ cJ) 0 exI ((wA cI bx (z_U S) (z_C S) (z_D S) (g9 S) (z_B S) (f9 S) qf (n9 (z_no S) (z_li S) (z_wi S) (z_bu S) (z_qn S))) ++ wX cI cZ cQ a S) A) as9 s9 1002 6012 A) (v_rw D A s9) 20 70 [(13, .int (nI (z_nc S))), (12, .int (nI (z_nt S))), (11, .int (nI (kd))), (0, .ref (a 0)), (1, .ref (bx 0)), (2, .ref (bx 1)), (3, .ref (bx 2)), (4, .ref (bx 3)), (5, .ref (bx 4)), (6, .ref (bx 5)), (7, .ref (bx 6)), (8, .ref (bx 7)), (9, .int (u0)), (10, .int (u1))] [.int (nI ((if lo9 (u1 >>> (nI (8) &&& 31)) % 3 = 0 then 2 ^ (lo9 (u1 >>> (nI (10) &&& 31)) % 16) else 0))), .int (nI ((2 ^ (lo9 ((u1)) % 16)) ||| (2 ^ (lo9 (((u1 >>> (nI (4) &&& 31)))) % 6))))] ((wA cI bx (z_U S) (z_C S) (z_D S) (g9 S) (z_B S) (f9 S) qf (n9 (z_no S) (z_li S) (z_wi S) (z_bu S) (z_qn S))) ++ wX cI cZ cQ a S) := by
    refine v_ior E dL_acts_70 (nx_or _ _) ?_
    refine v_top (y := nI (v)) (congrArg nI est) ?_
    refine v_istore E dL_acts_71 (by decide) rfl ?_
    refine v_iload E dL_acts_73 3 rfl ?_
    refine n_if_eq E dL_acts_75 (by omega) (tgt := 83) (by decide) (fun c75 => ?_) (fun c75 => ?_)
    · exact absurd c75 (by omega)
    · refine v_iload E dL_acts_78 2 rfl ?_
      refine n_if_ne E dL_acts_80 (by omega) (tgt := 142) (by decide) (fun c80 => ?_) (fun c80 => ?_)
      · refine v_iload E dL_acts_142 3 rfl ?_
        refine v_bipush E dL_acts_144 (v := nI 6) rfl ?_
        refine n_icmp_lt E dL_acts_146 (by omega) (by omega) (tgt := 154) (by decide) (fun c146 => ?_) (fun c146 => ?_)
        · exact absurd c146 (by omega)
        · refine v_iload E dL_acts_149 1 rfl ?_
          refine n_if_ne E dL_acts_151 (by omega) (tgt := 206) (by decide) (fun c151 => ?_) (fun c151 => ?_)
          · refine v_iload E dL_acts_206 13 rfl ?_
            refine v_iconst E dL_acts_208 (v := nI 5) rfl ?_
            refine v_ishr E dL_acts_209 (z := ((u0 >>> (nI (5) &&& 31)))) rfl ?_
            refine v_iload E dL_acts_210 2 rfl ?_
            refine v_cSi' E dL_acts_212 (x_L_low l D cI cZ cQ cJ (((u0 >>> (nI (5) &&& 31)))) (z_nt S) (by omega) (by omega)) (va_cwS 2 E.2.2.2.1 gL_acts_L_low rfl rfl rfl (by decide +kernel) ⟨Nat.le_of_ble_eq_true rfl, Nat.le_of_ble_eq_true rfl⟩) (fun _ _ => v_nil _) rfl rfl ⟨(by show _ ≤ 1002; omega), (by show _ ≤ 6012; omega)⟩ (Nat.le_of_ble_eq_true rfl) ?_
            refine v_top (y := nI (t)) (congrArg nI et) ?_
            refine v_istore E dL_acts_215 (by decide) rfl ?_
            refine v_iload E dL_acts_217 15 rfl ?_
            refine v_iload E dL_acts_219 2 rfl ?_
            refine v_cSi' E dL_acts_221 (x_L_low l D cI cZ cQ cJ ((u1)) (z_nc S) (by omega) (by omega)) (va_cwS 2 E.2.2.2.1 gL_acts_L_low rfl rfl rfl (by decide +kernel) ⟨Nat.le_of_ble_eq_true rfl, Nat.le_of_ble_eq_true rfl⟩) (fun _ _ => v_nil _) rfl rfl ⟨(by show _ ≤ 1002; omega), (by show _ ≤ 6012; omega)⟩ (Nat.le_of_ble_eq_true rfl) ?_
            refine v_top (y := nI (c)) (congrArg nI ec) ?_
            refine v_istore E dL_acts_224 (by decide) rfl ?_
            refine v_iload E dL_acts_226 5 rfl ?_
            refine v_bipush E dL_acts_228 (v := nI 6) rfl ?_
            refine n_icmp_ne E dL_acts_230 (by omega) (by omega) (tgt := 317) (by decide) (fun c230 => ?_) (fun c230 => ?_)
            · refine v_iload E dL_acts_317 5 rfl ?_
              refine v_bipush E dL_acts_319 (v := nI 7) rfl ?_
              refine n_icmp_ne E dL_acts_321 (by omega) (by omega) (tgt := 455) (by decide) (fun c321 => ?_) (fun c321 => ?_)
              · refine v_iload E dL_acts_455 5 rfl ?_
                refine v_bipush E dL_acts_457 (v := nI 10) rfl ?_
                refine n_icmp_ge E dL_acts_459 (by omega) (by omega) (tgt := 580) (by decide) (fun c459 => ?_) (fun c459 => ?_)
                · exact absurd c459 (by omega)
                · refine v_iload E dL_acts_462 16 rfl ?_
                  refine v_bipush E dL_acts_464 (v := nI 9) rfl ?_
                  refine v_ishr E dL_acts_466 (z := ((u1 >>> (nI (9) &&& 31)))) rfl ?_
                  refine v_iload E dL_acts_467 3 rfl ?_
                  refine v_cSi' E dL_acts_469 (x_L_low l D cI cZ cQ cJ (((u1 >>> (nI (9) &&& 31)))) (z_nc S) (by omega) (by omega)) (va_cwS 2 E.2.2.2.1 gL_acts_L_low rfl rfl rfl (by decide +kernel) ⟨Nat.le_of_ble_eq_true rfl, Nat.le_of_ble_eq_true rfl⟩) (fun _ _ => v_nil _) rfl rfl ⟨(by show _ ≤ 1002; omega), (by show _ ≤ 6012; omega)⟩ (Nat.le_of_ble_eq_true rfl) ?_
                  refine v_top (y := nI (o)) (congrArg nI eo) ?_
                  refine v_istore E dL_acts_472 (by decide) rfl ?_
                  refine v_iload E dL_acts_474 0 rfl ?_
                  refine v_iload E dL_acts_476 1 rfl ?_
                  refine n_icmp_le E dL_acts_478 (by omega) (by omega) (tgt := 485) (by decide) (fun c478 => ?_) (fun c478 => ?_)
                  · refine v_iconst E dL_acts_485 (v := nI 0) rfl ?_
                    refine v_istore E dL_acts_486 (by decide) rfl ?_
                    refine v_aload E dL_acts_488 12 rfl ?_
                    refine v_iload E dL_acts_490 3 rfl ?_
                    refine v_iload E dL_acts_492 0 rfl ?_
                    refine n_if_eq E dL_acts_494 (by omega) (tgt := 502) (by decide) (fun c494 => ?_) (fun c494 => ?_)
                    · refine v_aload E dL_acts_502 12 rfl ?_
                      refine v_iload E dL_acts_504 3 rfl ?_
                      refine v_iald E dL_acts_506 (v := ((g9 S t))) 3 0 rfl rfl (by omega) (by decide) rfl ?_
                      refine v_iast E dL_acts_507 3 0 rfl rfl (by omega) (by decide) (w' := ((wA cI bx (z_U S) (z_C S) (z_D S) (g9 S) (z_B S) (f9 S) qf (n9 (z_no S) (z_li S) (z_wi S) (z_bu S) (z_qn S))) ++ wX cI cZ cQ a S)) ((wA_g _ _).trans (by rw [upd_same])) ?_
                      refine v_aload E dL_acts_508 13 rfl ?_
                      refine v_iload E dL_acts_510 3 rfl ?_
                      refine v_iload E dL_acts_512 0 rfl ?_
                      refine n_if_eq E dL_acts_514 (by omega) (tgt := 522) (by decide) (fun c514 => ?_) (fun c514 => ?_)
                      · refine v_aload E dL_acts_522 13 rfl ?_
                        refine v_iload E dL_acts_524 3 rfl ?_
                        refine v_iald E dL_acts_526 (v := nI (z_B S t)) 4 0 rfl rfl (by omega) (by decide) rfl ?_
                        refine v_iast E dL_acts_527 4 0 rfl rfl (by omega) (by decide) (w' := ((wA cI bx (z_U S) (z_C S) (z_D S) (g9 S) (z_B S) (f9 S) qf (n9 (z_no S) (z_li S) (z_wi S) (z_bu S) (z_qn S))) ++ wX cI cZ cQ a S)) ((wA_b _ _).trans (by rw [up_same])) ?_
                        refine v_aload_n E dL_acts_528 8 rfl rfl ?_
                        refine v_iload E dL_acts_529 3 rfl ?_
                        refine v_iload E dL_acts_531 2 rfl ?_
                        refine v_iload E dL_acts_533 1 rfl ?_
                        refine x_cSn E hA hTx dL_acts_535 (l_triageF l D cI cZ cQ cJ a S hok hl (wA cI bx (z_U S) (z_C S) (z_D S) (g9 S) (z_B S) (f9 S) qf (n9 (z_no S) (z_li S) (z_wi S) (z_bu S) (z_qn S))) t c o ht hc ho hco) (vx_cwSW 4 E.2.2.2.1 gL_acts_L_triage rfl rfl rfl (by decide +kernel) ⟨Nat.le_of_ble_eq_true rfl, Nat.le_of_ble_eq_true rfl⟩) rfl rfl ⟨(by show _ ≤ 1002; omega), (by show _ ≤ 6012; omega)⟩ (Nat.le_of_ble_eq_true rfl) ?_
                        refine v_istore E dL_acts_538 (by decide) rfl ?_
                        refine v_iload E dL_acts_540 1 rfl ?_
                        refine n_if_eq E dL_acts_542 (by omega) (tgt := 567) (by decide) (fun c542 => ?_) (fun c542 => ?_)
                        · refine v_iload E dL_acts_567 0 rfl ?_
                          refine v_ldc E dL_acts_569 (v := -1000002) (x := (-1000002)) (by decide +kernel) rfl ?_
                          refine v_icmp_ne E dL_acts_571 (tgt := 578) (by decide) (fun c571 => ?_) (fun c571 => ?_)
                          · exact absurd rfl c571
                          · refine v_iconst E dL_acts_574 (v := nI 1) rfl ?_
                            refine v_goto E dL_acts_575 (tgt := 579) (by decide) ?_
                            exact y_retz E hr rfl rfl rfl rfl (by omega) (by omega) dL_acts_579
                        · exact absurd c542 (by omega)
                      · exact absurd c514 (by omega)
                    · exact absurd c494 (by omega)
                  · exact absurd c478 (by omega)
              · exact absurd c321 (by omega)
            · exact absurd c230 (by omega)
          · exact absurd c151 (by omega)
      · exact absurd c80 (by omega)
  refine n_if_ne E dL_acts_51 (by omega) (tgt := 69) (by decide) (fun c51 => ?_) (fun c51 => ?_)
  · refine v_iconst E dL_acts_69 (v := nI 0) rfl ?_
    refine v_top (y := nI ((if lo9 (u1 >>> (nI (8) &&& 31)) % 3 = 0 then 2 ^ (lo9 (u1 >>> (nI (10) &&& 31)) % 16) else 0))) (by rw [if_neg (by omega)]) ?_
    exact J70_1
  · refine v_iconst E dL_acts_54 (v := nI 1) rfl ?_
    refine v_iload E dL_acts_55 13 rfl ?_
    refine v_bipush E dL_acts_57 (v := nI 10) rfl ?_
    refine v_ishr E dL_acts_59 (z := ((u1 >>> (nI (10) &&& 31)))) rfl ?_
    refine v_bipush E dL_acts_60 (v := nI 16) rfl ?_
    refine v_cSi' E dL_acts_62 (x_L_low l D cI cZ cQ cJ (((u1 >>> (nI (10) &&& 31)))) (16) (by omega) (by omega)) (va_cwS 2 E.2.2.2.1 gL_acts_L_low rfl rfl rfl (by decide +kernel) ⟨Nat.le_of_ble_eq_true rfl, Nat.le_of_ble_eq_true rfl⟩) (fun _ _ => v_nil _) rfl rfl ⟨(by show _ ≤ 1002; omega), (by show _ ≤ 6012; omega)⟩ (Nat.le_of_ble_eq_true rfl) ?_
    refine v_ishl E dL_acts_65 (n_shl1 (by omega)) ?_
    refine v_goto E dL_acts_66 (tgt := 70) (by decide) ?_
    refine v_top (y := nI ((if lo9 (u1 >>> (nI (8) &&& 31)) % 3 = 0 then 2 ^ (lo9 (u1 >>> (nI (10) &&& 31)) % 16) else 0))) (by rw [if_pos c51]) ?_
    exact J70_1
set_option maxHeartbeats 8000000 in
set_option maxRecDepth 100000 in
theorem z_acts_F1 (l : Launch) (D : va_G) (cI cZ cQ cJ : ClassId) (a bx : Nat → Nat) (S : zS) (hok : zOK S) (hl : l.stackTraces = false) (qf : Nat → Nat) (u0 u1 : Int32) (kd v : Nat) (t c : Nat) (ekd : lo9 u0 % 24 = kd) (est : st9 u1 = v)(et : lo9 (u0 >>> (nI (5) &&& 31)) % z_nt S = t) (ec : lo9 u1 % z_nc S = c) (hnt : 0 < z_nt S) (hnc : 0 < z_nc S)(hkd6 : kd = 10) (hT : z_T S t = false) : v_Thr l yL_acts wsL_acts { frames := 10, cells := 1002, slots := 6012, locals := 193 } D (wTy cI cZ cQ cJ) [.ref (a 0), .ref (bx 0), .ref (bx 1), .ref (bx 2), .ref (bx 3), .ref (bx 4), .ref (bx 5), .ref (bx 6), .ref (bx 7), .int (u0), .int (u1)] ((wA cI bx (z_U S) (z_C S) (z_D S) (g9 S) (z_B S) (f9 S) qf (n9 (z_no S) (z_li S) (z_wi S) (z_bu S) (z_qn S))) ++ wX cI cZ cQ a S) 0 exI (some (.int (nI 1))) ((wA cI bx (z_U S) (z_C S) (z_D S) (g9 S) (z_B S) (f9 S) qf (n9 (z_no S) (z_li S) (z_wi S) (z_bu S) (z_qn S))) ++ wX cI cZ cQ a S) 1002 6012 := by
  refine v_thrower (cc := cL_acts) (maxL := 20) (ret := (some .boolean)) (own := RL) (lv0 := [(0, .ref (a 0)), (1, .ref (bx 0)), (2, .ref (bx 1)), (3, .ref (bx 2)), (4, .ref (bx 3)), (5, .ref (bx 4)), (6, .ref (bx 5)), (7, .ref (bx 6)), (8, .ref (bx 7)), (9, .int (u0)), (10, .int (u1))]) (by decide) rfl rfl (Nat.le_of_ble_eq_true rfl) rfl ?_
  intro p9 e9 s9 m9 as9 bl9 me9 cd9 A E hA htab hTx hr
  have hn1 := hok.1.1
  have hn2 := hok.1.2.1
  have hkd : kd < 24 := by rw [← ekd]; exact Nat.mod_lt _ (by decide)
  have hv : v < 65536 := by rw [← est]; exact st9_lt u1
  have hqn := zqn_le hok
  have ht : t < z_nt S := by rw [← et]; exact Nat.mod_lt _ hnt
  have hc : c < z_nc S := by rw [← ec]; exact Nat.mod_lt _ hnc
  refine v_iload E dL_acts_0 9 rfl ?_
  refine v_bipush E dL_acts_2 (v := nI 24) rfl ?_
  refine v_cSi' E dL_acts_4 (x_L_low l D cI cZ cQ cJ ((u0)) (24) (by omega) (by omega)) (va_cwS 2 E.2.2.2.1 gL_acts_L_low rfl rfl rfl (by decide +kernel) ⟨Nat.le_of_ble_eq_true rfl, Nat.le_of_ble_eq_true rfl⟩) (fun _ _ => v_nil _) rfl rfl ⟨(by show _ ≤ 1002; omega), (by show _ ≤ 6012; omega)⟩ (Nat.le_of_ble_eq_true rfl) ?_
  refine v_top (y := nI (kd)) (congrArg nI ekd) ?_
  refine v_istore E dL_acts_7 (by decide) rfl ?_
  refine v_aload_n E dL_acts_9 1 rfl rfl ?_
  refine v_cVi' E dL_acts_10 (x_X1_tests l D cI cZ cQ cJ a S hok) (cwV 0 E.2.2.2.1 gL_acts_X1_tests rfl rfl rfl (by decide +kernel) ⟨Nat.le_of_ble_eq_true rfl, Nat.le_of_ble_eq_true rfl⟩) 8 rfl rfl rfl (fun H h => subR H h) rfl rfl ⟨(by show _ ≤ 1002; omega), (by show _ ≤ 6012; omega)⟩ (Nat.le_of_ble_eq_true rfl) ?_
  refine v_istore E dL_acts_13 (by decide) rfl ?_
  refine v_aload_n E dL_acts_15 2 rfl rfl ?_
  refine v_cVi' E dL_acts_16 (x_X1_commits l D cI cZ cQ cJ a S hok) (cwV 0 E.2.2.2.1 gL_acts_X1_commits rfl rfl rfl (by decide +kernel) ⟨Nat.le_of_ble_eq_true rfl, Nat.le_of_ble_eq_true rfl⟩) 8 rfl rfl rfl (fun H h => subR H h) rfl rfl ⟨(by show _ ≤ 1002; omega), (by show _ ≤ 6012; omega)⟩ (Nat.le_of_ble_eq_true rfl) ?_
  refine v_istore E dL_acts_19 (by decide) rfl ?_
  refine v_iconst E dL_acts_21 (v := nI 1) rfl ?_
  refine v_iload E dL_acts_22 13 rfl ?_
  refine v_bipush E dL_acts_24 (v := nI 16) rfl ?_
  refine v_cSi' E dL_acts_26 (x_L_low l D cI cZ cQ cJ ((u1)) (16) (by omega) (by omega)) (va_cwS 2 E.2.2.2.1 gL_acts_L_low rfl rfl rfl (by decide +kernel) ⟨Nat.le_of_ble_eq_true rfl, Nat.le_of_ble_eq_true rfl⟩) (fun _ _ => v_nil _) rfl rfl ⟨(by show _ ≤ 1002; omega), (by show _ ≤ 6012; omega)⟩ (Nat.le_of_ble_eq_true rfl) ?_
  refine v_ishl E dL_acts_29 (n_shl1 (by omega)) ?_
  refine v_iconst E dL_acts_30 (v := nI 1) rfl ?_
  refine v_iload E dL_acts_31 13 rfl ?_
  refine v_iconst E dL_acts_33 (v := nI 4) rfl ?_
  refine v_ishr E dL_acts_34 (z := ((u1 >>> (nI (4) &&& 31)))) rfl ?_
  refine v_bipush E dL_acts_35 (v := nI 6) rfl ?_
  refine v_cSi' E dL_acts_37 (x_L_low l D cI cZ cQ cJ (((u1 >>> (nI (4) &&& 31)))) (6) (by omega) (by omega)) (va_cwS 2 E.2.2.2.1 gL_acts_L_low rfl rfl rfl (by decide +kernel) ⟨Nat.le_of_ble_eq_true rfl, Nat.le_of_ble_eq_true rfl⟩) (fun _ _ => v_nil _) rfl rfl ⟨(by show _ ≤ 1002; omega), (by show _ ≤ 6012; omega)⟩ (Nat.le_of_ble_eq_true rfl) ?_
  refine v_ishl E dL_acts_40 (n_shl1 (by omega)) ?_
  refine v_ior E dL_acts_41 (nx_or _ _) ?_
  refine v_iload E dL_acts_42 13 rfl ?_
  refine v_bipush E dL_acts_44 (v := nI 8) rfl ?_
  refine v_ishr E dL_acts_46 (z := ((u1 >>> (nI (8) &&& 31)))) rfl ?_
  refine v_iconst E dL_acts_47 (v := nI 3) rfl ?_
  refine v_cSi' E dL_acts_48 (x_L_low l D cI cZ cQ cJ (((u1 >>> (nI (8) &&& 31)))) (3) (by omega) (by omega)) (va_cwS 2 E.2.2.2.1 gL_acts_L_low rfl rfl rfl (by decide +kernel) ⟨Nat.le_of_ble_eq_true rfl, Nat.le_of_ble_eq_true rfl⟩) (fun _ _ => v_nil _) rfl rfl ⟨(by show _ ≤ 1002; omega), (by show _ ≤ 6012; omega)⟩ (Nat.le_of_ble_eq_true rfl) ?_
  have J70_1 : V p9 l e9 (headSpec wsL_acts { frames := 10, cells := 1002, slots := 6012, locals := 193 }).room s9 m9 as9 bl9 me9 cd9 (0) (0) (vx_MQ bl9 (v_Qo D (wTy cI cZ cQ cJ) (0 = 0) (some (.int (nI 1))) ((wA cI bx (z_U S) (z_C S) (z_D S) (g9 S) (z_B S) (f9 S) qf (n9 (z_no S) (z_li S) (z_wi S) (z_bu S) (z_qn S))) ++ wX cI cZ cQ a S) A) (v_XC D (wTy cI cZ cQ cJ) 0 exI ((wA cI bx (z_U S) (z_C S) (z_D S) (g9 S) (z_B S) (f9 S) qf (n9 (z_no S) (z_li S) (z_wi S) (z_bu S) (z_qn S))) ++ wX cI cZ cQ a S) A) as9 s9 1002 6012 A) (v_rw D A s9) 20 70 [(13, .int (nI (z_nc S))), (12, .int (nI (z_nt S))), (11, .int (nI (kd))), (0, .ref (a 0)), (1, .ref (bx 0)), (2, .ref (bx 1)), (3, .ref (bx 2)), (4, .ref (bx 3)), (5, .ref (bx 4)), (6, .ref (bx 5)), (7, .ref (bx 6)), (8, .ref (bx 7)), (9, .int (u0)), (10, .int (u1))] [.int (nI ((if lo9 (u1 >>> (nI (8) &&& 31)) % 3 = 0 then 2 ^ (lo9 (u1 >>> (nI (10) &&& 31)) % 16) else 0))), .int (nI ((2 ^ (lo9 ((u1)) % 16)) ||| (2 ^ (lo9 (((u1 >>> (nI (4) &&& 31)))) % 6))))] ((wA cI bx (z_U S) (z_C S) (z_D S) (g9 S) (z_B S) (f9 S) qf (n9 (z_no S) (z_li S) (z_wi S) (z_bu S) (z_qn S))) ++ wX cI cZ cQ a S) := by
    refine v_ior E dL_acts_70 (nx_or _ _) ?_
    refine v_top (y := nI (v)) (congrArg nI est) ?_
    refine v_istore E dL_acts_71 (by decide) rfl ?_
    refine v_iload E dL_acts_73 3 rfl ?_
    refine n_if_eq E dL_acts_75 (by omega) (tgt := 83) (by decide) (fun c75 => ?_) (fun c75 => ?_)
    · exact absurd c75 (by omega)
    · refine v_iload E dL_acts_78 2 rfl ?_
      refine n_if_ne E dL_acts_80 (by omega) (tgt := 142) (by decide) (fun c80 => ?_) (fun c80 => ?_)
      · refine v_iload E dL_acts_142 3 rfl ?_
        refine v_bipush E dL_acts_144 (v := nI 6) rfl ?_
        refine n_icmp_lt E dL_acts_146 (by omega) (by omega) (tgt := 154) (by decide) (fun c146 => ?_) (fun c146 => ?_)
        · exact absurd c146 (by omega)
        · refine v_iload E dL_acts_149 1 rfl ?_
          refine n_if_ne E dL_acts_151 (by omega) (tgt := 206) (by decide) (fun c151 => ?_) (fun c151 => ?_)
          · refine v_iload E dL_acts_206 13 rfl ?_
            refine v_iconst E dL_acts_208 (v := nI 5) rfl ?_
            refine v_ishr E dL_acts_209 (z := ((u0 >>> (nI (5) &&& 31)))) rfl ?_
            refine v_iload E dL_acts_210 2 rfl ?_
            refine v_cSi' E dL_acts_212 (x_L_low l D cI cZ cQ cJ (((u0 >>> (nI (5) &&& 31)))) (z_nt S) (by omega) (by omega)) (va_cwS 2 E.2.2.2.1 gL_acts_L_low rfl rfl rfl (by decide +kernel) ⟨Nat.le_of_ble_eq_true rfl, Nat.le_of_ble_eq_true rfl⟩) (fun _ _ => v_nil _) rfl rfl ⟨(by show _ ≤ 1002; omega), (by show _ ≤ 6012; omega)⟩ (Nat.le_of_ble_eq_true rfl) ?_
            refine v_top (y := nI (t)) (congrArg nI et) ?_
            refine v_istore E dL_acts_215 (by decide) rfl ?_
            refine v_iload E dL_acts_217 15 rfl ?_
            refine v_iload E dL_acts_219 2 rfl ?_
            refine v_cSi' E dL_acts_221 (x_L_low l D cI cZ cQ cJ ((u1)) (z_nc S) (by omega) (by omega)) (va_cwS 2 E.2.2.2.1 gL_acts_L_low rfl rfl rfl (by decide +kernel) ⟨Nat.le_of_ble_eq_true rfl, Nat.le_of_ble_eq_true rfl⟩) (fun _ _ => v_nil _) rfl rfl ⟨(by show _ ≤ 1002; omega), (by show _ ≤ 6012; omega)⟩ (Nat.le_of_ble_eq_true rfl) ?_
            refine v_top (y := nI (c)) (congrArg nI ec) ?_
            refine v_istore E dL_acts_224 (by decide) rfl ?_
            refine v_iload E dL_acts_226 5 rfl ?_
            refine v_bipush E dL_acts_228 (v := nI 6) rfl ?_
            refine n_icmp_ne E dL_acts_230 (by omega) (by omega) (tgt := 317) (by decide) (fun c230 => ?_) (fun c230 => ?_)
            · refine v_iload E dL_acts_317 5 rfl ?_
              refine v_bipush E dL_acts_319 (v := nI 7) rfl ?_
              refine n_icmp_ne E dL_acts_321 (by omega) (by omega) (tgt := 455) (by decide) (fun c321 => ?_) (fun c321 => ?_)
              · refine v_iload E dL_acts_455 5 rfl ?_
                refine v_bipush E dL_acts_457 (v := nI 10) rfl ?_
                refine n_icmp_ge E dL_acts_459 (by omega) (by omega) (tgt := 580) (by decide) (fun c459 => ?_) (fun c459 => ?_)
                · refine v_iload E dL_acts_580 5 rfl ?_
                  refine v_bipush E dL_acts_582 (v := nI 10) rfl ?_
                  refine n_icmp_ne E dL_acts_584 (by omega) (by omega) (tgt := 627) (by decide) (fun c584 => ?_) (fun c584 => ?_)
                  · exact absurd c584 (by omega)
                  · refine v_aload E dL_acts_587 10 rfl ?_
                    refine v_iload E dL_acts_589 1 rfl ?_
                    refine v_iald E dL_acts_591 (v := ((-1))) 3 0 rfl rfl (by omega) (by decide) (g9_f ht hT) ?_
                    refine v_if_ge E dL_acts_592 (tgt := 614) (by decide) (fun c592 => ?_) (fun c592 => ?_)
                    · exact absurd c592 (by decide)
                    · refine v_aload_n E dL_acts_595 6 rfl rfl ?_
                      refine v_iload E dL_acts_596 1 rfl ?_
                      refine x_cSn E hA hTx dL_acts_598 (l_closeF l D cI cZ cQ cJ a S hok hl (wA cI bx (z_U S) (z_C S) (z_D S) (g9 S) (z_B S) (f9 S) qf (n9 (z_no S) (z_li S) (z_wi S) (z_bu S) (z_qn S))) t ht hT) (vx_cwSW 2 E.2.2.2.1 gL_acts_L_close rfl rfl rfl (by decide +kernel) ⟨Nat.le_of_ble_eq_true rfl, Nat.le_of_ble_eq_true rfl⟩) rfl rfl ⟨(by show _ ≤ 1002; omega), (by show _ ≤ 6012; omega)⟩ (Nat.le_of_ble_eq_true rfl) ?_
                      refine v_ldc E dL_acts_601 (v := -1000003) (x := (-1000003)) (by decide +kernel) rfl ?_
                      refine v_icmp_ne E dL_acts_603 (tgt := 610) (by decide) (fun c603 => ?_) (fun c603 => ?_)
                      · exact absurd rfl c603
                      · refine v_iconst E dL_acts_606 (v := nI 1) rfl ?_
                        refine v_goto E dL_acts_607 (tgt := 626) (by decide) ?_
                        exact y_retz E hr rfl rfl rfl rfl (by omega) (by omega) dL_acts_626
                · exact absurd c459 (by omega)
              · exact absurd c321 (by omega)
            · exact absurd c230 (by omega)
          · exact absurd c151 (by omega)
      · exact absurd c80 (by omega)
  refine n_if_ne E dL_acts_51 (by omega) (tgt := 69) (by decide) (fun c51 => ?_) (fun c51 => ?_)
  · refine v_iconst E dL_acts_69 (v := nI 0) rfl ?_
    refine v_top (y := nI ((if lo9 (u1 >>> (nI (8) &&& 31)) % 3 = 0 then 2 ^ (lo9 (u1 >>> (nI (10) &&& 31)) % 16) else 0))) (by rw [if_neg (by omega)]) ?_
    exact J70_1
  · refine v_iconst E dL_acts_54 (v := nI 1) rfl ?_
    refine v_iload E dL_acts_55 13 rfl ?_
    refine v_bipush E dL_acts_57 (v := nI 10) rfl ?_
    refine v_ishr E dL_acts_59 (z := ((u1 >>> (nI (10) &&& 31)))) rfl ?_
    refine v_bipush E dL_acts_60 (v := nI 16) rfl ?_
    refine v_cSi' E dL_acts_62 (x_L_low l D cI cZ cQ cJ (((u1 >>> (nI (10) &&& 31)))) (16) (by omega) (by omega)) (va_cwS 2 E.2.2.2.1 gL_acts_L_low rfl rfl rfl (by decide +kernel) ⟨Nat.le_of_ble_eq_true rfl, Nat.le_of_ble_eq_true rfl⟩) (fun _ _ => v_nil _) rfl rfl ⟨(by show _ ≤ 1002; omega), (by show _ ≤ 6012; omega)⟩ (Nat.le_of_ble_eq_true rfl) ?_
    refine v_ishl E dL_acts_65 (n_shl1 (by omega)) ?_
    refine v_goto E dL_acts_66 (tgt := 70) (by decide) ?_
    refine v_top (y := nI ((if lo9 (u1 >>> (nI (8) &&& 31)) % 3 = 0 then 2 ^ (lo9 (u1 >>> (nI (10) &&& 31)) % 16) else 0))) (by rw [if_pos c51]) ?_
    exact J70_1
set_option maxHeartbeats 8000000 in
set_option maxRecDepth 100000 in
theorem z_acts_F2 (l : Launch) (D : va_G) (cI cZ cQ cJ : ClassId) (a bx : Nat → Nat) (S : zS) (hok : zOK S) (hl : l.stackTraces = false) (qf : Nat → Nat) (u0 u1 : Int32) (kd v : Nat) (t c : Nat) (ekd : lo9 u0 % 24 = kd) (est : st9 u1 = v)(et : lo9 (u0 >>> (nI (5) &&& 31)) % z_nt S = t) (ec : lo9 u1 % z_nc S = c) (hnt : 0 < z_nt S) (hnc : 0 < z_nc S)(hkd6 : kd = 10) (hT : z_T S t = true) (hq : ∀ i, i < z_qn S → qf i = z_Q S i) : v_Thr l yL_acts wsL_acts { frames := 10, cells := 1002, slots := 6012, locals := 193 } D (wTy cI cZ cQ cJ) [.ref (a 0), .ref (bx 0), .ref (bx 1), .ref (bx 2), .ref (bx 3), .ref (bx 4), .ref (bx 5), .ref (bx 6), .ref (bx 7), .int (u0), .int (u1)] ((wA cI bx (z_U S) (z_C S) (z_D S) (g9 S) (z_B S) (f9 S) qf (n9 (z_no S) (z_li S) (z_wi S) (z_bu S) (z_qn S))) ++ wX cI cZ cQ a S) 0 exI (some (.int (nI 1))) ((wA cI bx (z_U ((sclo S t))) (z_C ((sclo S t))) (z_D ((sclo S t))) (g9 ((sclo S t))) (z_B ((sclo S t))) (f9 ((sclo S t))) (cq9 qf (plc (z_Q S) (z_qn S) t) (z_qn S)) (n9 (z_no ((sclo S t))) (z_li ((sclo S t))) (z_wi ((sclo S t))) (z_bu ((sclo S t))) (z_qn ((sclo S t))))) ++ wX cI cZ cQ a ((sclo S t))) 1002 6012 := by
  refine v_thrower (cc := cL_acts) (maxL := 20) (ret := (some .boolean)) (own := RL) (lv0 := [(0, .ref (a 0)), (1, .ref (bx 0)), (2, .ref (bx 1)), (3, .ref (bx 2)), (4, .ref (bx 3)), (5, .ref (bx 4)), (6, .ref (bx 5)), (7, .ref (bx 6)), (8, .ref (bx 7)), (9, .int (u0)), (10, .int (u1))]) (by decide) rfl rfl (Nat.le_of_ble_eq_true rfl) rfl ?_
  intro p9 e9 s9 m9 as9 bl9 me9 cd9 A E hA htab hTx hr
  have hn1 := hok.1.1
  have hn2 := hok.1.2.1
  have hkd : kd < 24 := by rw [← ekd]; exact Nat.mod_lt _ (by decide)
  have hv : v < 65536 := by rw [← est]; exact st9_lt u1
  have hqn := zqn_le hok
  have ht : t < z_nt S := by rw [← et]; exact Nat.mod_lt _ hnt
  have hc : c < z_nc S := by rw [← ec]; exact Nat.mod_lt _ hnc
  obtain ⟨hT1, hT2, hT3⟩ := hok.2.2.1 t hT
  refine v_iload E dL_acts_0 9 rfl ?_
  refine v_bipush E dL_acts_2 (v := nI 24) rfl ?_
  refine v_cSi' E dL_acts_4 (x_L_low l D cI cZ cQ cJ ((u0)) (24) (by omega) (by omega)) (va_cwS 2 E.2.2.2.1 gL_acts_L_low rfl rfl rfl (by decide +kernel) ⟨Nat.le_of_ble_eq_true rfl, Nat.le_of_ble_eq_true rfl⟩) (fun _ _ => v_nil _) rfl rfl ⟨(by show _ ≤ 1002; omega), (by show _ ≤ 6012; omega)⟩ (Nat.le_of_ble_eq_true rfl) ?_
  refine v_top (y := nI (kd)) (congrArg nI ekd) ?_
  refine v_istore E dL_acts_7 (by decide) rfl ?_
  refine v_aload_n E dL_acts_9 1 rfl rfl ?_
  refine v_cVi' E dL_acts_10 (x_X1_tests l D cI cZ cQ cJ a S hok) (cwV 0 E.2.2.2.1 gL_acts_X1_tests rfl rfl rfl (by decide +kernel) ⟨Nat.le_of_ble_eq_true rfl, Nat.le_of_ble_eq_true rfl⟩) 8 rfl rfl rfl (fun H h => subR H h) rfl rfl ⟨(by show _ ≤ 1002; omega), (by show _ ≤ 6012; omega)⟩ (Nat.le_of_ble_eq_true rfl) ?_
  refine v_istore E dL_acts_13 (by decide) rfl ?_
  refine v_aload_n E dL_acts_15 2 rfl rfl ?_
  refine v_cVi' E dL_acts_16 (x_X1_commits l D cI cZ cQ cJ a S hok) (cwV 0 E.2.2.2.1 gL_acts_X1_commits rfl rfl rfl (by decide +kernel) ⟨Nat.le_of_ble_eq_true rfl, Nat.le_of_ble_eq_true rfl⟩) 8 rfl rfl rfl (fun H h => subR H h) rfl rfl ⟨(by show _ ≤ 1002; omega), (by show _ ≤ 6012; omega)⟩ (Nat.le_of_ble_eq_true rfl) ?_
  refine v_istore E dL_acts_19 (by decide) rfl ?_
  refine v_iconst E dL_acts_21 (v := nI 1) rfl ?_
  refine v_iload E dL_acts_22 13 rfl ?_
  refine v_bipush E dL_acts_24 (v := nI 16) rfl ?_
  refine v_cSi' E dL_acts_26 (x_L_low l D cI cZ cQ cJ ((u1)) (16) (by omega) (by omega)) (va_cwS 2 E.2.2.2.1 gL_acts_L_low rfl rfl rfl (by decide +kernel) ⟨Nat.le_of_ble_eq_true rfl, Nat.le_of_ble_eq_true rfl⟩) (fun _ _ => v_nil _) rfl rfl ⟨(by show _ ≤ 1002; omega), (by show _ ≤ 6012; omega)⟩ (Nat.le_of_ble_eq_true rfl) ?_
  refine v_ishl E dL_acts_29 (n_shl1 (by omega)) ?_
  refine v_iconst E dL_acts_30 (v := nI 1) rfl ?_
  refine v_iload E dL_acts_31 13 rfl ?_
  refine v_iconst E dL_acts_33 (v := nI 4) rfl ?_
  refine v_ishr E dL_acts_34 (z := ((u1 >>> (nI (4) &&& 31)))) rfl ?_
  refine v_bipush E dL_acts_35 (v := nI 6) rfl ?_
  refine v_cSi' E dL_acts_37 (x_L_low l D cI cZ cQ cJ (((u1 >>> (nI (4) &&& 31)))) (6) (by omega) (by omega)) (va_cwS 2 E.2.2.2.1 gL_acts_L_low rfl rfl rfl (by decide +kernel) ⟨Nat.le_of_ble_eq_true rfl, Nat.le_of_ble_eq_true rfl⟩) (fun _ _ => v_nil _) rfl rfl ⟨(by show _ ≤ 1002; omega), (by show _ ≤ 6012; omega)⟩ (Nat.le_of_ble_eq_true rfl) ?_
  refine v_ishl E dL_acts_40 (n_shl1 (by omega)) ?_
  refine v_ior E dL_acts_41 (nx_or _ _) ?_
  refine v_iload E dL_acts_42 13 rfl ?_
  refine v_bipush E dL_acts_44 (v := nI 8) rfl ?_
  refine v_ishr E dL_acts_46 (z := ((u1 >>> (nI (8) &&& 31)))) rfl ?_
  refine v_iconst E dL_acts_47 (v := nI 3) rfl ?_
  refine v_cSi' E dL_acts_48 (x_L_low l D cI cZ cQ cJ (((u1 >>> (nI (8) &&& 31)))) (3) (by omega) (by omega)) (va_cwS 2 E.2.2.2.1 gL_acts_L_low rfl rfl rfl (by decide +kernel) ⟨Nat.le_of_ble_eq_true rfl, Nat.le_of_ble_eq_true rfl⟩) (fun _ _ => v_nil _) rfl rfl ⟨(by show _ ≤ 1002; omega), (by show _ ≤ 6012; omega)⟩ (Nat.le_of_ble_eq_true rfl) ?_
  have J70_1 : V p9 l e9 (headSpec wsL_acts { frames := 10, cells := 1002, slots := 6012, locals := 193 }).room s9 m9 as9 bl9 me9 cd9 (0) (0) (vx_MQ bl9 (v_Qo D (wTy cI cZ cQ cJ) (0 = 0) (some (.int (nI 1))) ((wA cI bx (z_U ((sclo S t))) (z_C ((sclo S t))) (z_D ((sclo S t))) (g9 ((sclo S t))) (z_B ((sclo S t))) (f9 ((sclo S t))) (cq9 qf (plc (z_Q S) (z_qn S) t) (z_qn S)) (n9 (z_no ((sclo S t))) (z_li ((sclo S t))) (z_wi ((sclo S t))) (z_bu ((sclo S t))) (z_qn ((sclo S t))))) ++ wX cI cZ cQ a ((sclo S t))) A) (v_XC D (wTy cI cZ cQ cJ) 0 exI ((wA cI bx (z_U S) (z_C S) (z_D S) (g9 S) (z_B S) (f9 S) qf (n9 (z_no S) (z_li S) (z_wi S) (z_bu S) (z_qn S))) ++ wX cI cZ cQ a S) A) as9 s9 1002 6012 A) (v_rw D A s9) 20 70 [(13, .int (nI (z_nc S))), (12, .int (nI (z_nt S))), (11, .int (nI (kd))), (0, .ref (a 0)), (1, .ref (bx 0)), (2, .ref (bx 1)), (3, .ref (bx 2)), (4, .ref (bx 3)), (5, .ref (bx 4)), (6, .ref (bx 5)), (7, .ref (bx 6)), (8, .ref (bx 7)), (9, .int (u0)), (10, .int (u1))] [.int (nI ((if lo9 (u1 >>> (nI (8) &&& 31)) % 3 = 0 then 2 ^ (lo9 (u1 >>> (nI (10) &&& 31)) % 16) else 0))), .int (nI ((2 ^ (lo9 ((u1)) % 16)) ||| (2 ^ (lo9 (((u1 >>> (nI (4) &&& 31)))) % 6))))] ((wA cI bx (z_U S) (z_C S) (z_D S) (g9 S) (z_B S) (f9 S) qf (n9 (z_no S) (z_li S) (z_wi S) (z_bu S) (z_qn S))) ++ wX cI cZ cQ a S) := by
    refine v_ior E dL_acts_70 (nx_or _ _) ?_
    refine v_top (y := nI (v)) (congrArg nI est) ?_
    refine v_istore E dL_acts_71 (by decide) rfl ?_
    refine v_iload E dL_acts_73 3 rfl ?_
    refine n_if_eq E dL_acts_75 (by omega) (tgt := 83) (by decide) (fun c75 => ?_) (fun c75 => ?_)
    · exact absurd c75 (by omega)
    · refine v_iload E dL_acts_78 2 rfl ?_
      refine n_if_ne E dL_acts_80 (by omega) (tgt := 142) (by decide) (fun c80 => ?_) (fun c80 => ?_)
      · refine v_iload E dL_acts_142 3 rfl ?_
        refine v_bipush E dL_acts_144 (v := nI 6) rfl ?_
        refine n_icmp_lt E dL_acts_146 (by omega) (by omega) (tgt := 154) (by decide) (fun c146 => ?_) (fun c146 => ?_)
        · exact absurd c146 (by omega)
        · refine v_iload E dL_acts_149 1 rfl ?_
          refine n_if_ne E dL_acts_151 (by omega) (tgt := 206) (by decide) (fun c151 => ?_) (fun c151 => ?_)
          · refine v_iload E dL_acts_206 13 rfl ?_
            refine v_iconst E dL_acts_208 (v := nI 5) rfl ?_
            refine v_ishr E dL_acts_209 (z := ((u0 >>> (nI (5) &&& 31)))) rfl ?_
            refine v_iload E dL_acts_210 2 rfl ?_
            refine v_cSi' E dL_acts_212 (x_L_low l D cI cZ cQ cJ (((u0 >>> (nI (5) &&& 31)))) (z_nt S) (by omega) (by omega)) (va_cwS 2 E.2.2.2.1 gL_acts_L_low rfl rfl rfl (by decide +kernel) ⟨Nat.le_of_ble_eq_true rfl, Nat.le_of_ble_eq_true rfl⟩) (fun _ _ => v_nil _) rfl rfl ⟨(by show _ ≤ 1002; omega), (by show _ ≤ 6012; omega)⟩ (Nat.le_of_ble_eq_true rfl) ?_
            refine v_top (y := nI (t)) (congrArg nI et) ?_
            refine v_istore E dL_acts_215 (by decide) rfl ?_
            refine v_iload E dL_acts_217 15 rfl ?_
            refine v_iload E dL_acts_219 2 rfl ?_
            refine v_cSi' E dL_acts_221 (x_L_low l D cI cZ cQ cJ ((u1)) (z_nc S) (by omega) (by omega)) (va_cwS 2 E.2.2.2.1 gL_acts_L_low rfl rfl rfl (by decide +kernel) ⟨Nat.le_of_ble_eq_true rfl, Nat.le_of_ble_eq_true rfl⟩) (fun _ _ => v_nil _) rfl rfl ⟨(by show _ ≤ 1002; omega), (by show _ ≤ 6012; omega)⟩ (Nat.le_of_ble_eq_true rfl) ?_
            refine v_top (y := nI (c)) (congrArg nI ec) ?_
            refine v_istore E dL_acts_224 (by decide) rfl ?_
            refine v_iload E dL_acts_226 5 rfl ?_
            refine v_bipush E dL_acts_228 (v := nI 6) rfl ?_
            refine n_icmp_ne E dL_acts_230 (by omega) (by omega) (tgt := 317) (by decide) (fun c230 => ?_) (fun c230 => ?_)
            · refine v_iload E dL_acts_317 5 rfl ?_
              refine v_bipush E dL_acts_319 (v := nI 7) rfl ?_
              refine n_icmp_ne E dL_acts_321 (by omega) (by omega) (tgt := 455) (by decide) (fun c321 => ?_) (fun c321 => ?_)
              · refine v_iload E dL_acts_455 5 rfl ?_
                refine v_bipush E dL_acts_457 (v := nI 10) rfl ?_
                refine n_icmp_ge E dL_acts_459 (by omega) (by omega) (tgt := 580) (by decide) (fun c459 => ?_) (fun c459 => ?_)
                · refine v_iload E dL_acts_580 5 rfl ?_
                  refine v_bipush E dL_acts_582 (v := nI 10) rfl ?_
                  refine n_icmp_ne E dL_acts_584 (by omega) (by omega) (tgt := 627) (by decide) (fun c584 => ?_) (fun c584 => ?_)
                  · exact absurd c584 (by omega)
                  · refine v_aload E dL_acts_587 10 rfl ?_
                    refine v_iload E dL_acts_589 1 rfl ?_
                    refine v_iald E dL_acts_591 (v := nI (z_G S t)) 3 0 rfl rfl (by omega) (by decide) (g9_t ht hT) ?_
                    refine n_if_ge E dL_acts_592 (by omega) (tgt := 614) (by decide) (fun c592 => ?_) (fun c592 => ?_)
                    · refine v_aload_n E dL_acts_614 6 rfl rfl ?_
                      refine v_aload E dL_acts_615 10 rfl ?_
                      refine v_aload E dL_acts_617 13 rfl ?_
                      refine v_aload E dL_acts_619 14 rfl ?_
                      refine v_iload E dL_acts_621 1 rfl ?_
                      refine x_cSz E hA hTx dL_acts_623 (z_leaves l D cI cZ cQ cJ a bx S hok hl qf t ht hT hq) (va_cwS 5 E.2.2.2.1 gL_acts_L_leaves rfl rfl rfl (by decide +kernel) ⟨Nat.le_of_ble_eq_true rfl, Nat.le_of_ble_eq_true rfl⟩) rfl rfl ⟨(by show _ ≤ 1002; omega), (by show _ ≤ 6012; omega)⟩ (Nat.le_of_ble_eq_true rfl) ?_
                      exact y_retz E hr rfl rfl rfl rfl (by omega) (by omega) dL_acts_626
                    · exact c592.elim
                · exact absurd c459 (by omega)
              · exact absurd c321 (by omega)
            · exact absurd c230 (by omega)
          · exact absurd c151 (by omega)
      · exact absurd c80 (by omega)
  refine n_if_ne E dL_acts_51 (by omega) (tgt := 69) (by decide) (fun c51 => ?_) (fun c51 => ?_)
  · refine v_iconst E dL_acts_69 (v := nI 0) rfl ?_
    refine v_top (y := nI ((if lo9 (u1 >>> (nI (8) &&& 31)) % 3 = 0 then 2 ^ (lo9 (u1 >>> (nI (10) &&& 31)) % 16) else 0))) (by rw [if_neg (by omega)]) ?_
    exact J70_1
  · refine v_iconst E dL_acts_54 (v := nI 1) rfl ?_
    refine v_iload E dL_acts_55 13 rfl ?_
    refine v_bipush E dL_acts_57 (v := nI 10) rfl ?_
    refine v_ishr E dL_acts_59 (z := ((u1 >>> (nI (10) &&& 31)))) rfl ?_
    refine v_bipush E dL_acts_60 (v := nI 16) rfl ?_
    refine v_cSi' E dL_acts_62 (x_L_low l D cI cZ cQ cJ (((u1 >>> (nI (10) &&& 31)))) (16) (by omega) (by omega)) (va_cwS 2 E.2.2.2.1 gL_acts_L_low rfl rfl rfl (by decide +kernel) ⟨Nat.le_of_ble_eq_true rfl, Nat.le_of_ble_eq_true rfl⟩) (fun _ _ => v_nil _) rfl rfl ⟨(by show _ ≤ 1002; omega), (by show _ ≤ 6012; omega)⟩ (Nat.le_of_ble_eq_true rfl) ?_
    refine v_ishl E dL_acts_65 (n_shl1 (by omega)) ?_
    refine v_goto E dL_acts_66 (tgt := 70) (by decide) ?_
    refine v_top (y := nI ((if lo9 (u1 >>> (nI (8) &&& 31)) % 3 = 0 then 2 ^ (lo9 (u1 >>> (nI (10) &&& 31)) % 16) else 0))) (by rw [if_pos c51]) ?_
    exact J70_1
set_option maxHeartbeats 8000000 in
set_option maxRecDepth 100000 in
theorem z_acts_G1 (l : Launch) (D : va_G) (cI cZ cQ cJ : ClassId) (a bx : Nat → Nat) (S : zS) (hok : zOK S) (hl : l.stackTraces = false) (qf : Nat → Nat) (u0 u1 : Int32) (kd v : Nat) (t c : Nat) (ekd : lo9 u0 % 24 = kd) (est : st9 u1 = v)(et : lo9 (u0 >>> (nI (5) &&& 31)) % z_nt S = t) (ec : lo9 u1 % z_nc S = c) (hnt : 0 < z_nt S) (hnc : 0 < z_nc S)(hkd6 : 11 ≤ kd ∧ kd < 13) (hq : ∀ i, i < z_qn S → qf i = z_Q S i)(hT : z_T S t = false) : v_Thr l yL_acts wsL_acts { frames := 10, cells := 1002, slots := 6012, locals := 193 } D (wTy cI cZ cQ cJ) [.ref (a 0), .ref (bx 0), .ref (bx 1), .ref (bx 2), .ref (bx 3), .ref (bx 4), .ref (bx 5), .ref (bx 6), .ref (bx 7), .int (u0), .int (u1)] ((wA cI bx (z_U S) (z_C S) (z_D S) (g9 S) (z_B S) (f9 S) qf (n9 (z_no S) (z_li S) (z_wi S) (z_bu S) (z_qn S))) ++ wX cI cZ cQ a S) 0 exI (some (.int (nI 1))) ((wA cI bx (z_U S) (z_C S) (z_D S) (g9 S) (z_B S) (f9 S) qf (n9 (z_no S) (z_li S) (z_wi S) (z_bu S) (z_qn S))) ++ wX cI cZ cQ a S) 1002 6012 := by
  refine v_thrower (cc := cL_acts) (maxL := 20) (ret := (some .boolean)) (own := RL) (lv0 := [(0, .ref (a 0)), (1, .ref (bx 0)), (2, .ref (bx 1)), (3, .ref (bx 2)), (4, .ref (bx 3)), (5, .ref (bx 4)), (6, .ref (bx 5)), (7, .ref (bx 6)), (8, .ref (bx 7)), (9, .int (u0)), (10, .int (u1))]) (by decide) rfl rfl (Nat.le_of_ble_eq_true rfl) rfl ?_
  intro p9 e9 s9 m9 as9 bl9 me9 cd9 A E hA htab hTx hr
  have hn1 := hok.1.1
  have hn2 := hok.1.2.1
  have hkd : kd < 24 := by rw [← ekd]; exact Nat.mod_lt _ (by decide)
  have hv : v < 65536 := by rw [← est]; exact st9_lt u1
  have hqn := zqn_le hok
  have ht : t < z_nt S := by rw [← et]; exact Nat.mod_lt _ hnt
  have hc : c < z_nc S := by rw [← ec]; exact Nat.mod_lt _ hnc
  refine v_iload E dL_acts_0 9 rfl ?_
  refine v_bipush E dL_acts_2 (v := nI 24) rfl ?_
  refine v_cSi' E dL_acts_4 (x_L_low l D cI cZ cQ cJ ((u0)) (24) (by omega) (by omega)) (va_cwS 2 E.2.2.2.1 gL_acts_L_low rfl rfl rfl (by decide +kernel) ⟨Nat.le_of_ble_eq_true rfl, Nat.le_of_ble_eq_true rfl⟩) (fun _ _ => v_nil _) rfl rfl ⟨(by show _ ≤ 1002; omega), (by show _ ≤ 6012; omega)⟩ (Nat.le_of_ble_eq_true rfl) ?_
  refine v_top (y := nI (kd)) (congrArg nI ekd) ?_
  refine v_istore E dL_acts_7 (by decide) rfl ?_
  refine v_aload_n E dL_acts_9 1 rfl rfl ?_
  refine v_cVi' E dL_acts_10 (x_X1_tests l D cI cZ cQ cJ a S hok) (cwV 0 E.2.2.2.1 gL_acts_X1_tests rfl rfl rfl (by decide +kernel) ⟨Nat.le_of_ble_eq_true rfl, Nat.le_of_ble_eq_true rfl⟩) 8 rfl rfl rfl (fun H h => subR H h) rfl rfl ⟨(by show _ ≤ 1002; omega), (by show _ ≤ 6012; omega)⟩ (Nat.le_of_ble_eq_true rfl) ?_
  refine v_istore E dL_acts_13 (by decide) rfl ?_
  refine v_aload_n E dL_acts_15 2 rfl rfl ?_
  refine v_cVi' E dL_acts_16 (x_X1_commits l D cI cZ cQ cJ a S hok) (cwV 0 E.2.2.2.1 gL_acts_X1_commits rfl rfl rfl (by decide +kernel) ⟨Nat.le_of_ble_eq_true rfl, Nat.le_of_ble_eq_true rfl⟩) 8 rfl rfl rfl (fun H h => subR H h) rfl rfl ⟨(by show _ ≤ 1002; omega), (by show _ ≤ 6012; omega)⟩ (Nat.le_of_ble_eq_true rfl) ?_
  refine v_istore E dL_acts_19 (by decide) rfl ?_
  refine v_iconst E dL_acts_21 (v := nI 1) rfl ?_
  refine v_iload E dL_acts_22 13 rfl ?_
  refine v_bipush E dL_acts_24 (v := nI 16) rfl ?_
  refine v_cSi' E dL_acts_26 (x_L_low l D cI cZ cQ cJ ((u1)) (16) (by omega) (by omega)) (va_cwS 2 E.2.2.2.1 gL_acts_L_low rfl rfl rfl (by decide +kernel) ⟨Nat.le_of_ble_eq_true rfl, Nat.le_of_ble_eq_true rfl⟩) (fun _ _ => v_nil _) rfl rfl ⟨(by show _ ≤ 1002; omega), (by show _ ≤ 6012; omega)⟩ (Nat.le_of_ble_eq_true rfl) ?_
  refine v_ishl E dL_acts_29 (n_shl1 (by omega)) ?_
  refine v_iconst E dL_acts_30 (v := nI 1) rfl ?_
  refine v_iload E dL_acts_31 13 rfl ?_
  refine v_iconst E dL_acts_33 (v := nI 4) rfl ?_
  refine v_ishr E dL_acts_34 (z := ((u1 >>> (nI (4) &&& 31)))) rfl ?_
  refine v_bipush E dL_acts_35 (v := nI 6) rfl ?_
  refine v_cSi' E dL_acts_37 (x_L_low l D cI cZ cQ cJ (((u1 >>> (nI (4) &&& 31)))) (6) (by omega) (by omega)) (va_cwS 2 E.2.2.2.1 gL_acts_L_low rfl rfl rfl (by decide +kernel) ⟨Nat.le_of_ble_eq_true rfl, Nat.le_of_ble_eq_true rfl⟩) (fun _ _ => v_nil _) rfl rfl ⟨(by show _ ≤ 1002; omega), (by show _ ≤ 6012; omega)⟩ (Nat.le_of_ble_eq_true rfl) ?_
  refine v_ishl E dL_acts_40 (n_shl1 (by omega)) ?_
  refine v_ior E dL_acts_41 (nx_or _ _) ?_
  refine v_iload E dL_acts_42 13 rfl ?_
  refine v_bipush E dL_acts_44 (v := nI 8) rfl ?_
  refine v_ishr E dL_acts_46 (z := ((u1 >>> (nI (8) &&& 31)))) rfl ?_
  refine v_iconst E dL_acts_47 (v := nI 3) rfl ?_
  refine v_cSi' E dL_acts_48 (x_L_low l D cI cZ cQ cJ (((u1 >>> (nI (8) &&& 31)))) (3) (by omega) (by omega)) (va_cwS 2 E.2.2.2.1 gL_acts_L_low rfl rfl rfl (by decide +kernel) ⟨Nat.le_of_ble_eq_true rfl, Nat.le_of_ble_eq_true rfl⟩) (fun _ _ => v_nil _) rfl rfl ⟨(by show _ ≤ 1002; omega), (by show _ ≤ 6012; omega)⟩ (Nat.le_of_ble_eq_true rfl) ?_
  have J70_1 : V p9 l e9 (headSpec wsL_acts { frames := 10, cells := 1002, slots := 6012, locals := 193 }).room s9 m9 as9 bl9 me9 cd9 (0) (0) (vx_MQ bl9 (v_Qo D (wTy cI cZ cQ cJ) (0 = 0) (some (.int (nI 1))) ((wA cI bx (z_U S) (z_C S) (z_D S) (g9 S) (z_B S) (f9 S) qf (n9 (z_no S) (z_li S) (z_wi S) (z_bu S) (z_qn S))) ++ wX cI cZ cQ a S) A) (v_XC D (wTy cI cZ cQ cJ) 0 exI ((wA cI bx (z_U S) (z_C S) (z_D S) (g9 S) (z_B S) (f9 S) qf (n9 (z_no S) (z_li S) (z_wi S) (z_bu S) (z_qn S))) ++ wX cI cZ cQ a S) A) as9 s9 1002 6012 A) (v_rw D A s9) 20 70 [(13, .int (nI (z_nc S))), (12, .int (nI (z_nt S))), (11, .int (nI (kd))), (0, .ref (a 0)), (1, .ref (bx 0)), (2, .ref (bx 1)), (3, .ref (bx 2)), (4, .ref (bx 3)), (5, .ref (bx 4)), (6, .ref (bx 5)), (7, .ref (bx 6)), (8, .ref (bx 7)), (9, .int (u0)), (10, .int (u1))] [.int (nI ((if lo9 (u1 >>> (nI (8) &&& 31)) % 3 = 0 then 2 ^ (lo9 (u1 >>> (nI (10) &&& 31)) % 16) else 0))), .int (nI ((2 ^ (lo9 ((u1)) % 16)) ||| (2 ^ (lo9 (((u1 >>> (nI (4) &&& 31)))) % 6))))] ((wA cI bx (z_U S) (z_C S) (z_D S) (g9 S) (z_B S) (f9 S) qf (n9 (z_no S) (z_li S) (z_wi S) (z_bu S) (z_qn S))) ++ wX cI cZ cQ a S) := by
    refine v_ior E dL_acts_70 (nx_or _ _) ?_
    refine v_top (y := nI (v)) (congrArg nI est) ?_
    refine v_istore E dL_acts_71 (by decide) rfl ?_
    refine v_iload E dL_acts_73 3 rfl ?_
    refine n_if_eq E dL_acts_75 (by omega) (tgt := 83) (by decide) (fun c75 => ?_) (fun c75 => ?_)
    · exact absurd c75 (by omega)
    · refine v_iload E dL_acts_78 2 rfl ?_
      refine n_if_ne E dL_acts_80 (by omega) (tgt := 142) (by decide) (fun c80 => ?_) (fun c80 => ?_)
      · refine v_iload E dL_acts_142 3 rfl ?_
        refine v_bipush E dL_acts_144 (v := nI 6) rfl ?_
        refine n_icmp_lt E dL_acts_146 (by omega) (by omega) (tgt := 154) (by decide) (fun c146 => ?_) (fun c146 => ?_)
        · exact absurd c146 (by omega)
        · refine v_iload E dL_acts_149 1 rfl ?_
          refine n_if_ne E dL_acts_151 (by omega) (tgt := 206) (by decide) (fun c151 => ?_) (fun c151 => ?_)
          · refine v_iload E dL_acts_206 13 rfl ?_
            refine v_iconst E dL_acts_208 (v := nI 5) rfl ?_
            refine v_ishr E dL_acts_209 (z := ((u0 >>> (nI (5) &&& 31)))) rfl ?_
            refine v_iload E dL_acts_210 2 rfl ?_
            refine v_cSi' E dL_acts_212 (x_L_low l D cI cZ cQ cJ (((u0 >>> (nI (5) &&& 31)))) (z_nt S) (by omega) (by omega)) (va_cwS 2 E.2.2.2.1 gL_acts_L_low rfl rfl rfl (by decide +kernel) ⟨Nat.le_of_ble_eq_true rfl, Nat.le_of_ble_eq_true rfl⟩) (fun _ _ => v_nil _) rfl rfl ⟨(by show _ ≤ 1002; omega), (by show _ ≤ 6012; omega)⟩ (Nat.le_of_ble_eq_true rfl) ?_
            refine v_top (y := nI (t)) (congrArg nI et) ?_
            refine v_istore E dL_acts_215 (by decide) rfl ?_
            refine v_iload E dL_acts_217 15 rfl ?_
            refine v_iload E dL_acts_219 2 rfl ?_
            refine v_cSi' E dL_acts_221 (x_L_low l D cI cZ cQ cJ ((u1)) (z_nc S) (by omega) (by omega)) (va_cwS 2 E.2.2.2.1 gL_acts_L_low rfl rfl rfl (by decide +kernel) ⟨Nat.le_of_ble_eq_true rfl, Nat.le_of_ble_eq_true rfl⟩) (fun _ _ => v_nil _) rfl rfl ⟨(by show _ ≤ 1002; omega), (by show _ ≤ 6012; omega)⟩ (Nat.le_of_ble_eq_true rfl) ?_
            refine v_top (y := nI (c)) (congrArg nI ec) ?_
            refine v_istore E dL_acts_224 (by decide) rfl ?_
            refine v_iload E dL_acts_226 5 rfl ?_
            refine v_bipush E dL_acts_228 (v := nI 6) rfl ?_
            refine n_icmp_ne E dL_acts_230 (by omega) (by omega) (tgt := 317) (by decide) (fun c230 => ?_) (fun c230 => ?_)
            · refine v_iload E dL_acts_317 5 rfl ?_
              refine v_bipush E dL_acts_319 (v := nI 7) rfl ?_
              refine n_icmp_ne E dL_acts_321 (by omega) (by omega) (tgt := 455) (by decide) (fun c321 => ?_) (fun c321 => ?_)
              · refine v_iload E dL_acts_455 5 rfl ?_
                refine v_bipush E dL_acts_457 (v := nI 10) rfl ?_
                refine n_icmp_ge E dL_acts_459 (by omega) (by omega) (tgt := 580) (by decide) (fun c459 => ?_) (fun c459 => ?_)
                · refine v_iload E dL_acts_580 5 rfl ?_
                  refine v_bipush E dL_acts_582 (v := nI 10) rfl ?_
                  refine n_icmp_ne E dL_acts_584 (by omega) (by omega) (tgt := 627) (by decide) (fun c584 => ?_) (fun c584 => ?_)
                  · refine v_iload E dL_acts_627 5 rfl ?_
                    refine v_bipush E dL_acts_629 (v := nI 13) rfl ?_
                    refine n_icmp_ge E dL_acts_631 (by omega) (by omega) (tgt := 743) (by decide) (fun c631 => ?_) (fun c631 => ?_)
                    · exact absurd c631 (by omega)
                    · refine v_iconst E dL_acts_634 (v := nI 0) rfl ?_
                      refine v_top (y := bI (in9 (z_Q S) t 0)) rfl ?_
                      refine v_istore E dL_acts_635 (by decide) rfl ?_
                      refine v_iconst E dL_acts_637 (v := nI 0) rfl ?_
                      refine v_istore E dL_acts_638 (by decide) rfl ?_
                      have L640_2 : ∀ (n640 : Nat) (k : Nat), z_qn S - k < n640 → (k ≤ z_qn S) → V p9 l e9 (headSpec wsL_acts { frames := 10, cells := 1002, slots := 6012, locals := 193 }).room s9 m9 as9 bl9 me9 cd9 (0) (0) (vx_MQ bl9 (v_Qo D (wTy cI cZ cQ cJ) (0 = 0) (some (.int (nI 1))) ((wA cI bx (z_U S) (z_C S) (z_D S) (g9 S) (z_B S) (f9 S) qf (n9 (z_no S) (z_li S) (z_wi S) (z_bu S) (z_qn S))) ++ wX cI cZ cQ a S) A) (v_XC D (wTy cI cZ cQ cJ) 0 exI ((wA cI bx (z_U S) (z_C S) (z_D S) (g9 S) (z_B S) (f9 S) qf (n9 (z_no S) (z_li S) (z_wi S) (z_bu S) (z_qn S))) ++ wX cI cZ cQ a S) A) as9 s9 1002 6012 A) (v_rw D A s9) 20 640 [(17, .int (bI (in9 (z_Q S) t k))), (18, .int (nI (k))), (16, .int (nI (c))), (15, .int (nI (t))), (14, .int (nI (v))), (13, .int (nI (z_nc S))), (12, .int (nI (z_nt S))), (11, .int (nI (kd))), (0, .ref (a 0)), (1, .ref (bx 0)), (2, .ref (bx 1)), (3, .ref (bx 2)), (4, .ref (bx 3)), (5, .ref (bx 4)), (6, .ref (bx 5)), (7, .ref (bx 6)), (8, .ref (bx 7)), (9, .int (u0)), (10, .int (u1))] [] ((wA cI bx (z_U S) (z_C S) (z_D S) (g9 S) (z_B S) (f9 S) qf (n9 (z_no S) (z_li S) (z_wi S) (z_bu S) (z_qn S))) ++ wX cI cZ cQ a S) := by
                        intro n640
                        induction n640 with
                        | zero => intro k hm640 hk; exact absurd hm640 (Nat.not_lt_zero _)
                        | succ n640 ih640 =>
                          intro k hm640 hk
                          refine v_iload E dL_acts_640 1 rfl ?_
                          refine v_aload E dL_acts_642 16 rfl ?_
                          refine v_iconst E dL_acts_644 (v := nI 4) rfl ?_
                          refine v_iald E dL_acts_645 (v := nI (z_qn S)) 7 0 rfl rfl (by omega) (by decide) rfl ?_
                          refine n_icmp_ge E dL_acts_646 (by omega) (by omega) (tgt := 677) (by decide) (fun c646 => ?_) (fun c646 => ?_)
                          · refine v_aload E dL_acts_677 12 rfl ?_
                            refine v_iload E dL_acts_679 3 rfl ?_
                            refine v_iald E dL_acts_681 (v := ((-1))) 3 0 rfl rfl (by omega) (by decide) (g9_f ht hT) ?_
                            refine v_if_lt E dL_acts_682 (tgt := 690) (by decide) (fun c682 => ?_) (fun c682 => ?_)
                            · refine v_aload_n E dL_acts_690 8 rfl rfl ?_
                              refine v_iload E dL_acts_691 3 rfl ?_
                              refine x_cSn E hA hTx dL_acts_693 (l_enqueueF l D cI cZ cQ cJ a S hok hl (wA cI bx (z_U S) (z_C S) (z_D S) (g9 S) (z_B S) (f9 S) qf (n9 (z_no S) (z_li S) (z_wi S) (z_bu S) (z_qn S))) t ht hT) (vx_cwSW 2 E.2.2.2.1 gL_acts_L_enqueue rfl rfl rfl (by decide +kernel) ⟨Nat.le_of_ble_eq_true rfl, Nat.le_of_ble_eq_true rfl⟩) rfl rfl ⟨(by show _ ≤ 1002; omega), (by show _ ≤ 6012; omega)⟩ (Nat.le_of_ble_eq_true rfl) ?_
                              refine v_ldc E dL_acts_696 (v := -1000003) (x := (-1000003)) (by decide +kernel) rfl ?_
                              refine v_icmp_ne E dL_acts_698 (tgt := 705) (by decide) (fun c698 => ?_) (fun c698 => ?_)
                              · exact absurd rfl c698
                              · refine v_iconst E dL_acts_701 (v := nI 1) rfl ?_
                                refine v_goto E dL_acts_702 (tgt := 706) (by decide) ?_
                                exact y_retz E hr rfl rfl rfl rfl (by omega) (by omega) dL_acts_706
                            · exact absurd (by decide) c682
                          · have hqT := hok.2.2.2.1.1 k c646
                            have hqt := (hok.2.2.1 _ hqT).1
                            refine v_iload E dL_acts_649 0 rfl ?_
                            have J669_3 : V p9 l e9 (headSpec wsL_acts { frames := 10, cells := 1002, slots := 6012, locals := 193 }).room s9 m9 as9 bl9 me9 cd9 (0) (0) (vx_MQ bl9 (v_Qo D (wTy cI cZ cQ cJ) (0 = 0) (some (.int (nI 1))) ((wA cI bx (z_U S) (z_C S) (z_D S) (g9 S) (z_B S) (f9 S) qf (n9 (z_no S) (z_li S) (z_wi S) (z_bu S) (z_qn S))) ++ wX cI cZ cQ a S) A) (v_XC D (wTy cI cZ cQ cJ) 0 exI ((wA cI bx (z_U S) (z_C S) (z_D S) (g9 S) (z_B S) (f9 S) qf (n9 (z_no S) (z_li S) (z_wi S) (z_bu S) (z_qn S))) ++ wX cI cZ cQ a S) A) as9 s9 1002 6012 A) (v_rw D A s9) 20 669 [(17, .int (bI (in9 (z_Q S) t k))), (18, .int (nI (k))), (16, .int (nI (c))), (15, .int (nI (t))), (14, .int (nI (v))), (13, .int (nI (z_nc S))), (12, .int (nI (z_nt S))), (11, .int (nI (kd))), (0, .ref (a 0)), (1, .ref (bx 0)), (2, .ref (bx 1)), (3, .ref (bx 2)), (4, .ref (bx 3)), (5, .ref (bx 4)), (6, .ref (bx 5)), (7, .ref (bx 6)), (8, .ref (bx 7)), (9, .int (u0)), (10, .int (u1))] [.int (bI (in9 (z_Q S) t (k + 1)))] ((wA cI bx (z_U S) (z_C S) (z_D S) (g9 S) (z_B S) (f9 S) qf (n9 (z_no S) (z_li S) (z_wi S) (z_bu S) (z_qn S))) ++ wX cI cZ cQ a S) := by
                              refine v_istore E dL_acts_669 (by decide) rfl ?_
                              refine v_iinc E dL_acts_671 1 rfl (nI_1 _) (by decide) rfl ?_
                              refine v_goto E dL_acts_674 (tgt := 640) (by decide) ?_
                              refine v_lv [1, 0, 2, 3, 4, 5, 6, 7, 8, 9, 10, 11, 12, 13, 14, 15, 16, 17, 18] rfl ?_
                              exact ih640 (k + 1) (by omega) (by omega)
                            refine b_if_ne E dL_acts_651 (tgt := 664) (by decide) (fun c651 => ?_) (fun c651 => ?_)
                            · refine v_iconst E dL_acts_664 (v := nI 1) rfl ?_
                              refine v_goto E dL_acts_665 (tgt := 669) (by decide) ?_
                              refine v_top (y := bI (in9 (z_Q S) t (k + 1))) (by rw [in9_t c651]; rfl) ?_
                              exact J669_3
                            · refine v_aload E dL_acts_654 15 rfl ?_
                              refine v_iload E dL_acts_656 1 rfl ?_
                              refine v_iald E dL_acts_658 (v := nI (z_Q S k)) 6 0 rfl rfl (by omega) (by decide) (congrArg nI (hq k c646)) ?_
                              refine v_iload E dL_acts_659 3 rfl ?_
                              refine n_icmp_ne E dL_acts_661 (by omega) (by omega) (tgt := 668) (by decide) (fun c661 => ?_) (fun c661 => ?_)
                              · refine v_iconst E dL_acts_668 (v := nI 0) rfl ?_
                                refine v_top (y := bI (in9 (z_Q S) t (k + 1))) (by rw [in9_n c651 c661]; rfl) ?_
                                exact J669_3
                              · refine v_iconst E dL_acts_664 (v := nI 1) rfl ?_
                                refine v_goto E dL_acts_665 (tgt := 669) (by decide) ?_
                                refine v_top (y := bI (in9 (z_Q S) t (k + 1))) (by rw [in9_e c661]; rfl) ?_
                                exact J669_3
                      refine v_lv [1, 0, 2, 3, 4, 5, 6, 7, 8, 9, 10, 11, 12, 13, 14, 15, 16, 17, 18] rfl ?_
                      exact L640_2 (z_qn S - (0) + 1) (0) (by omega) (by omega)
                  · exact absurd c584 (by omega)
                · exact absurd c459 (by omega)
              · exact absurd c321 (by omega)
            · exact absurd c230 (by omega)
          · exact absurd c151 (by omega)
      · exact absurd c80 (by omega)
  refine n_if_ne E dL_acts_51 (by omega) (tgt := 69) (by decide) (fun c51 => ?_) (fun c51 => ?_)
  · refine v_iconst E dL_acts_69 (v := nI 0) rfl ?_
    refine v_top (y := nI ((if lo9 (u1 >>> (nI (8) &&& 31)) % 3 = 0 then 2 ^ (lo9 (u1 >>> (nI (10) &&& 31)) % 16) else 0))) (by rw [if_neg (by omega)]) ?_
    exact J70_1
  · refine v_iconst E dL_acts_54 (v := nI 1) rfl ?_
    refine v_iload E dL_acts_55 13 rfl ?_
    refine v_bipush E dL_acts_57 (v := nI 10) rfl ?_
    refine v_ishr E dL_acts_59 (z := ((u1 >>> (nI (10) &&& 31)))) rfl ?_
    refine v_bipush E dL_acts_60 (v := nI 16) rfl ?_
    refine v_cSi' E dL_acts_62 (x_L_low l D cI cZ cQ cJ (((u1 >>> (nI (10) &&& 31)))) (16) (by omega) (by omega)) (va_cwS 2 E.2.2.2.1 gL_acts_L_low rfl rfl rfl (by decide +kernel) ⟨Nat.le_of_ble_eq_true rfl, Nat.le_of_ble_eq_true rfl⟩) (fun _ _ => v_nil _) rfl rfl ⟨(by show _ ≤ 1002; omega), (by show _ ≤ 6012; omega)⟩ (Nat.le_of_ble_eq_true rfl) ?_
    refine v_ishl E dL_acts_65 (n_shl1 (by omega)) ?_
    refine v_goto E dL_acts_66 (tgt := 70) (by decide) ?_
    refine v_top (y := nI ((if lo9 (u1 >>> (nI (8) &&& 31)) % 3 = 0 then 2 ^ (lo9 (u1 >>> (nI (10) &&& 31)) % 16) else 0))) (by rw [if_pos c51]) ?_
    exact J70_1
set_option maxHeartbeats 8000000 in
set_option maxRecDepth 100000 in
theorem z_acts_G2 (l : Launch) (D : va_G) (cI cZ cQ cJ : ClassId) (a bx : Nat → Nat) (S : zS) (hok : zOK S) (hl : l.stackTraces = false) (qf : Nat → Nat) (u0 u1 : Int32) (kd v : Nat) (t c : Nat) (ekd : lo9 u0 % 24 = kd) (est : st9 u1 = v)(et : lo9 (u0 >>> (nI (5) &&& 31)) % z_nt S = t) (ec : lo9 u1 % z_nc S = c) (hnt : 0 < z_nt S) (hnc : 0 < z_nc S)(hkd6 : 11 ≤ kd ∧ kd < 13) (hq : ∀ i, i < z_qn S → qf i = z_Q S i)(hT : z_T S t = true) (hp : plc (z_Q S) (z_qn S) t ≠ 0) : v_Thr l yL_acts wsL_acts { frames := 10, cells := 1002, slots := 6012, locals := 193 } D (wTy cI cZ cQ cJ) [.ref (a 0), .ref (bx 0), .ref (bx 1), .ref (bx 2), .ref (bx 3), .ref (bx 4), .ref (bx 5), .ref (bx 6), .ref (bx 7), .int (u0), .int (u1)] ((wA cI bx (z_U S) (z_C S) (z_D S) (g9 S) (z_B S) (f9 S) qf (n9 (z_no S) (z_li S) (z_wi S) (z_bu S) (z_qn S))) ++ wX cI cZ cQ a S) 0 exI (some (.int (nI 1))) ((wA cI bx (z_U S) (z_C S) (z_D S) (g9 S) (z_B S) (f9 S) qf (n9 (z_no S) (z_li S) (z_wi S) (z_bu S) (z_qn S))) ++ wX cI cZ cQ a S) 1002 6012 := by
  refine v_thrower (cc := cL_acts) (maxL := 20) (ret := (some .boolean)) (own := RL) (lv0 := [(0, .ref (a 0)), (1, .ref (bx 0)), (2, .ref (bx 1)), (3, .ref (bx 2)), (4, .ref (bx 3)), (5, .ref (bx 4)), (6, .ref (bx 5)), (7, .ref (bx 6)), (8, .ref (bx 7)), (9, .int (u0)), (10, .int (u1))]) (by decide) rfl rfl (Nat.le_of_ble_eq_true rfl) rfl ?_
  intro p9 e9 s9 m9 as9 bl9 me9 cd9 A E hA htab hTx hr
  have hn1 := hok.1.1
  have hn2 := hok.1.2.1
  have hkd : kd < 24 := by rw [← ekd]; exact Nat.mod_lt _ (by decide)
  have hv : v < 65536 := by rw [← est]; exact st9_lt u1
  have hqn := zqn_le hok
  have ht : t < z_nt S := by rw [← et]; exact Nat.mod_lt _ hnt
  have hc : c < z_nc S := by rw [← ec]; exact Nat.mod_lt _ hnc
  obtain ⟨hT1, hT2, hT3⟩ := hok.2.2.1 t hT
  refine v_iload E dL_acts_0 9 rfl ?_
  refine v_bipush E dL_acts_2 (v := nI 24) rfl ?_
  refine v_cSi' E dL_acts_4 (x_L_low l D cI cZ cQ cJ ((u0)) (24) (by omega) (by omega)) (va_cwS 2 E.2.2.2.1 gL_acts_L_low rfl rfl rfl (by decide +kernel) ⟨Nat.le_of_ble_eq_true rfl, Nat.le_of_ble_eq_true rfl⟩) (fun _ _ => v_nil _) rfl rfl ⟨(by show _ ≤ 1002; omega), (by show _ ≤ 6012; omega)⟩ (Nat.le_of_ble_eq_true rfl) ?_
  refine v_top (y := nI (kd)) (congrArg nI ekd) ?_
  refine v_istore E dL_acts_7 (by decide) rfl ?_
  refine v_aload_n E dL_acts_9 1 rfl rfl ?_
  refine v_cVi' E dL_acts_10 (x_X1_tests l D cI cZ cQ cJ a S hok) (cwV 0 E.2.2.2.1 gL_acts_X1_tests rfl rfl rfl (by decide +kernel) ⟨Nat.le_of_ble_eq_true rfl, Nat.le_of_ble_eq_true rfl⟩) 8 rfl rfl rfl (fun H h => subR H h) rfl rfl ⟨(by show _ ≤ 1002; omega), (by show _ ≤ 6012; omega)⟩ (Nat.le_of_ble_eq_true rfl) ?_
  refine v_istore E dL_acts_13 (by decide) rfl ?_
  refine v_aload_n E dL_acts_15 2 rfl rfl ?_
  refine v_cVi' E dL_acts_16 (x_X1_commits l D cI cZ cQ cJ a S hok) (cwV 0 E.2.2.2.1 gL_acts_X1_commits rfl rfl rfl (by decide +kernel) ⟨Nat.le_of_ble_eq_true rfl, Nat.le_of_ble_eq_true rfl⟩) 8 rfl rfl rfl (fun H h => subR H h) rfl rfl ⟨(by show _ ≤ 1002; omega), (by show _ ≤ 6012; omega)⟩ (Nat.le_of_ble_eq_true rfl) ?_
  refine v_istore E dL_acts_19 (by decide) rfl ?_
  refine v_iconst E dL_acts_21 (v := nI 1) rfl ?_
  refine v_iload E dL_acts_22 13 rfl ?_
  refine v_bipush E dL_acts_24 (v := nI 16) rfl ?_
  refine v_cSi' E dL_acts_26 (x_L_low l D cI cZ cQ cJ ((u1)) (16) (by omega) (by omega)) (va_cwS 2 E.2.2.2.1 gL_acts_L_low rfl rfl rfl (by decide +kernel) ⟨Nat.le_of_ble_eq_true rfl, Nat.le_of_ble_eq_true rfl⟩) (fun _ _ => v_nil _) rfl rfl ⟨(by show _ ≤ 1002; omega), (by show _ ≤ 6012; omega)⟩ (Nat.le_of_ble_eq_true rfl) ?_
  refine v_ishl E dL_acts_29 (n_shl1 (by omega)) ?_
  refine v_iconst E dL_acts_30 (v := nI 1) rfl ?_
  refine v_iload E dL_acts_31 13 rfl ?_
  refine v_iconst E dL_acts_33 (v := nI 4) rfl ?_
  refine v_ishr E dL_acts_34 (z := ((u1 >>> (nI (4) &&& 31)))) rfl ?_
  refine v_bipush E dL_acts_35 (v := nI 6) rfl ?_
  refine v_cSi' E dL_acts_37 (x_L_low l D cI cZ cQ cJ (((u1 >>> (nI (4) &&& 31)))) (6) (by omega) (by omega)) (va_cwS 2 E.2.2.2.1 gL_acts_L_low rfl rfl rfl (by decide +kernel) ⟨Nat.le_of_ble_eq_true rfl, Nat.le_of_ble_eq_true rfl⟩) (fun _ _ => v_nil _) rfl rfl ⟨(by show _ ≤ 1002; omega), (by show _ ≤ 6012; omega)⟩ (Nat.le_of_ble_eq_true rfl) ?_
  refine v_ishl E dL_acts_40 (n_shl1 (by omega)) ?_
  refine v_ior E dL_acts_41 (nx_or _ _) ?_
  refine v_iload E dL_acts_42 13 rfl ?_
  refine v_bipush E dL_acts_44 (v := nI 8) rfl ?_
  refine v_ishr E dL_acts_46 (z := ((u1 >>> (nI (8) &&& 31)))) rfl ?_
  refine v_iconst E dL_acts_47 (v := nI 3) rfl ?_
  refine v_cSi' E dL_acts_48 (x_L_low l D cI cZ cQ cJ (((u1 >>> (nI (8) &&& 31)))) (3) (by omega) (by omega)) (va_cwS 2 E.2.2.2.1 gL_acts_L_low rfl rfl rfl (by decide +kernel) ⟨Nat.le_of_ble_eq_true rfl, Nat.le_of_ble_eq_true rfl⟩) (fun _ _ => v_nil _) rfl rfl ⟨(by show _ ≤ 1002; omega), (by show _ ≤ 6012; omega)⟩ (Nat.le_of_ble_eq_true rfl) ?_
  have J70_1 : V p9 l e9 (headSpec wsL_acts { frames := 10, cells := 1002, slots := 6012, locals := 193 }).room s9 m9 as9 bl9 me9 cd9 (0) (0) (vx_MQ bl9 (v_Qo D (wTy cI cZ cQ cJ) (0 = 0) (some (.int (nI 1))) ((wA cI bx (z_U S) (z_C S) (z_D S) (g9 S) (z_B S) (f9 S) qf (n9 (z_no S) (z_li S) (z_wi S) (z_bu S) (z_qn S))) ++ wX cI cZ cQ a S) A) (v_XC D (wTy cI cZ cQ cJ) 0 exI ((wA cI bx (z_U S) (z_C S) (z_D S) (g9 S) (z_B S) (f9 S) qf (n9 (z_no S) (z_li S) (z_wi S) (z_bu S) (z_qn S))) ++ wX cI cZ cQ a S) A) as9 s9 1002 6012 A) (v_rw D A s9) 20 70 [(13, .int (nI (z_nc S))), (12, .int (nI (z_nt S))), (11, .int (nI (kd))), (0, .ref (a 0)), (1, .ref (bx 0)), (2, .ref (bx 1)), (3, .ref (bx 2)), (4, .ref (bx 3)), (5, .ref (bx 4)), (6, .ref (bx 5)), (7, .ref (bx 6)), (8, .ref (bx 7)), (9, .int (u0)), (10, .int (u1))] [.int (nI ((if lo9 (u1 >>> (nI (8) &&& 31)) % 3 = 0 then 2 ^ (lo9 (u1 >>> (nI (10) &&& 31)) % 16) else 0))), .int (nI ((2 ^ (lo9 ((u1)) % 16)) ||| (2 ^ (lo9 (((u1 >>> (nI (4) &&& 31)))) % 6))))] ((wA cI bx (z_U S) (z_C S) (z_D S) (g9 S) (z_B S) (f9 S) qf (n9 (z_no S) (z_li S) (z_wi S) (z_bu S) (z_qn S))) ++ wX cI cZ cQ a S) := by
    refine v_ior E dL_acts_70 (nx_or _ _) ?_
    refine v_top (y := nI (v)) (congrArg nI est) ?_
    refine v_istore E dL_acts_71 (by decide) rfl ?_
    refine v_iload E dL_acts_73 3 rfl ?_
    refine n_if_eq E dL_acts_75 (by omega) (tgt := 83) (by decide) (fun c75 => ?_) (fun c75 => ?_)
    · exact absurd c75 (by omega)
    · refine v_iload E dL_acts_78 2 rfl ?_
      refine n_if_ne E dL_acts_80 (by omega) (tgt := 142) (by decide) (fun c80 => ?_) (fun c80 => ?_)
      · refine v_iload E dL_acts_142 3 rfl ?_
        refine v_bipush E dL_acts_144 (v := nI 6) rfl ?_
        refine n_icmp_lt E dL_acts_146 (by omega) (by omega) (tgt := 154) (by decide) (fun c146 => ?_) (fun c146 => ?_)
        · exact absurd c146 (by omega)
        · refine v_iload E dL_acts_149 1 rfl ?_
          refine n_if_ne E dL_acts_151 (by omega) (tgt := 206) (by decide) (fun c151 => ?_) (fun c151 => ?_)
          · refine v_iload E dL_acts_206 13 rfl ?_
            refine v_iconst E dL_acts_208 (v := nI 5) rfl ?_
            refine v_ishr E dL_acts_209 (z := ((u0 >>> (nI (5) &&& 31)))) rfl ?_
            refine v_iload E dL_acts_210 2 rfl ?_
            refine v_cSi' E dL_acts_212 (x_L_low l D cI cZ cQ cJ (((u0 >>> (nI (5) &&& 31)))) (z_nt S) (by omega) (by omega)) (va_cwS 2 E.2.2.2.1 gL_acts_L_low rfl rfl rfl (by decide +kernel) ⟨Nat.le_of_ble_eq_true rfl, Nat.le_of_ble_eq_true rfl⟩) (fun _ _ => v_nil _) rfl rfl ⟨(by show _ ≤ 1002; omega), (by show _ ≤ 6012; omega)⟩ (Nat.le_of_ble_eq_true rfl) ?_
            refine v_top (y := nI (t)) (congrArg nI et) ?_
            refine v_istore E dL_acts_215 (by decide) rfl ?_
            refine v_iload E dL_acts_217 15 rfl ?_
            refine v_iload E dL_acts_219 2 rfl ?_
            refine v_cSi' E dL_acts_221 (x_L_low l D cI cZ cQ cJ ((u1)) (z_nc S) (by omega) (by omega)) (va_cwS 2 E.2.2.2.1 gL_acts_L_low rfl rfl rfl (by decide +kernel) ⟨Nat.le_of_ble_eq_true rfl, Nat.le_of_ble_eq_true rfl⟩) (fun _ _ => v_nil _) rfl rfl ⟨(by show _ ≤ 1002; omega), (by show _ ≤ 6012; omega)⟩ (Nat.le_of_ble_eq_true rfl) ?_
            refine v_top (y := nI (c)) (congrArg nI ec) ?_
            refine v_istore E dL_acts_224 (by decide) rfl ?_
            refine v_iload E dL_acts_226 5 rfl ?_
            refine v_bipush E dL_acts_228 (v := nI 6) rfl ?_
            refine n_icmp_ne E dL_acts_230 (by omega) (by omega) (tgt := 317) (by decide) (fun c230 => ?_) (fun c230 => ?_)
            · refine v_iload E dL_acts_317 5 rfl ?_
              refine v_bipush E dL_acts_319 (v := nI 7) rfl ?_
              refine n_icmp_ne E dL_acts_321 (by omega) (by omega) (tgt := 455) (by decide) (fun c321 => ?_) (fun c321 => ?_)
              · refine v_iload E dL_acts_455 5 rfl ?_
                refine v_bipush E dL_acts_457 (v := nI 10) rfl ?_
                refine n_icmp_ge E dL_acts_459 (by omega) (by omega) (tgt := 580) (by decide) (fun c459 => ?_) (fun c459 => ?_)
                · refine v_iload E dL_acts_580 5 rfl ?_
                  refine v_bipush E dL_acts_582 (v := nI 10) rfl ?_
                  refine n_icmp_ne E dL_acts_584 (by omega) (by omega) (tgt := 627) (by decide) (fun c584 => ?_) (fun c584 => ?_)
                  · refine v_iload E dL_acts_627 5 rfl ?_
                    refine v_bipush E dL_acts_629 (v := nI 13) rfl ?_
                    refine n_icmp_ge E dL_acts_631 (by omega) (by omega) (tgt := 743) (by decide) (fun c631 => ?_) (fun c631 => ?_)
                    · exact absurd c631 (by omega)
                    · refine v_iconst E dL_acts_634 (v := nI 0) rfl ?_
                      refine v_top (y := bI (in9 (z_Q S) t 0)) rfl ?_
                      refine v_istore E dL_acts_635 (by decide) rfl ?_
                      refine v_iconst E dL_acts_637 (v := nI 0) rfl ?_
                      refine v_istore E dL_acts_638 (by decide) rfl ?_
                      have L640_2 : ∀ (n640 : Nat) (k : Nat), z_qn S - k < n640 → (k ≤ z_qn S) → V p9 l e9 (headSpec wsL_acts { frames := 10, cells := 1002, slots := 6012, locals := 193 }).room s9 m9 as9 bl9 me9 cd9 (0) (0) (vx_MQ bl9 (v_Qo D (wTy cI cZ cQ cJ) (0 = 0) (some (.int (nI 1))) ((wA cI bx (z_U S) (z_C S) (z_D S) (g9 S) (z_B S) (f9 S) qf (n9 (z_no S) (z_li S) (z_wi S) (z_bu S) (z_qn S))) ++ wX cI cZ cQ a S) A) (v_XC D (wTy cI cZ cQ cJ) 0 exI ((wA cI bx (z_U S) (z_C S) (z_D S) (g9 S) (z_B S) (f9 S) qf (n9 (z_no S) (z_li S) (z_wi S) (z_bu S) (z_qn S))) ++ wX cI cZ cQ a S) A) as9 s9 1002 6012 A) (v_rw D A s9) 20 640 [(17, .int (bI (in9 (z_Q S) t k))), (18, .int (nI (k))), (16, .int (nI (c))), (15, .int (nI (t))), (14, .int (nI (v))), (13, .int (nI (z_nc S))), (12, .int (nI (z_nt S))), (11, .int (nI (kd))), (0, .ref (a 0)), (1, .ref (bx 0)), (2, .ref (bx 1)), (3, .ref (bx 2)), (4, .ref (bx 3)), (5, .ref (bx 4)), (6, .ref (bx 5)), (7, .ref (bx 6)), (8, .ref (bx 7)), (9, .int (u0)), (10, .int (u1))] [] ((wA cI bx (z_U S) (z_C S) (z_D S) (g9 S) (z_B S) (f9 S) qf (n9 (z_no S) (z_li S) (z_wi S) (z_bu S) (z_qn S))) ++ wX cI cZ cQ a S) := by
                        intro n640
                        induction n640 with
                        | zero => intro k hm640 hk; exact absurd hm640 (Nat.not_lt_zero _)
                        | succ n640 ih640 =>
                          intro k hm640 hk
                          refine v_iload E dL_acts_640 1 rfl ?_
                          refine v_aload E dL_acts_642 16 rfl ?_
                          refine v_iconst E dL_acts_644 (v := nI 4) rfl ?_
                          refine v_iald E dL_acts_645 (v := nI (z_qn S)) 7 0 rfl rfl (by omega) (by decide) rfl ?_
                          refine n_icmp_ge E dL_acts_646 (by omega) (by omega) (tgt := 677) (by decide) (fun c646 => ?_) (fun c646 => ?_)
                          · have hkq : k = z_qn S := by omega
                            have hin := in9_plc (Q := z_Q S) (t := t) (z_qn S)
                            refine v_aload E dL_acts_677 12 rfl ?_
                            refine v_iload E dL_acts_679 3 rfl ?_
                            refine v_iald E dL_acts_681 (v := nI (z_G S t)) 3 0 rfl rfl (by omega) (by decide) (g9_t ht hT) ?_
                            refine n_if_lt E dL_acts_682 (by omega) (tgt := 690) (by decide) (fun c682 => ?_) (fun c682 => ?_)
                            · exact c682.elim
                            · refine v_iload E dL_acts_685 0 rfl ?_
                              refine b_if_eq E dL_acts_687 (tgt := 707) (by decide) (fun c687 => ?_) (fun c687 => ?_)
                              · exact absurd (hin.mp (by rw [← hkq]; exact c687)) hp
                              · refine v_aload_n E dL_acts_690 8 rfl rfl ?_
                                refine v_iload E dL_acts_691 3 rfl ?_
                                refine x_cSn E hA hTx dL_acts_693 (l_enqueueQ l D cI cZ cQ cJ a S hok hl (wA cI bx (z_U S) (z_C S) (z_D S) (g9 S) (z_B S) (f9 S) qf (n9 (z_no S) (z_li S) (z_wi S) (z_bu S) (z_qn S))) t ht hT hp) (vx_cwSW 2 E.2.2.2.1 gL_acts_L_enqueue rfl rfl rfl (by decide +kernel) ⟨Nat.le_of_ble_eq_true rfl, Nat.le_of_ble_eq_true rfl⟩) rfl rfl ⟨(by show _ ≤ 1002; omega), (by show _ ≤ 6012; omega)⟩ (Nat.le_of_ble_eq_true rfl) ?_
                                refine v_ldc E dL_acts_696 (v := -1000003) (x := (-1000003)) (by decide +kernel) rfl ?_
                                refine v_icmp_ne E dL_acts_698 (tgt := 705) (by decide) (fun c698 => ?_) (fun c698 => ?_)
                                · exact absurd rfl c698
                                · refine v_iconst E dL_acts_701 (v := nI 1) rfl ?_
                                  refine v_goto E dL_acts_702 (tgt := 706) (by decide) ?_
                                  exact y_retz E hr rfl rfl rfl rfl (by omega) (by omega) dL_acts_706
                          · have hqT := hok.2.2.2.1.1 k c646
                            have hqt := (hok.2.2.1 _ hqT).1
                            refine v_iload E dL_acts_649 0 rfl ?_
                            have J669_3 : V p9 l e9 (headSpec wsL_acts { frames := 10, cells := 1002, slots := 6012, locals := 193 }).room s9 m9 as9 bl9 me9 cd9 (0) (0) (vx_MQ bl9 (v_Qo D (wTy cI cZ cQ cJ) (0 = 0) (some (.int (nI 1))) ((wA cI bx (z_U S) (z_C S) (z_D S) (g9 S) (z_B S) (f9 S) qf (n9 (z_no S) (z_li S) (z_wi S) (z_bu S) (z_qn S))) ++ wX cI cZ cQ a S) A) (v_XC D (wTy cI cZ cQ cJ) 0 exI ((wA cI bx (z_U S) (z_C S) (z_D S) (g9 S) (z_B S) (f9 S) qf (n9 (z_no S) (z_li S) (z_wi S) (z_bu S) (z_qn S))) ++ wX cI cZ cQ a S) A) as9 s9 1002 6012 A) (v_rw D A s9) 20 669 [(17, .int (bI (in9 (z_Q S) t k))), (18, .int (nI (k))), (16, .int (nI (c))), (15, .int (nI (t))), (14, .int (nI (v))), (13, .int (nI (z_nc S))), (12, .int (nI (z_nt S))), (11, .int (nI (kd))), (0, .ref (a 0)), (1, .ref (bx 0)), (2, .ref (bx 1)), (3, .ref (bx 2)), (4, .ref (bx 3)), (5, .ref (bx 4)), (6, .ref (bx 5)), (7, .ref (bx 6)), (8, .ref (bx 7)), (9, .int (u0)), (10, .int (u1))] [.int (bI (in9 (z_Q S) t (k + 1)))] ((wA cI bx (z_U S) (z_C S) (z_D S) (g9 S) (z_B S) (f9 S) qf (n9 (z_no S) (z_li S) (z_wi S) (z_bu S) (z_qn S))) ++ wX cI cZ cQ a S) := by
                              refine v_istore E dL_acts_669 (by decide) rfl ?_
                              refine v_iinc E dL_acts_671 1 rfl (nI_1 _) (by decide) rfl ?_
                              refine v_goto E dL_acts_674 (tgt := 640) (by decide) ?_
                              refine v_lv [1, 0, 2, 3, 4, 5, 6, 7, 8, 9, 10, 11, 12, 13, 14, 15, 16, 17, 18] rfl ?_
                              exact ih640 (k + 1) (by omega) (by omega)
                            refine b_if_ne E dL_acts_651 (tgt := 664) (by decide) (fun c651 => ?_) (fun c651 => ?_)
                            · refine v_iconst E dL_acts_664 (v := nI 1) rfl ?_
                              refine v_goto E dL_acts_665 (tgt := 669) (by decide) ?_
                              refine v_top (y := bI (in9 (z_Q S) t (k + 1))) (by rw [in9_t c651]; rfl) ?_
                              exact J669_3
                            · refine v_aload E dL_acts_654 15 rfl ?_
                              refine v_iload E dL_acts_656 1 rfl ?_
                              refine v_iald E dL_acts_658 (v := nI (z_Q S k)) 6 0 rfl rfl (by omega) (by decide) (congrArg nI (hq k c646)) ?_
                              refine v_iload E dL_acts_659 3 rfl ?_
                              refine n_icmp_ne E dL_acts_661 (by omega) (by omega) (tgt := 668) (by decide) (fun c661 => ?_) (fun c661 => ?_)
                              · refine v_iconst E dL_acts_668 (v := nI 0) rfl ?_
                                refine v_top (y := bI (in9 (z_Q S) t (k + 1))) (by rw [in9_n c651 c661]; rfl) ?_
                                exact J669_3
                              · refine v_iconst E dL_acts_664 (v := nI 1) rfl ?_
                                refine v_goto E dL_acts_665 (tgt := 669) (by decide) ?_
                                refine v_top (y := bI (in9 (z_Q S) t (k + 1))) (by rw [in9_e c661]; rfl) ?_
                                exact J669_3
                      refine v_lv [1, 0, 2, 3, 4, 5, 6, 7, 8, 9, 10, 11, 12, 13, 14, 15, 16, 17, 18] rfl ?_
                      exact L640_2 (z_qn S - (0) + 1) (0) (by omega) (by omega)
                  · exact absurd c584 (by omega)
                · exact absurd c459 (by omega)
              · exact absurd c321 (by omega)
            · exact absurd c230 (by omega)
          · exact absurd c151 (by omega)
      · exact absurd c80 (by omega)
  refine n_if_ne E dL_acts_51 (by omega) (tgt := 69) (by decide) (fun c51 => ?_) (fun c51 => ?_)
  · refine v_iconst E dL_acts_69 (v := nI 0) rfl ?_
    refine v_top (y := nI ((if lo9 (u1 >>> (nI (8) &&& 31)) % 3 = 0 then 2 ^ (lo9 (u1 >>> (nI (10) &&& 31)) % 16) else 0))) (by rw [if_neg (by omega)]) ?_
    exact J70_1
  · refine v_iconst E dL_acts_54 (v := nI 1) rfl ?_
    refine v_iload E dL_acts_55 13 rfl ?_
    refine v_bipush E dL_acts_57 (v := nI 10) rfl ?_
    refine v_ishr E dL_acts_59 (z := ((u1 >>> (nI (10) &&& 31)))) rfl ?_
    refine v_bipush E dL_acts_60 (v := nI 16) rfl ?_
    refine v_cSi' E dL_acts_62 (x_L_low l D cI cZ cQ cJ (((u1 >>> (nI (10) &&& 31)))) (16) (by omega) (by omega)) (va_cwS 2 E.2.2.2.1 gL_acts_L_low rfl rfl rfl (by decide +kernel) ⟨Nat.le_of_ble_eq_true rfl, Nat.le_of_ble_eq_true rfl⟩) (fun _ _ => v_nil _) rfl rfl ⟨(by show _ ≤ 1002; omega), (by show _ ≤ 6012; omega)⟩ (Nat.le_of_ble_eq_true rfl) ?_
    refine v_ishl E dL_acts_65 (n_shl1 (by omega)) ?_
    refine v_goto E dL_acts_66 (tgt := 70) (by decide) ?_
    refine v_top (y := nI ((if lo9 (u1 >>> (nI (8) &&& 31)) % 3 = 0 then 2 ^ (lo9 (u1 >>> (nI (10) &&& 31)) % 16) else 0))) (by rw [if_pos c51]) ?_
    exact J70_1
set_option maxHeartbeats 8000000 in
set_option maxRecDepth 100000 in
theorem z_acts_G3 (l : Launch) (D : va_G) (cI cZ cQ cJ : ClassId) (a bx : Nat → Nat) (S : zS) (hok : zOK S) (hl : l.stackTraces = false) (qf : Nat → Nat) (u0 u1 : Int32) (kd v : Nat) (t c : Nat) (ekd : lo9 u0 % 24 = kd) (est : st9 u1 = v)(et : lo9 (u0 >>> (nI (5) &&& 31)) % z_nt S = t) (ec : lo9 u1 % z_nc S = c) (hnt : 0 < z_nt S) (hnc : 0 < z_nc S)(hkd6 : 11 ≤ kd ∧ kd < 13) (hq : ∀ i, i < z_qn S → qf i = z_Q S i)(hT : z_T S t = true) (hp : plc (z_Q S) (z_qn S) t = 0) : v_Thr l yL_acts wsL_acts { frames := 10, cells := 1002, slots := 6012, locals := 193 } D (wTy cI cZ cQ cJ) [.ref (a 0), .ref (bx 0), .ref (bx 1), .ref (bx 2), .ref (bx 3), .ref (bx 4), .ref (bx 5), .ref (bx 6), .ref (bx 7), .int (u0), .int (u1)] ((wA cI bx (z_U S) (z_C S) (z_D S) (g9 S) (z_B S) (f9 S) qf (n9 (z_no S) (z_li S) (z_wi S) (z_bu S) (z_qn S))) ++ wX cI cZ cQ a S) 0 exI (some (.int (nI 1))) ((wA cI bx (z_U ((sjn S t))) (z_C ((sjn S t))) (z_D ((sjn S t))) (g9 ((sjn S t))) (z_B ((sjn S t))) (f9 ((sjn S t))) (va_up qf (z_qn S) t) (n9 (z_no ((sjn S t))) (z_li ((sjn S t))) (z_wi ((sjn S t))) (z_bu ((sjn S t))) (z_qn ((sjn S t))))) ++ wX cI cZ cQ a ((sjn S t))) 1002 6012 := by
  refine v_thrower (cc := cL_acts) (maxL := 20) (ret := (some .boolean)) (own := RL) (lv0 := [(0, .ref (a 0)), (1, .ref (bx 0)), (2, .ref (bx 1)), (3, .ref (bx 2)), (4, .ref (bx 3)), (5, .ref (bx 4)), (6, .ref (bx 5)), (7, .ref (bx 6)), (8, .ref (bx 7)), (9, .int (u0)), (10, .int (u1))]) (by decide) rfl rfl (Nat.le_of_ble_eq_true rfl) rfl ?_
  intro p9 e9 s9 m9 as9 bl9 me9 cd9 A E hA htab hTx hr
  have hn1 := hok.1.1
  have hn2 := hok.1.2.1
  have hkd : kd < 24 := by rw [← ekd]; exact Nat.mod_lt _ (by decide)
  have hv : v < 65536 := by rw [← est]; exact st9_lt u1
  have hqn := zqn_le hok
  have ht : t < z_nt S := by rw [← et]; exact Nat.mod_lt _ hnt
  have hc : c < z_nc S := by rw [← ec]; exact Nat.mod_lt _ hnc
  obtain ⟨hT1, hT2, hT3⟩ := hok.2.2.1 t hT
  have hout : ∀ k, k < z_qn S → z_Q S k ≠ t := fun k hk => plc_n hp hok.2.2.2.1.2 hk
  have hok2 := zOK_jn hok hT hout
  have hqn2 : z_qn S + 1 ≤ z_nt S := zqn_le hok2
  refine v_iload E dL_acts_0 9 rfl ?_
  refine v_bipush E dL_acts_2 (v := nI 24) rfl ?_
  refine v_cSi' E dL_acts_4 (x_L_low l D cI cZ cQ cJ ((u0)) (24) (by omega) (by omega)) (va_cwS 2 E.2.2.2.1 gL_acts_L_low rfl rfl rfl (by decide +kernel) ⟨Nat.le_of_ble_eq_true rfl, Nat.le_of_ble_eq_true rfl⟩) (fun _ _ => v_nil _) rfl rfl ⟨(by show _ ≤ 1002; omega), (by show _ ≤ 6012; omega)⟩ (Nat.le_of_ble_eq_true rfl) ?_
  refine v_top (y := nI (kd)) (congrArg nI ekd) ?_
  refine v_istore E dL_acts_7 (by decide) rfl ?_
  refine v_aload_n E dL_acts_9 1 rfl rfl ?_
  refine v_cVi' E dL_acts_10 (x_X1_tests l D cI cZ cQ cJ a S hok) (cwV 0 E.2.2.2.1 gL_acts_X1_tests rfl rfl rfl (by decide +kernel) ⟨Nat.le_of_ble_eq_true rfl, Nat.le_of_ble_eq_true rfl⟩) 8 rfl rfl rfl (fun H h => subR H h) rfl rfl ⟨(by show _ ≤ 1002; omega), (by show _ ≤ 6012; omega)⟩ (Nat.le_of_ble_eq_true rfl) ?_
  refine v_istore E dL_acts_13 (by decide) rfl ?_
  refine v_aload_n E dL_acts_15 2 rfl rfl ?_
  refine v_cVi' E dL_acts_16 (x_X1_commits l D cI cZ cQ cJ a S hok) (cwV 0 E.2.2.2.1 gL_acts_X1_commits rfl rfl rfl (by decide +kernel) ⟨Nat.le_of_ble_eq_true rfl, Nat.le_of_ble_eq_true rfl⟩) 8 rfl rfl rfl (fun H h => subR H h) rfl rfl ⟨(by show _ ≤ 1002; omega), (by show _ ≤ 6012; omega)⟩ (Nat.le_of_ble_eq_true rfl) ?_
  refine v_istore E dL_acts_19 (by decide) rfl ?_
  refine v_iconst E dL_acts_21 (v := nI 1) rfl ?_
  refine v_iload E dL_acts_22 13 rfl ?_
  refine v_bipush E dL_acts_24 (v := nI 16) rfl ?_
  refine v_cSi' E dL_acts_26 (x_L_low l D cI cZ cQ cJ ((u1)) (16) (by omega) (by omega)) (va_cwS 2 E.2.2.2.1 gL_acts_L_low rfl rfl rfl (by decide +kernel) ⟨Nat.le_of_ble_eq_true rfl, Nat.le_of_ble_eq_true rfl⟩) (fun _ _ => v_nil _) rfl rfl ⟨(by show _ ≤ 1002; omega), (by show _ ≤ 6012; omega)⟩ (Nat.le_of_ble_eq_true rfl) ?_
  refine v_ishl E dL_acts_29 (n_shl1 (by omega)) ?_
  refine v_iconst E dL_acts_30 (v := nI 1) rfl ?_
  refine v_iload E dL_acts_31 13 rfl ?_
  refine v_iconst E dL_acts_33 (v := nI 4) rfl ?_
  refine v_ishr E dL_acts_34 (z := ((u1 >>> (nI (4) &&& 31)))) rfl ?_
  refine v_bipush E dL_acts_35 (v := nI 6) rfl ?_
  refine v_cSi' E dL_acts_37 (x_L_low l D cI cZ cQ cJ (((u1 >>> (nI (4) &&& 31)))) (6) (by omega) (by omega)) (va_cwS 2 E.2.2.2.1 gL_acts_L_low rfl rfl rfl (by decide +kernel) ⟨Nat.le_of_ble_eq_true rfl, Nat.le_of_ble_eq_true rfl⟩) (fun _ _ => v_nil _) rfl rfl ⟨(by show _ ≤ 1002; omega), (by show _ ≤ 6012; omega)⟩ (Nat.le_of_ble_eq_true rfl) ?_
  refine v_ishl E dL_acts_40 (n_shl1 (by omega)) ?_
  refine v_ior E dL_acts_41 (nx_or _ _) ?_
  refine v_iload E dL_acts_42 13 rfl ?_
  refine v_bipush E dL_acts_44 (v := nI 8) rfl ?_
  refine v_ishr E dL_acts_46 (z := ((u1 >>> (nI (8) &&& 31)))) rfl ?_
  refine v_iconst E dL_acts_47 (v := nI 3) rfl ?_
  refine v_cSi' E dL_acts_48 (x_L_low l D cI cZ cQ cJ (((u1 >>> (nI (8) &&& 31)))) (3) (by omega) (by omega)) (va_cwS 2 E.2.2.2.1 gL_acts_L_low rfl rfl rfl (by decide +kernel) ⟨Nat.le_of_ble_eq_true rfl, Nat.le_of_ble_eq_true rfl⟩) (fun _ _ => v_nil _) rfl rfl ⟨(by show _ ≤ 1002; omega), (by show _ ≤ 6012; omega)⟩ (Nat.le_of_ble_eq_true rfl) ?_
  have J70_1 : V p9 l e9 (headSpec wsL_acts { frames := 10, cells := 1002, slots := 6012, locals := 193 }).room s9 m9 as9 bl9 me9 cd9 (0) (0) (vx_MQ bl9 (v_Qo D (wTy cI cZ cQ cJ) (0 = 0) (some (.int (nI 1))) ((wA cI bx (z_U ((sjn S t))) (z_C ((sjn S t))) (z_D ((sjn S t))) (g9 ((sjn S t))) (z_B ((sjn S t))) (f9 ((sjn S t))) (va_up qf (z_qn S) t) (n9 (z_no ((sjn S t))) (z_li ((sjn S t))) (z_wi ((sjn S t))) (z_bu ((sjn S t))) (z_qn ((sjn S t))))) ++ wX cI cZ cQ a ((sjn S t))) A) (v_XC D (wTy cI cZ cQ cJ) 0 exI ((wA cI bx (z_U S) (z_C S) (z_D S) (g9 S) (z_B S) (f9 S) qf (n9 (z_no S) (z_li S) (z_wi S) (z_bu S) (z_qn S))) ++ wX cI cZ cQ a S) A) as9 s9 1002 6012 A) (v_rw D A s9) 20 70 [(13, .int (nI (z_nc S))), (12, .int (nI (z_nt S))), (11, .int (nI (kd))), (0, .ref (a 0)), (1, .ref (bx 0)), (2, .ref (bx 1)), (3, .ref (bx 2)), (4, .ref (bx 3)), (5, .ref (bx 4)), (6, .ref (bx 5)), (7, .ref (bx 6)), (8, .ref (bx 7)), (9, .int (u0)), (10, .int (u1))] [.int (nI ((if lo9 (u1 >>> (nI (8) &&& 31)) % 3 = 0 then 2 ^ (lo9 (u1 >>> (nI (10) &&& 31)) % 16) else 0))), .int (nI ((2 ^ (lo9 ((u1)) % 16)) ||| (2 ^ (lo9 (((u1 >>> (nI (4) &&& 31)))) % 6))))] ((wA cI bx (z_U S) (z_C S) (z_D S) (g9 S) (z_B S) (f9 S) qf (n9 (z_no S) (z_li S) (z_wi S) (z_bu S) (z_qn S))) ++ wX cI cZ cQ a S) := by
    refine v_ior E dL_acts_70 (nx_or _ _) ?_
    refine v_top (y := nI (v)) (congrArg nI est) ?_
    refine v_istore E dL_acts_71 (by decide) rfl ?_
    refine v_iload E dL_acts_73 3 rfl ?_
    refine n_if_eq E dL_acts_75 (by omega) (tgt := 83) (by decide) (fun c75 => ?_) (fun c75 => ?_)
    · exact absurd c75 (by omega)
    · refine v_iload E dL_acts_78 2 rfl ?_
      refine n_if_ne E dL_acts_80 (by omega) (tgt := 142) (by decide) (fun c80 => ?_) (fun c80 => ?_)
      · refine v_iload E dL_acts_142 3 rfl ?_
        refine v_bipush E dL_acts_144 (v := nI 6) rfl ?_
        refine n_icmp_lt E dL_acts_146 (by omega) (by omega) (tgt := 154) (by decide) (fun c146 => ?_) (fun c146 => ?_)
        · exact absurd c146 (by omega)
        · refine v_iload E dL_acts_149 1 rfl ?_
          refine n_if_ne E dL_acts_151 (by omega) (tgt := 206) (by decide) (fun c151 => ?_) (fun c151 => ?_)
          · refine v_iload E dL_acts_206 13 rfl ?_
            refine v_iconst E dL_acts_208 (v := nI 5) rfl ?_
            refine v_ishr E dL_acts_209 (z := ((u0 >>> (nI (5) &&& 31)))) rfl ?_
            refine v_iload E dL_acts_210 2 rfl ?_
            refine v_cSi' E dL_acts_212 (x_L_low l D cI cZ cQ cJ (((u0 >>> (nI (5) &&& 31)))) (z_nt S) (by omega) (by omega)) (va_cwS 2 E.2.2.2.1 gL_acts_L_low rfl rfl rfl (by decide +kernel) ⟨Nat.le_of_ble_eq_true rfl, Nat.le_of_ble_eq_true rfl⟩) (fun _ _ => v_nil _) rfl rfl ⟨(by show _ ≤ 1002; omega), (by show _ ≤ 6012; omega)⟩ (Nat.le_of_ble_eq_true rfl) ?_
            refine v_top (y := nI (t)) (congrArg nI et) ?_
            refine v_istore E dL_acts_215 (by decide) rfl ?_
            refine v_iload E dL_acts_217 15 rfl ?_
            refine v_iload E dL_acts_219 2 rfl ?_
            refine v_cSi' E dL_acts_221 (x_L_low l D cI cZ cQ cJ ((u1)) (z_nc S) (by omega) (by omega)) (va_cwS 2 E.2.2.2.1 gL_acts_L_low rfl rfl rfl (by decide +kernel) ⟨Nat.le_of_ble_eq_true rfl, Nat.le_of_ble_eq_true rfl⟩) (fun _ _ => v_nil _) rfl rfl ⟨(by show _ ≤ 1002; omega), (by show _ ≤ 6012; omega)⟩ (Nat.le_of_ble_eq_true rfl) ?_
            refine v_top (y := nI (c)) (congrArg nI ec) ?_
            refine v_istore E dL_acts_224 (by decide) rfl ?_
            refine v_iload E dL_acts_226 5 rfl ?_
            refine v_bipush E dL_acts_228 (v := nI 6) rfl ?_
            refine n_icmp_ne E dL_acts_230 (by omega) (by omega) (tgt := 317) (by decide) (fun c230 => ?_) (fun c230 => ?_)
            · refine v_iload E dL_acts_317 5 rfl ?_
              refine v_bipush E dL_acts_319 (v := nI 7) rfl ?_
              refine n_icmp_ne E dL_acts_321 (by omega) (by omega) (tgt := 455) (by decide) (fun c321 => ?_) (fun c321 => ?_)
              · refine v_iload E dL_acts_455 5 rfl ?_
                refine v_bipush E dL_acts_457 (v := nI 10) rfl ?_
                refine n_icmp_ge E dL_acts_459 (by omega) (by omega) (tgt := 580) (by decide) (fun c459 => ?_) (fun c459 => ?_)
                · refine v_iload E dL_acts_580 5 rfl ?_
                  refine v_bipush E dL_acts_582 (v := nI 10) rfl ?_
                  refine n_icmp_ne E dL_acts_584 (by omega) (by omega) (tgt := 627) (by decide) (fun c584 => ?_) (fun c584 => ?_)
                  · refine v_iload E dL_acts_627 5 rfl ?_
                    refine v_bipush E dL_acts_629 (v := nI 13) rfl ?_
                    refine n_icmp_ge E dL_acts_631 (by omega) (by omega) (tgt := 743) (by decide) (fun c631 => ?_) (fun c631 => ?_)
                    · exact absurd c631 (by omega)
                    · refine v_iconst E dL_acts_634 (v := nI 0) rfl ?_
                      refine v_top (y := bI (in9 (z_Q S) t 0)) rfl ?_
                      refine v_istore E dL_acts_635 (by decide) rfl ?_
                      refine v_iconst E dL_acts_637 (v := nI 0) rfl ?_
                      refine v_istore E dL_acts_638 (by decide) rfl ?_
                      have L640_2 : ∀ (n640 : Nat) (k : Nat), z_qn S - k < n640 → (k ≤ z_qn S) → V p9 l e9 (headSpec wsL_acts { frames := 10, cells := 1002, slots := 6012, locals := 193 }).room s9 m9 as9 bl9 me9 cd9 (0) (0) (vx_MQ bl9 (v_Qo D (wTy cI cZ cQ cJ) (0 = 0) (some (.int (nI 1))) ((wA cI bx (z_U ((sjn S t))) (z_C ((sjn S t))) (z_D ((sjn S t))) (g9 ((sjn S t))) (z_B ((sjn S t))) (f9 ((sjn S t))) (va_up qf (z_qn S) t) (n9 (z_no ((sjn S t))) (z_li ((sjn S t))) (z_wi ((sjn S t))) (z_bu ((sjn S t))) (z_qn ((sjn S t))))) ++ wX cI cZ cQ a ((sjn S t))) A) (v_XC D (wTy cI cZ cQ cJ) 0 exI ((wA cI bx (z_U S) (z_C S) (z_D S) (g9 S) (z_B S) (f9 S) qf (n9 (z_no S) (z_li S) (z_wi S) (z_bu S) (z_qn S))) ++ wX cI cZ cQ a S) A) as9 s9 1002 6012 A) (v_rw D A s9) 20 640 [(17, .int (bI (in9 (z_Q S) t k))), (18, .int (nI (k))), (16, .int (nI (c))), (15, .int (nI (t))), (14, .int (nI (v))), (13, .int (nI (z_nc S))), (12, .int (nI (z_nt S))), (11, .int (nI (kd))), (0, .ref (a 0)), (1, .ref (bx 0)), (2, .ref (bx 1)), (3, .ref (bx 2)), (4, .ref (bx 3)), (5, .ref (bx 4)), (6, .ref (bx 5)), (7, .ref (bx 6)), (8, .ref (bx 7)), (9, .int (u0)), (10, .int (u1))] [] ((wA cI bx (z_U S) (z_C S) (z_D S) (g9 S) (z_B S) (f9 S) qf (n9 (z_no S) (z_li S) (z_wi S) (z_bu S) (z_qn S))) ++ wX cI cZ cQ a S) := by
                        intro n640
                        induction n640 with
                        | zero => intro k hm640 hk; exact absurd hm640 (Nat.not_lt_zero _)
                        | succ n640 ih640 =>
                          intro k hm640 hk
                          refine v_iload E dL_acts_640 1 rfl ?_
                          refine v_aload E dL_acts_642 16 rfl ?_
                          refine v_iconst E dL_acts_644 (v := nI 4) rfl ?_
                          refine v_iald E dL_acts_645 (v := nI (z_qn S)) 7 0 rfl rfl (by omega) (by decide) rfl ?_
                          refine n_icmp_ge E dL_acts_646 (by omega) (by omega) (tgt := 677) (by decide) (fun c646 => ?_) (fun c646 => ?_)
                          · have hkq : k = z_qn S := by omega
                            have hin := in9_plc (Q := z_Q S) (t := t) (z_qn S)
                            refine v_aload E dL_acts_677 12 rfl ?_
                            refine v_iload E dL_acts_679 3 rfl ?_
                            refine v_iald E dL_acts_681 (v := nI (z_G S t)) 3 0 rfl rfl (by omega) (by decide) (g9_t ht hT) ?_
                            refine n_if_lt E dL_acts_682 (by omega) (tgt := 690) (by decide) (fun c682 => ?_) (fun c682 => ?_)
                            · exact c682.elim
                            · refine v_iload E dL_acts_685 0 rfl ?_
                              refine b_if_eq E dL_acts_687 (tgt := 707) (by decide) (fun c687 => ?_) (fun c687 => ?_)
                              · refine v_aload E dL_acts_707 15 rfl ?_
                                refine v_aload E dL_acts_709 16 rfl ?_
                                refine v_iconst E dL_acts_711 (v := nI 4) rfl ?_
                                refine v_iald E dL_acts_712 (v := nI (z_qn S)) 7 0 rfl rfl (by omega) (by decide) rfl ?_
                                refine v_iload E dL_acts_713 3 rfl ?_
                                refine v_iast E dL_acts_715 6 0 rfl rfl (by omega) (by decide) (w' := ((wA cI bx (z_U S) (z_C S) (z_D S) (g9 S) (z_B S) (f9 S) (va_up qf (z_qn S) (t)) (n9 (z_no S) (z_li S) (z_wi S) (z_bu S) (z_qn S))) ++ wX cI cZ cQ a S)) (wA_q _ _) ?_
                                refine v_aload E dL_acts_716 16 rfl ?_
                                refine v_iconst E dL_acts_718 (v := nI 4) rfl ?_
                                refine v_dup2 E dL_acts_719 rfl rfl ?_
                                refine v_iald E dL_acts_720 (v := nI (z_qn S)) 7 0 rfl rfl (by omega) (by decide) rfl ?_
                                refine v_iconst E dL_acts_721 (v := nI 1) rfl ?_
                                refine v_iadd E dL_acts_722 (nI_add _ _) ?_
                                refine v_iast E dL_acts_723 7 0 rfl rfl (by omega) (by decide) (w' := ((wA cI bx (z_U S) (z_C S) (z_D S) (g9 S) (z_B S) (f9 S) (va_up qf (z_qn S) (t)) (n9 (z_no S) (z_li S) (z_wi S) (z_bu S) (z_qn S + 1))) ++ wX cI cZ cQ a S)) (wA_n4 _) ?_
                                refine v_aload_n E dL_acts_724 8 rfl rfl ?_
                                refine v_iload E dL_acts_725 3 rfl ?_
                                refine x_cSn E hA hTx dL_acts_727 (l_enqueue0 l D cI cZ cQ cJ a S hok hl (wA cI bx (z_U S) (z_C S) (z_D S) (g9 S) (z_B S) (f9 S) (va_up qf (z_qn S) (t)) (n9 (z_no S) (z_li S) (z_wi S) (z_bu S) (z_qn S + 1))) t ht hT hp) (vx_cwSW 2 E.2.2.2.1 gL_acts_L_enqueue rfl rfl rfl (by decide +kernel) ⟨Nat.le_of_ble_eq_true rfl, Nat.le_of_ble_eq_true rfl⟩) rfl rfl ⟨(by show _ ≤ 1002; omega), (by show _ ≤ 6012; omega)⟩ (Nat.le_of_ble_eq_true rfl) ?_
                                refine v_aload E dL_acts_730 16 rfl ?_
                                refine v_iconst E dL_acts_732 (v := nI 4) rfl ?_
                                refine v_iald E dL_acts_733 (v := nI (z_qn S + 1)) 7 0 rfl rfl (by omega) (by decide) rfl ?_
                                refine v_icmp_ne E dL_acts_734 (tgt := 741) (by decide) (fun c734 => ?_) (fun c734 => ?_)
                                · exact absurd rfl c734
                                · refine v_iconst E dL_acts_737 (v := nI 1) rfl ?_
                                  refine v_goto E dL_acts_738 (tgt := 742) (by decide) ?_
                                  exact y_retz E hr rfl rfl rfl rfl (by omega) (by omega) dL_acts_742
                              · exact absurd (hin.mpr hp) (by rw [← hkq, c687]; decide)
                          · have hqT := hok.2.2.2.1.1 k c646
                            have hqt := (hok.2.2.1 _ hqT).1
                            refine v_iload E dL_acts_649 0 rfl ?_
                            have J669_3 : V p9 l e9 (headSpec wsL_acts { frames := 10, cells := 1002, slots := 6012, locals := 193 }).room s9 m9 as9 bl9 me9 cd9 (0) (0) (vx_MQ bl9 (v_Qo D (wTy cI cZ cQ cJ) (0 = 0) (some (.int (nI 1))) ((wA cI bx (z_U ((sjn S t))) (z_C ((sjn S t))) (z_D ((sjn S t))) (g9 ((sjn S t))) (z_B ((sjn S t))) (f9 ((sjn S t))) (va_up qf (z_qn S) t) (n9 (z_no ((sjn S t))) (z_li ((sjn S t))) (z_wi ((sjn S t))) (z_bu ((sjn S t))) (z_qn ((sjn S t))))) ++ wX cI cZ cQ a ((sjn S t))) A) (v_XC D (wTy cI cZ cQ cJ) 0 exI ((wA cI bx (z_U S) (z_C S) (z_D S) (g9 S) (z_B S) (f9 S) qf (n9 (z_no S) (z_li S) (z_wi S) (z_bu S) (z_qn S))) ++ wX cI cZ cQ a S) A) as9 s9 1002 6012 A) (v_rw D A s9) 20 669 [(17, .int (bI (in9 (z_Q S) t k))), (18, .int (nI (k))), (16, .int (nI (c))), (15, .int (nI (t))), (14, .int (nI (v))), (13, .int (nI (z_nc S))), (12, .int (nI (z_nt S))), (11, .int (nI (kd))), (0, .ref (a 0)), (1, .ref (bx 0)), (2, .ref (bx 1)), (3, .ref (bx 2)), (4, .ref (bx 3)), (5, .ref (bx 4)), (6, .ref (bx 5)), (7, .ref (bx 6)), (8, .ref (bx 7)), (9, .int (u0)), (10, .int (u1))] [.int (bI (in9 (z_Q S) t (k + 1)))] ((wA cI bx (z_U S) (z_C S) (z_D S) (g9 S) (z_B S) (f9 S) qf (n9 (z_no S) (z_li S) (z_wi S) (z_bu S) (z_qn S))) ++ wX cI cZ cQ a S) := by
                              refine v_istore E dL_acts_669 (by decide) rfl ?_
                              refine v_iinc E dL_acts_671 1 rfl (nI_1 _) (by decide) rfl ?_
                              refine v_goto E dL_acts_674 (tgt := 640) (by decide) ?_
                              refine v_lv [1, 0, 2, 3, 4, 5, 6, 7, 8, 9, 10, 11, 12, 13, 14, 15, 16, 17, 18] rfl ?_
                              exact ih640 (k + 1) (by omega) (by omega)
                            refine b_if_ne E dL_acts_651 (tgt := 664) (by decide) (fun c651 => ?_) (fun c651 => ?_)
                            · refine v_iconst E dL_acts_664 (v := nI 1) rfl ?_
                              refine v_goto E dL_acts_665 (tgt := 669) (by decide) ?_
                              refine v_top (y := bI (in9 (z_Q S) t (k + 1))) (by rw [in9_t c651]; rfl) ?_
                              exact J669_3
                            · refine v_aload E dL_acts_654 15 rfl ?_
                              refine v_iload E dL_acts_656 1 rfl ?_
                              refine v_iald E dL_acts_658 (v := nI (z_Q S k)) 6 0 rfl rfl (by omega) (by decide) (congrArg nI (hq k c646)) ?_
                              refine v_iload E dL_acts_659 3 rfl ?_
                              refine n_icmp_ne E dL_acts_661 (by omega) (by omega) (tgt := 668) (by decide) (fun c661 => ?_) (fun c661 => ?_)
                              · refine v_iconst E dL_acts_668 (v := nI 0) rfl ?_
                                refine v_top (y := bI (in9 (z_Q S) t (k + 1))) (by rw [in9_n c651 c661]; rfl) ?_
                                exact J669_3
                              · refine v_iconst E dL_acts_664 (v := nI 1) rfl ?_
                                refine v_goto E dL_acts_665 (tgt := 669) (by decide) ?_
                                refine v_top (y := bI (in9 (z_Q S) t (k + 1))) (by rw [in9_e c661]; rfl) ?_
                                exact J669_3
                      refine v_lv [1, 0, 2, 3, 4, 5, 6, 7, 8, 9, 10, 11, 12, 13, 14, 15, 16, 17, 18] rfl ?_
                      exact L640_2 (z_qn S - (0) + 1) (0) (by omega) (by omega)
                  · exact absurd c584 (by omega)
                · exact absurd c459 (by omega)
              · exact absurd c321 (by omega)
            · exact absurd c230 (by omega)
          · exact absurd c151 (by omega)
      · exact absurd c80 (by omega)
  refine n_if_ne E dL_acts_51 (by omega) (tgt := 69) (by decide) (fun c51 => ?_) (fun c51 => ?_)
  · refine v_iconst E dL_acts_69 (v := nI 0) rfl ?_
    refine v_top (y := nI ((if lo9 (u1 >>> (nI (8) &&& 31)) % 3 = 0 then 2 ^ (lo9 (u1 >>> (nI (10) &&& 31)) % 16) else 0))) (by rw [if_neg (by omega)]) ?_
    exact J70_1
  · refine v_iconst E dL_acts_54 (v := nI 1) rfl ?_
    refine v_iload E dL_acts_55 13 rfl ?_
    refine v_bipush E dL_acts_57 (v := nI 10) rfl ?_
    refine v_ishr E dL_acts_59 (z := ((u1 >>> (nI (10) &&& 31)))) rfl ?_
    refine v_bipush E dL_acts_60 (v := nI 16) rfl ?_
    refine v_cSi' E dL_acts_62 (x_L_low l D cI cZ cQ cJ (((u1 >>> (nI (10) &&& 31)))) (16) (by omega) (by omega)) (va_cwS 2 E.2.2.2.1 gL_acts_L_low rfl rfl rfl (by decide +kernel) ⟨Nat.le_of_ble_eq_true rfl, Nat.le_of_ble_eq_true rfl⟩) (fun _ _ => v_nil _) rfl rfl ⟨(by show _ ≤ 1002; omega), (by show _ ≤ 6012; omega)⟩ (Nat.le_of_ble_eq_true rfl) ?_
    refine v_ishl E dL_acts_65 (n_shl1 (by omega)) ?_
    refine v_goto E dL_acts_66 (tgt := 70) (by decide) ?_
    refine v_top (y := nI ((if lo9 (u1 >>> (nI (8) &&& 31)) % 3 = 0 then 2 ^ (lo9 (u1 >>> (nI (10) &&& 31)) % 16) else 0))) (by rw [if_pos c51]) ?_
    exact J70_1
set_option maxHeartbeats 8000000 in
set_option maxRecDepth 100000 in
theorem z_acts_I (l : Launch) (D : va_G) (cI cZ cQ cJ : ClassId) (a bx : Nat → Nat) (S : zS) (hok : zOK S) (hl : l.stackTraces = false) (qf : Nat → Nat) (u0 u1 : Int32) (kd v : Nat) (t c : Nat) (ekd : lo9 u0 % 24 = kd) (est : st9 u1 = v)(et : lo9 (u0 >>> (nI (5) &&& 31)) % z_nt S = t) (ec : lo9 u1 % z_nc S = c) (hnt : 0 < z_nt S) (hnc : 0 < z_nc S)(hkd6 : 14 ≤ kd ∧ kd < 16) (hq : ∀ i, i < z_qn S → qf i = z_Q S i) : v_Thr l yL_acts wsL_acts { frames := 10, cells := 1002, slots := 6012, locals := 193 } D (wTy cI cZ cQ cJ) [.ref (a 0), .ref (bx 0), .ref (bx 1), .ref (bx 2), .ref (bx 3), .ref (bx 4), .ref (bx 5), .ref (bx 6), .ref (bx 7), .int (u0), .int (u1)] ((wA cI bx (z_U S) (z_C S) (z_D S) (g9 S) (z_B S) (f9 S) qf (n9 (z_no S) (z_li S) (z_wi S) (z_bu S) (z_qn S))) ++ wX cI cZ cQ a S) 0 exI (some (.int (nI 1))) ((wA cI bx (z_U ((tk9 S))) (z_C ((tk9 S))) (z_D ((tk9 S))) (g9 ((tk9 S))) (z_B ((tk9 S))) (f9 ((tk9 S))) (qt9 S qf) (n9 (z_no ((tk9 S))) (z_li ((tk9 S))) (z_wi ((tk9 S))) (z_bu ((tk9 S))) (z_qn ((tk9 S))))) ++ wX cI cZ cQ a ((tk9 S))) 1002 6012 := by
  refine v_thrower (cc := cL_acts) (maxL := 20) (ret := (some .boolean)) (own := RL) (lv0 := [(0, .ref (a 0)), (1, .ref (bx 0)), (2, .ref (bx 1)), (3, .ref (bx 2)), (4, .ref (bx 3)), (5, .ref (bx 4)), (6, .ref (bx 5)), (7, .ref (bx 6)), (8, .ref (bx 7)), (9, .int (u0)), (10, .int (u1))]) (by decide) rfl rfl (Nat.le_of_ble_eq_true rfl) rfl ?_
  intro p9 e9 s9 m9 as9 bl9 me9 cd9 A E hA htab hTx hr
  have hn1 := hok.1.1
  have hn2 := hok.1.2.1
  have hkd : kd < 24 := by rw [← ekd]; exact Nat.mod_lt _ (by decide)
  have hv : v < 65536 := by rw [← est]; exact st9_lt u1
  have hqn := zqn_le hok
  have ht : t < z_nt S := by rw [← et]; exact Nat.mod_lt _ hnt
  have hc : c < z_nc S := by rw [← ec]; exact Nat.mod_lt _ hnc
  refine v_iload E dL_acts_0 9 rfl ?_
  refine v_bipush E dL_acts_2 (v := nI 24) rfl ?_
  refine v_cSi' E dL_acts_4 (x_L_low l D cI cZ cQ cJ ((u0)) (24) (by omega) (by omega)) (va_cwS 2 E.2.2.2.1 gL_acts_L_low rfl rfl rfl (by decide +kernel) ⟨Nat.le_of_ble_eq_true rfl, Nat.le_of_ble_eq_true rfl⟩) (fun _ _ => v_nil _) rfl rfl ⟨(by show _ ≤ 1002; omega), (by show _ ≤ 6012; omega)⟩ (Nat.le_of_ble_eq_true rfl) ?_
  refine v_top (y := nI (kd)) (congrArg nI ekd) ?_
  refine v_istore E dL_acts_7 (by decide) rfl ?_
  refine v_aload_n E dL_acts_9 1 rfl rfl ?_
  refine v_cVi' E dL_acts_10 (x_X1_tests l D cI cZ cQ cJ a S hok) (cwV 0 E.2.2.2.1 gL_acts_X1_tests rfl rfl rfl (by decide +kernel) ⟨Nat.le_of_ble_eq_true rfl, Nat.le_of_ble_eq_true rfl⟩) 8 rfl rfl rfl (fun H h => subR H h) rfl rfl ⟨(by show _ ≤ 1002; omega), (by show _ ≤ 6012; omega)⟩ (Nat.le_of_ble_eq_true rfl) ?_
  refine v_istore E dL_acts_13 (by decide) rfl ?_
  refine v_aload_n E dL_acts_15 2 rfl rfl ?_
  refine v_cVi' E dL_acts_16 (x_X1_commits l D cI cZ cQ cJ a S hok) (cwV 0 E.2.2.2.1 gL_acts_X1_commits rfl rfl rfl (by decide +kernel) ⟨Nat.le_of_ble_eq_true rfl, Nat.le_of_ble_eq_true rfl⟩) 8 rfl rfl rfl (fun H h => subR H h) rfl rfl ⟨(by show _ ≤ 1002; omega), (by show _ ≤ 6012; omega)⟩ (Nat.le_of_ble_eq_true rfl) ?_
  refine v_istore E dL_acts_19 (by decide) rfl ?_
  refine v_iconst E dL_acts_21 (v := nI 1) rfl ?_
  refine v_iload E dL_acts_22 13 rfl ?_
  refine v_bipush E dL_acts_24 (v := nI 16) rfl ?_
  refine v_cSi' E dL_acts_26 (x_L_low l D cI cZ cQ cJ ((u1)) (16) (by omega) (by omega)) (va_cwS 2 E.2.2.2.1 gL_acts_L_low rfl rfl rfl (by decide +kernel) ⟨Nat.le_of_ble_eq_true rfl, Nat.le_of_ble_eq_true rfl⟩) (fun _ _ => v_nil _) rfl rfl ⟨(by show _ ≤ 1002; omega), (by show _ ≤ 6012; omega)⟩ (Nat.le_of_ble_eq_true rfl) ?_
  refine v_ishl E dL_acts_29 (n_shl1 (by omega)) ?_
  refine v_iconst E dL_acts_30 (v := nI 1) rfl ?_
  refine v_iload E dL_acts_31 13 rfl ?_
  refine v_iconst E dL_acts_33 (v := nI 4) rfl ?_
  refine v_ishr E dL_acts_34 (z := ((u1 >>> (nI (4) &&& 31)))) rfl ?_
  refine v_bipush E dL_acts_35 (v := nI 6) rfl ?_
  refine v_cSi' E dL_acts_37 (x_L_low l D cI cZ cQ cJ (((u1 >>> (nI (4) &&& 31)))) (6) (by omega) (by omega)) (va_cwS 2 E.2.2.2.1 gL_acts_L_low rfl rfl rfl (by decide +kernel) ⟨Nat.le_of_ble_eq_true rfl, Nat.le_of_ble_eq_true rfl⟩) (fun _ _ => v_nil _) rfl rfl ⟨(by show _ ≤ 1002; omega), (by show _ ≤ 6012; omega)⟩ (Nat.le_of_ble_eq_true rfl) ?_
  refine v_ishl E dL_acts_40 (n_shl1 (by omega)) ?_
  refine v_ior E dL_acts_41 (nx_or _ _) ?_
  refine v_iload E dL_acts_42 13 rfl ?_
  refine v_bipush E dL_acts_44 (v := nI 8) rfl ?_
  refine v_ishr E dL_acts_46 (z := ((u1 >>> (nI (8) &&& 31)))) rfl ?_
  refine v_iconst E dL_acts_47 (v := nI 3) rfl ?_
  refine v_cSi' E dL_acts_48 (x_L_low l D cI cZ cQ cJ (((u1 >>> (nI (8) &&& 31)))) (3) (by omega) (by omega)) (va_cwS 2 E.2.2.2.1 gL_acts_L_low rfl rfl rfl (by decide +kernel) ⟨Nat.le_of_ble_eq_true rfl, Nat.le_of_ble_eq_true rfl⟩) (fun _ _ => v_nil _) rfl rfl ⟨(by show _ ≤ 1002; omega), (by show _ ≤ 6012; omega)⟩ (Nat.le_of_ble_eq_true rfl) ?_
  have J70_1 : V p9 l e9 (headSpec wsL_acts { frames := 10, cells := 1002, slots := 6012, locals := 193 }).room s9 m9 as9 bl9 me9 cd9 (0) (0) (vx_MQ bl9 (v_Qo D (wTy cI cZ cQ cJ) (0 = 0) (some (.int (nI 1))) ((wA cI bx (z_U ((tk9 S))) (z_C ((tk9 S))) (z_D ((tk9 S))) (g9 ((tk9 S))) (z_B ((tk9 S))) (f9 ((tk9 S))) (qt9 S qf) (n9 (z_no ((tk9 S))) (z_li ((tk9 S))) (z_wi ((tk9 S))) (z_bu ((tk9 S))) (z_qn ((tk9 S))))) ++ wX cI cZ cQ a ((tk9 S))) A) (v_XC D (wTy cI cZ cQ cJ) 0 exI ((wA cI bx (z_U S) (z_C S) (z_D S) (g9 S) (z_B S) (f9 S) qf (n9 (z_no S) (z_li S) (z_wi S) (z_bu S) (z_qn S))) ++ wX cI cZ cQ a S) A) as9 s9 1002 6012 A) (v_rw D A s9) 20 70 [(13, .int (nI (z_nc S))), (12, .int (nI (z_nt S))), (11, .int (nI (kd))), (0, .ref (a 0)), (1, .ref (bx 0)), (2, .ref (bx 1)), (3, .ref (bx 2)), (4, .ref (bx 3)), (5, .ref (bx 4)), (6, .ref (bx 5)), (7, .ref (bx 6)), (8, .ref (bx 7)), (9, .int (u0)), (10, .int (u1))] [.int (nI ((if lo9 (u1 >>> (nI (8) &&& 31)) % 3 = 0 then 2 ^ (lo9 (u1 >>> (nI (10) &&& 31)) % 16) else 0))), .int (nI ((2 ^ (lo9 ((u1)) % 16)) ||| (2 ^ (lo9 (((u1 >>> (nI (4) &&& 31)))) % 6))))] ((wA cI bx (z_U S) (z_C S) (z_D S) (g9 S) (z_B S) (f9 S) qf (n9 (z_no S) (z_li S) (z_wi S) (z_bu S) (z_qn S))) ++ wX cI cZ cQ a S) := by
    refine v_ior E dL_acts_70 (nx_or _ _) ?_
    refine v_top (y := nI (v)) (congrArg nI est) ?_
    refine v_istore E dL_acts_71 (by decide) rfl ?_
    refine v_iload E dL_acts_73 3 rfl ?_
    refine n_if_eq E dL_acts_75 (by omega) (tgt := 83) (by decide) (fun c75 => ?_) (fun c75 => ?_)
    · exact absurd c75 (by omega)
    · refine v_iload E dL_acts_78 2 rfl ?_
      refine n_if_ne E dL_acts_80 (by omega) (tgt := 142) (by decide) (fun c80 => ?_) (fun c80 => ?_)
      · refine v_iload E dL_acts_142 3 rfl ?_
        refine v_bipush E dL_acts_144 (v := nI 6) rfl ?_
        refine n_icmp_lt E dL_acts_146 (by omega) (by omega) (tgt := 154) (by decide) (fun c146 => ?_) (fun c146 => ?_)
        · exact absurd c146 (by omega)
        · refine v_iload E dL_acts_149 1 rfl ?_
          refine n_if_ne E dL_acts_151 (by omega) (tgt := 206) (by decide) (fun c151 => ?_) (fun c151 => ?_)
          · refine v_iload E dL_acts_206 13 rfl ?_
            refine v_iconst E dL_acts_208 (v := nI 5) rfl ?_
            refine v_ishr E dL_acts_209 (z := ((u0 >>> (nI (5) &&& 31)))) rfl ?_
            refine v_iload E dL_acts_210 2 rfl ?_
            refine v_cSi' E dL_acts_212 (x_L_low l D cI cZ cQ cJ (((u0 >>> (nI (5) &&& 31)))) (z_nt S) (by omega) (by omega)) (va_cwS 2 E.2.2.2.1 gL_acts_L_low rfl rfl rfl (by decide +kernel) ⟨Nat.le_of_ble_eq_true rfl, Nat.le_of_ble_eq_true rfl⟩) (fun _ _ => v_nil _) rfl rfl ⟨(by show _ ≤ 1002; omega), (by show _ ≤ 6012; omega)⟩ (Nat.le_of_ble_eq_true rfl) ?_
            refine v_top (y := nI (t)) (congrArg nI et) ?_
            refine v_istore E dL_acts_215 (by decide) rfl ?_
            refine v_iload E dL_acts_217 15 rfl ?_
            refine v_iload E dL_acts_219 2 rfl ?_
            refine v_cSi' E dL_acts_221 (x_L_low l D cI cZ cQ cJ ((u1)) (z_nc S) (by omega) (by omega)) (va_cwS 2 E.2.2.2.1 gL_acts_L_low rfl rfl rfl (by decide +kernel) ⟨Nat.le_of_ble_eq_true rfl, Nat.le_of_ble_eq_true rfl⟩) (fun _ _ => v_nil _) rfl rfl ⟨(by show _ ≤ 1002; omega), (by show _ ≤ 6012; omega)⟩ (Nat.le_of_ble_eq_true rfl) ?_
            refine v_top (y := nI (c)) (congrArg nI ec) ?_
            refine v_istore E dL_acts_224 (by decide) rfl ?_
            refine v_iload E dL_acts_226 5 rfl ?_
            refine v_bipush E dL_acts_228 (v := nI 6) rfl ?_
            refine n_icmp_ne E dL_acts_230 (by omega) (by omega) (tgt := 317) (by decide) (fun c230 => ?_) (fun c230 => ?_)
            · refine v_iload E dL_acts_317 5 rfl ?_
              refine v_bipush E dL_acts_319 (v := nI 7) rfl ?_
              refine n_icmp_ne E dL_acts_321 (by omega) (by omega) (tgt := 455) (by decide) (fun c321 => ?_) (fun c321 => ?_)
              · refine v_iload E dL_acts_455 5 rfl ?_
                refine v_bipush E dL_acts_457 (v := nI 10) rfl ?_
                refine n_icmp_ge E dL_acts_459 (by omega) (by omega) (tgt := 580) (by decide) (fun c459 => ?_) (fun c459 => ?_)
                · refine v_iload E dL_acts_580 5 rfl ?_
                  refine v_bipush E dL_acts_582 (v := nI 10) rfl ?_
                  refine n_icmp_ne E dL_acts_584 (by omega) (by omega) (tgt := 627) (by decide) (fun c584 => ?_) (fun c584 => ?_)
                  · refine v_iload E dL_acts_627 5 rfl ?_
                    refine v_bipush E dL_acts_629 (v := nI 13) rfl ?_
                    refine n_icmp_ge E dL_acts_631 (by omega) (by omega) (tgt := 743) (by decide) (fun c631 => ?_) (fun c631 => ?_)
                    · refine v_iload E dL_acts_743 5 rfl ?_
                      refine v_bipush E dL_acts_745 (v := nI 13) rfl ?_
                      refine n_icmp_ne E dL_acts_747 (by omega) (by omega) (tgt := 806) (by decide) (fun c747 => ?_) (fun c747 => ?_)
                      · refine v_iload E dL_acts_806 5 rfl ?_
                        refine v_bipush E dL_acts_808 (v := nI 16) rfl ?_
                        refine n_icmp_ge E dL_acts_810 (by omega) (by omega) (tgt := 822) (by decide) (fun c810 => ?_) (fun c810 => ?_)
                        · exact absurd c810 (by omega)
                        · refine v_aload_n E dL_acts_813 6 rfl rfl ?_
                          refine v_aload E dL_acts_814 13 rfl ?_
                          refine v_aload E dL_acts_816 14 rfl ?_
                          refine x_cSz E hA hTx dL_acts_818 (z_takes l D cI cZ cQ cJ a bx S hok hl qf hq) (va_cwS 3 E.2.2.2.1 gL_acts_L_takes rfl rfl rfl (by decide +kernel) ⟨Nat.le_of_ble_eq_true rfl, Nat.le_of_ble_eq_true rfl⟩) rfl rfl ⟨(by show _ ≤ 1002; omega), (by show _ ≤ 6012; omega)⟩ (Nat.le_of_ble_eq_true rfl) ?_
                          exact y_retz E hr rfl rfl rfl rfl (by omega) (by omega) dL_acts_821
                      · exact absurd c747 (by omega)
                    · exact absurd c631 (by omega)
                  · exact absurd c584 (by omega)
                · exact absurd c459 (by omega)
              · exact absurd c321 (by omega)
            · exact absurd c230 (by omega)
          · exact absurd c151 (by omega)
      · exact absurd c80 (by omega)
  refine n_if_ne E dL_acts_51 (by omega) (tgt := 69) (by decide) (fun c51 => ?_) (fun c51 => ?_)
  · refine v_iconst E dL_acts_69 (v := nI 0) rfl ?_
    refine v_top (y := nI ((if lo9 (u1 >>> (nI (8) &&& 31)) % 3 = 0 then 2 ^ (lo9 (u1 >>> (nI (10) &&& 31)) % 16) else 0))) (by rw [if_neg (by omega)]) ?_
    exact J70_1
  · refine v_iconst E dL_acts_54 (v := nI 1) rfl ?_
    refine v_iload E dL_acts_55 13 rfl ?_
    refine v_bipush E dL_acts_57 (v := nI 10) rfl ?_
    refine v_ishr E dL_acts_59 (z := ((u1 >>> (nI (10) &&& 31)))) rfl ?_
    refine v_bipush E dL_acts_60 (v := nI 16) rfl ?_
    refine v_cSi' E dL_acts_62 (x_L_low l D cI cZ cQ cJ (((u1 >>> (nI (10) &&& 31)))) (16) (by omega) (by omega)) (va_cwS 2 E.2.2.2.1 gL_acts_L_low rfl rfl rfl (by decide +kernel) ⟨Nat.le_of_ble_eq_true rfl, Nat.le_of_ble_eq_true rfl⟩) (fun _ _ => v_nil _) rfl rfl ⟨(by show _ ≤ 1002; omega), (by show _ ≤ 6012; omega)⟩ (Nat.le_of_ble_eq_true rfl) ?_
    refine v_ishl E dL_acts_65 (n_shl1 (by omega)) ?_
    refine v_goto E dL_acts_66 (tgt := 70) (by decide) ?_
    refine v_top (y := nI ((if lo9 (u1 >>> (nI (8) &&& 31)) % 3 = 0 then 2 ^ (lo9 (u1 >>> (nI (10) &&& 31)) % 16) else 0))) (by rw [if_pos c51]) ?_
    exact J70_1
