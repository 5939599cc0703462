/-! ===== the law: culprits ===== -/
set_option maxHeartbeats 8000000 in
set_option maxRecDepth 100000 in
theorem z_culprits (l : Launch) (D : va_G) (cI cZ cQ cJ : ClassId) (a bx : Nat → Nat) (S : zS) (hok : zOK S) (hl : l.stackTraces = false) (qf : Nat → Nat) (t : Nat) (ht : t < z_nt S) : v_Thr l yL_culprits wsL_culprits { frames := 9, cells := 328, slots := 1968, locals := 162 } D (wTy cI cZ cQ cJ) [.ref (a 0), .ref (bx 3), .ref (bx 4), .ref (bx 7), .int (nI (t))] ((wA cI bx (z_U S) (z_C S) (z_D S) (g9 S) (z_B S) (f9 S) qf (n9 (z_no S) (z_li S) (z_wi S) (z_bu S) (z_qn S))) ++ wX cI cZ cQ a S) 0 exI (some (.int (nI 1))) ((wA cI bx (z_U S) (z_C S) (z_D S) (g9 S) (z_B S) (f9 S) qf (n9 (z_no S) (z_li S) (z_wi S) (z_bu S) (z_qn S))) ++ wX cI cZ cQ a S) 328 1968 := by
  refine v_thrower (cc := cL_culprits) (maxL := 15) (ret := (some .boolean)) (own := RL) (lv0 := [(0, .ref (a 0)), (1, .ref (bx 3)), (2, .ref (bx 4)), (3, .ref (bx 7)), (4, .int (nI (t)))]) (by decide) rfl rfl (Nat.le_of_ble_eq_true rfl) rfl ?_
  intro p9 e9 s9 m9 as9 bl9 me9 cd9 A E hA htab hTx hr
  have hn1 := hok.1.1
  have hn2 := hok.1.2.1
  have hno := hok.1.2.2.2.2.2.2.1
  have hRl := (hok.2.2.2.2.1 t).1
  rcases Bool.eq_false_or_eq_true (z_T S t) with hT | hT
  · obtain ⟨hT1, hT2, hT3⟩ := hok.2.2.1 t hT
    have hB40 : z_B S t < 40 := by omega
    refine v_aload_n E dL_culprits_0 1 rfl rfl ?_
    refine v_iload E dL_culprits_1 4 rfl ?_
    refine v_iald E dL_culprits_3 (v := nI (z_G S t)) 3 0 rfl rfl (by omega) (by decide) (g9_t ht hT) ?_
    refine n_if_ge E dL_culprits_4 (by omega) (tgt := 107) (by decide) (fun c4 => ?_) (fun c4 => ?_)
    · refine v_lconst E dL_culprits_107 (v := lN 0) rfl ?_
      refine v_lstore E dL_culprits_108 (by decide) rfl ?_
      refine v_lconst E dL_culprits_110 (v := lN 0) rfl ?_
      refine v_lstore E dL_culprits_111 (by decide) rfl ?_
      refine v_iconst E dL_culprits_113 (v := (-1)) rfl ?_
      refine v_top (y := (oI 0)) oI_0.symm ?_
      refine v_istore E dL_culprits_114 (by decide) rfl ?_
      refine v_iconst E dL_culprits_116 (v := nI 0) rfl ?_
      refine v_istore E dL_culprits_117 (by decide) rfl ?_
      have L119_1 : ∀ (n119 : Nat) (k : Nat) (su : Nat) (ca : Nat) (be : Nat), z_nc S - k < n119 → (k ≤ z_nc S) → (su = msk (sus S t) k) → (ca = msk (cnd S t) k) → (be = zlk S t k) → V p9 l e9 (headSpec wsL_culprits { frames := 9, cells := 328, slots := 1968, locals := 162 }).room s9 m9 as9 bl9 me9 cd9 (8 * k) (48 * k) (vx_MQ bl9 (v_Qo D (wTy cI cZ cQ cJ) (0 = 0) (some (.int (nI 1))) ((wA cI bx (z_U S) (z_C S) (z_D S) (g9 S) (z_B S) (f9 S) qf (n9 (z_no S) (z_li S) (z_wi S) (z_bu S) (z_qn S))) ++ wX cI cZ cQ a S) A) (v_XC D (wTy cI cZ cQ cJ) 0 exI ((wA cI bx (z_U S) (z_C S) (z_D S) (g9 S) (z_B S) (f9 S) qf (n9 (z_no S) (z_li S) (z_wi S) (z_bu S) (z_qn S))) ++ wX cI cZ cQ a S) A) as9 s9 328 1968 A) (v_rw D A s9) 15 119 [(5, .long (lN (su))), (7, .long (lN (ca))), (9, .int (oI be)), (10, .int (nI (k))), (0, .ref (a 0)), (1, .ref (bx 3)), (2, .ref (bx 4)), (3, .ref (bx 7)), (4, .int (nI (t)))] [] ((wA cI bx (z_U S) (z_C S) (z_D S) (g9 S) (z_B S) (f9 S) qf (n9 (z_no S) (z_li S) (z_wi S) (z_bu S) (z_qn S))) ++ wX cI cZ cQ a S) := by
        intro n119
        induction n119 with
        | zero => intro k su ca be hm119 hk hsu hca hbe; exact absurd hm119 (Nat.not_lt_zero _)
        | succ n119 ih119 =>
          intro k su ca be hm119 hk hsu hca hbe
          refine v_iload E dL_culprits_119 3 rfl ?_
          refine v_aload_n E dL_culprits_121 4 rfl rfl ?_
          refine v_cVi' E dL_culprits_122 (x_X1_commits l D cI cZ cQ cJ a S hok) (cwV 0 E.2.2.2.1 gL_culprits_X1_commits rfl rfl rfl (by decide +kernel) ⟨Nat.le_of_ble_eq_true rfl, Nat.le_of_ble_eq_true rfl⟩) 8 rfl rfl rfl (fun H h => subR H h) rfl rfl ⟨(by show _ ≤ 328; omega), (by show _ ≤ 1968; omega)⟩ (Nat.le_of_ble_eq_true rfl) ?_
          refine n_icmp_ge E dL_culprits_125 (by omega) (by omega) (tgt := 292) (by decide) (fun c125 => ?_) (fun c125 => ?_)
          · have hkk : k = z_nc S := by omega
            have hsu2 : su = msk (sus S t) (z_B S t + 1) := by rw [hsu, sus_to (by omega)]
            have hca2 : ca = msk (cnd S t) (z_B S t + 1) := by rw [hca, cnd_to (by omega)]
            have hbe2 : zlk S t (z_B S t + 1) = be := by rw [hbe]; exact (zlk_to (by omega)).symm
            have hcal : ca < 2 ^ 41 := by rw [hca2]; exact msk_lt62 _ (by omega)
            refine v_aload_n E dL_culprits_292 4 rfl rfl ?_
            refine v_iload E dL_culprits_293 8 rfl ?_
            refine x_cSn E hA hTx dL_culprits_295 (l_next0 l D cI cZ cQ cJ a S hok hl (wA cI bx (z_U S) (z_C S) (z_D S) (g9 S) (z_B S) (f9 S) qf (n9 (z_no S) (z_li S) (z_wi S) (z_bu S) (z_qn S))) t ht hT) (vx_cwSW 2 E.2.2.2.1 gL_culprits_L_next rfl rfl rfl (by decide +kernel) ⟨Nat.le_of_ble_eq_true rfl, Nat.le_of_ble_eq_true rfl⟩) rfl rfl ⟨(by show _ ≤ 328; omega), (by show _ ≤ 1968; omega)⟩ (Nat.le_of_ble_eq_true rfl) ?_
            refine v_istore E dL_culprits_298 (by decide) rfl ?_
            refine v_bipush E dL_culprits_300 (v := nI 99) rfl ?_
            refine v_istore E dL_culprits_302 (by decide) rfl ?_
            refine v_aload_n E dL_culprits_304 6 rfl rfl ?_
            refine v_iload E dL_culprits_305 9 rfl ?_
            refine v_iald E dL_culprits_307 (v := nI (z_G S t)) 3 0 rfl rfl (by omega) (by decide) (g9_t ht hT) ?_
            refine v_iconst E dL_culprits_308 (v := nI 1) rfl ?_
            refine v_iadd E dL_culprits_309 (nI_add _ _) ?_
            refine v_istore E dL_culprits_310 (by decide) rfl ?_
            have L312_2 : ∀ (n312 : Nat) (j : Nat) (le : Nat), z_B S t - j < n312 → (z_G S t + 1 ≤ j) → (j ≤ z_B S t) → (le = lm9 S t j) → V p9 l e9 (headSpec wsL_culprits { frames := 9, cells := 328, slots := 1968, locals := 162 }).room s9 m9 as9 bl9 me9 cd9 (8 * k + 2) (48 * k + 12) (vx_MQ bl9 (v_Qo D (wTy cI cZ cQ cJ) (0 = 0) (some (.int (nI 1))) ((wA cI bx (z_U S) (z_C S) (z_D S) (g9 S) (z_B S) (f9 S) qf (n9 (z_no S) (z_li S) (z_wi S) (z_bu S) (z_qn S))) ++ wX cI cZ cQ a S) A) (v_XC D (wTy cI cZ cQ cJ) 0 exI ((wA cI bx (z_U S) (z_C S) (z_D S) (g9 S) (z_B S) (f9 S) qf (n9 (z_no S) (z_li S) (z_wi S) (z_bu S) (z_qn S))) ++ wX cI cZ cQ a S) A) as9 s9 328 1968 A) (v_rw D A s9) 15 312 [(11, .int (nI (le))), (12, .int (nI (j))), (10, .int (oI (znx S (t) (z_B S (t))))), (5, .long (lN (su))), (7, .long (lN (ca))), (9, .int (oI be)), (0, .ref (a 0)), (1, .ref (bx 3)), (2, .ref (bx 4)), (3, .ref (bx 7)), (4, .int (nI (t)))] [] ((wA cI bx (z_U S) (z_C S) (z_D S) (g9 S) (z_B S) (f9 S) qf (n9 (z_no S) (z_li S) (z_wi S) (z_bu S) (z_qn S))) ++ wX cI cZ cQ a S) := by
              intro n312
              induction n312 with
              | zero => intro j le hm312 hj1 hj2 hle; exact absurd hm312 (Nat.not_lt_zero _)
              | succ n312 ih312 =>
                intro j le hm312 hj1 hj2 hle
                refine v_iload E dL_culprits_312 1 rfl ?_
                refine v_aload_n E dL_culprits_314 8 rfl rfl ?_
                refine v_iload E dL_culprits_315 10 rfl ?_
                refine v_iald E dL_culprits_317 (v := nI (z_B S t)) 4 0 rfl rfl (by omega) (by decide) rfl ?_
                refine n_icmp_ge E dL_culprits_318 (by omega) (by omega) (tgt := 387) (by decide) (fun c318 => ?_) (fun c318 => ?_)
                · rcases znx_lm (S := S) (t := t) hB40 (z_B S t) with ⟨q1, q2, q3⟩ | ⟨c, q1, q2, q3, q4, q5⟩
                  · have hb1 : z_B S t = z_G S t + 1 := by
                      rcases Nat.lt_or_ge (z_G S t + 1) (z_B S t) with z | z
                      · exact absurd ⟨by omega, z⟩ (q3 _ z)
                      · omega
                    refine v_iload E dL_culprits_387 2 rfl ?_
                    refine v_top (y := ((-1))) (show oI (znx S t (z_B S t)) = -1 by rw [q1]; rfl) ?_
                    refine v_if_lt E dL_culprits_389 (tgt := 463) (by decide) (fun c389 => ?_) (fun c389 => ?_)
                    · refine v_aload_n E dL_culprits_463 6 rfl rfl ?_
                      refine v_iload E dL_culprits_464 10 rfl ?_
                      refine x_cSn E hA hTx dL_culprits_466 (l_suspects0 l D cI cZ cQ cJ a S hok hl (wA cI bx (z_U S) (z_C S) (z_D S) (g9 S) (z_B S) (f9 S) qf (n9 (z_no S) (z_li S) (z_wi S) (z_bu S) (z_qn S))) t ht hT) (vx_cwSW 2 E.2.2.2.1 gL_culprits_L_suspects rfl rfl rfl (by decide +kernel) ⟨Nat.le_of_ble_eq_true rfl, Nat.le_of_ble_eq_true rfl⟩) rfl rfl ⟨(by show _ ≤ 328; omega), (by show _ ≤ 1968; omega)⟩ (Nat.le_of_ble_eq_true rfl) ?_
                      refine v_lload E dL_culprits_469 3 rfl ?_
                      refine v_lcmp E dL_culprits_471 (z := nI (0)) (by rw [hsu2]; exact lcmp_self _) ?_
                      refine n_if_ne E dL_culprits_472 (by omega) (tgt := 547) (by decide) (fun c472 => ?_) (fun c472 => ?_)
                      · exact absurd c472 (by omega)
                      · refine v_aload_n E dL_culprits_475 6 rfl rfl ?_
                        refine v_iload E dL_culprits_476 10 rfl ?_
                        refine x_cSn E hA hTx dL_culprits_478 (l_candidates0 l D cI cZ cQ cJ a S hok hl (wA cI bx (z_U S) (z_C S) (z_D S) (g9 S) (z_B S) (f9 S) qf (n9 (z_no S) (z_li S) (z_wi S) (z_bu S) (z_qn S))) t ht hT) (vx_cwSW 2 E.2.2.2.1 gL_culprits_L_candidates rfl rfl rfl (by decide +kernel) ⟨Nat.le_of_ble_eq_true rfl, Nat.le_of_ble_eq_true rfl⟩) rfl rfl ⟨(by show _ ≤ 328; omega), (by show _ ≤ 1968; omega)⟩ (Nat.le_of_ble_eq_true rfl) ?_
                        refine v_lload E dL_culprits_481 4 rfl ?_
                        refine v_lcmp E dL_culprits_483 (z := nI (0)) (by rw [hca2]; exact lcmp_self _) ?_
                        refine n_if_ne E dL_culprits_484 (by omega) (tgt := 547) (by decide) (fun c484 => ?_) (fun c484 => ?_)
                        · exact absurd c484 (by omega)
                        · refine v_aload_n E dL_culprits_487 6 rfl rfl ?_
                          refine v_iload E dL_culprits_488 10 rfl ?_
                          refine x_cSn E hA hTx dL_culprits_490 (l_likeliest0 l D cI cZ cQ cJ a S hok hl (wA cI bx (z_U S) (z_C S) (z_D S) (g9 S) (z_B S) (f9 S) qf (n9 (z_no S) (z_li S) (z_wi S) (z_bu S) (z_qn S))) t ht hT) (vx_cwSW 2 E.2.2.2.1 gL_culprits_L_likeliest rfl rfl rfl (by decide +kernel) ⟨Nat.le_of_ble_eq_true rfl, Nat.le_of_ble_eq_true rfl⟩) rfl rfl ⟨(by show _ ≤ 328; omega), (by show _ ≤ 1968; omega)⟩ (Nat.le_of_ble_eq_true rfl) ?_
                          refine v_iload E dL_culprits_493 5 rfl ?_
                          refine v_icmp_ne E dL_culprits_495 (tgt := 547) (by decide) (fun c495 => ?_) (fun c495 => ?_)
                          · exact absurd (by rw [hbe2]) c495
                          · refine v_iload E dL_culprits_498 2 rfl ?_
                            refine v_top (y := ((-1))) (show oI (znx S t (z_B S t)) = -1 by rw [q1]; rfl) ?_
                            refine v_iconst E dL_culprits_500 (v := (-1)) rfl ?_
                            refine v_icmp_ne E dL_culprits_501 (tgt := 508) (by decide) (fun c501 => ?_) (fun c501 => ?_)
                            · exact absurd rfl c501
                            · refine v_iconst E dL_culprits_504 (v := nI 1) rfl ?_
                              refine v_goto E dL_culprits_505 (tgt := 509) (by decide) ?_
                              refine v_aload_n E dL_culprits_509 8 rfl rfl ?_
                              refine v_iload E dL_culprits_510 10 rfl ?_
                              refine v_iald E dL_culprits_512 (v := nI (z_B S t)) 4 0 rfl rfl (by omega) (by decide) rfl ?_
                              refine v_aload_n E dL_culprits_513 7 rfl rfl ?_
                              refine v_iload E dL_culprits_514 10 rfl ?_
                              refine v_iald E dL_culprits_516 (v := nI (z_G S t)) 3 0 rfl rfl (by omega) (by decide) (g9_t ht hT) ?_
                              refine v_iconst E dL_culprits_517 (v := nI 1) rfl ?_
                              refine v_iadd E dL_culprits_518 (nI_add _ _) ?_
                              refine n_icmp_ne E dL_culprits_519 (by omega) (by omega) (tgt := 526) (by decide) (fun c519 => ?_) (fun c519 => ?_)
                              · exact absurd hb1 c519
                              · refine v_iconst E dL_culprits_522 (v := nI 1) rfl ?_
                                refine v_goto E dL_culprits_523 (tgt := 527) (by decide) ?_
                                refine n_icmp_ne E dL_culprits_527 (by omega) (by omega) (tgt := 547) (by decide) (fun c527 => ?_) (fun c527 => ?_)
                                · exact absurd c527 (by omega)
                                · refine v_iload E dL_culprits_530 2 rfl ?_
                                  refine v_top (y := ((-1))) (show oI (znx S t (z_B S t)) = -1 by rw [q1]; rfl) ?_
                                  refine v_iconst E dL_culprits_532 (v := (-1)) rfl ?_
                                  refine v_icmp_lt E dL_culprits_533 (tgt := 547) (by decide) (fun c533 => ?_) (fun c533 => ?_)
                                  · exact absurd c533 (by decide)
                                  · refine v_iload E dL_culprits_536 2 rfl ?_
                                    refine v_top (y := ((-1))) (show oI (znx S t (z_B S t)) = -1 by rw [q1]; rfl) ?_
                                    refine v_bipush E dL_culprits_538 (v := nI 40) rfl ?_
                                    refine v_icmp_ge E dL_culprits_540 (tgt := 547) (by decide) (fun c540 => ?_) (fun c540 => ?_)
                                    · exact absurd c540 (by decide)
                                    · refine v_iconst E dL_culprits_543 (v := nI 1) rfl ?_
                                      refine v_goto E dL_culprits_544 (tgt := 548) (by decide) ?_
                                      exact y_retz E hr rfl rfl rfl rfl (by omega) (by omega) dL_culprits_548
                    · exact absurd (by decide) c389
                  · have hcm := ct_mono (cnd S t) (c + 1) (z_B S t + 1) (by omega)
                    have hcl40 := ct_le (cnd S t) (z_B S t + 1)
                    have hcc : zcc S t = ct (cnd S t) (z_B S t + 1) := rfl
                    have hpj : po9 (ca &&& (2 ^ (c + 1) - 1)) = ct (cnd S t) (c + 1) := by rw [hca2]; exact po9_lo (by omega) (by omega)
                    have hpc : po9 ca = zcc S t := by rw [hca2]; exact po9_msk (by omega)
                    have hjj : j = z_B S t := by omega
                    have hll2 := lm9_le S t j
                    have hwc := zwt_le (S := S) (t := t) (c := c) (by omega) hB40
                    refine v_iload E dL_culprits_387 2 rfl ?_
                    refine v_top (y := nI (c)) (show oI (znx S t (z_B S t)) = nI c by rw [q1, oI_s]) ?_
                    refine n_if_lt E dL_culprits_389 (by omega) (tgt := 463) (by decide) (fun c389 => ?_) (fun c389 => ?_)
                    · exact c389.elim
                    · refine v_lload E dL_culprits_392 4 rfl ?_
                      refine v_ldc2 E dL_culprits_394 (v := 2) (x := lN 2) (by decide +kernel) rfl ?_
                      refine v_iload E dL_culprits_397 2 rfl ?_
                      refine v_top (y := nI (c)) (show oI (znx S t (z_B S t)) = nI c by rw [q1, oI_s]) ?_
                      refine v_lshl E dL_culprits_399 (z := lN (2 * 2 ^ c)) (wb_shl 2 (by omega)) ?_
                      refine v_lconst E dL_culprits_400 (v := lN 1) rfl ?_
                      refine v_lsub E dL_culprits_401 (z := lN (2 ^ (c + 1) - 1)) (l_dec2 c) ?_
                      refine v_land E dL_culprits_402 (z := lN (ca &&& (2 ^ (c + 1) - 1))) (wb_and (by omega) (l_lt2 (by omega))) ?_
                      refine v_cSi' E dL_culprits_403 (x_L_many l D cI cZ cQ cJ (ca &&& (2 ^ (c + 1) - 1)) (Nat.lt_of_le_of_lt Nat.and_le_left (by omega))) (va_cwS 1 E.2.2.2.1 gL_culprits_L_many rfl rfl rfl (by decide +kernel) ⟨Nat.le_of_ble_eq_true rfl, Nat.le_of_ble_eq_true rfl⟩) (fun _ _ => v_nil _) rfl rfl ⟨(by show _ ≤ 328; omega), (by show _ ≤ 1968; omega)⟩ (Nat.le_of_ble_eq_true rfl) ?_
                      refine v_top (y := nI (ct (cnd S t) (c + 1))) (congrArg nI hpj) ?_
                      refine v_istore E dL_culprits_406 (by decide) rfl ?_
                      refine v_iload E dL_culprits_408 0 rfl ?_
                      refine v_lload E dL_culprits_410 4 rfl ?_
                      refine v_cSi' E dL_culprits_412 (x_L_many l D cI cZ cQ cJ (ca) (by omega)) (va_cwS 1 E.2.2.2.1 gL_culprits_L_many rfl rfl rfl (by decide +kernel) ⟨Nat.le_of_ble_eq_true rfl, Nat.le_of_ble_eq_true rfl⟩) (fun _ _ => v_nil _) rfl rfl ⟨(by show _ ≤ 328; omega), (by show _ ≤ 1968; omega)⟩ (Nat.le_of_ble_eq_true rfl) ?_
                      refine v_top (y := nI (zcc S t)) (congrArg nI hpc) ?_
                      refine v_iload E dL_culprits_415 0 rfl ?_
                      refine v_isub E dL_culprits_417 (pk_sub (by omega)) ?_
                      have J434_3 : V p9 l e9 (headSpec wsL_culprits { frames := 9, cells := 328, slots := 1968, locals := 162 }).room s9 m9 as9 bl9 me9 cd9 (8 * k + 2) (48 * k + 12) (vx_MQ bl9 (v_Qo D (wTy cI cZ cQ cJ) (0 = 0) (some (.int (nI 1))) ((wA cI bx (z_U S) (z_C S) (z_D S) (g9 S) (z_B S) (f9 S) qf (n9 (z_no S) (z_li S) (z_wi S) (z_bu S) (z_qn S))) ++ wX cI cZ cQ a S) A) (v_XC D (wTy cI cZ cQ cJ) 0 exI ((wA cI bx (z_U S) (z_C S) (z_D S) (g9 S) (z_B S) (f9 S) qf (n9 (z_no S) (z_li S) (z_wi S) (z_bu S) (z_qn S))) ++ wX cI cZ cQ a S) A) as9 s9 328 1968 A) (v_rw D A s9) 15 434 [(12, .int (nI (ct (cnd S t) (c + 1)))), (11, .int (nI (le))), (10, .int (oI (znx S (t) (z_B S (t))))), (5, .long (lN (su))), (7, .long (lN (ca))), (9, .int (oI be)), (0, .ref (a 0)), (1, .ref (bx 3)), (2, .ref (bx 4)), (3, .ref (bx 7)), (4, .int (nI (t)))] [.int (nI (zwt S t c))] ((wA cI bx (z_U S) (z_C S) (z_D S) (g9 S) (z_B S) (f9 S) qf (n9 (z_no S) (z_li S) (z_wi S) (z_bu S) (z_qn S))) ++ wX cI cZ cQ a S) := by
                        refine v_istore E dL_culprits_434 (by decide) rfl ?_
                        refine v_iload E dL_culprits_436 3 rfl ?_
                        refine v_top (y := nI (c)) (show oI (znx S t (z_B S t)) = nI c by rw [q1, oI_s]) ?_
                        refine v_aload_n E dL_culprits_438 8 rfl rfl ?_
                        refine v_iload E dL_culprits_439 11 rfl ?_
                        refine v_iald E dL_culprits_441 (v := nI (z_G S t)) 3 0 rfl rfl (by omega) (by decide) (g9_t ht hT) ?_
                        refine n_icmp_le E dL_culprits_442 (by omega) (by omega) (tgt := 461) (by decide) (fun c442 => ?_) (fun c442 => ?_)
                        · exact absurd c442 (by omega)
                        · refine v_iload E dL_culprits_445 3 rfl ?_
                          refine v_top (y := nI (c)) (show oI (znx S t (z_B S t)) = nI c by rw [q1, oI_s]) ?_
                          refine v_aload_n E dL_culprits_447 9 rfl rfl ?_
                          refine v_iload E dL_culprits_448 11 rfl ?_
                          refine v_iald E dL_culprits_450 (v := nI (z_B S t)) 4 0 rfl rfl (by omega) (by decide) rfl ?_
                          refine n_icmp_ge E dL_culprits_451 (by omega) (by omega) (tgt := 461) (by decide) (fun c451 => ?_) (fun c451 => ?_)
                          · exact absurd c451 (by omega)
                          · refine v_iload E dL_culprits_454 0 rfl ?_
                            refine v_iload E dL_culprits_456 2 rfl ?_
                            refine n_icmp_eq E dL_culprits_458 (by omega) (by omega) (tgt := 463) (by decide) (fun c458 => ?_) (fun c458 => ?_)
                            · refine v_aload_n E dL_culprits_463 7 rfl rfl ?_
                              refine v_iload E dL_culprits_464 11 rfl ?_
                              refine x_cSn E hA hTx dL_culprits_466 (l_suspects0 l D cI cZ cQ cJ a S hok hl (wA cI bx (z_U S) (z_C S) (z_D S) (g9 S) (z_B S) (f9 S) qf (n9 (z_no S) (z_li S) (z_wi S) (z_bu S) (z_qn S))) t ht hT) (vx_cwSW 2 E.2.2.2.1 gL_culprits_L_suspects rfl rfl rfl (by decide +kernel) ⟨Nat.le_of_ble_eq_true rfl, Nat.le_of_ble_eq_true rfl⟩) rfl rfl ⟨(by show _ ≤ 328; omega), (by show _ ≤ 1968; omega)⟩ (Nat.le_of_ble_eq_true rfl) ?_
                              refine v_lload E dL_culprits_469 4 rfl ?_
                              refine v_lcmp E dL_culprits_471 (z := nI (0)) (by rw [hsu2]; exact lcmp_self _) ?_
                              refine n_if_ne E dL_culprits_472 (by omega) (tgt := 547) (by decide) (fun c472 => ?_) (fun c472 => ?_)
                              · exact absurd c472 (by omega)
                              · refine v_aload_n E dL_culprits_475 7 rfl rfl ?_
                                refine v_iload E dL_culprits_476 11 rfl ?_
                                refine x_cSn E hA hTx dL_culprits_478 (l_candidates0 l D cI cZ cQ cJ a S hok hl (wA cI bx (z_U S) (z_C S) (z_D S) (g9 S) (z_B S) (f9 S) qf (n9 (z_no S) (z_li S) (z_wi S) (z_bu S) (z_qn S))) t ht hT) (vx_cwSW 2 E.2.2.2.1 gL_culprits_L_candidates rfl rfl rfl (by decide +kernel) ⟨Nat.le_of_ble_eq_true rfl, Nat.le_of_ble_eq_true rfl⟩) rfl rfl ⟨(by show _ ≤ 328; omega), (by show _ ≤ 1968; omega)⟩ (Nat.le_of_ble_eq_true rfl) ?_
                                refine v_lload E dL_culprits_481 5 rfl ?_
                                refine v_lcmp E dL_culprits_483 (z := nI (0)) (by rw [hca2]; exact lcmp_self _) ?_
                                refine n_if_ne E dL_culprits_484 (by omega) (tgt := 547) (by decide) (fun c484 => ?_) (fun c484 => ?_)
                                · exact absurd c484 (by omega)
                                · refine v_aload_n E dL_culprits_487 7 rfl rfl ?_
                                  refine v_iload E dL_culprits_488 11 rfl ?_
                                  refine x_cSn E hA hTx dL_culprits_490 (l_likeliest0 l D cI cZ cQ cJ a S hok hl (wA cI bx (z_U S) (z_C S) (z_D S) (g9 S) (z_B S) (f9 S) qf (n9 (z_no S) (z_li S) (z_wi S) (z_bu S) (z_qn S))) t ht hT) (vx_cwSW 2 E.2.2.2.1 gL_culprits_L_likeliest rfl rfl rfl (by decide +kernel) ⟨Nat.le_of_ble_eq_true rfl, Nat.le_of_ble_eq_true rfl⟩) rfl rfl ⟨(by show _ ≤ 328; omega), (by show _ ≤ 1968; omega)⟩ (Nat.le_of_ble_eq_true rfl) ?_
                                  refine v_iload E dL_culprits_493 6 rfl ?_
                                  refine v_icmp_ne E dL_culprits_495 (tgt := 547) (by decide) (fun c495 => ?_) (fun c495 => ?_)
                                  · exact absurd (by rw [hbe2]) c495
                                  · refine v_iload E dL_culprits_498 3 rfl ?_
                                    refine v_top (y := nI (c)) (show oI (znx S t (z_B S t)) = nI c by rw [q1, oI_s]) ?_
                                    refine v_iconst E dL_culprits_500 (v := (-1)) rfl ?_
                                    refine v_icmp_ne E dL_culprits_501 (tgt := 508) (by decide) (fun c501 => ?_) (fun c501 => ?_)
                                    · refine v_iconst E dL_culprits_508 (v := nI 0) rfl ?_
                                      refine v_aload_n E dL_culprits_509 9 rfl rfl ?_
                                      refine v_iload E dL_culprits_510 11 rfl ?_
                                      refine v_iald E dL_culprits_512 (v := nI (z_B S t)) 4 0 rfl rfl (by omega) (by decide) rfl ?_
                                      refine v_aload_n E dL_culprits_513 8 rfl rfl ?_
                                      refine v_iload E dL_culprits_514 11 rfl ?_
                                      refine v_iald E dL_culprits_516 (v := nI (z_G S t)) 3 0 rfl rfl (by omega) (by decide) (g9_t ht hT) ?_
                                      refine v_iconst E dL_culprits_517 (v := nI 1) rfl ?_
                                      refine v_iadd E dL_culprits_518 (nI_add _ _) ?_
                                      refine n_icmp_ne E dL_culprits_519 (by omega) (by omega) (tgt := 526) (by decide) (fun c519 => ?_) (fun c519 => ?_)
                                      · refine v_iconst E dL_culprits_526 (v := nI 0) rfl ?_
                                        refine n_icmp_ne E dL_culprits_527 (by omega) (by omega) (tgt := 547) (by decide) (fun c527 => ?_) (fun c527 => ?_)
                                        · exact absurd c527 (by omega)
                                        · refine v_iload E dL_culprits_530 3 rfl ?_
                                          refine v_top (y := nI (c)) (show oI (znx S t (z_B S t)) = nI c by rw [q1, oI_s]) ?_
                                          refine v_iconst E dL_culprits_532 (v := (-1)) rfl ?_
                                          refine v_icmp_lt E dL_culprits_533 (tgt := 547) (by decide) (fun c533 => ?_) (fun c533 => ?_)
                                          · exact absurd c533 (nI_nlm (by omega))
                                          · refine v_iload E dL_culprits_536 3 rfl ?_
                                            refine v_top (y := nI (c)) (show oI (znx S t (z_B S t)) = nI c by rw [q1, oI_s]) ?_
                                            refine v_bipush E dL_culprits_538 (v := nI 40) rfl ?_
                                            refine n_icmp_ge E dL_culprits_540 (by omega) (by omega) (tgt := 547) (by decide) (fun c540 => ?_) (fun c540 => ?_)
                                            · exact absurd c540 (by omega)
                                            · refine v_iconst E dL_culprits_543 (v := nI 1) rfl ?_
                                              refine v_goto E dL_culprits_544 (tgt := 548) (by decide) ?_
                                              exact y_retz E hr rfl rfl rfl rfl (by omega) (by omega) dL_culprits_548
                                      · exact absurd c519 (by omega)
                                    · exact absurd c501 (nI_m1 (by omega))
                            · exact absurd (show zwt S t c = le by rw [hle, hjj, q5]) c458
                      refine n_icmp_le E dL_culprits_418 (by omega) (by omega) (tgt := 426) (by decide) (fun c418 => ?_) (fun c418 => ?_)
                      · refine v_lload E dL_culprits_426 4 rfl ?_
                        refine v_cSi' E dL_culprits_428 (x_L_many l D cI cZ cQ cJ (ca) (by omega)) (va_cwS 1 E.2.2.2.1 gL_culprits_L_many rfl rfl rfl (by decide +kernel) ⟨Nat.le_of_ble_eq_true rfl, Nat.le_of_ble_eq_true rfl⟩) (fun _ _ => v_nil _) rfl rfl ⟨(by show _ ≤ 328; omega), (by show _ ≤ 1968; omega)⟩ (Nat.le_of_ble_eq_true rfl) ?_
                        refine v_top (y := nI (zcc S t)) (congrArg nI hpc) ?_
                        refine v_iload E dL_culprits_431 0 rfl ?_
                        refine v_isub E dL_culprits_433 (pk_sub (by omega)) ?_
                        refine v_top (y := nI (zwt S t c)) (zwt_b c418) ?_
                        exact J434_3
                      · refine v_iload E dL_culprits_421 0 rfl ?_
                        refine v_goto E dL_culprits_423 (tgt := 434) (by decide) ?_
                        refine v_top (y := nI (zwt S t c)) (zwt_a c418) ?_
                        exact J434_3
                · have hcm := ct_mono (cnd S t) (j + 1) (z_B S t + 1) (by omega)
                  have hcl40 := ct_le (cnd S t) (z_B S t + 1)
                  have hcc : zcc S t = ct (cnd S t) (z_B S t + 1) := rfl
                  have hpj : po9 (ca &&& (2 ^ (j + 1) - 1)) = ct (cnd S t) (j + 1) := by rw [hca2]; exact po9_lo (by omega) (by omega)
                  have hpc : po9 ca = zcc S t := by rw [hca2]; exact po9_msk (by omega)
                  have hw := zwt_le (S := S) (t := t) (c := j) (by omega) hB40
                  have hll := lm9_le S t j
                  refine v_lload E dL_culprits_321 4 rfl ?_
                  refine v_ldc2 E dL_culprits_323 (v := 2) (x := lN 2) (by decide +kernel) rfl ?_
                  refine v_iload E dL_culprits_326 1 rfl ?_
                  refine v_lshl E dL_culprits_328 (z := lN (2 * 2 ^ j)) (wb_shl 2 (by omega)) ?_
                  refine v_lconst E dL_culprits_329 (v := lN 1) rfl ?_
                  refine v_lsub E dL_culprits_330 (z := lN (2 ^ (j + 1) - 1)) (l_dec2 j) ?_
                  refine v_land E dL_culprits_331 (z := lN (ca &&& (2 ^ (j + 1) - 1))) (wb_and (by omega) (l_lt2 (by omega))) ?_
                  refine v_cSi' E dL_culprits_332 (x_L_many l D cI cZ cQ cJ (ca &&& (2 ^ (j + 1) - 1)) (Nat.lt_of_le_of_lt Nat.and_le_left (by omega))) (va_cwS 1 E.2.2.2.1 gL_culprits_L_many rfl rfl rfl (by decide +kernel) ⟨Nat.le_of_ble_eq_true rfl, Nat.le_of_ble_eq_true rfl⟩) (fun _ _ => v_nil _) rfl rfl ⟨(by show _ ≤ 328; omega), (by show _ ≤ 1968; omega)⟩ (Nat.le_of_ble_eq_true rfl) ?_
                  refine v_top (y := nI (ct (cnd S t) (j + 1))) (congrArg nI hpj) ?_
                  refine v_istore E dL_culprits_335 (by decide) rfl ?_
                  refine v_iload E dL_culprits_337 0 rfl ?_
                  refine v_lload E dL_culprits_339 5 rfl ?_
                  refine v_cSi' E dL_culprits_341 (x_L_many l D cI cZ cQ cJ (ca) (by omega)) (va_cwS 1 E.2.2.2.1 gL_culprits_L_many rfl rfl rfl (by decide +kernel) ⟨Nat.le_of_ble_eq_true rfl, Nat.le_of_ble_eq_true rfl⟩) (fun _ _ => v_nil _) rfl rfl ⟨(by show _ ≤ 328; omega), (by show _ ≤ 1968; omega)⟩ (Nat.le_of_ble_eq_true rfl) ?_
                  refine v_top (y := nI (zcc S t)) (congrArg nI hpc) ?_
                  refine v_iload E dL_culprits_344 0 rfl ?_
                  refine v_isub E dL_culprits_346 (pk_sub (by omega)) ?_
                  have J363_4 : V p9 l e9 (headSpec wsL_culprits { frames := 9, cells := 328, slots := 1968, locals := 162 }).room s9 m9 as9 bl9 me9 cd9 (8 * k + 2) (48 * k + 12) (vx_MQ bl9 (v_Qo D (wTy cI cZ cQ cJ) (0 = 0) (some (.int (nI 1))) ((wA cI bx (z_U S) (z_C S) (z_D S) (g9 S) (z_B S) (f9 S) qf (n9 (z_no S) (z_li S) (z_wi S) (z_bu S) (z_qn S))) ++ wX cI cZ cQ a S) A) (v_XC D (wTy cI cZ cQ cJ) 0 exI ((wA cI bx (z_U S) (z_C S) (z_D S) (g9 S) (z_B S) (f9 S) qf (n9 (z_no S) (z_li S) (z_wi S) (z_bu S) (z_qn S))) ++ wX cI cZ cQ a S) A) as9 s9 328 1968 A) (v_rw D A s9) 15 363 [(13, .int (nI (ct (cnd S t) (j + 1)))), (11, .int (nI (le))), (12, .int (nI (j))), (10, .int (oI (znx S (t) (z_B S (t))))), (5, .long (lN (su))), (7, .long (lN (ca))), (9, .int (oI be)), (0, .ref (a 0)), (1, .ref (bx 3)), (2, .ref (bx 4)), (3, .ref (bx 7)), (4, .int (nI (t)))] [.int (nI (zwt S t j))] ((wA cI bx (z_U S) (z_C S) (z_D S) (g9 S) (z_B S) (f9 S) qf (n9 (z_no S) (z_li S) (z_wi S) (z_bu S) (z_qn S))) ++ wX cI cZ cQ a S) := by
                    refine v_istore E dL_culprits_363 (by decide) rfl ?_
                    refine v_iload E dL_culprits_365 0 rfl ?_
                    refine v_iload E dL_culprits_367 2 rfl ?_
                    have J379_5 : V p9 l e9 (headSpec wsL_culprits { frames := 9, cells := 328, slots := 1968, locals := 162 }).room s9 m9 as9 bl9 me9 cd9 (8 * k + 2) (48 * k + 12) (vx_MQ bl9 (v_Qo D (wTy cI cZ cQ cJ) (0 = 0) (some (.int (nI 1))) ((wA cI bx (z_U S) (z_C S) (z_D S) (g9 S) (z_B S) (f9 S) qf (n9 (z_no S) (z_li S) (z_wi S) (z_bu S) (z_qn S))) ++ wX cI cZ cQ a S) A) (v_XC D (wTy cI cZ cQ cJ) 0 exI ((wA cI bx (z_U S) (z_C S) (z_D S) (g9 S) (z_B S) (f9 S) qf (n9 (z_no S) (z_li S) (z_wi S) (z_bu S) (z_qn S))) ++ wX cI cZ cQ a S) A) as9 s9 328 1968 A) (v_rw D A s9) 15 379 [(14, .int (nI (zwt S t j))), (13, .int (nI (ct (cnd S t) (j + 1)))), (11, .int (nI (le))), (12, .int (nI (j))), (10, .int (oI (znx S (t) (z_B S (t))))), (5, .long (lN (su))), (7, .long (lN (ca))), (9, .int (oI be)), (0, .ref (a 0)), (1, .ref (bx 3)), (2, .ref (bx 4)), (3, .ref (bx 7)), (4, .int (nI (t)))] [.int (nI (lm9 S t (j + 1)))] ((wA cI bx (z_U S) (z_C S) (z_D S) (g9 S) (z_B S) (f9 S) qf (n9 (z_no S) (z_li S) (z_wi S) (z_bu S) (z_qn S))) ++ wX cI cZ cQ a S) := by
                      refine v_istore E dL_culprits_379 (by decide) rfl ?_
                      refine v_iinc E dL_culprits_381 3 rfl (nI_1 _) (by decide) rfl ?_
                      refine v_goto E dL_culprits_384 (tgt := 312) (by decide) ?_
                      refine v_lv [1, 0, 4, 5, 6, 7, 8, 9, 10, 11, 12] rfl ?_
                      exact ih312 (j + 1) (lm9 S t (j + 1)) (by omega) (by omega) (by omega) rfl
                    refine n_icmp_ge E dL_culprits_369 (by omega) (by omega) (tgt := 377) (by decide) (fun c369 => ?_) (fun c369 => ?_)
                    · refine v_iload E dL_culprits_377 2 rfl ?_
                      refine v_top (y := nI (lm9 S t (j + 1))) (by rw [show lm9 S t (j + 1) = lm9 S t j from if_neg (fun z => by omega), ← hle]) ?_
                      exact J379_5
                    · refine v_iload E dL_culprits_372 0 rfl ?_
                      refine v_goto E dL_culprits_374 (tgt := 379) (by decide) ?_
                      refine v_top (y := nI (lm9 S t (j + 1))) (by rw [show lm9 S t (j + 1) = zwt S t j from if_pos ⟨⟨by omega, c318⟩, by omega⟩]) ?_
                      exact J379_5
                  refine n_icmp_le E dL_culprits_347 (by omega) (by omega) (tgt := 355) (by decide) (fun c347 => ?_) (fun c347 => ?_)
                  · refine v_lload E dL_culprits_355 5 rfl ?_
                    refine v_cSi' E dL_culprits_357 (x_L_many l D cI cZ cQ cJ (ca) (by omega)) (va_cwS 1 E.2.2.2.1 gL_culprits_L_many rfl rfl rfl (by decide +kernel) ⟨Nat.le_of_ble_eq_true rfl, Nat.le_of_ble_eq_true rfl⟩) (fun _ _ => v_nil _) rfl rfl ⟨(by show _ ≤ 328; omega), (by show _ ≤ 1968; omega)⟩ (Nat.le_of_ble_eq_true rfl) ?_
                    refine v_top (y := nI (zcc S t)) (congrArg nI hpc) ?_
                    refine v_iload E dL_culprits_360 0 rfl ?_
                    refine v_isub E dL_culprits_362 (pk_sub (by omega)) ?_
                    refine v_top (y := nI (zwt S t j)) (zwt_b c347) ?_
                    exact J363_4
                  · refine v_iload E dL_culprits_350 0 rfl ?_
                    refine v_goto E dL_culprits_352 (tgt := 363) (by decide) ?_
                    refine v_top (y := nI (zwt S t j)) (zwt_a c347) ?_
                    exact J363_4
            refine v_lv [1, 0, 2, 3, 4, 5, 6, 7, 8, 9, 10] rfl ?_
            exact L312_2 (z_B S t - (z_G S t + 1) + 1) (z_G S t + 1) (99) (by omega) (by omega) (by omega) (lm9_z _ (Nat.le_refl _))
          · have hzg := zag_le hok (t := t) k (by omega)
            have hzr := zag_R hok (t := t) k (by omega)
            have hmt : msk (ztou S k) (z_nt S) < 2 ^ 31 := Nat.lt_of_lt_of_le (msk_lt _ _) (Nat.pow_le_pow_right (by decide) (by omega))
            have hbt := msk_bit (p := ztou S k) ht
            refine v_iload E dL_culprits_128 3 rfl ?_
            refine v_aload_n E dL_culprits_130 5 rfl rfl ?_
            refine v_iload E dL_culprits_131 8 rfl ?_
            refine v_iald E dL_culprits_133 (v := nI (z_G S t)) 3 0 rfl rfl (by omega) (by decide) (g9_t ht hT) ?_
            have J166_6 : V p9 l e9 (headSpec wsL_culprits { frames := 9, cells := 328, slots := 1968, locals := 162 }).room s9 m9 as9 bl9 me9 cd9 (8 * k + 1) (48 * k + 6) (vx_MQ bl9 (v_Qo D (wTy cI cZ cQ cJ) (0 = 0) (some (.int (nI 1))) ((wA cI bx (z_U S) (z_C S) (z_D S) (g9 S) (z_B S) (f9 S) qf (n9 (z_no S) (z_li S) (z_wi S) (z_bu S) (z_qn S))) ++ wX cI cZ cQ a S) A) (v_XC D (wTy cI cZ cQ cJ) 0 exI ((wA cI bx (z_U S) (z_C S) (z_D S) (g9 S) (z_B S) (f9 S) qf (n9 (z_no S) (z_li S) (z_wi S) (z_bu S) (z_qn S))) ++ wX cI cZ cQ a S) A) as9 s9 328 1968 A) (v_rw D A s9) 15 166 [(5, .long (lN (su))), (7, .long (lN (ca))), (9, .int (oI be)), (10, .int (nI (k))), (0, .ref (a 0)), (1, .ref (bx 3)), (2, .ref (bx 4)), (3, .ref (bx 7)), (4, .int (nI (t)))] [.int (bI (sus S t k))] ((wA cI bx (z_U S) (z_C S) (z_D S) (g9 S) (z_B S) (f9 S) qf (n9 (z_no S) (z_li S) (z_wi S) (z_bu S) (z_qn S))) ++ wX cI cZ cQ a S) := by
              refine v_istore E dL_culprits_166 (by decide) rfl ?_
              refine v_aload_n E dL_culprits_168 5 rfl rfl ?_
              refine v_iload E dL_culprits_169 9 rfl ?_
              refine v_iload E dL_culprits_171 4 rfl ?_
              refine x_cSn E hA hTx dL_culprits_173 (l_contradictions0 l D cI cZ cQ cJ a S hok hl (wA cI bx (z_U S) (z_C S) (z_D S) (g9 S) (z_B S) (f9 S) qf (n9 (z_no S) (z_li S) (z_wi S) (z_bu S) (z_qn S))) t k ht c125 hT) (vx_cwSW 3 E.2.2.2.1 gL_culprits_L_contradictions rfl rfl rfl (by decide +kernel) ⟨Nat.le_of_ble_eq_true rfl, Nat.le_of_ble_eq_true rfl⟩) rfl rfl ⟨(by show _ ≤ 328; omega), (by show _ ≤ 1968; omega)⟩ (Nat.le_of_ble_eq_true rfl) ?_
              refine v_istore E dL_culprits_176 (by decide) rfl ?_
              refine v_lload E dL_culprits_178 2 rfl ?_
              refine v_iload E dL_culprits_180 1 rfl ?_
              have J193_7 : V p9 l e9 (headSpec wsL_culprits { frames := 9, cells := 328, slots := 1968, locals := 162 }).room s9 m9 as9 bl9 me9 cd9 (8 * k + 1 + 3) (48 * k + 6 + 18) (vx_MQ bl9 (v_Qo D (wTy cI cZ cQ cJ) (0 = 0) (some (.int (nI 1))) ((wA cI bx (z_U S) (z_C S) (z_D S) (g9 S) (z_B S) (f9 S) qf (n9 (z_no S) (z_li S) (z_wi S) (z_bu S) (z_qn S))) ++ wX cI cZ cQ a S) A) (v_XC D (wTy cI cZ cQ cJ) 0 exI ((wA cI bx (z_U S) (z_C S) (z_D S) (g9 S) (z_B S) (f9 S) qf (n9 (z_no S) (z_li S) (z_wi S) (z_bu S) (z_qn S))) ++ wX cI cZ cQ a S) A) as9 s9 328 1968 A) (v_rw D A s9) 15 193 [(12, .int (zco S (t) (k))), (11, .int (bI (sus S t k))), (5, .long (lN (su))), (7, .long (lN (ca))), (9, .int (oI be)), (10, .int (nI (k))), (0, .ref (a 0)), (1, .ref (bx 3)), (2, .ref (bx 4)), (3, .ref (bx 7)), (4, .int (nI (t)))] [.long (lN ((if sus S t k then 2 ^ k else 0))), .long (lN (su))] ((wA cI bx (z_U S) (z_C S) (z_D S) (g9 S) (z_B S) (f9 S) qf (n9 (z_no S) (z_li S) (z_wi S) (z_bu S) (z_qn S))) ++ wX cI cZ cQ a S) := by
                refine v_lor E dL_culprits_193 (lx_or _ _) ?_
                refine v_lstore E dL_culprits_194 (by decide) rfl ?_
                refine v_lload E dL_culprits_196 3 rfl ?_
                refine v_iload E dL_culprits_198 2 rfl ?_
                have J219_8 : V p9 l e9 (headSpec wsL_culprits { frames := 9, cells := 328, slots := 1968, locals := 162 }).room s9 m9 as9 bl9 me9 cd9 (8 * k + 1 + 3) (48 * k + 6 + 18) (vx_MQ bl9 (v_Qo D (wTy cI cZ cQ cJ) (0 = 0) (some (.int (nI 1))) ((wA cI bx (z_U S) (z_C S) (z_D S) (g9 S) (z_B S) (f9 S) qf (n9 (z_no S) (z_li S) (z_wi S) (z_bu S) (z_qn S))) ++ wX cI cZ cQ a S) A) (v_XC D (wTy cI cZ cQ cJ) 0 exI ((wA cI bx (z_U S) (z_C S) (z_D S) (g9 S) (z_B S) (f9 S) qf (n9 (z_no S) (z_li S) (z_wi S) (z_bu S) (z_qn S))) ++ wX cI cZ cQ a S) A) as9 s9 328 1968 A) (v_rw D A s9) 15 219 [(5, .long (lN ((su) ||| ((if sus S t k then 2 ^ k else 0))))), (12, .int (zco S (t) (k))), (11, .int (bI (sus S t k))), (7, .long (lN (ca))), (9, .int (oI be)), (10, .int (nI (k))), (0, .ref (a 0)), (1, .ref (bx 3)), (2, .ref (bx 4)), (3, .ref (bx 7)), (4, .int (nI (t)))] [.long (lN ((if cnd S t k then 2 ^ k else 0))), .long (lN (ca))] ((wA cI bx (z_U S) (z_C S) (z_D S) (g9 S) (z_B S) (f9 S) qf (n9 (z_no S) (z_li S) (z_wi S) (z_bu S) (z_qn S))) ++ wX cI cZ cQ a S) := by
                  refine v_lor E dL_culprits_219 (lx_or _ _) ?_
                  refine v_lstore E dL_culprits_220 (by decide) rfl ?_
                  refine v_iload E dL_culprits_222 3 rfl ?_
                  have J252_9 : V p9 l e9 (headSpec wsL_culprits { frames := 9, cells := 328, slots := 1968, locals := 162 }).room s9 m9 as9 bl9 me9 cd9 (8 * k + 7) (48 * k + 42) (vx_MQ bl9 (v_Qo D (wTy cI cZ cQ cJ) (0 = 0) (some (.int (nI 1))) ((wA cI bx (z_U S) (z_C S) (z_D S) (g9 S) (z_B S) (f9 S) qf (n9 (z_no S) (z_li S) (z_wi S) (z_bu S) (z_qn S))) ++ wX cI cZ cQ a S) A) (v_XC D (wTy cI cZ cQ cJ) 0 exI ((wA cI bx (z_U S) (z_C S) (z_D S) (g9 S) (z_B S) (f9 S) qf (n9 (z_no S) (z_li S) (z_wi S) (z_bu S) (z_qn S))) ++ wX cI cZ cQ a S) A) as9 s9 328 1968 A) (v_rw D A s9) 15 252 [(7, .long (lN ((ca) ||| ((if cnd S t k then 2 ^ k else 0))))), (5, .long (lN ((su) ||| ((if sus S t k then 2 ^ k else 0))))), (12, .int (zco S (t) (k))), (11, .int (bI (sus S t k))), (9, .int (oI be)), (10, .int (nI (k))), (0, .ref (a 0)), (1, .ref (bx 3)), (2, .ref (bx 4)), (3, .ref (bx 7)), (4, .int (nI (t)))] [.int (oI (zlk S t (k + 1)))] ((wA cI bx (z_U S) (z_C S) (z_D S) (g9 S) (z_B S) (f9 S) qf (n9 (z_no S) (z_li S) (z_wi S) (z_bu S) (z_qn S))) ++ wX cI cZ cQ a S) := by
                    refine v_istore E dL_culprits_252 (by decide) rfl ?_
                    refine v_iload E dL_culprits_254 4 rfl ?_
                    have J286_10 : V p9 l e9 (headSpec wsL_culprits { frames := 9, cells := 328, slots := 1968, locals := 162 }).room s9 m9 as9 bl9 me9 cd9 (8 * k + 8) (48 * k + 48) (vx_MQ bl9 (v_Qo D (wTy cI cZ cQ cJ) (0 = 0) (some (.int (nI 1))) ((wA cI bx (z_U S) (z_C S) (z_D S) (g9 S) (z_B S) (f9 S) qf (n9 (z_no S) (z_li S) (z_wi S) (z_bu S) (z_qn S))) ++ wX cI cZ cQ a S) A) (v_XC D (wTy cI cZ cQ cJ) 0 exI ((wA cI bx (z_U S) (z_C S) (z_D S) (g9 S) (z_B S) (f9 S) qf (n9 (z_no S) (z_li S) (z_wi S) (z_bu S) (z_qn S))) ++ wX cI cZ cQ a S) A) as9 s9 328 1968 A) (v_rw D A s9) 15 286 [(9, .int (oI (zlk S t (k + 1)))), (7, .long (lN ((ca) ||| ((if cnd S t k then 2 ^ k else 0))))), (5, .long (lN ((su) ||| ((if sus S t k then 2 ^ k else 0))))), (12, .int (zco S (t) (k))), (11, .int (bI (sus S t k))), (10, .int (nI (k))), (0, .ref (a 0)), (1, .ref (bx 3)), (2, .ref (bx 4)), (3, .ref (bx 7)), (4, .int (nI (t)))] [] ((wA cI bx (z_U S) (z_C S) (z_D S) (g9 S) (z_B S) (f9 S) qf (n9 (z_no S) (z_li S) (z_wi S) (z_bu S) (z_qn S))) ++ wX cI cZ cQ a S) := by
                      refine v_iinc E dL_culprits_286 5 rfl (nI_1 _) (by decide) rfl ?_
                      refine v_goto E dL_culprits_289 (tgt := 119) (by decide) ?_
                      refine v_more (c2 := 8 * (k + 1)) (s2 := 48 * (k + 1)) (by omega) (by omega) ?_
                      refine v_lv [3, 2, 1, 0, 6, 7, 8, 9, 10] rfl ?_
                      exact ih119 (k + 1) ((su) ||| (if sus S t k then 2 ^ k else 0)) ((ca) ||| (if cnd S t k then 2 ^ k else 0)) (zlk S t (k + 1)) (by omega) (by omega) (by rw [hsu]; rfl) (by rw [hca]; rfl) rfl
                    refine b_if_eq E dL_culprits_256 (tgt := 278) (by decide) (fun c256 => ?_) (fun c256 => ?_)
                    · refine v_iload E dL_culprits_278 3 rfl ?_
                      refine v_top (y := ((-1))) (show zco S t k = -1 from if_neg (by rw [c256]; decide)) ?_
                      refine v_iconst E dL_culprits_280 (v := (-1)) rfl ?_
                      refine v_icmp_eq E dL_culprits_281 (tgt := 286) (by decide) (fun c281 => ?_) (fun c281 => ?_)
                      · refine v_more (c2 := 8 * k + 8) (s2 := 48 * k + 48) (by omega) (by omega) ?_
                        exact J286_10
                      · exact absurd rfl c281
                    · refine v_iload E dL_culprits_259 3 rfl ?_
                      refine v_top (y := nI (zag S t k)) (show zco S t k = nI (zag S t k) from if_pos c256) ?_
                      refine n_if_lt E dL_culprits_261 (by omega) (tgt := 284) (by decide) (fun c261 => ?_) (fun c261 => ?_)
                      · exact c261.elim
                      · refine v_iload E dL_culprits_264 3 rfl ?_
                        refine v_top (y := nI (zag S t k)) (show zco S t k = nI (zag S t k) from if_pos c256) ?_
                        refine v_aload_n E dL_culprits_266 6 rfl rfl ?_
                        refine v_iload E dL_culprits_267 10 rfl ?_
                        refine x_cSn E hA hTx dL_culprits_269 (l_runs0 l D cI cZ cQ cJ a S hok hl (wA cI bx (z_U S) (z_C S) (z_D S) (g9 S) (z_B S) (f9 S) qf (n9 (z_no S) (z_li S) (z_wi S) (z_bu S) (z_qn S))) t ht) (vx_cwSW 2 E.2.2.2.1 gL_culprits_L_runs rfl rfl rfl (by decide +kernel) ⟨Nat.le_of_ble_eq_true rfl, Nat.le_of_ble_eq_true rfl⟩) rfl rfl ⟨(by show _ ≤ 328; omega), (by show _ ≤ 1968; omega)⟩ (Nat.le_of_ble_eq_true rfl) ?_
                        refine n_icmp_le E dL_culprits_272 (by omega) (by omega) (tgt := 286) (by decide) (fun c272 => ?_) (fun c272 => ?_)
                        · refine v_more (c2 := 8 * k + 8) (s2 := 48 * k + 48) (by omega) (by omega) ?_
                          exact J286_10
                        · exact absurd c272 (by omega)
                  refine b_if_eq E dL_culprits_224 (tgt := 250) (by decide) (fun c224 => ?_) (fun c224 => ?_)
                  · refine v_iload E dL_culprits_250 4 rfl ?_
                    refine v_top (y := (oI (zlk S t (k + 1)))) (congrArg oI (zlk_f hbe (by rw [c224]; exact fun z => absurd z.1 (by decide)))) ?_
                    refine v_more (c2 := 8 * k + 7) (s2 := 48 * k + 42) (by omega) (by omega) ?_
                    exact J252_9
                  · rcases Nat.eq_zero_or_pos be with hb0 | hb0
                    · refine v_iload E dL_culprits_227 4 rfl ?_
                      refine v_top (y := ((-1))) (show oI be = -1 by rw [hb0]; rfl) ?_
                      refine v_if_lt E dL_culprits_229 (tgt := 245) (by decide) (fun c229 => ?_) (fun c229 => ?_)
                      · refine v_iload E dL_culprits_245 5 rfl ?_
                        refine v_goto E dL_culprits_247 (tgt := 252) (by decide) ?_
                        refine v_top (y := (oI (zlk S t (k + 1)))) (by rw [← zlk_t hbe c224 (Or.inl hb0), oI_s]) ?_
                        refine v_more (c2 := 8 * k + 7) (s2 := 48 * k + 42) (by omega) (by omega) ?_
                        exact J252_9
                      · exact absurd (by decide) c229
                    · have hbl : be ≤ k := by rw [hbe]; exact zlk_le S t k
                      have hsb : sus S t (be - 1) = true := (zlk_in k (be - 1) (by rw [← hbe]; omega)).1
                      have hz3 := zag_le hok (t := t) (be - 1) (by omega)
                      refine v_iload E dL_culprits_227 4 rfl ?_
                      refine v_top (y := nI ((be - 1))) (show oI be = nI (be - 1) from if_neg (by omega)) ?_
                      refine n_if_lt E dL_culprits_229 (by omega) (tgt := 245) (by decide) (fun c229 => ?_) (fun c229 => ?_)
                      · exact c229.elim
                      · refine v_iload E dL_culprits_232 2 rfl ?_
                        refine v_top (y := nI (zag S t k)) (show zco S t k = nI (zag S t k) from if_pos c224) ?_
                        refine v_aload_n E dL_culprits_234 6 rfl rfl ?_
                        refine v_iload E dL_culprits_235 10 rfl ?_
                        refine v_iload E dL_culprits_237 4 rfl ?_
                        refine v_top (y := nI ((be - 1))) (show oI be = nI (be - 1) from if_neg (by omega)) ?_
                        refine x_cSn E hA hTx dL_culprits_239 (l_contradictions0 l D cI cZ cQ cJ a S hok hl (wA cI bx (z_U S) (z_C S) (z_D S) (g9 S) (z_B S) (f9 S) qf (n9 (z_no S) (z_li S) (z_wi S) (z_bu S) (z_qn S))) t ((be - 1)) ht (by omega) hT) (vx_cwSW 3 E.2.2.2.1 gL_culprits_L_contradictions rfl rfl rfl (by decide +kernel) ⟨Nat.le_of_ble_eq_true rfl, Nat.le_of_ble_eq_true rfl⟩) rfl rfl ⟨(by show _ ≤ 328; omega), (by show _ ≤ 1968; omega)⟩ (Nat.le_of_ble_eq_true rfl) ?_
                        refine v_top (y := nI (zag S t (be - 1))) (show zco S t (be - 1) = nI (zag S t (be - 1)) from if_pos hsb) ?_
                        refine n_icmp_ge E dL_culprits_242 (by omega) (by omega) (tgt := 250) (by decide) (fun c242 => ?_) (fun c242 => ?_)
                        · refine v_iload E dL_culprits_250 4 rfl ?_
                          refine v_top (y := (oI (zlk S t (k + 1)))) (congrArg oI (zlk_f hbe (fun z => by rcases z.2 with z | z <;> omega))) ?_
                          refine v_more (c2 := 8 * k + 7) (s2 := 48 * k + 42) (by omega) (by omega) ?_
                          exact J252_9
                        · refine v_iload E dL_culprits_245 5 rfl ?_
                          refine v_goto E dL_culprits_247 (tgt := 252) (by decide) ?_
                          refine v_top (y := (oI (zlk S t (k + 1)))) (by rw [← zlk_t hbe c224 (Or.inr c242), oI_s]) ?_
                          refine v_more (c2 := 8 * k + 7) (s2 := 48 * k + 42) (by omega) (by omega) ?_
                          exact J252_9
                refine b_if_eq E dL_culprits_200 (tgt := 218) (by decide) (fun c200 => ?_) (fun c200 => ?_)
                · refine v_lconst E dL_culprits_218 (v := lN 0) rfl ?_
                  refine v_topl (y := lN ((if cnd S t k then 2 ^ k else 0))) (by rw [show cnd S t k = false from by unfold cnd; rw [c200]; rfl]; rfl) ?_
                  exact J219_8
                · refine v_iload E dL_culprits_203 1 rfl ?_
                  refine v_top (y := nI (zag S t k)) (show zco S t k = nI (zag S t k) from if_pos c200) ?_
                  refine v_aload_n E dL_culprits_205 9 rfl rfl ?_
                  refine v_iconst E dL_culprits_206 (v := nI 0) rfl ?_
                  refine v_iald E dL_culprits_207 (v := nI (z_no S)) 7 0 rfl rfl (by omega) (by decide) rfl ?_
                  refine n_icmp_gt E dL_culprits_208 (by omega) (by omega) (tgt := 218) (by decide) (fun c208 => ?_) (fun c208 => ?_)
                  · refine v_lconst E dL_culprits_218 (v := lN 0) rfl ?_
                    refine v_topl (y := lN ((if cnd S t k then 2 ^ k else 0))) (by rw [show cnd S t k = false from by unfold cnd; rw [decide_eq_false (Nat.not_le.mpr c208), Bool.and_false]]; rfl) ?_
                    exact J219_8
                  · refine v_lconst E dL_culprits_211 (v := lN 1) rfl ?_
                    refine v_iload E dL_culprits_212 5 rfl ?_
                    refine v_lshl E dL_culprits_214 (l_shl1 (by omega)) ?_
                    refine v_goto E dL_culprits_215 (tgt := 219) (by decide) ?_
                    refine v_topl (y := lN ((if cnd S t k then 2 ^ k else 0))) (by rw [show cnd S t k = true from by unfold cnd; rw [c200, decide_eq_true c208]; rfl]; rfl) ?_
                    exact J219_8
              refine b_if_eq E dL_culprits_182 (tgt := 192) (by decide) (fun c182 => ?_) (fun c182 => ?_)
              · refine v_lconst E dL_culprits_192 (v := lN 0) rfl ?_
                refine v_topl (y := lN ((if sus S t k then 2 ^ k else 0))) (by rw [c182]; rfl) ?_
                exact J193_7
              · refine v_lconst E dL_culprits_185 (v := lN 1) rfl ?_
                refine v_iload E dL_culprits_186 5 rfl ?_
                refine v_lshl E dL_culprits_188 (l_shl1 (by omega)) ?_
                refine v_goto E dL_culprits_189 (tgt := 193) (by decide) ?_
                refine v_topl (y := lN ((if sus S t k then 2 ^ k else 0))) (by rw [c182]; rfl) ?_
                exact J193_7
            refine n_icmp_le E dL_culprits_134 (by omega) (by omega) (tgt := 165) (by decide) (fun c134 => ?_) (fun c134 => ?_)
            · refine v_iconst E dL_culprits_165 (v := nI 0) rfl ?_
              refine v_top (y := bI (sus S t k)) (by rw [sus_lo c134]; rfl) ?_
              refine v_more (c2 := 8 * k + 1) (s2 := 48 * k + 6) (by omega) (by omega) ?_
              exact J166_6
            · refine v_iload E dL_culprits_137 3 rfl ?_
              refine v_aload_n E dL_culprits_139 6 rfl rfl ?_
              refine v_iload E dL_culprits_140 8 rfl ?_
              refine v_iald E dL_culprits_142 (v := nI (z_B S t)) 4 0 rfl rfl (by omega) (by decide) rfl ?_
              refine n_icmp_gt E dL_culprits_143 (by omega) (by omega) (tgt := 165) (by decide) (fun c143 => ?_) (fun c143 => ?_)
              · refine v_iconst E dL_culprits_165 (v := nI 0) rfl ?_
                refine v_top (y := bI (sus S t k)) (by rw [sus_hi c143]; rfl) ?_
                refine v_more (c2 := 8 * k + 1) (s2 := 48 * k + 6) (by omega) (by omega) ?_
                exact J166_6
              · refine v_aload_n E dL_culprits_146 4 rfl rfl ?_
                refine v_iload E dL_culprits_147 3 rfl ?_
                refine x_cSn E hA hTx dL_culprits_149 (l_touches0 l D cI cZ cQ cJ a S hok hl (wA cI bx (z_U S) (z_C S) (z_D S) (g9 S) (z_B S) (f9 S) qf (n9 (z_no S) (z_li S) (z_wi S) (z_bu S) (z_qn S))) k c125) (vx_cwSW 2 E.2.2.2.1 gL_culprits_L_touches rfl rfl rfl (by decide +kernel) ⟨Nat.le_of_ble_eq_true rfl, Nat.le_of_ble_eq_true rfl⟩) rfl rfl ⟨(by show _ ≤ 328; omega), (by show _ ≤ 1968; omega)⟩ (Nat.le_of_ble_eq_true rfl) ?_
                refine v_iload E dL_culprits_152 8 rfl ?_
                refine v_ishr E dL_culprits_154 (z := ((nI (msk (ztou S k) (z_nt S)) >>> (nI t &&& 31)))) rfl ?_
                refine v_iconst E dL_culprits_155 (v := nI 1) rfl ?_
                refine v_iand E dL_culprits_156 (z := nI (msk (ztou S k) (z_nt S) / 2 ^ t % 2)) (n_bit hmt (by omega)) ?_
                refine v_iconst E dL_culprits_157 (v := nI 1) rfl ?_
                refine n_icmp_ne E dL_culprits_158 (by omega) (by omega) (tgt := 165) (by decide) (fun c158 => ?_) (fun c158 => ?_)
                · refine v_iconst E dL_culprits_165 (v := nI 0) rfl ?_
                  refine v_top (y := bI (sus S t k)) (by rw [sus_tou c134 c143, b1_nf (b := ztou S k t) (by rw [← hbt]; exact c158)]; rfl) ?_
                  exact J166_6
                · refine v_iconst E dL_culprits_161 (v := nI 1) rfl ?_
                  refine v_goto E dL_culprits_162 (tgt := 166) (by decide) ?_
                  refine v_top (y := bI (sus S t k)) (by rw [sus_tou c134 c143, b1_nt (b := ztou S k t) (by rw [← hbt]; exact c158)]; rfl) ?_
                  exact J166_6
      refine v_more (c2 := 8 * (0)) (s2 := 48 * (0)) (by omega) (by omega) ?_
      refine v_lv [3, 2, 1, 0, 4, 5, 6, 7, 8] rfl ?_
      exact L119_1 (z_nc S - (0) + 1) (0) (0) (0) (0) (by omega) (by omega) rfl rfl rfl
    · exact c4.elim
  · refine v_aload_n E dL_culprits_0 1 rfl rfl ?_
    refine v_iload E dL_culprits_1 4 rfl ?_
    refine v_iald E dL_culprits_3 (v := ((-1))) 3 0 rfl rfl (by omega) (by decide) (g9_f ht hT) ?_
    refine v_if_ge E dL_culprits_4 (tgt := 107) (by decide) (fun c4 => ?_) (fun c4 => ?_)
    · exact absurd c4 (by decide)
    · refine v_aload_n E dL_culprits_7 0 rfl rfl ?_
      refine v_iload E dL_culprits_8 4 rfl ?_
      refine x_cSn E hA hTx dL_culprits_10 (l_suspectsF l D cI cZ cQ cJ a S hok hl (wA cI bx (z_U S) (z_C S) (z_D S) (g9 S) (z_B S) (f9 S) qf (n9 (z_no S) (z_li S) (z_wi S) (z_bu S) (z_qn S))) t ht hT) (vx_cwSW 2 E.2.2.2.1 gL_culprits_L_suspects rfl rfl rfl (by decide +kernel) ⟨Nat.le_of_ble_eq_true rfl, Nat.le_of_ble_eq_true rfl⟩) rfl rfl ⟨(by show _ ≤ 328; omega), (by show _ ≤ 1968; omega)⟩ (Nat.le_of_ble_eq_true rfl) ?_
      refine v_ldc2 E dL_culprits_13 (v := -1000003) (x := (-1000003)) (by decide +kernel) rfl ?_
      refine v_lcmp E dL_culprits_16 (z := nI (0)) (lcmp_self _) ?_
      refine n_if_ne E dL_culprits_17 (by omega) (tgt := 105) (by decide) (fun c17 => ?_) (fun c17 => ?_)
      · exact absurd c17 (by omega)
      · refine v_aload_n E dL_culprits_20 0 rfl rfl ?_
        refine v_iload E dL_culprits_21 4 rfl ?_
        refine x_cSn E hA hTx dL_culprits_23 (l_candidatesF l D cI cZ cQ cJ a S hok hl (wA cI bx (z_U S) (z_C S) (z_D S) (g9 S) (z_B S) (f9 S) qf (n9 (z_no S) (z_li S) (z_wi S) (z_bu S) (z_qn S))) t ht hT) (vx_cwSW 2 E.2.2.2.1 gL_culprits_L_candidates rfl rfl rfl (by decide +kernel) ⟨Nat.le_of_ble_eq_true rfl, Nat.le_of_ble_eq_true rfl⟩) rfl rfl ⟨(by show _ ≤ 328; omega), (by show _ ≤ 1968; omega)⟩ (Nat.le_of_ble_eq_true rfl) ?_
        refine v_ldc2 E dL_culprits_26 (v := -1000003) (x := (-1000003)) (by decide +kernel) rfl ?_
        refine v_lcmp E dL_culprits_29 (z := nI (0)) (lcmp_self _) ?_
        refine n_if_ne E dL_culprits_30 (by omega) (tgt := 105) (by decide) (fun c30 => ?_) (fun c30 => ?_)
        · exact absurd c30 (by omega)
        · rcases Nat.eq_zero_or_pos (z_nc S) with h0 | h0
          · refine v_aload_n E dL_culprits_33 0 rfl rfl ?_
            refine v_iload E dL_culprits_34 4 rfl ?_
            refine v_iconst E dL_culprits_36 (v := nI 0) rfl ?_
            refine x_cSn E hA hTx dL_culprits_37 (l_contradictionsZ l D cI cZ cQ cJ a S hok hl (wA cI bx (z_U S) (z_C S) (z_D S) (g9 S) (z_B S) (f9 S) qf (n9 (z_no S) (z_li S) (z_wi S) (z_bu S) (z_qn S))) t ht hT h0) (vx_cwSW 3 E.2.2.2.1 gL_culprits_L_contradictions rfl rfl rfl (by decide +kernel) ⟨Nat.le_of_ble_eq_true rfl, Nat.le_of_ble_eq_true rfl⟩) rfl rfl ⟨(by show _ ≤ 328; omega), (by show _ ≤ 1968; omega)⟩ (Nat.le_of_ble_eq_true rfl) ?_
            refine v_aload_n E dL_culprits_40 0 rfl rfl ?_
            refine v_cVi' E dL_culprits_41 (x_X1_commits l D cI cZ cQ cJ a S hok) (cwV 0 E.2.2.2.1 gL_culprits_X1_commits rfl rfl rfl (by decide +kernel) ⟨Nat.le_of_ble_eq_true rfl, Nat.le_of_ble_eq_true rfl⟩) 8 rfl rfl rfl (fun H h => subR H h) rfl rfl ⟨(by show _ ≤ 328; omega), (by show _ ≤ 1968; omega)⟩ (Nat.le_of_ble_eq_true rfl) ?_
            refine n_if_ne E dL_culprits_44 (by omega) (tgt := 52) (by decide) (fun c44 => ?_) (fun c44 => ?_)
            · exact absurd c44 (by omega)
            · refine v_ldc E dL_culprits_47 (v := -1000001) (x := (-1000001)) (by decide +kernel) rfl ?_
              refine v_goto E dL_culprits_49 (tgt := 54) (by decide) ?_
              refine v_icmp_ne E dL_culprits_54 (tgt := 105) (by decide) (fun c54 => ?_) (fun c54 => ?_)
              · exact absurd rfl c54
              · refine v_aload_n E dL_culprits_57 0 rfl rfl ?_
                refine v_iload E dL_culprits_58 4 rfl ?_
                refine x_cSn E hA hTx dL_culprits_60 (l_likeliestF l D cI cZ cQ cJ a S hok hl (wA cI bx (z_U S) (z_C S) (z_D S) (g9 S) (z_B S) (f9 S) qf (n9 (z_no S) (z_li S) (z_wi S) (z_bu S) (z_qn S))) t ht hT) (vx_cwSW 2 E.2.2.2.1 gL_culprits_L_likeliest rfl rfl rfl (by decide +kernel) ⟨Nat.le_of_ble_eq_true rfl, Nat.le_of_ble_eq_true rfl⟩) rfl rfl ⟨(by show _ ≤ 328; omega), (by show _ ≤ 1968; omega)⟩ (Nat.le_of_ble_eq_true rfl) ?_
                refine v_ldc E dL_culprits_63 (v := -1000003) (x := (-1000003)) (by decide +kernel) rfl ?_
                refine v_icmp_ne E dL_culprits_65 (tgt := 105) (by decide) (fun c65 => ?_) (fun c65 => ?_)
                · exact absurd rfl c65
                · refine v_aload_n E dL_culprits_68 0 rfl rfl ?_
                  refine v_iload E dL_culprits_69 4 rfl ?_
                  refine x_cSn E hA hTx dL_culprits_71 (l_nextF l D cI cZ cQ cJ a S hok hl (wA cI bx (z_U S) (z_C S) (z_D S) (g9 S) (z_B S) (f9 S) qf (n9 (z_no S) (z_li S) (z_wi S) (z_bu S) (z_qn S))) t ht hT) (vx_cwSW 2 E.2.2.2.1 gL_culprits_L_next rfl rfl rfl (by decide +kernel) ⟨Nat.le_of_ble_eq_true rfl, Nat.le_of_ble_eq_true rfl⟩) rfl rfl ⟨(by show _ ≤ 328; omega), (by show _ ≤ 1968; omega)⟩ (Nat.le_of_ble_eq_true rfl) ?_
                  refine v_ldc E dL_culprits_74 (v := -1000003) (x := (-1000003)) (by decide +kernel) rfl ?_
                  refine v_icmp_ne E dL_culprits_76 (tgt := 105) (by decide) (fun c76 => ?_) (fun c76 => ?_)
                  · exact absurd rfl c76
                  · refine v_aload_n E dL_culprits_79 0 rfl rfl ?_
                    refine v_iload E dL_culprits_80 4 rfl ?_
                    refine x_cSn E hA hTx dL_culprits_82 (l_enqueueF l D cI cZ cQ cJ a S hok hl (wA cI bx (z_U S) (z_C S) (z_D S) (g9 S) (z_B S) (f9 S) qf (n9 (z_no S) (z_li S) (z_wi S) (z_bu S) (z_qn S))) t ht hT) (vx_cwSW 2 E.2.2.2.1 gL_culprits_L_enqueue rfl rfl rfl (by decide +kernel) ⟨Nat.le_of_ble_eq_true rfl, Nat.le_of_ble_eq_true rfl⟩) rfl rfl ⟨(by show _ ≤ 328; omega), (by show _ ≤ 1968; omega)⟩ (Nat.le_of_ble_eq_true rfl) ?_
                    refine v_ldc E dL_culprits_85 (v := -1000003) (x := (-1000003)) (by decide +kernel) rfl ?_
                    refine v_icmp_ne E dL_culprits_87 (tgt := 105) (by decide) (fun c87 => ?_) (fun c87 => ?_)
                    · exact absurd rfl c87
                    · refine v_aload_n E dL_culprits_90 0 rfl rfl ?_
                      refine v_iload E dL_culprits_91 4 rfl ?_
                      refine x_cSn E hA hTx dL_culprits_93 (l_closeF l D cI cZ cQ cJ a S hok hl (wA cI bx (z_U S) (z_C S) (z_D S) (g9 S) (z_B S) (f9 S) qf (n9 (z_no S) (z_li S) (z_wi S) (z_bu S) (z_qn S))) t ht hT) (vx_cwSW 2 E.2.2.2.1 gL_culprits_L_close rfl rfl rfl (by decide +kernel) ⟨Nat.le_of_ble_eq_true rfl, Nat.le_of_ble_eq_true rfl⟩) rfl rfl ⟨(by show _ ≤ 328; omega), (by show _ ≤ 1968; omega)⟩ (Nat.le_of_ble_eq_true rfl) ?_
                      refine v_ldc E dL_culprits_96 (v := -1000003) (x := (-1000003)) (by decide +kernel) rfl ?_
                      refine v_icmp_ne E dL_culprits_98 (tgt := 105) (by decide) (fun c98 => ?_) (fun c98 => ?_)
                      · exact absurd rfl c98
                      · refine v_iconst E dL_culprits_101 (v := nI 1) rfl ?_
                        refine v_goto E dL_culprits_102 (tgt := 106) (by decide) ?_
                        exact y_retz E hr rfl rfl rfl rfl (by omega) (by omega) dL_culprits_106
          · refine v_aload_n E dL_culprits_33 0 rfl rfl ?_
            refine v_iload E dL_culprits_34 4 rfl ?_
            refine v_iconst E dL_culprits_36 (v := nI 0) rfl ?_
            refine x_cSn E hA hTx dL_culprits_37 (l_contradictionsF l D cI cZ cQ cJ a S hok hl (wA cI bx (z_U S) (z_C S) (z_D S) (g9 S) (z_B S) (f9 S) qf (n9 (z_no S) (z_li S) (z_wi S) (z_bu S) (z_qn S))) t ht hT h0) (vx_cwSW 3 E.2.2.2.1 gL_culprits_L_contradictions rfl rfl rfl (by decide +kernel) ⟨Nat.le_of_ble_eq_true rfl, Nat.le_of_ble_eq_true rfl⟩) rfl rfl ⟨(by show _ ≤ 328; omega), (by show _ ≤ 1968; omega)⟩ (Nat.le_of_ble_eq_true rfl) ?_
            refine v_aload_n E dL_culprits_40 0 rfl rfl ?_
            refine v_cVi' E dL_culprits_41 (x_X1_commits l D cI cZ cQ cJ a S hok) (cwV 0 E.2.2.2.1 gL_culprits_X1_commits rfl rfl rfl (by decide +kernel) ⟨Nat.le_of_ble_eq_true rfl, Nat.le_of_ble_eq_true rfl⟩) 8 rfl rfl rfl (fun H h => subR H h) rfl rfl ⟨(by show _ ≤ 328; omega), (by show _ ≤ 1968; omega)⟩ (Nat.le_of_ble_eq_true rfl) ?_
            refine n_if_ne E dL_culprits_44 (by omega) (tgt := 52) (by decide) (fun c44 => ?_) (fun c44 => ?_)
            · refine v_ldc E dL_culprits_52 (v := -1000003) (x := (-1000003)) (by decide +kernel) rfl ?_
              refine v_icmp_ne E dL_culprits_54 (tgt := 105) (by decide) (fun c54 => ?_) (fun c54 => ?_)
              · exact absurd rfl c54
              · refine v_aload_n E dL_culprits_57 0 rfl rfl ?_
                refine v_iload E dL_culprits_58 4 rfl ?_
                refine x_cSn E hA hTx dL_culprits_60 (l_likeliestF l D cI cZ cQ cJ a S hok hl (wA cI bx (z_U S) (z_C S) (z_D S) (g9 S) (z_B S) (f9 S) qf (n9 (z_no S) (z_li S) (z_wi S) (z_bu S) (z_qn S))) t ht hT) (vx_cwSW 2 E.2.2.2.1 gL_culprits_L_likeliest rfl rfl rfl (by decide +kernel) ⟨Nat.le_of_ble_eq_true rfl, Nat.le_of_ble_eq_true rfl⟩) rfl rfl ⟨(by show _ ≤ 328; omega), (by show _ ≤ 1968; omega)⟩ (Nat.le_of_ble_eq_true rfl) ?_
                refine v_ldc E dL_culprits_63 (v := -1000003) (x := (-1000003)) (by decide +kernel) rfl ?_
                refine v_icmp_ne E dL_culprits_65 (tgt := 105) (by decide) (fun c65 => ?_) (fun c65 => ?_)
                · exact absurd rfl c65
                · refine v_aload_n E dL_culprits_68 0 rfl rfl ?_
                  refine v_iload E dL_culprits_69 4 rfl ?_
                  refine x_cSn E hA hTx dL_culprits_71 (l_nextF l D cI cZ cQ cJ a S hok hl (wA cI bx (z_U S) (z_C S) (z_D S) (g9 S) (z_B S) (f9 S) qf (n9 (z_no S) (z_li S) (z_wi S) (z_bu S) (z_qn S))) t ht hT) (vx_cwSW 2 E.2.2.2.1 gL_culprits_L_next rfl rfl rfl (by decide +kernel) ⟨Nat.le_of_ble_eq_true rfl, Nat.le_of_ble_eq_true rfl⟩) rfl rfl ⟨(by show _ ≤ 328; omega), (by show _ ≤ 1968; omega)⟩ (Nat.le_of_ble_eq_true rfl) ?_
                  refine v_ldc E dL_culprits_74 (v := -1000003) (x := (-1000003)) (by decide +kernel) rfl ?_
                  refine v_icmp_ne E dL_culprits_76 (tgt := 105) (by decide) (fun c76 => ?_) (fun c76 => ?_)
                  · exact absurd rfl c76
                  · refine v_aload_n E dL_culprits_79 0 rfl rfl ?_
                    refine v_iload E dL_culprits_80 4 rfl ?_
                    refine x_cSn E hA hTx dL_culprits_82 (l_enqueueF l D cI cZ cQ cJ a S hok hl (wA cI bx (z_U S) (z_C S) (z_D S) (g9 S) (z_B S) (f9 S) qf (n9 (z_no S) (z_li S) (z_wi S) (z_bu S) (z_qn S))) t ht hT) (vx_cwSW 2 E.2.2.2.1 gL_culprits_L_enqueue rfl rfl rfl (by decide +kernel) ⟨Nat.le_of_ble_eq_true rfl, Nat.le_of_ble_eq_true rfl⟩) rfl rfl ⟨(by show _ ≤ 328; omega), (by show _ ≤ 1968; omega)⟩ (Nat.le_of_ble_eq_true rfl) ?_
                    refine v_ldc E dL_culprits_85 (v := -1000003) (x := (-1000003)) (by decide +kernel) rfl ?_
                    refine v_icmp_ne E dL_culprits_87 (tgt := 105) (by decide) (fun c87 => ?_) (fun c87 => ?_)
                    · exact absurd rfl c87
                    · refine v_aload_n E dL_culprits_90 0 rfl rfl ?_
                      refine v_iload E dL_culprits_91 4 rfl ?_
                      refine x_cSn E hA hTx dL_culprits_93 (l_closeF l D cI cZ cQ cJ a S hok hl (wA cI bx (z_U S) (z_C S) (z_D S) (g9 S) (z_B S) (f9 S) qf (n9 (z_no S) (z_li S) (z_wi S) (z_bu S) (z_qn S))) t ht hT) (vx_cwSW 2 E.2.2.2.1 gL_culprits_L_close rfl rfl rfl (by decide +kernel) ⟨Nat.le_of_ble_eq_true rfl, Nat.le_of_ble_eq_true rfl⟩) rfl rfl ⟨(by show _ ≤ 328; omega), (by show _ ≤ 1968; omega)⟩ (Nat.le_of_ble_eq_true rfl) ?_
                      refine v_ldc E dL_culprits_96 (v := -1000003) (x := (-1000003)) (by decide +kernel) rfl ?_
                      refine v_icmp_ne E dL_culprits_98 (tgt := 105) (by decide) (fun c98 => ?_) (fun c98 => ?_)
                      · exact absurd rfl c98
                      · refine v_iconst E dL_culprits_101 (v := nI 1) rfl ?_
                        refine v_goto E dL_culprits_102 (tgt := 106) (by decide) ?_
                        exact y_retz E hr rfl rfl rfl rfl (by omega) (by omega) dL_culprits_106
            · exact absurd c44 (by omega)
