/-! ===== the law: records ===== -/
set_option maxHeartbeats 8000000 in
set_option maxRecDepth 100000 in
theorem z_records (l : Launch) (D : va_G) (cI cZ cQ cJ : ClassId) (a bx : Nat → Nat) (S : zS) (hok : zOK S) (hl : l.stackTraces = false) (qf : Nat → Nat) (t c : Nat) (p : Bool) (ht : t < z_nt S) (hc : c < z_nc S) : v_Thr l yL_records wsL_records { frames := 9, cells := 249, slots := 1494, locals := 158 } D (wTy cI cZ cQ cJ) [.ref (a 0), .ref (bx 3), .ref (bx 4), .ref (bx 5), .int (nI (t)), .int (nI (c)), .int (bI (p))] ((wA cI bx (z_U S) (z_C S) (z_D S) (g9 S) (z_B S) (f9 S) qf (n9 (z_no S) (z_li S) (z_wi S) (z_bu S) (z_qn S))) ++ wX cI cZ cQ a S) 0 exI (some (.int (nI 1))) ((wA cI bx (z_U ((srr S t c p))) (z_C ((srr S t c p))) (z_D ((srr S t c p))) (g9 ((srr S t c p))) (z_B ((srr S t c p))) (f9 ((srr S t c p))) qf (n9 (z_no ((srr S t c p))) (z_li ((srr S t c p))) (z_wi ((srr S t c p))) (z_bu ((srr S t c p))) (z_qn ((srr S t c p))))) ++ wX cI cZ cQ a ((srr S t c p))) 249 1494 := by
  refine v_thrower (cc := cL_records) (maxL := 16) (ret := (some .boolean)) (own := RL) (lv0 := [(0, .ref (a 0)), (1, .ref (bx 3)), (2, .ref (bx 4)), (3, .ref (bx 5)), (4, .int (nI (t))), (5, .int (nI (c))), (6, .int (bI (p)))]) (by decide) rfl rfl (Nat.le_of_ble_eq_true rfl) rfl ?_
  intro p9 e9 s9 m9 as9 bl9 me9 cd9 A E hA htab hTx hr
  have hn1 := hok.1.1
  have hn2 := hok.1.2.1
  have hRl := (hok.2.2.2.2.1 t).1
  refine v_aload_n E dL_records_0 0 rfl rfl ?_
  refine v_iload E dL_records_1 4 rfl ?_
  refine v_iload E dL_records_3 5 rfl ?_
  refine x_cSn E hA hTx dL_records_5 (l_verdict0 l D cI cZ cQ cJ a S hok hl (wA cI bx (z_U S) (z_C S) (z_D S) (g9 S) (z_B S) (f9 S) qf (n9 (z_no S) (z_li S) (z_wi S) (z_bu S) (z_qn S))) t c ht hc) (vx_cwSW 3 E.2.2.2.1 gL_records_L_verdict rfl rfl rfl (by decide +kernel) ⟨Nat.le_of_ble_eq_true rfl, Nat.le_of_ble_eq_true rfl⟩) rfl rfl ⟨(by show _ ≤ 249; omega), (by show _ ≤ 1494; omega)⟩ (Nat.le_of_ble_eq_true rfl) ?_
  refine v_istore E dL_records_8 (by decide) rfl ?_
  refine v_aload_n E dL_records_10 1 rfl rfl ?_
  refine v_iload E dL_records_11 5 rfl ?_
  refine x_cSn E hA hTx dL_records_13 (l_runs0 l D cI cZ cQ cJ a S hok hl (wA cI bx (z_U S) (z_C S) (z_D S) (g9 S) (z_B S) (f9 S) qf (n9 (z_no S) (z_li S) (z_wi S) (z_bu S) (z_qn S))) t ht) (vx_cwSW 2 E.2.2.2.1 gL_records_L_runs rfl rfl rfl (by decide +kernel) ⟨Nat.le_of_ble_eq_true rfl, Nat.le_of_ble_eq_true rfl⟩) rfl rfl ⟨(by show _ ≤ 249; omega), (by show _ ≤ 1494; omega)⟩ (Nat.le_of_ble_eq_true rfl) ?_
  refine v_istore E dL_records_16 (by decide) rfl ?_
  refine v_lconst E dL_records_18 (v := lN 0) rfl ?_
  refine v_lstore E dL_records_19 (by decide) rfl ?_
  refine v_lconst E dL_records_21 (v := lN 0) rfl ?_
  refine v_lstore E dL_records_22 (by decide) rfl ?_
  rcases Bool.eq_false_or_eq_true (z_T S t) with hT | hT
  · obtain ⟨hT1, hT2, hT3⟩ := hok.2.2.1 t hT
    refine v_iconst E dL_records_24 (v := nI 0) rfl ?_
    refine v_istore E dL_records_25 (by decide) rfl ?_
    have L27_1 : ∀ (n27 : Nat) (k : Nat) (due : Int64), z_nc S - k < n27 → (k ≤ z_nc S) → (due = h9 (du9 S t c p) k) → V p9 l e9 (headSpec wsL_records { frames := 9, cells := 249, slots := 1494, locals := 158 }).room s9 m9 as9 bl9 me9 cd9 (3 + 3 * k) (18 + 18 * k) (vx_MQ bl9 (v_Qo D (wTy cI cZ cQ cJ) (0 = 0) (some (.int (nI 1))) ((wA cI bx (z_U ((srr S t c p))) (z_C ((srr S t c p))) (z_D ((srr S t c p))) (g9 ((srr S t c p))) (z_B ((srr S t c p))) (f9 ((srr S t c p))) qf (n9 (z_no ((srr S t c p))) (z_li ((srr S t c p))) (z_wi ((srr S t c p))) (z_bu ((srr S t c p))) (z_qn ((srr S t c p))))) ++ wX cI cZ cQ a ((srr S t c p))) A) (v_XC D (wTy cI cZ cQ cJ) 0 exI ((wA cI bx (z_U S) (z_C S) (z_D S) (g9 S) (z_B S) (f9 S) qf (n9 (z_no S) (z_li S) (z_wi S) (z_bu S) (z_qn S))) ++ wX cI cZ cQ a S) A) as9 s9 249 1494 A) (v_rw D A s9) 16 27 [(11, .long (due)), (13, .int (nI (k))), (9, .long (lN (0))), (8, .int (nI (z_R S (t)))), (7, .int (nI (vd (z_P S (t) (c)) (z_F S (t) (c))))), (0, .ref (a 0)), (1, .ref (bx 3)), (2, .ref (bx 4)), (3, .ref (bx 5)), (4, .int (nI (t))), (5, .int (nI (c))), (6, .int (bI (p)))] [] ((wA cI bx (z_U S) (z_C S) (z_D S) (g9 S) (z_B S) (f9 S) qf (n9 (z_no S) (z_li S) (z_wi S) (z_bu S) (z_qn S))) ++ wX cI cZ cQ a S) := by
      intro n27
      induction n27 with
      | zero => intro k due hm27 hk hdue; exact absurd hm27 (Nat.not_lt_zero _)
      | succ n27 ih27 =>
        intro k due hm27 hk hdue
        refine v_iload E dL_records_27 1 rfl ?_
        refine v_aload_n E dL_records_29 5 rfl rfl ?_
        refine v_cVi' E dL_records_30 (x_X1_commits l D cI cZ cQ cJ a S hok) (cwV 0 E.2.2.2.1 gL_records_X1_commits rfl rfl rfl (by decide +kernel) ⟨Nat.le_of_ble_eq_true rfl, Nat.le_of_ble_eq_true rfl⟩) 8 rfl rfl rfl (fun H h => subR H h) rfl rfl ⟨(by show _ ≤ 249; omega), (by show _ ≤ 1494; omega)⟩ (Nat.le_of_ble_eq_true rfl) ?_
        refine n_icmp_ge E dL_records_33 (by omega) (by omega) (tgt := 135) (by decide) (fun c33 => ?_) (fun c33 => ?_)
        · rcases Nat.lt_or_ge (z_R S t) 200 with hR | hR
          · have hRR : z_R (srec S t c p) t = z_R S t + 1 := by rw [srec_R]; exact if_pos rfl
            have hnc := srec_nc S t c p
            have hnt := srec_nt S t c p
            have hTr : z_T (srec S t c p) t = z_T S t := by rw [srec_T]
            refine v_aload_n E dL_records_135 5 rfl rfl ?_
            refine v_iload E dL_records_136 9 rfl ?_
            refine v_iload E dL_records_138 10 rfl ?_
            refine v_iload E dL_records_140 11 rfl ?_
            refine x_cSn E hA hTx dL_records_142 (l_record0 l D cI cZ cQ cJ a S hok hl (wA cI bx (z_U S) (z_C S) (z_D S) (g9 S) (z_B S) (f9 S) qf (n9 (z_no S) (z_li S) (z_wi S) (z_bu S) (z_qn S))) t c p ht hc hR) (vx_cwSW 4 E.2.2.2.1 gL_records_L_record rfl rfl rfl (by decide +kernel) ⟨Nat.le_of_ble_eq_true rfl, Nat.le_of_ble_eq_true rfl⟩) rfl rfl ⟨(by show _ ≤ 249; omega), (by show _ ≤ 1494; omega)⟩ (Nat.le_of_ble_eq_true rfl) ?_
            refine v_istore E dL_records_145 (by decide) rfl ?_
            refine v_iload E dL_records_147 3 rfl ?_
            refine v_sipush E dL_records_149 (v := nI 200) rfl ?_
            refine n_icmp_ne E dL_records_152 (by omega) (by omega) (tgt := 180) (by decide) (fun c152 => ?_) (fun c152 => ?_)
            · refine v_aload_n E dL_records_180 8 rfl rfl ?_
              refine v_iload E dL_records_181 9 rfl ?_
              refine v_dup2 E dL_records_183 rfl rfl ?_
              refine v_iald E dL_records_184 (v := nI (f9 S t)) 5 0 rfl rfl (by omega) (by decide) rfl ?_
              refine v_iload E dL_records_185 11 rfl ?_
              have J195_2 : V p9 l e9 (headSpec wsL_records { frames := 9, cells := 249, slots := 1494, locals := 158 }).room s9 m9 as9 bl9 me9 cd9 (3 + 3 * k + 3) (18 + 18 * k + 18) (vx_MQ bl9 (v_Qo D (wTy cI cZ cQ cJ) (0 = 0) (some (.int (nI 1))) ((wA cI bx (z_U ((srr S t c p))) (z_C ((srr S t c p))) (z_D ((srr S t c p))) (g9 ((srr S t c p))) (z_B ((srr S t c p))) (f9 ((srr S t c p))) qf (n9 (z_no ((srr S t c p))) (z_li ((srr S t c p))) (z_wi ((srr S t c p))) (z_bu ((srr S t c p))) (z_qn ((srr S t c p))))) ++ wX cI cZ cQ a ((srr S t c p))) A) (v_XC D (wTy cI cZ cQ cJ) 0 exI ((wA cI bx (z_U S) (z_C S) (z_D S) (g9 S) (z_B S) (f9 S) qf (n9 (z_no S) (z_li S) (z_wi S) (z_bu S) (z_qn S))) ++ wX cI cZ cQ a S) A) as9 s9 249 1494 A) (v_rw D A s9) 16 195 [(13, .int (nI (vd (z_P (srec S (t) (c) (p)) (t) (c)) (z_F (srec S (t) (c) (p)) (t) (c))))), (11, .long (due)), (9, .long (lN (0))), (8, .int (nI (z_R S (t)))), (7, .int (nI (vd (z_P S (t) (c)) (z_F S (t) (c))))), (0, .ref (a 0)), (1, .ref (bx 3)), (2, .ref (bx 4)), (3, .ref (bx 5)), (4, .int (nI (t))), (5, .int (nI (c))), (6, .int (bI (p)))] [.int (nI (b1 (!p))), .int (nI (f9 S t)), .int (nI (t)), .ref (bx 5)] ((wA cI bx (z_U S) (z_C S) (z_D S) (g9 S) (z_B S) (f9 S) qf (n9 (z_no S) (z_li S) (z_wi S) (z_bu S) (z_qn S))) ++ wX cI cZ cQ a ((srec S (t) (c) (p)))) := by
                refine v_iadd E dL_records_195 (nI_add _ _) ?_
                refine v_iast E dL_records_196 5 0 rfl rfl (by omega) (by decide) (w' := ((wA cI bx (z_U S) (z_C S) (z_D S) (g9 S) (z_B S) (va_up (f9 S) (t) (f9 S t + (b1 (!p)))) qf (n9 (z_no S) (z_li S) (z_wi S) (z_bu S) (z_qn S))) ++ wX cI cZ cQ a ((srec S (t) (c) (p))))) (wA_f _ _) ?_
                refine v_iconst E dL_records_197 (v := nI 0) rfl ?_
                refine v_istore E dL_records_198 (by decide) rfl ?_
                have L200_3 : ∀ (n200 : Nat) (k2 : Nat) (su : Int64), z_nc S - k2 < n200 → (k2 ≤ z_nc S) → (su = h9 (du9 S t c p) k2) → V p9 l e9 (headSpec wsL_records { frames := 9, cells := 249, slots := 1494, locals := 158 }).room s9 m9 as9 bl9 me9 cd9 (126 + 3 * k2) (756 + 18 * k2) (vx_MQ bl9 (v_Qo D (wTy cI cZ cQ cJ) (0 = 0) (some (.int (nI 1))) ((wA cI bx (z_U ((srr S t c p))) (z_C ((srr S t c p))) (z_D ((srr S t c p))) (g9 ((srr S t c p))) (z_B ((srr S t c p))) (f9 ((srr S t c p))) qf (n9 (z_no ((srr S t c p))) (z_li ((srr S t c p))) (z_wi ((srr S t c p))) (z_bu ((srr S t c p))) (z_qn ((srr S t c p))))) ++ wX cI cZ cQ a ((srr S t c p))) A) (v_XC D (wTy cI cZ cQ cJ) 0 exI ((wA cI bx (z_U S) (z_C S) (z_D S) (g9 S) (z_B S) (f9 S) qf (n9 (z_no S) (z_li S) (z_wi S) (z_bu S) (z_qn S))) ++ wX cI cZ cQ a S) A) as9 s9 249 1494 A) (v_rw D A s9) 16 200 [(9, .long (su)), (14, .int (nI (k2))), (13, .int (nI (vd (z_P (srec S (t) (c) (p)) (t) (c)) (z_F (srec S (t) (c) (p)) (t) (c))))), (11, .long (due)), (8, .int (nI (z_R S (t)))), (7, .int (nI (vd (z_P S (t) (c)) (z_F S (t) (c))))), (0, .ref (a 0)), (1, .ref (bx 3)), (2, .ref (bx 4)), (3, .ref (bx 5)), (4, .int (nI (t))), (5, .int (nI (c))), (6, .int (bI (p)))] [] ((wA cI bx (z_U S) (z_C S) (z_D S) (g9 S) (z_B S) (va_up (f9 S) (t) (f9 S t + (b1 (!p)))) qf (n9 (z_no S) (z_li S) (z_wi S) (z_bu S) (z_qn S))) ++ wX cI cZ cQ a ((srec S (t) (c) (p)))) := by
                  intro n200
                  induction n200 with
                  | zero => intro k2 su hm200 hk2 hsu; exact absurd hm200 (Nat.not_lt_zero _)
                  | succ n200 ih200 =>
                    intro k2 su hm200 hk2 hsu
                    refine v_iload E dL_records_200 1 rfl ?_
                    refine v_aload_n E dL_records_202 6 rfl rfl ?_
                    refine v_cVi' E dL_records_203 (x_X1_commits l D cI cZ cQ cJ a ((srec S (t) (c) (p))) (zOK_rec hok p hc hR)) (cwV 0 E.2.2.2.1 gL_records_X1_commits rfl rfl rfl (by decide +kernel) ⟨Nat.le_of_ble_eq_true rfl, Nat.le_of_ble_eq_true rfl⟩) 8 rfl rfl rfl (fun H h => subR H h) rfl rfl ⟨(by show _ ≤ 249; omega), (by show _ ≤ 1494; omega)⟩ (Nat.le_of_ble_eq_true rfl) ?_
                    refine n_icmp_ge E dL_records_206 (by omega) (by omega) (tgt := 240) (by decide) (fun c206 => ?_) (fun c206 => ?_)
                    · refine v_iload E dL_records_240 2 rfl ?_
                      refine v_iload E dL_records_242 5 rfl ?_
                      refine v_iload E dL_records_244 12 rfl ?_
                      have J254_4 : V p9 l e9 (headSpec wsL_records { frames := 9, cells := 249, slots := 1494, locals := 158 }).room s9 m9 as9 bl9 me9 cd9 (126 + 3 * k2) (756 + 18 * k2) (vx_MQ bl9 (v_Qo D (wTy cI cZ cQ cJ) (0 = 0) (some (.int (nI 1))) ((wA cI bx (z_U ((srr S t c p))) (z_C ((srr S t c p))) (z_D ((srr S t c p))) (g9 ((srr S t c p))) (z_B ((srr S t c p))) (f9 ((srr S t c p))) qf (n9 (z_no ((srr S t c p))) (z_li ((srr S t c p))) (z_wi ((srr S t c p))) (z_bu ((srr S t c p))) (z_qn ((srr S t c p))))) ++ wX cI cZ cQ a ((srr S t c p))) A) (v_XC D (wTy cI cZ cQ cJ) 0 exI ((wA cI bx (z_U S) (z_C S) (z_D S) (g9 S) (z_B S) (f9 S) qf (n9 (z_no S) (z_li S) (z_wi S) (z_bu S) (z_qn S))) ++ wX cI cZ cQ a S) A) as9 s9 249 1494 A) (v_rw D A s9) 16 254 [(9, .long (su)), (14, .int (nI (k2))), (13, .int (nI (vd (z_P (srec S (t) (c) (p)) (t) (c)) (z_F (srec S (t) (c) (p)) (t) (c))))), (11, .long (due)), (8, .int (nI (z_R S (t)))), (7, .int (nI (vd (z_P S (t) (c)) (z_F S (t) (c))))), (0, .ref (a 0)), (1, .ref (bx 3)), (2, .ref (bx 4)), (3, .ref (bx 5)), (4, .int (nI (t))), (5, .int (nI (c))), (6, .int (bI (p)))] [.int (nI ((if p then 1 else 2))), .int (nI (vd (z_P S (t) (c)) (z_F S (t) (c)))), .int (nI (vd (z_P (srec S (t) (c) (p)) (t) (c)) (z_F (srec S (t) (c) (p)) (t) (c))))] ((wA cI bx (z_U S) (z_C S) (z_D S) (g9 S) (z_B S) (va_up (f9 S) (t) (f9 S t + (b1 (!p)))) qf (n9 (z_no S) (z_li S) (z_wi S) (z_bu S) (z_qn S))) ++ wX cI cZ cQ a ((srec S (t) (c) (p)))) := by
                        refine v_ior E dL_records_254 (nx_or _ _) ?_
                        refine v_icmp_ne E dL_records_255 (tgt := 296) (by decide) (fun c255 => ?_) (fun c255 => ?_)
                        · exact absurd (congrArg nI (vd_rec S t c p)) c255
                        · refine v_aload_n E dL_records_258 6 rfl rfl ?_
                          refine v_iload E dL_records_259 10 rfl ?_
                          refine v_iload E dL_records_261 11 rfl ?_
                          refine x_cSn E hA hTx dL_records_263 (l_verdict0 l D cI cZ cQ cJ a ((srec S (t) (c) (p))) (zOK_rec hok p hc hR) hl (wA cI bx (z_U S) (z_C S) (z_D S) (g9 S) (z_B S) (va_up (f9 S) (t) (f9 S t + (b1 (!p)))) qf (n9 (z_no S) (z_li S) (z_wi S) (z_bu S) (z_qn S))) t c (by omega) (by omega)) (vx_cwSW 3 E.2.2.2.1 gL_records_L_verdict rfl rfl rfl (by decide +kernel) ⟨Nat.le_of_ble_eq_true rfl, Nat.le_of_ble_eq_true rfl⟩) rfl rfl ⟨(by show _ ≤ 249; omega), (by show _ ≤ 1494; omega)⟩ (Nat.le_of_ble_eq_true rfl) ?_
                          refine v_iload E dL_records_266 2 rfl ?_
                          refine v_icmp_ne E dL_records_268 (tgt := 296) (by decide) (fun c268 => ?_) (fun c268 => ?_)
                          · exact absurd rfl c268
                          · refine v_aload_n E dL_records_271 6 rfl rfl ?_
                            refine v_iload E dL_records_272 10 rfl ?_
                            refine x_cSn E hA hTx dL_records_274 (l_runs0 l D cI cZ cQ cJ a ((srec S (t) (c) (p))) (zOK_rec hok p hc hR) hl (wA cI bx (z_U S) (z_C S) (z_D S) (g9 S) (z_B S) (va_up (f9 S) (t) (f9 S t + (b1 (!p)))) qf (n9 (z_no S) (z_li S) (z_wi S) (z_bu S) (z_qn S))) t (by omega)) (vx_cwSW 2 E.2.2.2.1 gL_records_L_runs rfl rfl rfl (by decide +kernel) ⟨Nat.le_of_ble_eq_true rfl, Nat.le_of_ble_eq_true rfl⟩) rfl rfl ⟨(by show _ ≤ 249; omega), (by show _ ≤ 1494; omega)⟩ (Nat.le_of_ble_eq_true rfl) ?_
                            refine v_iload E dL_records_277 4 rfl ?_
                            refine v_iconst E dL_records_279 (v := nI 1) rfl ?_
                            refine v_iadd E dL_records_280 (nI_add _ _) ?_
                            refine v_icmp_ne E dL_records_281 (tgt := 296) (by decide) (fun c281 => ?_) (fun c281 => ?_)
                            · exact absurd (congrArg nI hRR) c281
                            · refine v_lload E dL_records_284 0 rfl ?_
                              refine v_lload E dL_records_286 3 rfl ?_
                              refine v_lcmp E dL_records_288 (z := nI (0)) (by rw [hsu, hdue, show k2 = k by omega]; exact lcmp_self _) ?_
                              refine n_if_ne E dL_records_289 (by omega) (tgt := 296) (by decide) (fun c289 => ?_) (fun c289 => ?_)
                              · exact absurd c289 (by omega)
                              · refine v_iconst E dL_records_292 (v := nI 1) rfl ?_
                                refine v_goto E dL_records_293 (tgt := 297) (by decide) ?_
                                exact y_retz E hr rfl rfl rfl (w_rec (by omega) hR (wX cI cZ cQ a)) (by omega) (by omega) dL_records_297
                      refine b_if_eq E dL_records_246 (tgt := 253) (by decide) (fun c246 => ?_) (fun c246 => ?_)
                      · refine v_iconst E dL_records_253 (v := nI 2) rfl ?_
                        refine v_top (y := nI ((if p then 1 else 2))) (by rw [c246]; rfl) ?_
                        exact J254_4
                      · refine v_iconst E dL_records_249 (v := nI 1) rfl ?_
                        refine v_goto E dL_records_250 (tgt := 254) (by decide) ?_
                        refine v_top (y := nI ((if p then 1 else 2))) (by rw [c246]; rfl) ?_
                        exact J254_4
                    · refine v_aload_n E dL_records_209 7 rfl rfl ?_
                      refine v_iload E dL_records_210 10 rfl ?_
                      refine v_iald E dL_records_212 (v := nI (z_G S t)) 3 0 rfl rfl (by omega) (by decide) (g9_t ht hT) ?_
                      refine n_if_lt E dL_records_213 (by omega) (tgt := 240) (by decide) (fun c213 => ?_) (fun c213 => ?_)
                      · exact c213.elim
                      · refine v_ldc2 E dL_records_216 (v := 211) (x := lN 211) (by decide +kernel) rfl ?_
                        refine v_lload E dL_records_219 0 rfl ?_
                        refine v_lmul E dL_records_221 (z := ((211 * su))) rfl ?_
                        refine v_aload_n E dL_records_222 6 rfl rfl ?_
                        refine v_iload E dL_records_223 10 rfl ?_
                        refine v_iload E dL_records_225 1 rfl ?_
                        refine x_cSn E hA hTx dL_records_227 (l_contradictions0 l D cI cZ cQ cJ a ((srec S (t) (c) (p))) (zOK_rec hok p hc hR) hl (wA cI bx (z_U S) (z_C S) (z_D S) (g9 S) (z_B S) (va_up (f9 S) (t) (f9 S t + (b1 (!p)))) qf (n9 (z_no S) (z_li S) (z_wi S) (z_bu S) (z_qn S))) t k2 (by omega) c206 (by rw [hTr]; exact hT)) (vx_cwSW 3 E.2.2.2.1 gL_records_L_contradictions rfl rfl rfl (by decide +kernel) ⟨Nat.le_of_ble_eq_true rfl, Nat.le_of_ble_eq_true rfl⟩) rfl rfl ⟨(by show _ ≤ 249; omega), (by show _ ≤ 1494; omega)⟩ (Nat.le_of_ble_eq_true rfl) ?_
                        refine v_i2l E dL_records_230 (z := (((zco ((srec S (t) (c) (p))) (t) (k2))).toInt64)) rfl ?_
                        refine v_ladd E dL_records_231 (z := ((211 * su + (du9 S t c p k2).toInt64))) (by rw [zco_rec]) ?_
                        refine v_lstore E dL_records_232 (by decide) rfl ?_
                        refine v_iinc E dL_records_234 1 rfl (nI_1 _) (by decide) rfl ?_
                        refine v_goto E dL_records_237 (tgt := 200) (by decide) ?_
                        refine v_more (c2 := 126 + 3 * (k2 + 1)) (s2 := 756 + 18 * (k2 + 1)) (by omega) (by omega) ?_
                        refine v_lv [1, 0, 2, 3, 4, 5, 6, 7, 8, 9, 10, 11, 12] rfl ?_
                        exact ih200 (k2 + 1) ((211 * su + (du9 S t c p k2).toInt64)) (by omega) (by omega) (by rw [hsu]; rfl)
                refine v_more (c2 := 126 + 3 * (0)) (s2 := 756 + 18 * (0)) (by omega) (by omega) ?_
                refine v_lv [3, 0, 1, 2, 4, 5, 6, 7, 8, 9, 10, 11, 12] rfl ?_
                exact L200_3 (z_nc S - (0) + 1) (0) (lN 0) (by omega) (by omega) rfl
              refine b_if_eq E dL_records_187 (tgt := 194) (by decide) (fun c187 => ?_) (fun c187 => ?_)
              · refine v_iconst E dL_records_194 (v := nI 1) rfl ?_
                refine v_top (y := nI (b1 (!p))) (by rw [c187]; rfl) ?_
                exact J195_2
              · refine v_iconst E dL_records_190 (v := nI 0) rfl ?_
                refine v_goto E dL_records_191 (tgt := 195) (by decide) ?_
                refine v_top (y := nI (b1 (!p))) (by rw [c187]; rfl) ?_
                exact J195_2
            · exact absurd c152 (by omega)
          · refine v_aload_n E dL_records_135 5 rfl rfl ?_
            refine v_iload E dL_records_136 9 rfl ?_
            refine v_iload E dL_records_138 10 rfl ?_
            refine v_iload E dL_records_140 11 rfl ?_
            refine x_cSn E hA hTx dL_records_142 (l_recordF l D cI cZ cQ cJ a S hok hl (wA cI bx (z_U S) (z_C S) (z_D S) (g9 S) (z_B S) (f9 S) qf (n9 (z_no S) (z_li S) (z_wi S) (z_bu S) (z_qn S))) t c p ht hc (by omega)) (vx_cwSW 4 E.2.2.2.1 gL_records_L_record rfl rfl rfl (by decide +kernel) ⟨Nat.le_of_ble_eq_true rfl, Nat.le_of_ble_eq_true rfl⟩) rfl rfl ⟨(by show _ ≤ 249; omega), (by show _ ≤ 1494; omega)⟩ (Nat.le_of_ble_eq_true rfl) ?_
            refine v_istore E dL_records_145 (by decide) rfl ?_
            refine v_iload E dL_records_147 3 rfl ?_
            refine v_sipush E dL_records_149 (v := nI 200) rfl ?_
            refine n_icmp_ne E dL_records_152 (by omega) (by omega) (tgt := 180) (by decide) (fun c152 => ?_) (fun c152 => ?_)
            · exact absurd c152 (by omega)
            · refine v_iload E dL_records_155 0 rfl ?_
              refine v_ldc E dL_records_157 (v := -1000003) (x := (-1000003)) (by decide +kernel) rfl ?_
              refine v_icmp_ne E dL_records_159 (tgt := 178) (by decide) (fun c159 => ?_) (fun c159 => ?_)
              · exact absurd rfl c159
              · refine v_aload_n E dL_records_162 5 rfl rfl ?_
                refine v_iload E dL_records_163 9 rfl ?_
                refine x_cSn E hA hTx dL_records_165 (l_runs0 l D cI cZ cQ cJ a S hok hl (wA cI bx (z_U S) (z_C S) (z_D S) (g9 S) (z_B S) (f9 S) qf (n9 (z_no S) (z_li S) (z_wi S) (z_bu S) (z_qn S))) t ht) (vx_cwSW 2 E.2.2.2.1 gL_records_L_runs rfl rfl rfl (by decide +kernel) ⟨Nat.le_of_ble_eq_true rfl, Nat.le_of_ble_eq_true rfl⟩) rfl rfl ⟨(by show _ ≤ 249; omega), (by show _ ≤ 1494; omega)⟩ (Nat.le_of_ble_eq_true rfl) ?_
                refine v_sipush E dL_records_168 (v := nI 200) rfl ?_
                refine n_icmp_ne E dL_records_171 (by omega) (by omega) (tgt := 178) (by decide) (fun c171 => ?_) (fun c171 => ?_)
                · exact absurd c171 (by omega)
                · refine v_iconst E dL_records_174 (v := nI 1) rfl ?_
                  refine v_goto E dL_records_175 (tgt := 179) (by decide) ?_
                  exact y_retz E hr rfl rfl rfl (by rw [srr_n (show ¬ z_R S t < 200 by omega)]) (by omega) (by omega) dL_records_179
        · refine v_aload_n E dL_records_36 6 rfl rfl ?_
          refine v_iload E dL_records_37 9 rfl ?_
          refine v_iald E dL_records_39 (v := nI (z_G S t)) 3 0 rfl rfl (by omega) (by decide) (g9_t ht hT) ?_
          refine n_if_lt E dL_records_40 (by omega) (tgt := 135) (by decide) (fun c40 => ?_) (fun c40 => ?_)
          · exact c40.elim
          · have hzg := zag_le hok (t := t) k (by omega)
            refine v_aload_n E dL_records_43 5 rfl rfl ?_
            refine v_iload E dL_records_44 9 rfl ?_
            refine v_iload E dL_records_46 1 rfl ?_
            refine x_cSn E hA hTx dL_records_48 (l_contradictions0 l D cI cZ cQ cJ a S hok hl (wA cI bx (z_U S) (z_C S) (z_D S) (g9 S) (z_B S) (f9 S) qf (n9 (z_no S) (z_li S) (z_wi S) (z_bu S) (z_qn S))) t k ht c33 hT) (vx_cwSW 3 E.2.2.2.1 gL_records_L_contradictions rfl rfl rfl (by decide +kernel) ⟨Nat.le_of_ble_eq_true rfl, Nat.le_of_ble_eq_true rfl⟩) rfl rfl ⟨(by show _ ≤ 249; omega), (by show _ ≤ 1494; omega)⟩ (Nat.le_of_ble_eq_true rfl) ?_
            refine v_istore E dL_records_51 (by decide) rfl ?_
            refine v_iload E dL_records_53 0 rfl ?_
            have J103_5 : V p9 l e9 (headSpec wsL_records { frames := 9, cells := 249, slots := 1494, locals := 158 }).room s9 m9 as9 bl9 me9 cd9 (3 + 3 * k + 3) (18 + 18 * k + 18) (vx_MQ bl9 (v_Qo D (wTy cI cZ cQ cJ) (0 = 0) (some (.int (nI 1))) ((wA cI bx (z_U ((srr S t c p))) (z_C ((srr S t c p))) (z_D ((srr S t c p))) (g9 ((srr S t c p))) (z_B ((srr S t c p))) (f9 ((srr S t c p))) qf (n9 (z_no ((srr S t c p))) (z_li ((srr S t c p))) (z_wi ((srr S t c p))) (z_bu ((srr S t c p))) (z_qn ((srr S t c p))))) ++ wX cI cZ cQ a ((srr S t c p))) A) (v_XC D (wTy cI cZ cQ cJ) 0 exI ((wA cI bx (z_U S) (z_C S) (z_D S) (g9 S) (z_B S) (f9 S) qf (n9 (z_no S) (z_li S) (z_wi S) (z_bu S) (z_qn S))) ++ wX cI cZ cQ a S) A) as9 s9 249 1494 A) (v_rw D A s9) 16 103 [(14, .int (zco S (t) (k))), (11, .long (due)), (13, .int (nI (k))), (9, .long (lN (0))), (8, .int (nI (z_R S (t)))), (7, .int (nI (vd (z_P S (t) (c)) (z_F S (t) (c))))), (0, .ref (a 0)), (1, .ref (bx 3)), (2, .ref (bx 4)), (3, .ref (bx 5)), (4, .int (nI (t))), (5, .int (nI (c))), (6, .int (bI (p)))] [.int (nI (mm9 S t c p k))] ((wA cI bx (z_U S) (z_C S) (z_D S) (g9 S) (z_B S) (f9 S) qf (n9 (z_no S) (z_li S) (z_wi S) (z_bu S) (z_qn S))) ++ wX cI cZ cQ a S) := by
              have hml := mm9_le S t c p k
              refine v_istore E dL_records_103 (by decide) rfl ?_
              refine v_ldc2 E dL_records_105 (v := 211) (x := lN 211) (by decide +kernel) rfl ?_
              refine v_lload E dL_records_108 2 rfl ?_
              refine v_lmul E dL_records_110 (z := ((211 * due))) rfl ?_
              refine v_iload E dL_records_111 1 rfl ?_
              refine v_i2l E dL_records_113 (z := ((zco S t k).toInt64)) rfl ?_
              refine v_ladd E dL_records_114 (z := ((211 * due + (zco S t k).toInt64))) rfl ?_
              refine v_iload E dL_records_115 0 rfl ?_
              have J125_6 : V p9 l e9 (headSpec wsL_records { frames := 9, cells := 249, slots := 1494, locals := 158 }).room s9 m9 as9 bl9 me9 cd9 (3 + 3 * k + 3) (18 + 18 * k + 18) (vx_MQ bl9 (v_Qo D (wTy cI cZ cQ cJ) (0 = 0) (some (.int (nI 1))) ((wA cI bx (z_U ((srr S t c p))) (z_C ((srr S t c p))) (z_D ((srr S t c p))) (g9 ((srr S t c p))) (z_B ((srr S t c p))) (f9 ((srr S t c p))) qf (n9 (z_no ((srr S t c p))) (z_li ((srr S t c p))) (z_wi ((srr S t c p))) (z_bu ((srr S t c p))) (z_qn ((srr S t c p))))) ++ wX cI cZ cQ a ((srr S t c p))) A) (v_XC D (wTy cI cZ cQ cJ) 0 exI ((wA cI bx (z_U S) (z_C S) (z_D S) (g9 S) (z_B S) (f9 S) qf (n9 (z_no S) (z_li S) (z_wi S) (z_bu S) (z_qn S))) ++ wX cI cZ cQ a S) A) as9 s9 249 1494 A) (v_rw D A s9) 16 125 [(15, .int (nI (mm9 S t c p k))), (14, .int (zco S (t) (k))), (11, .long (due)), (13, .int (nI (k))), (9, .long (lN (0))), (8, .int (nI (z_R S (t)))), (7, .int (nI (vd (z_P S (t) (c)) (z_F S (t) (c))))), (0, .ref (a 0)), (1, .ref (bx 3)), (2, .ref (bx 4)), (3, .ref (bx 5)), (4, .int (nI (t))), (5, .int (nI (c))), (6, .int (bI (p)))] [.int (nI (mm9 S t c p k)), .long ((211 * due + (zco S t k).toInt64))] ((wA cI bx (z_U S) (z_C S) (z_D S) (g9 S) (z_B S) (f9 S) qf (n9 (z_no S) (z_li S) (z_wi S) (z_bu S) (z_qn S))) ++ wX cI cZ cQ a S) := by
                refine v_i2l E dL_records_125 (z := ((nI (mm9 S t c p k)).toInt64)) rfl ?_
                refine v_ladd E dL_records_126 (z := ((211 * due + (du9 S t c p k).toInt64))) (du_ok hzg _ rfl due) ?_
                refine v_lstore E dL_records_127 (by decide) rfl ?_
                refine v_iinc E dL_records_129 3 rfl (nI_1 _) (by decide) rfl ?_
                refine v_goto E dL_records_132 (tgt := 27) (by decide) ?_
                refine v_more (c2 := 3 + 3 * (k + 1)) (s2 := 18 + 18 * (k + 1)) (by omega) (by omega) ?_
                refine v_lv [1, 0, 4, 5, 6, 7, 8, 9, 10, 11, 12, 13] rfl ?_
                exact ih27 (k + 1) ((211 * due + (du9 S t c p k).toInt64)) (by omega) (by omega) (by rw [hdue]; rfl)
              refine n_if_eq E dL_records_117 (by omega) (tgt := 124) (by decide) (fun c117 => ?_) (fun c117 => ?_)
              · refine v_iconst E dL_records_124 (v := nI 0) rfl ?_
                refine v_top (y := nI (mm9 S t c p k)) (by rw [c117]) ?_
                exact J125_6
              · refine v_iconst E dL_records_120 (v := nI 1) rfl ?_
                refine v_goto E dL_records_121 (tgt := 125) (by decide) ?_
                refine v_top (y := nI (mm9 S t c p k)) (by rw [show mm9 S t c p k = 1 by omega]) ?_
                exact J125_6
            refine v_if_lt E dL_records_55 (tgt := 102) (by decide) (fun c55 => ?_) (fun c55 => ?_)
            · refine v_iconst E dL_records_102 (v := nI 0) rfl ?_
              refine v_top (y := nI (mm9 S t c p k)) (by rw [show mm9 S t c p k = 0 from if_neg (by rw [zco_neg hzg c55]; decide)]) ?_
              exact J103_5
            · have hs := zco_pos c55
              refine v_iload E dL_records_58 11 rfl ?_
              refine v_aload_n E dL_records_60 7 rfl rfl ?_
              refine v_iload E dL_records_61 10 rfl ?_
              refine v_iald E dL_records_63 (v := nI (z_G S t)) 3 0 rfl rfl (by omega) (by decide) (g9_t ht hT) ?_
              refine n_icmp_lt E dL_records_64 (by omega) (by omega) (tgt := 102) (by decide) (fun c64 => ?_) (fun c64 => ?_)
              · refine v_iconst E dL_records_102 (v := nI 0) rfl ?_
                refine v_top (y := nI (mm9 S t c p k)) (by rw [show mm9 S t c p k = b1 (mo9 S t c p k) from if_pos hs, show mo9 S t c p k = false from decide_eq_false (fun z => absurd z.1 (by omega))]; rfl) ?_
                exact J103_5
              · refine v_iload E dL_records_67 11 rfl ?_
                refine v_aload_n E dL_records_69 8 rfl rfl ?_
                refine v_iload E dL_records_70 10 rfl ?_
                refine v_iald E dL_records_72 (v := nI (z_B S t)) 4 0 rfl rfl (by omega) (by decide) rfl ?_
                refine n_icmp_gt E dL_records_73 (by omega) (by omega) (tgt := 102) (by decide) (fun c73 => ?_) (fun c73 => ?_)
                · refine v_iconst E dL_records_102 (v := nI 0) rfl ?_
                  refine v_top (y := nI (mm9 S t c p k)) (by rw [show mm9 S t c p k = b1 (mo9 S t c p k) from if_pos hs, show mo9 S t c p k = false from decide_eq_false (fun z => absurd z.2.1 (by omega))]; rfl) ?_
                  exact J103_5
                · refine v_iload E dL_records_76 12 rfl ?_
                  refine b_if_eq E dL_records_78 (tgt := 91) (by decide) (fun c78 => ?_) (fun c78 => ?_)
                  · refine v_iload E dL_records_91 11 rfl ?_
                    refine v_iload E dL_records_93 2 rfl ?_
                    refine n_icmp_ge E dL_records_95 (by omega) (by omega) (tgt := 102) (by decide) (fun c95 => ?_) (fun c95 => ?_)
                    · refine v_iconst E dL_records_102 (v := nI 0) rfl ?_
                      refine v_top (y := nI (mm9 S t c p k)) (by rw [show mm9 S t c p k = b1 (mo9 S t c p k) from if_pos hs, show mo9 S t c p k = false from decide_eq_false (fun z => by rw [c78] at z; exact absurd (z.2.2.mpr c95) (by decide))]; rfl) ?_
                      exact J103_5
                    · refine v_iconst E dL_records_98 (v := nI 1) rfl ?_
                      refine v_goto E dL_records_99 (tgt := 103) (by decide) ?_
                      refine v_top (y := nI (mm9 S t c p k)) (by rw [show mm9 S t c p k = b1 (mo9 S t c p k) from if_pos hs, show mo9 S t c p k = true from decide_eq_true ⟨by omega, by omega, by rw [c78]; exact ⟨fun z => absurd z (by decide), fun z => absurd z (by omega)⟩⟩]; rfl) ?_
                      exact J103_5
                  · refine v_iload E dL_records_81 11 rfl ?_
                    refine v_iload E dL_records_83 2 rfl ?_
                    refine n_icmp_lt E dL_records_85 (by omega) (by omega) (tgt := 102) (by decide) (fun c85 => ?_) (fun c85 => ?_)
                    · refine v_iconst E dL_records_102 (v := nI 0) rfl ?_
                      refine v_top (y := nI (mm9 S t c p k)) (by rw [show mm9 S t c p k = b1 (mo9 S t c p k) from if_pos hs, show mo9 S t c p k = false from decide_eq_false (fun z => absurd (z.2.2.mp c78) (by omega))]; rfl) ?_
                      exact J103_5
                    · refine v_goto E dL_records_88 (tgt := 98) (by decide) ?_
                      refine v_iconst E dL_records_98 (v := nI 1) rfl ?_
                      refine v_goto E dL_records_99 (tgt := 103) (by decide) ?_
                      refine v_top (y := nI (mm9 S t c p k)) (by rw [show mm9 S t c p k = b1 (mo9 S t c p k) from if_pos hs, show mo9 S t c p k = true from decide_eq_true ⟨by omega, by omega, ⟨fun _ => c85, fun _ => c78⟩⟩]; rfl) ?_
                      exact J103_5
    refine v_more (c2 := 3 + 3 * (0)) (s2 := 18 + 18 * (0)) (by omega) (by omega) ?_
    refine v_lv [1, 0, 2, 3, 4, 5, 6, 7, 8, 9, 10, 11] rfl ?_
    exact L27_1 (z_nc S - (0) + 1) (0) (lN 0) (by omega) (by omega) rfl
  · refine v_iconst E dL_records_24 (v := nI 0) rfl ?_
    refine v_istore E dL_records_25 (by decide) rfl ?_
    refine v_iload E dL_records_27 0 rfl ?_
    refine v_aload_n E dL_records_29 5 rfl rfl ?_
    refine v_cVi' E dL_records_30 (x_X1_commits l D cI cZ cQ cJ a S hok) (cwV 0 E.2.2.2.1 gL_records_X1_commits rfl rfl rfl (by decide +kernel) ⟨Nat.le_of_ble_eq_true rfl, Nat.le_of_ble_eq_true rfl⟩) 8 rfl rfl rfl (fun H h => subR H h) rfl rfl ⟨(by show _ ≤ 249; omega), (by show _ ≤ 1494; omega)⟩ (Nat.le_of_ble_eq_true rfl) ?_
    have J135_7 : V p9 l e9 (headSpec wsL_records { frames := 9, cells := 249, slots := 1494, locals := 158 }).room s9 m9 as9 bl9 me9 cd9 (0 + 2 + 1) (0 + 12 + 6) (vx_MQ bl9 (v_Qo D (wTy cI cZ cQ cJ) (0 = 0) (some (.int (nI 1))) ((wA cI bx (z_U ((srr S t c p))) (z_C ((srr S t c p))) (z_D ((srr S t c p))) (g9 ((srr S t c p))) (z_B ((srr S t c p))) (f9 ((srr S t c p))) qf (n9 (z_no ((srr S t c p))) (z_li ((srr S t c p))) (z_wi ((srr S t c p))) (z_bu ((srr S t c p))) (z_qn ((srr S t c p))))) ++ wX cI cZ cQ a ((srr S t c p))) A) (v_XC D (wTy cI cZ cQ cJ) 0 exI ((wA cI bx (z_U S) (z_C S) (z_D S) (g9 S) (z_B S) (f9 S) qf (n9 (z_no S) (z_li S) (z_wi S) (z_bu S) (z_qn S))) ++ wX cI cZ cQ a S) A) as9 s9 249 1494 A) (v_rw D A s9) 16 135 [(13, .int (nI (0))), (11, .long (lN (0))), (9, .long (lN (0))), (8, .int (nI (z_R S (t)))), (7, .int (nI (vd (z_P S (t) (c)) (z_F S (t) (c))))), (0, .ref (a 0)), (1, .ref (bx 3)), (2, .ref (bx 4)), (3, .ref (bx 5)), (4, .int (nI (t))), (5, .int (nI (c))), (6, .int (bI (p)))] [] ((wA cI bx (z_U S) (z_C S) (z_D S) (g9 S) (z_B S) (f9 S) qf (n9 (z_no S) (z_li S) (z_wi S) (z_bu S) (z_qn S))) ++ wX cI cZ cQ a S) := by
      rcases Nat.lt_or_ge (z_R S t) 200 with hR | hR
      · have hRR : z_R (srec S t c p) t = z_R S t + 1 := by rw [srec_R]; exact if_pos rfl
        have hnc := srec_nc S t c p
        have hnt := srec_nt S t c p
        have hTr : z_T (srec S t c p) t = z_T S t := by rw [srec_T]
        refine v_aload_n E dL_records_135 5 rfl rfl ?_
        refine v_iload E dL_records_136 9 rfl ?_
        refine v_iload E dL_records_138 10 rfl ?_
        refine v_iload E dL_records_140 11 rfl ?_
        refine x_cSn E hA hTx dL_records_142 (l_record0 l D cI cZ cQ cJ a S hok hl (wA cI bx (z_U S) (z_C S) (z_D S) (g9 S) (z_B S) (f9 S) qf (n9 (z_no S) (z_li S) (z_wi S) (z_bu S) (z_qn S))) t c p ht hc hR) (vx_cwSW 4 E.2.2.2.1 gL_records_L_record rfl rfl rfl (by decide +kernel) ⟨Nat.le_of_ble_eq_true rfl, Nat.le_of_ble_eq_true rfl⟩) rfl rfl ⟨(by show _ ≤ 249; omega), (by show _ ≤ 1494; omega)⟩ (Nat.le_of_ble_eq_true rfl) ?_
        refine v_istore E dL_records_145 (by decide) rfl ?_
        refine v_iload E dL_records_147 3 rfl ?_
        refine v_sipush E dL_records_149 (v := nI 200) rfl ?_
        refine n_icmp_ne E dL_records_152 (by omega) (by omega) (tgt := 180) (by decide) (fun c152 => ?_) (fun c152 => ?_)
        · refine v_aload_n E dL_records_180 8 rfl rfl ?_
          refine v_iload E dL_records_181 9 rfl ?_
          refine v_dup2 E dL_records_183 rfl rfl ?_
          refine v_iald E dL_records_184 (v := nI (f9 S t)) 5 0 rfl rfl (by omega) (by decide) rfl ?_
          refine v_iload E dL_records_185 11 rfl ?_
          have J195_8 : V p9 l e9 (headSpec wsL_records { frames := 9, cells := 249, slots := 1494, locals := 158 }).room s9 m9 as9 bl9 me9 cd9 (0 + 2 + 1 + 3) (0 + 12 + 6 + 18) (vx_MQ bl9 (v_Qo D (wTy cI cZ cQ cJ) (0 = 0) (some (.int (nI 1))) ((wA cI bx (z_U ((srr S t c p))) (z_C ((srr S t c p))) (z_D ((srr S t c p))) (g9 ((srr S t c p))) (z_B ((srr S t c p))) (f9 ((srr S t c p))) qf (n9 (z_no ((srr S t c p))) (z_li ((srr S t c p))) (z_wi ((srr S t c p))) (z_bu ((srr S t c p))) (z_qn ((srr S t c p))))) ++ wX cI cZ cQ a ((srr S t c p))) A) (v_XC D (wTy cI cZ cQ cJ) 0 exI ((wA cI bx (z_U S) (z_C S) (z_D S) (g9 S) (z_B S) (f9 S) qf (n9 (z_no S) (z_li S) (z_wi S) (z_bu S) (z_qn S))) ++ wX cI cZ cQ a S) A) as9 s9 249 1494 A) (v_rw D A s9) 16 195 [(13, .int (nI (vd (z_P (srec S (t) (c) (p)) (t) (c)) (z_F (srec S (t) (c) (p)) (t) (c))))), (11, .long (lN (0))), (9, .long (lN (0))), (8, .int (nI (z_R S (t)))), (7, .int (nI (vd (z_P S (t) (c)) (z_F S (t) (c))))), (0, .ref (a 0)), (1, .ref (bx 3)), (2, .ref (bx 4)), (3, .ref (bx 5)), (4, .int (nI (t))), (5, .int (nI (c))), (6, .int (bI (p)))] [.int (nI (b1 (!p))), .int (nI (f9 S t)), .int (nI (t)), .ref (bx 5)] ((wA cI bx (z_U S) (z_C S) (z_D S) (g9 S) (z_B S) (f9 S) qf (n9 (z_no S) (z_li S) (z_wi S) (z_bu S) (z_qn S))) ++ wX cI cZ cQ a ((srec S (t) (c) (p)))) := by
            refine v_iadd E dL_records_195 (nI_add _ _) ?_
            refine v_iast E dL_records_196 5 0 rfl rfl (by omega) (by decide) (w' := ((wA cI bx (z_U S) (z_C S) (z_D S) (g9 S) (z_B S) (va_up (f9 S) (t) (f9 S t + (b1 (!p)))) qf (n9 (z_no S) (z_li S) (z_wi S) (z_bu S) (z_qn S))) ++ wX cI cZ cQ a ((srec S (t) (c) (p))))) (wA_f _ _) ?_
            refine v_iconst E dL_records_197 (v := nI 0) rfl ?_
            refine v_istore E dL_records_198 (by decide) rfl ?_
            refine v_iload E dL_records_200 0 rfl ?_
            refine v_aload_n E dL_records_202 6 rfl rfl ?_
            refine v_cVi' E dL_records_203 (x_X1_commits l D cI cZ cQ cJ a ((srec S (t) (c) (p))) (zOK_rec hok p hc hR)) (cwV 0 E.2.2.2.1 gL_records_X1_commits rfl rfl rfl (by decide +kernel) ⟨Nat.le_of_ble_eq_true rfl, Nat.le_of_ble_eq_true rfl⟩) 8 rfl rfl rfl (fun H h => subR H h) rfl rfl ⟨(by show _ ≤ 249; omega), (by show _ ≤ 1494; omega)⟩ (Nat.le_of_ble_eq_true rfl) ?_
            have J240_9 : V p9 l e9 (headSpec wsL_records { frames := 9, cells := 249, slots := 1494, locals := 158 }).room s9 m9 as9 bl9 me9 cd9 (0 + 2 + 1 + 3) (0 + 12 + 6 + 18) (vx_MQ bl9 (v_Qo D (wTy cI cZ cQ cJ) (0 = 0) (some (.int (nI 1))) ((wA cI bx (z_U ((srr S t c p))) (z_C ((srr S t c p))) (z_D ((srr S t c p))) (g9 ((srr S t c p))) (z_B ((srr S t c p))) (f9 ((srr S t c p))) qf (n9 (z_no ((srr S t c p))) (z_li ((srr S t c p))) (z_wi ((srr S t c p))) (z_bu ((srr S t c p))) (z_qn ((srr S t c p))))) ++ wX cI cZ cQ a ((srr S t c p))) A) (v_XC D (wTy cI cZ cQ cJ) 0 exI ((wA cI bx (z_U S) (z_C S) (z_D S) (g9 S) (z_B S) (f9 S) qf (n9 (z_no S) (z_li S) (z_wi S) (z_bu S) (z_qn S))) ++ wX cI cZ cQ a S) A) as9 s9 249 1494 A) (v_rw D A s9) 16 240 [(14, .int (nI (0))), (13, .int (nI (vd (z_P (srec S (t) (c) (p)) (t) (c)) (z_F (srec S (t) (c) (p)) (t) (c))))), (11, .long (lN (0))), (9, .long (lN (0))), (8, .int (nI (z_R S (t)))), (7, .int (nI (vd (z_P S (t) (c)) (z_F S (t) (c))))), (0, .ref (a 0)), (1, .ref (bx 3)), (2, .ref (bx 4)), (3, .ref (bx 5)), (4, .int (nI (t))), (5, .int (nI (c))), (6, .int (bI (p)))] [] ((wA cI bx (z_U S) (z_C S) (z_D S) (g9 S) (z_B S) (va_up (f9 S) (t) (f9 S t + (b1 (!p)))) qf (n9 (z_no S) (z_li S) (z_wi S) (z_bu S) (z_qn S))) ++ wX cI cZ cQ a ((srec S (t) (c) (p)))) := by
              refine v_iload E dL_records_240 1 rfl ?_
              refine v_iload E dL_records_242 5 rfl ?_
              refine v_iload E dL_records_244 12 rfl ?_
              have J254_10 : V p9 l e9 (headSpec wsL_records { frames := 9, cells := 249, slots := 1494, locals := 158 }).room s9 m9 as9 bl9 me9 cd9 (0 + 2 + 1 + 3) (0 + 12 + 6 + 18) (vx_MQ bl9 (v_Qo D (wTy cI cZ cQ cJ) (0 = 0) (some (.int (nI 1))) ((wA cI bx (z_U ((srr S t c p))) (z_C ((srr S t c p))) (z_D ((srr S t c p))) (g9 ((srr S t c p))) (z_B ((srr S t c p))) (f9 ((srr S t c p))) qf (n9 (z_no ((srr S t c p))) (z_li ((srr S t c p))) (z_wi ((srr S t c p))) (z_bu ((srr S t c p))) (z_qn ((srr S t c p))))) ++ wX cI cZ cQ a ((srr S t c p))) A) (v_XC D (wTy cI cZ cQ cJ) 0 exI ((wA cI bx (z_U S) (z_C S) (z_D S) (g9 S) (z_B S) (f9 S) qf (n9 (z_no S) (z_li S) (z_wi S) (z_bu S) (z_qn S))) ++ wX cI cZ cQ a S) A) as9 s9 249 1494 A) (v_rw D A s9) 16 254 [(14, .int (nI (0))), (13, .int (nI (vd (z_P (srec S (t) (c) (p)) (t) (c)) (z_F (srec S (t) (c) (p)) (t) (c))))), (11, .long (lN (0))), (9, .long (lN (0))), (8, .int (nI (z_R S (t)))), (7, .int (nI (vd (z_P S (t) (c)) (z_F S (t) (c))))), (0, .ref (a 0)), (1, .ref (bx 3)), (2, .ref (bx 4)), (3, .ref (bx 5)), (4, .int (nI (t))), (5, .int (nI (c))), (6, .int (bI (p)))] [.int (nI ((if p then 1 else 2))), .int (nI (vd (z_P S (t) (c)) (z_F S (t) (c)))), .int (nI (vd (z_P (srec S (t) (c) (p)) (t) (c)) (z_F (srec S (t) (c) (p)) (t) (c))))] ((wA cI bx (z_U S) (z_C S) (z_D S) (g9 S) (z_B S) (va_up (f9 S) (t) (f9 S t + (b1 (!p)))) qf (n9 (z_no S) (z_li S) (z_wi S) (z_bu S) (z_qn S))) ++ wX cI cZ cQ a ((srec S (t) (c) (p)))) := by
                refine v_ior E dL_records_254 (nx_or _ _) ?_
                refine v_icmp_ne E dL_records_255 (tgt := 296) (by decide) (fun c255 => ?_) (fun c255 => ?_)
                · exact absurd (congrArg nI (vd_rec S t c p)) c255
                · refine v_aload_n E dL_records_258 6 rfl rfl ?_
                  refine v_iload E dL_records_259 10 rfl ?_
                  refine v_iload E dL_records_261 11 rfl ?_
                  refine x_cSn E hA hTx dL_records_263 (l_verdict0 l D cI cZ cQ cJ a ((srec S (t) (c) (p))) (zOK_rec hok p hc hR) hl (wA cI bx (z_U S) (z_C S) (z_D S) (g9 S) (z_B S) (va_up (f9 S) (t) (f9 S t + (b1 (!p)))) qf (n9 (z_no S) (z_li S) (z_wi S) (z_bu S) (z_qn S))) t c (by omega) (by omega)) (vx_cwSW 3 E.2.2.2.1 gL_records_L_verdict rfl rfl rfl (by decide +kernel) ⟨Nat.le_of_ble_eq_true rfl, Nat.le_of_ble_eq_true rfl⟩) rfl rfl ⟨(by show _ ≤ 249; omega), (by show _ ≤ 1494; omega)⟩ (Nat.le_of_ble_eq_true rfl) ?_
                  refine v_iload E dL_records_266 1 rfl ?_
                  refine v_icmp_ne E dL_records_268 (tgt := 296) (by decide) (fun c268 => ?_) (fun c268 => ?_)
                  · exact absurd rfl c268
                  · refine v_aload_n E dL_records_271 6 rfl rfl ?_
                    refine v_iload E dL_records_272 10 rfl ?_
                    refine x_cSn E hA hTx dL_records_274 (l_runs0 l D cI cZ cQ cJ a ((srec S (t) (c) (p))) (zOK_rec hok p hc hR) hl (wA cI bx (z_U S) (z_C S) (z_D S) (g9 S) (z_B S) (va_up (f9 S) (t) (f9 S t + (b1 (!p)))) qf (n9 (z_no S) (z_li S) (z_wi S) (z_bu S) (z_qn S))) t (by omega)) (vx_cwSW 2 E.2.2.2.1 gL_records_L_runs rfl rfl rfl (by decide +kernel) ⟨Nat.le_of_ble_eq_true rfl, Nat.le_of_ble_eq_true rfl⟩) rfl rfl ⟨(by show _ ≤ 249; omega), (by show _ ≤ 1494; omega)⟩ (Nat.le_of_ble_eq_true rfl) ?_
                    refine v_iload E dL_records_277 4 rfl ?_
                    refine v_iconst E dL_records_279 (v := nI 1) rfl ?_
                    refine v_iadd E dL_records_280 (nI_add _ _) ?_
                    refine v_icmp_ne E dL_records_281 (tgt := 296) (by decide) (fun c281 => ?_) (fun c281 => ?_)
                    · exact absurd (congrArg nI hRR) c281
                    · refine v_lload E dL_records_284 3 rfl ?_
                      refine v_lload E dL_records_286 2 rfl ?_
                      refine v_lcmp E dL_records_288 (z := nI (0)) (lcmp_self _) ?_
                      refine n_if_ne E dL_records_289 (by omega) (tgt := 296) (by decide) (fun c289 => ?_) (fun c289 => ?_)
                      · exact absurd c289 (by omega)
                      · refine v_iconst E dL_records_292 (v := nI 1) rfl ?_
                        refine v_goto E dL_records_293 (tgt := 297) (by decide) ?_
                        exact y_retz E hr rfl rfl rfl (w_rec (by omega) hR (wX cI cZ cQ a)) (by omega) (by omega) dL_records_297
              refine b_if_eq E dL_records_246 (tgt := 253) (by decide) (fun c246 => ?_) (fun c246 => ?_)
              · refine v_iconst E dL_records_253 (v := nI 2) rfl ?_
                refine v_top (y := nI ((if p then 1 else 2))) (by rw [c246]; rfl) ?_
                exact J254_10
              · refine v_iconst E dL_records_249 (v := nI 1) rfl ?_
                refine v_goto E dL_records_250 (tgt := 254) (by decide) ?_
                refine v_top (y := nI ((if p then 1 else 2))) (by rw [c246]; rfl) ?_
                exact J254_10
            refine n_icmp_ge E dL_records_206 (by omega) (by omega) (tgt := 240) (by decide) (fun c206 => ?_) (fun c206 => ?_)
            · exact J240_9
            · refine v_aload_n E dL_records_209 7 rfl rfl ?_
              refine v_iload E dL_records_210 10 rfl ?_
              refine v_iald E dL_records_212 (v := ((-1))) 3 0 rfl rfl (by omega) (by decide) (g9_f ht hT) ?_
              refine v_if_lt E dL_records_213 (tgt := 240) (by decide) (fun c213 => ?_) (fun c213 => ?_)
              · exact J240_9
              · exact absurd (by decide) c213
          refine b_if_eq E dL_records_187 (tgt := 194) (by decide) (fun c187 => ?_) (fun c187 => ?_)
          · refine v_iconst E dL_records_194 (v := nI 1) rfl ?_
            refine v_top (y := nI (b1 (!p))) (by rw [c187]; rfl) ?_
            exact J195_8
          · refine v_iconst E dL_records_190 (v := nI 0) rfl ?_
            refine v_goto E dL_records_191 (tgt := 195) (by decide) ?_
            refine v_top (y := nI (b1 (!p))) (by rw [c187]; rfl) ?_
            exact J195_8
        · exact absurd c152 (by omega)
      · refine v_aload_n E dL_records_135 5 rfl rfl ?_
        refine v_iload E dL_records_136 9 rfl ?_
        refine v_iload E dL_records_138 10 rfl ?_
        refine v_iload E dL_records_140 11 rfl ?_
        refine x_cSn E hA hTx dL_records_142 (l_recordF l D cI cZ cQ cJ a S hok hl (wA cI bx (z_U S) (z_C S) (z_D S) (g9 S) (z_B S) (f9 S) qf (n9 (z_no S) (z_li S) (z_wi S) (z_bu S) (z_qn S))) t c p ht hc (by omega)) (vx_cwSW 4 E.2.2.2.1 gL_records_L_record rfl rfl rfl (by decide +kernel) ⟨Nat.le_of_ble_eq_true rfl, Nat.le_of_ble_eq_true rfl⟩) rfl rfl ⟨(by show _ ≤ 249; omega), (by show _ ≤ 1494; omega)⟩ (Nat.le_of_ble_eq_true rfl) ?_
        refine v_istore E dL_records_145 (by decide) rfl ?_
        refine v_iload E dL_records_147 3 rfl ?_
        refine v_sipush E dL_records_149 (v := nI 200) rfl ?_
        refine n_icmp_ne E dL_records_152 (by omega) (by omega) (tgt := 180) (by decide) (fun c152 => ?_) (fun c152 => ?_)
        · exact absurd c152 (by omega)
        · refine v_iload E dL_records_155 0 rfl ?_
          refine v_ldc E dL_records_157 (v := -1000003) (x := (-1000003)) (by decide +kernel) rfl ?_
          refine v_icmp_ne E dL_records_159 (tgt := 178) (by decide) (fun c159 => ?_) (fun c159 => ?_)
          · exact absurd rfl c159
          · refine v_aload_n E dL_records_162 5 rfl rfl ?_
            refine v_iload E dL_records_163 9 rfl ?_
            refine x_cSn E hA hTx dL_records_165 (l_runs0 l D cI cZ cQ cJ a S hok hl (wA cI bx (z_U S) (z_C S) (z_D S) (g9 S) (z_B S) (f9 S) qf (n9 (z_no S) (z_li S) (z_wi S) (z_bu S) (z_qn S))) t ht) (vx_cwSW 2 E.2.2.2.1 gL_records_L_runs rfl rfl rfl (by decide +kernel) ⟨Nat.le_of_ble_eq_true rfl, Nat.le_of_ble_eq_true rfl⟩) rfl rfl ⟨(by show _ ≤ 249; omega), (by show _ ≤ 1494; omega)⟩ (Nat.le_of_ble_eq_true rfl) ?_
            refine v_sipush E dL_records_168 (v := nI 200) rfl ?_
            refine n_icmp_ne E dL_records_171 (by omega) (by omega) (tgt := 178) (by decide) (fun c171 => ?_) (fun c171 => ?_)
            · exact absurd c171 (by omega)
            · refine v_iconst E dL_records_174 (v := nI 1) rfl ?_
              refine v_goto E dL_records_175 (tgt := 179) (by decide) ?_
              exact y_retz E hr rfl rfl rfl (by rw [srr_n (show ¬ z_R S t < 200 by omega)]) (by omega) (by omega) dL_records_179
    refine n_icmp_ge E dL_records_33 (by omega) (by omega) (tgt := 135) (by decide) (fun c33 => ?_) (fun c33 => ?_)
    · exact J135_7
    · refine v_aload_n E dL_records_36 6 rfl rfl ?_
      refine v_iload E dL_records_37 9 rfl ?_
      refine v_iald E dL_records_39 (v := ((-1))) 3 0 rfl rfl (by omega) (by decide) (g9_f ht hT) ?_
      refine v_if_lt E dL_records_40 (tgt := 135) (by decide) (fun c40 => ?_) (fun c40 => ?_)
      · exact J135_7
      · exact absurd (by decide) c40
