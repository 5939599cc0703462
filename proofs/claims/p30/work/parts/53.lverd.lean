/-! ===== the law: verdicts ===== -/
set_option maxHeartbeats 8000000 in
set_option maxRecDepth 100000 in
theorem z_verdicts (l : Launch) (D : va_G) (cI cZ cQ cJ : ClassId) (a bx : Nat → Nat) (S : zS) (hok : zOK S) (hl : l.stackTraces = false) (qf : Nat → Nat) (hN : zN S) : v_Thr l yL_verdicts wsL_verdicts { frames := 9, cells := 3001, slots := 18006, locals := 156 } D (wTy cI cZ cQ cJ) [.ref (a 0), .ref (bx 1), .ref (bx 5), .ref (bx 7)] ((wA cI bx (z_U S) (z_C S) (z_D S) (g9 S) (z_B S) (f9 S) qf (n9 (z_no S) (z_li S) (z_wi S) (z_bu S) (z_qn S))) ++ wX cI cZ cQ a S) 0 exI (some (.int (nI 1))) ((wA cI bx (z_U S) (z_C S) (z_D S) (g9 S) (z_B S) (f9 S) qf (n9 (z_no S) (z_li S) (z_wi S) (z_bu S) (z_qn S))) ++ wX cI cZ cQ a S) 3001 18006 := by
  refine v_thrower (cc := cL_verdicts) (maxL := 9) (ret := (some .boolean)) (own := RL) (lv0 := [(0, .ref (a 0)), (1, .ref (bx 1)), (2, .ref (bx 5)), (3, .ref (bx 7))]) (by decide) rfl rfl (Nat.le_of_ble_eq_true rfl) rfl ?_
  intro p9 e9 s9 m9 as9 bl9 me9 cd9 A E hA htab hTx hr
  have hn1 := hok.1.1
  have hn2 := hok.1.2.1
  have hwi := hok.1.2.2.2.2.2.1
  refine v_iconst E dL_verdicts_0 (v := nI 0) rfl ?_
  refine v_istore E dL_verdicts_1 (by decide) rfl ?_
  have L3_1 : ∀ (n3 : Nat) (t : Nat), z_nt S - t < n3 → (t ≤ z_nt S) → V p9 l e9 (headSpec wsL_verdicts { frames := 9, cells := 3001, slots := 18006, locals := 156 }).room s9 m9 as9 bl9 me9 cd9 (83 * t) (498 * t) (vx_MQ bl9 (v_Qo D (wTy cI cZ cQ cJ) (0 = 0) (some (.int (nI 1))) ((wA cI bx (z_U S) (z_C S) (z_D S) (g9 S) (z_B S) (f9 S) qf (n9 (z_no S) (z_li S) (z_wi S) (z_bu S) (z_qn S))) ++ wX cI cZ cQ a S) A) (v_XC D (wTy cI cZ cQ cJ) 0 exI ((wA cI bx (z_U S) (z_C S) (z_D S) (g9 S) (z_B S) (f9 S) qf (n9 (z_no S) (z_li S) (z_wi S) (z_bu S) (z_qn S))) ++ wX cI cZ cQ a S) A) as9 s9 3001 18006 A) (v_rw D A s9) 9 3 [(4, .int (nI (t))), (0, .ref (a 0)), (1, .ref (bx 1)), (2, .ref (bx 5)), (3, .ref (bx 7))] [] ((wA cI bx (z_U S) (z_C S) (z_D S) (g9 S) (z_B S) (f9 S) qf (n9 (z_no S) (z_li S) (z_wi S) (z_bu S) (z_qn S))) ++ wX cI cZ cQ a S) := by
    intro n3
    induction n3 with
    | zero => intro t hm3 hti; exact absurd hm3 (Nat.not_lt_zero _)
    | succ n3 ih3 =>
      intro t hm3 hti
      refine v_iload E dL_verdicts_3 0 rfl ?_
      refine v_aload_n E dL_verdicts_5 1 rfl rfl ?_
      refine v_cVi' E dL_verdicts_6 (x_X1_tests l D cI cZ cQ cJ a S hok) (cwV 0 E.2.2.2.1 gL_verdicts_X1_tests rfl rfl rfl (by decide +kernel) ⟨Nat.le_of_ble_eq_true rfl, Nat.le_of_ble_eq_true rfl⟩) 8 rfl rfl rfl (fun H h => subR H h) rfl rfl ⟨(by show _ ≤ 3001; omega), (by show _ ≤ 18006; omega)⟩ (Nat.le_of_ble_eq_true rfl) ?_
      refine n_icmp_ge E dL_verdicts_9 (by omega) (by omega) (tgt := 186) (by decide) (fun c9 => ?_) (fun c9 => ?_)
      · refine v_iconst E dL_verdicts_186 (v := nI 0) rfl ?_
        refine v_istore E dL_verdicts_187 (by decide) rfl ?_
        have L189_2 : ∀ (n189 : Nat) (k2 : Nat), z_nc S - k2 < n189 → (k2 ≤ z_nc S) → V p9 l e9 (headSpec wsL_verdicts { frames := 9, cells := 3001, slots := 18006, locals := 156 }).room s9 m9 as9 bl9 me9 cd9 (996 + 50 * k2) (5976 + 300 * k2) (vx_MQ bl9 (v_Qo D (wTy cI cZ cQ cJ) (0 = 0) (some (.int (nI 1))) ((wA cI bx (z_U S) (z_C S) (z_D S) (g9 S) (z_B S) (f9 S) qf (n9 (z_no S) (z_li S) (z_wi S) (z_bu S) (z_qn S))) ++ wX cI cZ cQ a S) A) (v_XC D (wTy cI cZ cQ cJ) 0 exI ((wA cI bx (z_U S) (z_C S) (z_D S) (g9 S) (z_B S) (f9 S) qf (n9 (z_no S) (z_li S) (z_wi S) (z_bu S) (z_qn S))) ++ wX cI cZ cQ a S) A) as9 s9 3001 18006 A) (v_rw D A s9) 9 189 [(4, .int (nI (k2))), (0, .ref (a 0)), (1, .ref (bx 1)), (2, .ref (bx 5)), (3, .ref (bx 7))] [] ((wA cI bx (z_U S) (z_C S) (z_D S) (g9 S) (z_B S) (f9 S) qf (n9 (z_no S) (z_li S) (z_wi S) (z_bu S) (z_qn S))) ++ wX cI cZ cQ a S) := by
          intro n189
          induction n189 with
          | zero => intro k2 hm189 hk2; exact absurd hm189 (Nat.not_lt_zero _)
          | succ n189 ih189 =>
            intro k2 hm189 hk2
            refine v_iload E dL_verdicts_189 0 rfl ?_
            refine v_aload_n E dL_verdicts_191 1 rfl rfl ?_
            refine v_cVi' E dL_verdicts_192 (x_X1_commits l D cI cZ cQ cJ a S hok) (cwV 0 E.2.2.2.1 gL_verdicts_X1_commits rfl rfl rfl (by decide +kernel) ⟨Nat.le_of_ble_eq_true rfl, Nat.le_of_ble_eq_true rfl⟩) 8 rfl rfl rfl (fun H h => subR H h) rfl rfl ⟨(by show _ ≤ 3001; omega), (by show _ ≤ 18006; omega)⟩ (Nat.le_of_ble_eq_true rfl) ?_
            refine n_icmp_ge E dL_verdicts_195 (by omega) (by omega) (tgt := 313) (by decide) (fun c195 => ?_) (fun c195 => ?_)
            · refine v_aload_n E dL_verdicts_313 1 rfl rfl ?_
              refine v_aload_n E dL_verdicts_314 1 rfl rfl ?_
              refine v_cVi' E dL_verdicts_315 (x_X1_commits l D cI cZ cQ cJ a S hok) (cwV 0 E.2.2.2.1 gL_verdicts_X1_commits rfl rfl rfl (by decide +kernel) ⟨Nat.le_of_ble_eq_true rfl, Nat.le_of_ble_eq_true rfl⟩) 8 rfl rfl rfl (fun H h => subR H h) rfl rfl ⟨(by show _ ≤ 3001; omega), (by show _ ≤ 18006; omega)⟩ (Nat.le_of_ble_eq_true rfl) ?_
              refine x_cSn E hA hTx dL_verdicts_318 (l_touchesX l D cI cZ cQ cJ a S hok hl (wA cI bx (z_U S) (z_C S) (z_D S) (g9 S) (z_B S) (f9 S) qf (n9 (z_no S) (z_li S) (z_wi S) (z_bu S) (z_qn S)))  ) (vx_cwSW 2 E.2.2.2.1 gL_verdicts_L_touches rfl rfl rfl (by decide +kernel) ⟨Nat.le_of_ble_eq_true rfl, Nat.le_of_ble_eq_true rfl⟩) rfl rfl ⟨(by show _ ≤ 3001; omega), (by show _ ≤ 18006; omega)⟩ (Nat.le_of_ble_eq_true rfl) ?_
              refine v_ldc E dL_verdicts_321 (v := -1000001) (x := (-1000001)) (by decide +kernel) rfl ?_
              refine v_icmp_ne E dL_verdicts_323 (tgt := 367) (by decide) (fun c323 => ?_) (fun c323 => ?_)
              · exact absurd rfl c323
              · refine v_aload_n E dL_verdicts_326 1 rfl rfl ?_
                refine v_iconst E dL_verdicts_327 (v := (-1)) rfl ?_
                refine x_cSn E hA hTx dL_verdicts_328 (l_brokenX l D cI cZ cQ cJ a S hok hl (wA cI bx (z_U S) (z_C S) (z_D S) (g9 S) (z_B S) (f9 S) qf (n9 (z_no S) (z_li S) (z_wi S) (z_bu S) (z_qn S)))  ) (vx_cwSW 2 E.2.2.2.1 gL_verdicts_L_broken rfl rfl rfl (by decide +kernel) ⟨Nat.le_of_ble_eq_true rfl, Nat.le_of_ble_eq_true rfl⟩) rfl rfl ⟨(by show _ ≤ 3001; omega), (by show _ ≤ 18006; omega)⟩ (Nat.le_of_ble_eq_true rfl) ?_
                refine v_ldc E dL_verdicts_331 (v := -1000001) (x := (-1000001)) (by decide +kernel) rfl ?_
                refine v_icmp_ne E dL_verdicts_333 (tgt := 367) (by decide) (fun c333 => ?_) (fun c333 => ?_)
                · exact absurd rfl c333
                · refine v_aload_n E dL_verdicts_336 1 rfl rfl ?_
                  refine v_iconst E dL_verdicts_337 (v := nI 0) rfl ?_
                  refine v_aload_n E dL_verdicts_338 1 rfl rfl ?_
                  refine v_cVi' E dL_verdicts_339 (x_X1_commits l D cI cZ cQ cJ a S hok) (cwV 0 E.2.2.2.1 gL_verdicts_X1_commits rfl rfl rfl (by decide +kernel) ⟨Nat.le_of_ble_eq_true rfl, Nat.le_of_ble_eq_true rfl⟩) 8 rfl rfl rfl (fun H h => subR H h) rfl rfl ⟨(by show _ ≤ 3001; omega), (by show _ ≤ 18006; omega)⟩ (Nat.le_of_ble_eq_true rfl) ?_
                  refine x_cSn E hA hTx dL_verdicts_342 (l_verdictX l D cI cZ cQ cJ a S hok hl (wA cI bx (z_U S) (z_C S) (z_D S) (g9 S) (z_B S) (f9 S) qf (n9 (z_no S) (z_li S) (z_wi S) (z_bu S) (z_qn S)))  ) (vx_cwSW 3 E.2.2.2.1 gL_verdicts_L_verdict rfl rfl rfl (by decide +kernel) ⟨Nat.le_of_ble_eq_true rfl, Nat.le_of_ble_eq_true rfl⟩) rfl rfl ⟨(by show _ ≤ 3001; omega), (by show _ ≤ 18006; omega)⟩ (Nat.le_of_ble_eq_true rfl) ?_
                  refine v_ldc E dL_verdicts_345 (v := -1000001) (x := (-1000001)) (by decide +kernel) rfl ?_
                  refine v_icmp_ne E dL_verdicts_347 (tgt := 367) (by decide) (fun c347 => ?_) (fun c347 => ?_)
                  · exact absurd rfl c347
                  · refine v_aload_n E dL_verdicts_350 1 rfl rfl ?_
                    refine v_aload_n E dL_verdicts_351 1 rfl rfl ?_
                    refine v_cVi' E dL_verdicts_352 (x_X1_tests l D cI cZ cQ cJ a S hok) (cwV 0 E.2.2.2.1 gL_verdicts_X1_tests rfl rfl rfl (by decide +kernel) ⟨Nat.le_of_ble_eq_true rfl, Nat.le_of_ble_eq_true rfl⟩) 8 rfl rfl rfl (fun H h => subR H h) rfl rfl ⟨(by show _ ≤ 3001; omega), (by show _ ≤ 18006; omega)⟩ (Nat.le_of_ble_eq_true rfl) ?_
                    refine x_cSn E hA hTx dL_verdicts_355 (l_isQuarantinedX l D cI cZ cQ cJ a S hok hl (wA cI bx (z_U S) (z_C S) (z_D S) (g9 S) (z_B S) (f9 S) qf (n9 (z_no S) (z_li S) (z_wi S) (z_bu S) (z_qn S)))  ) (vx_cwSW 2 E.2.2.2.1 gL_verdicts_L_isQuarantined rfl rfl rfl (by decide +kernel) ⟨Nat.le_of_ble_eq_true rfl, Nat.le_of_ble_eq_true rfl⟩) rfl rfl ⟨(by show _ ≤ 3001; omega), (by show _ ≤ 18006; omega)⟩ (Nat.le_of_ble_eq_true rfl) ?_
                    refine v_ldc E dL_verdicts_358 (v := -1000001) (x := (-1000001)) (by decide +kernel) rfl ?_
                    refine v_icmp_ne E dL_verdicts_360 (tgt := 367) (by decide) (fun c360 => ?_) (fun c360 => ?_)
                    · exact absurd rfl c360
                    · refine v_iconst E dL_verdicts_363 (v := nI 1) rfl ?_
                      refine v_goto E dL_verdicts_364 (tgt := 368) (by decide) ?_
                      exact y_retz E hr rfl rfl rfl rfl (by omega) (by omega) dL_verdicts_368
            · refine v_iconst E dL_verdicts_198 (v := nI 0) rfl ?_
              refine v_istore E dL_verdicts_199 (by decide) rfl ?_
              refine v_iconst E dL_verdicts_201 (v := nI 0) rfl ?_
              refine v_istore E dL_verdicts_202 (by decide) rfl ?_
              refine v_iconst E dL_verdicts_204 (v := nI 0) rfl ?_
              refine v_istore E dL_verdicts_205 (by decide) rfl ?_
              have L207_3 : ∀ (n207 : Nat) (t2 : Nat) (br : Nat) (tc : Nat), z_nt S - t2 < n207 → (t2 ≤ z_nt S) → (br = msk (zbro S k2) t2) → (tc = msk (ztou S k2) t2) → V p9 l e9 (headSpec wsL_verdicts { frames := 9, cells := 3001, slots := 18006, locals := 156 }).room s9 m9 as9 bl9 me9 cd9 (996 + 50 * k2 + 4 * t2) (5976 + 300 * k2 + 24 * t2) (vx_MQ bl9 (v_Qo D (wTy cI cZ cQ cJ) (0 = 0) (some (.int (nI 1))) ((wA cI bx (z_U S) (z_C S) (z_D S) (g9 S) (z_B S) (f9 S) qf (n9 (z_no S) (z_li S) (z_wi S) (z_bu S) (z_qn S))) ++ wX cI cZ cQ a S) A) (v_XC D (wTy cI cZ cQ cJ) 0 exI ((wA cI bx (z_U S) (z_C S) (z_D S) (g9 S) (z_B S) (f9 S) qf (n9 (z_no S) (z_li S) (z_wi S) (z_bu S) (z_qn S))) ++ wX cI cZ cQ a S) A) as9 s9 3001 18006 A) (v_rw D A s9) 9 207 [(5, .int (nI (br))), (6, .int (nI (tc))), (7, .int (nI (t2))), (4, .int (nI (k2))), (0, .ref (a 0)), (1, .ref (bx 1)), (2, .ref (bx 5)), (3, .ref (bx 7))] [] ((wA cI bx (z_U S) (z_C S) (z_D S) (g9 S) (z_B S) (f9 S) qf (n9 (z_no S) (z_li S) (z_wi S) (z_bu S) (z_qn S))) ++ wX cI cZ cQ a S) := by
                intro n207
                induction n207 with
                | zero => intro t2 br tc hm207 ht2 hbr htc; exact absurd hm207 (Nat.not_lt_zero _)
                | succ n207 ih207 =>
                  intro t2 br tc hm207 ht2 hbr htc
                  refine v_iload E dL_verdicts_207 2 rfl ?_
                  refine v_aload_n E dL_verdicts_209 4 rfl rfl ?_
                  refine v_cVi' E dL_verdicts_210 (x_X1_tests l D cI cZ cQ cJ a S hok) (cwV 0 E.2.2.2.1 gL_verdicts_X1_tests rfl rfl rfl (by decide +kernel) ⟨Nat.le_of_ble_eq_true rfl, Nat.le_of_ble_eq_true rfl⟩) 8 rfl rfl rfl (fun H h => subR H h) rfl rfl ⟨(by show _ ≤ 3001; omega), (by show _ ≤ 18006; omega)⟩ (Nat.le_of_ble_eq_true rfl) ?_
                  refine n_icmp_ge E dL_verdicts_213 (by omega) (by omega) (tgt := 283) (by decide) (fun c213 => ?_) (fun c213 => ?_)
                  · have htt : t2 = z_nt S := by omega
                    refine v_aload_n E dL_verdicts_283 4 rfl rfl ?_
                    refine v_iload E dL_verdicts_284 3 rfl ?_
                    refine x_cSn E hA hTx dL_verdicts_286 (l_broken0 l D cI cZ cQ cJ a S hok hl (wA cI bx (z_U S) (z_C S) (z_D S) (g9 S) (z_B S) (f9 S) qf (n9 (z_no S) (z_li S) (z_wi S) (z_bu S) (z_qn S))) k2 c195) (vx_cwSW 2 E.2.2.2.1 gL_verdicts_L_broken rfl rfl rfl (by decide +kernel) ⟨Nat.le_of_ble_eq_true rfl, Nat.le_of_ble_eq_true rfl⟩) rfl rfl ⟨(by show _ ≤ 3001; omega), (by show _ ≤ 18006; omega)⟩ (Nat.le_of_ble_eq_true rfl) ?_
                    refine v_iload E dL_verdicts_289 0 rfl ?_
                    refine v_icmp_ne E dL_verdicts_291 (tgt := 305) (by decide) (fun c291 => ?_) (fun c291 => ?_)
                    · exact absurd (by rw [hbr, htt]) c291
                    · refine v_aload_n E dL_verdicts_294 4 rfl rfl ?_
                      refine v_iload E dL_verdicts_295 3 rfl ?_
                      refine x_cSn E hA hTx dL_verdicts_297 (l_touches0 l D cI cZ cQ cJ a S hok hl (wA cI bx (z_U S) (z_C S) (z_D S) (g9 S) (z_B S) (f9 S) qf (n9 (z_no S) (z_li S) (z_wi S) (z_bu S) (z_qn S))) k2 c195) (vx_cwSW 2 E.2.2.2.1 gL_verdicts_L_touches rfl rfl rfl (by decide +kernel) ⟨Nat.le_of_ble_eq_true rfl, Nat.le_of_ble_eq_true rfl⟩) rfl rfl ⟨(by show _ ≤ 3001; omega), (by show _ ≤ 18006; omega)⟩ (Nat.le_of_ble_eq_true rfl) ?_
                      refine v_iload E dL_verdicts_300 1 rfl ?_
                      refine v_icmp_eq E dL_verdicts_302 (tgt := 307) (by decide) (fun c302 => ?_) (fun c302 => ?_)
                      · refine v_iinc E dL_verdicts_307 3 rfl (nI_1 _) (by decide) rfl ?_
                        refine v_goto E dL_verdicts_310 (tgt := 189) (by decide) ?_
                        refine v_more (c2 := 996 + 50 * (k2 + 1)) (s2 := 5976 + 300 * (k2 + 1)) (by omega) (by omega) ?_
                        refine v_lv [0, 4, 5, 6, 7] rfl ?_
                        exact ih189 (k2 + 1) (by omega) (by omega)
                      · exact absurd (by rw [htc, htt]) c302
                  · refine v_iload E dL_verdicts_216 0 rfl ?_
                    refine v_aload_n E dL_verdicts_218 4 rfl rfl ?_
                    refine v_iload E dL_verdicts_219 2 rfl ?_
                    refine v_iload E dL_verdicts_221 3 rfl ?_
                    refine x_cSn E hA hTx dL_verdicts_223 (l_verdict0 l D cI cZ cQ cJ a S hok hl (wA cI bx (z_U S) (z_C S) (z_D S) (g9 S) (z_B S) (f9 S) qf (n9 (z_no S) (z_li S) (z_wi S) (z_bu S) (z_qn S))) t2 k2 c213 c195) (vx_cwSW 3 E.2.2.2.1 gL_verdicts_L_verdict rfl rfl rfl (by decide +kernel) ⟨Nat.le_of_ble_eq_true rfl, Nat.le_of_ble_eq_true rfl⟩) rfl rfl ⟨(by show _ ≤ 3001; omega), (by show _ ≤ 18006; omega)⟩ (Nat.le_of_ble_eq_true rfl) ?_
                    have hv2 := vd_lt (z_P S t2 k2) (z_F S t2 k2)
                    refine v_iconst E dL_verdicts_226 (v := nI 2) rfl ?_
                    have J247_4 : V p9 l e9 (headSpec wsL_verdicts { frames := 9, cells := 3001, slots := 18006, locals := 156 }).room s9 m9 as9 bl9 me9 cd9 (996 + 50 * k2 + 4 * t2 + 3) (5976 + 300 * k2 + 24 * t2 + 18) (vx_MQ bl9 (v_Qo D (wTy cI cZ cQ cJ) (0 = 0) (some (.int (nI 1))) ((wA cI bx (z_U S) (z_C S) (z_D S) (g9 S) (z_B S) (f9 S) qf (n9 (z_no S) (z_li S) (z_wi S) (z_bu S) (z_qn S))) ++ wX cI cZ cQ a S) A) (v_XC D (wTy cI cZ cQ cJ) 0 exI ((wA cI bx (z_U S) (z_C S) (z_D S) (g9 S) (z_B S) (f9 S) qf (n9 (z_no S) (z_li S) (z_wi S) (z_bu S) (z_qn S))) ++ wX cI cZ cQ a S) A) as9 s9 3001 18006 A) (v_rw D A s9) 9 247 [(5, .int (nI (br))), (6, .int (nI (tc))), (7, .int (nI (t2))), (4, .int (nI (k2))), (0, .ref (a 0)), (1, .ref (bx 1)), (2, .ref (bx 5)), (3, .ref (bx 7))] [.int (nI ((if zbro S k2 t2 then 2 ^ t2 else 0))), .int (nI (br))] ((wA cI bx (z_U S) (z_C S) (z_D S) (g9 S) (z_B S) (f9 S) qf (n9 (z_no S) (z_li S) (z_wi S) (z_bu S) (z_qn S))) ++ wX cI cZ cQ a S) := by
                      refine v_ior E dL_verdicts_247 (nx_or _ _) ?_
                      refine v_istore E dL_verdicts_248 (by decide) rfl ?_
                      refine v_iload E dL_verdicts_250 1 rfl ?_
                      refine v_aload_n E dL_verdicts_252 5 rfl rfl ?_
                      refine v_iload E dL_verdicts_253 3 rfl ?_
                      refine v_iald E dL_verdicts_255 (v := nI (z_C S k2)) 1 0 rfl rfl (by omega) (by decide) rfl ?_
                      refine v_aload_n E dL_verdicts_256 4 rfl rfl ?_
                      refine v_iload E dL_verdicts_257 2 rfl ?_
                      refine x_cSn E hA hTx dL_verdicts_259 (l_partsOf0 l D cI cZ cQ cJ a S hok hl (wA cI bx (z_U S) (z_C S) (z_D S) (g9 S) (z_B S) (f9 S) qf (n9 (z_no S) (z_li S) (z_wi S) (z_bu S) (z_qn S))) t2 c213) (vx_cwSW 2 E.2.2.2.1 gL_verdicts_L_partsOf rfl rfl rfl (by decide +kernel) ⟨Nat.le_of_ble_eq_true rfl, Nat.le_of_ble_eq_true rfl⟩) rfl rfl ⟨(by show _ ≤ 3001; omega), (by show _ ≤ 18006; omega)⟩ (Nat.le_of_ble_eq_true rfl) ?_
                      have hz2 := zre_lt hok t2
                      refine v_iand E dL_verdicts_262 (nx_and _ _) ?_
                      have J274_5 : V p9 l e9 (headSpec wsL_verdicts { frames := 9, cells := 3001, slots := 18006, locals := 156 }).room s9 m9 as9 bl9 me9 cd9 (996 + 50 * k2 + 4 * t2 + 3 + 1) (5976 + 300 * k2 + 24 * t2 + 18 + 6) (vx_MQ bl9 (v_Qo D (wTy cI cZ cQ cJ) (0 = 0) (some (.int (nI 1))) ((wA cI bx (z_U S) (z_C S) (z_D S) (g9 S) (z_B S) (f9 S) qf (n9 (z_no S) (z_li S) (z_wi S) (z_bu S) (z_qn S))) ++ wX cI cZ cQ a S) A) (v_XC D (wTy cI cZ cQ cJ) 0 exI ((wA cI bx (z_U S) (z_C S) (z_D S) (g9 S) (z_B S) (f9 S) qf (n9 (z_no S) (z_li S) (z_wi S) (z_bu S) (z_qn S))) ++ wX cI cZ cQ a S) A) as9 s9 3001 18006 A) (v_rw D A s9) 9 274 [(5, .int (nI ((br) ||| ((if zbro S k2 t2 then 2 ^ t2 else 0))))), (6, .int (nI (tc))), (7, .int (nI (t2))), (4, .int (nI (k2))), (0, .ref (a 0)), (1, .ref (bx 1)), (2, .ref (bx 5)), (3, .ref (bx 7))] [.int (nI ((if ztou S k2 t2 then 2 ^ t2 else 0))), .int (nI (tc))] ((wA cI bx (z_U S) (z_C S) (z_D S) (g9 S) (z_B S) (f9 S) qf (n9 (z_no S) (z_li S) (z_wi S) (z_bu S) (z_qn S))) ++ wX cI cZ cQ a S) := by
                        refine v_ior E dL_verdicts_274 (nx_or _ _) ?_
                        refine v_istore E dL_verdicts_275 (by decide) rfl ?_
                        refine v_iinc E dL_verdicts_277 2 rfl (nI_1 _) (by decide) rfl ?_
                        refine v_goto E dL_verdicts_280 (tgt := 207) (by decide) ?_
                        refine v_more (c2 := 996 + 50 * k2 + 4 * (t2 + 1)) (s2 := 5976 + 300 * k2 + 24 * (t2 + 1)) (by omega) (by omega) ?_
                        refine v_lv [2, 1, 0, 3, 4, 5, 6, 7] rfl ?_
                        exact ih207 (t2 + 1) ((br) ||| (if zbro S k2 t2 then 2 ^ t2 else 0)) ((tc) ||| (if ztou S k2 t2 then 2 ^ t2 else 0)) (by omega) (by omega) (by rw [hbr]; rfl) (by rw [htc]; rfl)
                      refine n_if_eq E dL_verdicts_263 (Nat.lt_of_le_of_lt Nat.and_le_right (by omega)) (tgt := 273) (by decide) (fun c263 => ?_) (fun c263 => ?_)
                      · refine v_iconst E dL_verdicts_273 (v := nI 0) rfl ?_
                        refine v_top (y := nI ((if ztou S k2 t2 then 2 ^ t2 else 0))) (by rw [show ztou S k2 t2 = false from decide_eq_false (fun z => z c263)]; rfl) ?_
                        exact J274_5
                      · refine v_iconst E dL_verdicts_266 (v := nI 1) rfl ?_
                        refine v_iload E dL_verdicts_267 2 rfl ?_
                        refine v_ishl E dL_verdicts_269 (n_shl1 (by omega)) ?_
                        refine v_goto E dL_verdicts_270 (tgt := 274) (by decide) ?_
                        refine v_top (y := nI ((if ztou S k2 t2 then 2 ^ t2 else 0))) (by rw [show ztou S k2 t2 = true from decide_eq_true (Nat.ne_of_gt c263)]; rfl) ?_
                        exact J274_5
                    refine n_icmp_ne E dL_verdicts_227 (by omega) (by omega) (tgt := 246) (by decide) (fun c227 => ?_) (fun c227 => ?_)
                    · refine v_iconst E dL_verdicts_246 (v := nI 0) rfl ?_
                      refine v_top (y := nI ((if zbro S k2 t2 then 2 ^ t2 else 0))) (by rw [show zbro S k2 t2 = false from by unfold zbro; rw [decide_eq_false c227]; rfl]; rfl) ?_
                      refine v_more (c2 := 996 + 50 * k2 + 4 * t2 + 3) (s2 := 5976 + 300 * k2 + 24 * t2 + 18) (by omega) (by omega) ?_
                      exact J247_4
                    · refine v_aload_n E dL_verdicts_230 4 rfl rfl ?_
                      refine v_iload E dL_verdicts_231 2 rfl ?_
                      refine x_cSn E hA hTx dL_verdicts_233 (l_isQuarantined0 l D cI cZ cQ cJ a S hok hl (wA cI bx (z_U S) (z_C S) (z_D S) (g9 S) (z_B S) (f9 S) qf (n9 (z_no S) (z_li S) (z_wi S) (z_bu S) (z_qn S))) t2 c213) (vx_cwSW 2 E.2.2.2.1 gL_verdicts_L_isQuarantined rfl rfl rfl (by decide +kernel) ⟨Nat.le_of_ble_eq_true rfl, Nat.le_of_ble_eq_true rfl⟩) rfl rfl ⟨(by show _ ≤ 3001; omega), (by show _ ≤ 18006; omega)⟩ (Nat.le_of_ble_eq_true rfl) ?_
                      refine b_if_ne E dL_verdicts_236 (tgt := 246) (by decide) (fun c236 => ?_) (fun c236 => ?_)
                      · refine v_iconst E dL_verdicts_246 (v := nI 0) rfl ?_
                        refine v_top (y := nI ((if zbro S k2 t2 then 2 ^ t2 else 0))) (by rw [show zbro S k2 t2 = false from by unfold zbro; rw [c236, Bool.not_true, Bool.and_false]]; rfl) ?_
                        refine v_more (c2 := 996 + 50 * k2 + 4 * t2 + 3) (s2 := 5976 + 300 * k2 + 24 * t2 + 18) (by omega) (by omega) ?_
                        exact J247_4
                      · refine v_iconst E dL_verdicts_239 (v := nI 1) rfl ?_
                        refine v_iload E dL_verdicts_240 2 rfl ?_
                        refine v_ishl E dL_verdicts_242 (n_shl1 (by omega)) ?_
                        refine v_goto E dL_verdicts_243 (tgt := 247) (by decide) ?_
                        refine v_top (y := nI ((if zbro S k2 t2 then 2 ^ t2 else 0))) (by rw [show zbro S k2 t2 = true from by unfold zbro; rw [decide_eq_true c227, c236]; rfl]; rfl) ?_
                        refine v_more (c2 := 996 + 50 * k2 + 4 * t2 + 3) (s2 := 5976 + 300 * k2 + 24 * t2 + 18) (by omega) (by omega) ?_
                        exact J247_4
              refine v_more (c2 := 996 + 50 * k2 + 4 * (0)) (s2 := 5976 + 300 * k2 + 24 * (0)) (by omega) (by omega) ?_
              refine v_lv [2, 1, 0, 3, 4, 5, 6, 7] rfl ?_
              exact L207_3 (z_nt S - (0) + 1) (0) (0) (0) (by omega) (by omega) rfl rfl
        refine v_more (c2 := 996 + 50 * (0)) (s2 := 5976 + 300 * (0)) (by omega) (by omega) ?_
        refine v_lv [0, 1, 2, 3, 4] rfl ?_
        exact L189_2 (z_nc S - (0) + 1) (0) (by omega) (by omega)
      · refine v_iconst E dL_verdicts_12 (v := nI 0) rfl ?_
        refine v_istore E dL_verdicts_13 (by decide) rfl ?_
        refine v_iconst E dL_verdicts_15 (v := nI 0) rfl ?_
        refine v_istore E dL_verdicts_16 (by decide) rfl ?_
        refine v_iconst E dL_verdicts_18 (v := nI 0) rfl ?_
        refine v_istore E dL_verdicts_19 (by decide) rfl ?_
        have L21_6 : ∀ (n21 : Nat) (k : Nat) (mi : Nat) (so : Nat), z_nc S - k < n21 → (k ≤ z_nc S) → (mi = sr (fun i => b1 (zmx S t i)) (z_nc S - z_wi S) k) → (so = ct (so9 S t) k) → (mi ≤ k) → (so ≤ k) → V p9 l e9 (headSpec wsL_verdicts { frames := 9, cells := 3001, slots := 18006, locals := 156 }).room s9 m9 as9 bl9 me9 cd9 (83 * t + 2 * k) (498 * t + 12 * k) (vx_MQ bl9 (v_Qo D (wTy cI cZ cQ cJ) (0 = 0) (some (.int (nI 1))) ((wA cI bx (z_U S) (z_C S) (z_D S) (g9 S) (z_B S) (f9 S) qf (n9 (z_no S) (z_li S) (z_wi S) (z_bu S) (z_qn S))) ++ wX cI cZ cQ a S) A) (v_XC D (wTy cI cZ cQ cJ) 0 exI ((wA cI bx (z_U S) (z_C S) (z_D S) (g9 S) (z_B S) (f9 S) qf (n9 (z_no S) (z_li S) (z_wi S) (z_bu S) (z_qn S))) ++ wX cI cZ cQ a S) A) as9 s9 3001 18006 A) (v_rw D A s9) 9 21 [(5, .int (nI (mi))), (6, .int (nI (so))), (7, .int (nI (k))), (4, .int (nI (t))), (0, .ref (a 0)), (1, .ref (bx 1)), (2, .ref (bx 5)), (3, .ref (bx 7))] [] ((wA cI bx (z_U S) (z_C S) (z_D S) (g9 S) (z_B S) (f9 S) qf (n9 (z_no S) (z_li S) (z_wi S) (z_bu S) (z_qn S))) ++ wX cI cZ cQ a S) := by
          intro n21
          induction n21 with
          | zero => intro k mi so hm21 hk hmi hso hmb hsb; exact absurd hm21 (Nat.not_lt_zero _)
          | succ n21 ih21 =>
            intro k mi so hm21 hk hmi hso hmb hsb
            refine v_iload E dL_verdicts_21 2 rfl ?_
            refine v_aload_n E dL_verdicts_23 4 rfl rfl ?_
            refine v_cVi' E dL_verdicts_24 (x_X1_commits l D cI cZ cQ cJ a S hok) (cwV 0 E.2.2.2.1 gL_verdicts_X1_commits rfl rfl rfl (by decide +kernel) ⟨Nat.le_of_ble_eq_true rfl, Nat.le_of_ble_eq_true rfl⟩) 8 rfl rfl rfl (fun H h => subR H h) rfl rfl ⟨(by show _ ≤ 3001; omega), (by show _ ≤ 18006; omega)⟩ (Nat.le_of_ble_eq_true rfl) ?_
            refine n_icmp_ge E dL_verdicts_27 (by omega) (by omega) (tgt := 103) (by decide) (fun c27 => ?_) (fun c27 => ?_)
            · have hkk : k = z_nc S := by omega
              have hzm : zmix S t = mi := by rw [hmi, hkk]; rfl
              have hsl : so ≤ z_R S t := by rw [hso]; exact so9_le hok t (by omega)
              have hRl := (hok.2.2.2.2.1 t).1
              have hli := hok.1.2.2.2.1
              refine v_aload_n E dL_verdicts_103 4 rfl rfl ?_
              refine v_iload E dL_verdicts_104 3 rfl ?_
              refine x_cSn E hA hTx dL_verdicts_106 (l_runs0 l D cI cZ cQ cJ a S hok hl (wA cI bx (z_U S) (z_C S) (z_D S) (g9 S) (z_B S) (f9 S) qf (n9 (z_no S) (z_li S) (z_wi S) (z_bu S) (z_qn S))) t c9) (vx_cwSW 2 E.2.2.2.1 gL_verdicts_L_runs rfl rfl rfl (by decide +kernel) ⟨Nat.le_of_ble_eq_true rfl, Nat.le_of_ble_eq_true rfl⟩) rfl rfl ⟨(by show _ ≤ 3001; omega), (by show _ ≤ 18006; omega)⟩ (Nat.le_of_ble_eq_true rfl) ?_
              refine v_istore E dL_verdicts_109 (by decide) rfl ?_
              refine v_aload_n E dL_verdicts_111 4 rfl rfl ?_
              refine v_iload E dL_verdicts_112 3 rfl ?_
              refine x_cSn E hA hTx dL_verdicts_114 (l_isQuarantined0 l D cI cZ cQ cJ a S hok hl (wA cI bx (z_U S) (z_C S) (z_D S) (g9 S) (z_B S) (f9 S) qf (n9 (z_no S) (z_li S) (z_wi S) (z_bu S) (z_qn S))) t c9) (vx_cwSW 2 E.2.2.2.1 gL_verdicts_L_isQuarantined rfl rfl rfl (by decide +kernel) ⟨Nat.le_of_ble_eq_true rfl, Nat.le_of_ble_eq_true rfl⟩) rfl rfl ⟨(by show _ ≤ 3001; omega), (by show _ ≤ 18006; omega)⟩ (Nat.le_of_ble_eq_true rfl) ?_
              refine v_iload E dL_verdicts_117 1 rfl ?_
              refine v_aload_n E dL_verdicts_119 7 rfl rfl ?_
              refine v_iconst E dL_verdicts_120 (v := nI 1) rfl ?_
              refine v_iald E dL_verdicts_121 (v := nI (z_li S)) 7 0 rfl rfl (by omega) (by decide) rfl ?_
              have J130_7 : V p9 l e9 (headSpec wsL_verdicts { frames := 9, cells := 3001, slots := 18006, locals := 156 }).room s9 m9 as9 bl9 me9 cd9 (83 * t + 2 * k + 1 + 1) (498 * t + 12 * k + 6 + 6) (vx_MQ bl9 (v_Qo D (wTy cI cZ cQ cJ) (0 = 0) (some (.int (nI 1))) ((wA cI bx (z_U S) (z_C S) (z_D S) (g9 S) (z_B S) (f9 S) qf (n9 (z_no S) (z_li S) (z_wi S) (z_bu S) (z_qn S))) ++ wX cI cZ cQ a S) A) (v_XC D (wTy cI cZ cQ cJ) 0 exI ((wA cI bx (z_U S) (z_C S) (z_D S) (g9 S) (z_B S) (f9 S) qf (n9 (z_no S) (z_li S) (z_wi S) (z_bu S) (z_qn S))) ++ wX cI cZ cQ a S) A) as9 s9 3001 18006 A) (v_rw D A s9) 9 130 [(7, .int (nI (z_R S (t)))), (5, .int (nI (mi))), (6, .int (nI (so))), (4, .int (nI (t))), (0, .ref (a 0)), (1, .ref (bx 1)), (2, .ref (bx 5)), (3, .ref (bx 7))] [.int (bI (decide (z_li S ≤ zmix S t))), .int (bI (decide (z_li S ≤ zmix S (t))))] ((wA cI bx (z_U S) (z_C S) (z_D S) (g9 S) (z_B S) (f9 S) qf (n9 (z_no S) (z_li S) (z_wi S) (z_bu S) (z_qn S))) ++ wX cI cZ cQ a S) := by
                refine v_icmp_ne E dL_verdicts_130 (tgt := 178) (by decide) (fun c130 => ?_) (fun c130 => ?_)
                · exact absurd rfl c130
                · refine v_iload E dL_verdicts_133 0 rfl ?_
                  refine v_iload E dL_verdicts_135 2 rfl ?_
                  refine n_icmp_lt E dL_verdicts_137 (by omega) (by omega) (tgt := 178) (by decide) (fun c137 => ?_) (fun c137 => ?_)
                  · exact absurd c137 (by omega)
                  · refine v_iload E dL_verdicts_140 2 rfl ?_
                    have J150_8 : V p9 l e9 (headSpec wsL_verdicts { frames := 9, cells := 3001, slots := 18006, locals := 156 }).room s9 m9 as9 bl9 me9 cd9 (83 * t + 2 * k + 1 + 1) (498 * t + 12 * k + 6 + 6) (vx_MQ bl9 (v_Qo D (wTy cI cZ cQ cJ) (0 = 0) (some (.int (nI 1))) ((wA cI bx (z_U S) (z_C S) (z_D S) (g9 S) (z_B S) (f9 S) qf (n9 (z_no S) (z_li S) (z_wi S) (z_bu S) (z_qn S))) ++ wX cI cZ cQ a S) A) (v_XC D (wTy cI cZ cQ cJ) 0 exI ((wA cI bx (z_U S) (z_C S) (z_D S) (g9 S) (z_B S) (f9 S) qf (n9 (z_no S) (z_li S) (z_wi S) (z_bu S) (z_qn S))) ++ wX cI cZ cQ a S) A) as9 s9 3001 18006 A) (v_rw D A s9) 9 150 [(7, .int (nI (z_R S (t)))), (5, .int (nI (mi))), (6, .int (nI (so))), (4, .int (nI (t))), (0, .ref (a 0)), (1, .ref (bx 1)), (2, .ref (bx 5)), (3, .ref (bx 7))] [] ((wA cI bx (z_U S) (z_C S) (z_D S) (g9 S) (z_B S) (f9 S) qf (n9 (z_no S) (z_li S) (z_wi S) (z_bu S) (z_qn S))) ++ wX cI cZ cQ a S) := by
                      refine v_aload_n E dL_verdicts_150 4 rfl rfl ?_
                      refine v_iload E dL_verdicts_151 3 rfl ?_
                      refine x_cSn E hA hTx dL_verdicts_153 (l_failing0 l D cI cZ cQ cJ a S hok hl (wA cI bx (z_U S) (z_C S) (z_D S) (g9 S) (z_B S) (f9 S) qf (n9 (z_no S) (z_li S) (z_wi S) (z_bu S) (z_qn S))) t c9) (vx_cwSW 2 E.2.2.2.1 gL_verdicts_L_failing rfl rfl rfl (by decide +kernel) ⟨Nat.le_of_ble_eq_true rfl, Nat.le_of_ble_eq_true rfl⟩) rfl rfl ⟨(by show _ ≤ 3001; omega), (by show _ ≤ 18006; omega)⟩ (Nat.le_of_ble_eq_true rfl) ?_
                      refine v_iload E dL_verdicts_156 0 rfl ?_
                      have J175_9 : V p9 l e9 (headSpec wsL_verdicts { frames := 9, cells := 3001, slots := 18006, locals := 156 }).room s9 m9 as9 bl9 me9 cd9 (83 * t + 2 * k + 1 + 1 + 1) (498 * t + 12 * k + 6 + 6 + 6) (vx_MQ bl9 (v_Qo D (wTy cI cZ cQ cJ) (0 = 0) (some (.int (nI 1))) ((wA cI bx (z_U S) (z_C S) (z_D S) (g9 S) (z_B S) (f9 S) qf (n9 (z_no S) (z_li S) (z_wi S) (z_bu S) (z_qn S))) ++ wX cI cZ cQ a S) A) (v_XC D (wTy cI cZ cQ cJ) 0 exI ((wA cI bx (z_U S) (z_C S) (z_D S) (g9 S) (z_B S) (f9 S) qf (n9 (z_no S) (z_li S) (z_wi S) (z_bu S) (z_qn S))) ++ wX cI cZ cQ a S) A) as9 s9 3001 18006 A) (v_rw D A s9) 9 175 [(7, .int (nI (z_R S (t)))), (5, .int (nI (mi))), (6, .int (nI (so))), (4, .int (nI (t))), (0, .ref (a 0)), (1, .ref (bx 1)), (2, .ref (bx 5)), (3, .ref (bx 7))] [.int (nI (zfai S t)), .int (nI (zfai S (t)))] ((wA cI bx (z_U S) (z_C S) (z_D S) (g9 S) (z_B S) (f9 S) qf (n9 (z_no S) (z_li S) (z_wi S) (z_bu S) (z_qn S))) ++ wX cI cZ cQ a S) := by
                        refine v_icmp_eq E dL_verdicts_175 (tgt := 180) (by decide) (fun c175 => ?_) (fun c175 => ?_)
                        · refine v_iinc E dL_verdicts_180 3 rfl (nI_1 _) (by decide) rfl ?_
                          refine v_goto E dL_verdicts_183 (tgt := 3) (by decide) ?_
                          refine v_more (c2 := 83 * (t + 1)) (s2 := 498 * (t + 1)) (by omega) (by omega) ?_
                          refine v_lv [0, 4, 5, 6, 7] rfl ?_
                          exact ih3 (t + 1) (by omega) (by omega)
                        · exact absurd rfl c175
                      refine n_if_ne E dL_verdicts_158 (by omega) (tgt := 165) (by decide) (fun c158 => ?_) (fun c158 => ?_)
                      · have hf9 := f9_le hok t
                        refine v_bipush E dL_verdicts_165 (v := nI 100) rfl ?_
                        refine v_aload_n E dL_verdicts_167 6 rfl rfl ?_
                        refine v_iload E dL_verdicts_168 3 rfl ?_
                        refine v_iald E dL_verdicts_170 (v := nI (f9 S t)) 5 0 rfl rfl (by omega) (by decide) rfl ?_
                        refine v_imul E dL_verdicts_171 (pk_mul _ _) ?_
                        refine v_iload E dL_verdicts_172 0 rfl ?_
                        refine v_idiv E dL_verdicts_174 (n_ne0 (by omega) (by omega)) (pk_div (by omega) (by omega) (by omega)) ?_
                        refine v_top (y := nI (zfai S t)) (by unfold zfai; rw [if_neg (by omega)]; rfl) ?_
                        exact J175_9
                      · refine v_iconst E dL_verdicts_161 (v := nI 0) rfl ?_
                        refine v_goto E dL_verdicts_162 (tgt := 175) (by decide) ?_
                        refine v_top (y := nI (zfai S t)) (by unfold zfai; rw [if_pos c158]) ?_
                        exact J175_9
                    refine n_if_ne E dL_verdicts_142 (by omega) (tgt := 150) (by decide) (fun c142 => ?_) (fun c142 => ?_)
                    · exact J150_8
                    · refine v_iload E dL_verdicts_145 0 rfl ?_
                      refine n_if_gt E dL_verdicts_147 (by omega) (tgt := 178) (by decide) (fun c147 => ?_) (fun c147 => ?_)
                      · exact absurd c147 (by rw [so9_0 hok hN t (by rw [← hkk, ← hso]; exact c142)]; decide)
                      · exact J150_8
              refine n_icmp_lt E dL_verdicts_122 (by omega) (by omega) (tgt := 129) (by decide) (fun c122 => ?_) (fun c122 => ?_)
              · refine v_iconst E dL_verdicts_129 (v := nI 0) rfl ?_
                refine v_top (y := bI (decide (z_li S ≤ zmix S t))) (by rw [decide_eq_false (show ¬ z_li S ≤ zmix S t by omega)]; rfl) ?_
                exact J130_7
              · refine v_iconst E dL_verdicts_125 (v := nI 1) rfl ?_
                refine v_goto E dL_verdicts_126 (tgt := 130) (by decide) ?_
                refine v_top (y := bI (decide (z_li S ≤ zmix S t))) (by rw [decide_eq_true (show z_li S ≤ zmix S t by omega)]; rfl) ?_
                exact J130_7
            · refine v_aload_n E dL_verdicts_30 4 rfl rfl ?_
              refine v_iload E dL_verdicts_31 3 rfl ?_
              refine v_iload E dL_verdicts_33 2 rfl ?_
              refine x_cSn E hA hTx dL_verdicts_35 (l_verdict0 l D cI cZ cQ cJ a S hok hl (wA cI bx (z_U S) (z_C S) (z_D S) (g9 S) (z_B S) (f9 S) qf (n9 (z_no S) (z_li S) (z_wi S) (z_bu S) (z_qn S))) t k c9 c27) (vx_cwSW 3 E.2.2.2.1 gL_verdicts_L_verdict rfl rfl rfl (by decide +kernel) ⟨Nat.le_of_ble_eq_true rfl, Nat.le_of_ble_eq_true rfl⟩) rfl rfl ⟨(by show _ ≤ 3001; omega), (by show _ ≤ 18006; omega)⟩ (Nat.le_of_ble_eq_true rfl) ?_
              have hv := vd_lt (z_P S t k) (z_F S t k)
              refine v_istore E dL_verdicts_38 (by decide) rfl ?_
              refine v_iload E dL_verdicts_40 1 rfl ?_
              refine v_iload E dL_verdicts_42 0 rfl ?_
              refine v_iconst E dL_verdicts_44 (v := nI 3) rfl ?_
              have J66_10 : V p9 l e9 (headSpec wsL_verdicts { frames := 9, cells := 3001, slots := 18006, locals := 156 }).room s9 m9 as9 bl9 me9 cd9 (83 * t + 2 * k + 2) (498 * t + 12 * k + 12) (vx_MQ bl9 (v_Qo D (wTy cI cZ cQ cJ) (0 = 0) (some (.int (nI 1))) ((wA cI bx (z_U S) (z_C S) (z_D S) (g9 S) (z_B S) (f9 S) qf (n9 (z_no S) (z_li S) (z_wi S) (z_bu S) (z_qn S))) ++ wX cI cZ cQ a S) A) (v_XC D (wTy cI cZ cQ cJ) 0 exI ((wA cI bx (z_U S) (z_C S) (z_D S) (g9 S) (z_B S) (f9 S) qf (n9 (z_no S) (z_li S) (z_wi S) (z_bu S) (z_qn S))) ++ wX cI cZ cQ a S) A) as9 s9 3001 18006 A) (v_rw D A s9) 9 66 [(8, .int (nI (vd (z_P S (t) (k)) (z_F S (t) (k))))), (5, .int (nI (mi))), (6, .int (nI (so))), (7, .int (nI (k))), (4, .int (nI (t))), (0, .ref (a 0)), (1, .ref (bx 1)), (2, .ref (bx 5)), (3, .ref (bx 7))] [.int (nI (b1 (zmx S t k && decide (z_nc S - z_wi S ≤ k)))), .int (nI (mi))] ((wA cI bx (z_U S) (z_C S) (z_D S) (g9 S) (z_B S) (f9 S) qf (n9 (z_no S) (z_li S) (z_wi S) (z_bu S) (z_qn S))) ++ wX cI cZ cQ a S) := by
                refine v_iadd E dL_verdicts_66 (nI_add _ _) ?_
                refine v_istore E dL_verdicts_67 (by decide) rfl ?_
                refine v_iload E dL_verdicts_69 2 rfl ?_
                refine v_iload E dL_verdicts_71 1 rfl ?_
                have J81_11 : V p9 l e9 (headSpec wsL_verdicts { frames := 9, cells := 3001, slots := 18006, locals := 156 }).room s9 m9 as9 bl9 me9 cd9 (83 * t + 2 * k + 2) (498 * t + 12 * k + 12) (vx_MQ bl9 (v_Qo D (wTy cI cZ cQ cJ) (0 = 0) (some (.int (nI 1))) ((wA cI bx (z_U S) (z_C S) (z_D S) (g9 S) (z_B S) (f9 S) qf (n9 (z_no S) (z_li S) (z_wi S) (z_bu S) (z_qn S))) ++ wX cI cZ cQ a S) A) (v_XC D (wTy cI cZ cQ cJ) 0 exI ((wA cI bx (z_U S) (z_C S) (z_D S) (g9 S) (z_B S) (f9 S) qf (n9 (z_no S) (z_li S) (z_wi S) (z_bu S) (z_qn S))) ++ wX cI cZ cQ a S) A) as9 s9 3001 18006 A) (v_rw D A s9) 9 81 [(5, .int (nI (mi + (b1 (zmx S t k && decide (z_nc S - z_wi S ≤ k)))))), (8, .int (nI (vd (z_P S (t) (k)) (z_F S (t) (k))))), (6, .int (nI (so))), (7, .int (nI (k))), (4, .int (nI (t))), (0, .ref (a 0)), (1, .ref (bx 1)), (2, .ref (bx 5)), (3, .ref (bx 7))] [.int (nI (b1 (so9 S t k))), .int (nI (so))] ((wA cI bx (z_U S) (z_C S) (z_D S) (g9 S) (z_B S) (f9 S) qf (n9 (z_no S) (z_li S) (z_wi S) (z_bu S) (z_qn S))) ++ wX cI cZ cQ a S) := by
                  refine v_iadd E dL_verdicts_81 (nI_add _ _) ?_
                  refine v_istore E dL_verdicts_82 (by decide) rfl ?_
                  refine v_iload E dL_verdicts_84 2 rfl ?_
                  refine n_if_lt E dL_verdicts_86 (by omega) (tgt := 95) (by decide) (fun c86 => ?_) (fun c86 => ?_)
                  · exact c86.elim
                  · refine v_iload E dL_verdicts_89 2 rfl ?_
                    refine v_iconst E dL_verdicts_91 (v := nI 3) rfl ?_
                    refine n_icmp_le E dL_verdicts_92 (by omega) (by omega) (tgt := 97) (by decide) (fun c92 => ?_) (fun c92 => ?_)
                    · refine v_iinc E dL_verdicts_97 3 rfl (nI_1 _) (by decide) rfl ?_
                      refine v_goto E dL_verdicts_100 (tgt := 21) (by decide) ?_
                      refine v_more (c2 := 83 * t + 2 * (k + 1)) (s2 := 498 * t + 12 * (k + 1)) (by omega) (by omega) ?_
                      refine v_lv [2, 1, 0, 4, 5, 6, 7, 8] rfl ?_
                      exact ih21 (k + 1) (mi + (b1 (zmx S t k && decide (z_nc S - z_wi S ≤ k)))) (so + (b1 (so9 S t k))) (by omega) (by omega) (zmix_s hmi) (by rw [hso]; rfl) (by have := b1_le (zmx S t k && decide (z_nc S - z_wi S ≤ k)); omega) (by have := b1_le (so9 S t k); omega)
                    · exact absurd c92 (by omega)
                refine n_if_le E dL_verdicts_73 (by omega) (tgt := 80) (by decide) (fun c73 => ?_) (fun c73 => ?_)
                · refine v_iconst E dL_verdicts_80 (v := nI 0) rfl ?_
                  refine v_top (y := nI (b1 (so9 S t k))) (by rw [show so9 S t k = false from decide_eq_false (by omega)]; rfl) ?_
                  exact J81_11
                · refine v_iconst E dL_verdicts_76 (v := nI 1) rfl ?_
                  refine v_goto E dL_verdicts_77 (tgt := 81) (by decide) ?_
                  refine v_top (y := nI (b1 (so9 S t k))) (by rw [show so9 S t k = true from decide_eq_true c73]; rfl) ?_
                  exact J81_11
              refine n_icmp_ne E dL_verdicts_45 (by omega) (by omega) (tgt := 65) (by decide) (fun c45 => ?_) (fun c45 => ?_)
              · refine v_iconst E dL_verdicts_65 (v := nI 0) rfl ?_
                refine v_top (y := nI (b1 (zmx S t k && decide (z_nc S - z_wi S ≤ k)))) (by rw [show zmx S t k = false from decide_eq_false c45]; rfl) ?_
                exact J66_10
              · refine v_iload E dL_verdicts_48 3 rfl ?_
                refine v_aload_n E dL_verdicts_50 5 rfl rfl ?_
                refine v_cVi' E dL_verdicts_51 (x_X1_commits l D cI cZ cQ cJ a S hok) (cwV 0 E.2.2.2.1 gL_verdicts_X1_commits rfl rfl rfl (by decide +kernel) ⟨Nat.le_of_ble_eq_true rfl, Nat.le_of_ble_eq_true rfl⟩) 8 rfl rfl rfl (fun H h => subR H h) rfl rfl ⟨(by show _ ≤ 3001; omega), (by show _ ≤ 18006; omega)⟩ (Nat.le_of_ble_eq_true rfl) ?_
                refine v_aload_n E dL_verdicts_54 8 rfl rfl ?_
                refine v_iconst E dL_verdicts_55 (v := nI 2) rfl ?_
                refine v_iald E dL_verdicts_56 (v := nI (z_wi S)) 7 0 rfl rfl (by omega) (by decide) rfl ?_
                refine v_isub E dL_verdicts_57 (z := ((nI (z_nc S) - nI (z_wi S)))) rfl ?_
                refine v_icmp_lt E dL_verdicts_58 (tgt := 65) (by decide) (fun c58 => ?_) (fun c58 => ?_)
                · refine v_iconst E dL_verdicts_65 (v := nI 0) rfl ?_
                  refine v_top (y := nI (b1 (zmx S t k && decide (z_nc S - z_wi S ≤ k)))) (by rw [decide_eq_false (show ¬ z_nc S - z_wi S ≤ k from Nat.not_le.mpr ((sub_lt (by omega) (by omega) (by omega)).mp c58)), Bool.and_false]; rfl) ?_
                  exact J66_10
                · refine v_iconst E dL_verdicts_61 (v := nI 1) rfl ?_
                  refine v_goto E dL_verdicts_62 (tgt := 66) (by decide) ?_
                  refine v_top (y := nI (b1 (zmx S t k && decide (z_nc S - z_wi S ≤ k)))) (by rw [show zmx S t k = true from decide_eq_true c45, decide_eq_true (Nat.le_of_not_lt (fun z => c58 ((sub_lt (by omega) (by omega) (by omega)).mpr z)))]; rfl) ?_
                  exact J66_10
        refine v_more (c2 := 83 * t + 2 * (0)) (s2 := 498 * t + 12 * (0)) (by omega) (by omega) ?_
        refine v_lv [2, 1, 0, 3, 4, 5, 6, 7] rfl ?_
        exact L21_6 (z_nc S - (0) + 1) (0) (0) (0) (by omega) (by omega) rfl rfl (by omega) (by omega)
  refine v_more (c2 := 83 * (0)) (s2 := 498 * (0)) (by omega) (by omega) ?_
  refine v_lv [0, 1, 2, 3, 4] rfl ?_
  exact L3_1 (z_nt S - (0) + 1) (0) (by omega) (by omega)
