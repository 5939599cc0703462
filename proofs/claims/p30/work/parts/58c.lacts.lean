/-! ===== the law: acts, settings ===== -/
set_option maxHeartbeats 8000000 in
set_option maxRecDepth 100000 in
theorem z_acts_C (l : Launch) (D : va_G) (cI cZ cQ cJ : ClassId) (a bx : Nat → Nat) (S : zS) (hok : zOK S) (hl : l.stackTraces = false) (qf : Nat → Nat) (u0 u1 : Int32) (kd v : Nat) (t c : Nat) (p w : Nat) (ekd : lo9 u0 % 24 = kd) (est : st9 u1 = v)(et : lo9 (u0 >>> (nI (5) &&& 31)) % z_nt S = t) (ec : lo9 u1 % z_nc S = c) (hnt : 0 < z_nt S) (hnc : 0 < z_nc S)(hkd6 : kd = 6) (ep : lo9 (u1 >>> (nI (4) &&& 31)) % 16 = p) (ew : (if lo9 (u1 >>> (nI (8) &&& 31)) % 3 = 0 then 0 else v) = w) : v_Thr l yL_acts wsL_acts { frames := 10, cells := 1002, slots := 6012, locals := 193 } D (wTy cI cZ cQ cJ) [.ref (a 0), .ref (bx 0), .ref (bx 1), .ref (bx 2), .ref (bx 3), .ref (bx 4), .ref (bx 5), .ref (bx 6), .ref (bx 7), .int (u0), .int (u1)] ((wA cI bx (z_U S) (z_C S) (z_D S) (g9 S) (z_B S) (f9 S) qf (n9 (z_no S) (z_li S) (z_wi S) (z_bu S) (z_qn S))) ++ wX cI cZ cQ a S) 0 exI (some (.int (nI 1))) ((wA cI bx (z_U ((zs_U S (va_up (z_U S) p w)))) (z_C ((zs_U S (va_up (z_U S) p w)))) (z_D ((zs_U S (va_up (z_U S) p w)))) (g9 ((zs_U S (va_up (z_U S) p w)))) (z_B ((zs_U S (va_up (z_U S) p w)))) (f9 ((zs_U S (va_up (z_U S) p w)))) qf (n9 (z_no ((zs_U S (va_up (z_U S) p w)))) (z_li ((zs_U S (va_up (z_U S) p w)))) (z_wi ((zs_U S (va_up (z_U S) p w)))) (z_bu ((zs_U S (va_up (z_U S) p w)))) (z_qn ((zs_U S (va_up (z_U S) p w)))))) ++ wX cI cZ cQ a ((zs_U S (va_up (z_U S) p w)))) 1002 6012 := by
  refine v_thrower (cc := cL_acts) (maxL := 20) (ret := (some .boolean)) (own := RL) (lv0 := [(0, .ref (a 0)), (1, .ref (bx 0)), (2, .ref (bx 1)), (3, .ref (bx 2)), (4, .ref (bx 3)), (5, .ref (bx 4)), (6, .ref (bx 5)), (7, .ref (bx 6)), (8, .ref (bx 7)), (9, .int (u0)), (10, .int (u1))]) (by decide) rfl rfl (Nat.le_of_ble_eq_true rfl) rfl ?_
  intro p9 e9 s9 m9 as9 bl9 me9 cd9 A E hA htab hTx hr
  have hn1 := hok.1.1
  have hn2 := hok.1.2.1
  have hkd : kd < 24 := by rw [← ekd]; exact Nat.mod_lt _ (by decide)
  have hv : v < 65536 := by rw [← est]; exact st9_lt u1
  have hqn := zqn_le hok
  have ht : t < z_nt S := by rw [← et]; exact Nat.mod_lt _ hnt
  have hc : c < z_nc S := by rw [← ec]; exact Nat.mod_lt _ hnc
  have hp : p < 16 := by rw [← ep]; exact Nat.mod_lt _ (by decide)
  have hw : w < 65536 := by
    rw [← ew]
    split
    · decide
    · exact hv
  refine v_iload E dL_acts_0 9 rfl ?_
  refine v_bipush E dL_acts_2 (v := nI 24) rfl ?_
  refine v_cSi' E dL_acts_4 (x_L_low l D cI cZ cQ cJ ((u0)) (24) (by omega) (by omega)) (va_cwS 2 E.2.2.2.1 gL_acts_L_low rfl rfl rfl (by decide +kernel) ⟨Nat.le_of_ble_eq_true rfl, Nat.le_of_ble_eq_true rfl⟩) (fun _ _ => v_nil _) rfl rfl ⟨(by show _ ≤ 1002; omega), (by show _ ≤ 6012; omega)⟩ (Nat.le_of_ble_eq_true rfl) ?_
  refine v_top (y := nI (kd)) (congrArg nI ekd) ?_
  refine v_istore E dL_acts_7 (by decide) rfl ?_
  refine v_aload_n E dL_acts_9 1 rfl rfl ?_
  refine v_cVi' E dL_acts_10 (x_X1_tests l D cI cZ cQ cJ a S hok) (cwV 0 E.2.2.2.1 gL_acts_X1_tests rfl rfl rfl (by decide +kernel) ⟨Nat.le_of_ble_eq_true rfl, Nat.le_of_ble_eq_true rfl⟩) 8 rfl rfl rfl (fun H h => subR H h) rfl rfl ⟨(by show _ ≤ 1002; omega), (by show _ ≤ 6012; omega)⟩ (Nat.le_of_ble_eq_true rfl) ?_
  refine v_istore E dL_acts_13 (by decide) rfl ?_
  refine v_aload_n E dL_acts_15 2 rfl rfl ?_
  refine v_cVi' E dL_acts_16 (x_X1_commits l D cI cZ cQ cJ a S hok) (cwV 0 E.2.2.2.1 gL_acts_X1_commits rfl rfl rfl (by decide +kernel) ⟨Nat.le_of_ble_eq_true rfl, Nat.le_of_ble_eq_true rfl⟩) 8 rfl rfl rfl (fun H h => subR H h) rfl rfl ⟨(by show _ ≤ 1002; omega), (by show _ ≤ 6012; omega)⟩ (Nat.le_of_ble_eq_true rfl) ?_
  refine v_istore E dL_acts_19 (by decide) rfl ?_
  refine v_iconst E dL_acts_21 (v := nI 1) rfl ?_
  refine v_iload E dL_acts_22 13 rfl ?_
  refine v_bipush E dL_acts_24 (v := nI 16) rfl ?_
  refine v_cSi' E dL_acts_26 (x_L_low l D cI cZ cQ cJ ((u1)) (16) (by omega) (by omega)) (va_cwS 2 E.2.2.2.1 gL_acts_L_low rfl rfl rfl (by decide +kernel) ⟨Nat.le_of_ble_eq_true rfl, Nat.le_of_ble_eq_true rfl⟩) (fun _ _ => v_nil _) rfl rfl ⟨(by show _ ≤ 1002; omega), (by show _ ≤ 6012; omega)⟩ (Nat.le_of_ble_eq_true rfl) ?_
  refine v_ishl E dL_acts_29 (n_shl1 (by omega)) ?_
  refine v_iconst E dL_acts_30 (v := nI 1) rfl ?_
  refine v_iload E dL_acts_31 13 rfl ?_
  refine v_iconst E dL_acts_33 (v := nI 4) rfl ?_
  refine v_ishr E dL_acts_34 (z := ((u1 >>> (nI (4) &&& 31)))) rfl ?_
  refine v_bipush E dL_acts_35 (v := nI 6) rfl ?_
  refine v_cSi' E dL_acts_37 (x_L_low l D cI cZ cQ cJ (((u1 >>> (nI (4) &&& 31)))) (6) (by omega) (by omega)) (va_cwS 2 E.2.2.2.1 gL_acts_L_low rfl rfl rfl (by decide +kernel) ⟨Nat.le_of_ble_eq_true rfl, Nat.le_of_ble_eq_true rfl⟩) (fun _ _ => v_nil _) rfl rfl ⟨(by show _ ≤ 1002; omega), (by show _ ≤ 6012; omega)⟩ (Nat.le_of_ble_eq_true rfl) ?_
  refine v_ishl E dL_acts_40 (n_shl1 (by omega)) ?_
  refine v_ior E dL_acts_41 (nx_or _ _) ?_
  refine v_iload E dL_acts_42 13 rfl ?_
  refine v_bipush E dL_acts_44 (v := nI 8) rfl ?_
  refine v_ishr E dL_acts_46 (z := ((u1 >>> (nI (8) &&& 31)))) rfl ?_
  refine v_iconst E dL_acts_47 (v := nI 3) rfl ?_
  refine v_cSi' E dL_acts_48 (x_L_low l D cI cZ cQ cJ (((u1 >>> (nI (8) &&& 31)))) (3) (by omega) (by omega)) (va_cwS 2 E.2.2.2.1 gL_acts_L_low rfl rfl rfl (by decide +kernel) ⟨Nat.le_of_ble_eq_true rfl, Nat.le_of_ble_eq_true rfl⟩) (fun _ _ => v_nil _) rfl rfl ⟨(by show _ ≤ 1002; omega), (by show _ ≤ 6012; omega)⟩ (Nat.le_of_ble_eq_true rfl) ?_
  have J70_1 : V p9 l e9 (headSpec wsL_acts { frames := 10, cells := 1002, slots := 6012, locals := 193 }).room s9 m9 as9 bl9 me9 cd9 (0) (0) (vx_MQ bl9 (v_Qo D (wTy cI cZ cQ cJ) (0 = 0) (some (.int (nI 1))) ((wA cI bx (z_U ((zs_U S (va_up (z_U S) p w)))) (z_C ((zs_U S (va_up (z_U S) p w)))) (z_D ((zs_U S (va_up (z_U S) p w)))) (g9 ((zs_U S (va_up (z_U S) p w)))) (z_B ((zs_U S (va_up (z_U S) p w)))) (f9 ((zs_U S (va_up (z_U S) p w)))) qf (n9 (z_no ((zs_U S (va_up (z_U S) p w)))) (z_li ((zs_U S (va_up (z_U S) p w)))) (z_wi ((zs_U S (va_up (z_U S) p w)))) (z_bu ((zs_U S (va_up (z_U S) p w)))) (z_qn ((zs_U S (va_up (z_U S) p w)))))) ++ wX cI cZ cQ a ((zs_U S (va_up (z_U S) p w)))) A) (v_XC D (wTy cI cZ cQ cJ) 0 exI ((wA cI bx (z_U S) (z_C S) (z_D S) (g9 S) (z_B S) (f9 S) qf (n9 (z_no S) (z_li S) (z_wi S) (z_bu S) (z_qn S))) ++ wX cI cZ cQ a S) A) as9 s9 1002 6012 A) (v_rw D A s9) 20 70 [(13, .int (nI (z_nc S))), (12, .int (nI (z_nt S))), (11, .int (nI (kd))), (0, .ref (a 0)), (1, .ref (bx 0)), (2, .ref (bx 1)), (3, .ref (bx 2)), (4, .ref (bx 3)), (5, .ref (bx 4)), (6, .ref (bx 5)), (7, .ref (bx 6)), (8, .ref (bx 7)), (9, .int (u0)), (10, .int (u1))] [.int (nI ((if lo9 (u1 >>> (nI (8) &&& 31)) % 3 = 0 then 2 ^ (lo9 (u1 >>> (nI (10) &&& 31)) % 16) else 0))), .int (nI ((2 ^ (lo9 ((u1)) % 16)) ||| (2 ^ (lo9 (((u1 >>> (nI (4) &&& 31)))) % 6))))] ((wA cI bx (z_U S) (z_C S) (z_D S) (g9 S) (z_B S) (f9 S) qf (n9 (z_no S) (z_li S) (z_wi S) (z_bu S) (z_qn S))) ++ wX cI cZ cQ a S) := by
    refine v_ior E dL_acts_70 (nx_or _ _) ?_
    refine v_top (y := nI (v)) (congrArg nI est) ?_
    refine v_istore E dL_acts_71 (by decide) rfl ?_
    refine v_iload E dL_acts_73 3 rfl ?_
    refine n_if_eq E dL_acts_75 (by omega) (tgt := 83) (by decide) (fun c75 => ?_) (fun c75 => ?_)
    · exact absurd c75 (by omega)
    · refine v_iload E dL_acts_78 2 rfl ?_
      refine n_if_ne E dL_acts_80 (by omega) (tgt := 142) (by decide) (fun c80 => ?_) (fun c80 => ?_)
      · refine v_iload E dL_acts_142 3 rfl ?_
        refine v_bipush E dL_acts_144 (v := nI 6) rfl ?_
        refine n_icmp_lt E dL_acts_146 (by omega) (by omega) (tgt := 154) (by decide) (fun c146 => ?_) (fun c146 => ?_)
        · exact absurd c146 (by omega)
        · refine v_iload E dL_acts_149 1 rfl ?_
          refine n_if_ne E dL_acts_151 (by omega) (tgt := 206) (by decide) (fun c151 => ?_) (fun c151 => ?_)
          · refine v_iload E dL_acts_206 13 rfl ?_
            refine v_iconst E dL_acts_208 (v := nI 5) rfl ?_
            refine v_ishr E dL_acts_209 (z := ((u0 >>> (nI (5) &&& 31)))) rfl ?_
            refine v_iload E dL_acts_210 2 rfl ?_
            refine v_cSi' E dL_acts_212 (x_L_low l D cI cZ cQ cJ (((u0 >>> (nI (5) &&& 31)))) (z_nt S) (by omega) (by omega)) (va_cwS 2 E.2.2.2.1 gL_acts_L_low rfl rfl rfl (by decide +kernel) ⟨Nat.le_of_ble_eq_true rfl, Nat.le_of_ble_eq_true rfl⟩) (fun _ _ => v_nil _) rfl rfl ⟨(by show _ ≤ 1002; omega), (by show _ ≤ 6012; omega)⟩ (Nat.le_of_ble_eq_true rfl) ?_
            refine v_top (y := nI (t)) (congrArg nI et) ?_
            refine v_istore E dL_acts_215 (by decide) rfl ?_
            refine v_iload E dL_acts_217 15 rfl ?_
            refine v_iload E dL_acts_219 2 rfl ?_
            refine v_cSi' E dL_acts_221 (x_L_low l D cI cZ cQ cJ ((u1)) (z_nc S) (by omega) (by omega)) (va_cwS 2 E.2.2.2.1 gL_acts_L_low rfl rfl rfl (by decide +kernel) ⟨Nat.le_of_ble_eq_true rfl, Nat.le_of_ble_eq_true rfl⟩) (fun _ _ => v_nil _) rfl rfl ⟨(by show _ ≤ 1002; omega), (by show _ ≤ 6012; omega)⟩ (Nat.le_of_ble_eq_true rfl) ?_
            refine v_top (y := nI (c)) (congrArg nI ec) ?_
            refine v_istore E dL_acts_224 (by decide) rfl ?_
            refine v_iload E dL_acts_226 5 rfl ?_
            refine v_bipush E dL_acts_228 (v := nI 6) rfl ?_
            refine n_icmp_ne E dL_acts_230 (by omega) (by omega) (tgt := 317) (by decide) (fun c230 => ?_) (fun c230 => ?_)
            · exact absurd c230 (by omega)
            · refine v_iload E dL_acts_233 16 rfl ?_
              refine v_iconst E dL_acts_235 (v := nI 4) rfl ?_
              refine v_ishr E dL_acts_236 (z := ((u1 >>> (nI (4) &&& 31)))) rfl ?_
              refine v_bipush E dL_acts_237 (v := nI 16) rfl ?_
              refine v_cSi' E dL_acts_239 (x_L_low l D cI cZ cQ cJ (((u1 >>> (nI (4) &&& 31)))) (16) (by omega) (by omega)) (va_cwS 2 E.2.2.2.1 gL_acts_L_low rfl rfl rfl (by decide +kernel) ⟨Nat.le_of_ble_eq_true rfl, Nat.le_of_ble_eq_true rfl⟩) (fun _ _ => v_nil _) rfl rfl ⟨(by show _ ≤ 1002; omega), (by show _ ≤ 6012; omega)⟩ (Nat.le_of_ble_eq_true rfl) ?_
              refine v_top (y := nI (p)) (congrArg nI ep) ?_
              refine v_istore E dL_acts_242 (by decide) rfl ?_
              refine v_aload_n E dL_acts_244 8 rfl rfl ?_
              refine v_iload E dL_acts_245 0 rfl ?_
              refine v_iald E dL_acts_247 (v := nI (z_U S p)) 0 0 rfl rfl (by omega) (by decide) rfl ?_
              refine v_istore E dL_acts_248 (by decide) rfl ?_
              refine v_aload_n E dL_acts_250 9 rfl rfl ?_
              refine v_iload E dL_acts_251 1 rfl ?_
              refine v_iload E dL_acts_253 18 rfl ?_
              refine v_bipush E dL_acts_255 (v := nI 8) rfl ?_
              refine v_ishr E dL_acts_257 (z := ((u1 >>> (nI (8) &&& 31)))) rfl ?_
              refine v_iconst E dL_acts_258 (v := nI 3) rfl ?_
              refine v_cSi' E dL_acts_259 (x_L_low l D cI cZ cQ cJ (((u1 >>> (nI (8) &&& 31)))) (3) (by omega) (by omega)) (va_cwS 2 E.2.2.2.1 gL_acts_L_low rfl rfl rfl (by decide +kernel) ⟨Nat.le_of_ble_eq_true rfl, Nat.le_of_ble_eq_true rfl⟩) (fun _ _ => v_nil _) rfl rfl ⟨(by show _ ≤ 1002; omega), (by show _ ≤ 6012; omega)⟩ (Nat.le_of_ble_eq_true rfl) ?_
              have J271_2 : V p9 l e9 (headSpec wsL_acts { frames := 10, cells := 1002, slots := 6012, locals := 193 }).room s9 m9 as9 bl9 me9 cd9 (0) (0) (vx_MQ bl9 (v_Qo D (wTy cI cZ cQ cJ) (0 = 0) (some (.int (nI 1))) ((wA cI bx (z_U ((zs_U S (va_up (z_U S) p w)))) (z_C ((zs_U S (va_up (z_U S) p w)))) (z_D ((zs_U S (va_up (z_U S) p w)))) (g9 ((zs_U S (va_up (z_U S) p w)))) (z_B ((zs_U S (va_up (z_U S) p w)))) (f9 ((zs_U S (va_up (z_U S) p w)))) qf (n9 (z_no ((zs_U S (va_up (z_U S) p w)))) (z_li ((zs_U S (va_up (z_U S) p w)))) (z_wi ((zs_U S (va_up (z_U S) p w)))) (z_bu ((zs_U S (va_up (z_U S) p w)))) (z_qn ((zs_U S (va_up (z_U S) p w)))))) ++ wX cI cZ cQ a ((zs_U S (va_up (z_U S) p w)))) A) (v_XC D (wTy cI cZ cQ cJ) 0 exI ((wA cI bx (z_U S) (z_C S) (z_D S) (g9 S) (z_B S) (f9 S) qf (n9 (z_no S) (z_li S) (z_wi S) (z_bu S) (z_qn S))) ++ wX cI cZ cQ a S) A) as9 s9 1002 6012 A) (v_rw D A s9) 20 271 [(18, .int (nI (z_U S p))), (17, .int (nI (p))), (16, .int (nI (c))), (15, .int (nI (t))), (14, .int (nI (v))), (13, .int (nI (z_nc S))), (12, .int (nI (z_nt S))), (11, .int (nI (kd))), (0, .ref (a 0)), (1, .ref (bx 0)), (2, .ref (bx 1)), (3, .ref (bx 2)), (4, .ref (bx 3)), (5, .ref (bx 4)), (6, .ref (bx 5)), (7, .ref (bx 6)), (8, .ref (bx 7)), (9, .int (u0)), (10, .int (u1))] [.int (nI (w)), .int (nI (p)), .ref (bx 0)] ((wA cI bx (z_U S) (z_C S) (z_D S) (g9 S) (z_B S) (f9 S) qf (n9 (z_no S) (z_li S) (z_wi S) (z_bu S) (z_qn S))) ++ wX cI cZ cQ a S) := by
                refine v_iast E dL_acts_271 0 0 rfl rfl (by omega) (by decide) (w' := ((wA cI bx (va_up (z_U S) (p) (w)) (z_C S) (z_D S) (g9 S) (z_B S) (f9 S) qf (n9 (z_no S) (z_li S) (z_wi S) (z_bu S) (z_qn S))) ++ wX cI cZ cQ a S)) (wA_u _ _) ?_
                refine v_aload_n E dL_acts_272 8 rfl rfl ?_
                refine v_iload E dL_acts_273 1 rfl ?_
                refine v_aload_n E dL_acts_275 9 rfl rfl ?_
                refine v_iload E dL_acts_276 1 rfl ?_
                refine v_iald E dL_acts_278 (v := nI (w)) 0 0 rfl rfl (by omega) (by decide) (congrArg nI (if_pos rfl)) ?_
                refine x_cSn E hA hTx dL_acts_279 (l_setUses0 l D cI cZ cQ cJ a S hok hl (wA cI bx (va_up (z_U S) (p) (w)) (z_C S) (z_D S) (g9 S) (z_B S) (f9 S) qf (n9 (z_no S) (z_li S) (z_wi S) (z_bu S) (z_qn S))) p w hp hw) (vx_cwSW 3 E.2.2.2.1 gL_acts_L_setUses rfl rfl rfl (by decide +kernel) ⟨Nat.le_of_ble_eq_true rfl, Nat.le_of_ble_eq_true rfl⟩) rfl rfl ⟨(by show _ ≤ 1002; omega), (by show _ ≤ 6012; omega)⟩ (Nat.le_of_ble_eq_true rfl) ?_
                refine v_iload E dL_acts_282 0 rfl ?_
                refine v_icmp_ne E dL_acts_284 (tgt := 315) (by decide) (fun c284 => ?_) (fun c284 => ?_)
                · exact absurd rfl c284
                · refine v_aload_n E dL_acts_287 8 rfl rfl ?_
                  refine v_bipush E dL_acts_288 (v := nI 16) rfl ?_
                  refine v_iconst E dL_acts_290 (v := (-1)) rfl ?_
                  refine x_cSn E hA hTx dL_acts_291 (l_setUsesX l D cI cZ cQ cJ a ((zs_U S (va_up (z_U S) (p) (w)))) (zOK_U hok p hw) hl (wA cI bx (va_up (z_U S) (p) (w)) (z_C S) (z_D S) (g9 S) (z_B S) (f9 S) qf (n9 (z_no S) (z_li S) (z_wi S) (z_bu S) (z_qn S)))  ) (vx_cwSW 3 E.2.2.2.1 gL_acts_L_setUses rfl rfl rfl (by decide +kernel) ⟨Nat.le_of_ble_eq_true rfl, Nat.le_of_ble_eq_true rfl⟩) rfl rfl ⟨(by show _ ≤ 1002; omega), (by show _ ≤ 6012; omega)⟩ (Nat.le_of_ble_eq_true rfl) ?_
                  refine v_ldc E dL_acts_294 (v := -1000001) (x := (-1000001)) (by decide +kernel) rfl ?_
                  refine v_icmp_ne E dL_acts_296 (tgt := 315) (by decide) (fun c296 => ?_) (fun c296 => ?_)
                  · exact absurd rfl c296
                  · refine v_aload_n E dL_acts_299 8 rfl rfl ?_
                    refine v_iconst E dL_acts_300 (v := nI 0) rfl ?_
                    refine v_ldc E dL_acts_301 (v := 65536) (x := nI 65536) (by decide +kernel) rfl ?_
                    refine x_cSn E hA hTx dL_acts_303 (l_setUsesY l D cI cZ cQ cJ a ((zs_U S (va_up (z_U S) (p) (w)))) (zOK_U hok p hw) hl (wA cI bx (va_up (z_U S) (p) (w)) (z_C S) (z_D S) (g9 S) (z_B S) (f9 S) qf (n9 (z_no S) (z_li S) (z_wi S) (z_bu S) (z_qn S)))  ) (vx_cwSW 3 E.2.2.2.1 gL_acts_L_setUses rfl rfl rfl (by decide +kernel) ⟨Nat.le_of_ble_eq_true rfl, Nat.le_of_ble_eq_true rfl⟩) rfl rfl ⟨(by show _ ≤ 1002; omega), (by show _ ≤ 6012; omega)⟩ (Nat.le_of_ble_eq_true rfl) ?_
                    refine v_ldc E dL_acts_306 (v := -1000002) (x := (-1000002)) (by decide +kernel) rfl ?_
                    refine v_icmp_ne E dL_acts_308 (tgt := 315) (by decide) (fun c308 => ?_) (fun c308 => ?_)
                    · exact absurd rfl c308
                    · refine v_iconst E dL_acts_311 (v := nI 1) rfl ?_
                      refine v_goto E dL_acts_312 (tgt := 316) (by decide) ?_
                      exact y_retz E hr rfl rfl rfl rfl (by omega) (by omega) dL_acts_316
              refine n_if_ne E dL_acts_262 (by omega) (tgt := 269) (by decide) (fun c262 => ?_) (fun c262 => ?_)
              · refine v_iload E dL_acts_269 4 rfl ?_
                refine v_top (y := nI (w)) (by rw [← ew, if_neg (by omega)]) ?_
                exact J271_2
              · refine v_iconst E dL_acts_265 (v := nI 0) rfl ?_
                refine v_goto E dL_acts_266 (tgt := 271) (by decide) ?_
                refine v_top (y := nI (w)) (by rw [← ew, if_pos c262]) ?_
                exact J271_2
          · exact absurd c151 (by omega)
      · exact absurd c80 (by omega)
  refine n_if_ne E dL_acts_51 (by omega) (tgt := 69) (by decide) (fun c51 => ?_) (fun c51 => ?_)
  · refine v_iconst E dL_acts_69 (v := nI 0) rfl ?_
    refine v_top (y := nI ((if lo9 (u1 >>> (nI (8) &&& 31)) % 3 = 0 then 2 ^ (lo9 (u1 >>> (nI (10) &&& 31)) % 16) else 0))) (by rw [if_neg (by omega)]) ?_
    exact J70_1
  · refine v_iconst E dL_acts_54 (v := nI 1) rfl ?_
    refine v_iload E dL_acts_55 13 rfl ?_
    refine v_bipush E dL_acts_57 (v := nI 10) rfl ?_
    refine v_ishr E dL_acts_59 (z := ((u1 >>> (nI (10) &&& 31)))) rfl ?_
    refine v_bipush E dL_acts_60 (v := nI 16) rfl ?_
    refine v_cSi' E dL_acts_62 (x_L_low l D cI cZ cQ cJ (((u1 >>> (nI (10) &&& 31)))) (16) (by omega) (by omega)) (va_cwS 2 E.2.2.2.1 gL_acts_L_low rfl rfl rfl (by decide +kernel) ⟨Nat.le_of_ble_eq_true rfl, Nat.le_of_ble_eq_true rfl⟩) (fun _ _ => v_nil _) rfl rfl ⟨(by show _ ≤ 1002; omega), (by show _ ≤ 6012; omega)⟩ (Nat.le_of_ble_eq_true rfl) ?_
    refine v_ishl E dL_acts_65 (n_shl1 (by omega)) ?_
    refine v_goto E dL_acts_66 (tgt := 70) (by decide) ?_
    refine v_top (y := nI ((if lo9 (u1 >>> (nI (8) &&& 31)) % 3 = 0 then 2 ^ (lo9 (u1 >>> (nI (10) &&& 31)) % 16) else 0))) (by rw [if_pos c51]) ?_
    exact J70_1
set_option maxHeartbeats 8000000 in
set_option maxRecDepth 100000 in
theorem z_acts_D (l : Launch) (D : va_G) (cI cZ cQ cJ : ClassId) (a bx : Nat → Nat) (S : zS) (hok : zOK S) (hl : l.stackTraces = false) (qf : Nat → Nat) (u0 u1 : Int32) (kd v : Nat) (t c : Nat) (e1 e5 e2 e3 : Nat) (ekd : lo9 u0 % 24 = kd) (est : st9 u1 = v)(et : lo9 (u0 >>> (nI (5) &&& 31)) % z_nt S = t) (ec : lo9 u1 % z_nc S = c) (hnt : 0 < z_nt S) (hnc : 0 < z_nc S)(hkd6 : kd = 7) (he1 : 1 + (lo9 u1 % 3) = e1) (he5 : (if lo9 (u1 >>> (nI (9) &&& 31)) % 2 = 0 then 40 else 6) = e5) (he2 : 1 + (lo9 (u1 >>> (nI (3) &&& 31)) % e5) = e2) (he3 : lo9 (u1 >>> (nI (10) &&& 31)) % 4 = e3) : v_Thr l yL_acts wsL_acts { frames := 10, cells := 1002, slots := 6012, locals := 193 } D (wTy cI cZ cQ cJ) [.ref (a 0), .ref (bx 0), .ref (bx 1), .ref (bx 2), .ref (bx 3), .ref (bx 4), .ref (bx 5), .ref (bx 6), .ref (bx 7), .int (u0), .int (u1)] ((wA cI bx (z_U S) (z_C S) (z_D S) (g9 S) (z_B S) (f9 S) qf (n9 (z_no S) (z_li S) (z_wi S) (z_bu S) (z_qn S))) ++ wX cI cZ cQ a S) 0 exI (some (.int (nI 1))) ((wA cI bx (z_U ((zs_no (zs_wi (zs_li S e1) e2) e3))) (z_C ((zs_no (zs_wi (zs_li S e1) e2) e3))) (z_D ((zs_no (zs_wi (zs_li S e1) e2) e3))) (g9 ((zs_no (zs_wi (zs_li S e1) e2) e3))) (z_B ((zs_no (zs_wi (zs_li S e1) e2) e3))) (f9 ((zs_no (zs_wi (zs_li S e1) e2) e3))) qf (n9 (z_no ((zs_no (zs_wi (zs_li S e1) e2) e3))) (z_li ((zs_no (zs_wi (zs_li S e1) e2) e3))) (z_wi ((zs_no (zs_wi (zs_li S e1) e2) e3))) (z_bu ((zs_no (zs_wi (zs_li S e1) e2) e3))) (z_qn ((zs_no (zs_wi (zs_li S e1) e2) e3))))) ++ wX cI cZ cQ a ((zs_no (zs_wi (zs_li S e1) e2) e3))) 1002 6012 := by
  refine v_thrower (cc := cL_acts) (maxL := 20) (ret := (some .boolean)) (own := RL) (lv0 := [(0, .ref (a 0)), (1, .ref (bx 0)), (2, .ref (bx 1)), (3, .ref (bx 2)), (4, .ref (bx 3)), (5, .ref (bx 4)), (6, .ref (bx 5)), (7, .ref (bx 6)), (8, .ref (bx 7)), (9, .int (u0)), (10, .int (u1))]) (by decide) rfl rfl (Nat.le_of_ble_eq_true rfl) rfl ?_
  intro p9 e9 s9 m9 as9 bl9 me9 cd9 A E hA htab hTx hr
  have hn1 := hok.1.1
  have hn2 := hok.1.2.1
  have hkd : kd < 24 := by rw [← ekd]; exact Nat.mod_lt _ (by decide)
  have hv : v < 65536 := by rw [← est]; exact st9_lt u1
  have hqn := zqn_le hok
  have ht : t < z_nt S := by rw [← et]; exact Nat.mod_lt _ hnt
  have hc : c < z_nc S := by rw [← ec]; exact Nat.mod_lt _ hnc
  have he5b : e5 = 40 ∨ e5 = 6 := by
    rw [← he5]
    split
    · exact Or.inl rfl
    · exact Or.inr rfl
  have he2b : e2 < 41 := by
    have := Nat.mod_lt (lo9 (u1 >>> (nI (3) &&& 31))) (show 0 < e5 by omega)
    omega
  have hno := hok.1.2.2.2.2.2.2.1
  refine v_iload E dL_acts_0 9 rfl ?_
  refine v_bipush E dL_acts_2 (v := nI 24) rfl ?_
  refine v_cSi' E dL_acts_4 (x_L_low l D cI cZ cQ cJ ((u0)) (24) (by omega) (by omega)) (va_cwS 2 E.2.2.2.1 gL_acts_L_low rfl rfl rfl (by decide +kernel) ⟨Nat.le_of_ble_eq_true rfl, Nat.le_of_ble_eq_true rfl⟩) (fun _ _ => v_nil _) rfl rfl ⟨(by show _ ≤ 1002; omega), (by show _ ≤ 6012; omega)⟩ (Nat.le_of_ble_eq_true rfl) ?_
  refine v_top (y := nI (kd)) (congrArg nI ekd) ?_
  refine v_istore E dL_acts_7 (by decide) rfl ?_
  refine v_aload_n E dL_acts_9 1 rfl rfl ?_
  refine v_cVi' E dL_acts_10 (x_X1_tests l D cI cZ cQ cJ a S hok) (cwV 0 E.2.2.2.1 gL_acts_X1_tests rfl rfl rfl (by decide +kernel) ⟨Nat.le_of_ble_eq_true rfl, Nat.le_of_ble_eq_true rfl⟩) 8 rfl rfl rfl (fun H h => subR H h) rfl rfl ⟨(by show _ ≤ 1002; omega), (by show _ ≤ 6012; omega)⟩ (Nat.le_of_ble_eq_true rfl) ?_
  refine v_istore E dL_acts_13 (by decide) rfl ?_
  refine v_aload_n E dL_acts_15 2 rfl rfl ?_
  refine v_cVi' E dL_acts_16 (x_X1_commits l D cI cZ cQ cJ a S hok) (cwV 0 E.2.2.2.1 gL_acts_X1_commits rfl rfl rfl (by decide +kernel) ⟨Nat.le_of_ble_eq_true rfl, Nat.le_of_ble_eq_true rfl⟩) 8 rfl rfl rfl (fun H h => subR H h) rfl rfl ⟨(by show _ ≤ 1002; omega), (by show _ ≤ 6012; omega)⟩ (Nat.le_of_ble_eq_true rfl) ?_
  refine v_istore E dL_acts_19 (by decide) rfl ?_
  refine v_iconst E dL_acts_21 (v := nI 1) rfl ?_
  refine v_iload E dL_acts_22 13 rfl ?_
  refine v_bipush E dL_acts_24 (v := nI 16) rfl ?_
  refine v_cSi' E dL_acts_26 (x_L_low l D cI cZ cQ cJ ((u1)) (16) (by omega) (by omega)) (va_cwS 2 E.2.2.2.1 gL_acts_L_low rfl rfl rfl (by decide +kernel) ⟨Nat.le_of_ble_eq_true rfl, Nat.le_of_ble_eq_true rfl⟩) (fun _ _ => v_nil _) rfl rfl ⟨(by show _ ≤ 1002; omega), (by show _ ≤ 6012; omega)⟩ (Nat.le_of_ble_eq_true rfl) ?_
  refine v_ishl E dL_acts_29 (n_shl1 (by omega)) ?_
  refine v_iconst E dL_acts_30 (v := nI 1) rfl ?_
  refine v_iload E dL_acts_31 13 rfl ?_
  refine v_iconst E dL_acts_33 (v := nI 4) rfl ?_
  refine v_ishr E dL_acts_34 (z := ((u1 >>> (nI (4) &&& 31)))) rfl ?_
  refine v_bipush E dL_acts_35 (v := nI 6) rfl ?_
  refine v_cSi' E dL_acts_37 (x_L_low l D cI cZ cQ cJ (((u1 >>> (nI (4) &&& 31)))) (6) (by omega) (by omega)) (va_cwS 2 E.2.2.2.1 gL_acts_L_low rfl rfl rfl (by decide +kernel) ⟨Nat.le_of_ble_eq_true rfl, Nat.le_of_ble_eq_true rfl⟩) (fun _ _ => v_nil _) rfl rfl ⟨(by show _ ≤ 1002; omega), (by show _ ≤ 6012; omega)⟩ (Nat.le_of_ble_eq_true rfl) ?_
  refine v_ishl E dL_acts_40 (n_shl1 (by omega)) ?_
  refine v_ior E dL_acts_41 (nx_or _ _) ?_
  refine v_iload E dL_acts_42 13 rfl ?_
  refine v_bipush E dL_acts_44 (v := nI 8) rfl ?_
  refine v_ishr E dL_acts_46 (z := ((u1 >>> (nI (8) &&& 31)))) rfl ?_
  refine v_iconst E dL_acts_47 (v := nI 3) rfl ?_
  refine v_cSi' E dL_acts_48 (x_L_low l D cI cZ cQ cJ (((u1 >>> (nI (8) &&& 31)))) (3) (by omega) (by omega)) (va_cwS 2 E.2.2.2.1 gL_acts_L_low rfl rfl rfl (by decide +kernel) ⟨Nat.le_of_ble_eq_true rfl, Nat.le_of_ble_eq_true rfl⟩) (fun _ _ => v_nil _) rfl rfl ⟨(by show _ ≤ 1002; omega), (by show _ ≤ 6012; omega)⟩ (Nat.le_of_ble_eq_true rfl) ?_
  have J70_1 : V p9 l e9 (headSpec wsL_acts { frames := 10, cells := 1002, slots := 6012, locals := 193 }).room s9 m9 as9 bl9 me9 cd9 (0) (0) (vx_MQ bl9 (v_Qo D (wTy cI cZ cQ cJ) (0 = 0) (some (.int (nI 1))) ((wA cI bx (z_U ((zs_no (zs_wi (zs_li S e1) e2) e3))) (z_C ((zs_no (zs_wi (zs_li S e1) e2) e3))) (z_D ((zs_no (zs_wi (zs_li S e1) e2) e3))) (g9 ((zs_no (zs_wi (zs_li S e1) e2) e3))) (z_B ((zs_no (zs_wi (zs_li S e1) e2) e3))) (f9 ((zs_no (zs_wi (zs_li S e1) e2) e3))) qf (n9 (z_no ((zs_no (zs_wi (zs_li S e1) e2) e3))) (z_li ((zs_no (zs_wi (zs_li S e1) e2) e3))) (z_wi ((zs_no (zs_wi (zs_li S e1) e2) e3))) (z_bu ((zs_no (zs_wi (zs_li S e1) e2) e3))) (z_qn ((zs_no (zs_wi (zs_li S e1) e2) e3))))) ++ wX cI cZ cQ a ((zs_no (zs_wi (zs_li S e1) e2) e3))) A) (v_XC D (wTy cI cZ cQ cJ) 0 exI ((wA cI bx (z_U S) (z_C S) (z_D S) (g9 S) (z_B S) (f9 S) qf (n9 (z_no S) (z_li S) (z_wi S) (z_bu S) (z_qn S))) ++ wX cI cZ cQ a S) A) as9 s9 1002 6012 A) (v_rw D A s9) 20 70 [(13, .int (nI (z_nc S))), (12, .int (nI (z_nt S))), (11, .int (nI (kd))), (0, .ref (a 0)), (1, .ref (bx 0)), (2, .ref (bx 1)), (3, .ref (bx 2)), (4, .ref (bx 3)), (5, .ref (bx 4)), (6, .ref (bx 5)), (7, .ref (bx 6)), (8, .ref (bx 7)), (9, .int (u0)), (10, .int (u1))] [.int (nI ((if lo9 (u1 >>> (nI (8) &&& 31)) % 3 = 0 then 2 ^ (lo9 (u1 >>> (nI (10) &&& 31)) % 16) else 0))), .int (nI ((2 ^ (lo9 ((u1)) % 16)) ||| (2 ^ (lo9 (((u1 >>> (nI (4) &&& 31)))) % 6))))] ((wA cI bx (z_U S) (z_C S) (z_D S) (g9 S) (z_B S) (f9 S) qf (n9 (z_no S) (z_li S) (z_wi S) (z_bu S) (z_qn S))) ++ wX cI cZ cQ a S) := by
    refine v_ior E dL_acts_70 (nx_or _ _) ?_
    refine v_top (y := nI (v)) (congrArg nI est) ?_
    refine v_istore E dL_acts_71 (by decide) rfl ?_
    refine v_iload E dL_acts_73 3 rfl ?_
    refine n_if_eq E dL_acts_75 (by omega) (tgt := 83) (by decide) (fun c75 => ?_) (fun c75 => ?_)
    · exact absurd c75 (by omega)
    · refine v_iload E dL_acts_78 2 rfl ?_
      refine n_if_ne E dL_acts_80 (by omega) (tgt := 142) (by decide) (fun c80 => ?_) (fun c80 => ?_)
      · refine v_iload E dL_acts_142 3 rfl ?_
        refine v_bipush E dL_acts_144 (v := nI 6) rfl ?_
        refine n_icmp_lt E dL_acts_146 (by omega) (by omega) (tgt := 154) (by decide) (fun c146 => ?_) (fun c146 => ?_)
        · exact absurd c146 (by omega)
        · refine v_iload E dL_acts_149 1 rfl ?_
          refine n_if_ne E dL_acts_151 (by omega) (tgt := 206) (by decide) (fun c151 => ?_) (fun c151 => ?_)
          · refine v_iload E dL_acts_206 13 rfl ?_
            refine v_iconst E dL_acts_208 (v := nI 5) rfl ?_
            refine v_ishr E dL_acts_209 (z := ((u0 >>> (nI (5) &&& 31)))) rfl ?_
            refine v_iload E dL_acts_210 2 rfl ?_
            refine v_cSi' E dL_acts_212 (x_L_low l D cI cZ cQ cJ (((u0 >>> (nI (5) &&& 31)))) (z_nt S) (by omega) (by omega)) (va_cwS 2 E.2.2.2.1 gL_acts_L_low rfl rfl rfl (by decide +kernel) ⟨Nat.le_of_ble_eq_true rfl, Nat.le_of_ble_eq_true rfl⟩) (fun _ _ => v_nil _) rfl rfl ⟨(by show _ ≤ 1002; omega), (by show _ ≤ 6012; omega)⟩ (Nat.le_of_ble_eq_true rfl) ?_
            refine v_top (y := nI (t)) (congrArg nI et) ?_
            refine v_istore E dL_acts_215 (by decide) rfl ?_
            refine v_iload E dL_acts_217 15 rfl ?_
            refine v_iload E dL_acts_219 2 rfl ?_
            refine v_cSi' E dL_acts_221 (x_L_low l D cI cZ cQ cJ ((u1)) (z_nc S) (by omega) (by omega)) (va_cwS 2 E.2.2.2.1 gL_acts_L_low rfl rfl rfl (by decide +kernel) ⟨Nat.le_of_ble_eq_true rfl, Nat.le_of_ble_eq_true rfl⟩) (fun _ _ => v_nil _) rfl rfl ⟨(by show _ ≤ 1002; omega), (by show _ ≤ 6012; omega)⟩ (Nat.le_of_ble_eq_true rfl) ?_
            refine v_top (y := nI (c)) (congrArg nI ec) ?_
            refine v_istore E dL_acts_224 (by decide) rfl ?_
            refine v_iload E dL_acts_226 5 rfl ?_
            refine v_bipush E dL_acts_228 (v := nI 6) rfl ?_
            refine n_icmp_ne E dL_acts_230 (by omega) (by omega) (tgt := 317) (by decide) (fun c230 => ?_) (fun c230 => ?_)
            · refine v_iload E dL_acts_317 5 rfl ?_
              refine v_bipush E dL_acts_319 (v := nI 7) rfl ?_
              refine n_icmp_ne E dL_acts_321 (by omega) (by omega) (tgt := 455) (by decide) (fun c321 => ?_) (fun c321 => ?_)
              · exact absurd c321 (by omega)
              · refine v_aload E dL_acts_324 14 rfl ?_
                refine v_iconst E dL_acts_326 (v := nI 1) rfl ?_
                refine v_iconst E dL_acts_327 (v := nI 1) rfl ?_
                refine v_iload E dL_acts_328 16 rfl ?_
                refine v_iconst E dL_acts_330 (v := nI 3) rfl ?_
                refine v_cSi' E dL_acts_331 (x_L_low l D cI cZ cQ cJ ((u1)) (3) (by omega) (by omega)) (va_cwS 2 E.2.2.2.1 gL_acts_L_low rfl rfl rfl (by decide +kernel) ⟨Nat.le_of_ble_eq_true rfl, Nat.le_of_ble_eq_true rfl⟩) (fun _ _ => v_nil _) rfl rfl ⟨(by show _ ≤ 1002; omega), (by show _ ≤ 6012; omega)⟩ (Nat.le_of_ble_eq_true rfl) ?_
                refine v_iadd E dL_acts_334 (nI_add _ _) ?_
                refine v_top (y := nI (e1)) (congrArg nI he1) ?_
                refine v_iast E dL_acts_335 7 0 rfl rfl (by omega) (by decide) (w' := ((wA cI bx (z_U S) (z_C S) (z_D S) (g9 S) (z_B S) (f9 S) qf (n9 (z_no S) e1 (z_wi S) (z_bu S) (z_qn S))) ++ wX cI cZ cQ a S)) (wA_n1 _) ?_
                refine v_aload E dL_acts_336 14 rfl ?_
                refine v_iconst E dL_acts_338 (v := nI 2) rfl ?_
                refine v_iconst E dL_acts_339 (v := nI 1) rfl ?_
                refine v_iload E dL_acts_340 16 rfl ?_
                refine v_iconst E dL_acts_342 (v := nI 3) rfl ?_
                refine v_ishr E dL_acts_343 (z := ((u1 >>> (nI (3) &&& 31)))) rfl ?_
                refine v_iload E dL_acts_344 16 rfl ?_
                refine v_bipush E dL_acts_346 (v := nI 9) rfl ?_
                refine v_ishr E dL_acts_348 (z := ((u1 >>> (nI (9) &&& 31)))) rfl ?_
                refine v_iconst E dL_acts_349 (v := nI 2) rfl ?_
                refine v_cSi' E dL_acts_350 (x_L_low l D cI cZ cQ cJ (((u1 >>> (nI (9) &&& 31)))) (2) (by omega) (by omega)) (va_cwS 2 E.2.2.2.1 gL_acts_L_low rfl rfl rfl (by decide +kernel) ⟨Nat.le_of_ble_eq_true rfl, Nat.le_of_ble_eq_true rfl⟩) (fun _ _ => v_nil _) rfl rfl ⟨(by show _ ≤ 1002; omega), (by show _ ≤ 6012; omega)⟩ (Nat.le_of_ble_eq_true rfl) ?_
                have J363_2 : V p9 l e9 (headSpec wsL_acts { frames := 10, cells := 1002, slots := 6012, locals := 193 }).room s9 m9 as9 bl9 me9 cd9 (0) (0) (vx_MQ bl9 (v_Qo D (wTy cI cZ cQ cJ) (0 = 0) (some (.int (nI 1))) ((wA cI bx (z_U ((zs_no (zs_wi (zs_li S e1) e2) e3))) (z_C ((zs_no (zs_wi (zs_li S e1) e2) e3))) (z_D ((zs_no (zs_wi (zs_li S e1) e2) e3))) (g9 ((zs_no (zs_wi (zs_li S e1) e2) e3))) (z_B ((zs_no (zs_wi (zs_li S e1) e2) e3))) (f9 ((zs_no (zs_wi (zs_li S e1) e2) e3))) qf (n9 (z_no ((zs_no (zs_wi (zs_li S e1) e2) e3))) (z_li ((zs_no (zs_wi (zs_li S e1) e2) e3))) (z_wi ((zs_no (zs_wi (zs_li S e1) e2) e3))) (z_bu ((zs_no (zs_wi (zs_li S e1) e2) e3))) (z_qn ((zs_no (zs_wi (zs_li S e1) e2) e3))))) ++ wX cI cZ cQ a ((zs_no (zs_wi (zs_li S e1) e2) e3))) A) (v_XC D (wTy cI cZ cQ cJ) 0 exI ((wA cI bx (z_U S) (z_C S) (z_D S) (g9 S) (z_B S) (f9 S) qf (n9 (z_no S) (z_li S) (z_wi S) (z_bu S) (z_qn S))) ++ wX cI cZ cQ a S) A) as9 s9 1002 6012 A) (v_rw D A s9) 20 363 [(16, .int (nI (c))), (15, .int (nI (t))), (14, .int (nI (v))), (13, .int (nI (z_nc S))), (12, .int (nI (z_nt S))), (11, .int (nI (kd))), (0, .ref (a 0)), (1, .ref (bx 0)), (2, .ref (bx 1)), (3, .ref (bx 2)), (4, .ref (bx 3)), (5, .ref (bx 4)), (6, .ref (bx 5)), (7, .ref (bx 6)), (8, .ref (bx 7)), (9, .int (u0)), (10, .int (u1))] [.int (nI (e5)), .int ((u1 >>> (nI (3) &&& 31))), .int (nI (1)), .int (nI (2)), .ref (bx 7)] ((wA cI bx (z_U S) (z_C S) (z_D S) (g9 S) (z_B S) (f9 S) qf (n9 (z_no S) e1 (z_wi S) (z_bu S) (z_qn S))) ++ wX cI cZ cQ a S) := by
                  refine v_cSi' E dL_acts_363 (x_L_low l D cI cZ cQ cJ (((u1 >>> (nI (3) &&& 31)))) (e5) (by omega) (by omega)) (va_cwS 2 E.2.2.2.1 gL_acts_L_low rfl rfl rfl (by decide +kernel) ⟨Nat.le_of_ble_eq_true rfl, Nat.le_of_ble_eq_true rfl⟩) (fun _ _ => v_nil _) rfl rfl ⟨(by show _ ≤ 1002; omega), (by show _ ≤ 6012; omega)⟩ (Nat.le_of_ble_eq_true rfl) ?_
                  refine v_iadd E dL_acts_366 (nI_add _ _) ?_
                  refine v_top (y := nI (e2)) (congrArg nI he2) ?_
                  refine v_iast E dL_acts_367 7 0 rfl rfl (by omega) (by decide) (w' := ((wA cI bx (z_U S) (z_C S) (z_D S) (g9 S) (z_B S) (f9 S) qf (n9 (z_no S) e1 e2 (z_bu S) (z_qn S))) ++ wX cI cZ cQ a S)) (wA_n2 _) ?_
                  refine v_aload E dL_acts_368 14 rfl ?_
                  refine v_iconst E dL_acts_370 (v := nI 0) rfl ?_
                  refine v_iald E dL_acts_371 (v := nI (z_no S)) 7 0 rfl rfl (by omega) (by decide) rfl ?_
                  refine v_istore E dL_acts_372 (by decide) rfl ?_
                  refine v_aload E dL_acts_374 15 rfl ?_
                  refine v_iconst E dL_acts_376 (v := nI 0) rfl ?_
                  refine v_iload E dL_acts_377 17 rfl ?_
                  refine v_bipush E dL_acts_379 (v := nI 10) rfl ?_
                  refine v_ishr E dL_acts_381 (z := ((u1 >>> (nI (10) &&& 31)))) rfl ?_
                  refine v_iconst E dL_acts_382 (v := nI 4) rfl ?_
                  refine v_cSi' E dL_acts_383 (x_L_low l D cI cZ cQ cJ (((u1 >>> (nI (10) &&& 31)))) (4) (by omega) (by omega)) (va_cwS 2 E.2.2.2.1 gL_acts_L_low rfl rfl rfl (by decide +kernel) ⟨Nat.le_of_ble_eq_true rfl, Nat.le_of_ble_eq_true rfl⟩) (fun _ _ => v_nil _) rfl rfl ⟨(by show _ ≤ 1002; omega), (by show _ ≤ 6012; omega)⟩ (Nat.le_of_ble_eq_true rfl) ?_
                  refine v_top (y := nI (e3)) (congrArg nI he3) ?_
                  refine v_iast E dL_acts_386 7 0 rfl rfl (by omega) (by decide) (w' := ((wA cI bx (z_U S) (z_C S) (z_D S) (g9 S) (z_B S) (f9 S) qf (n9 e3 e1 e2 (z_bu S) (z_qn S))) ++ wX cI cZ cQ a S)) (wA_n0 _) ?_
                  refine v_aload_n E dL_acts_387 7 rfl rfl ?_
                  refine v_aload E dL_acts_388 15 rfl ?_
                  refine v_iconst E dL_acts_390 (v := nI 1) rfl ?_
                  refine v_iald E dL_acts_391 (v := nI (e1)) 7 0 rfl rfl (by omega) (by decide) rfl ?_
                  refine v_aload E dL_acts_392 15 rfl ?_
                  refine v_iconst E dL_acts_394 (v := nI 2) rfl ?_
                  refine v_iald E dL_acts_395 (v := nI (e2)) 7 0 rfl rfl (by omega) (by decide) rfl ?_
                  refine x_cSn E hA hTx dL_acts_396 (l_setQuarantine0 l D cI cZ cQ cJ a S hok hl (wA cI bx (z_U S) (z_C S) (z_D S) (g9 S) (z_B S) (f9 S) qf (n9 e3 e1 e2 (z_bu S) (z_qn S))) e1 e2 (by omega) (by omega) (by omega) he2b) (vx_cwSW 3 E.2.2.2.1 gL_acts_L_setQuarantine rfl rfl rfl (by decide +kernel) ⟨Nat.le_of_ble_eq_true rfl, Nat.le_of_ble_eq_true rfl⟩) rfl rfl ⟨(by show _ ≤ 1002; omega), (by show _ ≤ 6012; omega)⟩ (Nat.le_of_ble_eq_true rfl) ?_
                  refine n_if_ne E dL_acts_399 (by omega) (tgt := 453) (by decide) (fun c399 => ?_) (fun c399 => ?_)
                  · exact absurd c399 (by omega)
                  · refine v_aload_n E dL_acts_402 7 rfl rfl ?_
                    refine v_aload E dL_acts_403 15 rfl ?_
                    refine v_iconst E dL_acts_405 (v := nI 0) rfl ?_
                    refine v_iald E dL_acts_406 (v := nI (e3)) 7 0 rfl rfl (by omega) (by decide) rfl ?_
                    refine x_cSn E hA hTx dL_acts_407 (l_setNoise0 l D cI cZ cQ cJ a ((zs_wi (zs_li S (e1)) (e2))) (zOK_qua hok (by omega) (by omega) (by omega) he2b) hl (wA cI bx (z_U S) (z_C S) (z_D S) (g9 S) (z_B S) (f9 S) qf (n9 e3 e1 e2 (z_bu S) (z_qn S))) e3 (by omega)) (vx_cwSW 2 E.2.2.2.1 gL_acts_L_setNoise rfl rfl rfl (by decide +kernel) ⟨Nat.le_of_ble_eq_true rfl, Nat.le_of_ble_eq_true rfl⟩) rfl rfl ⟨(by show _ ≤ 1002; omega), (by show _ ≤ 6012; omega)⟩ (Nat.le_of_ble_eq_true rfl) ?_
                    refine v_iload E dL_acts_410 0 rfl ?_
                    refine v_icmp_ne E dL_acts_412 (tgt := 453) (by decide) (fun c412 => ?_) (fun c412 => ?_)
                    · exact absurd rfl c412
                    · refine v_aload_n E dL_acts_415 7 rfl rfl ?_
                      refine v_iconst E dL_acts_416 (v := nI 0) rfl ?_
                      refine v_iconst E dL_acts_417 (v := nI 1) rfl ?_
                      refine x_cSn E hA hTx dL_acts_418 (l_setQuarantineX l D cI cZ cQ cJ a ((zs_no ((zs_wi (zs_li S (e1)) (e2))) (e3))) (zOK_no (zOK_qua hok (by omega) (by omega) (by omega) he2b) (by omega)) hl (wA cI bx (z_U S) (z_C S) (z_D S) (g9 S) (z_B S) (f9 S) qf (n9 e3 e1 e2 (z_bu S) (z_qn S)))  ) (vx_cwSW 3 E.2.2.2.1 gL_acts_L_setQuarantine rfl rfl rfl (by decide +kernel) ⟨Nat.le_of_ble_eq_true rfl, Nat.le_of_ble_eq_true rfl⟩) rfl rfl ⟨(by show _ ≤ 1002; omega), (by show _ ≤ 6012; omega)⟩ (Nat.le_of_ble_eq_true rfl) ?_
                      refine v_ldc E dL_acts_421 (v := -1000002) (x := (-1000002)) (by decide +kernel) rfl ?_
                      refine v_icmp_ne E dL_acts_423 (tgt := 453) (by decide) (fun c423 => ?_) (fun c423 => ?_)
                      · exact absurd rfl c423
                      · refine v_aload_n E dL_acts_426 7 rfl rfl ?_
                        refine v_iconst E dL_acts_427 (v := nI 1) rfl ?_
                        refine v_bipush E dL_acts_428 (v := nI 41) rfl ?_
                        refine x_cSn E hA hTx dL_acts_430 (l_setQuarantineY l D cI cZ cQ cJ a ((zs_no ((zs_wi (zs_li S (e1)) (e2))) (e3))) (zOK_no (zOK_qua hok (by omega) (by omega) (by omega) he2b) (by omega)) hl (wA cI bx (z_U S) (z_C S) (z_D S) (g9 S) (z_B S) (f9 S) qf (n9 e3 e1 e2 (z_bu S) (z_qn S)))  ) (vx_cwSW 3 E.2.2.2.1 gL_acts_L_setQuarantine rfl rfl rfl (by decide +kernel) ⟨Nat.le_of_ble_eq_true rfl, Nat.le_of_ble_eq_true rfl⟩) rfl rfl ⟨(by show _ ≤ 1002; omega), (by show _ ≤ 6012; omega)⟩ (Nat.le_of_ble_eq_true rfl) ?_
                        refine v_ldc E dL_acts_433 (v := -1000002) (x := (-1000002)) (by decide +kernel) rfl ?_
                        refine v_icmp_ne E dL_acts_435 (tgt := 453) (by decide) (fun c435 => ?_) (fun c435 => ?_)
                        · exact absurd rfl c435
                        · refine v_aload_n E dL_acts_438 7 rfl rfl ?_
                          refine v_bipush E dL_acts_439 (v := nI 21) rfl ?_
                          refine x_cSn E hA hTx dL_acts_441 (l_setNoiseX l D cI cZ cQ cJ a ((zs_no ((zs_wi (zs_li S (e1)) (e2))) (e3))) (zOK_no (zOK_qua hok (by omega) (by omega) (by omega) he2b) (by omega)) hl (wA cI bx (z_U S) (z_C S) (z_D S) (g9 S) (z_B S) (f9 S) qf (n9 e3 e1 e2 (z_bu S) (z_qn S)))  ) (vx_cwSW 2 E.2.2.2.1 gL_acts_L_setNoise rfl rfl rfl (by decide +kernel) ⟨Nat.le_of_ble_eq_true rfl, Nat.le_of_ble_eq_true rfl⟩) rfl rfl ⟨(by show _ ≤ 1002; omega), (by show _ ≤ 6012; omega)⟩ (Nat.le_of_ble_eq_true rfl) ?_
                          refine v_ldc E dL_acts_444 (v := -1000002) (x := (-1000002)) (by decide +kernel) rfl ?_
                          refine v_icmp_ne E dL_acts_446 (tgt := 453) (by decide) (fun c446 => ?_) (fun c446 => ?_)
                          · exact absurd rfl c446
                          · refine v_iconst E dL_acts_449 (v := nI 1) rfl ?_
                            refine v_goto E dL_acts_450 (tgt := 454) (by decide) ?_
                            exact y_retz E hr rfl rfl rfl rfl (by omega) (by omega) dL_acts_454
                refine n_if_ne E dL_acts_353 (by omega) (tgt := 361) (by decide) (fun c353 => ?_) (fun c353 => ?_)
                · refine v_bipush E dL_acts_361 (v := nI 6) rfl ?_
                  refine v_top (y := nI (e5)) (by rw [← he5, if_neg (by omega)]) ?_
                  exact J363_2
                · refine v_bipush E dL_acts_356 (v := nI 40) rfl ?_
                  refine v_goto E dL_acts_358 (tgt := 363) (by decide) ?_
                  refine v_top (y := nI (e5)) (by rw [← he5, if_pos c353]) ?_
                  exact J363_2
            · exact absurd c230 (by omega)
          · exact absurd c151 (by omega)
      · exact absurd c80 (by omega)
  refine n_if_ne E dL_acts_51 (by omega) (tgt := 69) (by decide) (fun c51 => ?_) (fun c51 => ?_)
  · refine v_iconst E dL_acts_69 (v := nI 0) rfl ?_
    refine v_top (y := nI ((if lo9 (u1 >>> (nI (8) &&& 31)) % 3 = 0 then 2 ^ (lo9 (u1 >>> (nI (10) &&& 31)) % 16) else 0))) (by rw [if_neg (by omega)]) ?_
    exact J70_1
  · refine v_iconst E dL_acts_54 (v := nI 1) rfl ?_
    refine v_iload E dL_acts_55 13 rfl ?_
    refine v_bipush E dL_acts_57 (v := nI 10) rfl ?_
    refine v_ishr E dL_acts_59 (z := ((u1 >>> (nI (10) &&& 31)))) rfl ?_
    refine v_bipush E dL_acts_60 (v := nI 16) rfl ?_
    refine v_cSi' E dL_acts_62 (x_L_low l D cI cZ cQ cJ (((u1 >>> (nI (10) &&& 31)))) (16) (by omega) (by omega)) (va_cwS 2 E.2.2.2.1 gL_acts_L_low rfl rfl rfl (by decide +kernel) ⟨Nat.le_of_ble_eq_true rfl, Nat.le_of_ble_eq_true rfl⟩) (fun _ _ => v_nil _) rfl rfl ⟨(by show _ ≤ 1002; omega), (by show _ ≤ 6012; omega)⟩ (Nat.le_of_ble_eq_true rfl) ?_
    refine v_ishl E dL_acts_65 (n_shl1 (by omega)) ?_
    refine v_goto E dL_acts_66 (tgt := 70) (by decide) ?_
    refine v_top (y := nI ((if lo9 (u1 >>> (nI (8) &&& 31)) % 3 = 0 then 2 ^ (lo9 (u1 >>> (nI (10) &&& 31)) % 16) else 0))) (by rw [if_pos c51]) ?_
    exact J70_1
set_option maxHeartbeats 8000000 in
set_option maxRecDepth 100000 in
theorem z_acts_H (l : Launch) (D : va_G) (cI cZ cQ cJ : ClassId) (a bx : Nat → Nat) (S : zS) (hok : zOK S) (hl : l.stackTraces = false) (qf : Nat → Nat) (u0 u1 : Int32) (kd v : Nat) (t c : Nat) (e1 : Nat) (ekd : lo9 u0 % 24 = kd) (est : st9 u1 = v)(et : lo9 (u0 >>> (nI (5) &&& 31)) % z_nt S = t) (ec : lo9 u1 % z_nc S = c) (hnt : 0 < z_nt S) (hnc : 0 < z_nc S)(hkd6 : kd = 13) (he1 : lo9 u1 % 5 = e1) : v_Thr l yL_acts wsL_acts { frames := 10, cells := 1002, slots := 6012, locals := 193 } D (wTy cI cZ cQ cJ) [.ref (a 0), .ref (bx 0), .ref (bx 1), .ref (bx 2), .ref (bx 3), .ref (bx 4), .ref (bx 5), .ref (bx 6), .ref (bx 7), .int (u0), .int (u1)] ((wA cI bx (z_U S) (z_C S) (z_D S) (g9 S) (z_B S) (f9 S) qf (n9 (z_no S) (z_li S) (z_wi S) (z_bu S) (z_qn S))) ++ wX cI cZ cQ a S) 0 exI (some (.int (nI 1))) ((wA cI bx (z_U ((zs_bu S e1))) (z_C ((zs_bu S e1))) (z_D ((zs_bu S e1))) (g9 ((zs_bu S e1))) (z_B ((zs_bu S e1))) (f9 ((zs_bu S e1))) qf (n9 (z_no ((zs_bu S e1))) (z_li ((zs_bu S e1))) (z_wi ((zs_bu S e1))) (z_bu ((zs_bu S e1))) (z_qn ((zs_bu S e1))))) ++ wX cI cZ cQ a ((zs_bu S e1))) 1002 6012 := by
  refine v_thrower (cc := cL_acts) (maxL := 20) (ret := (some .boolean)) (own := RL) (lv0 := [(0, .ref (a 0)), (1, .ref (bx 0)), (2, .ref (bx 1)), (3, .ref (bx 2)), (4, .ref (bx 3)), (5, .ref (bx 4)), (6, .ref (bx 5)), (7, .ref (bx 6)), (8, .ref (bx 7)), (9, .int (u0)), (10, .int (u1))]) (by decide) rfl rfl (Nat.le_of_ble_eq_true rfl) rfl ?_
  intro p9 e9 s9 m9 as9 bl9 me9 cd9 A E hA htab hTx hr
  have hn1 := hok.1.1
  have hn2 := hok.1.2.1
  have hkd : kd < 24 := by rw [← ekd]; exact Nat.mod_lt _ (by decide)
  have hv : v < 65536 := by rw [← est]; exact st9_lt u1
  have hqn := zqn_le hok
  have ht : t < z_nt S := by rw [← et]; exact Nat.mod_lt _ hnt
  have hc : c < z_nc S := by rw [← ec]; exact Nat.mod_lt _ hnc
  refine v_iload E dL_acts_0 9 rfl ?_
  refine v_bipush E dL_acts_2 (v := nI 24) rfl ?_
  refine v_cSi' E dL_acts_4 (x_L_low l D cI cZ cQ cJ ((u0)) (24) (by omega) (by omega)) (va_cwS 2 E.2.2.2.1 gL_acts_L_low rfl rfl rfl (by decide +kernel) ⟨Nat.le_of_ble_eq_true rfl, Nat.le_of_ble_eq_true rfl⟩) (fun _ _ => v_nil _) rfl rfl ⟨(by show _ ≤ 1002; omega), (by show _ ≤ 6012; omega)⟩ (Nat.le_of_ble_eq_true rfl) ?_
  refine v_top (y := nI (kd)) (congrArg nI ekd) ?_
  refine v_istore E dL_acts_7 (by decide) rfl ?_
  refine v_aload_n E dL_acts_9 1 rfl rfl ?_
  refine v_cVi' E dL_acts_10 (x_X1_tests l D cI cZ cQ cJ a S hok) (cwV 0 E.2.2.2.1 gL_acts_X1_tests rfl rfl rfl (by decide +kernel) ⟨Nat.le_of_ble_eq_true rfl, Nat.le_of_ble_eq_true rfl⟩) 8 rfl rfl rfl (fun H h => subR H h) rfl rfl ⟨(by show _ ≤ 1002; omega), (by show _ ≤ 6012; omega)⟩ (Nat.le_of_ble_eq_true rfl) ?_
  refine v_istore E dL_acts_13 (by decide) rfl ?_
  refine v_aload_n E dL_acts_15 2 rfl rfl ?_
  refine v_cVi' E dL_acts_16 (x_X1_commits l D cI cZ cQ cJ a S hok) (cwV 0 E.2.2.2.1 gL_acts_X1_commits rfl rfl rfl (by decide +kernel) ⟨Nat.le_of_ble_eq_true rfl, Nat.le_of_ble_eq_true rfl⟩) 8 rfl rfl rfl (fun H h => subR H h) rfl rfl ⟨(by show _ ≤ 1002; omega), (by show _ ≤ 6012; omega)⟩ (Nat.le_of_ble_eq_true rfl) ?_
  refine v_istore E dL_acts_19 (by decide) rfl ?_
  refine v_iconst E dL_acts_21 (v := nI 1) rfl ?_
  refine v_iload E dL_acts_22 13 rfl ?_
  refine v_bipush E dL_acts_24 (v := nI 16) rfl ?_
  refine v_cSi' E dL_acts_26 (x_L_low l D cI cZ cQ cJ ((u1)) (16) (by omega) (by omega)) (va_cwS 2 E.2.2.2.1 gL_acts_L_low rfl rfl rfl (by decide +kernel) ⟨Nat.le_of_ble_eq_true rfl, Nat.le_of_ble_eq_true rfl⟩) (fun _ _ => v_nil _) rfl rfl ⟨(by show _ ≤ 1002; omega), (by show _ ≤ 6012; omega)⟩ (Nat.le_of_ble_eq_true rfl) ?_
  refine v_ishl E dL_acts_29 (n_shl1 (by omega)) ?_
  refine v_iconst E dL_acts_30 (v := nI 1) rfl ?_
  refine v_iload E dL_acts_31 13 rfl ?_
  refine v_iconst E dL_acts_33 (v := nI 4) rfl ?_
  refine v_ishr E dL_acts_34 (z := ((u1 >>> (nI (4) &&& 31)))) rfl ?_
  refine v_bipush E dL_acts_35 (v := nI 6) rfl ?_
  refine v_cSi' E dL_acts_37 (x_L_low l D cI cZ cQ cJ (((u1 >>> (nI (4) &&& 31)))) (6) (by omega) (by omega)) (va_cwS 2 E.2.2.2.1 gL_acts_L_low rfl rfl rfl (by decide +kernel) ⟨Nat.le_of_ble_eq_true rfl, Nat.le_of_ble_eq_true rfl⟩) (fun _ _ => v_nil _) rfl rfl ⟨(by show _ ≤ 1002; omega), (by show _ ≤ 6012; omega)⟩ (Nat.le_of_ble_eq_true rfl) ?_
  refine v_ishl E dL_acts_40 (n_shl1 (by omega)) ?_
  refine v_ior E dL_acts_41 (nx_or _ _) ?_
  refine v_iload E dL_acts_42 13 rfl ?_
  refine v_bipush E dL_acts_44 (v := nI 8) rfl ?_
  refine v_ishr E dL_acts_46 (z := ((u1 >>> (nI (8) &&& 31)))) rfl ?_
  refine v_iconst E dL_acts_47 (v := nI 3) rfl ?_
  refine v_cSi' E dL_acts_48 (x_L_low l D cI cZ cQ cJ (((u1 >>> (nI (8) &&& 31)))) (3) (by omega) (by omega)) (va_cwS 2 E.2.2.2.1 gL_acts_L_low rfl rfl rfl (by decide +kernel) ⟨Nat.le_of_ble_eq_true rfl, Nat.le_of_ble_eq_true rfl⟩) (fun _ _ => v_nil _) rfl rfl ⟨(by show _ ≤ 1002; omega), (by show _ ≤ 6012; omega)⟩ (Nat.le_of_ble_eq_true rfl) ?_
  have J70_1 : V p9 l e9 (headSpec wsL_acts { frames := 10, cells := 1002, slots := 6012, locals := 193 }).room s9 m9 as9 bl9 me9 cd9 (0) (0) (vx_MQ bl9 (v_Qo D (wTy cI cZ cQ cJ) (0 = 0) (some (.int (nI 1))) ((wA cI bx (z_U ((zs_bu S e1))) (z_C ((zs_bu S e1))) (z_D ((zs_bu S e1))) (g9 ((zs_bu S e1))) (z_B ((zs_bu S e1))) (f9 ((zs_bu S e1))) qf (n9 (z_no ((zs_bu S e1))) (z_li ((zs_bu S e1))) (z_wi ((zs_bu S e1))) (z_bu ((zs_bu S e1))) (z_qn ((zs_bu S e1))))) ++ wX cI cZ cQ a ((zs_bu S e1))) A) (v_XC D (wTy cI cZ cQ cJ) 0 exI ((wA cI bx (z_U S) (z_C S) (z_D S) (g9 S) (z_B S) (f9 S) qf (n9 (z_no S) (z_li S) (z_wi S) (z_bu S) (z_qn S))) ++ wX cI cZ cQ a S) A) as9 s9 1002 6012 A) (v_rw D A s9) 20 70 [(13, .int (nI (z_nc S))), (12, .int (nI (z_nt S))), (11, .int (nI (kd))), (0, .ref (a 0)), (1, .ref (bx 0)), (2, .ref (bx 1)), (3, .ref (bx 2)), (4, .ref (bx 3)), (5, .ref (bx 4)), (6, .ref (bx 5)), (7, .ref (bx 6)), (8, .ref (bx 7)), (9, .int (u0)), (10, .int (u1))] [.int (nI ((if lo9 (u1 >>> (nI (8) &&& 31)) % 3 = 0 then 2 ^ (lo9 (u1 >>> (nI (10) &&& 31)) % 16) else 0))), .int (nI ((2 ^ (lo9 ((u1)) % 16)) ||| (2 ^ (lo9 (((u1 >>> (nI (4) &&& 31)))) % 6))))] ((wA cI bx (z_U S) (z_C S) (z_D S) (g9 S) (z_B S) (f9 S) qf (n9 (z_no S) (z_li S) (z_wi S) (z_bu S) (z_qn S))) ++ wX cI cZ cQ a S) := by
    refine v_ior E dL_acts_70 (nx_or _ _) ?_
    refine v_top (y := nI (v)) (congrArg nI est) ?_
    refine v_istore E dL_acts_71 (by decide) rfl ?_
    refine v_iload E dL_acts_73 3 rfl ?_
    refine n_if_eq E dL_acts_75 (by omega) (tgt := 83) (by decide) (fun c75 => ?_) (fun c75 => ?_)
    · exact absurd c75 (by omega)
    · refine v_iload E dL_acts_78 2 rfl ?_
      refine n_if_ne E dL_acts_80 (by omega) (tgt := 142) (by decide) (fun c80 => ?_) (fun c80 => ?_)
      · refine v_iload E dL_acts_142 3 rfl ?_
        refine v_bipush E dL_acts_144 (v := nI 6) rfl ?_
        refine n_icmp_lt E dL_acts_146 (by omega) (by omega) (tgt := 154) (by decide) (fun c146 => ?_) (fun c146 => ?_)
        · exact absurd c146 (by omega)
        · refine v_iload E dL_acts_149 1 rfl ?_
          refine n_if_ne E dL_acts_151 (by omega) (tgt := 206) (by decide) (fun c151 => ?_) (fun c151 => ?_)
          · refine v_iload E dL_acts_206 13 rfl ?_
            refine v_iconst E dL_acts_208 (v := nI 5) rfl ?_
            refine v_ishr E dL_acts_209 (z := ((u0 >>> (nI (5) &&& 31)))) rfl ?_
            refine v_iload E dL_acts_210 2 rfl ?_
            refine v_cSi' E dL_acts_212 (x_L_low l D cI cZ cQ cJ (((u0 >>> (nI (5) &&& 31)))) (z_nt S) (by omega) (by omega)) (va_cwS 2 E.2.2.2.1 gL_acts_L_low rfl rfl rfl (by decide +kernel) ⟨Nat.le_of_ble_eq_true rfl, Nat.le_of_ble_eq_true rfl⟩) (fun _ _ => v_nil _) rfl rfl ⟨(by show _ ≤ 1002; omega), (by show _ ≤ 6012; omega)⟩ (Nat.le_of_ble_eq_true rfl) ?_
            refine v_top (y := nI (t)) (congrArg nI et) ?_
            refine v_istore E dL_acts_215 (by decide) rfl ?_
            refine v_iload E dL_acts_217 15 rfl ?_
            refine v_iload E dL_acts_219 2 rfl ?_
            refine v_cSi' E dL_acts_221 (x_L_low l D cI cZ cQ cJ ((u1)) (z_nc S) (by omega) (by omega)) (va_cwS 2 E.2.2.2.1 gL_acts_L_low rfl rfl rfl (by decide +kernel) ⟨Nat.le_of_ble_eq_true rfl, Nat.le_of_ble_eq_true rfl⟩) (fun _ _ => v_nil _) rfl rfl ⟨(by show _ ≤ 1002; omega), (by show _ ≤ 6012; omega)⟩ (Nat.le_of_ble_eq_true rfl) ?_
            refine v_top (y := nI (c)) (congrArg nI ec) ?_
            refine v_istore E dL_acts_224 (by decide) rfl ?_
            refine v_iload E dL_acts_226 5 rfl ?_
            refine v_bipush E dL_acts_228 (v := nI 6) rfl ?_
            refine n_icmp_ne E dL_acts_230 (by omega) (by omega) (tgt := 317) (by decide) (fun c230 => ?_) (fun c230 => ?_)
            · refine v_iload E dL_acts_317 5 rfl ?_
              refine v_bipush E dL_acts_319 (v := nI 7) rfl ?_
              refine n_icmp_ne E dL_acts_321 (by omega) (by omega) (tgt := 455) (by decide) (fun c321 => ?_) (fun c321 => ?_)
              · refine v_iload E dL_acts_455 5 rfl ?_
                refine v_bipush E dL_acts_457 (v := nI 10) rfl ?_
                refine n_icmp_ge E dL_acts_459 (by omega) (by omega) (tgt := 580) (by decide) (fun c459 => ?_) (fun c459 => ?_)
                · refine v_iload E dL_acts_580 5 rfl ?_
                  refine v_bipush E dL_acts_582 (v := nI 10) rfl ?_
                  refine n_icmp_ne E dL_acts_584 (by omega) (by omega) (tgt := 627) (by decide) (fun c584 => ?_) (fun c584 => ?_)
                  · refine v_iload E dL_acts_627 5 rfl ?_
                    refine v_bipush E dL_acts_629 (v := nI 13) rfl ?_
                    refine n_icmp_ge E dL_acts_631 (by omega) (by omega) (tgt := 743) (by decide) (fun c631 => ?_) (fun c631 => ?_)
                    · refine v_iload E dL_acts_743 5 rfl ?_
                      refine v_bipush E dL_acts_745 (v := nI 13) rfl ?_
                      refine n_icmp_ne E dL_acts_747 (by omega) (by omega) (tgt := 806) (by decide) (fun c747 => ?_) (fun c747 => ?_)
                      · exact absurd c747 (by omega)
                      · refine v_aload E dL_acts_750 14 rfl ?_
                        refine v_iconst E dL_acts_752 (v := nI 3) rfl ?_
                        refine v_iald E dL_acts_753 (v := nI (z_bu S)) 7 0 rfl rfl (by omega) (by decide) rfl ?_
                        refine v_istore E dL_acts_754 (by decide) rfl ?_
                        refine v_aload E dL_acts_756 15 rfl ?_
                        refine v_iconst E dL_acts_758 (v := nI 3) rfl ?_
                        refine v_iload E dL_acts_759 17 rfl ?_
                        refine v_iconst E dL_acts_761 (v := nI 5) rfl ?_
                        refine v_cSi' E dL_acts_762 (x_L_low l D cI cZ cQ cJ ((u1)) (5) (by omega) (by omega)) (va_cwS 2 E.2.2.2.1 gL_acts_L_low rfl rfl rfl (by decide +kernel) ⟨Nat.le_of_ble_eq_true rfl, Nat.le_of_ble_eq_true rfl⟩) (fun _ _ => v_nil _) rfl rfl ⟨(by show _ ≤ 1002; omega), (by show _ ≤ 6012; omega)⟩ (Nat.le_of_ble_eq_true rfl) ?_
                        refine v_top (y := nI (e1)) (congrArg nI he1) ?_
                        refine v_iast E dL_acts_765 7 0 rfl rfl (by omega) (by decide) (w' := ((wA cI bx (z_U S) (z_C S) (z_D S) (g9 S) (z_B S) (f9 S) qf (n9 (z_no S) (z_li S) (z_wi S) e1 (z_qn S))) ++ wX cI cZ cQ a S)) (wA_n3 _) ?_
                        refine v_aload_n E dL_acts_766 7 rfl rfl ?_
                        refine v_aload E dL_acts_767 15 rfl ?_
                        refine v_iconst E dL_acts_769 (v := nI 3) rfl ?_
                        refine v_iald E dL_acts_770 (v := nI (e1)) 7 0 rfl rfl (by omega) (by decide) rfl ?_
                        refine x_cSn E hA hTx dL_acts_771 (l_newDay0 l D cI cZ cQ cJ a S hok hl (wA cI bx (z_U S) (z_C S) (z_D S) (g9 S) (z_B S) (f9 S) qf (n9 (z_no S) (z_li S) (z_wi S) e1 (z_qn S))) e1 (by omega)) (vx_cwSW 2 E.2.2.2.1 gL_acts_L_newDay rfl rfl rfl (by decide +kernel) ⟨Nat.le_of_ble_eq_true rfl, Nat.le_of_ble_eq_true rfl⟩) rfl rfl ⟨(by show _ ≤ 1002; omega), (by show _ ≤ 6012; omega)⟩ (Nat.le_of_ble_eq_true rfl) ?_
                        refine v_iload E dL_acts_774 0 rfl ?_
                        refine v_icmp_ne E dL_acts_776 (tgt := 804) (by decide) (fun c776 => ?_) (fun c776 => ?_)
                        · exact absurd rfl c776
                        · refine v_aload_n E dL_acts_779 7 rfl rfl ?_
                          refine v_bipush E dL_acts_780 (v := nI 101) rfl ?_
                          refine x_cSn E hA hTx dL_acts_782 (l_newDayX l D cI cZ cQ cJ a ((zs_bu S (e1))) (zOK_bu hok (by omega)) hl (wA cI bx (z_U S) (z_C S) (z_D S) (g9 S) (z_B S) (f9 S) qf (n9 (z_no S) (z_li S) (z_wi S) e1 (z_qn S)))  ) (vx_cwSW 2 E.2.2.2.1 gL_acts_L_newDay rfl rfl rfl (by decide +kernel) ⟨Nat.le_of_ble_eq_true rfl, Nat.le_of_ble_eq_true rfl⟩) rfl rfl ⟨(by show _ ≤ 1002; omega), (by show _ ≤ 6012; omega)⟩ (Nat.le_of_ble_eq_true rfl) ?_
                          refine v_ldc E dL_acts_785 (v := -1000002) (x := (-1000002)) (by decide +kernel) rfl ?_
                          refine v_icmp_ne E dL_acts_787 (tgt := 804) (by decide) (fun c787 => ?_) (fun c787 => ?_)
                          · exact absurd rfl c787
                          · refine v_aload_n E dL_acts_790 7 rfl rfl ?_
                            refine v_iconst E dL_acts_791 (v := (-1)) rfl ?_
                            refine x_cSn E hA hTx dL_acts_792 (l_newDayM l D cI cZ cQ cJ a ((zs_bu S (e1))) (zOK_bu hok (by omega)) hl (wA cI bx (z_U S) (z_C S) (z_D S) (g9 S) (z_B S) (f9 S) qf (n9 (z_no S) (z_li S) (z_wi S) e1 (z_qn S)))  ) (vx_cwSW 2 E.2.2.2.1 gL_acts_L_newDay rfl rfl rfl (by decide +kernel) ⟨Nat.le_of_ble_eq_true rfl, Nat.le_of_ble_eq_true rfl⟩) rfl rfl ⟨(by show _ ≤ 1002; omega), (by show _ ≤ 6012; omega)⟩ (Nat.le_of_ble_eq_true rfl) ?_
                            refine v_ldc E dL_acts_795 (v := -1000002) (x := (-1000002)) (by decide +kernel) rfl ?_
                            refine v_icmp_ne E dL_acts_797 (tgt := 804) (by decide) (fun c797 => ?_) (fun c797 => ?_)
                            · exact absurd rfl c797
                            · refine v_iconst E dL_acts_800 (v := nI 1) rfl ?_
                              refine v_goto E dL_acts_801 (tgt := 805) (by decide) ?_
                              exact y_retz E hr rfl rfl rfl rfl (by omega) (by omega) dL_acts_805
                    · exact absurd c631 (by omega)
                  · exact absurd c584 (by omega)
                · exact absurd c459 (by omega)
              · exact absurd c321 (by omega)
            · exact absurd c230 (by omega)
          · exact absurd c151 (by omega)
      · exact absurd c80 (by omega)
  refine n_if_ne E dL_acts_51 (by omega) (tgt := 69) (by decide) (fun c51 => ?_) (fun c51 => ?_)
  · refine v_iconst E dL_acts_69 (v := nI 0) rfl ?_
    refine v_top (y := nI ((if lo9 (u1 >>> (nI (8) &&& 31)) % 3 = 0 then 2 ^ (lo9 (u1 >>> (nI (10) &&& 31)) % 16) else 0))) (by rw [if_neg (by omega)]) ?_
    exact J70_1
  · refine v_iconst E dL_acts_54 (v := nI 1) rfl ?_
    refine v_iload E dL_acts_55 13 rfl ?_
    refine v_bipush E dL_acts_57 (v := nI 10) rfl ?_
    refine v_ishr E dL_acts_59 (z := ((u1 >>> (nI (10) &&& 31)))) rfl ?_
    refine v_bipush E dL_acts_60 (v := nI 16) rfl ?_
    refine v_cSi' E dL_acts_62 (x_L_low l D cI cZ cQ cJ (((u1 >>> (nI (10) &&& 31)))) (16) (by omega) (by omega)) (va_cwS 2 E.2.2.2.1 gL_acts_L_low rfl rfl rfl (by decide +kernel) ⟨Nat.le_of_ble_eq_true rfl, Nat.le_of_ble_eq_true rfl⟩) (fun _ _ => v_nil _) rfl rfl ⟨(by show _ ≤ 1002; omega), (by show _ ≤ 6012; omega)⟩ (Nat.le_of_ble_eq_true rfl) ?_
    refine v_ishl E dL_acts_65 (n_shl1 (by omega)) ?_
    refine v_goto E dL_acts_66 (tgt := 70) (by decide) ?_
    refine v_top (y := nI ((if lo9 (u1 >>> (nI (8) &&& 31)) % 3 = 0 then 2 ^ (lo9 (u1 >>> (nI (10) &&& 31)) % 16) else 0))) (by rw [if_pos c51]) ?_
    exact J70_1
