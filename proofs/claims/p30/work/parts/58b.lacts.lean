/-! ===== the law: acts, tests and commits ===== -/
set_option maxHeartbeats 8000000 in
set_option maxRecDepth 100000 in
theorem z_acts_A (l : Launch) (D : va_G) (cI cZ cQ cJ : ClassId) (a bx : Nat → Nat) (S : zS) (hok : zOK S) (hl : l.stackTraces = false) (qf : Nat → Nat) (u0 u1 : Int32) (kd v : Nat) (ekd : lo9 u0 % 24 = kd) (est : st9 u1 = v)(hA : kd = 0 ∨ z_nt S = 0) (hlt : z_nt S < 12) : v_Thr l yL_acts wsL_acts { frames := 10, cells := 1002, slots := 6012, locals := 193 } D (wTy cI cZ cQ cJ) [.ref (a 0), .ref (bx 0), .ref (bx 1), .ref (bx 2), .ref (bx 3), .ref (bx 4), .ref (bx 5), .ref (bx 6), .ref (bx 7), .int (u0), .int (u1)] ((wA cI bx (z_U S) (z_C S) (z_D S) (g9 S) (z_B S) (f9 S) qf (n9 (z_no S) (z_li S) (z_wi S) (z_bu S) (z_qn S))) ++ wX cI cZ cQ a S) 0 exI (some (.int (nI 1))) ((wA cI bx (z_U ((sadT S v))) (z_C ((sadT S v))) (z_D ((sadT S v))) (g9 ((sadT S v))) (z_B ((sadT S v))) (f9 ((sadT S v))) qf (n9 (z_no ((sadT S v))) (z_li ((sadT S v))) (z_wi ((sadT S v))) (z_bu ((sadT S v))) (z_qn ((sadT S v))))) ++ wX cI cZ cQ a ((sadT S v))) 1002 6012 := by
  refine v_thrower (cc := cL_acts) (maxL := 20) (ret := (some .boolean)) (own := RL) (lv0 := [(0, .ref (a 0)), (1, .ref (bx 0)), (2, .ref (bx 1)), (3, .ref (bx 2)), (4, .ref (bx 3)), (5, .ref (bx 4)), (6, .ref (bx 5)), (7, .ref (bx 6)), (8, .ref (bx 7)), (9, .int (u0)), (10, .int (u1))]) (by decide) rfl rfl (Nat.le_of_ble_eq_true rfl) rfl ?_
  intro p9 e9 s9 m9 as9 bl9 me9 cd9 A E hA htab hTx hr
  have hn1 := hok.1.1
  have hn2 := hok.1.2.1
  have hkd : kd < 24 := by rw [← ekd]; exact Nat.mod_lt _ (by decide)
  have hv : v < 65536 := by rw [← est]; exact st9_lt u1
  have hqn := zqn_le hok
  refine v_iload E dL_acts_0 9 rfl ?_
  refine v_bipush E dL_acts_2 (v := nI 24) rfl ?_
  refine v_cSi' E dL_acts_4 (x_L_low l D cI cZ cQ cJ ((u0)) (24) (by omega) (by omega)) (va_cwS 2 E.2.2.2.1 gL_acts_L_low rfl rfl rfl (by decide +kernel) ⟨Nat.le_of_ble_eq_true rfl, Nat.le_of_ble_eq_true rfl⟩) (fun _ _ => v_nil _) rfl rfl ⟨(by show _ ≤ 1002; omega), (by show _ ≤ 6012; omega)⟩ (Nat.le_of_ble_eq_true rfl) ?_
  refine v_top (y := nI (kd)) (congrArg nI ekd) ?_
  refine v_istore E dL_acts_7 (by decide) rfl ?_
  refine v_aload_n E dL_acts_9 1 rfl rfl ?_
  refine v_cVi' E dL_acts_10 (x_X1_tests l D cI cZ cQ cJ a S hok) (cwV 0 E.2.2.2.1 gL_acts_X1_tests rfl rfl rfl (by decide +kernel) ⟨Nat.le_of_ble_eq_true rfl, Nat.le_of_ble_eq_true rfl⟩) 8 rfl rfl rfl (fun H h => subR H h) rfl rfl ⟨(by show _ ≤ 1002; omega), (by show _ ≤ 6012; omega)⟩ (Nat.le_of_ble_eq_true rfl) ?_
  refine v_istore E dL_acts_13 (by decide) rfl ?_
  refine v_aload_n E dL_acts_15 2 rfl rfl ?_
  refine v_cVi' E dL_acts_16 (x_X1_commits l D cI cZ cQ cJ a S hok) (cwV 0 E.2.2.2.1 gL_acts_X1_commits rfl rfl rfl (by decide +kernel) ⟨Nat.le_of_ble_eq_true rfl, Nat.le_of_ble_eq_true rfl⟩) 8 rfl rfl rfl (fun H h => subR H h) rfl rfl ⟨(by show _ ≤ 1002; omega), (by show _ ≤ 6012; omega)⟩ (Nat.le_of_ble_eq_true rfl) ?_
  refine v_istore E dL_acts_19 (by decide) rfl ?_
  refine v_iconst E dL_acts_21 (v := nI 1) rfl ?_
  refine v_iload E dL_acts_22 13 rfl ?_
  refine v_bipush E dL_acts_24 (v := nI 16) rfl ?_
  refine v_cSi' E dL_acts_26 (x_L_low l D cI cZ cQ cJ ((u1)) (16) (by omega) (by omega)) (va_cwS 2 E.2.2.2.1 gL_acts_L_low rfl rfl rfl (by decide +kernel) ⟨Nat.le_of_ble_eq_true rfl, Nat.le_of_ble_eq_true rfl⟩) (fun _ _ => v_nil _) rfl rfl ⟨(by show _ ≤ 1002; omega), (by show _ ≤ 6012; omega)⟩ (Nat.le_of_ble_eq_true rfl) ?_
  refine v_ishl E dL_acts_29 (n_shl1 (by omega)) ?_
  refine v_iconst E dL_acts_30 (v := nI 1) rfl ?_
  refine v_iload E dL_acts_31 13 rfl ?_
  refine v_iconst E dL_acts_33 (v := nI 4) rfl ?_
  refine v_ishr E dL_acts_34 (z := ((u1 >>> (nI (4) &&& 31)))) rfl ?_
  refine v_bipush E dL_acts_35 (v := nI 6) rfl ?_
  refine v_cSi' E dL_acts_37 (x_L_low l D cI cZ cQ cJ (((u1 >>> (nI (4) &&& 31)))) (6) (by omega) (by omega)) (va_cwS 2 E.2.2.2.1 gL_acts_L_low rfl rfl rfl (by decide +kernel) ⟨Nat.le_of_ble_eq_true rfl, Nat.le_of_ble_eq_true rfl⟩) (fun _ _ => v_nil _) rfl rfl ⟨(by show _ ≤ 1002; omega), (by show _ ≤ 6012; omega)⟩ (Nat.le_of_ble_eq_true rfl) ?_
  refine v_ishl E dL_acts_40 (n_shl1 (by omega)) ?_
  refine v_ior E dL_acts_41 (nx_or _ _) ?_
  refine v_iload E dL_acts_42 13 rfl ?_
  refine v_bipush E dL_acts_44 (v := nI 8) rfl ?_
  refine v_ishr E dL_acts_46 (z := ((u1 >>> (nI (8) &&& 31)))) rfl ?_
  refine v_iconst E dL_acts_47 (v := nI 3) rfl ?_
  refine v_cSi' E dL_acts_48 (x_L_low l D cI cZ cQ cJ (((u1 >>> (nI (8) &&& 31)))) (3) (by omega) (by omega)) (va_cwS 2 E.2.2.2.1 gL_acts_L_low rfl rfl rfl (by decide +kernel) ⟨Nat.le_of_ble_eq_true rfl, Nat.le_of_ble_eq_true rfl⟩) (fun _ _ => v_nil _) rfl rfl ⟨(by show _ ≤ 1002; omega), (by show _ ≤ 6012; omega)⟩ (Nat.le_of_ble_eq_true rfl) ?_
  have J70_1 : V p9 l e9 (headSpec wsL_acts { frames := 10, cells := 1002, slots := 6012, locals := 193 }).room s9 m9 as9 bl9 me9 cd9 (0) (0) (vx_MQ bl9 (v_Qo D (wTy cI cZ cQ cJ) (0 = 0) (some (.int (nI 1))) ((wA cI bx (z_U ((sadT S v))) (z_C ((sadT S v))) (z_D ((sadT S v))) (g9 ((sadT S v))) (z_B ((sadT S v))) (f9 ((sadT S v))) qf (n9 (z_no ((sadT S v))) (z_li ((sadT S v))) (z_wi ((sadT S v))) (z_bu ((sadT S v))) (z_qn ((sadT S v))))) ++ wX cI cZ cQ a ((sadT S v))) A) (v_XC D (wTy cI cZ cQ cJ) 0 exI ((wA cI bx (z_U S) (z_C S) (z_D S) (g9 S) (z_B S) (f9 S) qf (n9 (z_no S) (z_li S) (z_wi S) (z_bu S) (z_qn S))) ++ wX cI cZ cQ a S) A) as9 s9 1002 6012 A) (v_rw D A s9) 20 70 [(13, .int (nI (z_nc S))), (12, .int (nI (z_nt S))), (11, .int (nI (kd))), (0, .ref (a 0)), (1, .ref (bx 0)), (2, .ref (bx 1)), (3, .ref (bx 2)), (4, .ref (bx 3)), (5, .ref (bx 4)), (6, .ref (bx 5)), (7, .ref (bx 6)), (8, .ref (bx 7)), (9, .int (u0)), (10, .int (u1))] [.int (nI ((if lo9 (u1 >>> (nI (8) &&& 31)) % 3 = 0 then 2 ^ (lo9 (u1 >>> (nI (10) &&& 31)) % 16) else 0))), .int (nI ((2 ^ (lo9 ((u1)) % 16)) ||| (2 ^ (lo9 (((u1 >>> (nI (4) &&& 31)))) % 6))))] ((wA cI bx (z_U S) (z_C S) (z_D S) (g9 S) (z_B S) (f9 S) qf (n9 (z_no S) (z_li S) (z_wi S) (z_bu S) (z_qn S))) ++ wX cI cZ cQ a S) := by
    refine v_ior E dL_acts_70 (nx_or _ _) ?_
    refine v_top (y := nI (v)) (congrArg nI est) ?_
    refine v_istore E dL_acts_71 (by decide) rfl ?_
    refine v_iload E dL_acts_73 3 rfl ?_
    refine n_if_eq E dL_acts_75 (by omega) (tgt := 83) (by decide) (fun c75 => ?_) (fun c75 => ?_)
    · refine v_iload E dL_acts_83 2 rfl ?_
      refine v_bipush E dL_acts_85 (v := nI 12) rfl ?_
      refine n_icmp_ge E dL_acts_87 (by omega) (by omega) (tgt := 102) (by decide) (fun c87 => ?_) (fun c87 => ?_)
      · exact absurd c87 (by omega)
      · refine v_aload_n E dL_acts_90 7 rfl rfl ?_
        refine v_iload E dL_acts_91 2 rfl ?_
        refine v_iload E dL_acts_93 0 rfl ?_
        refine v_iast E dL_acts_95 2 0 rfl rfl (by omega) (by decide) (w' := ((wA cI bx (z_U S) (z_C S) (va_up (z_D S) (z_nt S) (v)) (g9 S) (z_B S) (f9 S) qf (n9 (z_no S) (z_li S) (z_wi S) (z_bu S) (z_qn S))) ++ wX cI cZ cQ a S)) (wA_t _ _) ?_
        refine v_aload E dL_acts_96 8 rfl ?_
        refine v_iload E dL_acts_98 2 rfl ?_
        refine v_iconst E dL_acts_100 (v := (-1)) rfl ?_
        refine v_iast E dL_acts_101 3 0 rfl rfl (by omega) (by decide) (w' := ((wA cI bx (z_U S) (z_C S) (va_up (z_D S) (z_nt S) (v)) (upd (g9 S) (z_nt S) (((-1)))) (z_B S) (f9 S) qf (n9 (z_no S) (z_li S) (z_wi S) (z_bu S) (z_qn S))) ++ wX cI cZ cQ a S)) (wA_g _ _) ?_
        refine v_aload_n E dL_acts_102 4 rfl rfl ?_
        refine v_iload E dL_acts_103 0 rfl ?_
        refine x_cSn E hA hTx dL_acts_105 (l_addTest0 l D cI cZ cQ cJ a S hok hl (wA cI bx (z_U S) (z_C S) (va_up (z_D S) (z_nt S) (v)) (upd (g9 S) (z_nt S) (((-1)))) (z_B S) (f9 S) qf (n9 (z_no S) (z_li S) (z_wi S) (z_bu S) (z_qn S))) v hv hlt) (vx_cwSW 2 E.2.2.2.1 gL_acts_L_addTest rfl rfl rfl (by decide +kernel) ⟨Nat.le_of_ble_eq_true rfl, Nat.le_of_ble_eq_true rfl⟩) rfl rfl ⟨(by show _ ≤ 1002; omega), (by show _ ≤ 6012; omega)⟩ (Nat.le_of_ble_eq_true rfl) ?_
        refine v_iload E dL_acts_108 2 rfl ?_
        refine v_bipush E dL_acts_110 (v := nI 12) rfl ?_
        refine n_icmp_ge E dL_acts_112 (by omega) (by omega) (tgt := 120) (by decide) (fun c112 => ?_) (fun c112 => ?_)
        · exact absurd c112 (by omega)
        · refine v_iload E dL_acts_115 2 rfl ?_
          refine v_goto E dL_acts_117 (tgt := 122) (by decide) ?_
          refine n_icmp_ne E dL_acts_122 (by omega) (by omega) (tgt := 140) (by decide) (fun c122 => ?_) (fun c122 => ?_)
          · exact absurd c122 (by omega)
          · refine v_aload_n E dL_acts_125 4 rfl rfl ?_
            refine v_ldc E dL_acts_126 (v := 65536) (x := nI 65536) (by decide +kernel) rfl ?_
            refine x_cSn E hA hTx dL_acts_128 (l_addTestX l D cI cZ cQ cJ a ((sadT S (v))) (zOK_adT hok hv hlt) hl (wA cI bx (z_U S) (z_C S) (va_up (z_D S) (z_nt S) (v)) (upd (g9 S) (z_nt S) (((-1)))) (z_B S) (f9 S) qf (n9 (z_no S) (z_li S) (z_wi S) (z_bu S) (z_qn S)))  ) (vx_cwSW 2 E.2.2.2.1 gL_acts_L_addTest rfl rfl rfl (by decide +kernel) ⟨Nat.le_of_ble_eq_true rfl, Nat.le_of_ble_eq_true rfl⟩) rfl rfl ⟨(by show _ ≤ 1002; omega), (by show _ ≤ 6012; omega)⟩ (Nat.le_of_ble_eq_true rfl) ?_
            refine v_ldc E dL_acts_131 (v := -1000002) (x := (-1000002)) (by decide +kernel) rfl ?_
            refine v_icmp_ne E dL_acts_133 (tgt := 140) (by decide) (fun c133 => ?_) (fun c133 => ?_)
            · exact absurd rfl c133
            · refine v_iconst E dL_acts_136 (v := nI 1) rfl ?_
              refine v_goto E dL_acts_137 (tgt := 141) (by decide) ?_
              exact y_retz E hr rfl rfl rfl (w_adT hok (wX cI cZ cQ a)) (by omega) (by omega) dL_acts_141
    · refine v_iload E dL_acts_78 2 rfl ?_
      refine n_if_ne E dL_acts_80 (by omega) (tgt := 142) (by decide) (fun c80 => ?_) (fun c80 => ?_)
      · exact absurd c80 (by omega)
      · refine v_iload E dL_acts_83 2 rfl ?_
        refine v_bipush E dL_acts_85 (v := nI 12) rfl ?_
        refine n_icmp_ge E dL_acts_87 (by omega) (by omega) (tgt := 102) (by decide) (fun c87 => ?_) (fun c87 => ?_)
        · exact absurd c87 (by omega)
        · refine v_aload_n E dL_acts_90 7 rfl rfl ?_
          refine v_iload E dL_acts_91 2 rfl ?_
          refine v_iload E dL_acts_93 0 rfl ?_
          refine v_iast E dL_acts_95 2 0 rfl rfl (by omega) (by decide) (w' := ((wA cI bx (z_U S) (z_C S) (va_up (z_D S) (z_nt S) (v)) (g9 S) (z_B S) (f9 S) qf (n9 (z_no S) (z_li S) (z_wi S) (z_bu S) (z_qn S))) ++ wX cI cZ cQ a S)) (wA_t _ _) ?_
          refine v_aload E dL_acts_96 8 rfl ?_
          refine v_iload E dL_acts_98 2 rfl ?_
          refine v_iconst E dL_acts_100 (v := (-1)) rfl ?_
          refine v_iast E dL_acts_101 3 0 rfl rfl (by omega) (by decide) (w' := ((wA cI bx (z_U S) (z_C S) (va_up (z_D S) (z_nt S) (v)) (upd (g9 S) (z_nt S) (((-1)))) (z_B S) (f9 S) qf (n9 (z_no S) (z_li S) (z_wi S) (z_bu S) (z_qn S))) ++ wX cI cZ cQ a S)) (wA_g _ _) ?_
          refine v_aload_n E dL_acts_102 4 rfl rfl ?_
          refine v_iload E dL_acts_103 0 rfl ?_
          refine x_cSn E hA hTx dL_acts_105 (l_addTest0 l D cI cZ cQ cJ a S hok hl (wA cI bx (z_U S) (z_C S) (va_up (z_D S) (z_nt S) (v)) (upd (g9 S) (z_nt S) (((-1)))) (z_B S) (f9 S) qf (n9 (z_no S) (z_li S) (z_wi S) (z_bu S) (z_qn S))) v hv hlt) (vx_cwSW 2 E.2.2.2.1 gL_acts_L_addTest rfl rfl rfl (by decide +kernel) ⟨Nat.le_of_ble_eq_true rfl, Nat.le_of_ble_eq_true rfl⟩) rfl rfl ⟨(by show _ ≤ 1002; omega), (by show _ ≤ 6012; omega)⟩ (Nat.le_of_ble_eq_true rfl) ?_
          refine v_iload E dL_acts_108 2 rfl ?_
          refine v_bipush E dL_acts_110 (v := nI 12) rfl ?_
          refine n_icmp_ge E dL_acts_112 (by omega) (by omega) (tgt := 120) (by decide) (fun c112 => ?_) (fun c112 => ?_)
          · exact absurd c112 (by omega)
          · refine v_iload E dL_acts_115 2 rfl ?_
            refine v_goto E dL_acts_117 (tgt := 122) (by decide) ?_
            refine n_icmp_ne E dL_acts_122 (by omega) (by omega) (tgt := 140) (by decide) (fun c122 => ?_) (fun c122 => ?_)
            · exact absurd c122 (by omega)
            · refine v_aload_n E dL_acts_125 4 rfl rfl ?_
              refine v_ldc E dL_acts_126 (v := 65536) (x := nI 65536) (by decide +kernel) rfl ?_
              refine x_cSn E hA hTx dL_acts_128 (l_addTestX l D cI cZ cQ cJ a ((sadT S (v))) (zOK_adT hok hv hlt) hl (wA cI bx (z_U S) (z_C S) (va_up (z_D S) (z_nt S) (v)) (upd (g9 S) (z_nt S) (((-1)))) (z_B S) (f9 S) qf (n9 (z_no S) (z_li S) (z_wi S) (z_bu S) (z_qn S)))  ) (vx_cwSW 2 E.2.2.2.1 gL_acts_L_addTest rfl rfl rfl (by decide +kernel) ⟨Nat.le_of_ble_eq_true rfl, Nat.le_of_ble_eq_true rfl⟩) rfl rfl ⟨(by show _ ≤ 1002; omega), (by show _ ≤ 6012; omega)⟩ (Nat.le_of_ble_eq_true rfl) ?_
              refine v_ldc E dL_acts_131 (v := -1000002) (x := (-1000002)) (by decide +kernel) rfl ?_
              refine v_icmp_ne E dL_acts_133 (tgt := 140) (by decide) (fun c133 => ?_) (fun c133 => ?_)
              · exact absurd rfl c133
              · refine v_iconst E dL_acts_136 (v := nI 1) rfl ?_
                refine v_goto E dL_acts_137 (tgt := 141) (by decide) ?_
                exact y_retz E hr rfl rfl rfl (w_adT hok (wX cI cZ cQ a)) (by omega) (by omega) dL_acts_141
  refine n_if_ne E dL_acts_51 (by omega) (tgt := 69) (by decide) (fun c51 => ?_) (fun c51 => ?_)
  · refine v_iconst E dL_acts_69 (v := nI 0) rfl ?_
    refine v_top (y := nI ((if lo9 (u1 >>> (nI (8) &&& 31)) % 3 = 0 then 2 ^ (lo9 (u1 >>> (nI (10) &&& 31)) % 16) else 0))) (by rw [if_neg (by omega)]) ?_
    exact J70_1
  · refine v_iconst E dL_acts_54 (v := nI 1) rfl ?_
    refine v_iload E dL_acts_55 13 rfl ?_
    refine v_bipush E dL_acts_57 (v := nI 10) rfl ?_
    refine v_ishr E dL_acts_59 (z := ((u1 >>> (nI (10) &&& 31)))) rfl ?_
    refine v_bipush E dL_acts_60 (v := nI 16) rfl ?_
    refine v_cSi' E dL_acts_62 (x_L_low l D cI cZ cQ cJ (((u1 >>> (nI (10) &&& 31)))) (16) (by omega) (by omega)) (va_cwS 2 E.2.2.2.1 gL_acts_L_low rfl rfl rfl (by decide +kernel) ⟨Nat.le_of_ble_eq_true rfl, Nat.le_of_ble_eq_true rfl⟩) (fun _ _ => v_nil _) rfl rfl ⟨(by show _ ≤ 1002; omega), (by show _ ≤ 6012; omega)⟩ (Nat.le_of_ble_eq_true rfl) ?_
    refine v_ishl E dL_acts_65 (n_shl1 (by omega)) ?_
    refine v_goto E dL_acts_66 (tgt := 70) (by decide) ?_
    refine v_top (y := nI ((if lo9 (u1 >>> (nI (8) &&& 31)) % 3 = 0 then 2 ^ (lo9 (u1 >>> (nI (10) &&& 31)) % 16) else 0))) (by rw [if_pos c51]) ?_
    exact J70_1
set_option maxHeartbeats 8000000 in
set_option maxRecDepth 100000 in
theorem z_acts_A2 (l : Launch) (D : va_G) (cI cZ cQ cJ : ClassId) (a bx : Nat → Nat) (S : zS) (hok : zOK S) (hl : l.stackTraces = false) (qf : Nat → Nat) (u0 u1 : Int32) (kd v : Nat) (ekd : lo9 u0 % 24 = kd) (est : st9 u1 = v)(hA : kd = 0 ∨ z_nt S = 0) (hlt : ¬ z_nt S < 12) : v_Thr l yL_acts wsL_acts { frames := 10, cells := 1002, slots := 6012, locals := 193 } D (wTy cI cZ cQ cJ) [.ref (a 0), .ref (bx 0), .ref (bx 1), .ref (bx 2), .ref (bx 3), .ref (bx 4), .ref (bx 5), .ref (bx 6), .ref (bx 7), .int (u0), .int (u1)] ((wA cI bx (z_U S) (z_C S) (z_D S) (g9 S) (z_B S) (f9 S) qf (n9 (z_no S) (z_li S) (z_wi S) (z_bu S) (z_qn S))) ++ wX cI cZ cQ a S) 0 exI (some (.int (nI 1))) ((wA cI bx (z_U S) (z_C S) (z_D S) (g9 S) (z_B S) (f9 S) qf (n9 (z_no S) (z_li S) (z_wi S) (z_bu S) (z_qn S))) ++ wX cI cZ cQ a S) 1002 6012 := by
  refine v_thrower (cc := cL_acts) (maxL := 20) (ret := (some .boolean)) (own := RL) (lv0 := [(0, .ref (a 0)), (1, .ref (bx 0)), (2, .ref (bx 1)), (3, .ref (bx 2)), (4, .ref (bx 3)), (5, .ref (bx 4)), (6, .ref (bx 5)), (7, .ref (bx 6)), (8, .ref (bx 7)), (9, .int (u0)), (10, .int (u1))]) (by decide) rfl rfl (Nat.le_of_ble_eq_true rfl) rfl ?_
  intro p9 e9 s9 m9 as9 bl9 me9 cd9 A E hA htab hTx hr
  have hn1 := hok.1.1
  have hn2 := hok.1.2.1
  have hkd : kd < 24 := by rw [← ekd]; exact Nat.mod_lt _ (by decide)
  have hv : v < 65536 := by rw [← est]; exact st9_lt u1
  have hqn := zqn_le hok
  refine v_iload E dL_acts_0 9 rfl ?_
  refine v_bipush E dL_acts_2 (v := nI 24) rfl ?_
  refine v_cSi' E dL_acts_4 (x_L_low l D cI cZ cQ cJ ((u0)) (24) (by omega) (by omega)) (va_cwS 2 E.2.2.2.1 gL_acts_L_low rfl rfl rfl (by decide +kernel) ⟨Nat.le_of_ble_eq_true rfl, Nat.le_of_ble_eq_true rfl⟩) (fun _ _ => v_nil _) rfl rfl ⟨(by show _ ≤ 1002; omega), (by show _ ≤ 6012; omega)⟩ (Nat.le_of_ble_eq_true rfl) ?_
  refine v_top (y := nI (kd)) (congrArg nI ekd) ?_
  refine v_istore E dL_acts_7 (by decide) rfl ?_
  refine v_aload_n E dL_acts_9 1 rfl rfl ?_
  refine v_cVi' E dL_acts_10 (x_X1_tests l D cI cZ cQ cJ a S hok) (cwV 0 E.2.2.2.1 gL_acts_X1_tests rfl rfl rfl (by decide +kernel) ⟨Nat.le_of_ble_eq_true rfl, Nat.le_of_ble_eq_true rfl⟩) 8 rfl rfl rfl (fun H h => subR H h) rfl rfl ⟨(by show _ ≤ 1002; omega), (by show _ ≤ 6012; omega)⟩ (Nat.le_of_ble_eq_true rfl) ?_
  refine v_istore E dL_acts_13 (by decide) rfl ?_
  refine v_aload_n E dL_acts_15 2 rfl rfl ?_
  refine v_cVi' E dL_acts_16 (x_X1_commits l D cI cZ cQ cJ a S hok) (cwV 0 E.2.2.2.1 gL_acts_X1_commits rfl rfl rfl (by decide +kernel) ⟨Nat.le_of_ble_eq_true rfl, Nat.le_of_ble_eq_true rfl⟩) 8 rfl rfl rfl (fun H h => subR H h) rfl rfl ⟨(by show _ ≤ 1002; omega), (by show _ ≤ 6012; omega)⟩ (Nat.le_of_ble_eq_true rfl) ?_
  refine v_istore E dL_acts_19 (by decide) rfl ?_
  refine v_iconst E dL_acts_21 (v := nI 1) rfl ?_
  refine v_iload E dL_acts_22 13 rfl ?_
  refine v_bipush E dL_acts_24 (v := nI 16) rfl ?_
  refine v_cSi' E dL_acts_26 (x_L_low l D cI cZ cQ cJ ((u1)) (16) (by omega) (by omega)) (va_cwS 2 E.2.2.2.1 gL_acts_L_low rfl rfl rfl (by decide +kernel) ⟨Nat.le_of_ble_eq_true rfl, Nat.le_of_ble_eq_true rfl⟩) (fun _ _ => v_nil _) rfl rfl ⟨(by show _ ≤ 1002; omega), (by show _ ≤ 6012; omega)⟩ (Nat.le_of_ble_eq_true rfl) ?_
  refine v_ishl E dL_acts_29 (n_shl1 (by omega)) ?_
  refine v_iconst E dL_acts_30 (v := nI 1) rfl ?_
  refine v_iload E dL_acts_31 13 rfl ?_
  refine v_iconst E dL_acts_33 (v := nI 4) rfl ?_
  refine v_ishr E dL_acts_34 (z := ((u1 >>> (nI (4) &&& 31)))) rfl ?_
  refine v_bipush E dL_acts_35 (v := nI 6) rfl ?_
  refine v_cSi' E dL_acts_37 (x_L_low l D cI cZ cQ cJ (((u1 >>> (nI (4) &&& 31)))) (6) (by omega) (by omega)) (va_cwS 2 E.2.2.2.1 gL_acts_L_low rfl rfl rfl (by decide +kernel) ⟨Nat.le_of_ble_eq_true rfl, Nat.le_of_ble_eq_true rfl⟩) (fun _ _ => v_nil _) rfl rfl ⟨(by show _ ≤ 1002; omega), (by show _ ≤ 6012; omega)⟩ (Nat.le_of_ble_eq_true rfl) ?_
  refine v_ishl E dL_acts_40 (n_shl1 (by omega)) ?_
  refine v_ior E dL_acts_41 (nx_or _ _) ?_
  refine v_iload E dL_acts_42 13 rfl ?_
  refine v_bipush E dL_acts_44 (v := nI 8) rfl ?_
  refine v_ishr E dL_acts_46 (z := ((u1 >>> (nI (8) &&& 31)))) rfl ?_
  refine v_iconst E dL_acts_47 (v := nI 3) rfl ?_
  refine v_cSi' E dL_acts_48 (x_L_low l D cI cZ cQ cJ (((u1 >>> (nI (8) &&& 31)))) (3) (by omega) (by omega)) (va_cwS 2 E.2.2.2.1 gL_acts_L_low rfl rfl rfl (by decide +kernel) ⟨Nat.le_of_ble_eq_true rfl, Nat.le_of_ble_eq_true rfl⟩) (fun _ _ => v_nil _) rfl rfl ⟨(by show _ ≤ 1002; omega), (by show _ ≤ 6012; omega)⟩ (Nat.le_of_ble_eq_true rfl) ?_
  have J70_1 : V p9 l e9 (headSpec wsL_acts { frames := 10, cells := 1002, slots := 6012, locals := 193 }).room s9 m9 as9 bl9 me9 cd9 (0) (0) (vx_MQ bl9 (v_Qo D (wTy cI cZ cQ cJ) (0 = 0) (some (.int (nI 1))) ((wA cI bx (z_U S) (z_C S) (z_D S) (g9 S) (z_B S) (f9 S) qf (n9 (z_no S) (z_li S) (z_wi S) (z_bu S) (z_qn S))) ++ wX cI cZ cQ a S) A) (v_XC D (wTy cI cZ cQ cJ) 0 exI ((wA cI bx (z_U S) (z_C S) (z_D S) (g9 S) (z_B S) (f9 S) qf (n9 (z_no S) (z_li S) (z_wi S) (z_bu S) (z_qn S))) ++ wX cI cZ cQ a S) A) as9 s9 1002 6012 A) (v_rw D A s9) 20 70 [(13, .int (nI (z_nc S))), (12, .int (nI (z_nt S))), (11, .int (nI (kd))), (0, .ref (a 0)), (1, .ref (bx 0)), (2, .ref (bx 1)), (3, .ref (bx 2)), (4, .ref (bx 3)), (5, .ref (bx 4)), (6, .ref (bx 5)), (7, .ref (bx 6)), (8, .ref (bx 7)), (9, .int (u0)), (10, .int (u1))] [.int (nI ((if lo9 (u1 >>> (nI (8) &&& 31)) % 3 = 0 then 2 ^ (lo9 (u1 >>> (nI (10) &&& 31)) % 16) else 0))), .int (nI ((2 ^ (lo9 ((u1)) % 16)) ||| (2 ^ (lo9 (((u1 >>> (nI (4) &&& 31)))) % 6))))] ((wA cI bx (z_U S) (z_C S) (z_D S) (g9 S) (z_B S) (f9 S) qf (n9 (z_no S) (z_li S) (z_wi S) (z_bu S) (z_qn S))) ++ wX cI cZ cQ a S) := by
    refine v_ior E dL_acts_70 (nx_or _ _) ?_
    refine v_top (y := nI (v)) (congrArg nI est) ?_
    refine v_istore E dL_acts_71 (by decide) rfl ?_
    refine v_iload E dL_acts_73 3 rfl ?_
    refine n_if_eq E dL_acts_75 (by omega) (tgt := 83) (by decide) (fun c75 => ?_) (fun c75 => ?_)
    · refine v_iload E dL_acts_83 2 rfl ?_
      refine v_bipush E dL_acts_85 (v := nI 12) rfl ?_
      refine n_icmp_ge E dL_acts_87 (by omega) (by omega) (tgt := 102) (by decide) (fun c87 => ?_) (fun c87 => ?_)
      · refine v_aload_n E dL_acts_102 4 rfl rfl ?_
        refine v_iload E dL_acts_103 0 rfl ?_
        refine x_cSn E hA hTx dL_acts_105 (l_addTestF l D cI cZ cQ cJ a S hok hl (wA cI bx (z_U S) (z_C S) (z_D S) (g9 S) (z_B S) (f9 S) qf (n9 (z_no S) (z_li S) (z_wi S) (z_bu S) (z_qn S))) v hv hlt) (vx_cwSW 2 E.2.2.2.1 gL_acts_L_addTest rfl rfl rfl (by decide +kernel) ⟨Nat.le_of_ble_eq_true rfl, Nat.le_of_ble_eq_true rfl⟩) rfl rfl ⟨(by show _ ≤ 1002; omega), (by show _ ≤ 6012; omega)⟩ (Nat.le_of_ble_eq_true rfl) ?_
        refine v_iload E dL_acts_108 2 rfl ?_
        refine v_bipush E dL_acts_110 (v := nI 12) rfl ?_
        refine n_icmp_ge E dL_acts_112 (by omega) (by omega) (tgt := 120) (by decide) (fun c112 => ?_) (fun c112 => ?_)
        · refine v_ldc E dL_acts_120 (v := -1000003) (x := (-1000003)) (by decide +kernel) rfl ?_
          refine v_icmp_ne E dL_acts_122 (tgt := 140) (by decide) (fun c122 => ?_) (fun c122 => ?_)
          · exact absurd rfl c122
          · refine v_aload_n E dL_acts_125 4 rfl rfl ?_
            refine v_ldc E dL_acts_126 (v := 65536) (x := nI 65536) (by decide +kernel) rfl ?_
            refine x_cSn E hA hTx dL_acts_128 (l_addTestX l D cI cZ cQ cJ a S hok hl (wA cI bx (z_U S) (z_C S) (z_D S) (g9 S) (z_B S) (f9 S) qf (n9 (z_no S) (z_li S) (z_wi S) (z_bu S) (z_qn S)))  ) (vx_cwSW 2 E.2.2.2.1 gL_acts_L_addTest rfl rfl rfl (by decide +kernel) ⟨Nat.le_of_ble_eq_true rfl, Nat.le_of_ble_eq_true rfl⟩) rfl rfl ⟨(by show _ ≤ 1002; omega), (by show _ ≤ 6012; omega)⟩ (Nat.le_of_ble_eq_true rfl) ?_
            refine v_ldc E dL_acts_131 (v := -1000002) (x := (-1000002)) (by decide +kernel) rfl ?_
            refine v_icmp_ne E dL_acts_133 (tgt := 140) (by decide) (fun c133 => ?_) (fun c133 => ?_)
            · exact absurd rfl c133
            · refine v_iconst E dL_acts_136 (v := nI 1) rfl ?_
              refine v_goto E dL_acts_137 (tgt := 141) (by decide) ?_
              exact y_retz E hr rfl rfl rfl rfl (by omega) (by omega) dL_acts_141
        · exact absurd c112 (by omega)
      · exact absurd c87 (by omega)
    · refine v_iload E dL_acts_78 2 rfl ?_
      refine n_if_ne E dL_acts_80 (by omega) (tgt := 142) (by decide) (fun c80 => ?_) (fun c80 => ?_)
      · exact absurd c80 (by omega)
      · refine v_iload E dL_acts_83 2 rfl ?_
        refine v_bipush E dL_acts_85 (v := nI 12) rfl ?_
        refine n_icmp_ge E dL_acts_87 (by omega) (by omega) (tgt := 102) (by decide) (fun c87 => ?_) (fun c87 => ?_)
        · refine v_aload_n E dL_acts_102 4 rfl rfl ?_
          refine v_iload E dL_acts_103 0 rfl ?_
          refine x_cSn E hA hTx dL_acts_105 (l_addTestF l D cI cZ cQ cJ a S hok hl (wA cI bx (z_U S) (z_C S) (z_D S) (g9 S) (z_B S) (f9 S) qf (n9 (z_no S) (z_li S) (z_wi S) (z_bu S) (z_qn S))) v hv hlt) (vx_cwSW 2 E.2.2.2.1 gL_acts_L_addTest rfl rfl rfl (by decide +kernel) ⟨Nat.le_of_ble_eq_true rfl, Nat.le_of_ble_eq_true rfl⟩) rfl rfl ⟨(by show _ ≤ 1002; omega), (by show _ ≤ 6012; omega)⟩ (Nat.le_of_ble_eq_true rfl) ?_
          refine v_iload E dL_acts_108 2 rfl ?_
          refine v_bipush E dL_acts_110 (v := nI 12) rfl ?_
          refine n_icmp_ge E dL_acts_112 (by omega) (by omega) (tgt := 120) (by decide) (fun c112 => ?_) (fun c112 => ?_)
          · refine v_ldc E dL_acts_120 (v := -1000003) (x := (-1000003)) (by decide +kernel) rfl ?_
            refine v_icmp_ne E dL_acts_122 (tgt := 140) (by decide) (fun c122 => ?_) (fun c122 => ?_)
            · exact absurd rfl c122
            · refine v_aload_n E dL_acts_125 4 rfl rfl ?_
              refine v_ldc E dL_acts_126 (v := 65536) (x := nI 65536) (by decide +kernel) rfl ?_
              refine x_cSn E hA hTx dL_acts_128 (l_addTestX l D cI cZ cQ cJ a S hok hl (wA cI bx (z_U S) (z_C S) (z_D S) (g9 S) (z_B S) (f9 S) qf (n9 (z_no S) (z_li S) (z_wi S) (z_bu S) (z_qn S)))  ) (vx_cwSW 2 E.2.2.2.1 gL_acts_L_addTest rfl rfl rfl (by decide +kernel) ⟨Nat.le_of_ble_eq_true rfl, Nat.le_of_ble_eq_true rfl⟩) rfl rfl ⟨(by show _ ≤ 1002; omega), (by show _ ≤ 6012; omega)⟩ (Nat.le_of_ble_eq_true rfl) ?_
              refine v_ldc E dL_acts_131 (v := -1000002) (x := (-1000002)) (by decide +kernel) rfl ?_
              refine v_icmp_ne E dL_acts_133 (tgt := 140) (by decide) (fun c133 => ?_) (fun c133 => ?_)
              · exact absurd rfl c133
              · refine v_iconst E dL_acts_136 (v := nI 1) rfl ?_
                refine v_goto E dL_acts_137 (tgt := 141) (by decide) ?_
                exact y_retz E hr rfl rfl rfl rfl (by omega) (by omega) dL_acts_141
          · exact absurd c112 (by omega)
        · exact absurd c87 (by omega)
  refine n_if_ne E dL_acts_51 (by omega) (tgt := 69) (by decide) (fun c51 => ?_) (fun c51 => ?_)
  · refine v_iconst E dL_acts_69 (v := nI 0) rfl ?_
    refine v_top (y := nI ((if lo9 (u1 >>> (nI (8) &&& 31)) % 3 = 0 then 2 ^ (lo9 (u1 >>> (nI (10) &&& 31)) % 16) else 0))) (by rw [if_neg (by omega)]) ?_
    exact J70_1
  · refine v_iconst E dL_acts_54 (v := nI 1) rfl ?_
    refine v_iload E dL_acts_55 13 rfl ?_
    refine v_bipush E dL_acts_57 (v := nI 10) rfl ?_
    refine v_ishr E dL_acts_59 (z := ((u1 >>> (nI (10) &&& 31)))) rfl ?_
    refine v_bipush E dL_acts_60 (v := nI 16) rfl ?_
    refine v_cSi' E dL_acts_62 (x_L_low l D cI cZ cQ cJ (((u1 >>> (nI (10) &&& 31)))) (16) (by omega) (by omega)) (va_cwS 2 E.2.2.2.1 gL_acts_L_low rfl rfl rfl (by decide +kernel) ⟨Nat.le_of_ble_eq_true rfl, Nat.le_of_ble_eq_true rfl⟩) (fun _ _ => v_nil _) rfl rfl ⟨(by show _ ≤ 1002; omega), (by show _ ≤ 6012; omega)⟩ (Nat.le_of_ble_eq_true rfl) ?_
    refine v_ishl E dL_acts_65 (n_shl1 (by omega)) ?_
    refine v_goto E dL_acts_66 (tgt := 70) (by decide) ?_
    refine v_top (y := nI ((if lo9 (u1 >>> (nI (8) &&& 31)) % 3 = 0 then 2 ^ (lo9 (u1 >>> (nI (10) &&& 31)) % 16) else 0))) (by rw [if_pos c51]) ?_
    exact J70_1
set_option maxHeartbeats 8000000 in
set_option maxRecDepth 100000 in
theorem z_acts_B (l : Launch) (D : va_G) (cI cZ cQ cJ : ClassId) (a bx : Nat → Nat) (S : zS) (hok : zOK S) (hl : l.stackTraces = false) (qf : Nat → Nat) (u0 u1 : Int32) (kd v : Nat) (ekd : lo9 u0 % 24 = kd) (est : st9 u1 = v)(hnt : 0 < z_nt S) (hk0 : 0 < kd) (hB : kd < 6 ∨ z_nc S = 0) (hlt : z_nc S < 40) : v_Thr l yL_acts wsL_acts { frames := 10, cells := 1002, slots := 6012, locals := 193 } D (wTy cI cZ cQ cJ) [.ref (a 0), .ref (bx 0), .ref (bx 1), .ref (bx 2), .ref (bx 3), .ref (bx 4), .ref (bx 5), .ref (bx 6), .ref (bx 7), .int (u0), .int (u1)] ((wA cI bx (z_U S) (z_C S) (z_D S) (g9 S) (z_B S) (f9 S) qf (n9 (z_no S) (z_li S) (z_wi S) (z_bu S) (z_qn S))) ++ wX cI cZ cQ a S) 0 exI (some (.int (nI 1))) ((wA cI bx (z_U ((sadC S v))) (z_C ((sadC S v))) (z_D ((sadC S v))) (g9 ((sadC S v))) (z_B ((sadC S v))) (f9 ((sadC S v))) qf (n9 (z_no ((sadC S v))) (z_li ((sadC S v))) (z_wi ((sadC S v))) (z_bu ((sadC S v))) (z_qn ((sadC S v))))) ++ wX cI cZ cQ a ((sadC S v))) 1002 6012 := by
  refine v_thrower (cc := cL_acts) (maxL := 20) (ret := (some .boolean)) (own := RL) (lv0 := [(0, .ref (a 0)), (1, .ref (bx 0)), (2, .ref (bx 1)), (3, .ref (bx 2)), (4, .ref (bx 3)), (5, .ref (bx 4)), (6, .ref (bx 5)), (7, .ref (bx 6)), (8, .ref (bx 7)), (9, .int (u0)), (10, .int (u1))]) (by decide) rfl rfl (Nat.le_of_ble_eq_true rfl) rfl ?_
  intro p9 e9 s9 m9 as9 bl9 me9 cd9 A E hA htab hTx hr
  have hn1 := hok.1.1
  have hn2 := hok.1.2.1
  have hkd : kd < 24 := by rw [← ekd]; exact Nat.mod_lt _ (by decide)
  have hv : v < 65536 := by rw [← est]; exact st9_lt u1
  have hqn := zqn_le hok
  refine v_iload E dL_acts_0 9 rfl ?_
  refine v_bipush E dL_acts_2 (v := nI 24) rfl ?_
  refine v_cSi' E dL_acts_4 (x_L_low l D cI cZ cQ cJ ((u0)) (24) (by omega) (by omega)) (va_cwS 2 E.2.2.2.1 gL_acts_L_low rfl rfl rfl (by decide +kernel) ⟨Nat.le_of_ble_eq_true rfl, Nat.le_of_ble_eq_true rfl⟩) (fun _ _ => v_nil _) rfl rfl ⟨(by show _ ≤ 1002; omega), (by show _ ≤ 6012; omega)⟩ (Nat.le_of_ble_eq_true rfl) ?_
  refine v_top (y := nI (kd)) (congrArg nI ekd) ?_
  refine v_istore E dL_acts_7 (by decide) rfl ?_
  refine v_aload_n E dL_acts_9 1 rfl rfl ?_
  refine v_cVi' E dL_acts_10 (x_X1_tests l D cI cZ cQ cJ a S hok) (cwV 0 E.2.2.2.1 gL_acts_X1_tests rfl rfl rfl (by decide +kernel) ⟨Nat.le_of_ble_eq_true rfl, Nat.le_of_ble_eq_true rfl⟩) 8 rfl rfl rfl (fun H h => subR H h) rfl rfl ⟨(by show _ ≤ 1002; omega), (by show _ ≤ 6012; omega)⟩ (Nat.le_of_ble_eq_true rfl) ?_
  refine v_istore E dL_acts_13 (by decide) rfl ?_
  refine v_aload_n E dL_acts_15 2 rfl rfl ?_
  refine v_cVi' E dL_acts_16 (x_X1_commits l D cI cZ cQ cJ a S hok) (cwV 0 E.2.2.2.1 gL_acts_X1_commits rfl rfl rfl (by decide +kernel) ⟨Nat.le_of_ble_eq_true rfl, Nat.le_of_ble_eq_true rfl⟩) 8 rfl rfl rfl (fun H h => subR H h) rfl rfl ⟨(by show _ ≤ 1002; omega), (by show _ ≤ 6012; omega)⟩ (Nat.le_of_ble_eq_true rfl) ?_
  refine v_istore E dL_acts_19 (by decide) rfl ?_
  refine v_iconst E dL_acts_21 (v := nI 1) rfl ?_
  refine v_iload E dL_acts_22 13 rfl ?_
  refine v_bipush E dL_acts_24 (v := nI 16) rfl ?_
  refine v_cSi' E dL_acts_26 (x_L_low l D cI cZ cQ cJ ((u1)) (16) (by omega) (by omega)) (va_cwS 2 E.2.2.2.1 gL_acts_L_low rfl rfl rfl (by decide +kernel) ⟨Nat.le_of_ble_eq_true rfl, Nat.le_of_ble_eq_true rfl⟩) (fun _ _ => v_nil _) rfl rfl ⟨(by show _ ≤ 1002; omega), (by show _ ≤ 6012; omega)⟩ (Nat.le_of_ble_eq_true rfl) ?_
  refine v_ishl E dL_acts_29 (n_shl1 (by omega)) ?_
  refine v_iconst E dL_acts_30 (v := nI 1) rfl ?_
  refine v_iload E dL_acts_31 13 rfl ?_
  refine v_iconst E dL_acts_33 (v := nI 4) rfl ?_
  refine v_ishr E dL_acts_34 (z := ((u1 >>> (nI (4) &&& 31)))) rfl ?_
  refine v_bipush E dL_acts_35 (v := nI 6) rfl ?_
  refine v_cSi' E dL_acts_37 (x_L_low l D cI cZ cQ cJ (((u1 >>> (nI (4) &&& 31)))) (6) (by omega) (by omega)) (va_cwS 2 E.2.2.2.1 gL_acts_L_low rfl rfl rfl (by decide +kernel) ⟨Nat.le_of_ble_eq_true rfl, Nat.le_of_ble_eq_true rfl⟩) (fun _ _ => v_nil _) rfl rfl ⟨(by show _ ≤ 1002; omega), (by show _ ≤ 6012; omega)⟩ (Nat.le_of_ble_eq_true rfl) ?_
  refine v_ishl E dL_acts_40 (n_shl1 (by omega)) ?_
  refine v_ior E dL_acts_41 (nx_or _ _) ?_
  refine v_iload E dL_acts_42 13 rfl ?_
  refine v_bipush E dL_acts_44 (v := nI 8) rfl ?_
  refine v_ishr E dL_acts_46 (z := ((u1 >>> (nI (8) &&& 31)))) rfl ?_
  refine v_iconst E dL_acts_47 (v := nI 3) rfl ?_
  refine v_cSi' E dL_acts_48 (x_L_low l D cI cZ cQ cJ (((u1 >>> (nI (8) &&& 31)))) (3) (by omega) (by omega)) (va_cwS 2 E.2.2.2.1 gL_acts_L_low rfl rfl rfl (by decide +kernel) ⟨Nat.le_of_ble_eq_true rfl, Nat.le_of_ble_eq_true rfl⟩) (fun _ _ => v_nil _) rfl rfl ⟨(by show _ ≤ 1002; omega), (by show _ ≤ 6012; omega)⟩ (Nat.le_of_ble_eq_true rfl) ?_
  have J70_1 : V p9 l e9 (headSpec wsL_acts { frames := 10, cells := 1002, slots := 6012, locals := 193 }).room s9 m9 as9 bl9 me9 cd9 (0) (0) (vx_MQ bl9 (v_Qo D (wTy cI cZ cQ cJ) (0 = 0) (some (.int (nI 1))) ((wA cI bx (z_U ((sadC S v))) (z_C ((sadC S v))) (z_D ((sadC S v))) (g9 ((sadC S v))) (z_B ((sadC S v))) (f9 ((sadC S v))) qf (n9 (z_no ((sadC S v))) (z_li ((sadC S v))) (z_wi ((sadC S v))) (z_bu ((sadC S v))) (z_qn ((sadC S v))))) ++ wX cI cZ cQ a ((sadC S v))) A) (v_XC D (wTy cI cZ cQ cJ) 0 exI ((wA cI bx (z_U S) (z_C S) (z_D S) (g9 S) (z_B S) (f9 S) qf (n9 (z_no S) (z_li S) (z_wi S) (z_bu S) (z_qn S))) ++ wX cI cZ cQ a S) A) as9 s9 1002 6012 A) (v_rw D A s9) 20 70 [(13, .int (nI (z_nc S))), (12, .int (nI (z_nt S))), (11, .int (nI (kd))), (0, .ref (a 0)), (1, .ref (bx 0)), (2, .ref (bx 1)), (3, .ref (bx 2)), (4, .ref (bx 3)), (5, .ref (bx 4)), (6, .ref (bx 5)), (7, .ref (bx 6)), (8, .ref (bx 7)), (9, .int (u0)), (10, .int (u1))] [.int (nI ((if lo9 (u1 >>> (nI (8) &&& 31)) % 3 = 0 then 2 ^ (lo9 (u1 >>> (nI (10) &&& 31)) % 16) else 0))), .int (nI ((2 ^ (lo9 ((u1)) % 16)) ||| (2 ^ (lo9 (((u1 >>> (nI (4) &&& 31)))) % 6))))] ((wA cI bx (z_U S) (z_C S) (z_D S) (g9 S) (z_B S) (f9 S) qf (n9 (z_no S) (z_li S) (z_wi S) (z_bu S) (z_qn S))) ++ wX cI cZ cQ a S) := by
    refine v_ior E dL_acts_70 (nx_or _ _) ?_
    refine v_top (y := nI (v)) (congrArg nI est) ?_
    refine v_istore E dL_acts_71 (by decide) rfl ?_
    refine v_iload E dL_acts_73 3 rfl ?_
    refine n_if_eq E dL_acts_75 (by omega) (tgt := 83) (by decide) (fun c75 => ?_) (fun c75 => ?_)
    · exact absurd c75 (by omega)
    · refine v_iload E dL_acts_78 2 rfl ?_
      refine n_if_ne E dL_acts_80 (by omega) (tgt := 142) (by decide) (fun c80 => ?_) (fun c80 => ?_)
      · refine v_iload E dL_acts_142 3 rfl ?_
        refine v_bipush E dL_acts_144 (v := nI 6) rfl ?_
        refine n_icmp_lt E dL_acts_146 (by omega) (by omega) (tgt := 154) (by decide) (fun c146 => ?_) (fun c146 => ?_)
        · refine v_iload E dL_acts_154 1 rfl ?_
          refine v_bipush E dL_acts_156 (v := nI 40) rfl ?_
          refine n_icmp_ge E dL_acts_158 (by omega) (by omega) (tgt := 167) (by decide) (fun c158 => ?_) (fun c158 => ?_)
          · exact absurd c158 (by omega)
          · refine v_aload_n E dL_acts_161 6 rfl rfl ?_
            refine v_iload E dL_acts_162 1 rfl ?_
            refine v_iload E dL_acts_164 0 rfl ?_
            refine v_iast E dL_acts_166 1 0 rfl rfl (by omega) (by decide) (w' := ((wA cI bx (z_U S) (va_up (z_C S) (z_nc S) (v)) (z_D S) (g9 S) (z_B S) (f9 S) qf (n9 (z_no S) (z_li S) (z_wi S) (z_bu S) (z_qn S))) ++ wX cI cZ cQ a S)) (wA_c _ _) ?_
            refine v_aload_n E dL_acts_167 4 rfl rfl ?_
            refine v_iload E dL_acts_168 0 rfl ?_
            refine x_cSn E hA hTx dL_acts_170 (l_addCommit0 l D cI cZ cQ cJ a S hok hl (wA cI bx (z_U S) (va_up (z_C S) (z_nc S) (v)) (z_D S) (g9 S) (z_B S) (f9 S) qf (n9 (z_no S) (z_li S) (z_wi S) (z_bu S) (z_qn S))) v hv hlt) (vx_cwSW 2 E.2.2.2.1 gL_acts_L_addCommit rfl rfl rfl (by decide +kernel) ⟨Nat.le_of_ble_eq_true rfl, Nat.le_of_ble_eq_true rfl⟩) rfl rfl ⟨(by show _ ≤ 1002; omega), (by show _ ≤ 6012; omega)⟩ (Nat.le_of_ble_eq_true rfl) ?_
            refine v_iload E dL_acts_173 1 rfl ?_
            refine v_bipush E dL_acts_175 (v := nI 40) rfl ?_
            refine n_icmp_ge E dL_acts_177 (by omega) (by omega) (tgt := 185) (by decide) (fun c177 => ?_) (fun c177 => ?_)
            · exact absurd c177 (by omega)
            · refine v_iload E dL_acts_180 1 rfl ?_
              refine v_goto E dL_acts_182 (tgt := 187) (by decide) ?_
              refine n_icmp_ne E dL_acts_187 (by omega) (by omega) (tgt := 204) (by decide) (fun c187 => ?_) (fun c187 => ?_)
              · exact absurd c187 (by omega)
              · refine v_aload_n E dL_acts_190 4 rfl rfl ?_
                refine v_iconst E dL_acts_191 (v := (-1)) rfl ?_
                refine x_cSn E hA hTx dL_acts_192 (l_addCommitX l D cI cZ cQ cJ a ((sadC S (v))) (zOK_adC hok hv hlt) hl (wA cI bx (z_U S) (va_up (z_C S) (z_nc S) (v)) (z_D S) (g9 S) (z_B S) (f9 S) qf (n9 (z_no S) (z_li S) (z_wi S) (z_bu S) (z_qn S)))  ) (vx_cwSW 2 E.2.2.2.1 gL_acts_L_addCommit rfl rfl rfl (by decide +kernel) ⟨Nat.le_of_ble_eq_true rfl, Nat.le_of_ble_eq_true rfl⟩) rfl rfl ⟨(by show _ ≤ 1002; omega), (by show _ ≤ 6012; omega)⟩ (Nat.le_of_ble_eq_true rfl) ?_
                refine v_ldc E dL_acts_195 (v := -1000002) (x := (-1000002)) (by decide +kernel) rfl ?_
                refine v_icmp_ne E dL_acts_197 (tgt := 204) (by decide) (fun c197 => ?_) (fun c197 => ?_)
                · exact absurd rfl c197
                · refine v_iconst E dL_acts_200 (v := nI 1) rfl ?_
                  refine v_goto E dL_acts_201 (tgt := 205) (by decide) ?_
                  exact y_retz E hr rfl rfl rfl rfl (by omega) (by omega) dL_acts_205
        · refine v_iload E dL_acts_149 1 rfl ?_
          refine n_if_ne E dL_acts_151 (by omega) (tgt := 206) (by decide) (fun c151 => ?_) (fun c151 => ?_)
          · exact absurd c151 (by omega)
          · refine v_iload E dL_acts_154 1 rfl ?_
            refine v_bipush E dL_acts_156 (v := nI 40) rfl ?_
            refine n_icmp_ge E dL_acts_158 (by omega) (by omega) (tgt := 167) (by decide) (fun c158 => ?_) (fun c158 => ?_)
            · exact absurd c158 (by omega)
            · refine v_aload_n E dL_acts_161 6 rfl rfl ?_
              refine v_iload E dL_acts_162 1 rfl ?_
              refine v_iload E dL_acts_164 0 rfl ?_
              refine v_iast E dL_acts_166 1 0 rfl rfl (by omega) (by decide) (w' := ((wA cI bx (z_U S) (va_up (z_C S) (z_nc S) (v)) (z_D S) (g9 S) (z_B S) (f9 S) qf (n9 (z_no S) (z_li S) (z_wi S) (z_bu S) (z_qn S))) ++ wX cI cZ cQ a S)) (wA_c _ _) ?_
              refine v_aload_n E dL_acts_167 4 rfl rfl ?_
              refine v_iload E dL_acts_168 0 rfl ?_
              refine x_cSn E hA hTx dL_acts_170 (l_addCommit0 l D cI cZ cQ cJ a S hok hl (wA cI bx (z_U S) (va_up (z_C S) (z_nc S) (v)) (z_D S) (g9 S) (z_B S) (f9 S) qf (n9 (z_no S) (z_li S) (z_wi S) (z_bu S) (z_qn S))) v hv hlt) (vx_cwSW 2 E.2.2.2.1 gL_acts_L_addCommit rfl rfl rfl (by decide +kernel) ⟨Nat.le_of_ble_eq_true rfl, Nat.le_of_ble_eq_true rfl⟩) rfl rfl ⟨(by show _ ≤ 1002; omega), (by show _ ≤ 6012; omega)⟩ (Nat.le_of_ble_eq_true rfl) ?_
              refine v_iload E dL_acts_173 1 rfl ?_
              refine v_bipush E dL_acts_175 (v := nI 40) rfl ?_
              refine n_icmp_ge E dL_acts_177 (by omega) (by omega) (tgt := 185) (by decide) (fun c177 => ?_) (fun c177 => ?_)
              · exact absurd c177 (by omega)
              · refine v_iload E dL_acts_180 1 rfl ?_
                refine v_goto E dL_acts_182 (tgt := 187) (by decide) ?_
                refine n_icmp_ne E dL_acts_187 (by omega) (by omega) (tgt := 204) (by decide) (fun c187 => ?_) (fun c187 => ?_)
                · exact absurd c187 (by omega)
                · refine v_aload_n E dL_acts_190 4 rfl rfl ?_
                  refine v_iconst E dL_acts_191 (v := (-1)) rfl ?_
                  refine x_cSn E hA hTx dL_acts_192 (l_addCommitX l D cI cZ cQ cJ a ((sadC S (v))) (zOK_adC hok hv hlt) hl (wA cI bx (z_U S) (va_up (z_C S) (z_nc S) (v)) (z_D S) (g9 S) (z_B S) (f9 S) qf (n9 (z_no S) (z_li S) (z_wi S) (z_bu S) (z_qn S)))  ) (vx_cwSW 2 E.2.2.2.1 gL_acts_L_addCommit rfl rfl rfl (by decide +kernel) ⟨Nat.le_of_ble_eq_true rfl, Nat.le_of_ble_eq_true rfl⟩) rfl rfl ⟨(by show _ ≤ 1002; omega), (by show _ ≤ 6012; omega)⟩ (Nat.le_of_ble_eq_true rfl) ?_
                  refine v_ldc E dL_acts_195 (v := -1000002) (x := (-1000002)) (by decide +kernel) rfl ?_
                  refine v_icmp_ne E dL_acts_197 (tgt := 204) (by decide) (fun c197 => ?_) (fun c197 => ?_)
                  · exact absurd rfl c197
                  · refine v_iconst E dL_acts_200 (v := nI 1) rfl ?_
                    refine v_goto E dL_acts_201 (tgt := 205) (by decide) ?_
                    exact y_retz E hr rfl rfl rfl rfl (by omega) (by omega) dL_acts_205
      · exact absurd c80 (by omega)
  refine n_if_ne E dL_acts_51 (by omega) (tgt := 69) (by decide) (fun c51 => ?_) (fun c51 => ?_)
  · refine v_iconst E dL_acts_69 (v := nI 0) rfl ?_
    refine v_top (y := nI ((if lo9 (u1 >>> (nI (8) &&& 31)) % 3 = 0 then 2 ^ (lo9 (u1 >>> (nI (10) &&& 31)) % 16) else 0))) (by rw [if_neg (by omega)]) ?_
    exact J70_1
  · refine v_iconst E dL_acts_54 (v := nI 1) rfl ?_
    refine v_iload E dL_acts_55 13 rfl ?_
    refine v_bipush E dL_acts_57 (v := nI 10) rfl ?_
    refine v_ishr E dL_acts_59 (z := ((u1 >>> (nI (10) &&& 31)))) rfl ?_
    refine v_bipush E dL_acts_60 (v := nI 16) rfl ?_
    refine v_cSi' E dL_acts_62 (x_L_low l D cI cZ cQ cJ (((u1 >>> (nI (10) &&& 31)))) (16) (by omega) (by omega)) (va_cwS 2 E.2.2.2.1 gL_acts_L_low rfl rfl rfl (by decide +kernel) ⟨Nat.le_of_ble_eq_true rfl, Nat.le_of_ble_eq_true rfl⟩) (fun _ _ => v_nil _) rfl rfl ⟨(by show _ ≤ 1002; omega), (by show _ ≤ 6012; omega)⟩ (Nat.le_of_ble_eq_true rfl) ?_
    refine v_ishl E dL_acts_65 (n_shl1 (by omega)) ?_
    refine v_goto E dL_acts_66 (tgt := 70) (by decide) ?_
    refine v_top (y := nI ((if lo9 (u1 >>> (nI (8) &&& 31)) % 3 = 0 then 2 ^ (lo9 (u1 >>> (nI (10) &&& 31)) % 16) else 0))) (by rw [if_pos c51]) ?_
    exact J70_1
set_option maxHeartbeats 8000000 in
set_option maxRecDepth 100000 in
theorem z_acts_B2 (l : Launch) (D : va_G) (cI cZ cQ cJ : ClassId) (a bx : Nat → Nat) (S : zS) (hok : zOK S) (hl : l.stackTraces = false) (qf : Nat → Nat) (u0 u1 : Int32) (kd v : Nat) (ekd : lo9 u0 % 24 = kd) (est : st9 u1 = v)(hnt : 0 < z_nt S) (hk0 : 0 < kd) (hB : kd < 6 ∨ z_nc S = 0) (hlt : ¬ z_nc S < 40) : v_Thr l yL_acts wsL_acts { frames := 10, cells := 1002, slots := 6012, locals := 193 } D (wTy cI cZ cQ cJ) [.ref (a 0), .ref (bx 0), .ref (bx 1), .ref (bx 2), .ref (bx 3), .ref (bx 4), .ref (bx 5), .ref (bx 6), .ref (bx 7), .int (u0), .int (u1)] ((wA cI bx (z_U S) (z_C S) (z_D S) (g9 S) (z_B S) (f9 S) qf (n9 (z_no S) (z_li S) (z_wi S) (z_bu S) (z_qn S))) ++ wX cI cZ cQ a S) 0 exI (some (.int (nI 1))) ((wA cI bx (z_U S) (z_C S) (z_D S) (g9 S) (z_B S) (f9 S) qf (n9 (z_no S) (z_li S) (z_wi S) (z_bu S) (z_qn S))) ++ wX cI cZ cQ a S) 1002 6012 := by
  refine v_thrower (cc := cL_acts) (maxL := 20) (ret := (some .boolean)) (own := RL) (lv0 := [(0, .ref (a 0)), (1, .ref (bx 0)), (2, .ref (bx 1)), (3, .ref (bx 2)), (4, .ref (bx 3)), (5, .ref (bx 4)), (6, .ref (bx 5)), (7, .ref (bx 6)), (8, .ref (bx 7)), (9, .int (u0)), (10, .int (u1))]) (by decide) rfl rfl (Nat.le_of_ble_eq_true rfl) rfl ?_
  intro p9 e9 s9 m9 as9 bl9 me9 cd9 A E hA htab hTx hr
  have hn1 := hok.1.1
  have hn2 := hok.1.2.1
  have hkd : kd < 24 := by rw [← ekd]; exact Nat.mod_lt _ (by decide)
  have hv : v < 65536 := by rw [← est]; exact st9_lt u1
  have hqn := zqn_le hok
  refine v_iload E dL_acts_0 9 rfl ?_
  refine v_bipush E dL_acts_2 (v := nI 24) rfl ?_
  refine v_cSi' E dL_acts_4 (x_L_low l D cI cZ cQ cJ ((u0)) (24) (by omega) (by omega)) (va_cwS 2 E.2.2.2.1 gL_acts_L_low rfl rfl rfl (by decide +kernel) ⟨Nat.le_of_ble_eq_true rfl, Nat.le_of_ble_eq_true rfl⟩) (fun _ _ => v_nil _) rfl rfl ⟨(by show _ ≤ 1002; omega), (by show _ ≤ 6012; omega)⟩ (Nat.le_of_ble_eq_true rfl) ?_
  refine v_top (y := nI (kd)) (congrArg nI ekd) ?_
  refine v_istore E dL_acts_7 (by decide) rfl ?_
  refine v_aload_n E dL_acts_9 1 rfl rfl ?_
  refine v_cVi' E dL_acts_10 (x_X1_tests l D cI cZ cQ cJ a S hok) (cwV 0 E.2.2.2.1 gL_acts_X1_tests rfl rfl rfl (by decide +kernel) ⟨Nat.le_of_ble_eq_true rfl, Nat.le_of_ble_eq_true rfl⟩) 8 rfl rfl rfl (fun H h => subR H h) rfl rfl ⟨(by show _ ≤ 1002; omega), (by show _ ≤ 6012; omega)⟩ (Nat.le_of_ble_eq_true rfl) ?_
  refine v_istore E dL_acts_13 (by decide) rfl ?_
  refine v_aload_n E dL_acts_15 2 rfl rfl ?_
  refine v_cVi' E dL_acts_16 (x_X1_commits l D cI cZ cQ cJ a S hok) (cwV 0 E.2.2.2.1 gL_acts_X1_commits rfl rfl rfl (by decide +kernel) ⟨Nat.le_of_ble_eq_true rfl, Nat.le_of_ble_eq_true rfl⟩) 8 rfl rfl rfl (fun H h => subR H h) rfl rfl ⟨(by show _ ≤ 1002; omega), (by show _ ≤ 6012; omega)⟩ (Nat.le_of_ble_eq_true rfl) ?_
  refine v_istore E dL_acts_19 (by decide) rfl ?_
  refine v_iconst E dL_acts_21 (v := nI 1) rfl ?_
  refine v_iload E dL_acts_22 13 rfl ?_
  refine v_bipush E dL_acts_24 (v := nI 16) rfl ?_
  refine v_cSi' E dL_acts_26 (x_L_low l D cI cZ cQ cJ ((u1)) (16) (by omega) (by omega)) (va_cwS 2 E.2.2.2.1 gL_acts_L_low rfl rfl rfl (by decide +kernel) ⟨Nat.le_of_ble_eq_true rfl, Nat.le_of_ble_eq_true rfl⟩) (fun _ _ => v_nil _) rfl rfl ⟨(by show _ ≤ 1002; omega), (by show _ ≤ 6012; omega)⟩ (Nat.le_of_ble_eq_true rfl) ?_
  refine v_ishl E dL_acts_29 (n_shl1 (by omega)) ?_
  refine v_iconst E dL_acts_30 (v := nI 1) rfl ?_
  refine v_iload E dL_acts_31 13 rfl ?_
  refine v_iconst E dL_acts_33 (v := nI 4) rfl ?_
  refine v_ishr E dL_acts_34 (z := ((u1 >>> (nI (4) &&& 31)))) rfl ?_
  refine v_bipush E dL_acts_35 (v := nI 6) rfl ?_
  refine v_cSi' E dL_acts_37 (x_L_low l D cI cZ cQ cJ (((u1 >>> (nI (4) &&& 31)))) (6) (by omega) (by omega)) (va_cwS 2 E.2.2.2.1 gL_acts_L_low rfl rfl rfl (by decide +kernel) ⟨Nat.le_of_ble_eq_true rfl, Nat.le_of_ble_eq_true rfl⟩) (fun _ _ => v_nil _) rfl rfl ⟨(by show _ ≤ 1002; omega), (by show _ ≤ 6012; omega)⟩ (Nat.le_of_ble_eq_true rfl) ?_
  refine v_ishl E dL_acts_40 (n_shl1 (by omega)) ?_
  refine v_ior E dL_acts_41 (nx_or _ _) ?_
  refine v_iload E dL_acts_42 13 rfl ?_
  refine v_bipush E dL_acts_44 (v := nI 8) rfl ?_
  refine v_ishr E dL_acts_46 (z := ((u1 >>> (nI (8) &&& 31)))) rfl ?_
  refine v_iconst E dL_acts_47 (v := nI 3) rfl ?_
  refine v_cSi' E dL_acts_48 (x_L_low l D cI cZ cQ cJ (((u1 >>> (nI (8) &&& 31)))) (3) (by omega) (by omega)) (va_cwS 2 E.2.2.2.1 gL_acts_L_low rfl rfl rfl (by decide +kernel) ⟨Nat.le_of_ble_eq_true rfl, Nat.le_of_ble_eq_true rfl⟩) (fun _ _ => v_nil _) rfl rfl ⟨(by show _ ≤ 1002; omega), (by show _ ≤ 6012; omega)⟩ (Nat.le_of_ble_eq_true rfl) ?_
  have J70_1 : V p9 l e9 (headSpec wsL_acts { frames := 10, cells := 1002, slots := 6012, locals := 193 }).room s9 m9 as9 bl9 me9 cd9 (0) (0) (vx_MQ bl9 (v_Qo D (wTy cI cZ cQ cJ) (0 = 0) (some (.int (nI 1))) ((wA cI bx (z_U S) (z_C S) (z_D S) (g9 S) (z_B S) (f9 S) qf (n9 (z_no S) (z_li S) (z_wi S) (z_bu S) (z_qn S))) ++ wX cI cZ cQ a S) A) (v_XC D (wTy cI cZ cQ cJ) 0 exI ((wA cI bx (z_U S) (z_C S) (z_D S) (g9 S) (z_B S) (f9 S) qf (n9 (z_no S) (z_li S) (z_wi S) (z_bu S) (z_qn S))) ++ wX cI cZ cQ a S) A) as9 s9 1002 6012 A) (v_rw D A s9) 20 70 [(13, .int (nI (z_nc S))), (12, .int (nI (z_nt S))), (11, .int (nI (kd))), (0, .ref (a 0)), (1, .ref (bx 0)), (2, .ref (bx 1)), (3, .ref (bx 2)), (4, .ref (bx 3)), (5, .ref (bx 4)), (6, .ref (bx 5)), (7, .ref (bx 6)), (8, .ref (bx 7)), (9, .int (u0)), (10, .int (u1))] [.int (nI ((if lo9 (u1 >>> (nI (8) &&& 31)) % 3 = 0 then 2 ^ (lo9 (u1 >>> (nI (10) &&& 31)) % 16) else 0))), .int (nI ((2 ^ (lo9 ((u1)) % 16)) ||| (2 ^ (lo9 (((u1 >>> (nI (4) &&& 31)))) % 6))))] ((wA cI bx (z_U S) (z_C S) (z_D S) (g9 S) (z_B S) (f9 S) qf (n9 (z_no S) (z_li S) (z_wi S) (z_bu S) (z_qn S))) ++ wX cI cZ cQ a S) := by
    refine v_ior E dL_acts_70 (nx_or _ _) ?_
    refine v_top (y := nI (v)) (congrArg nI est) ?_
    refine v_istore E dL_acts_71 (by decide) rfl ?_
    refine v_iload E dL_acts_73 3 rfl ?_
    refine n_if_eq E dL_acts_75 (by omega) (tgt := 83) (by decide) (fun c75 => ?_) (fun c75 => ?_)
    · exact absurd c75 (by omega)
    · refine v_iload E dL_acts_78 2 rfl ?_
      refine n_if_ne E dL_acts_80 (by omega) (tgt := 142) (by decide) (fun c80 => ?_) (fun c80 => ?_)
      · refine v_iload E dL_acts_142 3 rfl ?_
        refine v_bipush E dL_acts_144 (v := nI 6) rfl ?_
        refine n_icmp_lt E dL_acts_146 (by omega) (by omega) (tgt := 154) (by decide) (fun c146 => ?_) (fun c146 => ?_)
        · refine v_iload E dL_acts_154 1 rfl ?_
          refine v_bipush E dL_acts_156 (v := nI 40) rfl ?_
          refine n_icmp_ge E dL_acts_158 (by omega) (by omega) (tgt := 167) (by decide) (fun c158 => ?_) (fun c158 => ?_)
          · refine v_aload_n E dL_acts_167 4 rfl rfl ?_
            refine v_iload E dL_acts_168 0 rfl ?_
            refine x_cSn E hA hTx dL_acts_170 (l_addCommitF l D cI cZ cQ cJ a S hok hl (wA cI bx (z_U S) (z_C S) (z_D S) (g9 S) (z_B S) (f9 S) qf (n9 (z_no S) (z_li S) (z_wi S) (z_bu S) (z_qn S))) v hv hlt) (vx_cwSW 2 E.2.2.2.1 gL_acts_L_addCommit rfl rfl rfl (by decide +kernel) ⟨Nat.le_of_ble_eq_true rfl, Nat.le_of_ble_eq_true rfl⟩) rfl rfl ⟨(by show _ ≤ 1002; omega), (by show _ ≤ 6012; omega)⟩ (Nat.le_of_ble_eq_true rfl) ?_
            refine v_iload E dL_acts_173 1 rfl ?_
            refine v_bipush E dL_acts_175 (v := nI 40) rfl ?_
            refine n_icmp_ge E dL_acts_177 (by omega) (by omega) (tgt := 185) (by decide) (fun c177 => ?_) (fun c177 => ?_)
            · refine v_ldc E dL_acts_185 (v := -1000003) (x := (-1000003)) (by decide +kernel) rfl ?_
              refine v_icmp_ne E dL_acts_187 (tgt := 204) (by decide) (fun c187 => ?_) (fun c187 => ?_)
              · exact absurd rfl c187
              · refine v_aload_n E dL_acts_190 4 rfl rfl ?_
                refine v_iconst E dL_acts_191 (v := (-1)) rfl ?_
                refine x_cSn E hA hTx dL_acts_192 (l_addCommitX l D cI cZ cQ cJ a S hok hl (wA cI bx (z_U S) (z_C S) (z_D S) (g9 S) (z_B S) (f9 S) qf (n9 (z_no S) (z_li S) (z_wi S) (z_bu S) (z_qn S)))  ) (vx_cwSW 2 E.2.2.2.1 gL_acts_L_addCommit rfl rfl rfl (by decide +kernel) ⟨Nat.le_of_ble_eq_true rfl, Nat.le_of_ble_eq_true rfl⟩) rfl rfl ⟨(by show _ ≤ 1002; omega), (by show _ ≤ 6012; omega)⟩ (Nat.le_of_ble_eq_true rfl) ?_
                refine v_ldc E dL_acts_195 (v := -1000002) (x := (-1000002)) (by decide +kernel) rfl ?_
                refine v_icmp_ne E dL_acts_197 (tgt := 204) (by decide) (fun c197 => ?_) (fun c197 => ?_)
                · exact absurd rfl c197
                · refine v_iconst E dL_acts_200 (v := nI 1) rfl ?_
                  refine v_goto E dL_acts_201 (tgt := 205) (by decide) ?_
                  exact y_retz E hr rfl rfl rfl rfl (by omega) (by omega) dL_acts_205
            · exact absurd c177 (by omega)
          · exact absurd c158 (by omega)
        · refine v_iload E dL_acts_149 1 rfl ?_
          refine n_if_ne E dL_acts_151 (by omega) (tgt := 206) (by decide) (fun c151 => ?_) (fun c151 => ?_)
          · exact absurd c151 (by omega)
          · refine v_iload E dL_acts_154 1 rfl ?_
            refine v_bipush E dL_acts_156 (v := nI 40) rfl ?_
            refine n_icmp_ge E dL_acts_158 (by omega) (by omega) (tgt := 167) (by decide) (fun c158 => ?_) (fun c158 => ?_)
            · refine v_aload_n E dL_acts_167 4 rfl rfl ?_
              refine v_iload E dL_acts_168 0 rfl ?_
              refine x_cSn E hA hTx dL_acts_170 (l_addCommitF l D cI cZ cQ cJ a S hok hl (wA cI bx (z_U S) (z_C S) (z_D S) (g9 S) (z_B S) (f9 S) qf (n9 (z_no S) (z_li S) (z_wi S) (z_bu S) (z_qn S))) v hv hlt) (vx_cwSW 2 E.2.2.2.1 gL_acts_L_addCommit rfl rfl rfl (by decide +kernel) ⟨Nat.le_of_ble_eq_true rfl, Nat.le_of_ble_eq_true rfl⟩) rfl rfl ⟨(by show _ ≤ 1002; omega), (by show _ ≤ 6012; omega)⟩ (Nat.le_of_ble_eq_true rfl) ?_
              refine v_iload E dL_acts_173 1 rfl ?_
              refine v_bipush E dL_acts_175 (v := nI 40) rfl ?_
              refine n_icmp_ge E dL_acts_177 (by omega) (by omega) (tgt := 185) (by decide) (fun c177 => ?_) (fun c177 => ?_)
              · refine v_ldc E dL_acts_185 (v := -1000003) (x := (-1000003)) (by decide +kernel) rfl ?_
                refine v_icmp_ne E dL_acts_187 (tgt := 204) (by decide) (fun c187 => ?_) (fun c187 => ?_)
                · exact absurd rfl c187
                · refine v_aload_n E dL_acts_190 4 rfl rfl ?_
                  refine v_iconst E dL_acts_191 (v := (-1)) rfl ?_
                  refine x_cSn E hA hTx dL_acts_192 (l_addCommitX l D cI cZ cQ cJ a S hok hl (wA cI bx (z_U S) (z_C S) (z_D S) (g9 S) (z_B S) (f9 S) qf (n9 (z_no S) (z_li S) (z_wi S) (z_bu S) (z_qn S)))  ) (vx_cwSW 2 E.2.2.2.1 gL_acts_L_addCommit rfl rfl rfl (by decide +kernel) ⟨Nat.le_of_ble_eq_true rfl, Nat.le_of_ble_eq_true rfl⟩) rfl rfl ⟨(by show _ ≤ 1002; omega), (by show _ ≤ 6012; omega)⟩ (Nat.le_of_ble_eq_true rfl) ?_
                  refine v_ldc E dL_acts_195 (v := -1000002) (x := (-1000002)) (by decide +kernel) rfl ?_
                  refine v_icmp_ne E dL_acts_197 (tgt := 204) (by decide) (fun c197 => ?_) (fun c197 => ?_)
                  · exact absurd rfl c197
                  · refine v_iconst E dL_acts_200 (v := nI 1) rfl ?_
                    refine v_goto E dL_acts_201 (tgt := 205) (by decide) ?_
                    exact y_retz E hr rfl rfl rfl rfl (by omega) (by omega) dL_acts_205
              · exact absurd c177 (by omega)
            · exact absurd c158 (by omega)
      · exact absurd c80 (by omega)
  refine n_if_ne E dL_acts_51 (by omega) (tgt := 69) (by decide) (fun c51 => ?_) (fun c51 => ?_)
  · refine v_iconst E dL_acts_69 (v := nI 0) rfl ?_
    refine v_top (y := nI ((if lo9 (u1 >>> (nI (8) &&& 31)) % 3 = 0 then 2 ^ (lo9 (u1 >>> (nI (10) &&& 31)) % 16) else 0))) (by rw [if_neg (by omega)]) ?_
    exact J70_1
  · refine v_iconst E dL_acts_54 (v := nI 1) rfl ?_
    refine v_iload E dL_acts_55 13 rfl ?_
    refine v_bipush E dL_acts_57 (v := nI 10) rfl ?_
    refine v_ishr E dL_acts_59 (z := ((u1 >>> (nI (10) &&& 31)))) rfl ?_
    refine v_bipush E dL_acts_60 (v := nI 16) rfl ?_
    refine v_cSi' E dL_acts_62 (x_L_low l D cI cZ cQ cJ (((u1 >>> (nI (10) &&& 31)))) (16) (by omega) (by omega)) (va_cwS 2 E.2.2.2.1 gL_acts_L_low rfl rfl rfl (by decide +kernel) ⟨Nat.le_of_ble_eq_true rfl, Nat.le_of_ble_eq_true rfl⟩) (fun _ _ => v_nil _) rfl rfl ⟨(by show _ ≤ 1002; omega), (by show _ ≤ 6012; omega)⟩ (Nat.le_of_ble_eq_true rfl) ?_
    refine v_ishl E dL_acts_65 (n_shl1 (by omega)) ?_
    refine v_goto E dL_acts_66 (tgt := 70) (by decide) ?_
    refine v_top (y := nI ((if lo9 (u1 >>> (nI (8) &&& 31)) % 3 = 0 then 2 ^ (lo9 (u1 >>> (nI (10) &&& 31)) % 16) else 0))) (by rw [if_pos c51]) ?_
    exact J70_1
