/-! ===== the law: acts, runs ===== -/
set_option maxHeartbeats 8000000 in
set_option maxRecDepth 100000 in
theorem z_acts_J (l : Launch) (D : va_G) (cI cZ cQ cJ : ClassId) (a bx : Nat → Nat) (S : zS) (hok : zOK S) (hl : l.stackTraces = false) (qf : Nat → Nat) (u0 u1 : Int32) (kd v : Nat) (t c : Nat) (ekd : lo9 u0 % 24 = kd) (est : st9 u1 = v)(et : lo9 (u0 >>> (nI (5) &&& 31)) % z_nt S = t) (ec : lo9 u1 % z_nc S = c) (hnt : 0 < z_nt S) (hnc : 0 < z_nc S)(hkd6 : 16 ≤ kd) (hN : zN S) : v_Thr l yL_acts wsL_acts { frames := 10, cells := 1002, slots := 6012, locals := 193 } D (wTy cI cZ cQ cJ) [.ref (a 0), .ref (bx 0), .ref (bx 1), .ref (bx 2), .ref (bx 3), .ref (bx 4), .ref (bx 5), .ref (bx 6), .ref (bx 7), .int (u0), .int (u1)] ((wA cI bx (z_U S) (z_C S) (z_D S) (g9 S) (z_B S) (f9 S) qf (n9 (z_no S) (z_li S) (z_wi S) (z_bu S) (z_qn S))) ++ wX cI cZ cQ a S) 0 exI (some (.int (nI 1))) ((wA cI bx (z_U ((rr9 S t u1 4))) (z_C ((rr9 S t u1 4))) (z_D ((rr9 S t u1 4))) (g9 ((rr9 S t u1 4))) (z_B ((rr9 S t u1 4))) (f9 ((rr9 S t u1 4))) qf (n9 (z_no ((rr9 S t u1 4))) (z_li ((rr9 S t u1 4))) (z_wi ((rr9 S t u1 4))) (z_bu ((rr9 S t u1 4))) (z_qn ((rr9 S t u1 4))))) ++ wX cI cZ cQ a ((rr9 S t u1 4))) 1002 6012 := by
  refine v_thrower (cc := cL_acts) (maxL := 20) (ret := (some .boolean)) (own := RL) (lv0 := [(0, .ref (a 0)), (1, .ref (bx 0)), (2, .ref (bx 1)), (3, .ref (bx 2)), (4, .ref (bx 3)), (5, .ref (bx 4)), (6, .ref (bx 5)), (7, .ref (bx 6)), (8, .ref (bx 7)), (9, .int (u0)), (10, .int (u1))]) (by decide) rfl rfl (Nat.le_of_ble_eq_true rfl) rfl ?_
  intro p9 e9 s9 m9 as9 bl9 me9 cd9 A E hA htab hTx hr
  have hn1 := hok.1.1
  have hn2 := hok.1.2.1
  have hkd : kd < 24 := by rw [← ekd]; exact Nat.mod_lt _ (by decide)
  have hv : v < 65536 := by rw [← est]; exact st9_lt u1
  have hqn := zqn_le hok
  have ht : t < z_nt S := by rw [← et]; exact Nat.mod_lt _ hnt
  have hc : c < z_nc S := by rw [← ec]; exact Nat.mod_lt _ hnc
  refine v_iload E dL_acts_0 9 rfl ?_
  refine v_bipush E dL_acts_2 (v := nI 24) rfl ?_
  refine v_cSi' E dL_acts_4 (x_L_low l D cI cZ cQ cJ ((u0)) (24) (by omega) (by omega)) (va_cwS 2 E.2.2.2.1 gL_acts_L_low rfl rfl rfl (by decide +kernel) ⟨Nat.le_of_ble_eq_true rfl, Nat.le_of_ble_eq_true rfl⟩) (fun _ _ => v_nil _) rfl rfl ⟨(by show _ ≤ 1002; omega), (by show _ ≤ 6012; omega)⟩ (Nat.le_of_ble_eq_true rfl) ?_
  refine v_top (y := nI (kd)) (congrArg nI ekd) ?_
  refine v_istore E dL_acts_7 (by decide) rfl ?_
  refine v_aload_n E dL_acts_9 1 rfl rfl ?_
  refine v_cVi' E dL_acts_10 (x_X1_tests l D cI cZ cQ cJ a S hok) (cwV 0 E.2.2.2.1 gL_acts_X1_tests rfl rfl rfl (by decide +kernel) ⟨Nat.le_of_ble_eq_true rfl, Nat.le_of_ble_eq_true rfl⟩) 8 rfl rfl rfl (fun H h => subR H h) rfl rfl ⟨(by show _ ≤ 1002; omega), (by show _ ≤ 6012; omega)⟩ (Nat.le_of_ble_eq_true rfl) ?_
  refine v_istore E dL_acts_13 (by decide) rfl ?_
  refine v_aload_n E dL_acts_15 2 rfl rfl ?_
  refine v_cVi' E dL_acts_16 (x_X1_commits l D cI cZ cQ cJ a S hok) (cwV 0 E.2.2.2.1 gL_acts_X1_commits rfl rfl rfl (by decide +kernel) ⟨Nat.le_of_ble_eq_true rfl, Nat.le_of_ble_eq_true rfl⟩) 8 rfl rfl rfl (fun H h => subR H h) rfl rfl ⟨(by show _ ≤ 1002; omega), (by show _ ≤ 6012; omega)⟩ (Nat.le_of_ble_eq_true rfl) ?_
  refine v_istore E dL_acts_19 (by decide) rfl ?_
  refine v_iconst E dL_acts_21 (v := nI 1) rfl ?_
  refine v_iload E dL_acts_22 13 rfl ?_
  refine v_bipush E dL_acts_24 (v := nI 16) rfl ?_
  refine v_cSi' E dL_acts_26 (x_L_low l D cI cZ cQ cJ ((u1)) (16) (by omega) (by omega)) (va_cwS 2 E.2.2.2.1 gL_acts_L_low rfl rfl rfl (by decide +kernel) ⟨Nat.le_of_ble_eq_true rfl, Nat.le_of_ble_eq_true rfl⟩) (fun _ _ => v_nil _) rfl rfl ⟨(by show _ ≤ 1002; omega), (by show _ ≤ 6012; omega)⟩ (Nat.le_of_ble_eq_true rfl) ?_
  refine v_ishl E dL_acts_29 (n_shl1 (by omega)) ?_
  refine v_iconst E dL_acts_30 (v := nI 1) rfl ?_
  refine v_iload E dL_acts_31 13 rfl ?_
  refine v_iconst E dL_acts_33 (v := nI 4) rfl ?_
  refine v_ishr E dL_acts_34 (z := ((u1 >>> (nI (4) &&& 31)))) rfl ?_
  refine v_bipush E dL_acts_35 (v := nI 6) rfl ?_
  refine v_cSi' E dL_acts_37 (x_L_low l D cI cZ cQ cJ (((u1 >>> (nI (4) &&& 31)))) (6) (by omega) (by omega)) (va_cwS 2 E.2.2.2.1 gL_acts_L_low rfl rfl rfl (by decide +kernel) ⟨Nat.le_of_ble_eq_true rfl, Nat.le_of_ble_eq_true rfl⟩) (fun _ _ => v_nil _) rfl rfl ⟨(by show _ ≤ 1002; omega), (by show _ ≤ 6012; omega)⟩ (Nat.le_of_ble_eq_true rfl) ?_
  refine v_ishl E dL_acts_40 (n_shl1 (by omega)) ?_
  refine v_ior E dL_acts_41 (nx_or _ _) ?_
  refine v_iload E dL_acts_42 13 rfl ?_
  refine v_bipush E dL_acts_44 (v := nI 8) rfl ?_
  refine v_ishr E dL_acts_46 (z := ((u1 >>> (nI (8) &&& 31)))) rfl ?_
  refine v_iconst E dL_acts_47 (v := nI 3) rfl ?_
  refine v_cSi' E dL_acts_48 (x_L_low l D cI cZ cQ cJ (((u1 >>> (nI (8) &&& 31)))) (3) (by omega) (by omega)) (va_cwS 2 E.2.2.2.1 gL_acts_L_low rfl rfl rfl (by decide +kernel) ⟨Nat.le_of_ble_eq_true rfl, Nat.le_of_ble_eq_true rfl⟩) (fun _ _ => v_nil _) rfl rfl ⟨(by show _ ≤ 1002; omega), (by show _ ≤ 6012; omega)⟩ (Nat.le_of_ble_eq_true rfl) ?_
  have J70_1 : V p9 l e9 (headSpec wsL_acts { frames := 10, cells := 1002, slots := 6012, locals := 193 }).room s9 m9 as9 bl9 me9 cd9 (0) (0) (vx_MQ bl9 (v_Qo D (wTy cI cZ cQ cJ) (0 = 0) (some (.int (nI 1))) ((wA cI bx (z_U ((rr9 S t u1 4))) (z_C ((rr9 S t u1 4))) (z_D ((rr9 S t u1 4))) (g9 ((rr9 S t u1 4))) (z_B ((rr9 S t u1 4))) (f9 ((rr9 S t u1 4))) qf (n9 (z_no ((rr9 S t u1 4))) (z_li ((rr9 S t u1 4))) (z_wi ((rr9 S t u1 4))) (z_bu ((rr9 S t u1 4))) (z_qn ((rr9 S t u1 4))))) ++ wX cI cZ cQ a ((rr9 S t u1 4))) A) (v_XC D (wTy cI cZ cQ cJ) 0 exI ((wA cI bx (z_U S) (z_C S) (z_D S) (g9 S) (z_B S) (f9 S) qf (n9 (z_no S) (z_li S) (z_wi S) (z_bu S) (z_qn S))) ++ wX cI cZ cQ a S) A) as9 s9 1002 6012 A) (v_rw D A s9) 20 70 [(13, .int (nI (z_nc S))), (12, .int (nI (z_nt S))), (11, .int (nI (kd))), (0, .ref (a 0)), (1, .ref (bx 0)), (2, .ref (bx 1)), (3, .ref (bx 2)), (4, .ref (bx 3)), (5, .ref (bx 4)), (6, .ref (bx 5)), (7, .ref (bx 6)), (8, .ref (bx 7)), (9, .int (u0)), (10, .int (u1))] [.int (nI ((if lo9 (u1 >>> (nI (8) &&& 31)) % 3 = 0 then 2 ^ (lo9 (u1 >>> (nI (10) &&& 31)) % 16) else 0))), .int (nI ((2 ^ (lo9 ((u1)) % 16)) ||| (2 ^ (lo9 (((u1 >>> (nI (4) &&& 31)))) % 6))))] ((wA cI bx (z_U S) (z_C S) (z_D S) (g9 S) (z_B S) (f9 S) qf (n9 (z_no S) (z_li S) (z_wi S) (z_bu S) (z_qn S))) ++ wX cI cZ cQ a S) := by
    refine v_ior E dL_acts_70 (nx_or _ _) ?_
    refine v_top (y := nI (v)) (congrArg nI est) ?_
    refine v_istore E dL_acts_71 (by decide) rfl ?_
    refine v_iload E dL_acts_73 3 rfl ?_
    refine n_if_eq E dL_acts_75 (by omega) (tgt := 83) (by decide) (fun c75 => ?_) (fun c75 => ?_)
    · exact absurd c75 (by omega)
    · refine v_iload E dL_acts_78 2 rfl ?_
      refine n_if_ne E dL_acts_80 (by omega) (tgt := 142) (by decide) (fun c80 => ?_) (fun c80 => ?_)
      · refine v_iload E dL_acts_142 3 rfl ?_
        refine v_bipush E dL_acts_144 (v := nI 6) rfl ?_
        refine n_icmp_lt E dL_acts_146 (by omega) (by omega) (tgt := 154) (by decide) (fun c146 => ?_) (fun c146 => ?_)
        · exact absurd c146 (by omega)
        · refine v_iload E dL_acts_149 1 rfl ?_
          refine n_if_ne E dL_acts_151 (by omega) (tgt := 206) (by decide) (fun c151 => ?_) (fun c151 => ?_)
          · refine v_iload E dL_acts_206 13 rfl ?_
            refine v_iconst E dL_acts_208 (v := nI 5) rfl ?_
            refine v_ishr E dL_acts_209 (z := ((u0 >>> (nI (5) &&& 31)))) rfl ?_
            refine v_iload E dL_acts_210 2 rfl ?_
            refine v_cSi' E dL_acts_212 (x_L_low l D cI cZ cQ cJ (((u0 >>> (nI (5) &&& 31)))) (z_nt S) (by omega) (by omega)) (va_cwS 2 E.2.2.2.1 gL_acts_L_low rfl rfl rfl (by decide +kernel) ⟨Nat.le_of_ble_eq_true rfl, Nat.le_of_ble_eq_true rfl⟩) (fun _ _ => v_nil _) rfl rfl ⟨(by show _ ≤ 1002; omega), (by show _ ≤ 6012; omega)⟩ (Nat.le_of_ble_eq_true rfl) ?_
            refine v_top (y := nI (t)) (congrArg nI et) ?_
            refine v_istore E dL_acts_215 (by decide) rfl ?_
            refine v_iload E dL_acts_217 15 rfl ?_
            refine v_iload E dL_acts_219 2 rfl ?_
            refine v_cSi' E dL_acts_221 (x_L_low l D cI cZ cQ cJ ((u1)) (z_nc S) (by omega) (by omega)) (va_cwS 2 E.2.2.2.1 gL_acts_L_low rfl rfl rfl (by decide +kernel) ⟨Nat.le_of_ble_eq_true rfl, Nat.le_of_ble_eq_true rfl⟩) (fun _ _ => v_nil _) rfl rfl ⟨(by show _ ≤ 1002; omega), (by show _ ≤ 6012; omega)⟩ (Nat.le_of_ble_eq_true rfl) ?_
            refine v_top (y := nI (c)) (congrArg nI ec) ?_
            refine v_istore E dL_acts_224 (by decide) rfl ?_
            refine v_iload E dL_acts_226 5 rfl ?_
            refine v_bipush E dL_acts_228 (v := nI 6) rfl ?_
            refine n_icmp_ne E dL_acts_230 (by omega) (by omega) (tgt := 317) (by decide) (fun c230 => ?_) (fun c230 => ?_)
            · refine v_iload E dL_acts_317 5 rfl ?_
              refine v_bipush E dL_acts_319 (v := nI 7) rfl ?_
              refine n_icmp_ne E dL_acts_321 (by omega) (by omega) (tgt := 455) (by decide) (fun c321 => ?_) (fun c321 => ?_)
              · refine v_iload E dL_acts_455 5 rfl ?_
                refine v_bipush E dL_acts_457 (v := nI 10) rfl ?_
                refine n_icmp_ge E dL_acts_459 (by omega) (by omega) (tgt := 580) (by decide) (fun c459 => ?_) (fun c459 => ?_)
                · refine v_iload E dL_acts_580 5 rfl ?_
                  refine v_bipush E dL_acts_582 (v := nI 10) rfl ?_
                  refine n_icmp_ne E dL_acts_584 (by omega) (by omega) (tgt := 627) (by decide) (fun c584 => ?_) (fun c584 => ?_)
                  · refine v_iload E dL_acts_627 5 rfl ?_
                    refine v_bipush E dL_acts_629 (v := nI 13) rfl ?_
                    refine n_icmp_ge E dL_acts_631 (by omega) (by omega) (tgt := 743) (by decide) (fun c631 => ?_) (fun c631 => ?_)
                    · refine v_iload E dL_acts_743 5 rfl ?_
                      refine v_bipush E dL_acts_745 (v := nI 13) rfl ?_
                      refine n_icmp_ne E dL_acts_747 (by omega) (by omega) (tgt := 806) (by decide) (fun c747 => ?_) (fun c747 => ?_)
                      · refine v_iload E dL_acts_806 5 rfl ?_
                        refine v_bipush E dL_acts_808 (v := nI 16) rfl ?_
                        refine n_icmp_ge E dL_acts_810 (by omega) (by omega) (tgt := 822) (by decide) (fun c810 => ?_) (fun c810 => ?_)
                        · refine v_aload_n E dL_acts_822 6 rfl rfl ?_
                          refine v_iload E dL_acts_823 4 rfl ?_
                          refine v_iload E dL_acts_825 0 rfl ?_
                          refine v_iconst E dL_acts_827 (v := nI 1) rfl ?_
                          refine v_top (y := bI (true)) rfl ?_
                          refine x_cSn E hA hTx dL_acts_828 (l_recordX l D cI cZ cQ cJ a S hok hl (wA cI bx (z_U S) (z_C S) (z_D S) (g9 S) (z_B S) (f9 S) qf (n9 (z_no S) (z_li S) (z_wi S) (z_bu S) (z_qn S))) c hc) (vx_cwSW 4 E.2.2.2.1 gL_acts_L_record rfl rfl rfl (by decide +kernel) ⟨Nat.le_of_ble_eq_true rfl, Nat.le_of_ble_eq_true rfl⟩) rfl rfl ⟨(by show _ ≤ 1002; omega), (by show _ ≤ 6012; omega)⟩ (Nat.le_of_ble_eq_true rfl) ?_
                          refine v_ldc E dL_acts_831 (v := -1000001) (x := (-1000001)) (by decide +kernel) rfl ?_
                          refine v_icmp_ne E dL_acts_833 (tgt := 854) (by decide) (fun c833 => ?_) (fun c833 => ?_)
                          · exact absurd rfl c833
                          · refine v_aload_n E dL_acts_836 6 rfl rfl ?_
                            refine v_iload E dL_acts_837 1 rfl ?_
                            refine v_iload E dL_acts_839 3 rfl ?_
                            refine v_iconst E dL_acts_841 (v := nI 1) rfl ?_
                            refine v_top (y := bI (true)) rfl ?_
                            refine x_cSn E hA hTx dL_acts_842 (l_recordY l D cI cZ cQ cJ a S hok hl (wA cI bx (z_U S) (z_C S) (z_D S) (g9 S) (z_B S) (f9 S) qf (n9 (z_no S) (z_li S) (z_wi S) (z_bu S) (z_qn S))) t ht) (vx_cwSW 4 E.2.2.2.1 gL_acts_L_record rfl rfl rfl (by decide +kernel) ⟨Nat.le_of_ble_eq_true rfl, Nat.le_of_ble_eq_true rfl⟩) rfl rfl ⟨(by show _ ≤ 1002; omega), (by show _ ≤ 6012; omega)⟩ (Nat.le_of_ble_eq_true rfl) ?_
                            refine v_ldc E dL_acts_845 (v := -1000001) (x := (-1000001)) (by decide +kernel) rfl ?_
                            refine v_icmp_ne E dL_acts_847 (tgt := 854) (by decide) (fun c847 => ?_) (fun c847 => ?_)
                            · exact absurd rfl c847
                            · refine v_iconst E dL_acts_850 (v := nI 1) rfl ?_
                              refine v_goto E dL_acts_851 (tgt := 855) (by decide) ?_
                              refine v_istore E dL_acts_855 (by decide) rfl ?_
                              refine v_iconst E dL_acts_857 (v := nI 0) rfl ?_
                              refine v_istore E dL_acts_858 (by decide) rfl ?_
                              have L860_2 : ∀ (n860 : Nat) (k : Nat) (S4 : zS), 4 - k < n860 → (k ≤ 4) → (S4 = rr9 S t u1 k) → V p9 l e9 (headSpec wsL_acts { frames := 10, cells := 1002, slots := 6012, locals := 193 }).room s9 m9 as9 bl9 me9 cd9 (6 + 249 * k) (36 + 1494 * k) (vx_MQ bl9 (v_Qo D (wTy cI cZ cQ cJ) (0 = 0) (some (.int (nI 1))) ((wA cI bx (z_U ((rr9 S t u1 4))) (z_C ((rr9 S t u1 4))) (z_D ((rr9 S t u1 4))) (g9 ((rr9 S t u1 4))) (z_B ((rr9 S t u1 4))) (f9 ((rr9 S t u1 4))) qf (n9 (z_no ((rr9 S t u1 4))) (z_li ((rr9 S t u1 4))) (z_wi ((rr9 S t u1 4))) (z_bu ((rr9 S t u1 4))) (z_qn ((rr9 S t u1 4))))) ++ wX cI cZ cQ a ((rr9 S t u1 4))) A) (v_XC D (wTy cI cZ cQ cJ) 0 exI ((wA cI bx (z_U S) (z_C S) (z_D S) (g9 S) (z_B S) (f9 S) qf (n9 (z_no S) (z_li S) (z_wi S) (z_bu S) (z_qn S))) ++ wX cI cZ cQ a S) A) as9 s9 1002 6012 A) (v_rw D A s9) 20 860 [(17, .int (nI (1))), (18, .int (nI (k))), (16, .int (nI (c))), (15, .int (nI (t))), (14, .int (nI (v))), (13, .int (nI (z_nc S))), (12, .int (nI (z_nt S))), (11, .int (nI (kd))), (0, .ref (a 0)), (1, .ref (bx 0)), (2, .ref (bx 1)), (3, .ref (bx 2)), (4, .ref (bx 3)), (5, .ref (bx 4)), (6, .ref (bx 5)), (7, .ref (bx 6)), (8, .ref (bx 7)), (9, .int (u0)), (10, .int (u1))] [] ((wA cI bx (z_U S4) (z_C S4) (z_D S4) (g9 S4) (z_B S4) (f9 S4) qf (n9 (z_no S4) (z_li S4) (z_wi S4) (z_bu S4) (z_qn S4))) ++ wX cI cZ cQ a S4) := by
                                intro n860
                                induction n860 with
                                | zero => intro k S4 hm860 hk h4; exact absurd hm860 (Nat.not_lt_zero _)
                                | succ n860 ih860 =>
                                  intro k S4 hm860 hk h4
                                  obtain ⟨hok4, hN4, hs1, hs2, hs3, hs4, hs5⟩ : zOK S4 ∧ zN S4 ∧ same9 S S4 := by rw [h4]; exact rr9_ok hok hN t u1 hnc k
                                  refine v_iload E dL_acts_860 1 rfl ?_
                                  refine v_iconst E dL_acts_862 (v := nI 4) rfl ?_
                                  refine n_icmp_ge E dL_acts_863 (by omega) (by omega) (tgt := 933) (by decide) (fun c863 => ?_) (fun c863 => ?_)
                                  · refine v_iload E dL_acts_933 0 rfl ?_
                                    exact y_retz E hr rfl rfl rfl (by rw [h4, show k = 4 by omega]) (by omega) (by omega) dL_acts_935
                                  · refine v_iload E dL_acts_866 0 rfl ?_
                                    refine n_if_eq E dL_acts_868 (by omega) (tgt := 933) (by decide) (fun c868 => ?_) (fun c868 => ?_)
                                    · exact absurd c868 (by omega)
                                    · refine v_iload E dL_acts_871 18 rfl ?_
                                      refine v_iconst E dL_acts_873 (v := nI 5) rfl ?_
                                      refine v_iload E dL_acts_874 1 rfl ?_
                                      refine v_imul E dL_acts_876 (z := nI (5 * k)) (pk_mul _ _) ?_
                                      refine v_ishr E dL_acts_877 (z := ((u1 >>> (nI (5 * k) &&& 31)))) rfl ?_
                                      refine v_iload E dL_acts_878 5 rfl ?_
                                      refine v_cSi' E dL_acts_880 (x_L_low l D cI cZ cQ cJ (((u1 >>> (nI (5 * k) &&& 31)))) (z_nc S) (by omega) (by omega)) (va_cwS 2 E.2.2.2.1 gL_acts_L_low rfl rfl rfl (by decide +kernel) ⟨Nat.le_of_ble_eq_true rfl, Nat.le_of_ble_eq_true rfl⟩) (fun _ _ => v_nil _) rfl rfl ⟨(by show _ ≤ 1002; omega), (by show _ ≤ 6012; omega)⟩ (Nat.le_of_ble_eq_true rfl) ?_
                                      refine v_top (y := nI (cc9 u1 (z_nc S) k)) rfl ?_
                                      refine v_istore E dL_acts_883 (by decide) rfl ?_
                                      have hck := cc9_lt u1 k hnc
                                      refine v_aload_n E dL_acts_885 9 rfl rfl ?_
                                      refine v_aload E dL_acts_886 13 rfl ?_
                                      refine v_aload E dL_acts_888 14 rfl ?_
                                      refine v_aload E dL_acts_890 15 rfl ?_
                                      refine v_iload E dL_acts_892 4 rfl ?_
                                      refine v_iload E dL_acts_894 0 rfl ?_
                                      refine v_iload E dL_acts_896 19 rfl ?_
                                      refine v_iconst E dL_acts_898 (v := nI 5) rfl ?_
                                      refine v_iload E dL_acts_899 2 rfl ?_
                                      refine v_imul E dL_acts_901 (z := nI (5 * k)) (pk_mul _ _) ?_
                                      refine v_iconst E dL_acts_902 (v := nI 3) rfl ?_
                                      refine v_iadd E dL_acts_903 (nI_add _ _) ?_
                                      refine v_ishr E dL_acts_904 (z := ((u1 >>> (nI (5 * k + 3) &&& 31)))) rfl ?_
                                      refine v_iload E dL_acts_905 6 rfl ?_
                                      refine v_iconst E dL_acts_907 (v := nI 4) rfl ?_
                                      refine v_iadd E dL_acts_908 (nI_add _ _) ?_
                                      refine v_cSi' E dL_acts_909 (x_L_low l D cI cZ cQ cJ (((u1 >>> (nI (5 * k + 3) &&& 31)))) (z_nc S + 4) (by omega) (by omega)) (va_cwS 2 E.2.2.2.1 gL_acts_L_low rfl rfl rfl (by decide +kernel) ⟨Nat.le_of_ble_eq_true rfl, Nat.le_of_ble_eq_true rfl⟩) (fun _ _ => v_nil _) rfl rfl ⟨(by show _ ≤ 1002; omega), (by show _ ≤ 6012; omega)⟩ (Nat.le_of_ble_eq_true rfl) ?_
                                      have hdk := dd9_lt u1 (z_nc S) k
                                      refine v_top (y := nI (dd9 u1 (z_nc S) k)) rfl ?_
                                      refine v_iload E dL_acts_912 0 rfl ?_
                                      have J922_3 : V p9 l e9 (headSpec wsL_acts { frames := 10, cells := 1002, slots := 6012, locals := 193 }).room s9 m9 as9 bl9 me9 cd9 (6 + 249 * k) (36 + 1494 * k) (vx_MQ bl9 (v_Qo D (wTy cI cZ cQ cJ) (0 = 0) (some (.int (nI 1))) ((wA cI bx (z_U ((rr9 S t u1 4))) (z_C ((rr9 S t u1 4))) (z_D ((rr9 S t u1 4))) (g9 ((rr9 S t u1 4))) (z_B ((rr9 S t u1 4))) (f9 ((rr9 S t u1 4))) qf (n9 (z_no ((rr9 S t u1 4))) (z_li ((rr9 S t u1 4))) (z_wi ((rr9 S t u1 4))) (z_bu ((rr9 S t u1 4))) (z_qn ((rr9 S t u1 4))))) ++ wX cI cZ cQ a ((rr9 S t u1 4))) A) (v_XC D (wTy cI cZ cQ cJ) 0 exI ((wA cI bx (z_U S) (z_C S) (z_D S) (g9 S) (z_B S) (f9 S) qf (n9 (z_no S) (z_li S) (z_wi S) (z_bu S) (z_qn S))) ++ wX cI cZ cQ a S) A) as9 s9 1002 6012 A) (v_rw D A s9) 20 922 [(19, .int (nI (cc9 u1 (z_nc S) k))), (17, .int (nI (1))), (18, .int (nI (k))), (16, .int (nI (c))), (15, .int (nI (t))), (14, .int (nI (v))), (13, .int (nI (z_nc S))), (12, .int (nI (z_nt S))), (11, .int (nI (kd))), (0, .ref (a 0)), (1, .ref (bx 0)), (2, .ref (bx 1)), (3, .ref (bx 2)), (4, .ref (bx 3)), (5, .ref (bx 4)), (6, .ref (bx 5)), (7, .ref (bx 6)), (8, .ref (bx 7)), (9, .int (u0)), (10, .int (u1))] [.int (bI (pp9 u1 (z_nc S) k)), .int (nI (cc9 u1 (z_nc S) k)), .int (nI (t)), .ref (bx 5), .ref (bx 4), .ref (bx 3), .ref (a 0)] ((wA cI bx (z_U S4) (z_C S4) (z_D S4) (g9 S4) (z_B S4) (f9 S4) qf (n9 (z_no S4) (z_li S4) (z_wi S4) (z_bu S4) (z_qn S4))) ++ wX cI cZ cQ a S4) := by
                                        refine x_cSz E hA hTx dL_acts_922 (z_records l D cI cZ cQ cJ a bx S4 hok4 hl qf t (cc9 u1 (z_nc S) k) (pp9 u1 (z_nc S) k) (by omega) (by omega)) (va_cwS 7 E.2.2.2.1 gL_acts_L_records rfl rfl rfl (by decide +kernel) ⟨Nat.le_of_ble_eq_true rfl, Nat.le_of_ble_eq_true rfl⟩) rfl rfl ⟨(by show _ ≤ 1002; omega), (by show _ ≤ 6012; omega)⟩ (Nat.le_of_ble_eq_true rfl) ?_
                                        refine v_istore E dL_acts_925 (by decide) rfl ?_
                                        refine v_iinc E dL_acts_927 2 rfl (nI_1 _) (by decide) rfl ?_
                                        refine v_goto E dL_acts_930 (tgt := 860) (by decide) ?_
                                        refine v_more (c2 := 6 + 249 * (k + 1)) (s2 := 36 + 1494 * (k + 1)) (by omega) (by omega) ?_
                                        refine v_lv [1, 0, 3, 4, 5, 6, 7, 8, 9, 10, 11, 12, 13, 14, 15, 16, 17, 18, 19] rfl ?_
                                        exact ih860 (k + 1) ((srr S4 t (cc9 u1 (z_nc S) k) (pp9 u1 (z_nc S) k))) (by omega) (by omega) (by rw [h4]; rfl)
                                      refine n_icmp_le E dL_acts_914 (by omega) (by omega) (tgt := 921) (by decide) (fun c914 => ?_) (fun c914 => ?_)
                                      · refine v_iconst E dL_acts_921 (v := nI 0) rfl ?_
                                        refine v_top (y := bI (pp9 u1 (z_nc S) k)) (by rw [show pp9 u1 (z_nc S) k = false from decide_eq_false (by omega)]; rfl) ?_
                                        exact J922_3
                                      · refine v_iconst E dL_acts_917 (v := nI 1) rfl ?_
                                        refine v_goto E dL_acts_918 (tgt := 922) (by decide) ?_
                                        refine v_top (y := bI (pp9 u1 (z_nc S) k)) (by rw [show pp9 u1 (z_nc S) k = true from decide_eq_true c914]; rfl) ?_
                                        exact J922_3
                              refine v_more (c2 := 6 + 249 * (0)) (s2 := 36 + 1494 * (0)) (by omega) (by omega) ?_
                              refine v_lv [1, 0, 2, 3, 4, 5, 6, 7, 8, 9, 10, 11, 12, 13, 14, 15, 16, 17, 18] rfl ?_
                              exact L860_2 (4 - (0) + 1) (0) (S) (by omega) (by omega) rfl
                        · exact absurd c810 (by omega)
                      · exact absurd c747 (by omega)
                    · exact absurd c631 (by omega)
                  · exact absurd c584 (by omega)
                · exact absurd c459 (by omega)
              · exact absurd c321 (by omega)
            · exact absurd c230 (by omega)
          · exact absurd c151 (by omega)
      · exact absurd c80 (by omega)
  refine n_if_ne E dL_acts_51 (by omega) (tgt := 69) (by decide) (fun c51 => ?_) (fun c51 => ?_)
  · refine v_iconst E dL_acts_69 (v := nI 0) rfl ?_
    refine v_top (y := nI ((if lo9 (u1 >>> (nI (8) &&& 31)) % 3 = 0 then 2 ^ (lo9 (u1 >>> (nI (10) &&& 31)) % 16) else 0))) (by rw [if_neg (by omega)]) ?_
    exact J70_1
  · refine v_iconst E dL_acts_54 (v := nI 1) rfl ?_
    refine v_iload E dL_acts_55 13 rfl ?_
    refine v_bipush E dL_acts_57 (v := nI 10) rfl ?_
    refine v_ishr E dL_acts_59 (z := ((u1 >>> (nI (10) &&& 31)))) rfl ?_
    refine v_bipush E dL_acts_60 (v := nI 16) rfl ?_
    refine v_cSi' E dL_acts_62 (x_L_low l D cI cZ cQ cJ (((u1 >>> (nI (10) &&& 31)))) (16) (by omega) (by omega)) (va_cwS 2 E.2.2.2.1 gL_acts_L_low rfl rfl rfl (by decide +kernel) ⟨Nat.le_of_ble_eq_true rfl, Nat.le_of_ble_eq_true rfl⟩) (fun _ _ => v_nil _) rfl rfl ⟨(by show _ ≤ 1002; omega), (by show _ ≤ 6012; omega)⟩ (Nat.le_of_ble_eq_true rfl) ?_
    refine v_ishl E dL_acts_65 (n_shl1 (by omega)) ?_
    refine v_goto E dL_acts_66 (tgt := 70) (by decide) ?_
    refine v_top (y := nI ((if lo9 (u1 >>> (nI (8) &&& 31)) % 3 = 0 then 2 ^ (lo9 (u1 >>> (nI (10) &&& 31)) % 16) else 0))) (by rw [if_pos c51]) ?_
    exact J70_1
