/-! ===== the law: takes ===== -/
set_option maxHeartbeats 8000000 in
set_option maxRecDepth 100000 in
theorem z_takes (l : Launch) (D : va_G) (cI cZ cQ cJ : ClassId) (a bx : Nat → Nat) (S : zS) (hok : zOK S) (hl : l.stackTraces = false) (qf : Nat → Nat) (hq : ∀ i, i < z_qn S → qf i = z_Q S i) : v_Thr l yL_takes wsL_takes { frames := 9, cells := 3, slots := 18, locals := 154 } D (wTy cI cZ cQ cJ) [.ref (a 0), .ref (bx 6), .ref (bx 7)] ((wA cI bx (z_U S) (z_C S) (z_D S) (g9 S) (z_B S) (f9 S) qf (n9 (z_no S) (z_li S) (z_wi S) (z_bu S) (z_qn S))) ++ wX cI cZ cQ a S) 0 exI (some (.int (nI 1))) ((wA cI bx (z_U ((tk9 S))) (z_C ((tk9 S))) (z_D ((tk9 S))) (g9 ((tk9 S))) (z_B ((tk9 S))) (f9 ((tk9 S))) (qt9 S qf) (n9 (z_no ((tk9 S))) (z_li ((tk9 S))) (z_wi ((tk9 S))) (z_bu ((tk9 S))) (z_qn ((tk9 S))))) ++ wX cI cZ cQ a ((tk9 S))) 3 18 := by
  refine v_thrower (cc := cL_takes) (maxL := 6) (ret := (some .boolean)) (own := RL) (lv0 := [(0, .ref (a 0)), (1, .ref (bx 6)), (2, .ref (bx 7))]) (by decide) rfl rfl (Nat.le_of_ble_eq_true rfl) rfl ?_
  intro p9 e9 s9 m9 as9 bl9 me9 cd9 A E hA htab hTx hr
  have hn1 := hok.1.1
  have hn2 := hok.1.2.1
  have hqn := zqn_le hok
  have hbu := hok.1.2.2.2.2.2.2.2
  refine v_aload_n E dL_takes_0 2 rfl rfl ?_
  refine v_iconst E dL_takes_1 (v := nI 4) rfl ?_
  refine v_iald E dL_takes_2 (v := nI (z_qn S)) 7 0 rfl rfl (by omega) (by decide) rfl ?_
  refine n_if_eq E dL_takes_3 (by omega) (tgt := 12) (by decide) (fun c3 => ?_) (fun c3 => ?_)
  · refine v_aload_n E dL_takes_12 0 rfl rfl ?_
    refine x_cSn E hA hTx dL_takes_13 (l_takeF l D cI cZ cQ cJ a S hok hl (wA cI bx (z_U S) (z_C S) (z_D S) (g9 S) (z_B S) (f9 S) qf (n9 (z_no S) (z_li S) (z_wi S) (z_bu S) (z_qn S)))  (Or.inl c3)) (vx_cwSW 1 E.2.2.2.1 gL_takes_L_take rfl rfl rfl (by decide +kernel) ⟨Nat.le_of_ble_eq_true rfl, Nat.le_of_ble_eq_true rfl⟩) rfl rfl ⟨(by show _ ≤ 3; omega), (by show _ ≤ 18; omega)⟩ (Nat.le_of_ble_eq_true rfl) ?_
    refine v_ldc E dL_takes_16 (v := -1000003) (x := (-1000003)) (by decide +kernel) rfl ?_
    refine v_icmp_ne E dL_takes_18 (tgt := 25) (by decide) (fun c18 => ?_) (fun c18 => ?_)
    · exact absurd rfl c18
    · refine v_iconst E dL_takes_21 (v := nI 1) rfl ?_
      refine v_goto E dL_takes_22 (tgt := 26) (by decide) ?_
      exact y_retz E hr rfl rfl rfl (by rw [tk9_f (Or.inl c3), qt9_f (Or.inl c3)]) (by omega) (by omega) dL_takes_26
  · refine v_aload_n E dL_takes_6 2 rfl rfl ?_
    refine v_iconst E dL_takes_7 (v := nI 3) rfl ?_
    refine v_iald E dL_takes_8 (v := nI (z_bu S)) 7 0 rfl rfl (by omega) (by decide) rfl ?_
    refine n_if_ne E dL_takes_9 (by omega) (tgt := 27) (by decide) (fun c9 => ?_) (fun c9 => ?_)
    · have hfT : z_T S (z_Q S 0) = true := hok.2.2.2.1.1 0 c3
      obtain ⟨hft, hT2, hT3⟩ := hok.2.2.1 _ hfT
      have hcl : zcc S (z_Q S 0) ≤ z_B S (z_Q S 0) + 1 := ct_le _ _
      refine v_aload_n E dL_takes_27 1 rfl rfl ?_
      refine v_iconst E dL_takes_28 (v := nI 0) rfl ?_
      refine v_iald E dL_takes_29 (v := nI (z_Q S 0)) 6 0 rfl rfl (by omega) (by decide) (congrArg nI (hq 0 c3)) ?_
      refine v_istore_n E dL_takes_30 rfl (by decide) rfl ?_
      refine v_aload_n E dL_takes_31 1 rfl rfl ?_
      refine v_iload_n E dL_takes_32 0 rfl rfl ?_
      refine x_cSn E hA hTx dL_takes_33 (l_candidates0 l D cI cZ cQ cJ a S hok hl (wA cI bx (z_U S) (z_C S) (z_D S) (g9 S) (z_B S) (f9 S) qf (n9 (z_no S) (z_li S) (z_wi S) (z_bu S) (z_qn S))) ((z_Q S 0)) hft hfT) (vx_cwSW 2 E.2.2.2.1 gL_takes_L_candidates rfl rfl rfl (by decide +kernel) ⟨Nat.le_of_ble_eq_true rfl, Nat.le_of_ble_eq_true rfl⟩) rfl rfl ⟨(by show _ ≤ 3; omega), (by show _ ≤ 18; omega)⟩ (Nat.le_of_ble_eq_true rfl) ?_
      refine v_cSi' E dL_takes_36 (x_L_many l D cI cZ cQ cJ (msk (cnd S (((z_Q S 0)))) (z_B S (((z_Q S 0))) + 1)) (Nat.lt_trans (msk_lt62 _ (by omega)) (by decide))) (va_cwS 1 E.2.2.2.1 gL_takes_L_many rfl rfl rfl (by decide +kernel) ⟨Nat.le_of_ble_eq_true rfl, Nat.le_of_ble_eq_true rfl⟩) (fun _ _ => v_nil _) rfl rfl ⟨(by show _ ≤ 3; omega), (by show _ ≤ 18; omega)⟩ (Nat.le_of_ble_eq_true rfl) ?_
      refine v_top (y := nI (zcc S (z_Q S 0))) (congrArg nI (po9_msk (by omega))) ?_
      refine v_iconst E dL_takes_39 (v := nI 1) rfl ?_
      have J48_1 : V p9 l e9 (headSpec wsL_takes { frames := 9, cells := 3, slots := 18, locals := 154 }).room s9 m9 as9 bl9 me9 cd9 (0 + 2) (0 + 12) (vx_MQ bl9 (v_Qo D (wTy cI cZ cQ cJ) (0 = 0) (some (.int (nI 1))) ((wA cI bx (z_U ((tk9 S))) (z_C ((tk9 S))) (z_D ((tk9 S))) (g9 ((tk9 S))) (z_B ((tk9 S))) (f9 ((tk9 S))) (qt9 S qf) (n9 (z_no ((tk9 S))) (z_li ((tk9 S))) (z_wi ((tk9 S))) (z_bu ((tk9 S))) (z_qn ((tk9 S))))) ++ wX cI cZ cQ a ((tk9 S))) A) (v_XC D (wTy cI cZ cQ cJ) 0 exI ((wA cI bx (z_U S) (z_C S) (z_D S) (g9 S) (z_B S) (f9 S) qf (n9 (z_no S) (z_li S) (z_wi S) (z_bu S) (z_qn S))) ++ wX cI cZ cQ a S) A) as9 s9 3 18 A) (v_rw D A s9) 6 48 [(3, .int (nI (z_Q S 0))), (0, .ref (a 0)), (1, .ref (bx 6)), (2, .ref (bx 7))] [.int (bI (decide (1 < zcc S (z_Q S 0))))] ((wA cI bx (z_U S) (z_C S) (z_D S) (g9 S) (z_B S) (f9 S) qf (n9 (z_no S) (z_li S) (z_wi S) (z_bu S) (z_qn S))) ++ wX cI cZ cQ a S) := by
        refine v_istore E dL_takes_48 (by decide) rfl ?_
        refine v_iconst E dL_takes_50 (v := nI 1) rfl ?_
        refine v_istore E dL_takes_51 (by decide) rfl ?_
        have L53_2 : ∀ (n53 : Nat) (k : Nat) (qc : Nat → Nat), z_qn S - k < n53 → (1 ≤ k) → (k ≤ z_qn S) → (qc = sh9 qf k) → V p9 l e9 (headSpec wsL_takes { frames := 9, cells := 3, slots := 18, locals := 154 }).room s9 m9 as9 bl9 me9 cd9 (0 + 2) (0 + 12) (vx_MQ bl9 (v_Qo D (wTy cI cZ cQ cJ) (0 = 0) (some (.int (nI 1))) ((wA cI bx (z_U ((tk9 S))) (z_C ((tk9 S))) (z_D ((tk9 S))) (g9 ((tk9 S))) (z_B ((tk9 S))) (f9 ((tk9 S))) (qt9 S qf) (n9 (z_no ((tk9 S))) (z_li ((tk9 S))) (z_wi ((tk9 S))) (z_bu ((tk9 S))) (z_qn ((tk9 S))))) ++ wX cI cZ cQ a ((tk9 S))) A) (v_XC D (wTy cI cZ cQ cJ) 0 exI ((wA cI bx (z_U S) (z_C S) (z_D S) (g9 S) (z_B S) (f9 S) qf (n9 (z_no S) (z_li S) (z_wi S) (z_bu S) (z_qn S))) ++ wX cI cZ cQ a S) A) as9 s9 3 18 A) (v_rw D A s9) 6 53 [(5, .int (nI (k))), (4, .int (bI (decide (1 < zcc S (z_Q S 0))))), (3, .int (nI (z_Q S 0))), (0, .ref (a 0)), (1, .ref (bx 6)), (2, .ref (bx 7))] [] ((wA cI bx (z_U S) (z_C S) (z_D S) (g9 S) (z_B S) (f9 S) qc (n9 (z_no S) (z_li S) (z_wi S) (z_bu S) (z_qn S))) ++ wX cI cZ cQ a S) := by
          intro n53
          induction n53 with
          | zero => intro k qc hm53 hk1 hk2 hqc; exact absurd hm53 (Nat.not_lt_zero _)
          | succ n53 ih53 =>
            intro k qc hm53 hk1 hk2 hqc
            refine v_iload E dL_takes_53 0 rfl ?_
            refine v_aload_n E dL_takes_55 5 rfl rfl ?_
            refine v_iconst E dL_takes_56 (v := nI 4) rfl ?_
            refine v_iald E dL_takes_57 (v := nI (z_qn S)) 7 0 rfl rfl (by omega) (by decide) rfl ?_
            refine n_icmp_ge E dL_takes_58 (by omega) (by omega) (tgt := 77) (by decide) (fun c58 => ?_) (fun c58 => ?_)
            · refine v_aload_n E dL_takes_77 4 rfl rfl ?_
              refine v_aload_n E dL_takes_78 5 rfl rfl ?_
              refine v_iconst E dL_takes_79 (v := nI 4) rfl ?_
              refine v_iald E dL_takes_80 (v := nI (z_qn S)) 7 0 rfl rfl (by omega) (by decide) rfl ?_
              refine v_iconst E dL_takes_81 (v := nI 1) rfl ?_
              refine v_isub E dL_takes_82 (pk_sub (by omega)) ?_
              refine v_iload_n E dL_takes_83 2 rfl rfl ?_
              refine v_iast E dL_takes_84 6 0 rfl rfl (by omega) (by decide) (w' := ((wA cI bx (z_U S) (z_C S) (z_D S) (g9 S) (z_B S) (f9 S) (va_up qc (z_qn S - 1) (z_Q S 0)) (n9 (z_no S) (z_li S) (z_wi S) (z_bu S) (z_qn S))) ++ wX cI cZ cQ a S)) (wA_q _ _) ?_
              refine v_aload_n E dL_takes_85 5 rfl rfl ?_
              refine v_iconst E dL_takes_86 (v := nI 4) rfl ?_
              refine v_dup2 E dL_takes_87 rfl rfl ?_
              refine v_iald E dL_takes_88 (v := nI (z_qn S)) 7 0 rfl rfl (by omega) (by decide) rfl ?_
              refine v_iload E dL_takes_89 1 rfl ?_
              have J99_3 : V p9 l e9 (headSpec wsL_takes { frames := 9, cells := 3, slots := 18, locals := 154 }).room s9 m9 as9 bl9 me9 cd9 (0 + 2) (0 + 12) (vx_MQ bl9 (v_Qo D (wTy cI cZ cQ cJ) (0 = 0) (some (.int (nI 1))) ((wA cI bx (z_U ((tk9 S))) (z_C ((tk9 S))) (z_D ((tk9 S))) (g9 ((tk9 S))) (z_B ((tk9 S))) (f9 ((tk9 S))) (qt9 S qf) (n9 (z_no ((tk9 S))) (z_li ((tk9 S))) (z_wi ((tk9 S))) (z_bu ((tk9 S))) (z_qn ((tk9 S))))) ++ wX cI cZ cQ a ((tk9 S))) A) (v_XC D (wTy cI cZ cQ cJ) 0 exI ((wA cI bx (z_U S) (z_C S) (z_D S) (g9 S) (z_B S) (f9 S) qf (n9 (z_no S) (z_li S) (z_wi S) (z_bu S) (z_qn S))) ++ wX cI cZ cQ a S) A) as9 s9 3 18 A) (v_rw D A s9) 6 99 [(5, .int (nI (k))), (4, .int (bI (decide (1 < zcc S (z_Q S 0))))), (3, .int (nI (z_Q S 0))), (0, .ref (a 0)), (1, .ref (bx 6)), (2, .ref (bx 7))] [.int (nI (b1 (!decide (1 < zcc S (z_Q S 0))))), .int (nI (z_qn S)), .int (nI (4)), .ref (bx 7)] ((wA cI bx (z_U S) (z_C S) (z_D S) (g9 S) (z_B S) (f9 S) (va_up qc (z_qn S - 1) (z_Q S 0)) (n9 (z_no S) (z_li S) (z_wi S) (z_bu S) (z_qn S))) ++ wX cI cZ cQ a S) := by
                refine v_isub E dL_takes_99 (z := nI (z_qn S - b1 (!decide (1 < zcc S (z_Q S 0))))) (pk_sub (by have := b1_le (!decide (1 < zcc S (z_Q S 0))); omega)) ?_
                refine v_iast E dL_takes_100 7 0 rfl rfl (by omega) (by decide) (w' := ((wA cI bx (z_U S) (z_C S) (z_D S) (g9 S) (z_B S) (f9 S) (va_up qc (z_qn S - 1) (z_Q S 0)) (n9 (z_no S) (z_li S) (z_wi S) (z_bu S) (z_qn S - b1 (!decide (1 < zcc S (z_Q S 0)))))) ++ wX cI cZ cQ a S)) (wA_n4 _) ?_
                refine v_aload_n E dL_takes_101 5 rfl rfl ?_
                refine v_iconst E dL_takes_102 (v := nI 3) rfl ?_
                refine v_dup2 E dL_takes_103 rfl rfl ?_
                refine v_iald E dL_takes_104 (v := nI (z_bu S)) 7 0 rfl rfl (by omega) (by decide) rfl ?_
                refine v_iconst E dL_takes_105 (v := nI 1) rfl ?_
                refine v_isub E dL_takes_106 (pk_sub (by omega)) ?_
                refine v_iast E dL_takes_107 7 0 rfl rfl (by omega) (by decide) (w' := ((wA cI bx (z_U S) (z_C S) (z_D S) (g9 S) (z_B S) (f9 S) (va_up qc (z_qn S - 1) (z_Q S 0)) (n9 (z_no S) (z_li S) (z_wi S) (z_bu S - 1) (z_qn S - b1 (!decide (1 < zcc S (z_Q S 0)))))) ++ wX cI cZ cQ a S)) (wA_n3 _) ?_
                refine v_aload_n E dL_takes_108 3 rfl rfl ?_
                refine x_cSn E hA hTx dL_takes_109 (l_take0 l D cI cZ cQ cJ a S hok hl (wA cI bx (z_U S) (z_C S) (z_D S) (g9 S) (z_B S) (f9 S) (va_up qc (z_qn S - 1) (z_Q S 0)) (n9 (z_no S) (z_li S) (z_wi S) (z_bu S - 1) (z_qn S - b1 (!decide (1 < zcc S (z_Q S 0))))))  c3 c9) (vx_cwSW 1 E.2.2.2.1 gL_takes_L_take rfl rfl rfl (by decide +kernel) ⟨Nat.le_of_ble_eq_true rfl, Nat.le_of_ble_eq_true rfl⟩) rfl rfl ⟨(by show _ ≤ 3; omega), (by show _ ≤ 18; omega)⟩ (Nat.le_of_ble_eq_true rfl) ?_
                refine v_iload_n E dL_takes_112 2 rfl rfl ?_
                refine v_icmp_ne E dL_takes_113 (tgt := 120) (by decide) (fun c113 => ?_) (fun c113 => ?_)
                · exact absurd rfl c113
                · refine v_iconst E dL_takes_116 (v := nI 1) rfl ?_
                  refine v_goto E dL_takes_117 (tgt := 121) (by decide) ?_
                  exact y_retz E hr rfl rfl rfl (by rw [hqc, show k = z_qn S by omega]; exact w_tk c3 c9 (wX cI cZ cQ a)) (by omega) (by omega) dL_takes_121
              refine b_if_eq E dL_takes_91 (tgt := 98) (by decide) (fun c91 => ?_) (fun c91 => ?_)
              · refine v_iconst E dL_takes_98 (v := nI 1) rfl ?_
                refine v_top (y := nI (b1 (!decide (1 < zcc S (z_Q S 0))))) (by rw [c91]; rfl) ?_
                exact J99_3
              · refine v_iconst E dL_takes_94 (v := nI 0) rfl ?_
                refine v_goto E dL_takes_95 (tgt := 99) (by decide) ?_
                refine v_top (y := nI (b1 (!decide (1 < zcc S (z_Q S 0))))) (by rw [c91]; rfl) ?_
                exact J99_3
            · refine v_aload_n E dL_takes_61 4 rfl rfl ?_
              refine v_iload E dL_takes_62 0 rfl ?_
              refine v_iconst E dL_takes_64 (v := nI 1) rfl ?_
              refine v_isub E dL_takes_65 (pk_sub (by omega)) ?_
              refine v_aload_n E dL_takes_66 4 rfl rfl ?_
              refine v_iload E dL_takes_67 0 rfl ?_
              refine v_iald E dL_takes_69 (v := nI (qf k)) 6 0 rfl rfl (by omega) (by decide) (by rw [hqc]; exact congrArg nI (if_neg (by omega))) ?_
              refine v_iast E dL_takes_70 6 0 rfl rfl (by omega) (by decide) (w' := ((wA cI bx (z_U S) (z_C S) (z_D S) (g9 S) (z_B S) (f9 S) (va_up qc (k - 1) (qf k)) (n9 (z_no S) (z_li S) (z_wi S) (z_bu S) (z_qn S))) ++ wX cI cZ cQ a S)) (wA_q _ _) ?_
              refine v_iinc E dL_takes_71 0 rfl (nI_1 _) (by decide) rfl ?_
              refine v_goto E dL_takes_74 (tgt := 53) (by decide) ?_
              refine v_lv [0, 1, 2, 3, 4, 5] rfl ?_
              exact ih53 (k + 1) ((va_up qc (k - 1) (qf k))) (by omega) (by omega) (by omega) (by rw [hqc]; exact sh9_s hk1)
        refine v_lv [0, 1, 2, 3, 4, 5] rfl ?_
        exact L53_2 (z_qn S - (1) + 1) (1) (qf) (by omega) (by omega) (by omega) (sh9_1 qf)
      refine n_icmp_le E dL_takes_40 (by omega) (by omega) (tgt := 47) (by decide) (fun c40 => ?_) (fun c40 => ?_)
      · refine v_iconst E dL_takes_47 (v := nI 0) rfl ?_
        refine v_top (y := bI (decide (1 < zcc S (z_Q S 0)))) (by rw [decide_eq_false (by omega)]; rfl) ?_
        exact J48_1
      · refine v_iconst E dL_takes_43 (v := nI 1) rfl ?_
        refine v_goto E dL_takes_44 (tgt := 48) (by decide) ?_
        refine v_top (y := bI (decide (1 < zcc S (z_Q S 0)))) (by rw [decide_eq_true c40]; rfl) ?_
        exact J48_1
    · refine v_aload_n E dL_takes_12 0 rfl rfl ?_
      refine x_cSn E hA hTx dL_takes_13 (l_takeF l D cI cZ cQ cJ a S hok hl (wA cI bx (z_U S) (z_C S) (z_D S) (g9 S) (z_B S) (f9 S) qf (n9 (z_no S) (z_li S) (z_wi S) (z_bu S) (z_qn S)))  (Or.inr c9)) (vx_cwSW 1 E.2.2.2.1 gL_takes_L_take rfl rfl rfl (by decide +kernel) ⟨Nat.le_of_ble_eq_true rfl, Nat.le_of_ble_eq_true rfl⟩) rfl rfl ⟨(by show _ ≤ 3; omega), (by show _ ≤ 18; omega)⟩ (Nat.le_of_ble_eq_true rfl) ?_
      refine v_ldc E dL_takes_16 (v := -1000003) (x := (-1000003)) (by decide +kernel) rfl ?_
      refine v_icmp_ne E dL_takes_18 (tgt := 25) (by decide) (fun c18 => ?_) (fun c18 => ?_)
      · exact absurd rfl c18
      · refine v_iconst E dL_takes_21 (v := nI 1) rfl ?_
        refine v_goto E dL_takes_22 (tgt := 26) (by decide) ?_
        exact y_retz E hr rfl rfl rfl (by rw [tk9_f (Or.inr c9), qt9_f (Or.inr c9)]) (by omega) (by omega) dL_takes_26
