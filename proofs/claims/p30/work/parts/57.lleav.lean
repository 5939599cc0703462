/-! ===== the law: leaves ===== -/
set_option maxHeartbeats 8000000 in
set_option maxRecDepth 100000 in
theorem z_leaves (l : Launch) (D : va_G) (cI cZ cQ cJ : ClassId) (a bx : Nat → Nat) (S : zS) (hok : zOK S) (hl : l.stackTraces = false) (qf : Nat → Nat) (t : Nat) (ht : t < z_nt S) (hT : z_T S t = true) (hq : ∀ i, i < z_qn S → qf i = z_Q S i) : v_Thr l yL_leaves wsL_leaves { frames := 9, cells := 4, slots := 24, locals := 155 } D (wTy cI cZ cQ cJ) [.ref (a 0), .ref (bx 3), .ref (bx 6), .ref (bx 7), .int (nI (t))] ((wA cI bx (z_U S) (z_C S) (z_D S) (g9 S) (z_B S) (f9 S) qf (n9 (z_no S) (z_li S) (z_wi S) (z_bu S) (z_qn S))) ++ wX cI cZ cQ a S) 0 exI (some (.int (nI 1))) ((wA cI bx (z_U ((sclo S t))) (z_C ((sclo S t))) (z_D ((sclo S t))) (g9 ((sclo S t))) (z_B ((sclo S t))) (f9 ((sclo S t))) (cq9 qf (plc (z_Q S) (z_qn S) t) (z_qn S)) (n9 (z_no ((sclo S t))) (z_li ((sclo S t))) (z_wi ((sclo S t))) (z_bu ((sclo S t))) (z_qn ((sclo S t))))) ++ wX cI cZ cQ a ((sclo S t))) 4 24 := by
  refine v_thrower (cc := cL_leaves) (maxL := 10) (ret := (some .boolean)) (own := RL) (lv0 := [(0, .ref (a 0)), (1, .ref (bx 3)), (2, .ref (bx 6)), (3, .ref (bx 7)), (4, .int (nI (t)))]) (by decide) rfl rfl (Nat.le_of_ble_eq_true rfl) rfl ?_
  intro p9 e9 s9 m9 as9 bl9 me9 cd9 A E hA htab hTx hr
  have hn1 := hok.1.1
  have hn2 := hok.1.2.1
  have hqn := zqn_le hok
  obtain ⟨hT1, hT2, hT3⟩ := hok.2.2.1 t hT
  have hM62 : msk (cnd S t) (z_B S t + 1) < 2 ^ 62 := Nat.lt_trans (msk_lt62 _ (by omega)) (by decide)
  have hcl : zcc S t ≤ z_B S t + 1 := ct_le _ _
  refine v_aload_n E dL_leaves_0 0 rfl rfl ?_
  refine v_iload E dL_leaves_1 4 rfl ?_
  refine x_cSn E hA hTx dL_leaves_3 (l_candidates0 l D cI cZ cQ cJ a S hok hl (wA cI bx (z_U S) (z_C S) (z_D S) (g9 S) (z_B S) (f9 S) qf (n9 (z_no S) (z_li S) (z_wi S) (z_bu S) (z_qn S))) t ht hT) (vx_cwSW 2 E.2.2.2.1 gL_leaves_L_candidates rfl rfl rfl (by decide +kernel) ⟨Nat.le_of_ble_eq_true rfl, Nat.le_of_ble_eq_true rfl⟩) rfl rfl ⟨(by show _ ≤ 4; omega), (by show _ ≤ 24; omega)⟩ (Nat.le_of_ble_eq_true rfl) ?_
  refine v_lstore E dL_leaves_6 (by decide) rfl ?_
  refine v_iconst E dL_leaves_8 (v := nI 0) rfl ?_
  refine v_istore E dL_leaves_9 (by decide) rfl ?_
  have L11_1 : ∀ (n11 : Nat) (o : Nat), 40 - o < n11 → (o ≤ 40) → (∀ j, j < o → cnd S t j = false) → V p9 l e9 (headSpec wsL_leaves { frames := 9, cells := 4, slots := 24, locals := 155 }).room s9 m9 as9 bl9 me9 cd9 (0 + 2) (0 + 12) (vx_MQ bl9 (v_Qo D (wTy cI cZ cQ cJ) (0 = 0) (some (.int (nI 1))) ((wA cI bx (z_U ((sclo S t))) (z_C ((sclo S t))) (z_D ((sclo S t))) (g9 ((sclo S t))) (z_B ((sclo S t))) (f9 ((sclo S t))) (cq9 qf (plc (z_Q S) (z_qn S) t) (z_qn S)) (n9 (z_no ((sclo S t))) (z_li ((sclo S t))) (z_wi ((sclo S t))) (z_bu ((sclo S t))) (z_qn ((sclo S t))))) ++ wX cI cZ cQ a ((sclo S t))) A) (v_XC D (wTy cI cZ cQ cJ) 0 exI ((wA cI bx (z_U S) (z_C S) (z_D S) (g9 S) (z_B S) (f9 S) qf (n9 (z_no S) (z_li S) (z_wi S) (z_bu S) (z_qn S))) ++ wX cI cZ cQ a S) A) as9 s9 4 24 A) (v_rw D A s9) 10 11 [(7, .int (nI (o))), (5, .long (lN (msk (cnd S (t)) (z_B S (t) + 1)))), (0, .ref (a 0)), (1, .ref (bx 3)), (2, .ref (bx 6)), (3, .ref (bx 7)), (4, .int (nI (t)))] [] ((wA cI bx (z_U S) (z_C S) (z_D S) (g9 S) (z_B S) (f9 S) qf (n9 (z_no S) (z_li S) (z_wi S) (z_bu S) (z_qn S))) ++ wX cI cZ cQ a S) := by
    intro n11
    induction n11 with
    | zero => intro o hm11 ho hlo; exact absurd hm11 (Nat.not_lt_zero _)
    | succ n11 ih11 =>
      intro o hm11 ho hlo
      refine v_iload E dL_leaves_11 0 rfl ?_
      refine v_bipush E dL_leaves_13 (v := nI 40) rfl ?_
      refine n_icmp_ge E dL_leaves_15 (by omega) (by omega) (tgt := 36) (by decide) (fun c15 => ?_) (fun c15 => ?_)
      · have hoo : o = 40 ∨ cnd S t o = true := Or.inl (by omega)
        refine v_iconst E dL_leaves_36 (v := nI 0) rfl ?_
        refine v_istore E dL_leaves_37 (by decide) rfl ?_
        refine v_iconst E dL_leaves_39 (v := nI 0) rfl ?_
        refine v_istore E dL_leaves_40 (by decide) rfl ?_
        have L42_2 : ∀ (n42 : Nat) (k : Nat) (to : Nat) (qc : Nat → Nat), z_qn S - k < n42 → (k ≤ z_qn S) → (to = lv9 (plc (z_Q S) (z_qn S) t) k) → (qc = cq9 qf (plc (z_Q S) (z_qn S) t) k) → V p9 l e9 (headSpec wsL_leaves { frames := 9, cells := 4, slots := 24, locals := 155 }).room s9 m9 as9 bl9 me9 cd9 (0 + 2) (0 + 12) (vx_MQ bl9 (v_Qo D (wTy cI cZ cQ cJ) (0 = 0) (some (.int (nI 1))) ((wA cI bx (z_U ((sclo S t))) (z_C ((sclo S t))) (z_D ((sclo S t))) (g9 ((sclo S t))) (z_B ((sclo S t))) (f9 ((sclo S t))) (cq9 qf (plc (z_Q S) (z_qn S) t) (z_qn S)) (n9 (z_no ((sclo S t))) (z_li ((sclo S t))) (z_wi ((sclo S t))) (z_bu ((sclo S t))) (z_qn ((sclo S t))))) ++ wX cI cZ cQ a ((sclo S t))) A) (v_XC D (wTy cI cZ cQ cJ) 0 exI ((wA cI bx (z_U S) (z_C S) (z_D S) (g9 S) (z_B S) (f9 S) qf (n9 (z_no S) (z_li S) (z_wi S) (z_bu S) (z_qn S))) ++ wX cI cZ cQ a S) A) as9 s9 4 24 A) (v_rw D A s9) 10 42 [(8, .int (nI (to))), (9, .int (nI (k))), (7, .int (nI (o))), (5, .long (lN (msk (cnd S (t)) (z_B S (t) + 1)))), (0, .ref (a 0)), (1, .ref (bx 3)), (2, .ref (bx 6)), (3, .ref (bx 7)), (4, .int (nI (t)))] [] ((wA cI bx (z_U S) (z_C S) (z_D S) (g9 S) (z_B S) (f9 S) qc (n9 (z_no S) (z_li S) (z_wi S) (z_bu S) (z_qn S))) ++ wX cI cZ cQ a S) := by
          intro n42
          induction n42 with
          | zero => intro k to qc hm42 hk hto hqc; exact absurd hm42 (Nat.not_lt_zero _)
          | succ n42 ih42 =>
            intro k to qc hm42 hk hto hqc
            have htol : to ≤ k := by rw [hto]; exact lv9_le _ _
            refine v_iload E dL_leaves_42 1 rfl ?_
            refine v_aload_n E dL_leaves_44 7 rfl rfl ?_
            refine v_iconst E dL_leaves_45 (v := nI 4) rfl ?_
            refine v_iald E dL_leaves_46 (v := nI (z_qn S)) 7 0 rfl rfl (by omega) (by decide) rfl ?_
            refine n_icmp_ge E dL_leaves_47 (by omega) (by omega) (tgt := 83) (by decide) (fun c47 => ?_) (fun c47 => ?_)
            · refine v_aload_n E dL_leaves_83 7 rfl rfl ?_
              refine v_iconst E dL_leaves_84 (v := nI 4) rfl ?_
              refine v_iload E dL_leaves_85 0 rfl ?_
              refine v_iast E dL_leaves_87 7 0 rfl rfl (by omega) (by decide) (w' := ((wA cI bx (z_U S) (z_C S) (z_D S) (g9 S) (z_B S) (f9 S) qc (n9 (z_no S) (z_li S) (z_wi S) (z_bu S) to)) ++ wX cI cZ cQ a S)) (wA_n4 _) ?_
              refine v_aload_n E dL_leaves_88 5 rfl rfl ?_
              refine v_iload E dL_leaves_89 8 rfl ?_
              refine v_iconst E dL_leaves_91 (v := (-1)) rfl ?_
              refine v_iast E dL_leaves_92 3 0 rfl rfl (by omega) (by decide) (w' := ((wA cI bx (z_U S) (z_C S) (z_D S) (upd (g9 S) (t) (((-1)))) (z_B S) (f9 S) qc (n9 (z_no S) (z_li S) (z_wi S) (z_bu S) to)) ++ wX cI cZ cQ a S)) (wA_g _ _) ?_
              refine v_aload_n E dL_leaves_93 4 rfl rfl ?_
              refine v_iload E dL_leaves_94 8 rfl ?_
              refine x_cSn E hA hTx dL_leaves_96 (l_close0 l D cI cZ cQ cJ a S hok hl (wA cI bx (z_U S) (z_C S) (z_D S) (upd (g9 S) (t) (((-1)))) (z_B S) (f9 S) qc (n9 (z_no S) (z_li S) (z_wi S) (z_bu S) to)) t ht hT) (vx_cwSW 2 E.2.2.2.1 gL_leaves_L_close rfl rfl rfl (by decide +kernel) ⟨Nat.le_of_ble_eq_true rfl, Nat.le_of_ble_eq_true rfl⟩) rfl rfl ⟨(by show _ ≤ 4; omega), (by show _ ≤ 24; omega)⟩ (Nat.le_of_ble_eq_true rfl) ?_
              refine v_lload E dL_leaves_99 3 rfl ?_
              refine v_cSi' E dL_leaves_101 (x_L_many l D cI cZ cQ cJ (msk (cnd S (t)) (z_B S (t) + 1)) hM62) (va_cwS 1 E.2.2.2.1 gL_leaves_L_many rfl rfl rfl (by decide +kernel) ⟨Nat.le_of_ble_eq_true rfl, Nat.le_of_ble_eq_true rfl⟩) (fun _ _ => v_nil _) rfl rfl ⟨(by show _ ≤ 4; omega), (by show _ ≤ 24; omega)⟩ (Nat.le_of_ble_eq_true rfl) ?_
              refine v_top (y := nI (zcc S t)) (congrArg nI (po9_msk (by omega))) ?_
              refine v_iconst E dL_leaves_104 (v := nI 1) rfl ?_
              have J114_3 : V p9 l e9 (headSpec wsL_leaves { frames := 9, cells := 4, slots := 24, locals := 155 }).room s9 m9 as9 bl9 me9 cd9 (0 + 2 + 2) (0 + 12 + 12) (vx_MQ bl9 (v_Qo D (wTy cI cZ cQ cJ) (0 = 0) (some (.int (nI 1))) ((wA cI bx (z_U ((sclo S t))) (z_C ((sclo S t))) (z_D ((sclo S t))) (g9 ((sclo S t))) (z_B ((sclo S t))) (f9 ((sclo S t))) (cq9 qf (plc (z_Q S) (z_qn S) t) (z_qn S)) (n9 (z_no ((sclo S t))) (z_li ((sclo S t))) (z_wi ((sclo S t))) (z_bu ((sclo S t))) (z_qn ((sclo S t))))) ++ wX cI cZ cQ a ((sclo S t))) A) (v_XC D (wTy cI cZ cQ cJ) 0 exI ((wA cI bx (z_U S) (z_C S) (z_D S) (g9 S) (z_B S) (f9 S) qf (n9 (z_no S) (z_li S) (z_wi S) (z_bu S) (z_qn S))) ++ wX cI cZ cQ a S) A) as9 s9 4 24 A) (v_rw D A s9) 10 114 [(8, .int (nI (to))), (9, .int (nI (k))), (7, .int (nI (o))), (5, .long (lN (msk (cnd S (t)) (z_B S (t) + 1)))), (0, .ref (a 0)), (1, .ref (bx 3)), (2, .ref (bx 6)), (3, .ref (bx 7)), (4, .int (nI (t)))] [.int (zonly S t), .int (zonly S (t))] ((wA cI bx (z_U S) (z_C S) (z_D S) (upd (g9 S) (t) (((-1)))) (z_B S) (f9 S) qc (n9 (z_no S) (z_li S) (z_wi S) (z_bu S) to)) ++ wX cI cZ cQ a ((sclo S (t)))) := by
                refine v_icmp_ne E dL_leaves_114 (tgt := 121) (by decide) (fun c114 => ?_) (fun c114 => ?_)
                · exact absurd rfl c114
                · refine v_iconst E dL_leaves_117 (v := nI 1) rfl ?_
                  refine v_goto E dL_leaves_118 (tgt := 122) (by decide) ?_
                  exact y_retz E hr rfl rfl rfl (by rw [hqc, show k = z_qn S by omega]; exact w_clo ht (by rw [hto, show k = z_qn S by omega]) (wX cI cZ cQ a)) (by omega) (by omega) dL_leaves_122
              refine n_icmp_ne E dL_leaves_105 (by omega) (by omega) (tgt := 113) (by decide) (fun c105 => ?_) (fun c105 => ?_)
              · refine v_iconst E dL_leaves_113 (v := (-1)) rfl ?_
                refine v_top (y := (zonly S t)) (if_neg c105).symm ?_
                exact J114_3
              · refine v_iload E dL_leaves_108 2 rfl ?_
                refine v_goto E dL_leaves_110 (tgt := 114) (by decide) ?_
                refine v_top (y := (zonly S t)) (by unfold zonly; rw [if_pos c105]; exact (only_eq hT2 (by omega) c105 hlo hoo ho).symm) ?_
                exact J114_3
            · have hqT := hok.2.2.2.1.1 k c47
              have hqt := (hok.2.2.1 _ hqT).1
              refine v_aload_n E dL_leaves_50 6 rfl rfl ?_
              refine v_iload E dL_leaves_51 0 rfl ?_
              refine v_aload_n E dL_leaves_53 6 rfl rfl ?_
              refine v_iload E dL_leaves_54 1 rfl ?_
              refine v_iald E dL_leaves_56 (v := nI (qf k)) 6 0 rfl rfl (by omega) (by decide) (by rw [hqc, cq9_k]) ?_
              refine v_iast E dL_leaves_57 6 0 rfl rfl (by omega) (by decide) (w' := ((wA cI bx (z_U S) (z_C S) (z_D S) (g9 S) (z_B S) (f9 S) (cq9 qf (plc (z_Q S) (z_qn S) t) (k + 1)) (n9 (z_no S) (z_li S) (z_wi S) (z_bu S) (z_qn S))) ++ wX cI cZ cQ a S)) ((wA_q _ _).trans (by rw [hqc, hto, cq9_s])) ?_
              refine v_iload E dL_leaves_58 0 rfl ?_
              refine v_aload_n E dL_leaves_60 6 rfl rfl ?_
              refine v_iload E dL_leaves_61 1 rfl ?_
              refine v_iald E dL_leaves_63 (v := nI (z_Q S k)) 6 0 rfl rfl (by omega) (by decide) (by rw [cq9_k1, hq k c47]) ?_
              refine v_iload E dL_leaves_64 8 rfl ?_
              have J74_4 : V p9 l e9 (headSpec wsL_leaves { frames := 9, cells := 4, slots := 24, locals := 155 }).room s9 m9 as9 bl9 me9 cd9 (0 + 2) (0 + 12) (vx_MQ bl9 (v_Qo D (wTy cI cZ cQ cJ) (0 = 0) (some (.int (nI 1))) ((wA cI bx (z_U ((sclo S t))) (z_C ((sclo S t))) (z_D ((sclo S t))) (g9 ((sclo S t))) (z_B ((sclo S t))) (f9 ((sclo S t))) (cq9 qf (plc (z_Q S) (z_qn S) t) (z_qn S)) (n9 (z_no ((sclo S t))) (z_li ((sclo S t))) (z_wi ((sclo S t))) (z_bu ((sclo S t))) (z_qn ((sclo S t))))) ++ wX cI cZ cQ a ((sclo S t))) A) (v_XC D (wTy cI cZ cQ cJ) 0 exI ((wA cI bx (z_U S) (z_C S) (z_D S) (g9 S) (z_B S) (f9 S) qf (n9 (z_no S) (z_li S) (z_wi S) (z_bu S) (z_qn S))) ++ wX cI cZ cQ a S) A) as9 s9 4 24 A) (v_rw D A s9) 10 74 [(8, .int (nI (to))), (9, .int (nI (k))), (7, .int (nI (o))), (5, .long (lN (msk (cnd S (t)) (z_B S (t) + 1)))), (0, .ref (a 0)), (1, .ref (bx 3)), (2, .ref (bx 6)), (3, .ref (bx 7)), (4, .int (nI (t)))] [.int (nI ((if z_Q S k = t then 0 else 1))), .int (nI (to))] ((wA cI bx (z_U S) (z_C S) (z_D S) (g9 S) (z_B S) (f9 S) (cq9 qf (plc (z_Q S) (z_qn S) t) (k + 1)) (n9 (z_no S) (z_li S) (z_wi S) (z_bu S) (z_qn S))) ++ wX cI cZ cQ a S) := by
                refine v_iadd E dL_leaves_74 (nI_add _ _) ?_
                refine v_istore E dL_leaves_75 (by decide) rfl ?_
                refine v_iinc E dL_leaves_77 1 rfl (nI_1 _) (by decide) rfl ?_
                refine v_goto E dL_leaves_80 (tgt := 42) (by decide) ?_
                refine v_lv [1, 0, 2, 3, 4, 5, 6, 7, 8] rfl ?_
                exact ih42 (k + 1) (to + (if z_Q S k = t then 0 else 1)) ((cq9 qf (plc (z_Q S) (z_qn S) t) (k + 1))) (by omega) (by omega) (by rw [hto]; exact lv9_s hok.2.2.2.1.2 c47) rfl
              refine n_icmp_ne E dL_leaves_66 (by omega) (by omega) (tgt := 73) (by decide) (fun c66 => ?_) (fun c66 => ?_)
              · refine v_iconst E dL_leaves_73 (v := nI 1) rfl ?_
                refine v_top (y := nI ((if z_Q S k = t then 0 else 1))) (by rw [if_neg c66]) ?_
                exact J74_4
              · refine v_iconst E dL_leaves_69 (v := nI 0) rfl ?_
                refine v_goto E dL_leaves_70 (tgt := 74) (by decide) ?_
                refine v_top (y := nI ((if z_Q S k = t then 0 else 1))) (by rw [if_pos c66]) ?_
                exact J74_4
        refine v_lv [1, 0, 2, 3, 4, 5, 6, 7, 8] rfl ?_
        exact L42_2 (z_qn S - (0) + 1) (0) (0) (qf) (by omega) (by omega) (by unfold lv9; split <;> rfl) (cq9_0 _ _)
      · refine v_lload E dL_leaves_18 1 rfl ?_
        refine v_iload E dL_leaves_20 0 rfl ?_
        refine v_lshr E dL_leaves_22 (z := lN (msk (cnd S t) (z_B S t + 1) / 2 ^ o)) (l_shr hM62 (by omega)) ?_
        refine v_lconst E dL_leaves_23 (v := lN 1) rfl ?_
        refine v_land E dL_leaves_24 (z := lN (msk (cnd S t) (z_B S t + 1) / 2 ^ o % 2)) (l_and1 (Nat.lt_of_le_of_lt (Nat.div_le_self _ _) (by omega))) ?_
        refine v_lconst E dL_leaves_25 (v := lN 0) rfl ?_
        refine v_lcmp E dL_leaves_26 (z := nI (msk (cnd S t) (z_B S t + 1) / 2 ^ o % 2)) l_cmp2 ?_
        refine n_if_ne E dL_leaves_27 (by omega) (tgt := 36) (by decide) (fun c27 => ?_) (fun c27 => ?_)
        · have hoo : o = 40 ∨ cnd S t o = true := Or.inr (by rw [← cnd_bit]; exact tb_t c27)
          refine v_iconst E dL_leaves_36 (v := nI 0) rfl ?_
          refine v_istore E dL_leaves_37 (by decide) rfl ?_
          refine v_iconst E dL_leaves_39 (v := nI 0) rfl ?_
          refine v_istore E dL_leaves_40 (by decide) rfl ?_
          have L42_5 : ∀ (n42 : Nat) (k : Nat) (to : Nat) (qc : Nat → Nat), z_qn S - k < n42 → (k ≤ z_qn S) → (to = lv9 (plc (z_Q S) (z_qn S) t) k) → (qc = cq9 qf (plc (z_Q S) (z_qn S) t) k) → V p9 l e9 (headSpec wsL_leaves { frames := 9, cells := 4, slots := 24, locals := 155 }).room s9 m9 as9 bl9 me9 cd9 (0 + 2) (0 + 12) (vx_MQ bl9 (v_Qo D (wTy cI cZ cQ cJ) (0 = 0) (some (.int (nI 1))) ((wA cI bx (z_U ((sclo S t))) (z_C ((sclo S t))) (z_D ((sclo S t))) (g9 ((sclo S t))) (z_B ((sclo S t))) (f9 ((sclo S t))) (cq9 qf (plc (z_Q S) (z_qn S) t) (z_qn S)) (n9 (z_no ((sclo S t))) (z_li ((sclo S t))) (z_wi ((sclo S t))) (z_bu ((sclo S t))) (z_qn ((sclo S t))))) ++ wX cI cZ cQ a ((sclo S t))) A) (v_XC D (wTy cI cZ cQ cJ) 0 exI ((wA cI bx (z_U S) (z_C S) (z_D S) (g9 S) (z_B S) (f9 S) qf (n9 (z_no S) (z_li S) (z_wi S) (z_bu S) (z_qn S))) ++ wX cI cZ cQ a S) A) as9 s9 4 24 A) (v_rw D A s9) 10 42 [(8, .int (nI (to))), (9, .int (nI (k))), (7, .int (nI (o))), (5, .long (lN (msk (cnd S (t)) (z_B S (t) + 1)))), (0, .ref (a 0)), (1, .ref (bx 3)), (2, .ref (bx 6)), (3, .ref (bx 7)), (4, .int (nI (t)))] [] ((wA cI bx (z_U S) (z_C S) (z_D S) (g9 S) (z_B S) (f9 S) qc (n9 (z_no S) (z_li S) (z_wi S) (z_bu S) (z_qn S))) ++ wX cI cZ cQ a S) := by
            intro n42
            induction n42 with
            | zero => intro k to qc hm42 hk hto hqc; exact absurd hm42 (Nat.not_lt_zero _)
            | succ n42 ih42 =>
              intro k to qc hm42 hk hto hqc
              have htol : to ≤ k := by rw [hto]; exact lv9_le _ _
              refine v_iload E dL_leaves_42 1 rfl ?_
              refine v_aload_n E dL_leaves_44 7 rfl rfl ?_
              refine v_iconst E dL_leaves_45 (v := nI 4) rfl ?_
              refine v_iald E dL_leaves_46 (v := nI (z_qn S)) 7 0 rfl rfl (by omega) (by decide) rfl ?_
              refine n_icmp_ge E dL_leaves_47 (by omega) (by omega) (tgt := 83) (by decide) (fun c47 => ?_) (fun c47 => ?_)
              · refine v_aload_n E dL_leaves_83 7 rfl rfl ?_
                refine v_iconst E dL_leaves_84 (v := nI 4) rfl ?_
                refine v_iload E dL_leaves_85 0 rfl ?_
                refine v_iast E dL_leaves_87 7 0 rfl rfl (by omega) (by decide) (w' := ((wA cI bx (z_U S) (z_C S) (z_D S) (g9 S) (z_B S) (f9 S) qc (n9 (z_no S) (z_li S) (z_wi S) (z_bu S) to)) ++ wX cI cZ cQ a S)) (wA_n4 _) ?_
                refine v_aload_n E dL_leaves_88 5 rfl rfl ?_
                refine v_iload E dL_leaves_89 8 rfl ?_
                refine v_iconst E dL_leaves_91 (v := (-1)) rfl ?_
                refine v_iast E dL_leaves_92 3 0 rfl rfl (by omega) (by decide) (w' := ((wA cI bx (z_U S) (z_C S) (z_D S) (upd (g9 S) (t) (((-1)))) (z_B S) (f9 S) qc (n9 (z_no S) (z_li S) (z_wi S) (z_bu S) to)) ++ wX cI cZ cQ a S)) (wA_g _ _) ?_
                refine v_aload_n E dL_leaves_93 4 rfl rfl ?_
                refine v_iload E dL_leaves_94 8 rfl ?_
                refine x_cSn E hA hTx dL_leaves_96 (l_close0 l D cI cZ cQ cJ a S hok hl (wA cI bx (z_U S) (z_C S) (z_D S) (upd (g9 S) (t) (((-1)))) (z_B S) (f9 S) qc (n9 (z_no S) (z_li S) (z_wi S) (z_bu S) to)) t ht hT) (vx_cwSW 2 E.2.2.2.1 gL_leaves_L_close rfl rfl rfl (by decide +kernel) ⟨Nat.le_of_ble_eq_true rfl, Nat.le_of_ble_eq_true rfl⟩) rfl rfl ⟨(by show _ ≤ 4; omega), (by show _ ≤ 24; omega)⟩ (Nat.le_of_ble_eq_true rfl) ?_
                refine v_lload E dL_leaves_99 3 rfl ?_
                refine v_cSi' E dL_leaves_101 (x_L_many l D cI cZ cQ cJ (msk (cnd S (t)) (z_B S (t) + 1)) hM62) (va_cwS 1 E.2.2.2.1 gL_leaves_L_many rfl rfl rfl (by decide +kernel) ⟨Nat.le_of_ble_eq_true rfl, Nat.le_of_ble_eq_true rfl⟩) (fun _ _ => v_nil _) rfl rfl ⟨(by show _ ≤ 4; omega), (by show _ ≤ 24; omega)⟩ (Nat.le_of_ble_eq_true rfl) ?_
                refine v_top (y := nI (zcc S t)) (congrArg nI (po9_msk (by omega))) ?_
                refine v_iconst E dL_leaves_104 (v := nI 1) rfl ?_
                have J114_6 : V p9 l e9 (headSpec wsL_leaves { frames := 9, cells := 4, slots := 24, locals := 155 }).room s9 m9 as9 bl9 me9 cd9 (0 + 2 + 2) (0 + 12 + 12) (vx_MQ bl9 (v_Qo D (wTy cI cZ cQ cJ) (0 = 0) (some (.int (nI 1))) ((wA cI bx (z_U ((sclo S t))) (z_C ((sclo S t))) (z_D ((sclo S t))) (g9 ((sclo S t))) (z_B ((sclo S t))) (f9 ((sclo S t))) (cq9 qf (plc (z_Q S) (z_qn S) t) (z_qn S)) (n9 (z_no ((sclo S t))) (z_li ((sclo S t))) (z_wi ((sclo S t))) (z_bu ((sclo S t))) (z_qn ((sclo S t))))) ++ wX cI cZ cQ a ((sclo S t))) A) (v_XC D (wTy cI cZ cQ cJ) 0 exI ((wA cI bx (z_U S) (z_C S) (z_D S) (g9 S) (z_B S) (f9 S) qf (n9 (z_no S) (z_li S) (z_wi S) (z_bu S) (z_qn S))) ++ wX cI cZ cQ a S) A) as9 s9 4 24 A) (v_rw D A s9) 10 114 [(8, .int (nI (to))), (9, .int (nI (k))), (7, .int (nI (o))), (5, .long (lN (msk (cnd S (t)) (z_B S (t) + 1)))), (0, .ref (a 0)), (1, .ref (bx 3)), (2, .ref (bx 6)), (3, .ref (bx 7)), (4, .int (nI (t)))] [.int (zonly S t), .int (zonly S (t))] ((wA cI bx (z_U S) (z_C S) (z_D S) (upd (g9 S) (t) (((-1)))) (z_B S) (f9 S) qc (n9 (z_no S) (z_li S) (z_wi S) (z_bu S) to)) ++ wX cI cZ cQ a ((sclo S (t)))) := by
                  refine v_icmp_ne E dL_leaves_114 (tgt := 121) (by decide) (fun c114 => ?_) (fun c114 => ?_)
                  · exact absurd rfl c114
                  · refine v_iconst E dL_leaves_117 (v := nI 1) rfl ?_
                    refine v_goto E dL_leaves_118 (tgt := 122) (by decide) ?_
                    exact y_retz E hr rfl rfl rfl (by rw [hqc, show k = z_qn S by omega]; exact w_clo ht (by rw [hto, show k = z_qn S by omega]) (wX cI cZ cQ a)) (by omega) (by omega) dL_leaves_122
                refine n_icmp_ne E dL_leaves_105 (by omega) (by omega) (tgt := 113) (by decide) (fun c105 => ?_) (fun c105 => ?_)
                · refine v_iconst E dL_leaves_113 (v := (-1)) rfl ?_
                  refine v_top (y := (zonly S t)) (if_neg c105).symm ?_
                  exact J114_6
                · refine v_iload E dL_leaves_108 2 rfl ?_
                  refine v_goto E dL_leaves_110 (tgt := 114) (by decide) ?_
                  refine v_top (y := (zonly S t)) (by unfold zonly; rw [if_pos c105]; exact (only_eq hT2 (by omega) c105 hlo hoo ho).symm) ?_
                  exact J114_6
              · have hqT := hok.2.2.2.1.1 k c47
                have hqt := (hok.2.2.1 _ hqT).1
                refine v_aload_n E dL_leaves_50 6 rfl rfl ?_
                refine v_iload E dL_leaves_51 0 rfl ?_
                refine v_aload_n E dL_leaves_53 6 rfl rfl ?_
                refine v_iload E dL_leaves_54 1 rfl ?_
                refine v_iald E dL_leaves_56 (v := nI (qf k)) 6 0 rfl rfl (by omega) (by decide) (by rw [hqc, cq9_k]) ?_
                refine v_iast E dL_leaves_57 6 0 rfl rfl (by omega) (by decide) (w' := ((wA cI bx (z_U S) (z_C S) (z_D S) (g9 S) (z_B S) (f9 S) (cq9 qf (plc (z_Q S) (z_qn S) t) (k + 1)) (n9 (z_no S) (z_li S) (z_wi S) (z_bu S) (z_qn S))) ++ wX cI cZ cQ a S)) ((wA_q _ _).trans (by rw [hqc, hto, cq9_s])) ?_
                refine v_iload E dL_leaves_58 0 rfl ?_
                refine v_aload_n E dL_leaves_60 6 rfl rfl ?_
                refine v_iload E dL_leaves_61 1 rfl ?_
                refine v_iald E dL_leaves_63 (v := nI (z_Q S k)) 6 0 rfl rfl (by omega) (by decide) (by rw [cq9_k1, hq k c47]) ?_
                refine v_iload E dL_leaves_64 8 rfl ?_
                have J74_7 : V p9 l e9 (headSpec wsL_leaves { frames := 9, cells := 4, slots := 24, locals := 155 }).room s9 m9 as9 bl9 me9 cd9 (0 + 2) (0 + 12) (vx_MQ bl9 (v_Qo D (wTy cI cZ cQ cJ) (0 = 0) (some (.int (nI 1))) ((wA cI bx (z_U ((sclo S t))) (z_C ((sclo S t))) (z_D ((sclo S t))) (g9 ((sclo S t))) (z_B ((sclo S t))) (f9 ((sclo S t))) (cq9 qf (plc (z_Q S) (z_qn S) t) (z_qn S)) (n9 (z_no ((sclo S t))) (z_li ((sclo S t))) (z_wi ((sclo S t))) (z_bu ((sclo S t))) (z_qn ((sclo S t))))) ++ wX cI cZ cQ a ((sclo S t))) A) (v_XC D (wTy cI cZ cQ cJ) 0 exI ((wA cI bx (z_U S) (z_C S) (z_D S) (g9 S) (z_B S) (f9 S) qf (n9 (z_no S) (z_li S) (z_wi S) (z_bu S) (z_qn S))) ++ wX cI cZ cQ a S) A) as9 s9 4 24 A) (v_rw D A s9) 10 74 [(8, .int (nI (to))), (9, .int (nI (k))), (7, .int (nI (o))), (5, .long (lN (msk (cnd S (t)) (z_B S (t) + 1)))), (0, .ref (a 0)), (1, .ref (bx 3)), (2, .ref (bx 6)), (3, .ref (bx 7)), (4, .int (nI (t)))] [.int (nI ((if z_Q S k = t then 0 else 1))), .int (nI (to))] ((wA cI bx (z_U S) (z_C S) (z_D S) (g9 S) (z_B S) (f9 S) (cq9 qf (plc (z_Q S) (z_qn S) t) (k + 1)) (n9 (z_no S) (z_li S) (z_wi S) (z_bu S) (z_qn S))) ++ wX cI cZ cQ a S) := by
                  refine v_iadd E dL_leaves_74 (nI_add _ _) ?_
                  refine v_istore E dL_leaves_75 (by decide) rfl ?_
                  refine v_iinc E dL_leaves_77 1 rfl (nI_1 _) (by decide) rfl ?_
                  refine v_goto E dL_leaves_80 (tgt := 42) (by decide) ?_
                  refine v_lv [1, 0, 2, 3, 4, 5, 6, 7, 8] rfl ?_
                  exact ih42 (k + 1) (to + (if z_Q S k = t then 0 else 1)) ((cq9 qf (plc (z_Q S) (z_qn S) t) (k + 1))) (by omega) (by omega) (by rw [hto]; exact lv9_s hok.2.2.2.1.2 c47) rfl
                refine n_icmp_ne E dL_leaves_66 (by omega) (by omega) (tgt := 73) (by decide) (fun c66 => ?_) (fun c66 => ?_)
                · refine v_iconst E dL_leaves_73 (v := nI 1) rfl ?_
                  refine v_top (y := nI ((if z_Q S k = t then 0 else 1))) (by rw [if_neg c66]) ?_
                  exact J74_7
                · refine v_iconst E dL_leaves_69 (v := nI 0) rfl ?_
                  refine v_goto E dL_leaves_70 (tgt := 74) (by decide) ?_
                  refine v_top (y := nI ((if z_Q S k = t then 0 else 1))) (by rw [if_pos c66]) ?_
                  exact J74_7
          refine v_lv [1, 0, 2, 3, 4, 5, 6, 7, 8] rfl ?_
          exact L42_5 (z_qn S - (0) + 1) (0) (0) (qf) (by omega) (by omega) (by unfold lv9; split <;> rfl) (cq9_0 _ _)
        · refine v_iinc E dL_leaves_30 0 rfl (nI_1 _) (by decide) rfl ?_
          refine v_goto E dL_leaves_33 (tgt := 11) (by decide) ?_
          refine v_lv [0, 1, 2, 3, 4, 5, 6] rfl ?_
          exact ih11 (o + 1) (by omega) (by omega) (lo_s hlo (by rw [← cnd_bit]; exact tb_f c27))
  refine v_lv [0, 1, 2, 3, 4, 5, 6] rfl ?_
  exact L11_1 (40 - (0) + 1) (0) (by omega) (by omega) (fun j hj => absurd hj (Nat.not_lt_zero _))
