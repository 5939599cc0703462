/-! ===== the law: many, parts ===== -/
theorem msk_b (m k : Nat) : m / 2 ^ k % 2 = b1 (m.testBit k) := by
  cases h : m.testBit k with
  | true =>
    rw [Nat.testBit_eq_decide_div_mod_eq] at h
    exact of_decide_eq_true h
  | false =>
    rw [Nat.testBit_eq_decide_div_mod_eq] at h
    have := of_decide_eq_false h
    show _ = 0
    omega
set_option maxHeartbeats 4000000 in
set_option maxRecDepth 100000 in
theorem x_L_many (l : Launch) (D : va_G) (cI cZ cQ cJ : ClassId) (m : Nat) (hm : m < 2 ^ 62) : v_Rdi l yL_many wsL_many { frames := 0, cells := 0, slots := 0, locals := 0 } D (wTy cI cZ cQ cJ) [.long (lN (m))] [] (nI (po9 m)) := by
  refine v_reader (cc := cL_many) (maxL := 4) (ret := (some .int)) (own := RL) (lv0 := [(0, .long (lN (m)))]) (by decide) rfl rfl (Nat.le_of_ble_eq_true rfl) rfl ?_
  intro p9 e9 s9 m9 as9 bl9 me9 cd9 E hr
  refine v_iconst E dL_many_0 (v := nI 0) rfl ?_
  refine v_istore_n E dL_many_1 rfl (by decide) rfl ?_
  refine v_iconst E dL_many_2 (v := nI 0) rfl ?_
  refine v_istore_n E dL_many_3 rfl (by decide) rfl ?_
  have L4_1 : ∀ (n4 : Nat) (k : Nat) (sum : Nat), 40 - k < n4 → (k ≤ 40) → (sum = ct (fun i => m.testBit i) k) → V p9 l e9 (headSpec wsL_many { frames := 0, cells := 0, slots := 0, locals := 0 }).room s9 m9 as9 bl9 me9 cd9 0 0 (MQ bl9 (vp_Si (fun r => r = nI (po9 m))) as9 s9 0 0 (fun _ => False)) (v_ro D s9) 4 4 [(2, .int (nI (sum))), (3, .int (nI (k))), (0, .long (lN (m)))] [] [] := by
    intro n4
    induction n4 with
    | zero => intro k sum hm4 hk hs; exact absurd hm4 (Nat.not_lt_zero _)
    | succ n4 ih4 =>
      intro k sum hm4 hk hs
      refine v_iload_n E dL_many_4 1 rfl rfl ?_
      refine v_bipush E dL_many_5 (v := nI 40) rfl ?_
      refine n_icmp_ge E dL_many_7 (by omega) (by omega) (tgt := 25) (by decide) (fun c7 => ?_) (fun c7 => ?_)
      · refine v_iload_n E dL_many_25 0 rfl rfl ?_
        exact v_ret E hr (by show nI sum = nI (po9 m); rw [hs, show k = 40 by omega]; rfl) dL_many_26
      · refine v_iload_n E dL_many_10 0 rfl rfl ?_
        refine v_lload_n E dL_many_11 2 rfl rfl ?_
        refine v_iload_n E dL_many_12 1 rfl rfl ?_
        refine v_lshr E dL_many_13 (z := lN (m / 2 ^ k)) (l_shr hm (by omega)) ?_
        refine v_lconst E dL_many_14 (v := lN 1) rfl ?_
        refine v_land E dL_many_15 (z := lN (m / 2 ^ k % 2)) (l_and1 (Nat.lt_of_le_of_lt (Nat.div_le_self _ _) (by omega))) ?_
        refine v_l2i E dL_many_16 (z := nI (m / 2 ^ k % 2)) (by rcases (show m / 2 ^ k % 2 = 0 ∨ m / 2 ^ k % 2 = 1 by omega) with e | e <;> rw [e] <;> rfl) ?_
        refine v_iadd E dL_many_17 (z := nI (sum + (m / 2 ^ k % 2))) (nI_add _ _) ?_
        refine v_istore_n E dL_many_18 rfl (by decide) rfl ?_
        refine v_iinc E dL_many_19 1 rfl (nI_1 _) (by decide) rfl ?_
        refine v_goto E dL_many_22 (tgt := 4) (by decide) ?_
        refine v_lv [1, 0, 2] rfl ?_
        exact ih4 (k + 1) (sum + (m / 2 ^ k % 2)) (by omega) (by omega) (by rw [hs, msk_b m k]; rfl)
  refine v_lv [1, 0, 2] rfl ?_
  exact L4_1 ((40 - (0)) + 1) (0) (0) (by omega) (by omega) rfl
set_option maxHeartbeats 8000000 in
set_option maxRecDepth 100000 in
theorem z_parts (l : Launch) (D : va_G) (cI cZ cQ cJ : ClassId) (a bx : Nat → Nat) (S : zS) (hok : zOK S) (hl : l.stackTraces = false) (qf : Nat → Nat) (t : Nat) (ht : t < z_nt S) : v_Thr l yL_parts wsL_parts { frames := 9, cells := 1, slots := 6, locals := 154 } D (wTy cI cZ cQ cJ) [.ref (a 0), .ref (bx 0), .ref (bx 2), .int (nI (t))] ((wA cI bx (z_U S) (z_C S) (z_D S) (g9 S) (z_B S) (f9 S) qf (n9 (z_no S) (z_li S) (z_wi S) (z_bu S) (z_qn S))) ++ wX cI cZ cQ a S) 0 exI (some (.int (nI 1))) ((wA cI bx (z_U S) (z_C S) (z_D S) (g9 S) (z_B S) (f9 S) qf (n9 (z_no S) (z_li S) (z_wi S) (z_bu S) (z_qn S))) ++ wX cI cZ cQ a S) 1 6 := by
  refine v_thrower (cc := cL_parts) (maxL := 8) (ret := (some .boolean)) (own := RL) (lv0 := [(0, .ref (a 0)), (1, .ref (bx 0)), (2, .ref (bx 2)), (3, .int (nI (t)))]) (by decide) rfl rfl (Nat.le_of_ble_eq_true rfl) rfl ?_
  intro p9 e9 s9 m9 as9 bl9 me9 cd9 A E hA htab hTx hr
  have hn1 := hok.1.1
  have hn2 := hok.1.2.1
  have hz := zre_lt hok t
  have hD := (hok.2.1 t).2.2
  refine v_aload_n E dL_parts_0 0 rfl rfl ?_
  refine v_iload_n E dL_parts_1 3 rfl rfl ?_
  refine x_cSn E hA hTx dL_parts_2 (l_partsOf0 l D cI cZ cQ cJ a S hok hl (wA cI bx (z_U S) (z_C S) (z_D S) (g9 S) (z_B S) (f9 S) qf (n9 (z_no S) (z_li S) (z_wi S) (z_bu S) (z_qn S))) t ht) (vx_cwSW 2 E.2.2.2.1 gL_parts_L_partsOf rfl rfl rfl (by decide +kernel) ⟨Nat.le_of_ble_eq_true rfl, Nat.le_of_ble_eq_true rfl⟩) rfl rfl ⟨(by show _ ≤ 1; omega), (by show _ ≤ 6; omega)⟩ (Nat.le_of_ble_eq_true rfl) ?_
  refine v_istore E dL_parts_5 (by decide) rfl ?_
  refine v_iconst E dL_parts_7 (v := nI 0) rfl ?_
  refine v_istore E dL_parts_8 (by decide) rfl ?_
  refine v_iconst E dL_parts_10 (v := nI 0) rfl ?_
  refine v_istore E dL_parts_11 (by decide) rfl ?_
  have L13_1 : ∀ (n13 : Nat) (k : Nat) (fr : Nat), 16 - k < n13 → (k ≤ 16) → (fr = fr9 (z_U S) (zre S t) k) → V p9 l e9 (headSpec wsL_parts { frames := 9, cells := 1, slots := 6, locals := 154 }).room s9 m9 as9 bl9 me9 cd9 (0 + 1) (0 + 6) (vx_MQ bl9 (v_Qo D (wTy cI cZ cQ cJ) (0 = 0) (some (.int (nI 1))) ((wA cI bx (z_U S) (z_C S) (z_D S) (g9 S) (z_B S) (f9 S) qf (n9 (z_no S) (z_li S) (z_wi S) (z_bu S) (z_qn S))) ++ wX cI cZ cQ a S) A) (v_XC D (wTy cI cZ cQ cJ) 0 exI ((wA cI bx (z_U S) (z_C S) (z_D S) (g9 S) (z_B S) (f9 S) qf (n9 (z_no S) (z_li S) (z_wi S) (z_bu S) (z_qn S))) ++ wX cI cZ cQ a S) A) as9 s9 1 6 A) (v_rw D A s9) 8 13 [(5, .int (nI (fr))), (6, .int (nI (k))), (4, .int (nI (zre S (t)))), (0, .ref (a 0)), (1, .ref (bx 0)), (2, .ref (bx 2)), (3, .int (nI (t)))] [] ((wA cI bx (z_U S) (z_C S) (z_D S) (g9 S) (z_B S) (f9 S) qf (n9 (z_no S) (z_li S) (z_wi S) (z_bu S) (z_qn S))) ++ wX cI cZ cQ a S) := by
    intro n13
    induction n13 with
    | zero => intro k fr hm13 hk hf; exact absurd hm13 (Nat.not_lt_zero _)
    | succ n13 ih13 =>
      intro k fr hm13 hk hf
      refine v_iload E dL_parts_13 1 rfl ?_
      refine v_bipush E dL_parts_15 (v := nI 16) rfl ?_
      refine n_icmp_ge E dL_parts_17 (by omega) (by omega) (tgt := 50) (by decide) (fun c17 => ?_) (fun c17 => ?_)
      · refine v_aload_n E dL_parts_50 5 rfl rfl ?_
        refine v_iload_n E dL_parts_51 6 rfl rfl ?_
        refine v_iald E dL_parts_52 (v := nI (z_D S t)) 2 0 rfl rfl (by omega) (by decide) rfl ?_
        refine v_istore E dL_parts_53 (by decide) rfl ?_
        refine v_iconst E dL_parts_55 (v := nI 0) rfl ?_
        refine v_istore E dL_parts_56 (by decide) rfl ?_
        have L58_2 : ∀ (n58 : Nat) (k2 : Nat) (re : Nat), 256 - k2 < n58 → (k2 ≤ 256) → (re = gs9 (z_U S) (z_D S t) k2) → V p9 l e9 (headSpec wsL_parts { frames := 9, cells := 1, slots := 6, locals := 154 }).room s9 m9 as9 bl9 me9 cd9 (0 + 1) (0 + 6) (vx_MQ bl9 (v_Qo D (wTy cI cZ cQ cJ) (0 = 0) (some (.int (nI 1))) ((wA cI bx (z_U S) (z_C S) (z_D S) (g9 S) (z_B S) (f9 S) qf (n9 (z_no S) (z_li S) (z_wi S) (z_bu S) (z_qn S))) ++ wX cI cZ cQ a S) A) (v_XC D (wTy cI cZ cQ cJ) 0 exI ((wA cI bx (z_U S) (z_C S) (z_D S) (g9 S) (z_B S) (f9 S) qf (n9 (z_no S) (z_li S) (z_wi S) (z_bu S) (z_qn S))) ++ wX cI cZ cQ a S) A) as9 s9 1 6 A) (v_rw D A s9) 8 58 [(6, .int (nI (re))), (7, .int (nI (k2))), (5, .int (nI (fr))), (4, .int (nI (zre S (t)))), (0, .ref (a 0)), (1, .ref (bx 0)), (2, .ref (bx 2)), (3, .int (nI (t)))] [] ((wA cI bx (z_U S) (z_C S) (z_D S) (g9 S) (z_B S) (f9 S) qf (n9 (z_no S) (z_li S) (z_wi S) (z_bu S) (z_qn S))) ++ wX cI cZ cQ a S) := by
          intro n58
          induction n58 with
          | zero => intro k2 re hm58 hk2 hre; exact absurd hm58 (Nat.not_lt_zero _)
          | succ n58 ih58 =>
            intro k2 re hm58 hk2 hre
            have hrl : re < 65536 := by rw [hre]; exact gs9_lt (fun j => (hok.2.1 j).1) (hok.2.1 t).2.2 k2
            refine v_iload E dL_parts_58 1 rfl ?_
            refine v_sipush E dL_parts_60 (v := nI 256) rfl ?_
            refine n_icmp_ge E dL_parts_63 (by omega) (by omega) (tgt := 102) (by decide) (fun c63 => ?_) (fun c63 => ?_)
            · refine v_iload E dL_parts_102 3 rfl ?_
              refine v_aload_n E dL_parts_104 6 rfl rfl ?_
              refine v_iload_n E dL_parts_105 7 rfl rfl ?_
              refine v_iald E dL_parts_106 (v := nI (z_D S t)) 2 0 rfl rfl (by omega) (by decide) rfl ?_
              refine v_iand E dL_parts_107 (nx_and _ _) ?_
              refine v_aload_n E dL_parts_108 6 rfl rfl ?_
              refine v_iload_n E dL_parts_109 7 rfl rfl ?_
              refine v_iald E dL_parts_110 (v := nI (z_D S t)) 2 0 rfl rfl (by omega) (by decide) rfl ?_
              refine n_icmp_ne E dL_parts_111 (Nat.lt_of_le_of_lt Nat.and_le_left (by omega)) (by omega) (tgt := 135) (by decide) (fun c111 => ?_) (fun c111 => ?_)
              · exact absurd (zre_D t) c111
              · refine v_iload E dL_parts_114 3 rfl ?_
                refine v_iload E dL_parts_116 2 rfl ?_
                refine v_iand E dL_parts_118 (nx_and _ _) ?_
                refine v_iload E dL_parts_119 2 rfl ?_
                refine n_icmp_ne E dL_parts_121 (Nat.lt_of_le_of_lt Nat.and_le_left (by omega)) (by rw [hf]; exact Nat.lt_trans (fr9_lt (fun j => (hok.2.1 j).1) _ _) (by decide)) (tgt := 135) (by decide) (fun c121 => ?_) (fun c121 => ?_)
                · exact absurd (by rw [hf, show k = 16 by omega]; exact zre_fr hok t) c121
                · refine v_iload E dL_parts_124 3 rfl ?_
                  refine v_iload E dL_parts_126 0 rfl ?_
                  refine n_icmp_ne E dL_parts_128 (by omega) (by rw [hre]; exact Nat.lt_trans (gs9_lt (fun j => (hok.2.1 j).1) (hok.2.1 t).2.2 k2) (by decide)) (tgt := 135) (by decide) (fun c128 => ?_) (fun c128 => ?_)
                  · exact absurd (by rw [hre, show k2 = 256 by omega]; exact (zre_gs hok t).symm) c128
                  · refine v_iconst E dL_parts_131 (v := nI 1) rfl ?_
                    refine v_goto E dL_parts_132 (tgt := 136) (by decide) ?_
                    exact y_retz E hr rfl rfl rfl rfl (by omega) (by omega) dL_parts_136
            · refine v_iload E dL_parts_66 0 rfl ?_
              refine v_iload E dL_parts_68 0 rfl ?_
              refine v_iload E dL_parts_70 1 rfl ?_
              refine v_bipush E dL_parts_72 (v := nI 16) rfl ?_
              refine v_irem E dL_parts_74 (z := nI (k2 % 16)) (n_ne0 (by omega) (by omega)) (pk_rem (by omega) (by omega) (by omega)) ?_
              refine v_ishr E dL_parts_75 (z := ((nI re >>> (nI (k2 % 16) &&& 31)))) rfl ?_
              refine v_iconst E dL_parts_76 (v := nI 1) rfl ?_
              refine v_iand E dL_parts_77 (z := nI (re / 2 ^ (k2 % 16) % 2)) (n_bit (by omega) (by omega)) ?_
              refine v_iconst E dL_parts_78 (v := nI 1) rfl ?_
              have J93_3 : V p9 l e9 (headSpec wsL_parts { frames := 9, cells := 1, slots := 6, locals := 154 }).room s9 m9 as9 bl9 me9 cd9 (0 + 1) (0 + 6) (vx_MQ bl9 (v_Qo D (wTy cI cZ cQ cJ) (0 = 0) (some (.int (nI 1))) ((wA cI bx (z_U S) (z_C S) (z_D S) (g9 S) (z_B S) (f9 S) qf (n9 (z_no S) (z_li S) (z_wi S) (z_bu S) (z_qn S))) ++ wX cI cZ cQ a S) A) (v_XC D (wTy cI cZ cQ cJ) 0 exI ((wA cI bx (z_U S) (z_C S) (z_D S) (g9 S) (z_B S) (f9 S) qf (n9 (z_no S) (z_li S) (z_wi S) (z_bu S) (z_qn S))) ++ wX cI cZ cQ a S) A) as9 s9 1 6 A) (v_rw D A s9) 8 93 [(6, .int (nI (re))), (7, .int (nI (k2))), (5, .int (nI (fr))), (4, .int (nI (zre S (t)))), (0, .ref (a 0)), (1, .ref (bx 0)), (2, .ref (bx 2)), (3, .int (nI (t)))] [.int (nI ((if re.testBit (k2 % 16) then z_U S (k2 % 16) else 0))), .int (nI (re))] ((wA cI bx (z_U S) (z_C S) (z_D S) (g9 S) (z_B S) (f9 S) qf (n9 (z_no S) (z_li S) (z_wi S) (z_bu S) (z_qn S))) ++ wX cI cZ cQ a S) := by
                refine v_ior E dL_parts_93 (nx_or _ _) ?_
                refine v_istore E dL_parts_94 (by decide) rfl ?_
                refine v_iinc E dL_parts_96 1 rfl (nI_1 _) (by decide) rfl ?_
                refine v_goto E dL_parts_99 (tgt := 58) (by decide) ?_
                refine v_lv [1, 0, 2, 3, 4, 5, 6, 7] rfl ?_
                exact ih58 (k2 + 1) ((re) ||| (if re.testBit (k2 % 16) then z_U S (k2 % 16) else 0)) (by omega) (by omega) (by rw [hre]; rfl)
              refine n_icmp_ne E dL_parts_79 (by omega) (by omega) (tgt := 92) (by decide) (fun c79 => ?_) (fun c79 => ?_)
              · refine v_iconst E dL_parts_92 (v := nI 0) rfl ?_
                refine v_top (y := nI ((if re.testBit (k2 % 16) then z_U S (k2 % 16) else 0))) (by rw [if_neg (by rw [bit0 c79]; decide)]) ?_
                exact J93_3
              · refine v_aload_n E dL_parts_82 5 rfl rfl ?_
                refine v_iload E dL_parts_83 1 rfl ?_
                refine v_bipush E dL_parts_85 (v := nI 16) rfl ?_
                refine v_irem E dL_parts_87 (z := nI (k2 % 16)) (n_ne0 (by omega) (by omega)) (pk_rem (by omega) (by omega) (by omega)) ?_
                refine v_iald E dL_parts_88 (v := nI (z_U S (k2 % 16))) 0 0 rfl rfl (by omega) (by decide) rfl ?_
                refine v_goto E dL_parts_89 (tgt := 93) (by decide) ?_
                refine v_top (y := nI ((if re.testBit (k2 % 16) then z_U S (k2 % 16) else 0))) (by rw [if_pos (bit1 c79)]) ?_
                exact J93_3
        refine v_lv [1, 0, 2, 3, 4, 5, 6, 7] rfl ?_
        exact L58_2 (256 - (0) + 1) (0) (z_D S t) (by omega) (by omega) rfl
      · refine v_iload E dL_parts_20 0 rfl ?_
        refine v_iload E dL_parts_22 2 rfl ?_
        refine v_iload E dL_parts_24 1 rfl ?_
        refine v_ishr E dL_parts_26 (z := ((nI (zre S t) >>> (nI k &&& 31)))) rfl ?_
        refine v_iconst E dL_parts_27 (v := nI 1) rfl ?_
        refine v_iand E dL_parts_28 (z := nI (zre S t / 2 ^ k % 2)) (n_bit (by omega) (by omega)) ?_
        refine v_iconst E dL_parts_29 (v := nI 1) rfl ?_
        have J41_4 : V p9 l e9 (headSpec wsL_parts { frames := 9, cells := 1, slots := 6, locals := 154 }).room s9 m9 as9 bl9 me9 cd9 (0 + 1) (0 + 6) (vx_MQ bl9 (v_Qo D (wTy cI cZ cQ cJ) (0 = 0) (some (.int (nI 1))) ((wA cI bx (z_U S) (z_C S) (z_D S) (g9 S) (z_B S) (f9 S) qf (n9 (z_no S) (z_li S) (z_wi S) (z_bu S) (z_qn S))) ++ wX cI cZ cQ a S) A) (v_XC D (wTy cI cZ cQ cJ) 0 exI ((wA cI bx (z_U S) (z_C S) (z_D S) (g9 S) (z_B S) (f9 S) qf (n9 (z_no S) (z_li S) (z_wi S) (z_bu S) (z_qn S))) ++ wX cI cZ cQ a S) A) as9 s9 1 6 A) (v_rw D A s9) 8 41 [(5, .int (nI (fr))), (6, .int (nI (k))), (4, .int (nI (zre S (t)))), (0, .ref (a 0)), (1, .ref (bx 0)), (2, .ref (bx 2)), (3, .int (nI (t)))] [.int (nI ((if (zre S t).testBit k then z_U S k else 0))), .int (nI (fr))] ((wA cI bx (z_U S) (z_C S) (z_D S) (g9 S) (z_B S) (f9 S) qf (n9 (z_no S) (z_li S) (z_wi S) (z_bu S) (z_qn S))) ++ wX cI cZ cQ a S) := by
          refine v_ior E dL_parts_41 (nx_or _ _) ?_
          refine v_istore E dL_parts_42 (by decide) rfl ?_
          refine v_iinc E dL_parts_44 1 rfl (nI_1 _) (by decide) rfl ?_
          refine v_goto E dL_parts_47 (tgt := 13) (by decide) ?_
          refine v_lv [1, 0, 2, 3, 4, 5, 6] rfl ?_
          exact ih13 (k + 1) ((fr) ||| (if (zre S t).testBit k then z_U S k else 0)) (by omega) (by omega) (by rw [hf]; rfl)
        refine n_icmp_ne E dL_parts_30 (by omega) (by omega) (tgt := 40) (by decide) (fun c30 => ?_) (fun c30 => ?_)
        · refine v_iconst E dL_parts_40 (v := nI 0) rfl ?_
          refine v_top (y := nI ((if (zre S t).testBit k then z_U S k else 0))) (by rw [if_neg (by rw [bit0 c30]; decide)]) ?_
          exact J41_4
        · refine v_aload_n E dL_parts_33 4 rfl rfl ?_
          refine v_iload E dL_parts_34 1 rfl ?_
          refine v_iald E dL_parts_36 (v := nI (z_U S k)) 0 0 rfl rfl (by omega) (by decide) rfl ?_
          refine v_goto E dL_parts_37 (tgt := 41) (by decide) ?_
          refine v_top (y := nI ((if (zre S t).testBit k then z_U S k else 0))) (by rw [if_pos (bit1 c30)]) ?_
          exact J41_4
  refine v_lv [1, 0, 2, 3, 4, 5, 6] rfl ?_
  exact L13_1 (16 - (0) + 1) (0) (0) (by omega) (by omega) rfl
