/-! ===== the model: what it reads ===== -/
theorem zbt_f3 {v lo hi : Int32} (h : hi < v) : zbt v lo hi = false := by
  rw [i_lt] at h
  exact decide_eq_false (by omega)
theorem zbt_t2 {v lo hi : Int32} (h1 : ¬ v < lo) (h2 : ¬ hi < v) : zbt v lo hi = true := by
  rw [i_lt] at h1 h2
  exact decide_eq_true (by omega)
theorem vd_sum {p f : Nat} : True := trivial
theorem mx_n {a b : Nat} (h : a ≤ b) : a - b = 0 := by omega
set_option maxHeartbeats 4000000 in
set_option maxRecDepth 100000 in
theorem x_X2_in (l : Launch) (D : va_G) (cI cZ cQ cJ : ClassId) (u0 u1 u2 : Int32)  : v_Rdi l yX2_in wsX2_in { frames := 0, cells := 0, slots := 0, locals := 0 } D (wTy cI cZ cQ cJ) [.int (u0), .int (u1), .int (u2)] [] (bI (zbt u0 u1 u2)) := by
  refine v_reader (cc := cX2_in) (maxL := 3) (ret := (some .boolean)) (own := RX2) (lv0 := [(0, .int (u0)), (1, .int (u1)), (2, .int (u2))]) (by decide) rfl rfl (Nat.le_of_ble_eq_true rfl) rfl ?_
  intro p9 e9 s9 m9 as9 bl9 me9 cd9 E hr
  refine v_iload_n E dX2_in_0 0 rfl rfl ?_
  refine v_iload_n E dX2_in_1 1 rfl rfl ?_
  refine v_icmp_lt E dX2_in_2 (tgt := 14) (by decide) (fun c2 => ?_) (fun c2 => ?_)
  · refine v_iconst E dX2_in_14 (v := nI 0) rfl ?_
    exact v_retz E hr rfl (by show _ = _; rw [zbt_f1 c2]; rfl) dX2_in_15
  · refine v_iload_n E dX2_in_5 0 rfl rfl ?_
    refine v_iload_n E dX2_in_6 2 rfl rfl ?_
    refine v_icmp_gt E dX2_in_7 (tgt := 14) (by decide) (fun c7 => ?_) (fun c7 => ?_)
    · refine v_iconst E dX2_in_14 (v := nI 0) rfl ?_
      exact v_retz E hr rfl (by show _ = _; rw [zbt_f3 c7]; rfl) dX2_in_15
    · refine v_iconst E dX2_in_10 (v := nI 1) rfl ?_
      refine v_goto E dX2_in_11 (tgt := 15) (by decide) ?_
      exact v_retz E hr rfl (by show _ = _; rw [zbt_t2 c2 c7]; rfl) dX2_in_15

set_option maxHeartbeats 4000000 in
set_option maxRecDepth 100000 in
theorem x_X2_areParts (l : Launch) (D : va_G) (cI cZ cQ cJ : ClassId) (u0 : Int32)  : v_Rdi l yX2_areParts wsX2_areParts { frames := 1, cells := 0, slots := 0, locals := 22 } D (wTy cI cZ cQ cJ) [.int (u0)] [] (bI (zin u0 65536)) := by
  refine v_reader (cc := cX2_areParts) (maxL := 1) (ret := (some .boolean)) (own := RX2) (lv0 := [(0, .int (u0))]) (by decide) rfl rfl (Nat.le_of_ble_eq_true rfl) rfl ?_
  intro p9 e9 s9 m9 as9 bl9 me9 cd9 E hr
  refine v_iload_n E dX2_areParts_0 0 rfl rfl ?_
  refine v_iconst E dX2_areParts_1 (v := nI 0) rfl ?_
  refine v_ldc E dX2_areParts_2 (v := 65535) (x := nI 65535) (by decide +kernel) rfl ?_
  refine v_cSi' E dX2_areParts_4 (x_X2_in l D cI cZ cQ cJ ((u0)) (nI (0)) (nI (65535))) (va_cwS 3 E.2.2.2.1 gX2_areParts_X2_in rfl rfl rfl (by decide +kernel) ⟨Nat.le_of_ble_eq_true rfl, Nat.le_of_ble_eq_true rfl⟩) (fun _ _ => v_nil _) rfl rfl ⟨Nat.le_of_ble_eq_true rfl, Nat.le_of_ble_eq_true rfl⟩ (Nat.le_of_ble_eq_true rfl) ?_
  refine v_top (y := bI (zin u0 65536)) (congrArg bI (zbt_z u0 (n := 65535) (by decide))) ?_
  exact v_retz E hr (bI_narrow _) rfl dX2_areParts_7

set_option maxHeartbeats 4000000 in
set_option maxRecDepth 100000 in
theorem x_X2_isTest (l : Launch) (D : va_G) (cI cZ cQ cJ : ClassId) (b : Nat → Nat) (S : zS) (th : Nat) (hok : zOK S) (u0 : Int32)  : v_Rdi l yX2_isTest wsX2_isTest { frames := 1, cells := 0, slots := 0, locals := 22 } D (wTy cI cZ cQ cJ) [.ref (b 0), .int (u0)] (wM cI b S th) (bI (zin u0 (z_nt S))) := by
  refine v_reader (cc := cX2_isTest) (maxL := 2) (ret := (some .boolean)) (own := RX2) (lv0 := [(0, .ref (b 0)), (1, .int (u0))]) (by decide) rfl rfl (Nat.le_of_ble_eq_true rfl) rfl ?_
  intro p9 e9 s9 m9 as9 bl9 me9 cd9 E hr
  have hinX2 : ∀ w ∈ u_ws RX2 TX2 16, w ∈ wsX2_isTest := by decide +kernel
  obtain ⟨⟨k1, k2, k3, k4, k5, k6, k7, k8⟩, k9, k10, k11, k12, k13⟩ := id hok
  refine v_iload_n E dX2_isTest_0 1 rfl rfl ?_
  refine v_iconst E dX2_isTest_1 (v := nI 0) rfl ?_
  refine v_aload_n E dX2_isTest_2 0 rfl rfl ?_
  refine v_get E dX2_isTest_3 0 1 hinX2 rfl rfl (by decide) (by decide +kernel) rfl rfl ?_
  refine v_iconst E dX2_isTest_6 (v := nI 1) rfl ?_
  refine v_isub E dX2_isTest_7 (z := (nI (z_nt S) - nI 1)) rfl ?_
  refine v_cSi' E dX2_isTest_8 (x_X2_in l D cI cZ cQ cJ ((u0)) (nI (0)) ((nI (z_nt S) - nI 1))) (va_cwS 3 E.2.2.2.1 gX2_isTest_X2_in rfl rfl rfl (by decide +kernel) ⟨Nat.le_of_ble_eq_true rfl, Nat.le_of_ble_eq_true rfl⟩) (fun _ _ => v_nil _) rfl rfl ⟨Nat.le_of_ble_eq_true rfl, Nat.le_of_ble_eq_true rfl⟩ (Nat.le_of_ble_eq_true rfl) ?_
  refine v_top (y := bI (zin u0 (z_nt S))) (congrArg bI (zbt_n u0 (by omega))) ?_
  exact v_retz E hr (bI_narrow _) rfl dX2_isTest_11

set_option maxHeartbeats 4000000 in
set_option maxRecDepth 100000 in
theorem x_X2_isCommit (l : Launch) (D : va_G) (cI cZ cQ cJ : ClassId) (b : Nat → Nat) (S : zS) (th : Nat) (hok : zOK S) (u0 : Int32)  : v_Rdi l yX2_isCommit wsX2_isCommit { frames := 1, cells := 0, slots := 0, locals := 22 } D (wTy cI cZ cQ cJ) [.ref (b 0), .int (u0)] (wM cI b S th) (bI (zin u0 (z_nc S))) := by
  refine v_reader (cc := cX2_isCommit) (maxL := 2) (ret := (some .boolean)) (own := RX2) (lv0 := [(0, .ref (b 0)), (1, .int (u0))]) (by decide) rfl rfl (Nat.le_of_ble_eq_true rfl) rfl ?_
  intro p9 e9 s9 m9 as9 bl9 me9 cd9 E hr
  have hinX2 : ∀ w ∈ u_ws RX2 TX2 16, w ∈ wsX2_isCommit := by decide +kernel
  obtain ⟨⟨k1, k2, k3, k4, k5, k6, k7, k8⟩, k9, k10, k11, k12, k13⟩ := id hok
  refine v_iload_n E dX2_isCommit_0 1 rfl rfl ?_
  refine v_iconst E dX2_isCommit_1 (v := nI 0) rfl ?_
  refine v_aload_n E dX2_isCommit_2 0 rfl rfl ?_
  refine v_get E dX2_isCommit_3 0 0 hinX2 rfl rfl (by decide) (by decide +kernel) rfl rfl ?_
  refine v_iconst E dX2_isCommit_6 (v := nI 1) rfl ?_
  refine v_isub E dX2_isCommit_7 (z := (nI (z_nc S) - nI 1)) rfl ?_
  refine v_cSi' E dX2_isCommit_8 (x_X2_in l D cI cZ cQ cJ ((u0)) (nI (0)) ((nI (z_nc S) - nI 1))) (va_cwS 3 E.2.2.2.1 gX2_isCommit_X2_in rfl rfl rfl (by decide +kernel) ⟨Nat.le_of_ble_eq_true rfl, Nat.le_of_ble_eq_true rfl⟩) (fun _ _ => v_nil _) rfl rfl ⟨Nat.le_of_ble_eq_true rfl, Nat.le_of_ble_eq_true rfl⟩ (Nat.le_of_ble_eq_true rfl) ?_
  refine v_top (y := bI (zin u0 (z_nc S))) (congrArg bI (zbt_n u0 (by omega))) ?_
  exact v_retz E hr (bI_narrow _) rfl dX2_isCommit_11

set_option maxHeartbeats 4000000 in
set_option maxRecDepth 100000 in
theorem x_X2_isInTriage (l : Launch) (D : va_G) (cI cZ cQ cJ : ClassId) (b : Nat → Nat) (S : zS) (th : Nat) (hok : zOK S) (u0 : Int32)  : v_Rdi l yX2_isInTriage wsX2_isInTriage { frames := 2, cells := 0, slots := 0, locals := 43 } D (wTy cI cZ cQ cJ) [.ref (b 0), .int (u0)] (wM cI b S th) (bI (zin u0 (z_nt S) && z_T S (iN u0))) := by
  refine v_reader (cc := cX2_isInTriage) (maxL := 2) (ret := (some .boolean)) (own := RX2) (lv0 := [(0, .ref (b 0)), (1, .int (u0))]) (by decide) rfl rfl (Nat.le_of_ble_eq_true rfl) rfl ?_
  intro p9 e9 s9 m9 as9 bl9 me9 cd9 E hr
  have hinX2 : ∀ w ∈ u_ws RX2 TX2 16, w ∈ wsX2_isInTriage := by decide +kernel
  obtain ⟨⟨k1, k2, k3, k4, k5, k6, k7, k8⟩, k9, k10, k11, k12, k13⟩ := id hok
  refine v_aload_n E dX2_isInTriage_0 0 rfl rfl ?_
  refine v_iload_n E dX2_isInTriage_1 1 rfl rfl ?_
  refine v_cVi' E dX2_isInTriage_2 (x_X2_isTest l D cI cZ cQ cJ b S (th) hok ((u0))) (cwV 1 E.2.2.2.1 gX2_isInTriage_X2_isTest rfl rfl rfl (by decide +kernel) ⟨Nat.le_of_ble_eq_true rfl, Nat.le_of_ble_eq_true rfl⟩) 0 rfl rfl rfl (fun _ h => h) rfl rfl ⟨Nat.le_of_ble_eq_true rfl, Nat.le_of_ble_eq_true rfl⟩ (Nat.le_of_ble_eq_true rfl) ?_
  refine b_if_eq E dX2_isInTriage_5 (tgt := 22) (by decide) (fun c5 => ?_) (fun c5 => ?_)
  · refine v_iconst E dX2_isInTriage_22 (v := nI 0) rfl ?_
    exact v_retz E hr rfl (by show _ = _; rw [c5]; rfl) dX2_isInTriage_23
  · obtain ⟨t, ht, rfl⟩ := zin_of (by omega) c5
    try simp only [iN_nI (show t < 2 ^ 31 by omega)]
    have hzt := zin_n ht (show z_nt S ≤ 2 ^ 31 by omega)
    refine v_aload_n E dX2_isInTriage_8 0 rfl rfl ?_
    refine v_get E dX2_isInTriage_9 0 11 hinX2 rfl rfl (by decide) (by decide +kernel) rfl rfl ?_
    refine v_iload_n E dX2_isInTriage_12 1 rfl rfl ?_
    refine v_iald E dX2_isInTriage_13 6 0 rfl rfl (by omega) (by decide) rfl ?_
    refine v_iconst E dX2_isInTriage_14 (v := (-1)) rfl ?_
    refine v_icmp_eq E dX2_isInTriage_15 (tgt := 22) (by decide) (fun c15 => ?_) (fun c15 => ?_)
    · refine v_iconst E dX2_isInTriage_22 (v := nI 0) rfl ?_
      exact v_retz E hr rfl (by show _ = _; rw [hzt, zgood_1 hok c15]; rfl) dX2_isInTriage_23
    · refine v_iconst E dX2_isInTriage_18 (v := nI 1) rfl ?_
      refine v_goto E dX2_isInTriage_19 (tgt := 23) (by decide) ?_
      exact v_retz E hr rfl (by show _ = _; rw [hzt, zgood_2 c15]; rfl) dX2_isInTriage_23

set_option maxHeartbeats 4000000 in
set_option maxRecDepth 100000 in
theorem x_X2_reach (l : Launch) (D : va_G) (cI cZ cQ cJ : ClassId) (b : Nat → Nat) (S : zS) (th : Nat) (hok : zOK S) (t : Nat) (ht : t < 12)  : v_Rdi l yX2_reach wsX2_reach { frames := 0, cells := 0, slots := 0, locals := 0 } D (wTy cI cZ cQ cJ) [.ref (b 0), .int (nI (t))] (wM cI b S th) (nI (zre S t)) := by
  refine v_reader (cc := cX2_reach) (maxL := 5) (ret := (some .int)) (own := RX2) (lv0 := [(0, .ref (b 0)), (1, .int (nI (t)))]) (by decide) rfl rfl (Nat.le_of_ble_eq_true rfl) rfl ?_
  intro p9 e9 s9 m9 as9 bl9 me9 cd9 E hr
  have hinX2 : ∀ w ∈ u_ws RX2 TX2 16, w ∈ wsX2_reach := by decide +kernel
  obtain ⟨⟨k1, k2, k3, k4, k5, k6, k7, k8⟩, k9, k10, k11, k12, k13⟩ := id hok
  refine v_iconst E dX2_reach_0 (v := nI 0) rfl ?_
  refine v_istore_n E dX2_reach_1 rfl (by decide) rfl ?_
  refine v_aload_n E dX2_reach_2 1 rfl rfl ?_
  refine v_get E dX2_reach_3 0 8 hinX2 rfl rfl (by decide) (by decide +kernel) rfl rfl ?_
  refine v_iload_n E dX2_reach_6 2 rfl rfl ?_
  refine v_iald E dX2_reach_7 3 0 rfl rfl (by omega) (by decide) rfl ?_
  refine v_istore_n E dX2_reach_8 rfl (by decide) rfl ?_
  have L9_1 : ∀ (n9 : Nat) (ss : Nat) (mm : Nat) (r : Nat), 2 * (17 - pb mm) + (if ss = mm then 0 else 1) < n9 → (mm = rch (z_U S) (z_D S t) r) → ((r = 0 ∧ ss = 0) ∨ (0 < r ∧ ss = rch (z_U S) (z_D S t) (r - 1) ∧ r - 1 ≤ pb ss)) → V p9 l e9 (headSpec wsX2_reach { frames := 0, cells := 0, slots := 0, locals := 0 }).room s9 m9 as9 bl9 me9 cd9 0 0 (MQ bl9 (vp_Si (fun r => r = nI (zre S t))) as9 s9 0 0 (fun _ => False)) (v_ro D s9) 5 9 [(2, .int (nI (ss))), (3, .int (nI (mm))), (0, .ref (b 0)), (1, .int (nI (t)))] [] (wM cI b S (th)) := by
    intro n9
    induction n9 with
    | zero => intro ss mm r hm9 hm hss; exact absurd hm9 (Nat.not_lt_zero _)
    | succ n9 ih9 =>
      intro ss mm r hm9 hm hss
      have hmb : mm < 65536 := by rw [hm]; exact rch_lt (fun j => (k9 j).1) (k9 t).2.2 r
      have hpm := pb_le mm
      have hsb : ss < 65536 := by rcases hss with ⟨z1, z2⟩ | ⟨z1, z2, z3⟩; omega; rw [z2]; exact rch_lt (fun j => (k9 j).1) (k9 t).2.2 (r - 1)
      have hssub : ∀ i, ss.testBit i = true → mm.testBit i = true := by intro i hi; rcases hss with ⟨z1, z2⟩ | ⟨z1, z2, z3⟩; rw [z2, Nat.zero_testBit] at hi; exact absurd hi (by decide); rw [hm, show r = (r - 1) + 1 by omega]; exact stp_sub _ _ i (by rw [← z2]; exact hi) 16
      refine v_iload_n E dX2_reach_9 0 rfl rfl ?_
      refine v_iload_n E dX2_reach_10 1 rfl rfl ?_
      refine n_icmp_eq E dX2_reach_11 (by omega) (by omega) (tgt := 59) (by decide) (fun c11 => ?_) (fun c11 => ?_)
      · refine v_iload_n E dX2_reach_59 0 rfl rfl ?_
        exact v_ret E hr (congrArg nI (by
          rcases hss with ⟨z1, z2⟩ | ⟨z1, z2, z3⟩
          · rw [z2]; rw [c11] at z2; exact zre_of (r := 0) (z2.symm.trans (by rw [z1] at hm; exact hm)) (stp_0 _ 16) (by omega)
          · have hp9 := pb_le ss; exact zre_of z2 (by have e9 : mm = stp (z_U S) ss 16 := (by rw [hm, z2, show r = (r - 1) + 1 by omega]; rfl); rw [← e9]; exact c11.symm) (by omega))) dX2_reach_60
      · refine v_iload_n E dX2_reach_14 1 rfl rfl ?_
        refine v_istore_n E dX2_reach_15 rfl (by decide) rfl ?_
        refine v_iconst E dX2_reach_16 (v := nI 0) rfl ?_
        refine v_istore E dX2_reach_17 (by decide) rfl ?_
        have L19_2 : ∀ (n19 : Nat) (w : Nat) (k : Nat), 16 - k < n19 → (w = stp (z_U S) mm k) → (k ≤ 16) → V p9 l e9 (headSpec wsX2_reach { frames := 0, cells := 0, slots := 0, locals := 0 }).room s9 m9 as9 bl9 me9 cd9 0 0 (MQ bl9 (vp_Si (fun r => r = nI (zre S t))) as9 s9 0 0 (fun _ => False)) (v_ro D s9) 5 19 [(3, .int (nI (w))), (4, .int (nI (k))), (2, .int (nI (mm))), (0, .ref (b 0)), (1, .int (nI (t)))] [] (wM cI b S (th)) := by
          intro n19
          induction n19 with
          | zero => intro w k hm19 hw hk; exact absurd hm19 (Nat.not_lt_zero _)
          | succ n19 ih19 =>
            intro w k hm19 hw hk
            have hwb : w < 65536 := by rw [hw]; exact stp_lt (fun j => (k9 j).1) hmb k
            have hmod : mm / 2 ^ k % 2 < 2 := Nat.mod_lt _ (by decide)
            refine v_iload E dX2_reach_19 1 rfl ?_
            refine v_bipush E dX2_reach_21 (v := nI 16) rfl ?_
            refine n_icmp_ge E dX2_reach_23 (by omega) (by omega) (tgt := 56) (by decide) (fun c23 => ?_) (fun c23 => ?_)
            · have hm2 : 2 * (17 - pb w) + (if mm = w then 0 else 1) < n9 := by
                have hk16 : k = 16 := by omega
                rw [hk16] at hw
                by_cases e : mm = w
                · rw [if_pos e, ← e]
                  rw [if_neg c11] at hm9
                  omega
                · have h1 := pb_lt hmb hwb (fun i hi => by rw [hw]; exact stp_sub _ _ i hi 16) e
                  have h2 := pb_le w
                  rw [if_neg e]
                  rw [if_neg c11] at hm9
                  omega
              refine v_goto E dX2_reach_56 (tgt := 9) (by decide) ?_
              refine v_lv [2, 0, 3, 4] rfl ?_
              exact ih9 (mm) (w) (r + 1) hm2 (by rw [hw, hm, show k = 16 by omega]; rfl) (Or.inr ⟨by omega, hm, by rcases hss with ⟨z1, z2⟩ | ⟨z1, z2, z3⟩ <;> have zz := pb_lt hsb hmb hssub c11 <;> omega⟩)
            · refine v_iload_n E dX2_reach_26 0 rfl rfl ?_
              refine v_iload_n E dX2_reach_27 2 rfl rfl ?_
              refine v_iload E dX2_reach_28 1 rfl ?_
              refine v_ishr E dX2_reach_30 (z := (nI mm >>> (nI k &&& 31))) rfl ?_
              refine v_iconst E dX2_reach_31 (v := nI 1) rfl ?_
              refine v_iand E dX2_reach_32 (z := nI (mm / 2 ^ k % 2)) (n_bit (by omega) (by omega)) ?_
              refine v_iconst E dX2_reach_33 (v := nI 1) rfl ?_
              refine n_icmp_ne E dX2_reach_34 (by omega) (by omega) (tgt := 47) (by decide) (fun c34 => ?_) (fun c34 => ?_)
              · refine v_iconst E dX2_reach_47 (v := nI 0) rfl ?_
                refine v_ior E dX2_reach_48 (z := nI (w)) (by rw [nx_or, Nat.or_zero]) ?_
                refine v_istore_n E dX2_reach_49 rfl (by decide) rfl ?_
                refine v_iinc E dX2_reach_50 1 rfl (nI_1 _) (by decide) rfl ?_
                refine v_goto E dX2_reach_53 (tgt := 19) (by decide) ?_
                refine v_lv [1, 0, 2, 3, 4] rfl ?_
                exact ih19 (w) (k + 1) (by omega) (stp_f hw (tb_f (by omega))) (by omega)
              · refine v_aload_n E dX2_reach_37 3 rfl rfl ?_
                refine v_get E dX2_reach_38 0 6 hinX2 rfl rfl (by decide) (by decide +kernel) rfl rfl ?_
                refine v_iload E dX2_reach_41 1 rfl ?_
                refine v_iald E dX2_reach_43 1 0 rfl rfl (by omega) (by decide) rfl ?_
                refine v_goto E dX2_reach_44 (tgt := 48) (by decide) ?_
                refine v_ior E dX2_reach_48 (z := nI ((w) ||| (z_U S (k)))) (nx_or _ _) ?_
                refine v_istore_n E dX2_reach_49 rfl (by decide) rfl ?_
                refine v_iinc E dX2_reach_50 1 rfl (nI_1 _) (by decide) rfl ?_
                refine v_goto E dX2_reach_53 (tgt := 19) (by decide) ?_
                refine v_lv [1, 0, 2, 3, 4] rfl ?_
                exact ih19 ((w) ||| (z_U S (k))) (k + 1) (by omega) (stp_t hw (tb_t (by omega))) (by omega)
        refine v_lv [2, 0, 1, 3, 4] rfl ?_
        exact L19_2 ((16 - (0)) + 1) (mm) (0) (by omega) rfl (by omega)
  refine v_lv [1, 0, 2, 3] rfl ?_
  exact L9_1 ((2 * (17 - pb (z_D S t)) + (if (0) = (z_D S t) then 0 else 1)) + 1) (0) (z_D S t) (0) (by omega) rfl (Or.inl ⟨rfl, rfl⟩)

set_option maxHeartbeats 4000000 in
set_option maxRecDepth 100000 in
theorem x_X2_verdictOf (l : Launch) (D : va_G) (cI cZ cQ cJ : ClassId) (b : Nat → Nat) (S : zS) (th : Nat) (hok : zOK S) (t c : Nat) (ht : t < 12) (hc : c < 40)  : v_Rdi l yX2_verdictOf wsX2_verdictOf { frames := 0, cells := 0, slots := 0, locals := 0 } D (wTy cI cZ cQ cJ) [.ref (b 0), .int (nI (t)), .int (nI (c))] (wM cI b S th) (nI (vd (z_P S t c) (z_F S t c))) := by
  refine v_reader (cc := cX2_verdictOf) (maxL := 4) (ret := (some .int)) (own := RX2) (lv0 := [(0, .ref (b 0)), (1, .int (nI (t))), (2, .int (nI (c)))]) (by decide) rfl rfl (Nat.le_of_ble_eq_true rfl) rfl ?_
  intro p9 e9 s9 m9 as9 bl9 me9 cd9 E hr
  have hinX2 : ∀ w ∈ u_ws RX2 TX2 16, w ∈ wsX2_verdictOf := by decide +kernel
  have hP := zP_le hok
  have hF := zF_le hok
  refine v_bipush E dX2_verdictOf_0 (v := nI 40) rfl ?_
  refine v_iload_n E dX2_verdictOf_2 1 rfl rfl ?_
  refine v_imul E dX2_verdictOf_3 (pk_mul _ _) ?_
  refine v_iload_n E dX2_verdictOf_4 2 rfl rfl ?_
  refine v_iadd E dX2_verdictOf_5 (nI_add _ _) ?_
  refine v_istore_n E dX2_verdictOf_6 rfl (by decide) rfl ?_
  refine v_aload_n E dX2_verdictOf_7 1 rfl rfl ?_
  refine v_get E dX2_verdictOf_8 0 9 hinX2 rfl rfl (by decide) (by decide +kernel) rfl rfl ?_
  refine v_iload_n E dX2_verdictOf_11 0 rfl rfl ?_
  refine v_iald E dX2_verdictOf_12 (v := nI (z_P S (t) (c))) 4 0 rfl rfl (by omega) (by decide) (zP_e (by omega)) ?_
  refine n_if_le E dX2_verdictOf_13 (by have := hP t c; omega) (tgt := 20) (by decide) (fun c13 => ?_) (fun c13 => ?_)
  · refine v_iconst E dX2_verdictOf_20 (v := nI 0) rfl ?_
    refine v_aload_n E dX2_verdictOf_21 1 rfl rfl ?_
    refine v_get E dX2_verdictOf_22 0 10 hinX2 rfl rfl (by decide) (by decide +kernel) rfl rfl ?_
    refine v_iload_n E dX2_verdictOf_25 0 rfl rfl ?_
    refine v_iald E dX2_verdictOf_26 (v := nI (z_F S (t) (c))) 5 0 rfl rfl (by omega) (by decide) (zF_e (by omega)) ?_
    refine n_if_le E dX2_verdictOf_27 (by have := hF t c; omega) (tgt := 34) (by decide) (fun c27 => ?_) (fun c27 => ?_)
    · refine v_iconst E dX2_verdictOf_34 (v := nI 0) rfl ?_
      refine v_iadd E dX2_verdictOf_35 (nI_add _ _) ?_
      exact v_ret E hr (by simp [vd, c13, c27]) dX2_verdictOf_36
    · refine v_iconst E dX2_verdictOf_30 (v := nI 2) rfl ?_
      refine v_goto E dX2_verdictOf_31 (tgt := 35) (by decide) ?_
      refine v_iadd E dX2_verdictOf_35 (nI_add _ _) ?_
      exact v_ret E hr (by simp [vd, c13, c27]) dX2_verdictOf_36
  · refine v_iconst E dX2_verdictOf_16 (v := nI 1) rfl ?_
    refine v_goto E dX2_verdictOf_17 (tgt := 21) (by decide) ?_
    refine v_aload_n E dX2_verdictOf_21 1 rfl rfl ?_
    refine v_get E dX2_verdictOf_22 0 10 hinX2 rfl rfl (by decide) (by decide +kernel) rfl rfl ?_
    refine v_iload_n E dX2_verdictOf_25 0 rfl rfl ?_
    refine v_iald E dX2_verdictOf_26 (v := nI (z_F S (t) (c))) 5 0 rfl rfl (by omega) (by decide) (zF_e (by omega)) ?_
    refine n_if_le E dX2_verdictOf_27 (by have := hF t c; omega) (tgt := 34) (by decide) (fun c27 => ?_) (fun c27 => ?_)
    · refine v_iconst E dX2_verdictOf_34 (v := nI 0) rfl ?_
      refine v_iadd E dX2_verdictOf_35 (nI_add _ _) ?_
      exact v_ret E hr (by simp [vd, c13, c27]) dX2_verdictOf_36
    · refine v_iconst E dX2_verdictOf_30 (v := nI 2) rfl ?_
      refine v_goto E dX2_verdictOf_31 (tgt := 35) (by decide) ?_
      refine v_iadd E dX2_verdictOf_35 (nI_add _ _) ?_
      exact v_ret E hr (by simp [vd, c13, c27]) dX2_verdictOf_36

set_option maxHeartbeats 4000000 in
set_option maxRecDepth 100000 in
theorem x_X2_all_P (l : Launch) (D : va_G) (cI cZ cQ cJ : ClassId) (b : Nat → Nat) (S : zS) (th : Nat) (hok : zOK S) (t : Nat) (ht : t < 12)  : v_Rdi l yX2_all wsX2_all { frames := 0, cells := 0, slots := 0, locals := 0 } D (wTy cI cZ cQ cJ) [.ref (b 0), .int (nI (t)), .ref (b 4)] (wM cI b S th) (nI (sm (z_P S t) 40)) := by
  refine v_reader (cc := cX2_all) (maxL := 5) (ret := (some .int)) (own := RX2) (lv0 := [(0, .ref (b 0)), (1, .int (nI (t))), (2, .ref (b 4))]) (by decide) rfl rfl (Nat.le_of_ble_eq_true rfl) rfl ?_
  intro p9 e9 s9 m9 as9 bl9 me9 cd9 E hr
  refine v_iconst E dX2_all_0 (v := nI 0) rfl ?_
  refine v_istore_n E dX2_all_1 rfl (by decide) rfl ?_
  refine v_iconst E dX2_all_2 (v := nI 0) rfl ?_
  refine v_istore E dX2_all_3 (by decide) rfl ?_
  have L5_1 : ∀ (n5 : Nat) (f : Nat) (c : Nat), 40 - c < n5 → (f = sm (z_P S t) c) → (c ≤ 40) → V p9 l e9 (headSpec wsX2_all { frames := 0, cells := 0, slots := 0, locals := 0 }).room s9 m9 as9 bl9 me9 cd9 0 0 (MQ bl9 (vp_Si (fun r => r = nI (sm (z_P S t) 40))) as9 s9 0 0 (fun _ => False)) (v_ro D s9) 5 5 [(3, .int (nI (f))), (4, .int (nI (c))), (0, .ref (b 0)), (1, .int (nI (t))), (2, .ref (b 4))] [] (wM cI b S (th)) := by
    intro n5
    induction n5 with
    | zero => intro f c hm5 hf h2; exact absurd hm5 (Nat.not_lt_zero _)
    | succ n5 ih5 =>
      intro f c hm5 hf h2
      refine v_iload E dX2_all_5 1 rfl ?_
      refine v_bipush E dX2_all_7 (v := nI 40) rfl ?_
      refine n_icmp_ge E dX2_all_9 (by omega) (by omega) (tgt := 30) (by decide) (fun c9 => ?_) (fun c9 => ?_)
      · refine v_iload_n E dX2_all_30 0 rfl rfl ?_
        exact v_ret E hr (by have e : c = 40 := (by omega); rw [hf, e]) dX2_all_31
      · refine v_iload_n E dX2_all_12 0 rfl rfl ?_
        refine v_aload_n E dX2_all_13 4 rfl rfl ?_
        refine v_bipush E dX2_all_14 (v := nI 40) rfl ?_
        refine v_iload_n E dX2_all_16 3 rfl rfl ?_
        refine v_imul E dX2_all_17 (pk_mul _ _) ?_
        refine v_iload E dX2_all_18 1 rfl ?_
        refine v_iadd E dX2_all_20 (nI_add _ _) ?_
        refine v_iald E dX2_all_21 (v := nI (z_P S (t) (c))) 4 0 rfl rfl (by omega) (by decide) (zP_e (by omega)) ?_
        refine v_iadd E dX2_all_22 (nI_add _ _) ?_
        refine v_istore_n E dX2_all_23 rfl (by decide) rfl ?_
        refine v_iinc E dX2_all_24 1 rfl (nI_1 _) (by decide) rfl ?_
        refine v_goto E dX2_all_27 (tgt := 5) (by decide) ?_
        refine v_lv [1, 0, 2, 3, 4] rfl ?_
        exact ih5 (f + z_P S t c) (c + 1) (by omega) (zsm_s hf) (by omega)
  refine v_lv [1, 0, 2, 3, 4] rfl ?_
  exact L5_1 ((40 - (0)) + 1) (0) (0) (by omega) rfl (by omega)

set_option maxHeartbeats 4000000 in
set_option maxRecDepth 100000 in
theorem x_X2_all_F (l : Launch) (D : va_G) (cI cZ cQ cJ : ClassId) (b : Nat → Nat) (S : zS) (th : Nat) (hok : zOK S) (t : Nat) (ht : t < 12)  : v_Rdi l yX2_all wsX2_all { frames := 0, cells := 0, slots := 0, locals := 0 } D (wTy cI cZ cQ cJ) [.ref (b 0), .int (nI (t)), .ref (b 5)] (wM cI b S th) (nI (sm (z_F S t) 40)) := by
  refine v_reader (cc := cX2_all) (maxL := 5) (ret := (some .int)) (own := RX2) (lv0 := [(0, .ref (b 0)), (1, .int (nI (t))), (2, .ref (b 5))]) (by decide) rfl rfl (Nat.le_of_ble_eq_true rfl) rfl ?_
  intro p9 e9 s9 m9 as9 bl9 me9 cd9 E hr
  refine v_iconst E dX2_all_0 (v := nI 0) rfl ?_
  refine v_istore_n E dX2_all_1 rfl (by decide) rfl ?_
  refine v_iconst E dX2_all_2 (v := nI 0) rfl ?_
  refine v_istore E dX2_all_3 (by decide) rfl ?_
  have L5_1 : ∀ (n5 : Nat) (f : Nat) (c : Nat), 40 - c < n5 → (f = sm (z_F S t) c) → (c ≤ 40) → V p9 l e9 (headSpec wsX2_all { frames := 0, cells := 0, slots := 0, locals := 0 }).room s9 m9 as9 bl9 me9 cd9 0 0 (MQ bl9 (vp_Si (fun r => r = nI (sm (z_F S t) 40))) as9 s9 0 0 (fun _ => False)) (v_ro D s9) 5 5 [(3, .int (nI (f))), (4, .int (nI (c))), (0, .ref (b 0)), (1, .int (nI (t))), (2, .ref (b 5))] [] (wM cI b S (th)) := by
    intro n5
    induction n5 with
    | zero => intro f c hm5 hf h2; exact absurd hm5 (Nat.not_lt_zero _)
    | succ n5 ih5 =>
      intro f c hm5 hf h2
      refine v_iload E dX2_all_5 1 rfl ?_
      refine v_bipush E dX2_all_7 (v := nI 40) rfl ?_
      refine n_icmp_ge E dX2_all_9 (by omega) (by omega) (tgt := 30) (by decide) (fun c9 => ?_) (fun c9 => ?_)
      · refine v_iload_n E dX2_all_30 0 rfl rfl ?_
        exact v_ret E hr (by have e : c = 40 := (by omega); rw [hf, e]) dX2_all_31
      · refine v_iload_n E dX2_all_12 0 rfl rfl ?_
        refine v_aload_n E dX2_all_13 4 rfl rfl ?_
        refine v_bipush E dX2_all_14 (v := nI 40) rfl ?_
        refine v_iload_n E dX2_all_16 3 rfl rfl ?_
        refine v_imul E dX2_all_17 (pk_mul _ _) ?_
        refine v_iload E dX2_all_18 1 rfl ?_
        refine v_iadd E dX2_all_20 (nI_add _ _) ?_
        refine v_iald E dX2_all_21 (v := nI (z_F S (t) (c))) 5 0 rfl rfl (by omega) (by decide) (zF_e (by omega)) ?_
        refine v_iadd E dX2_all_22 (nI_add _ _) ?_
        refine v_istore_n E dX2_all_23 rfl (by decide) rfl ?_
        refine v_iinc E dX2_all_24 1 rfl (nI_1 _) (by decide) rfl ?_
        refine v_goto E dX2_all_27 (tgt := 5) (by decide) ?_
        refine v_lv [1, 0, 2, 3, 4] rfl ?_
        exact ih5 (f + z_F S t c) (c + 1) (by omega) (zsm_s hf) (by omega)
  refine v_lv [1, 0, 2, 3, 4] rfl ?_
  exact L5_1 ((40 - (0)) + 1) (0) (0) (by omega) rfl (by omega)

set_option maxHeartbeats 4000000 in
set_option maxRecDepth 100000 in
theorem x_X2_allRuns (l : Launch) (D : va_G) (cI cZ cQ cJ : ClassId) (b : Nat → Nat) (S : zS) (th : Nat) (hok : zOK S) (t : Nat) (ht : t < 12)  : v_Rdi l yX2_allRuns wsX2_allRuns { frames := 1, cells := 0, slots := 0, locals := 24 } D (wTy cI cZ cQ cJ) [.ref (b 0), .int (nI (t))] (wM cI b S th) (nI (z_R S t)) := by
  refine v_reader (cc := cX2_allRuns) (maxL := 2) (ret := (some .int)) (own := RX2) (lv0 := [(0, .ref (b 0)), (1, .int (nI (t)))]) (by decide) rfl rfl (Nat.le_of_ble_eq_true rfl) rfl ?_
  intro p9 e9 s9 m9 as9 bl9 me9 cd9 E hr
  have hinX2 : ∀ w ∈ u_ws RX2 TX2 16, w ∈ wsX2_allRuns := by decide +kernel
  have hpf := zPF_sum hok t
  refine v_aload_n E dX2_allRuns_0 0 rfl rfl ?_
  refine v_iload_n E dX2_allRuns_1 1 rfl rfl ?_
  refine v_aload_n E dX2_allRuns_2 0 rfl rfl ?_
  refine v_get E dX2_allRuns_3 0 9 hinX2 rfl rfl (by decide) (by decide +kernel) rfl rfl ?_
  refine v_cVi' E dX2_allRuns_6 (x_X2_all_P l D cI cZ cQ cJ b S (th) hok (t) (by omega)) (cwV 2 E.2.2.2.1 gX2_allRuns_X2_all rfl rfl rfl (by decide +kernel) ⟨Nat.le_of_ble_eq_true rfl, Nat.le_of_ble_eq_true rfl⟩) 0 rfl rfl rfl (fun _ h => h) rfl rfl ⟨Nat.le_of_ble_eq_true rfl, Nat.le_of_ble_eq_true rfl⟩ (Nat.le_of_ble_eq_true rfl) ?_
  refine v_aload_n E dX2_allRuns_9 0 rfl rfl ?_
  refine v_iload_n E dX2_allRuns_10 1 rfl rfl ?_
  refine v_aload_n E dX2_allRuns_11 0 rfl rfl ?_
  refine v_get E dX2_allRuns_12 0 10 hinX2 rfl rfl (by decide) (by decide +kernel) rfl rfl ?_
  refine v_cVi' E dX2_allRuns_15 (x_X2_all_F l D cI cZ cQ cJ b S (th) hok (t) (by omega)) (cwV 2 E.2.2.2.1 gX2_allRuns_X2_all rfl rfl rfl (by decide +kernel) ⟨Nat.le_of_ble_eq_true rfl, Nat.le_of_ble_eq_true rfl⟩) 0 rfl rfl rfl (fun _ h => h) rfl rfl ⟨Nat.le_of_ble_eq_true rfl, Nat.le_of_ble_eq_true rfl⟩ (Nat.le_of_ble_eq_true rfl) ?_
  refine v_iadd E dX2_allRuns_18 (nI_add _ _) ?_
  exact v_ret E hr (by show _ = _; rw [hpf]) dX2_allRuns_19

set_option maxHeartbeats 4000000 in
set_option maxRecDepth 100000 in
theorem x_X2_isUnsteady (l : Launch) (D : va_G) (cI cZ cQ cJ : ClassId) (b : Nat → Nat) (S : zS) (th : Nat) (hok : zOK S) (t : Nat) (ht : t < 12)  : v_Rdi l yX2_isUnsteady wsX2_isUnsteady { frames := 1, cells := 0, slots := 0, locals := 23 } D (wTy cI cZ cQ cJ) [.ref (b 0), .int (nI (t))] (wM cI b S th) (bI (decide (z_li S ≤ zmix S t))) := by
  refine v_reader (cc := cX2_isUnsteady) (maxL := 4) (ret := (some .boolean)) (own := RX2) (lv0 := [(0, .ref (b 0)), (1, .int (nI (t)))]) (by decide) rfl rfl (Nat.le_of_ble_eq_true rfl) rfl ?_
  intro p9 e9 s9 m9 as9 bl9 me9 cd9 E hr
  have hinX2 : ∀ w ∈ u_ws RX2 TX2 16, w ∈ wsX2_isUnsteady := by decide +kernel
  obtain ⟨⟨k1, k2, k3, k4, k5, k6, k7, k8⟩, k9, k10, k11, k12, k13⟩ := id hok
  refine v_iconst E dX2_isUnsteady_0 (v := nI 0) rfl ?_
  refine v_istore_n E dX2_isUnsteady_1 rfl (by decide) rfl ?_
  refine v_aload_n E dX2_isUnsteady_2 1 rfl rfl ?_
  refine v_get E dX2_isUnsteady_3 0 0 hinX2 rfl rfl (by decide) (by decide +kernel) rfl rfl ?_
  refine v_aload_n E dX2_isUnsteady_6 1 rfl rfl ?_
  refine v_get E dX2_isUnsteady_7 0 3 hinX2 rfl rfl (by decide) (by decide +kernel) rfl rfl ?_
  refine n_icmp_le E dX2_isUnsteady_10 (by omega) (by omega) (tgt := 25) (by decide) (fun c10 => ?_) (fun c10 => ?_)
  · refine v_iconst E dX2_isUnsteady_25 (v := nI 0) rfl ?_
    refine v_top (y := nI (z_nc S - z_wi S)) (by rw [mx_n c10]) ?_
    refine v_istore_n E dX2_isUnsteady_26 rfl (by decide) rfl ?_
    have L27_1 : ∀ (n27 : Nat) (f : Nat) (c : Nat), z_nc S - c < n27 → (f = sr (fun i => b1 (zmx S t i)) (z_nc S - z_wi S) c) → (z_nc S - z_wi S ≤ c) → (c ≤ z_nc S) → (f ≤ c) → V p9 l e9 (headSpec wsX2_isUnsteady { frames := 1, cells := 0, slots := 0, locals := 23 }).room s9 m9 as9 bl9 me9 cd9 0 0 (MQ bl9 (vp_Si (fun r => r = bI (decide (z_li S ≤ zmix S t)))) as9 s9 0 0 (fun _ => False)) (v_ro D s9) 4 27 [(2, .int (nI (f))), (3, .int (nI (c))), (0, .ref (b 0)), (1, .int (nI (t)))] [] (wM cI b S (th)) := by
      intro n27
      induction n27 with
      | zero => intro f c hm27 hf h1 h2 hfb; exact absurd hm27 (Nat.not_lt_zero _)
      | succ n27 ih27 =>
        intro f c hm27 hf h1 h2 hfb
        have hv := vd_le (z_P S t c) (z_F S t c)
        refine v_iload_n E dX2_isUnsteady_27 1 rfl rfl ?_
        refine v_aload_n E dX2_isUnsteady_28 2 rfl rfl ?_
        refine v_get E dX2_isUnsteady_29 0 0 hinX2 rfl rfl (by decide) (by decide +kernel) rfl rfl ?_
        refine n_icmp_ge E dX2_isUnsteady_32 (by omega) (by omega) (tgt := 59) (by decide) (fun c32 => ?_) (fun c32 => ?_)
        · have e : c = z_nc S := (by omega)
          subst e
          have e2 : f = zmix S t := hf
          refine v_iload_n E dX2_isUnsteady_59 0 rfl rfl ?_
          refine v_aload_n E dX2_isUnsteady_60 2 rfl rfl ?_
          refine v_get E dX2_isUnsteady_61 0 2 hinX2 rfl rfl (by decide) (by decide +kernel) rfl rfl ?_
          refine n_icmp_lt E dX2_isUnsteady_64 (by omega) (by omega) (tgt := 71) (by decide) (fun c64 => ?_) (fun c64 => ?_)
          · refine v_iconst E dX2_isUnsteady_71 (v := nI 0) rfl ?_
            exact v_retz E hr rfl (by have e3 : ¬ z_li S ≤ zmix S t := (by rw [← e2]; omega); show _ = bI (decide _); rw [decide_eq_false e3]; rfl) dX2_isUnsteady_72
          · refine v_iconst E dX2_isUnsteady_67 (v := nI 1) rfl ?_
            refine v_goto E dX2_isUnsteady_68 (tgt := 72) (by decide) ?_
            exact v_retz E hr rfl (by have e3 : z_li S ≤ zmix S t := (by rw [← e2]; omega); show _ = bI (decide _); rw [decide_eq_true e3]; rfl) dX2_isUnsteady_72
        · refine v_iload_n E dX2_isUnsteady_35 0 rfl rfl ?_
          refine v_aload_n E dX2_isUnsteady_36 2 rfl rfl ?_
          refine v_iload_n E dX2_isUnsteady_37 3 rfl rfl ?_
          refine v_iload_n E dX2_isUnsteady_38 1 rfl rfl ?_
          refine v_cVi' E dX2_isUnsteady_39 (x_X2_verdictOf l D cI cZ cQ cJ b S (th) hok (t) (c) (by omega) (by omega)) (cwV 2 E.2.2.2.1 gX2_isUnsteady_X2_verdictOf rfl rfl rfl (by decide +kernel) ⟨Nat.le_of_ble_eq_true rfl, Nat.le_of_ble_eq_true rfl⟩) 0 rfl rfl rfl (fun _ h => h) rfl rfl ⟨Nat.le_of_ble_eq_true rfl, Nat.le_of_ble_eq_true rfl⟩ (Nat.le_of_ble_eq_true rfl) ?_
          refine v_iconst E dX2_isUnsteady_42 (v := nI 3) rfl ?_
          refine n_icmp_ne E dX2_isUnsteady_43 (by omega) (by omega) (tgt := 50) (by decide) (fun c43 => ?_) (fun c43 => ?_)
          · refine v_iconst E dX2_isUnsteady_50 (v := nI 0) rfl ?_
            refine v_iadd E dX2_isUnsteady_51 (nI_add _ _) ?_
            refine v_istore_n E dX2_isUnsteady_52 rfl (by decide) rfl ?_
            refine v_iinc E dX2_isUnsteady_53 1 rfl (nI_1 _) (by decide) rfl ?_
            refine v_goto E dX2_isUnsteady_56 (tgt := 27) (by decide) ?_
            refine v_lv [1, 0, 2, 3] rfl ?_
            exact ih27 (f + 0) (c + 1) (by omega) (zsb_f hf (by omega) (decide_eq_false c43)) (by omega) (by omega) (by omega)
          · refine v_iconst E dX2_isUnsteady_46 (v := nI 1) rfl ?_
            refine v_goto E dX2_isUnsteady_47 (tgt := 51) (by decide) ?_
            refine v_iadd E dX2_isUnsteady_51 (nI_add _ _) ?_
            refine v_istore_n E dX2_isUnsteady_52 rfl (by decide) rfl ?_
            refine v_iinc E dX2_isUnsteady_53 1 rfl (nI_1 _) (by decide) rfl ?_
            refine v_goto E dX2_isUnsteady_56 (tgt := 27) (by decide) ?_
            refine v_lv [1, 0, 2, 3] rfl ?_
            exact ih27 (f + 1) (c + 1) (by omega) (zsb_t hf (by omega) (decide_eq_true c43)) (by omega) (by omega) (by omega)
    refine v_lv [1, 0, 2, 3] rfl ?_
    exact L27_1 ((z_nc S - (z_nc S - z_wi S)) + 1) (0) (z_nc S - z_wi S) (by omega) (sr_0 _ _ _ (Nat.le_refl _)).symm (by omega) (by omega) (by omega)
  · refine v_aload_n E dX2_isUnsteady_13 1 rfl rfl ?_
    refine v_get E dX2_isUnsteady_14 0 0 hinX2 rfl rfl (by decide) (by decide +kernel) rfl rfl ?_
    refine v_aload_n E dX2_isUnsteady_17 1 rfl rfl ?_
    refine v_get E dX2_isUnsteady_18 0 3 hinX2 rfl rfl (by decide) (by decide +kernel) rfl rfl ?_
    refine v_isub E dX2_isUnsteady_21 (pk_sub (by omega)) ?_
    refine v_goto E dX2_isUnsteady_22 (tgt := 26) (by decide) ?_
    refine v_top (y := nI (z_nc S - z_wi S)) rfl ?_
    refine v_istore_n E dX2_isUnsteady_26 rfl (by decide) rfl ?_
    have L27_2 : ∀ (n27 : Nat) (f : Nat) (c : Nat), z_nc S - c < n27 → (f = sr (fun i => b1 (zmx S t i)) (z_nc S - z_wi S) c) → (z_nc S - z_wi S ≤ c) → (c ≤ z_nc S) → (f ≤ c) → V p9 l e9 (headSpec wsX2_isUnsteady { frames := 1, cells := 0, slots := 0, locals := 23 }).room s9 m9 as9 bl9 me9 cd9 0 0 (MQ bl9 (vp_Si (fun r => r = bI (decide (z_li S ≤ zmix S t)))) as9 s9 0 0 (fun _ => False)) (v_ro D s9) 4 27 [(2, .int (nI (f))), (3, .int (nI (c))), (0, .ref (b 0)), (1, .int (nI (t)))] [] (wM cI b S (th)) := by
      intro n27
      induction n27 with
      | zero => intro f c hm27 hf h1 h2 hfb; exact absurd hm27 (Nat.not_lt_zero _)
      | succ n27 ih27 =>
        intro f c hm27 hf h1 h2 hfb
        have hv := vd_le (z_P S t c) (z_F S t c)
        refine v_iload_n E dX2_isUnsteady_27 1 rfl rfl ?_
        refine v_aload_n E dX2_isUnsteady_28 2 rfl rfl ?_
        refine v_get E dX2_isUnsteady_29 0 0 hinX2 rfl rfl (by decide) (by decide +kernel) rfl rfl ?_
        refine n_icmp_ge E dX2_isUnsteady_32 (by omega) (by omega) (tgt := 59) (by decide) (fun c32 => ?_) (fun c32 => ?_)
        · have e : c = z_nc S := (by omega)
          subst e
          have e2 : f = zmix S t := hf
          refine v_iload_n E dX2_isUnsteady_59 0 rfl rfl ?_
          refine v_aload_n E dX2_isUnsteady_60 2 rfl rfl ?_
          refine v_get E dX2_isUnsteady_61 0 2 hinX2 rfl rfl (by decide) (by decide +kernel) rfl rfl ?_
          refine n_icmp_lt E dX2_isUnsteady_64 (by omega) (by omega) (tgt := 71) (by decide) (fun c64 => ?_) (fun c64 => ?_)
          · refine v_iconst E dX2_isUnsteady_71 (v := nI 0) rfl ?_
            exact v_retz E hr rfl (by have e3 : ¬ z_li S ≤ zmix S t := (by rw [← e2]; omega); show _ = bI (decide _); rw [decide_eq_false e3]; rfl) dX2_isUnsteady_72
          · refine v_iconst E dX2_isUnsteady_67 (v := nI 1) rfl ?_
            refine v_goto E dX2_isUnsteady_68 (tgt := 72) (by decide) ?_
            exact v_retz E hr rfl (by have e3 : z_li S ≤ zmix S t := (by rw [← e2]; omega); show _ = bI (decide _); rw [decide_eq_true e3]; rfl) dX2_isUnsteady_72
        · refine v_iload_n E dX2_isUnsteady_35 0 rfl rfl ?_
          refine v_aload_n E dX2_isUnsteady_36 2 rfl rfl ?_
          refine v_iload_n E dX2_isUnsteady_37 3 rfl rfl ?_
          refine v_iload_n E dX2_isUnsteady_38 1 rfl rfl ?_
          refine v_cVi' E dX2_isUnsteady_39 (x_X2_verdictOf l D cI cZ cQ cJ b S (th) hok (t) (c) (by omega) (by omega)) (cwV 2 E.2.2.2.1 gX2_isUnsteady_X2_verdictOf rfl rfl rfl (by decide +kernel) ⟨Nat.le_of_ble_eq_true rfl, Nat.le_of_ble_eq_true rfl⟩) 0 rfl rfl rfl (fun _ h => h) rfl rfl ⟨Nat.le_of_ble_eq_true rfl, Nat.le_of_ble_eq_true rfl⟩ (Nat.le_of_ble_eq_true rfl) ?_
          refine v_iconst E dX2_isUnsteady_42 (v := nI 3) rfl ?_
          refine n_icmp_ne E dX2_isUnsteady_43 (by omega) (by omega) (tgt := 50) (by decide) (fun c43 => ?_) (fun c43 => ?_)
          · refine v_iconst E dX2_isUnsteady_50 (v := nI 0) rfl ?_
            refine v_iadd E dX2_isUnsteady_51 (nI_add _ _) ?_
            refine v_istore_n E dX2_isUnsteady_52 rfl (by decide) rfl ?_
            refine v_iinc E dX2_isUnsteady_53 1 rfl (nI_1 _) (by decide) rfl ?_
            refine v_goto E dX2_isUnsteady_56 (tgt := 27) (by decide) ?_
            refine v_lv [1, 0, 2, 3] rfl ?_
            exact ih27 (f + 0) (c + 1) (by omega) (zsb_f hf (by omega) (decide_eq_false c43)) (by omega) (by omega) (by omega)
          · refine v_iconst E dX2_isUnsteady_46 (v := nI 1) rfl ?_
            refine v_goto E dX2_isUnsteady_47 (tgt := 51) (by decide) ?_
            refine v_iadd E dX2_isUnsteady_51 (nI_add _ _) ?_
            refine v_istore_n E dX2_isUnsteady_52 rfl (by decide) rfl ?_
            refine v_iinc E dX2_isUnsteady_53 1 rfl (nI_1 _) (by decide) rfl ?_
            refine v_goto E dX2_isUnsteady_56 (tgt := 27) (by decide) ?_
            refine v_lv [1, 0, 2, 3] rfl ?_
            exact ih27 (f + 1) (c + 1) (by omega) (zsb_t hf (by omega) (decide_eq_true c43)) (by omega) (by omega) (by omega)
    refine v_lv [1, 0, 2, 3] rfl ?_
    exact L27_2 ((z_nc S - (z_nc S - z_wi S)) + 1) (0) (z_nc S - z_wi S) (by omega) (sr_0 _ _ _ (Nat.le_refl _)).symm (by omega) (by omega) (by omega)

set_option maxHeartbeats 4000000 in
set_option maxRecDepth 100000 in
theorem x_X2_isSuspect (l : Launch) (D : va_G) (cI cZ cQ cJ : ClassId) (b : Nat → Nat) (S : zS) (th : Nat) (hok : zOK S) (t c : Nat) (ht : t < 12) (hT : z_T S t = true) (hc : c < 41)  : v_Rdi l yX2_isSuspect wsX2_isSuspect { frames := 1, cells := 0, slots := 0, locals := 24 } D (wTy cI cZ cQ cJ) [.ref (b 0), .int (nI (t)), .int (nI (c))] (wM cI b S th) (bI (sus S t c)) := by
  refine v_reader (cc := cX2_isSuspect) (maxL := 3) (ret := (some .boolean)) (own := RX2) (lv0 := [(0, .ref (b 0)), (1, .int (nI (t))), (2, .int (nI (c)))]) (by decide) rfl rfl (Nat.le_of_ble_eq_true rfl) rfl ?_
  intro p9 e9 s9 m9 as9 bl9 me9 cd9 E hr
  have hinX2 : ∀ w ∈ u_ws RX2 TX2 16, w ∈ wsX2_isSuspect := by decide +kernel
  obtain ⟨⟨k1, k2, k3, k4, k5, k6, k7, k8⟩, k9, k10, k11, k12, k13⟩ := id hok
  obtain ⟨q1, q2, q3⟩ := k10 t hT
  refine v_iload_n E dX2_isSuspect_0 2 rfl rfl ?_
  refine v_aload_n E dX2_isSuspect_1 0 rfl rfl ?_
  refine v_get E dX2_isSuspect_2 0 11 hinX2 rfl rfl (by decide) (by decide +kernel) rfl rfl ?_
  refine v_iload_n E dX2_isSuspect_5 1 rfl rfl ?_
  refine v_iald E dX2_isSuspect_6 (v := nI (z_G S t)) 6 0 rfl rfl (by omega) (by decide) (zgood_t hT) ?_
  refine n_icmp_le E dX2_isSuspect_7 (by omega) (by omega) (tgt := 39) (by decide) (fun c7 => ?_) (fun c7 => ?_)
  · refine v_iconst E dX2_isSuspect_39 (v := nI 0) rfl ?_
    exact v_retz E hr rfl (by show _ = _; rw [sus_lo (by omega)]; rfl) dX2_isSuspect_40
  · refine v_iload_n E dX2_isSuspect_10 2 rfl rfl ?_
    refine v_aload_n E dX2_isSuspect_11 0 rfl rfl ?_
    refine v_get E dX2_isSuspect_12 0 12 hinX2 rfl rfl (by decide) (by decide +kernel) rfl rfl ?_
    refine v_iload_n E dX2_isSuspect_15 1 rfl rfl ?_
    refine v_iald E dX2_isSuspect_16 7 0 rfl rfl (by omega) (by decide) rfl ?_
    refine n_icmp_gt E dX2_isSuspect_17 (by omega) (by omega) (tgt := 39) (by decide) (fun c17 => ?_) (fun c17 => ?_)
    · refine v_iconst E dX2_isSuspect_39 (v := nI 0) rfl ?_
      exact v_retz E hr rfl (by show _ = _; rw [sus_hi (by omega)]; rfl) dX2_isSuspect_40
    · refine v_aload_n E dX2_isSuspect_20 0 rfl rfl ?_
      refine v_get E dX2_isSuspect_21 0 7 hinX2 rfl rfl (by decide) (by decide +kernel) rfl rfl ?_
      refine v_iload_n E dX2_isSuspect_24 2 rfl rfl ?_
      refine v_iald E dX2_isSuspect_25 2 0 rfl rfl (by omega) (by decide) rfl ?_
      refine v_aload_n E dX2_isSuspect_26 0 rfl rfl ?_
      refine v_iload_n E dX2_isSuspect_27 1 rfl rfl ?_
      refine v_cVi' E dX2_isSuspect_28 (x_X2_reach l D cI cZ cQ cJ b S (th) hok (t) (by omega)) (cwV 1 E.2.2.2.1 gX2_isSuspect_X2_reach rfl rfl rfl (by decide +kernel) ⟨Nat.le_of_ble_eq_true rfl, Nat.le_of_ble_eq_true rfl⟩) 0 rfl rfl rfl (fun _ h => h) rfl rfl ⟨Nat.le_of_ble_eq_true rfl, Nat.le_of_ble_eq_true rfl⟩ (Nat.le_of_ble_eq_true rfl) ?_
      refine v_iand E dX2_isSuspect_31 (nx_and _ _) ?_
      refine n_if_eq E dX2_isSuspect_32 (Nat.lt_of_le_of_lt Nat.and_le_left (by have := (k9 c).2.1; omega)) (tgt := 39) (by decide) (fun c32 => ?_) (fun c32 => ?_)
      · refine v_iconst E dX2_isSuspect_39 (v := nI 0) rfl ?_
        exact v_retz E hr rfl (by show _ = bI (decide _); rw [decide_eq_false (fun q => q.2.2 c32)]; rfl) dX2_isSuspect_40
      · refine v_iconst E dX2_isSuspect_35 (v := nI 1) rfl ?_
        refine v_goto E dX2_isSuspect_36 (tgt := 40) (by decide) ?_
        exact v_retz E hr rfl (by show _ = bI (decide _); rw [decide_eq_true (show z_G S t < c ∧ c ≤ z_B S t ∧ (z_C S c &&& zre S t) ≠ 0 from ⟨by omega, by omega, Nat.ne_of_gt c32⟩)]; rfl) dX2_isSuspect_40

set_option maxHeartbeats 4000000 in
set_option maxRecDepth 100000 in
theorem x_X2_against (l : Launch) (D : va_G) (cI cZ cQ cJ : ClassId) (b : Nat → Nat) (S : zS) (th : Nat) (hok : zOK S) (t c : Nat) (ht : t < 12) (hT : z_T S t = true) (hc : c < 41)  : v_Rdi l yX2_against wsX2_against { frames := 0, cells := 0, slots := 0, locals := 0 } D (wTy cI cZ cQ cJ) [.ref (b 0), .int (nI (t)), .int (nI (c))] (wM cI b S th) (nI (zag S t c)) := by
  refine v_reader (cc := cX2_against) (maxL := 5) (ret := (some .int)) (own := RX2) (lv0 := [(0, .ref (b 0)), (1, .int (nI (t))), (2, .int (nI (c)))]) (by decide) rfl rfl (Nat.le_of_ble_eq_true rfl) rfl ?_
  intro p9 e9 s9 m9 as9 bl9 me9 cd9 E hr
  have hinX2 : ∀ w ∈ u_ws RX2 TX2 16, w ∈ wsX2_against := by decide +kernel
  obtain ⟨⟨k1, k2, k3, k4, k5, k6, k7, k8⟩, k9, k10, k11, k12, k13⟩ := id hok
  obtain ⟨q1, q2, q3⟩ := k10 t hT
  refine v_iconst E dX2_against_0 (v := nI 0) rfl ?_
  refine v_istore_n E dX2_against_1 rfl (by decide) rfl ?_
  refine v_aload_n E dX2_against_2 1 rfl rfl ?_
  refine v_get E dX2_against_3 0 11 hinX2 rfl rfl (by decide) (by decide +kernel) rfl rfl ?_
  refine v_iload_n E dX2_against_6 2 rfl rfl ?_
  refine v_iald E dX2_against_7 (v := nI (z_G S t)) 6 0 rfl rfl (by omega) (by decide) (zgood_t hT) ?_
  refine v_istore E dX2_against_8 (by decide) rfl ?_
  have L10_1 : ∀ (n10 : Nat) (f : Nat) (k : Nat), z_B S t + 1 - k < n10 → (f = sr (zagf S t c) (z_G S t) k) → (z_G S t ≤ k) → (k ≤ z_B S t + 1) → V p9 l e9 (headSpec wsX2_against { frames := 0, cells := 0, slots := 0, locals := 0 }).room s9 m9 as9 bl9 me9 cd9 0 0 (MQ bl9 (vp_Si (fun r => r = nI (zag S t c))) as9 s9 0 0 (fun _ => False)) (v_ro D s9) 5 10 [(3, .int (nI (f))), (4, .int (nI (k))), (0, .ref (b 0)), (1, .int (nI (t))), (2, .int (nI (c)))] [] (wM cI b S (th)) := by
    intro n10
    induction n10 with
    | zero => intro f k hm10 hf h1 h2; exact absurd hm10 (Nat.not_lt_zero _)
    | succ n10 ih10 =>
      intro f k hm10 hf h1 h2
      refine v_iload E dX2_against_10 1 rfl ?_
      refine v_aload_n E dX2_against_12 2 rfl rfl ?_
      refine v_get E dX2_against_13 0 12 hinX2 rfl rfl (by decide) (by decide +kernel) rfl rfl ?_
      refine v_iload_n E dX2_against_16 3 rfl rfl ?_
      refine v_iald E dX2_against_17 7 0 rfl rfl (by omega) (by decide) rfl ?_
      refine n_icmp_gt E dX2_against_18 (by omega) (by omega) (tgt := 63) (by decide) (fun c18 => ?_) (fun c18 => ?_)
      · refine v_iload_n E dX2_against_63 0 rfl rfl ?_
        exact v_ret E hr (by show _ = _; rw [hf, show k = z_B S t + 1 by omega]; rfl) dX2_against_64
      · refine v_iload_n E dX2_against_21 0 rfl rfl ?_
        refine v_iload E dX2_against_22 1 rfl ?_
        refine v_iload_n E dX2_against_24 4 rfl rfl ?_
        refine n_icmp_ge E dX2_against_25 (by omega) (by omega) (tgt := 43) (by decide) (fun c25 => ?_) (fun c25 => ?_)
        · refine v_aload_n E dX2_against_43 2 rfl rfl ?_
          refine v_get E dX2_against_44 0 9 hinX2 rfl rfl (by decide) (by decide +kernel) rfl rfl ?_
          refine v_bipush E dX2_against_47 (v := nI 40) rfl ?_
          refine v_iload_n E dX2_against_49 3 rfl rfl ?_
          refine v_imul E dX2_against_50 (pk_mul _ _) ?_
          refine v_iload E dX2_against_51 1 rfl ?_
          refine v_iadd E dX2_against_53 (nI_add _ _) ?_
          refine v_iald E dX2_against_54 (v := nI (z_P S (t) (k))) 4 0 rfl rfl (by omega) (by decide) (zP_e (by omega)) ?_
          refine v_iadd E dX2_against_55 (nI_add _ _) ?_
          refine v_istore_n E dX2_against_56 rfl (by decide) rfl ?_
          refine v_iinc E dX2_against_57 1 rfl (nI_1 _) (by decide) rfl ?_
          refine v_goto E dX2_against_60 (tgt := 10) (by decide) ?_
          refine v_lv [1, 0, 2, 3, 4] rfl ?_
          exact ih10 (f + z_P S (t) (k)) (k + 1) (by omega) (by have e9 := zsr_s hf h1; unfold zagf at e9; rw [if_neg (by omega)] at e9; exact e9) (by omega) (by omega)
        · refine v_aload_n E dX2_against_28 2 rfl rfl ?_
          refine v_get E dX2_against_29 0 10 hinX2 rfl rfl (by decide) (by decide +kernel) rfl rfl ?_
          refine v_bipush E dX2_against_32 (v := nI 40) rfl ?_
          refine v_iload_n E dX2_against_34 3 rfl rfl ?_
          refine v_imul E dX2_against_35 (pk_mul _ _) ?_
          refine v_iload E dX2_against_36 1 rfl ?_
          refine v_iadd E dX2_against_38 (nI_add _ _) ?_
          refine v_iald E dX2_against_39 (v := nI (z_F S (t) (k))) 5 0 rfl rfl (by omega) (by decide) (zF_e (by omega)) ?_
          refine v_goto E dX2_against_40 (tgt := 55) (by decide) ?_
          refine v_iadd E dX2_against_55 (nI_add _ _) ?_
          refine v_istore_n E dX2_against_56 rfl (by decide) rfl ?_
          refine v_iinc E dX2_against_57 1 rfl (nI_1 _) (by decide) rfl ?_
          refine v_goto E dX2_against_60 (tgt := 10) (by decide) ?_
          refine v_lv [1, 0, 2, 3, 4] rfl ?_
          exact ih10 (f + z_F S (t) (k)) (k + 1) (by omega) (by have e9 := zsr_s hf h1; unfold zagf at e9; rw [if_pos (by omega)] at e9; exact e9) (by omega) (by omega)
  refine v_lv [1, 0, 2, 3, 4] rfl ?_
  exact L10_1 ((z_B S t + 1 - (z_G S t)) + 1) (0) (z_G S t) (by omega) (sr_0 _ _ _ (Nat.le_refl _)).symm (by omega) (by omega)

set_option maxHeartbeats 4000000 in
set_option maxRecDepth 100000 in
theorem x_X2_isCandidate (l : Launch) (D : va_G) (cI cZ cQ cJ : ClassId) (b : Nat → Nat) (S : zS) (th : Nat) (hok : zOK S) (t c : Nat) (ht : t < 12) (hT : z_T S t = true) (hc : c < 41)  : v_Rdi l yX2_isCandidate wsX2_isCandidate { frames := 2, cells := 0, slots := 0, locals := 46 } D (wTy cI cZ cQ cJ) [.ref (b 0), .int (nI (t)), .int (nI (c))] (wM cI b S th) (bI (cnd S t c)) := by
  refine v_reader (cc := cX2_isCandidate) (maxL := 3) (ret := (some .boolean)) (own := RX2) (lv0 := [(0, .ref (b 0)), (1, .int (nI (t))), (2, .int (nI (c)))]) (by decide) rfl rfl (Nat.le_of_ble_eq_true rfl) rfl ?_
  intro p9 e9 s9 m9 as9 bl9 me9 cd9 E hr
  have hinX2 : ∀ w ∈ u_ws RX2 TX2 16, w ∈ wsX2_isCandidate := by decide +kernel
  obtain ⟨⟨k1, k2, k3, k4, k5, k6, k7, k8⟩, k9, k10, k11, k12, k13⟩ := id hok
  obtain ⟨q1, q2, q3⟩ := k10 t hT
  have hz := zag_le hok (t := t) c (by omega)
  refine v_aload_n E dX2_isCandidate_0 0 rfl rfl ?_
  refine v_iload_n E dX2_isCandidate_1 1 rfl rfl ?_
  refine v_iload_n E dX2_isCandidate_2 2 rfl rfl ?_
  refine v_cVi' E dX2_isCandidate_3 (x_X2_isSuspect l D cI cZ cQ cJ b S (th) hok (t) (c) (by omega) hT (by omega)) (cwV 2 E.2.2.2.1 gX2_isCandidate_X2_isSuspect rfl rfl rfl (by decide +kernel) ⟨Nat.le_of_ble_eq_true rfl, Nat.le_of_ble_eq_true rfl⟩) 0 rfl rfl rfl (fun _ h => h) rfl rfl ⟨Nat.le_of_ble_eq_true rfl, Nat.le_of_ble_eq_true rfl⟩ (Nat.le_of_ble_eq_true rfl) ?_
  refine b_if_eq E dX2_isCandidate_6 (tgt := 26) (by decide) (fun c6 => ?_) (fun c6 => ?_)
  · refine v_iconst E dX2_isCandidate_26 (v := nI 0) rfl ?_
    exact v_retz E hr rfl (by show _ = bI (_ && _); rw [c6]; rfl) dX2_isCandidate_27
  · refine v_aload_n E dX2_isCandidate_9 0 rfl rfl ?_
    refine v_iload_n E dX2_isCandidate_10 1 rfl rfl ?_
    refine v_iload_n E dX2_isCandidate_11 2 rfl rfl ?_
    refine v_cVi' E dX2_isCandidate_12 (x_X2_against l D cI cZ cQ cJ b S (th) hok (t) (c) (by omega) hT (by omega)) (cwV 2 E.2.2.2.1 gX2_isCandidate_X2_against rfl rfl rfl (by decide +kernel) ⟨Nat.le_of_ble_eq_true rfl, Nat.le_of_ble_eq_true rfl⟩) 0 rfl rfl rfl (fun _ h => h) rfl rfl ⟨Nat.le_of_ble_eq_true rfl, Nat.le_of_ble_eq_true rfl⟩ (Nat.le_of_ble_eq_true rfl) ?_
    refine v_aload_n E dX2_isCandidate_15 0 rfl rfl ?_
    refine v_get E dX2_isCandidate_16 0 4 hinX2 rfl rfl (by decide) (by decide +kernel) rfl rfl ?_
    refine n_icmp_gt E dX2_isCandidate_19 (by omega) (by omega) (tgt := 26) (by decide) (fun c19 => ?_) (fun c19 => ?_)
    · refine v_iconst E dX2_isCandidate_26 (v := nI 0) rfl ?_
      exact v_retz E hr rfl (by show _ = bI (_ && _); rw [decide_eq_false (Nat.not_le.mpr c19), Bool.and_false]; rfl) dX2_isCandidate_27
    · refine v_iconst E dX2_isCandidate_22 (v := nI 1) rfl ?_
      refine v_goto E dX2_isCandidate_23 (tgt := 27) (by decide) ?_
      exact v_retz E hr rfl (by show _ = bI (_ && _); rw [c6, decide_eq_true c19]; rfl) dX2_isCandidate_27

set_option maxHeartbeats 4000000 in
set_option maxRecDepth 100000 in
theorem x_X2_counts (l : Launch) (D : va_G) (cI cZ cQ cJ : ClassId) (b : Nat → Nat) (S : zS) (th : Nat) (hok : zOK S) (t c d : Nat) (ht : t < 12) (hT : z_T S t = true) (hc : c ≤ d + 1) (hd : d < 40)  : v_Rdi l yX2_counts wsX2_counts { frames := 3, cells := 0, slots := 0, locals := 68 } D (wTy cI cZ cQ cJ) [.ref (b 0), .int (nI (t)), .int (nI (c)), .int (nI (d))] (wM cI b S th) (nI (sr (fun i => b1 (cnd S t i)) c (d + 1))) := by
  refine v_reader (cc := cX2_counts) (maxL := 6) (ret := (some .int)) (own := RX2) (lv0 := [(0, .ref (b 0)), (1, .int (nI (t))), (2, .int (nI (c))), (3, .int (nI (d)))]) (by decide) rfl rfl (Nat.le_of_ble_eq_true rfl) rfl ?_
  intro p9 e9 s9 m9 as9 bl9 me9 cd9 E hr
  obtain ⟨⟨k1, k2, k3, k4, k5, k6, k7, k8⟩, k9, k10, k11, k12, k13⟩ := id hok
  refine v_iconst E dX2_counts_0 (v := nI 0) rfl ?_
  refine v_istore E dX2_counts_1 (by decide) rfl ?_
  refine v_iload_n E dX2_counts_3 3 rfl rfl ?_
  refine v_istore E dX2_counts_4 (by decide) rfl ?_
  have L6_1 : ∀ (n6 : Nat) (f : Nat) (k : Nat), d + 1 - k < n6 → (f = sr (fun i => b1 (cnd S t i)) c k) → (c ≤ k) → (k ≤ d + 1) → V p9 l e9 (headSpec wsX2_counts { frames := 3, cells := 0, slots := 0, locals := 68 }).room s9 m9 as9 bl9 me9 cd9 0 0 (MQ bl9 (vp_Si (fun r => r = nI (sr (fun i => b1 (cnd S t i)) c (d + 1)))) as9 s9 0 0 (fun _ => False)) (v_ro D s9) 6 6 [(4, .int (nI (f))), (5, .int (nI (k))), (0, .ref (b 0)), (1, .int (nI (t))), (2, .int (nI (c))), (3, .int (nI (d)))] [] (wM cI b S (th)) := by
    intro n6
    induction n6 with
    | zero => intro f k hm6 hf h1 h2; exact absurd hm6 (Nat.not_lt_zero _)
    | succ n6 ih6 =>
      intro f k hm6 hf h1 h2
      refine v_iload E dX2_counts_6 1 rfl ?_
      refine v_iload_n E dX2_counts_8 5 rfl rfl ?_
      refine n_icmp_gt E dX2_counts_9 (by omega) (by omega) (tgt := 38) (by decide) (fun c9 => ?_) (fun c9 => ?_)
      · refine v_iload E dX2_counts_38 0 rfl ?_
        exact v_ret E hr (by show _ = _; rw [hf, show k = d + 1 by omega]) dX2_counts_40
      · refine v_iload E dX2_counts_12 0 rfl ?_
        refine v_aload_n E dX2_counts_14 2 rfl rfl ?_
        refine v_iload_n E dX2_counts_15 3 rfl rfl ?_
        refine v_iload E dX2_counts_16 1 rfl ?_
        refine v_cVi' E dX2_counts_18 (x_X2_isCandidate l D cI cZ cQ cJ b S (th) hok (t) (k) (by omega) hT (by omega)) (cwV 2 E.2.2.2.1 gX2_counts_X2_isCandidate rfl rfl rfl (by decide +kernel) ⟨Nat.le_of_ble_eq_true rfl, Nat.le_of_ble_eq_true rfl⟩) 0 rfl rfl rfl (fun _ h => h) rfl rfl ⟨Nat.le_of_ble_eq_true rfl, Nat.le_of_ble_eq_true rfl⟩ (Nat.le_of_ble_eq_true rfl) ?_
        refine b_if_eq E dX2_counts_21 (tgt := 28) (by decide) (fun c21 => ?_) (fun c21 => ?_)
        · refine v_iconst E dX2_counts_28 (v := nI 0) rfl ?_
          refine v_iadd E dX2_counts_29 (nI_add _ _) ?_
          refine v_istore E dX2_counts_30 (by decide) rfl ?_
          refine v_iinc E dX2_counts_32 1 rfl (nI_1 _) (by decide) rfl ?_
          refine v_goto E dX2_counts_35 (tgt := 6) (by decide) ?_
          refine v_lv [1, 0, 2, 3, 4, 5] rfl ?_
          exact ih6 (f + 0) (k + 1) (by omega) (zsb_f hf (by omega) c21) (by omega) (by omega)
        · refine v_iconst E dX2_counts_24 (v := nI 1) rfl ?_
          refine v_goto E dX2_counts_25 (tgt := 29) (by decide) ?_
          refine v_iadd E dX2_counts_29 (nI_add _ _) ?_
          refine v_istore E dX2_counts_30 (by decide) rfl ?_
          refine v_iinc E dX2_counts_32 1 rfl (nI_1 _) (by decide) rfl ?_
          refine v_goto E dX2_counts_35 (tgt := 6) (by decide) ?_
          refine v_lv [1, 0, 2, 3, 4, 5] rfl ?_
          exact ih6 (f + 1) (k + 1) (by omega) (zsb_t hf (by omega) c21) (by omega) (by omega)
  refine v_lv [1, 0, 2, 3, 4, 5] rfl ?_
  exact L6_1 ((d + 1 - (c)) + 1) (0) (c) (by omega) (sr_0 _ _ _ (Nat.le_refl _)).symm (by omega) (by omega)

set_option maxHeartbeats 4000000 in
set_option maxRecDepth 100000 in
theorem x_X2_candidatesOf (l : Launch) (D : va_G) (cI cZ cQ cJ : ClassId) (b : Nat → Nat) (S : zS) (th : Nat) (hok : zOK S) (t : Nat) (ht : t < 12) (hT : z_T S t = true)  : v_Rdi l yX2_candidatesOf wsX2_candidatesOf { frames := 4, cells := 0, slots := 0, locals := 93 } D (wTy cI cZ cQ cJ) [.ref (b 0), .int (nI (t))] (wM cI b S th) (nI (zcc S t)) := by
  refine v_reader (cc := cX2_candidatesOf) (maxL := 2) (ret := (some .int)) (own := RX2) (lv0 := [(0, .ref (b 0)), (1, .int (nI (t)))]) (by decide) rfl rfl (Nat.le_of_ble_eq_true rfl) rfl ?_
  intro p9 e9 s9 m9 as9 bl9 me9 cd9 E hr
  have hinX2 : ∀ w ∈ u_ws RX2 TX2 16, w ∈ wsX2_candidatesOf := by decide +kernel
  obtain ⟨⟨k1, k2, k3, k4, k5, k6, k7, k8⟩, k9, k10, k11, k12, k13⟩ := id hok
  obtain ⟨q1, q2, q3⟩ := k10 t hT
  refine v_aload_n E dX2_candidatesOf_0 0 rfl rfl ?_
  refine v_iload_n E dX2_candidatesOf_1 1 rfl rfl ?_
  refine v_aload_n E dX2_candidatesOf_2 0 rfl rfl ?_
  refine v_get E dX2_candidatesOf_3 0 11 hinX2 rfl rfl (by decide) (by decide +kernel) rfl rfl ?_
  refine v_iload_n E dX2_candidatesOf_6 1 rfl rfl ?_
  refine v_iald E dX2_candidatesOf_7 (v := nI (z_G S t)) 6 0 rfl rfl (by omega) (by decide) (zgood_t hT) ?_
  refine v_iconst E dX2_candidatesOf_8 (v := nI 1) rfl ?_
  refine v_iadd E dX2_candidatesOf_9 (nI_add _ _) ?_
  refine v_aload_n E dX2_candidatesOf_10 0 rfl rfl ?_
  refine v_get E dX2_candidatesOf_11 0 12 hinX2 rfl rfl (by decide) (by decide +kernel) rfl rfl ?_
  refine v_iload_n E dX2_candidatesOf_14 1 rfl rfl ?_
  refine v_iald E dX2_candidatesOf_15 7 0 rfl rfl (by omega) (by decide) rfl ?_
  refine v_cVi' E dX2_candidatesOf_16 (x_X2_counts l D cI cZ cQ cJ b S (th) hok (t) (z_G S t + 1) (z_B S (t)) (by omega) hT (by omega) (by omega)) (cwV 3 E.2.2.2.1 gX2_candidatesOf_X2_counts rfl rfl rfl (by decide +kernel) ⟨Nat.le_of_ble_eq_true rfl, Nat.le_of_ble_eq_true rfl⟩) 0 rfl rfl rfl (fun _ h => h) rfl rfl ⟨Nat.le_of_ble_eq_true rfl, Nat.le_of_ble_eq_true rfl⟩ (Nat.le_of_ble_eq_true rfl) ?_
  exact v_ret E hr (congrArg nI (sr_cnd (by omega))) dX2_candidatesOf_19

set_option maxHeartbeats 4000000 in
set_option maxRecDepth 100000 in
theorem x_X2_placeOf (l : Launch) (D : va_G) (cI cZ cQ cJ : ClassId) (b : Nat → Nat) (S : zS) (th : Nat) (hok : zOK S) (t : Nat) (ht : t < 12)  : v_Rdi l yX2_placeOf wsX2_placeOf { frames := 0, cells := 0, slots := 0, locals := 0 } D (wTy cI cZ cQ cJ) [.ref (b 0), .int (nI (t))] (wM cI b S th) (oI (plc (z_Q S) (z_qn S) t)) := by
  refine v_reader (cc := cX2_placeOf) (maxL := 4) (ret := (some .int)) (own := RX2) (lv0 := [(0, .ref (b 0)), (1, .int (nI (t)))]) (by decide) rfl rfl (Nat.le_of_ble_eq_true rfl) rfl ?_
  intro p9 e9 s9 m9 as9 bl9 me9 cd9 E hr
  have hinX2 : ∀ w ∈ u_ws RX2 TX2 16, w ∈ wsX2_placeOf := by decide +kernel
  obtain ⟨⟨k1, k2, k3, k4, k5, k6, k7, k8⟩, k9, k10, k11, k12, k13⟩ := id hok
  have hqn := zqn_le hok
  refine v_iconst E dX2_placeOf_0 (v := (-1)) rfl ?_
  refine v_istore_n E dX2_placeOf_1 rfl (by decide) rfl ?_
  refine v_iconst E dX2_placeOf_2 (v := nI 0) rfl ?_
  refine v_istore_n E dX2_placeOf_3 rfl (by decide) rfl ?_
  have L4_1 : ∀ (n4 : Nat) (p : Nat) (k : Nat), z_qn S - k < n4 → (p = plc (z_Q S) k t) → (k ≤ z_qn S) → V p9 l e9 (headSpec wsX2_placeOf { frames := 0, cells := 0, slots := 0, locals := 0 }).room s9 m9 as9 bl9 me9 cd9 0 0 (MQ bl9 (vp_Si (fun r => r = oI (plc (z_Q S) (z_qn S) t))) as9 s9 0 0 (fun _ => False)) (v_ro D s9) 4 4 [(2, .int (oI p)), (3, .int (nI (k))), (0, .ref (b 0)), (1, .int (nI (t)))] [] (wM cI b S (th)) := by
    intro n4
    induction n4 with
    | zero => intro p k hm4 hp h2; exact absurd hm4 (Nat.not_lt_zero _)
    | succ n4 ih4 =>
      intro p k hm4 hp h2
      refine v_iload_n E dX2_placeOf_4 1 rfl rfl ?_
      refine v_aload_n E dX2_placeOf_5 2 rfl rfl ?_
      refine v_get E dX2_placeOf_6 0 14 hinX2 rfl rfl (by decide) (by decide +kernel) rfl rfl ?_
      refine n_icmp_ge E dX2_placeOf_9 (by omega) (by omega) (tgt := 34) (by decide) (fun c9 => ?_) (fun c9 => ?_)
      · refine v_iload_n E dX2_placeOf_34 0 rfl rfl ?_
        exact v_ret E hr (congrArg oI (hp.trans (by rw [show k = z_qn S by omega]))) dX2_placeOf_35
      · have hQk : z_Q S k < 12 := by have := (k10 _ (k11.1 k (by omega))).1; omega
        refine v_aload_n E dX2_placeOf_12 2 rfl rfl ?_
        refine v_get E dX2_placeOf_13 0 13 hinX2 rfl rfl (by decide) (by decide +kernel) rfl rfl ?_
        refine v_iload_n E dX2_placeOf_16 1 rfl rfl ?_
        refine v_iald E dX2_placeOf_17 8 0 rfl rfl (by omega) (by decide) rfl ?_
        refine v_iload_n E dX2_placeOf_18 3 rfl rfl ?_
        refine n_icmp_ne E dX2_placeOf_19 (by omega) (by omega) (tgt := 26) (by decide) (fun c19 => ?_) (fun c19 => ?_)
        · refine v_iload_n E dX2_placeOf_26 0 rfl rfl ?_
          refine v_top (y := (oI p)) rfl ?_
          refine v_istore_n E dX2_placeOf_27 rfl (by decide) rfl ?_
          refine v_iinc E dX2_placeOf_28 1 rfl (nI_1 _) (by decide) rfl ?_
          refine v_goto E dX2_placeOf_31 (tgt := 4) (by decide) ?_
          refine v_lv [1, 0, 2, 3] rfl ?_
          exact ih4 (p) (k + 1) (by omega) (by rw [hp]; exact (if_neg c19).symm) (by omega)
        · refine v_iload_n E dX2_placeOf_22 1 rfl rfl ?_
          refine v_goto E dX2_placeOf_23 (tgt := 27) (by decide) ?_
          refine v_top (y := (oI (k + 1))) (oI_s k).symm ?_
          refine v_istore_n E dX2_placeOf_27 rfl (by decide) rfl ?_
          refine v_iinc E dX2_placeOf_28 1 rfl (nI_1 _) (by decide) rfl ?_
          refine v_goto E dX2_placeOf_31 (tgt := 4) (by decide) ?_
          refine v_lv [1, 0, 2, 3] rfl ?_
          exact ih4 (k + 1) (k + 1) (by omega) (if_pos c19).symm (by omega)
  refine v_lv [1, 0, 2, 3] rfl ?_
  exact L4_1 ((z_qn S - (0)) + 1) (0) (0) (by omega) rfl (by omega)

set_option maxHeartbeats 4000000 in
set_option maxRecDepth 100000 in
theorem x_X2_only (l : Launch) (D : va_G) (cI cZ cQ cJ : ClassId) (b : Nat → Nat) (S : zS) (th : Nat) (hok : zOK S) (t : Nat) (ht : t < 12) (hT : z_T S t = true)  : v_Rdi l yX2_only wsX2_only { frames := 5, cells := 0, slots := 0, locals := 114 } D (wTy cI cZ cQ cJ) [.ref (b 0), .int (nI (t))] (wM cI b S th) (zonly S t) := by
  refine v_reader (cc := cX2_only) (maxL := 4) (ret := (some .int)) (own := RX2) (lv0 := [(0, .ref (b 0)), (1, .int (nI (t)))]) (by decide) rfl rfl (Nat.le_of_ble_eq_true rfl) rfl ?_
  intro p9 e9 s9 m9 as9 bl9 me9 cd9 E hr
  have hinX2 : ∀ w ∈ u_ws RX2 TX2 16, w ∈ wsX2_only := by decide +kernel
  obtain ⟨⟨k1, k2, k3, k4, k5, k6, k7, k8⟩, k9, k10, k11, k12, k13⟩ := id hok
  obtain ⟨q1, q2, q3⟩ := k10 t hT
  have hzl := ct_le (cnd S t) (z_B S t + 1)
  have hzc : zcc S t ≤ z_B S t + 1 := hzl
  refine v_iconst E dX2_only_0 (v := (-1)) rfl ?_
  refine v_istore_n E dX2_only_1 rfl (by decide) rfl ?_
  refine v_aload_n E dX2_only_2 1 rfl rfl ?_
  refine v_get E dX2_only_3 0 11 hinX2 rfl rfl (by decide) (by decide +kernel) rfl rfl ?_
  refine v_iload_n E dX2_only_6 2 rfl rfl ?_
  refine v_iald E dX2_only_7 (v := nI (z_G S t)) 6 0 rfl rfl (by omega) (by decide) (zgood_t hT) ?_
  refine v_iconst E dX2_only_8 (v := nI 1) rfl ?_
  refine v_iadd E dX2_only_9 (nI_add _ _) ?_
  refine v_istore_n E dX2_only_10 rfl (by decide) rfl ?_
  have L11_1 : ∀ (n11 : Nat) (p : Nat) (k : Nat), z_B S t + 1 - k < n11 → (p = zfd S t k) → (z_G S t + 1 ≤ k) → (k ≤ z_B S t + 1) → V p9 l e9 (headSpec wsX2_only { frames := 5, cells := 0, slots := 0, locals := 114 }).room s9 m9 as9 bl9 me9 cd9 0 0 (MQ bl9 (vp_Si (fun r => r = zonly S t)) as9 s9 0 0 (fun _ => False)) (v_ro D s9) 4 11 [(2, .int (oI p)), (3, .int (nI (k))), (0, .ref (b 0)), (1, .int (nI (t)))] [] (wM cI b S (th)) := by
    intro n11
    induction n11 with
    | zero => intro p k hm11 hp h1 h2; exact absurd hm11 (Nat.not_lt_zero _)
    | succ n11 ih11 =>
      intro p k hm11 hp h1 h2
      refine v_iload_n E dX2_only_11 1 rfl rfl ?_
      refine v_aload_n E dX2_only_12 2 rfl rfl ?_
      refine v_get E dX2_only_13 0 12 hinX2 rfl rfl (by decide) (by decide +kernel) rfl rfl ?_
      refine v_iload_n E dX2_only_16 3 rfl rfl ?_
      refine v_iald E dX2_only_17 7 0 rfl rfl (by omega) (by decide) rfl ?_
      refine n_icmp_gt E dX2_only_18 (by omega) (by omega) (tgt := 42) (by decide) (fun c18 => ?_) (fun c18 => ?_)
      · refine v_aload_n E dX2_only_42 2 rfl rfl ?_
        refine v_iload_n E dX2_only_43 3 rfl rfl ?_
        refine v_cVi' E dX2_only_44 (x_X2_candidatesOf l D cI cZ cQ cJ b S (th) hok (t) (by omega) hT) (cwV 1 E.2.2.2.1 gX2_only_X2_candidatesOf rfl rfl rfl (by decide +kernel) ⟨Nat.le_of_ble_eq_true rfl, Nat.le_of_ble_eq_true rfl⟩) 0 rfl rfl rfl (fun _ h => h) rfl rfl ⟨Nat.le_of_ble_eq_true rfl, Nat.le_of_ble_eq_true rfl⟩ (Nat.le_of_ble_eq_true rfl) ?_
        refine v_iconst E dX2_only_47 (v := nI 1) rfl ?_
        refine n_icmp_ne E dX2_only_48 (by omega) (by omega) (tgt := 55) (by decide) (fun c48 => ?_) (fun c48 => ?_)
        · refine v_iconst E dX2_only_55 (v := (-1)) rfl ?_
          exact v_ret E hr (by show _ = _; unfold zonly; rw [if_neg c48]) dX2_only_56
        · refine v_iload_n E dX2_only_51 0 rfl rfl ?_
          refine v_goto E dX2_only_52 (tgt := 56) (by decide) ?_
          exact v_ret E hr (by show _ = _; unfold zonly; rw [if_pos c48, hp, show k = z_B S t + 1 by omega, zonly_eq c48]) dX2_only_56
      · refine v_aload_n E dX2_only_21 2 rfl rfl ?_
        refine v_iload_n E dX2_only_22 3 rfl rfl ?_
        refine v_iload_n E dX2_only_23 1 rfl rfl ?_
        refine v_cVi' E dX2_only_24 (x_X2_isCandidate l D cI cZ cQ cJ b S (th) hok (t) (k) (by omega) hT (by omega)) (cwV 2 E.2.2.2.1 gX2_only_X2_isCandidate rfl rfl rfl (by decide +kernel) ⟨Nat.le_of_ble_eq_true rfl, Nat.le_of_ble_eq_true rfl⟩) 0 rfl rfl rfl (fun _ h => h) rfl rfl ⟨Nat.le_of_ble_eq_true rfl, Nat.le_of_ble_eq_true rfl⟩ (Nat.le_of_ble_eq_true rfl) ?_
        refine b_if_eq E dX2_only_27 (tgt := 34) (by decide) (fun c27 => ?_) (fun c27 => ?_)
        · refine v_iload_n E dX2_only_34 0 rfl rfl ?_
          refine v_top (y := (oI p)) rfl ?_
          refine v_istore_n E dX2_only_35 rfl (by decide) rfl ?_
          refine v_iinc E dX2_only_36 1 rfl (nI_1 _) (by decide) rfl ?_
          refine v_goto E dX2_only_39 (tgt := 11) (by decide) ?_
          refine v_lv [1, 0, 2, 3] rfl ?_
          exact ih11 (p) (k + 1) (by omega) (zfd_f hp c27) (by omega) (by omega)
        · refine v_iload_n E dX2_only_30 1 rfl rfl ?_
          refine v_goto E dX2_only_31 (tgt := 35) (by decide) ?_
          refine v_top (y := (oI (k + 1))) (oI_s k).symm ?_
          refine v_istore_n E dX2_only_35 rfl (by decide) rfl ?_
          refine v_iinc E dX2_only_36 1 rfl (nI_1 _) (by decide) rfl ?_
          refine v_goto E dX2_only_39 (tgt := 11) (by decide) ?_
          refine v_lv [1, 0, 2, 3] rfl ?_
          exact ih11 (k + 1) (k + 1) (by omega) (zfd_t (b := 0) c27) (by omega) (by omega)
  refine v_lv [1, 0, 2, 3] rfl ?_
  exact L11_1 ((z_B S t + 1 - (z_G S t + 1)) + 1) (0) (z_G S t + 1) (by omega) (zfd_z _ (fun i hi => cnd_lo (by omega))) (by omega) (by omega)

set_option maxHeartbeats 4000000 in
set_option maxRecDepth 100000 in
theorem x_X2_thrown (l : Launch) (D : va_G) (cI cZ cQ cJ : ClassId) (b : Nat → Nat) (S : zS) (th : Nat) (hok : zOK S)   : v_Rdi l yX2_thrown wsX2_thrown { frames := 0, cells := 0, slots := 0, locals := 0 } D (wTy cI cZ cQ cJ) [.ref (b 0)] (wM cI b S th) (nI (th)) := by
  refine v_reader (cc := cX2_thrown) (maxL := 1) (ret := (some .int)) (own := RX2) (lv0 := [(0, .ref (b 0))]) (by decide) rfl rfl (Nat.le_of_ble_eq_true rfl) rfl ?_
  intro p9 e9 s9 m9 as9 bl9 me9 cd9 E hr
  have hinX2 : ∀ w ∈ u_ws RX2 TX2 16, w ∈ wsX2_thrown := by decide +kernel
  refine v_aload_n E dX2_thrown_0 0 rfl rfl ?_
  refine v_get E dX2_thrown_1 0 15 hinX2 rfl rfl (by decide) (by decide +kernel) rfl rfl ?_
  exact v_ret E hr rfl dX2_thrown_4

