/-! ===== the class's log of runs: its readers ===== -/
set_option maxHeartbeats 4000000 in
set_option maxRecDepth 100000 in
theorem x_X0_countOf (l : Launch) (D : va_G) (cI cZ cQ cJ : ClassId) (a : Nat → Nat) (S : zS) (hok : zOK S) (t : Nat) (ht : t < 12)  : v_Rdi l yX0_countOf wsX0_countOf { frames := 0, cells := 0, slots := 0, locals := 0 } D (wTy cI cZ cQ cJ) [.ref (a 4), .int (nI (t))] (wX cI cZ cQ a S) (nI (z_R S t)) := by
  refine v_reader (cc := cX0_countOf) (maxL := 2) (ret := (some .int)) (own := RX0) (lv0 := [(0, .ref (a 4)), (1, .int (nI (t)))]) (by decide) rfl rfl (Nat.le_of_ble_eq_true rfl) rfl ?_
  intro p9 e9 s9 m9 as9 bl9 me9 cd9 E hr
  have hinX0 : ∀ w ∈ u_ws RX0 TX0 5, w ∈ wsX0_countOf := by decide +kernel
  refine v_aload_n E dX0_countOf_0 0 rfl rfl ?_
  refine v_get E dX0_countOf_1 4 0 hinX0 rfl rfl (by decide) (by decide +kernel) rfl rfl ?_
  refine v_iload_n E dX0_countOf_4 1 rfl rfl ?_
  refine v_iald E dX0_countOf_5 9 0 rfl rfl (by omega) (by decide) rfl ?_
  exact v_ret E hr rfl dX0_countOf_6

set_option maxHeartbeats 4000000 in
set_option maxRecDepth 100000 in
theorem x_X0_countAt (l : Launch) (D : va_G) (cI cZ cQ cJ : ClassId) (a : Nat → Nat) (S : zS) (hok : zOK S) (t c : Nat) (ht : t < 12) (hc : c < 40)  : v_Rdi l yX0_countAt wsX0_countAt { frames := 0, cells := 0, slots := 0, locals := 0 } D (wTy cI cZ cQ cJ) [.ref (a 4), .int (nI (t)), .int (nI (c))] (wX cI cZ cQ a S) (nI (z_P S t c + z_F S t c)) := by
  refine v_reader (cc := cX0_countAt) (maxL := 3) (ret := (some .int)) (own := RX0) (lv0 := [(0, .ref (a 4)), (1, .int (nI (t))), (2, .int (nI (c)))]) (by decide) rfl rfl (Nat.le_of_ble_eq_true rfl) rfl ?_
  intro p9 e9 s9 m9 as9 bl9 me9 cd9 E hr
  have hinX0 : ∀ w ∈ u_ws RX0 TX0 5, w ∈ wsX0_countAt := by decide +kernel
  refine v_aload_n E dX0_countAt_0 0 rfl rfl ?_
  refine v_get E dX0_countAt_1 4 3 hinX0 rfl rfl (by decide) (by decide +kernel) rfl rfl ?_
  refine v_iload_n E dX0_countAt_4 1 rfl rfl ?_
  refine v_aald E dX0_countAt_5 12 2 rfl rfl (by omega) (by decide) (zout_at (by omega)) ?_
  refine v_iload_n E dX0_countAt_6 2 rfl rfl ?_
  refine v_iald E dX0_countAt_7 (38 + (t)) 0 (wX_row_P (by omega)) rfl (by omega) (by decide) rfl ?_
  refine v_aload_n E dX0_countAt_8 0 rfl rfl ?_
  refine v_get E dX0_countAt_9 4 4 hinX0 rfl rfl (by decide) (by decide +kernel) rfl rfl ?_
  refine v_iload_n E dX0_countAt_12 1 rfl rfl ?_
  refine v_aald E dX0_countAt_13 13 2 rfl rfl (by omega) (by decide) (zout_at (by omega)) ?_
  refine v_iload_n E dX0_countAt_14 2 rfl rfl ?_
  refine v_iald E dX0_countAt_15 (50 + (t)) 0 (wX_row_F (by omega)) rfl (by omega) (by decide) rfl ?_
  refine v_iadd E dX0_countAt_16 (nI_add _ _) ?_
  exact v_ret E hr rfl dX0_countAt_17

set_option maxHeartbeats 4000000 in
set_option maxRecDepth 100000 in
theorem x_X0_failuresOf (l : Launch) (D : va_G) (cI cZ cQ cJ : ClassId) (a : Nat → Nat) (S : zS) (hok : zOK S) (t : Nat) (ht : t < 12)  : v_Rdi l yX0_failuresOf wsX0_failuresOf { frames := 0, cells := 0, slots := 0, locals := 0 } D (wTy cI cZ cQ cJ) [.ref (a 4), .int (nI (t))] (wX cI cZ cQ a S) (nI (sm (z_F S t) 40)) := by
  refine v_reader (cc := cX0_failuresOf) (maxL := 4) (ret := (some .int)) (own := RX0) (lv0 := [(0, .ref (a 4)), (1, .int (nI (t)))]) (by decide) rfl rfl (Nat.le_of_ble_eq_true rfl) rfl ?_
  intro p9 e9 s9 m9 as9 bl9 me9 cd9 E hr
  have hinX0 : ∀ w ∈ u_ws RX0 TX0 5, w ∈ wsX0_failuresOf := by decide +kernel
  refine v_iconst E dX0_failuresOf_0 (v := nI 0) rfl ?_
  refine v_istore_n E dX0_failuresOf_1 rfl (by decide) rfl ?_
  refine v_iconst E dX0_failuresOf_2 (v := nI 0) rfl ?_
  refine v_istore_n E dX0_failuresOf_3 rfl (by decide) rfl ?_
  have L4_1 : ∀ (n4 : Nat) (f : Nat) (c : Nat), 40 - c < n4 → (f = sm (z_F S t) c) → (c ≤ 40) → V p9 l e9 (headSpec wsX0_failuresOf { frames := 0, cells := 0, slots := 0, locals := 0 }).room s9 m9 as9 bl9 me9 cd9 0 0 (MQ bl9 (vp_Si (fun r => r = nI (sm (z_F S t) 40))) as9 s9 0 0 (fun _ => False)) (v_ro D s9) 4 4 [(2, .int (nI (f))), (3, .int (nI (c))), (0, .ref (a 4)), (1, .int (nI (t)))] [] (wX cI cZ cQ a S) := by
    intro n4
    induction n4 with
    | zero => intro f c hm4 hf hc; exact absurd hm4 (Nat.not_lt_zero _)
    | succ n4 ih4 =>
      intro f c hm4 hf hc
      refine v_iload_n E dX0_failuresOf_4 1 rfl rfl ?_
      refine v_bipush E dX0_failuresOf_5 (v := nI 40) rfl ?_
      refine n_icmp_ge E dX0_failuresOf_7 (by omega) (by omega) (tgt := 27) (by decide) (fun c7 => ?_) (fun c7 => ?_)
      · refine v_iload_n E dX0_failuresOf_27 0 rfl rfl ?_
        exact v_ret E hr (by have e : c = 40 := (by omega); rw [hf, e]) dX0_failuresOf_28
      · refine v_iload_n E dX0_failuresOf_10 0 rfl rfl ?_
        refine v_aload_n E dX0_failuresOf_11 2 rfl rfl ?_
        refine v_get E dX0_failuresOf_12 4 4 hinX0 rfl rfl (by decide) (by decide +kernel) rfl rfl ?_
        refine v_iload_n E dX0_failuresOf_15 3 rfl rfl ?_
        refine v_aald E dX0_failuresOf_16 13 2 rfl rfl (by omega) (by decide) (zout_at (by omega)) ?_
        refine v_iload_n E dX0_failuresOf_17 1 rfl rfl ?_
        refine v_iald E dX0_failuresOf_18 (50 + (t)) 0 (wX_row_F (by omega)) rfl (by omega) (by decide) rfl ?_
        refine v_iadd E dX0_failuresOf_19 (nI_add _ _) ?_
        refine v_istore_n E dX0_failuresOf_20 rfl (by decide) rfl ?_
        refine v_iinc E dX0_failuresOf_21 1 rfl (nI_1 _) (by decide) rfl ?_
        refine v_goto E dX0_failuresOf_24 (tgt := 4) (by decide) ?_
        refine v_lv [1, 0, 2, 3] rfl ?_
        exact ih4 (f + z_F S t c) (c + 1) (by omega) (zsm_s hf) (by omega)
  refine v_lv [1, 0, 2, 3] rfl ?_
  exact L4_1 ((40 - (0)) + 1) (0) (0) (by omega) rfl (by omega)

def vd (p f : Nat) : Nat := (if 0 < p then 1 else 0) + (if 0 < f then 2 else 0)
theorem vd_le (p f : Nat) : vd p f ≤ 3 := by unfold vd; split <;> split <;> omega
set_option maxHeartbeats 4000000 in
set_option maxRecDepth 100000 in
theorem x_X0_verdictAt (l : Launch) (D : va_G) (cI cZ cQ cJ : ClassId) (a : Nat → Nat) (S : zS) (hok : zOK S) (t c : Nat) (ht : t < 12) (hc : c < 40)  : v_Rdi l yX0_verdictAt wsX0_verdictAt { frames := 0, cells := 0, slots := 0, locals := 0 } D (wTy cI cZ cQ cJ) [.ref (a 4), .int (nI (t)), .int (nI (c))] (wX cI cZ cQ a S) (nI (vd (z_P S t c) (z_F S t c))) := by
  refine v_reader (cc := cX0_verdictAt) (maxL := 3) (ret := (some .int)) (own := RX0) (lv0 := [(0, .ref (a 4)), (1, .int (nI (t))), (2, .int (nI (c)))]) (by decide) rfl rfl (Nat.le_of_ble_eq_true rfl) rfl ?_
  intro p9 e9 s9 m9 as9 bl9 me9 cd9 E hr
  have hinX0 : ∀ w ∈ u_ws RX0 TX0 5, w ∈ wsX0_verdictAt := by decide +kernel
  have hP := zP_le hok
  have hF := zF_le hok
  refine v_aload_n E dX0_verdictAt_0 0 rfl rfl ?_
  refine v_get E dX0_verdictAt_1 4 3 hinX0 rfl rfl (by decide) (by decide +kernel) rfl rfl ?_
  refine v_iload_n E dX0_verdictAt_4 1 rfl rfl ?_
  refine v_aald E dX0_verdictAt_5 12 2 rfl rfl (by omega) (by decide) (zout_at (by omega)) ?_
  refine v_iload_n E dX0_verdictAt_6 2 rfl rfl ?_
  refine v_iald E dX0_verdictAt_7 (38 + (t)) 0 (wX_row_P (by omega)) rfl (by omega) (by decide) rfl ?_
  refine n_if_le E dX0_verdictAt_8 (by have := hP t c; omega) (tgt := 15) (by decide) (fun c8 => ?_) (fun c8 => ?_)
  · refine v_iconst E dX0_verdictAt_15 (v := nI 0) rfl ?_
    refine v_aload_n E dX0_verdictAt_16 0 rfl rfl ?_
    refine v_get E dX0_verdictAt_17 4 4 hinX0 rfl rfl (by decide) (by decide +kernel) rfl rfl ?_
    refine v_iload_n E dX0_verdictAt_20 1 rfl rfl ?_
    refine v_aald E dX0_verdictAt_21 13 2 rfl rfl (by omega) (by decide) (zout_at (by omega)) ?_
    refine v_iload_n E dX0_verdictAt_22 2 rfl rfl ?_
    refine v_iald E dX0_verdictAt_23 (50 + (t)) 0 (wX_row_F (by omega)) rfl (by omega) (by decide) rfl ?_
    refine n_if_le E dX0_verdictAt_24 (by have := hF t c; omega) (tgt := 31) (by decide) (fun c24 => ?_) (fun c24 => ?_)
    · refine v_iconst E dX0_verdictAt_31 (v := nI 0) rfl ?_
      refine v_iadd E dX0_verdictAt_32 (nI_add _ _) ?_
      exact v_ret E hr (by simp [vd, c8, c24]) dX0_verdictAt_33
    · refine v_iconst E dX0_verdictAt_27 (v := nI 2) rfl ?_
      refine v_goto E dX0_verdictAt_28 (tgt := 32) (by decide) ?_
      refine v_iadd E dX0_verdictAt_32 (nI_add _ _) ?_
      exact v_ret E hr (by simp [vd, c8, c24]) dX0_verdictAt_33
  · refine v_iconst E dX0_verdictAt_11 (v := nI 1) rfl ?_
    refine v_goto E dX0_verdictAt_12 (tgt := 16) (by decide) ?_
    refine v_aload_n E dX0_verdictAt_16 0 rfl rfl ?_
    refine v_get E dX0_verdictAt_17 4 4 hinX0 rfl rfl (by decide) (by decide +kernel) rfl rfl ?_
    refine v_iload_n E dX0_verdictAt_20 1 rfl rfl ?_
    refine v_aald E dX0_verdictAt_21 13 2 rfl rfl (by omega) (by decide) (zout_at (by omega)) ?_
    refine v_iload_n E dX0_verdictAt_22 2 rfl rfl ?_
    refine v_iald E dX0_verdictAt_23 (50 + (t)) 0 (wX_row_F (by omega)) rfl (by omega) (by decide) rfl ?_
    refine n_if_le E dX0_verdictAt_24 (by have := hF t c; omega) (tgt := 31) (by decide) (fun c24 => ?_) (fun c24 => ?_)
    · refine v_iconst E dX0_verdictAt_31 (v := nI 0) rfl ?_
      refine v_iadd E dX0_verdictAt_32 (nI_add _ _) ?_
      exact v_ret E hr (by simp [vd, c8, c24]) dX0_verdictAt_33
    · refine v_iconst E dX0_verdictAt_27 (v := nI 2) rfl ?_
      refine v_goto E dX0_verdictAt_28 (tgt := 32) (by decide) ?_
      refine v_iadd E dX0_verdictAt_32 (nI_add _ _) ?_
      exact v_ret E hr (by simp [vd, c8, c24]) dX0_verdictAt_33

def zcon (S : zS) (t g b q : Nat) : Nat → Bool := fun r => decide ((g ≤ z_rC S t r ∧ z_rC S t r ≤ b) ∧ (z_rP S t r = 1 ↔ q ≤ z_rC S t r))
set_option maxHeartbeats 4000000 in
set_option maxRecDepth 100000 in
theorem x_X0_contradicting (l : Launch) (D : va_G) (cI cZ cQ cJ : ClassId) (a : Nat → Nat) (S : zS) (hok : zOK S) (t g b q : Nat) (ht : t < 12) (hg : g < 40) (hb : b < 40) (hq : q < 40)  : v_Rdi l yX0_contradicting wsX0_contradicting { frames := 0, cells := 0, slots := 0, locals := 0 } D (wTy cI cZ cQ cJ) [.ref (a 4), .int (nI (t)), .int (nI (g)), .int (nI (b)), .int (nI (q))] (wX cI cZ cQ a S) (nI (ct (zcon S t g b q) (z_R S t))) := by
  refine v_reader (cc := cX0_contradicting) (maxL := 11) (ret := (some .int)) (own := RX0) (lv0 := [(0, .ref (a 4)), (1, .int (nI (t))), (2, .int (nI (g))), (3, .int (nI (b))), (4, .int (nI (q)))]) (by decide) rfl rfl (Nat.le_of_ble_eq_true rfl) rfl ?_
  intro p9 e9 s9 m9 as9 bl9 me9 cd9 E hr
  have hinX0 : ∀ w ∈ u_ws RX0 TX0 5, w ∈ wsX0_contradicting := by decide +kernel
  obtain ⟨⟨k1, k2, k3, k4, k5, k6, k7, k8⟩, k9, k10, k11, k12, k13⟩ := id hok
  refine v_iconst E dX0_contradicting_0 (v := nI 0) rfl ?_
  refine v_istore E dX0_contradicting_1 (by decide) rfl ?_
  refine v_iconst E dX0_contradicting_3 (v := nI 0) rfl ?_
  refine v_istore E dX0_contradicting_4 (by decide) rfl ?_
  have L6_1 : ∀ (n6 : Nat) (f : Nat) (r : Nat), z_R S t - r < n6 → (f = ct (zcon S t g b q) r) → (r ≤ z_R S t) → V p9 l e9 (headSpec wsX0_contradicting { frames := 0, cells := 0, slots := 0, locals := 0 }).room s9 m9 as9 bl9 me9 cd9 0 0 (MQ bl9 (vp_Si (fun r => r = nI (ct (zcon S t g b q) (z_R S t)))) as9 s9 0 0 (fun _ => False)) (v_ro D s9) 11 6 [(5, .int (nI (f))), (6, .int (nI (r))), (0, .ref (a 4)), (1, .int (nI (t))), (2, .int (nI (g))), (3, .int (nI (b))), (4, .int (nI (q)))] [] (wX cI cZ cQ a S) := by
    intro n6
    induction n6 with
    | zero => intro f r hm6 hf hr2; exact absurd hm6 (Nat.not_lt_zero _)
    | succ n6 ih6 =>
      intro f r hm6 hf hr2
      have hR := (k12 t).1
      have hfb : f ≤ r := by rw [hf]; exact ct_le _ _
      refine v_iload E dX0_contradicting_6 1 rfl ?_
      refine v_aload_n E dX0_contradicting_8 2 rfl rfl ?_
      refine v_get E dX0_contradicting_9 4 0 hinX0 rfl rfl (by decide) (by decide +kernel) rfl rfl ?_
      refine v_iload_n E dX0_contradicting_12 3 rfl rfl ?_
      refine v_iald E dX0_contradicting_13 9 0 rfl rfl (by omega) (by decide) rfl ?_
      refine n_icmp_ge E dX0_contradicting_14 (by omega) (by omega) (tgt := 102) (by decide) (fun c14 => ?_) (fun c14 => ?_)
      · refine v_iload E dX0_contradicting_102 0 rfl ?_
        exact v_ret E hr (by have e : r = z_R S t := (by omega); rw [hf, e]) dX0_contradicting_104
      · obtain ⟨hC1, hC2⟩ := (k12 t).2 r c14
        refine v_aload_n E dX0_contradicting_17 2 rfl rfl ?_
        refine v_get E dX0_contradicting_18 4 1 hinX0 rfl rfl (by decide) (by decide +kernel) rfl rfl ?_
        refine v_iload_n E dX0_contradicting_21 3 rfl rfl ?_
        refine v_aald E dX0_contradicting_22 10 2 rfl rfl (by omega) (by decide) (zout_at (by omega)) ?_
        refine v_iload E dX0_contradicting_23 1 rfl ?_
        refine v_iald E dX0_contradicting_25 (14 + (t)) 0 (wX_row_rC (by omega)) rfl (by omega) (by decide) rfl ?_
        refine v_istore E dX0_contradicting_26 (by decide) rfl ?_
        refine v_iload E dX0_contradicting_28 0 rfl ?_
        refine v_iload_n E dX0_contradicting_30 5 rfl rfl ?_
        refine n_icmp_lt E dX0_contradicting_31 (by omega) (by omega) (tgt := 44) (by decide) (fun c31 => ?_) (fun c31 => ?_)
        · refine v_iconst E dX0_contradicting_44 (v := nI 0) rfl ?_
          refine v_istore E dX0_contradicting_45 (by decide) rfl ?_
          refine v_aload_n E dX0_contradicting_47 4 rfl rfl ?_
          refine v_get E dX0_contradicting_48 4 2 hinX0 rfl rfl (by decide) (by decide +kernel) rfl rfl ?_
          refine v_iload_n E dX0_contradicting_51 5 rfl rfl ?_
          refine v_aald E dX0_contradicting_52 11 2 rfl rfl (by omega) (by decide) (zout_at (by omega)) ?_
          refine v_iload E dX0_contradicting_53 3 rfl ?_
          refine v_iald E dX0_contradicting_55 (26 + (t)) 0 (wX_row_rP (by omega)) rfl (by omega) (by decide) rfl ?_
          refine v_iconst E dX0_contradicting_56 (v := nI 1) rfl ?_
          refine n_icmp_ne E dX0_contradicting_57 (by omega) (by omega) (tgt := 64) (by decide) (fun c57 => ?_) (fun c57 => ?_)
          · refine v_iconst E dX0_contradicting_64 (v := nI 0) rfl ?_
            refine v_istore E dX0_contradicting_65 (by decide) rfl ?_
            refine v_iload E dX0_contradicting_67 2 rfl ?_
            refine v_iload E dX0_contradicting_69 9 rfl ?_
            refine n_icmp_lt E dX0_contradicting_71 (by omega) (by omega) (tgt := 78) (by decide) (fun c71 => ?_) (fun c71 => ?_)
            · refine v_iconst E dX0_contradicting_78 (v := nI 0) rfl ?_
              refine v_istore E dX0_contradicting_79 (by decide) rfl ?_
              refine v_iload E dX0_contradicting_81 2 rfl ?_
              refine n_if_eq E dX0_contradicting_83 (by omega) (tgt := 96) (by decide) (fun c83 => ?_) (fun c83 => ?_)
              · refine v_iinc E dX0_contradicting_96 5 rfl (nI_1 _) (by decide) rfl ?_
                refine v_goto E dX0_contradicting_99 (tgt := 6) (by decide) ?_
                refine v_lv [5, 0, 6, 7, 8, 9, 10] rfl ?_
                exact ih6 (f) (r + 1) (by omega) (zct_f hf (by exact decide_eq_false (by omega))) (by omega)
              · refine v_iload E dX0_contradicting_86 1 rfl ?_
                refine v_iload E dX0_contradicting_88 0 rfl ?_
                refine n_icmp_ne E dX0_contradicting_90 (by omega) (by omega) (tgt := 96) (by decide) (fun c90 => ?_) (fun c90 => ?_)
                · refine v_iinc E dX0_contradicting_96 5 rfl (nI_1 _) (by decide) rfl ?_
                  refine v_goto E dX0_contradicting_99 (tgt := 6) (by decide) ?_
                  refine v_lv [5, 0, 6, 7, 8, 9, 10] rfl ?_
                  exact ih6 (f) (r + 1) (by omega) (zct_f hf (by exact decide_eq_false (by omega))) (by omega)
                · refine v_iinc E dX0_contradicting_93 4 rfl (nI_1 _) (by decide) rfl ?_
                  refine v_iinc E dX0_contradicting_96 5 rfl (nI_1 _) (by decide) rfl ?_
                  refine v_goto E dX0_contradicting_99 (tgt := 6) (by decide) ?_
                  refine v_lv [1, 0, 6, 7, 8, 9, 10] rfl ?_
                  exact ih6 (f + 1) (r + 1) (by omega) (zct_t hf (by exact decide_eq_true (by omega))) (by omega)
            · refine v_iconst E dX0_contradicting_74 (v := nI 1) rfl ?_
              refine v_goto E dX0_contradicting_75 (tgt := 79) (by decide) ?_
              refine v_istore E dX0_contradicting_79 (by decide) rfl ?_
              refine v_iload E dX0_contradicting_81 2 rfl ?_
              refine n_if_eq E dX0_contradicting_83 (by omega) (tgt := 96) (by decide) (fun c83 => ?_) (fun c83 => ?_)
              · refine v_iinc E dX0_contradicting_96 5 rfl (nI_1 _) (by decide) rfl ?_
                refine v_goto E dX0_contradicting_99 (tgt := 6) (by decide) ?_
                refine v_lv [5, 0, 6, 7, 8, 9, 10] rfl ?_
                exact ih6 (f) (r + 1) (by omega) (zct_f hf (by exact decide_eq_false (by omega))) (by omega)
              · refine v_iload E dX0_contradicting_86 1 rfl ?_
                refine v_iload E dX0_contradicting_88 0 rfl ?_
                refine n_icmp_ne E dX0_contradicting_90 (by omega) (by omega) (tgt := 96) (by decide) (fun c90 => ?_) (fun c90 => ?_)
                · refine v_iinc E dX0_contradicting_96 5 rfl (nI_1 _) (by decide) rfl ?_
                  refine v_goto E dX0_contradicting_99 (tgt := 6) (by decide) ?_
                  refine v_lv [5, 0, 6, 7, 8, 9, 10] rfl ?_
                  exact ih6 (f) (r + 1) (by omega) (zct_f hf (by exact decide_eq_false (by omega))) (by omega)
                · refine v_iinc E dX0_contradicting_93 4 rfl (nI_1 _) (by decide) rfl ?_
                  refine v_iinc E dX0_contradicting_96 5 rfl (nI_1 _) (by decide) rfl ?_
                  refine v_goto E dX0_contradicting_99 (tgt := 6) (by decide) ?_
                  refine v_lv [1, 0, 6, 7, 8, 9, 10] rfl ?_
                  exact ih6 (f + 1) (r + 1) (by omega) (zct_t hf (by exact decide_eq_true (by omega))) (by omega)
          · refine v_iconst E dX0_contradicting_60 (v := nI 1) rfl ?_
            refine v_goto E dX0_contradicting_61 (tgt := 65) (by decide) ?_
            refine v_istore E dX0_contradicting_65 (by decide) rfl ?_
            refine v_iload E dX0_contradicting_67 2 rfl ?_
            refine v_iload E dX0_contradicting_69 9 rfl ?_
            refine n_icmp_lt E dX0_contradicting_71 (by omega) (by omega) (tgt := 78) (by decide) (fun c71 => ?_) (fun c71 => ?_)
            · refine v_iconst E dX0_contradicting_78 (v := nI 0) rfl ?_
              refine v_istore E dX0_contradicting_79 (by decide) rfl ?_
              refine v_iload E dX0_contradicting_81 2 rfl ?_
              refine n_if_eq E dX0_contradicting_83 (by omega) (tgt := 96) (by decide) (fun c83 => ?_) (fun c83 => ?_)
              · refine v_iinc E dX0_contradicting_96 5 rfl (nI_1 _) (by decide) rfl ?_
                refine v_goto E dX0_contradicting_99 (tgt := 6) (by decide) ?_
                refine v_lv [5, 0, 6, 7, 8, 9, 10] rfl ?_
                exact ih6 (f) (r + 1) (by omega) (zct_f hf (by exact decide_eq_false (by omega))) (by omega)
              · refine v_iload E dX0_contradicting_86 1 rfl ?_
                refine v_iload E dX0_contradicting_88 0 rfl ?_
                refine n_icmp_ne E dX0_contradicting_90 (by omega) (by omega) (tgt := 96) (by decide) (fun c90 => ?_) (fun c90 => ?_)
                · refine v_iinc E dX0_contradicting_96 5 rfl (nI_1 _) (by decide) rfl ?_
                  refine v_goto E dX0_contradicting_99 (tgt := 6) (by decide) ?_
                  refine v_lv [5, 0, 6, 7, 8, 9, 10] rfl ?_
                  exact ih6 (f) (r + 1) (by omega) (zct_f hf (by exact decide_eq_false (by omega))) (by omega)
                · refine v_iinc E dX0_contradicting_93 4 rfl (nI_1 _) (by decide) rfl ?_
                  refine v_iinc E dX0_contradicting_96 5 rfl (nI_1 _) (by decide) rfl ?_
                  refine v_goto E dX0_contradicting_99 (tgt := 6) (by decide) ?_
                  refine v_lv [1, 0, 6, 7, 8, 9, 10] rfl ?_
                  exact ih6 (f + 1) (r + 1) (by omega) (zct_t hf (by exact decide_eq_true (by omega))) (by omega)
            · refine v_iconst E dX0_contradicting_74 (v := nI 1) rfl ?_
              refine v_goto E dX0_contradicting_75 (tgt := 79) (by decide) ?_
              refine v_istore E dX0_contradicting_79 (by decide) rfl ?_
              refine v_iload E dX0_contradicting_81 2 rfl ?_
              refine n_if_eq E dX0_contradicting_83 (by omega) (tgt := 96) (by decide) (fun c83 => ?_) (fun c83 => ?_)
              · refine v_iinc E dX0_contradicting_96 5 rfl (nI_1 _) (by decide) rfl ?_
                refine v_goto E dX0_contradicting_99 (tgt := 6) (by decide) ?_
                refine v_lv [5, 0, 6, 7, 8, 9, 10] rfl ?_
                exact ih6 (f) (r + 1) (by omega) (zct_f hf (by exact decide_eq_false (by omega))) (by omega)
              · refine v_iload E dX0_contradicting_86 1 rfl ?_
                refine v_iload E dX0_contradicting_88 0 rfl ?_
                refine n_icmp_ne E dX0_contradicting_90 (by omega) (by omega) (tgt := 96) (by decide) (fun c90 => ?_) (fun c90 => ?_)
                · refine v_iinc E dX0_contradicting_96 5 rfl (nI_1 _) (by decide) rfl ?_
                  refine v_goto E dX0_contradicting_99 (tgt := 6) (by decide) ?_
                  refine v_lv [5, 0, 6, 7, 8, 9, 10] rfl ?_
                  exact ih6 (f) (r + 1) (by omega) (zct_f hf (by exact decide_eq_false (by omega))) (by omega)
                · refine v_iinc E dX0_contradicting_93 4 rfl (nI_1 _) (by decide) rfl ?_
                  refine v_iinc E dX0_contradicting_96 5 rfl (nI_1 _) (by decide) rfl ?_
                  refine v_goto E dX0_contradicting_99 (tgt := 6) (by decide) ?_
                  refine v_lv [1, 0, 6, 7, 8, 9, 10] rfl ?_
                  exact ih6 (f + 1) (r + 1) (by omega) (zct_t hf (by exact decide_eq_true (by omega))) (by omega)
        · refine v_iload E dX0_contradicting_34 0 rfl ?_
          refine v_iload_n E dX0_contradicting_36 6 rfl rfl ?_
          refine n_icmp_gt E dX0_contradicting_37 (by omega) (by omega) (tgt := 44) (by decide) (fun c37 => ?_) (fun c37 => ?_)
          · refine v_iconst E dX0_contradicting_44 (v := nI 0) rfl ?_
            refine v_istore E dX0_contradicting_45 (by decide) rfl ?_
            refine v_aload_n E dX0_contradicting_47 4 rfl rfl ?_
            refine v_get E dX0_contradicting_48 4 2 hinX0 rfl rfl (by decide) (by decide +kernel) rfl rfl ?_
            refine v_iload_n E dX0_contradicting_51 5 rfl rfl ?_
            refine v_aald E dX0_contradicting_52 11 2 rfl rfl (by omega) (by decide) (zout_at (by omega)) ?_
            refine v_iload E dX0_contradicting_53 3 rfl ?_
            refine v_iald E dX0_contradicting_55 (26 + (t)) 0 (wX_row_rP (by omega)) rfl (by omega) (by decide) rfl ?_
            refine v_iconst E dX0_contradicting_56 (v := nI 1) rfl ?_
            refine n_icmp_ne E dX0_contradicting_57 (by omega) (by omega) (tgt := 64) (by decide) (fun c57 => ?_) (fun c57 => ?_)
            · refine v_iconst E dX0_contradicting_64 (v := nI 0) rfl ?_
              refine v_istore E dX0_contradicting_65 (by decide) rfl ?_
              refine v_iload E dX0_contradicting_67 2 rfl ?_
              refine v_iload E dX0_contradicting_69 9 rfl ?_
              refine n_icmp_lt E dX0_contradicting_71 (by omega) (by omega) (tgt := 78) (by decide) (fun c71 => ?_) (fun c71 => ?_)
              · refine v_iconst E dX0_contradicting_78 (v := nI 0) rfl ?_
                refine v_istore E dX0_contradicting_79 (by decide) rfl ?_
                refine v_iload E dX0_contradicting_81 2 rfl ?_
                refine n_if_eq E dX0_contradicting_83 (by omega) (tgt := 96) (by decide) (fun c83 => ?_) (fun c83 => ?_)
                · refine v_iinc E dX0_contradicting_96 5 rfl (nI_1 _) (by decide) rfl ?_
                  refine v_goto E dX0_contradicting_99 (tgt := 6) (by decide) ?_
                  refine v_lv [5, 0, 6, 7, 8, 9, 10] rfl ?_
                  exact ih6 (f) (r + 1) (by omega) (zct_f hf (by exact decide_eq_false (by omega))) (by omega)
                · refine v_iload E dX0_contradicting_86 1 rfl ?_
                  refine v_iload E dX0_contradicting_88 0 rfl ?_
                  refine n_icmp_ne E dX0_contradicting_90 (by omega) (by omega) (tgt := 96) (by decide) (fun c90 => ?_) (fun c90 => ?_)
                  · refine v_iinc E dX0_contradicting_96 5 rfl (nI_1 _) (by decide) rfl ?_
                    refine v_goto E dX0_contradicting_99 (tgt := 6) (by decide) ?_
                    refine v_lv [5, 0, 6, 7, 8, 9, 10] rfl ?_
                    exact ih6 (f) (r + 1) (by omega) (zct_f hf (by exact decide_eq_false (by omega))) (by omega)
                  · refine v_iinc E dX0_contradicting_93 4 rfl (nI_1 _) (by decide) rfl ?_
                    refine v_iinc E dX0_contradicting_96 5 rfl (nI_1 _) (by decide) rfl ?_
                    refine v_goto E dX0_contradicting_99 (tgt := 6) (by decide) ?_
                    refine v_lv [1, 0, 6, 7, 8, 9, 10] rfl ?_
                    exact ih6 (f + 1) (r + 1) (by omega) (zct_t hf (by exact decide_eq_true (by omega))) (by omega)
              · refine v_iconst E dX0_contradicting_74 (v := nI 1) rfl ?_
                refine v_goto E dX0_contradicting_75 (tgt := 79) (by decide) ?_
                refine v_istore E dX0_contradicting_79 (by decide) rfl ?_
                refine v_iload E dX0_contradicting_81 2 rfl ?_
                refine n_if_eq E dX0_contradicting_83 (by omega) (tgt := 96) (by decide) (fun c83 => ?_) (fun c83 => ?_)
                · refine v_iinc E dX0_contradicting_96 5 rfl (nI_1 _) (by decide) rfl ?_
                  refine v_goto E dX0_contradicting_99 (tgt := 6) (by decide) ?_
                  refine v_lv [5, 0, 6, 7, 8, 9, 10] rfl ?_
                  exact ih6 (f) (r + 1) (by omega) (zct_f hf (by exact decide_eq_false (by omega))) (by omega)
                · refine v_iload E dX0_contradicting_86 1 rfl ?_
                  refine v_iload E dX0_contradicting_88 0 rfl ?_
                  refine n_icmp_ne E dX0_contradicting_90 (by omega) (by omega) (tgt := 96) (by decide) (fun c90 => ?_) (fun c90 => ?_)
                  · refine v_iinc E dX0_contradicting_96 5 rfl (nI_1 _) (by decide) rfl ?_
                    refine v_goto E dX0_contradicting_99 (tgt := 6) (by decide) ?_
                    refine v_lv [5, 0, 6, 7, 8, 9, 10] rfl ?_
                    exact ih6 (f) (r + 1) (by omega) (zct_f hf (by exact decide_eq_false (by omega))) (by omega)
                  · refine v_iinc E dX0_contradicting_93 4 rfl (nI_1 _) (by decide) rfl ?_
                    refine v_iinc E dX0_contradicting_96 5 rfl (nI_1 _) (by decide) rfl ?_
                    refine v_goto E dX0_contradicting_99 (tgt := 6) (by decide) ?_
                    refine v_lv [1, 0, 6, 7, 8, 9, 10] rfl ?_
                    exact ih6 (f + 1) (r + 1) (by omega) (zct_t hf (by exact decide_eq_true (by omega))) (by omega)
            · refine v_iconst E dX0_contradicting_60 (v := nI 1) rfl ?_
              refine v_goto E dX0_contradicting_61 (tgt := 65) (by decide) ?_
              refine v_istore E dX0_contradicting_65 (by decide) rfl ?_
              refine v_iload E dX0_contradicting_67 2 rfl ?_
              refine v_iload E dX0_contradicting_69 9 rfl ?_
              refine n_icmp_lt E dX0_contradicting_71 (by omega) (by omega) (tgt := 78) (by decide) (fun c71 => ?_) (fun c71 => ?_)
              · refine v_iconst E dX0_contradicting_78 (v := nI 0) rfl ?_
                refine v_istore E dX0_contradicting_79 (by decide) rfl ?_
                refine v_iload E dX0_contradicting_81 2 rfl ?_
                refine n_if_eq E dX0_contradicting_83 (by omega) (tgt := 96) (by decide) (fun c83 => ?_) (fun c83 => ?_)
                · refine v_iinc E dX0_contradicting_96 5 rfl (nI_1 _) (by decide) rfl ?_
                  refine v_goto E dX0_contradicting_99 (tgt := 6) (by decide) ?_
                  refine v_lv [5, 0, 6, 7, 8, 9, 10] rfl ?_
                  exact ih6 (f) (r + 1) (by omega) (zct_f hf (by exact decide_eq_false (by omega))) (by omega)
                · refine v_iload E dX0_contradicting_86 1 rfl ?_
                  refine v_iload E dX0_contradicting_88 0 rfl ?_
                  refine n_icmp_ne E dX0_contradicting_90 (by omega) (by omega) (tgt := 96) (by decide) (fun c90 => ?_) (fun c90 => ?_)
                  · refine v_iinc E dX0_contradicting_96 5 rfl (nI_1 _) (by decide) rfl ?_
                    refine v_goto E dX0_contradicting_99 (tgt := 6) (by decide) ?_
                    refine v_lv [5, 0, 6, 7, 8, 9, 10] rfl ?_
                    exact ih6 (f) (r + 1) (by omega) (zct_f hf (by exact decide_eq_false (by omega))) (by omega)
                  · refine v_iinc E dX0_contradicting_93 4 rfl (nI_1 _) (by decide) rfl ?_
                    refine v_iinc E dX0_contradicting_96 5 rfl (nI_1 _) (by decide) rfl ?_
                    refine v_goto E dX0_contradicting_99 (tgt := 6) (by decide) ?_
                    refine v_lv [1, 0, 6, 7, 8, 9, 10] rfl ?_
                    exact ih6 (f + 1) (r + 1) (by omega) (zct_t hf (by exact decide_eq_true (by omega))) (by omega)
              · refine v_iconst E dX0_contradicting_74 (v := nI 1) rfl ?_
                refine v_goto E dX0_contradicting_75 (tgt := 79) (by decide) ?_
                refine v_istore E dX0_contradicting_79 (by decide) rfl ?_
                refine v_iload E dX0_contradicting_81 2 rfl ?_
                refine n_if_eq E dX0_contradicting_83 (by omega) (tgt := 96) (by decide) (fun c83 => ?_) (fun c83 => ?_)
                · refine v_iinc E dX0_contradicting_96 5 rfl (nI_1 _) (by decide) rfl ?_
                  refine v_goto E dX0_contradicting_99 (tgt := 6) (by decide) ?_
                  refine v_lv [5, 0, 6, 7, 8, 9, 10] rfl ?_
                  exact ih6 (f) (r + 1) (by omega) (zct_f hf (by exact decide_eq_false (by omega))) (by omega)
                · refine v_iload E dX0_contradicting_86 1 rfl ?_
                  refine v_iload E dX0_contradicting_88 0 rfl ?_
                  refine n_icmp_ne E dX0_contradicting_90 (by omega) (by omega) (tgt := 96) (by decide) (fun c90 => ?_) (fun c90 => ?_)
                  · refine v_iinc E dX0_contradicting_96 5 rfl (nI_1 _) (by decide) rfl ?_
                    refine v_goto E dX0_contradicting_99 (tgt := 6) (by decide) ?_
                    refine v_lv [5, 0, 6, 7, 8, 9, 10] rfl ?_
                    exact ih6 (f) (r + 1) (by omega) (zct_f hf (by exact decide_eq_false (by omega))) (by omega)
                  · refine v_iinc E dX0_contradicting_93 4 rfl (nI_1 _) (by decide) rfl ?_
                    refine v_iinc E dX0_contradicting_96 5 rfl (nI_1 _) (by decide) rfl ?_
                    refine v_goto E dX0_contradicting_99 (tgt := 6) (by decide) ?_
                    refine v_lv [1, 0, 6, 7, 8, 9, 10] rfl ?_
                    exact ih6 (f + 1) (r + 1) (by omega) (zct_t hf (by exact decide_eq_true (by omega))) (by omega)
          · refine v_iconst E dX0_contradicting_40 (v := nI 1) rfl ?_
            refine v_goto E dX0_contradicting_41 (tgt := 45) (by decide) ?_
            refine v_istore E dX0_contradicting_45 (by decide) rfl ?_
            refine v_aload_n E dX0_contradicting_47 4 rfl rfl ?_
            refine v_get E dX0_contradicting_48 4 2 hinX0 rfl rfl (by decide) (by decide +kernel) rfl rfl ?_
            refine v_iload_n E dX0_contradicting_51 5 rfl rfl ?_
            refine v_aald E dX0_contradicting_52 11 2 rfl rfl (by omega) (by decide) (zout_at (by omega)) ?_
            refine v_iload E dX0_contradicting_53 3 rfl ?_
            refine v_iald E dX0_contradicting_55 (26 + (t)) 0 (wX_row_rP (by omega)) rfl (by omega) (by decide) rfl ?_
            refine v_iconst E dX0_contradicting_56 (v := nI 1) rfl ?_
            refine n_icmp_ne E dX0_contradicting_57 (by omega) (by omega) (tgt := 64) (by decide) (fun c57 => ?_) (fun c57 => ?_)
            · refine v_iconst E dX0_contradicting_64 (v := nI 0) rfl ?_
              refine v_istore E dX0_contradicting_65 (by decide) rfl ?_
              refine v_iload E dX0_contradicting_67 2 rfl ?_
              refine v_iload E dX0_contradicting_69 9 rfl ?_
              refine n_icmp_lt E dX0_contradicting_71 (by omega) (by omega) (tgt := 78) (by decide) (fun c71 => ?_) (fun c71 => ?_)
              · refine v_iconst E dX0_contradicting_78 (v := nI 0) rfl ?_
                refine v_istore E dX0_contradicting_79 (by decide) rfl ?_
                refine v_iload E dX0_contradicting_81 2 rfl ?_
                refine n_if_eq E dX0_contradicting_83 (by omega) (tgt := 96) (by decide) (fun c83 => ?_) (fun c83 => ?_)
                · refine v_iinc E dX0_contradicting_96 5 rfl (nI_1 _) (by decide) rfl ?_
                  refine v_goto E dX0_contradicting_99 (tgt := 6) (by decide) ?_
                  refine v_lv [5, 0, 6, 7, 8, 9, 10] rfl ?_
                  exact ih6 (f) (r + 1) (by omega) (zct_f hf (by exact decide_eq_false (by omega))) (by omega)
                · refine v_iload E dX0_contradicting_86 1 rfl ?_
                  refine v_iload E dX0_contradicting_88 0 rfl ?_
                  refine n_icmp_ne E dX0_contradicting_90 (by omega) (by omega) (tgt := 96) (by decide) (fun c90 => ?_) (fun c90 => ?_)
                  · refine v_iinc E dX0_contradicting_96 5 rfl (nI_1 _) (by decide) rfl ?_
                    refine v_goto E dX0_contradicting_99 (tgt := 6) (by decide) ?_
                    refine v_lv [5, 0, 6, 7, 8, 9, 10] rfl ?_
                    exact ih6 (f) (r + 1) (by omega) (zct_f hf (by exact decide_eq_false (by omega))) (by omega)
                  · refine v_iinc E dX0_contradicting_93 4 rfl (nI_1 _) (by decide) rfl ?_
                    refine v_iinc E dX0_contradicting_96 5 rfl (nI_1 _) (by decide) rfl ?_
                    refine v_goto E dX0_contradicting_99 (tgt := 6) (by decide) ?_
                    refine v_lv [1, 0, 6, 7, 8, 9, 10] rfl ?_
                    exact ih6 (f + 1) (r + 1) (by omega) (zct_t hf (by exact decide_eq_true (by omega))) (by omega)
              · refine v_iconst E dX0_contradicting_74 (v := nI 1) rfl ?_
                refine v_goto E dX0_contradicting_75 (tgt := 79) (by decide) ?_
                refine v_istore E dX0_contradicting_79 (by decide) rfl ?_
                refine v_iload E dX0_contradicting_81 2 rfl ?_
                refine n_if_eq E dX0_contradicting_83 (by omega) (tgt := 96) (by decide) (fun c83 => ?_) (fun c83 => ?_)
                · refine v_iinc E dX0_contradicting_96 5 rfl (nI_1 _) (by decide) rfl ?_
                  refine v_goto E dX0_contradicting_99 (tgt := 6) (by decide) ?_
                  refine v_lv [5, 0, 6, 7, 8, 9, 10] rfl ?_
                  exact ih6 (f) (r + 1) (by omega) (zct_f hf (by exact decide_eq_false (by omega))) (by omega)
                · refine v_iload E dX0_contradicting_86 1 rfl ?_
                  refine v_iload E dX0_contradicting_88 0 rfl ?_
                  refine n_icmp_ne E dX0_contradicting_90 (by omega) (by omega) (tgt := 96) (by decide) (fun c90 => ?_) (fun c90 => ?_)
                  · refine v_iinc E dX0_contradicting_96 5 rfl (nI_1 _) (by decide) rfl ?_
                    refine v_goto E dX0_contradicting_99 (tgt := 6) (by decide) ?_
                    refine v_lv [5, 0, 6, 7, 8, 9, 10] rfl ?_
                    exact ih6 (f) (r + 1) (by omega) (zct_f hf (by exact decide_eq_false (by omega))) (by omega)
                  · refine v_iinc E dX0_contradicting_93 4 rfl (nI_1 _) (by decide) rfl ?_
                    refine v_iinc E dX0_contradicting_96 5 rfl (nI_1 _) (by decide) rfl ?_
                    refine v_goto E dX0_contradicting_99 (tgt := 6) (by decide) ?_
                    refine v_lv [1, 0, 6, 7, 8, 9, 10] rfl ?_
                    exact ih6 (f + 1) (r + 1) (by omega) (zct_t hf (by exact decide_eq_true (by omega))) (by omega)
            · refine v_iconst E dX0_contradicting_60 (v := nI 1) rfl ?_
              refine v_goto E dX0_contradicting_61 (tgt := 65) (by decide) ?_
              refine v_istore E dX0_contradicting_65 (by decide) rfl ?_
              refine v_iload E dX0_contradicting_67 2 rfl ?_
              refine v_iload E dX0_contradicting_69 9 rfl ?_
              refine n_icmp_lt E dX0_contradicting_71 (by omega) (by omega) (tgt := 78) (by decide) (fun c71 => ?_) (fun c71 => ?_)
              · refine v_iconst E dX0_contradicting_78 (v := nI 0) rfl ?_
                refine v_istore E dX0_contradicting_79 (by decide) rfl ?_
                refine v_iload E dX0_contradicting_81 2 rfl ?_
                refine n_if_eq E dX0_contradicting_83 (by omega) (tgt := 96) (by decide) (fun c83 => ?_) (fun c83 => ?_)
                · refine v_iinc E dX0_contradicting_96 5 rfl (nI_1 _) (by decide) rfl ?_
                  refine v_goto E dX0_contradicting_99 (tgt := 6) (by decide) ?_
                  refine v_lv [5, 0, 6, 7, 8, 9, 10] rfl ?_
                  exact ih6 (f) (r + 1) (by omega) (zct_f hf (by exact decide_eq_false (by omega))) (by omega)
                · refine v_iload E dX0_contradicting_86 1 rfl ?_
                  refine v_iload E dX0_contradicting_88 0 rfl ?_
                  refine n_icmp_ne E dX0_contradicting_90 (by omega) (by omega) (tgt := 96) (by decide) (fun c90 => ?_) (fun c90 => ?_)
                  · refine v_iinc E dX0_contradicting_96 5 rfl (nI_1 _) (by decide) rfl ?_
                    refine v_goto E dX0_contradicting_99 (tgt := 6) (by decide) ?_
                    refine v_lv [5, 0, 6, 7, 8, 9, 10] rfl ?_
                    exact ih6 (f) (r + 1) (by omega) (zct_f hf (by exact decide_eq_false (by omega))) (by omega)
                  · refine v_iinc E dX0_contradicting_93 4 rfl (nI_1 _) (by decide) rfl ?_
                    refine v_iinc E dX0_contradicting_96 5 rfl (nI_1 _) (by decide) rfl ?_
                    refine v_goto E dX0_contradicting_99 (tgt := 6) (by decide) ?_
                    refine v_lv [1, 0, 6, 7, 8, 9, 10] rfl ?_
                    exact ih6 (f + 1) (r + 1) (by omega) (zct_t hf (by exact decide_eq_true (by omega))) (by omega)
              · refine v_iconst E dX0_contradicting_74 (v := nI 1) rfl ?_
                refine v_goto E dX0_contradicting_75 (tgt := 79) (by decide) ?_
                refine v_istore E dX0_contradicting_79 (by decide) rfl ?_
                refine v_iload E dX0_contradicting_81 2 rfl ?_
                refine n_if_eq E dX0_contradicting_83 (by omega) (tgt := 96) (by decide) (fun c83 => ?_) (fun c83 => ?_)
                · refine v_iinc E dX0_contradicting_96 5 rfl (nI_1 _) (by decide) rfl ?_
                  refine v_goto E dX0_contradicting_99 (tgt := 6) (by decide) ?_
                  refine v_lv [5, 0, 6, 7, 8, 9, 10] rfl ?_
                  exact ih6 (f) (r + 1) (by omega) (zct_f hf (by exact decide_eq_false (by omega))) (by omega)
                · refine v_iload E dX0_contradicting_86 1 rfl ?_
                  refine v_iload E dX0_contradicting_88 0 rfl ?_
                  refine n_icmp_ne E dX0_contradicting_90 (by omega) (by omega) (tgt := 96) (by decide) (fun c90 => ?_) (fun c90 => ?_)
                  · refine v_iinc E dX0_contradicting_96 5 rfl (nI_1 _) (by decide) rfl ?_
                    refine v_goto E dX0_contradicting_99 (tgt := 6) (by decide) ?_
                    refine v_lv [5, 0, 6, 7, 8, 9, 10] rfl ?_
                    exact ih6 (f) (r + 1) (by omega) (zct_f hf (by exact decide_eq_false (by omega))) (by omega)
                  · refine v_iinc E dX0_contradicting_93 4 rfl (nI_1 _) (by decide) rfl ?_
                    refine v_iinc E dX0_contradicting_96 5 rfl (nI_1 _) (by decide) rfl ?_
                    refine v_goto E dX0_contradicting_99 (tgt := 6) (by decide) ?_
                    refine v_lv [1, 0, 6, 7, 8, 9, 10] rfl ?_
                    exact ih6 (f + 1) (r + 1) (by omega) (zct_t hf (by exact decide_eq_true (by omega))) (by omega)
  refine v_lv [1, 0, 2, 3, 4, 5, 6] rfl ?_
  exact L6_1 ((z_R S t - (0)) + 1) (0) (0) (by omega) rfl (by omega)

set_option maxHeartbeats 4000000 in
set_option maxRecDepth 100000 in
theorem x_X0_passesWithin (l : Launch) (D : va_G) (cI cZ cQ cJ : ClassId) (a : Nat → Nat) (S : zS) (hok : zOK S) (t g b : Nat) (ht : t < 12) (hg : g ≤ b) (hb : b < 40)  : v_Rdi l yX0_passesWithin wsX0_passesWithin { frames := 0, cells := 0, slots := 0, locals := 0 } D (wTy cI cZ cQ cJ) [.ref (a 4), .int (nI (t)), .int (nI (g)), .int (nI (b))] (wX cI cZ cQ a S) (nI (sr (z_P S t) g (b + 1))) := by
  refine v_reader (cc := cX0_passesWithin) (maxL := 6) (ret := (some .int)) (own := RX0) (lv0 := [(0, .ref (a 4)), (1, .int (nI (t))), (2, .int (nI (g))), (3, .int (nI (b)))]) (by decide) rfl rfl (Nat.le_of_ble_eq_true rfl) rfl ?_
  intro p9 e9 s9 m9 as9 bl9 me9 cd9 E hr
  have hinX0 : ∀ w ∈ u_ws RX0 TX0 5, w ∈ wsX0_passesWithin := by decide +kernel
  refine v_iconst E dX0_passesWithin_0 (v := nI 0) rfl ?_
  refine v_istore E dX0_passesWithin_1 (by decide) rfl ?_
  refine v_iload_n E dX0_passesWithin_3 3 rfl rfl ?_
  refine v_istore E dX0_passesWithin_4 (by decide) rfl ?_
  have L6_1 : ∀ (n6 : Nat) (f : Nat) (c : Nat), b + 1 - c < n6 → (f = sr (z_P S t) g c) → (g ≤ c) → (c ≤ b + 1) → V p9 l e9 (headSpec wsX0_passesWithin { frames := 0, cells := 0, slots := 0, locals := 0 }).room s9 m9 as9 bl9 me9 cd9 0 0 (MQ bl9 (vp_Si (fun r => r = nI (sr (z_P S t) g (b + 1)))) as9 s9 0 0 (fun _ => False)) (v_ro D s9) 6 6 [(4, .int (nI (f))), (5, .int (nI (c))), (0, .ref (a 4)), (1, .int (nI (t))), (2, .int (nI (g))), (3, .int (nI (b)))] [] (wX cI cZ cQ a S) := by
    intro n6
    induction n6 with
    | zero => intro f c hm6 hf h1 h2; exact absurd hm6 (Nat.not_lt_zero _)
    | succ n6 ih6 =>
      intro f c hm6 hf h1 h2
      refine v_iload E dX0_passesWithin_6 1 rfl ?_
      refine v_iload_n E dX0_passesWithin_8 5 rfl rfl ?_
      refine n_icmp_gt E dX0_passesWithin_9 (by omega) (by omega) (tgt := 32) (by decide) (fun c9 => ?_) (fun c9 => ?_)
      · refine v_iload E dX0_passesWithin_32 0 rfl ?_
        exact v_ret E hr (by have e : c = b + 1 := (by omega); rw [hf, e]) dX0_passesWithin_34
      · refine v_iload E dX0_passesWithin_12 0 rfl ?_
        refine v_aload_n E dX0_passesWithin_14 2 rfl rfl ?_
        refine v_get E dX0_passesWithin_15 4 3 hinX0 rfl rfl (by decide) (by decide +kernel) rfl rfl ?_
        refine v_iload_n E dX0_passesWithin_18 3 rfl rfl ?_
        refine v_aald E dX0_passesWithin_19 12 2 rfl rfl (by omega) (by decide) (zout_at (by omega)) ?_
        refine v_iload E dX0_passesWithin_20 1 rfl ?_
        refine v_iald E dX0_passesWithin_22 (38 + (t)) 0 (wX_row_P (by omega)) rfl (by omega) (by decide) rfl ?_
        refine v_iadd E dX0_passesWithin_23 (nI_add _ _) ?_
        refine v_istore E dX0_passesWithin_24 (by decide) rfl ?_
        refine v_iinc E dX0_passesWithin_26 1 rfl (nI_1 _) (by decide) rfl ?_
        refine v_goto E dX0_passesWithin_29 (tgt := 6) (by decide) ?_
        refine v_lv [1, 0, 2, 3, 4, 5] rfl ?_
        exact ih6 (f + z_P S t c) (c + 1) (by omega) (zsr_s hf (by omega)) (by omega) (by omega)
  refine v_lv [1, 0, 2, 3, 4, 5] rfl ?_
  exact L6_1 ((b + 1 - (g)) + 1) (0) (g) (by omega) (sr_0 _ _ _ (Nat.le_refl _)).symm (by omega) (by omega)

set_option maxHeartbeats 4000000 in
set_option maxRecDepth 100000 in
theorem x_X0_riseBehind (l : Launch) (D : va_G) (cI cZ cQ cJ : ClassId) (a : Nat → Nat) (S : zS) (hok : zOK S) (t c : Nat) (ht : t < 12) (hc : c < 40)  : v_Rdi l yX0_riseBehind wsX0_riseBehind { frames := 0, cells := 0, slots := 0, locals := 0 } D (wTy cI cZ cQ cJ) [.ref (a 4), .int (nI (t)), .int (nI (c))] (wX cI cZ cQ a S) (nI (z_F S t c) - nI (z_P S t c)) := by
  refine v_reader (cc := cX0_riseBehind) (maxL := 3) (ret := (some .int)) (own := RX0) (lv0 := [(0, .ref (a 4)), (1, .int (nI (t))), (2, .int (nI (c)))]) (by decide) rfl rfl (Nat.le_of_ble_eq_true rfl) rfl ?_
  intro p9 e9 s9 m9 as9 bl9 me9 cd9 E hr
  have hinX0 : ∀ w ∈ u_ws RX0 TX0 5, w ∈ wsX0_riseBehind := by decide +kernel
  refine v_aload_n E dX0_riseBehind_0 0 rfl rfl ?_
  refine v_get E dX0_riseBehind_1 4 4 hinX0 rfl rfl (by decide) (by decide +kernel) rfl rfl ?_
  refine v_iload_n E dX0_riseBehind_4 1 rfl rfl ?_
  refine v_aald E dX0_riseBehind_5 13 2 rfl rfl (by omega) (by decide) (zout_at (by omega)) ?_
  refine v_iload_n E dX0_riseBehind_6 2 rfl rfl ?_
  refine v_iald E dX0_riseBehind_7 (50 + (t)) 0 (wX_row_F (by omega)) rfl (by omega) (by decide) rfl ?_
  refine v_aload_n E dX0_riseBehind_8 0 rfl rfl ?_
  refine v_get E dX0_riseBehind_9 4 3 hinX0 rfl rfl (by decide) (by decide +kernel) rfl rfl ?_
  refine v_iload_n E dX0_riseBehind_12 1 rfl rfl ?_
  refine v_aald E dX0_riseBehind_13 12 2 rfl rfl (by omega) (by decide) (zout_at (by omega)) ?_
  refine v_iload_n E dX0_riseBehind_14 2 rfl rfl ?_
  refine v_iald E dX0_riseBehind_15 (38 + (t)) 0 (wX_row_P (by omega)) rfl (by omega) (by decide) rfl ?_
  refine v_isub E dX0_riseBehind_16 (z := (nI (z_F S t c) - nI (z_P S t c))) rfl ?_
  exact v_ret E hr rfl dX0_riseBehind_17

