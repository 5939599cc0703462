/-! ===== the class: its own readers ===== -/
theorem fb_holes : ∀ (m n : Nat) (f : Nat → Nat), (∀ i, i < n → f i < m) → (∀ i j, i < j → j < n → f i ≠ f j) → n ≤ m := by
  intro m
  induction m with
  | zero =>
    intro n f h1 _
    rcases Nat.eq_zero_or_pos n with h | h
    · omega
    · exact absurd (h1 0 h) (Nat.not_lt_zero _)
  | succ m ih =>
    intro n f h1 h2
    by_cases hx : ∃ i, i < n ∧ f i = m
    · obtain ⟨a, ha, hfa⟩ := hx
      have hg := ih (n - 1) (fun i => if i < a then f i else f (i + 1)) (by
        intro i hi
        by_cases q : i < a
        · simp only [if_pos q]
          have b1 := h1 i (by omega)
          have b2 := h2 i a q ha
          omega
        · simp only [if_neg q]
          have b1 := h1 (i + 1) (by omega)
          have b2 := h2 a (i + 1) (by omega) (by omega)
          omega) (by
        intro i j hij hj
        by_cases q : i < a
        · by_cases r : j < a
          · simp only [if_pos q, if_pos r]
            exact h2 i j hij (by omega)
          · simp only [if_pos q, if_neg r]
            exact h2 i (j + 1) (by omega) (by omega)
        · have r : ¬ j < a := by omega
          simp only [if_neg q, if_neg r]
          exact h2 (i + 1) (j + 1) (by omega) (by omega))
      omega
    · have hg := ih n f (fun i hi => by
        have b1 := h1 i hi
        have b2 : f i ≠ m := fun e => hx ⟨i, hi, e⟩
        omega) h2
      omega
theorem zqn_le {S : zS} (h : zOK S) : z_qn S ≤ z_nt S := by
  obtain ⟨-, -, h3, h4, -⟩ := h
  exact fb_holes _ _ (z_Q S) (fun i hi => (h3 _ (h4.1 i hi)).1) (fun i j hij hj e => absurd (h4.2 i j (by omega) hj e) (by omega))
theorem sus_tb {S : zS} {t c : Nat} (h : c ≤ z_B S t) : (msk (sus S t) (z_B S t + 1)).testBit c = sus S t c := by
  rw [msk_tb, decide_eq_true (by omega), Bool.true_and]
theorem zsb_t {p : Nat → Bool} {f lo n : Nat} (h : f = sr (fun i => b1 (p i)) lo n) (hl : lo ≤ n) (hp : p n = true) : f + 1 = sr (fun i => b1 (p i)) lo (n + 1) := by
  rw [sr_s _ hl, hp, h]; rfl
theorem zsb_f {p : Nat → Bool} {f lo n : Nat} (h : f = sr (fun i => b1 (p i)) lo n) (hl : lo ≤ n) (hp : p n = false) : f = sr (fun i => b1 (p i)) lo (n + 1) := by
  rw [sr_s _ hl, hp, h]; rfl
def zmax (a b : Nat) : Nat := if a < b then b else a
theorem n_mmax {a b : Nat} (ha : a < 2 ^ 31) (hb : b < 2 ^ 31) : (if nI a < nI b then nI b else nI a) = nI (zmax a b) := by
  unfold zmax
  by_cases h : a < b
  · rw [if_pos h, if_pos ((nI_ltI ha hb).mpr h)]
  · rw [if_neg h, if_neg (fun q => h ((nI_ltI ha hb).mp q))]
theorem pop_dl {m : Nat} (hm : m < 2 ^ 64) (k : Nat) : pop (m / 2 ^ k) ≤ pop m := by
  unfold pop ct
  have e : ∀ i, i < 64 → b1 ((m / 2 ^ k).testBit i) = (fun j => b1 (m.testBit j)) (k + i) := fun i _ => by
    rw [Nat.testBit_div_two_pow, Nat.add_comm]
  rw [sm_cg 64 e]
  have e2 := sm_split (fun j => b1 (m.testBit j)) k 64
  have e3 : sm (fun j => b1 (m.testBit j)) (k + 64) = sm (fun j => b1 (m.testBit j)) 64 := sm_up (by omega) (fun i hi => by
    have q : m.testBit i = false := Nat.testBit_lt_two_pow (Nat.lt_of_lt_of_le hm (Nat.pow_le_pow_right (by decide) hi))
    rw [q]
    rfl)
  rw [← e3, e2]
  exact Nat.le_add_left _ _
set_option maxHeartbeats 4000000 in
set_option maxRecDepth 100000 in
theorem x_X1_has (l : Launch) (D : va_G) (cI cZ cQ cJ : ClassId) (mm k : Nat) (hm : mm < 2 ^ 62) (hk : k < 62)  : v_Rdi l yX1_has wsX1_has { frames := 0, cells := 0, slots := 0, locals := 0 } D (wTy cI cZ cQ cJ) [.long (lN (mm)), .int (nI (k))] [] (bI (mm.testBit k)) := by
  refine v_reader (cc := cX1_has) (maxL := 3) (ret := (some .boolean)) (own := RX1) (lv0 := [(0, .long (lN (mm))), (2, .int (nI (k)))]) (by decide) rfl rfl (Nat.le_of_ble_eq_true rfl) rfl ?_
  intro p9 e9 s9 m9 as9 bl9 me9 cd9 E hr
  refine v_lload_n E dX1_has_0 0 rfl rfl ?_
  refine v_iload_n E dX1_has_1 1 rfl rfl ?_
  refine v_lshr E dX1_has_2 (z := lN (mm / 2 ^ k)) (l_shr hm (by omega)) ?_
  refine v_lconst E dX1_has_3 (v := lN 1) rfl ?_
  refine v_land E dX1_has_4 (z := lN (mm / 2 ^ k % 2)) (l_and1 (Nat.lt_of_le_of_lt (Nat.div_le_self _ _) (by omega))) ?_
  refine v_lconst E dX1_has_5 (v := lN 0) rfl ?_
  refine v_lcmp E dX1_has_6 (z := nI (mm / 2 ^ k % 2)) l_cmp2 ?_
  refine n_if_eq E dX1_has_7 (Nat.lt_trans (Nat.mod_lt _ (by decide)) (by decide)) (tgt := 14) (by decide) (fun c7 => ?_) (fun c7 => ?_)
  · refine v_iconst E dX1_has_14 (v := nI 0) rfl ?_
    exact v_retz E hr rfl (by show _ = _; rw [tb_f c7]; rfl) dX1_has_15
  · refine v_iconst E dX1_has_10 (v := nI 1) rfl ?_
    refine v_goto E dX1_has_11 (tgt := 15) (by decide) ?_
    exact v_retz E hr rfl (by show _ = _; rw [tb_t c7]; rfl) dX1_has_15

set_option maxHeartbeats 4000000 in
set_option maxRecDepth 100000 in
theorem x_X1_allPartsOf (l : Launch) (D : va_G) (cI cZ cQ cJ : ClassId) (a : Nat → Nat) (S : zS) (hok : zOK S) (t : Nat) (ht : t < 12)  : v_Rdi l yX1_allPartsOf wsX1_allPartsOf { frames := 1, cells := 0, slots := 0, locals := 22 } D (wTy cI cZ cQ cJ) [.ref (a 0), .int (nI (t))] (wX cI cZ cQ a S) (nI (zre S t)) := by
  refine v_reader (cc := cX1_allPartsOf) (maxL := 6) (ret := (some .int)) (own := RX1) (lv0 := [(0, .ref (a 0)), (1, .int (nI (t)))]) (by decide) rfl rfl (Nat.le_of_ble_eq_true rfl) rfl ?_
  intro p9 e9 s9 m9 as9 bl9 me9 cd9 E hr
  have hinX1 : ∀ w ∈ u_ws RX1 TX1 15, w ∈ wsX1_allPartsOf := by decide +kernel
  obtain ⟨⟨k1, k2, k3, k4, k5, k6, k7, k8⟩, k9, k10, k11, k12, k13⟩ := id hok
  refine v_aload_n E dX1_allPartsOf_0 0 rfl rfl ?_
  refine v_get E dX1_allPartsOf_1 0 2 hinX1 rfl rfl (by decide) (by decide +kernel) rfl rfl ?_
  refine v_iload_n E dX1_allPartsOf_4 1 rfl rfl ?_
  refine v_iald E dX1_allPartsOf_5 3 0 rfl rfl (by omega) (by decide) rfl ?_
  refine v_istore_n E dX1_allPartsOf_6 rfl (by decide) rfl ?_
  refine v_iconst E dX1_allPartsOf_7 (v := nI 0) rfl ?_
  refine v_istore_n E dX1_allPartsOf_8 rfl (by decide) rfl ?_
  have L9_1 : ∀ (n9 : Nat) (mm : Nat) (r : Nat), 16 - r < n9 → (mm = rch (z_U S) (z_D S t) r) → (r ≤ 16) → V p9 l e9 (headSpec wsX1_allPartsOf { frames := 1, cells := 0, slots := 0, locals := 22 }).room s9 m9 as9 bl9 me9 cd9 0 0 (MQ bl9 (vp_Si (fun r => r = nI (zre S t))) as9 s9 0 0 (fun _ => False)) (v_ro D s9) 6 9 [(2, .int (nI (mm))), (3, .int (nI (r))), (0, .ref (a 0)), (1, .int (nI (t)))] [] (wX cI cZ cQ a S) := by
    intro n9
    induction n9 with
    | zero => intro mm r hm9 hm hrr; exact absurd hm9 (Nat.not_lt_zero _)
    | succ n9 ih9 =>
      intro mm r hm9 hm hrr
      have hmb : mm < 65536 := by rw [hm]; exact rch_lt (fun j => (k9 j).1) (k9 t).2.2 r
      refine v_iload_n E dX1_allPartsOf_9 1 rfl rfl ?_
      refine v_bipush E dX1_allPartsOf_10 (v := nI 16) rfl ?_
      refine n_icmp_ge E dX1_allPartsOf_12 (by omega) (by omega) (tgt := 74) (by decide) (fun c12 => ?_) (fun c12 => ?_)
      · refine v_iload_n E dX1_allPartsOf_74 0 rfl rfl ?_
        exact v_ret E hr (congrArg nI (hm.trans (by rw [show r = 16 by omega]; rfl))) dX1_allPartsOf_75
      · refine v_iload_n E dX1_allPartsOf_15 0 rfl rfl ?_
        refine v_istore E dX1_allPartsOf_16 (by decide) rfl ?_
        refine v_iconst E dX1_allPartsOf_18 (v := nI 0) rfl ?_
        refine v_istore E dX1_allPartsOf_19 (by decide) rfl ?_
        have L21_2 : ∀ (n21 : Nat) (w : Nat) (k : Nat), 16 - k < n21 → (w = stp (z_U S) mm k) → (k ≤ 16) → V p9 l e9 (headSpec wsX1_allPartsOf { frames := 1, cells := 0, slots := 0, locals := 22 }).room s9 m9 as9 bl9 me9 cd9 0 0 (MQ bl9 (vp_Si (fun r => r = nI (zre S t))) as9 s9 0 0 (fun _ => False)) (v_ro D s9) 6 21 [(4, .int (nI (w))), (5, .int (nI (k))), (2, .int (nI (mm))), (3, .int (nI (r))), (0, .ref (a 0)), (1, .int (nI (t)))] [] (wX cI cZ cQ a S) := by
          intro n21
          induction n21 with
          | zero => intro w k hm21 hw hk; exact absurd hm21 (Nat.not_lt_zero _)
          | succ n21 ih21 =>
            intro w k hm21 hw hk
            have hwb : w < 65536 := by rw [hw]; exact stp_lt (fun j => (k9 j).1) hmb k
            refine v_iload E dX1_allPartsOf_21 1 rfl ?_
            refine v_bipush E dX1_allPartsOf_23 (v := nI 16) rfl ?_
            refine n_icmp_ge E dX1_allPartsOf_25 (by omega) (by omega) (tgt := 56) (by decide) (fun c25 => ?_) (fun c25 => ?_)
            · refine v_iload E dX1_allPartsOf_56 0 rfl ?_
              refine v_iload_n E dX1_allPartsOf_58 2 rfl rfl ?_
              refine n_icmp_ne E dX1_allPartsOf_59 (by omega) (by omega) (tgt := 65) (by decide) (fun c59 => ?_) (fun c59 => ?_)
              · refine v_iload E dX1_allPartsOf_65 0 rfl ?_
                refine v_istore_n E dX1_allPartsOf_67 rfl (by decide) rfl ?_
                refine v_iinc E dX1_allPartsOf_68 3 rfl (nI_1 _) (by decide) rfl ?_
                refine v_goto E dX1_allPartsOf_71 (tgt := 9) (by decide) ?_
                refine v_lv [1, 0, 4, 5] rfl ?_
                exact ih9 (w) (r + 1) (by omega) (by rw [hw, hm, show k = 16 by omega]; rfl) (by omega)
              · refine v_goto E dX1_allPartsOf_62 (tgt := 74) (by decide) ?_
                refine v_iload_n E dX1_allPartsOf_74 2 rfl rfl ?_
                exact v_ret E hr (congrArg nI (zre_of hm (by have e := hw; rw [show k = 16 by omega] at e; rw [← e]; exact c59) hrr)) dX1_allPartsOf_75
            · refine v_iload_n E dX1_allPartsOf_28 2 rfl rfl ?_
              refine v_i2l E dX1_allPartsOf_29 (nI_l (by omega)) ?_
              refine v_iload E dX1_allPartsOf_30 1 rfl ?_
              refine v_cSi' E dX1_allPartsOf_32 (x_X1_has l D cI cZ cQ cJ (mm) (k) (by omega) (by omega)) (va_cwS 2 E.2.2.2.1 gX1_allPartsOf_X1_has rfl rfl rfl (by decide +kernel) ⟨Nat.le_of_ble_eq_true rfl, Nat.le_of_ble_eq_true rfl⟩) (fun _ _ => v_nil _) rfl rfl ⟨Nat.le_of_ble_eq_true rfl, Nat.le_of_ble_eq_true rfl⟩ (Nat.le_of_ble_eq_true rfl) ?_
              refine b_if_eq E dX1_allPartsOf_35 (tgt := 50) (by decide) (fun c35 => ?_) (fun c35 => ?_)
              · refine v_iinc E dX1_allPartsOf_50 1 rfl (nI_1 _) (by decide) rfl ?_
                refine v_goto E dX1_allPartsOf_53 (tgt := 21) (by decide) ?_
                refine v_lv [1, 0, 2, 3, 4, 5] rfl ?_
                exact ih21 (w) (k + 1) (by omega) (stp_f hw c35) (by omega)
              · refine v_iload E dX1_allPartsOf_38 0 rfl ?_
                refine v_aload_n E dX1_allPartsOf_40 4 rfl rfl ?_
                refine v_get E dX1_allPartsOf_41 0 0 hinX1 rfl rfl (by decide) (by decide +kernel) rfl rfl ?_
                refine v_iload E dX1_allPartsOf_44 1 rfl ?_
                refine v_iald E dX1_allPartsOf_46 1 0 rfl rfl (by omega) (by decide) rfl ?_
                refine v_ior E dX1_allPartsOf_47 (nx_or _ _) ?_
                refine v_istore E dX1_allPartsOf_48 (by decide) rfl ?_
                refine v_iinc E dX1_allPartsOf_50 1 rfl (nI_1 _) (by decide) rfl ?_
                refine v_goto E dX1_allPartsOf_53 (tgt := 21) (by decide) ?_
                refine v_lv [1, 0, 2, 3, 4, 5] rfl ?_
                exact ih21 ((w) ||| (z_U S (k))) (k + 1) (by omega) (stp_t hw c35) (by omega)
        refine v_lv [1, 0, 2, 3, 4, 5] rfl ?_
        exact L21_2 ((16 - (0)) + 1) (mm) (0) (by omega) rfl (by omega)
  refine v_lv [1, 0, 2, 3] rfl ?_
  exact L9_1 ((16 - (0)) + 1) (z_D S t) (0) (by omega) rfl (by omega)

set_option maxHeartbeats 4000000 in
set_option maxRecDepth 100000 in
theorem x_X1_isUnsteady (l : Launch) (D : va_G) (cI cZ cQ cJ : ClassId) (a : Nat → Nat) (S : zS) (hok : zOK S) (t : Nat) (ht : t < 12)  : v_Rdi l yX1_isUnsteady wsX1_isUnsteady { frames := 1, cells := 0, slots := 0, locals := 22 } D (wTy cI cZ cQ cJ) [.ref (a 0), .int (nI (t))] (wX cI cZ cQ a S) (bI (decide (z_li S ≤ zmix S t))) := by
  refine v_reader (cc := cX1_isUnsteady) (maxL := 4) (ret := (some .boolean)) (own := RX1) (lv0 := [(0, .ref (a 0)), (1, .int (nI (t)))]) (by decide) rfl rfl (Nat.le_of_ble_eq_true rfl) rfl ?_
  intro p9 e9 s9 m9 as9 bl9 me9 cd9 E hr
  have hinX1 : ∀ w ∈ u_ws RX1 TX1 15, w ∈ wsX1_isUnsteady := by decide +kernel
  obtain ⟨⟨k1, k2, k3, k4, k5, k6, k7, k8⟩, k9, k10, k11, k12, k13⟩ := id hok
  refine v_iconst E dX1_isUnsteady_0 (v := nI 0) rfl ?_
  refine v_istore_n E dX1_isUnsteady_1 rfl (by decide) rfl ?_
  refine v_iconst E dX1_isUnsteady_2 (v := nI 0) rfl ?_
  refine v_aload_n E dX1_isUnsteady_3 1 rfl rfl ?_
  refine v_get E dX1_isUnsteady_4 0 9 hinX1 rfl rfl (by decide) (by decide +kernel) rfl rfl ?_
  refine v_aload_n E dX1_isUnsteady_7 1 rfl rfl ?_
  refine v_get E dX1_isUnsteady_8 0 12 hinX1 rfl rfl (by decide) (by decide +kernel) rfl rfl ?_
  refine v_isub E dX1_isUnsteady_11 (z := (nI (z_nc S) - nI (z_wi S))) rfl ?_
  refine v_mmax E dX1_isUnsteady_12 (z := nI (z_nc S - z_wi S)) (by decide +kernel) (by decide +kernel) (by decide +kernel) (by decide +kernel) (Nat.le_of_ble_eq_true rfl) (Nat.le_of_ble_eq_true rfl) ⟨Nat.le_of_ble_eq_true rfl, Nat.le_of_ble_eq_true rfl⟩ (mx_sub (by omega) (by omega)) ?_
  refine v_istore_n E dX1_isUnsteady_15 rfl (by decide) rfl ?_
  have L16_1 : ∀ (n16 : Nat) (f : Nat) (c : Nat), z_nc S - c < n16 → (f = sr (fun i => b1 (zmx S t i)) (z_nc S - z_wi S) c) → (z_nc S - z_wi S ≤ c) → (c ≤ z_nc S) → (f ≤ c) → V p9 l e9 (headSpec wsX1_isUnsteady { frames := 1, cells := 0, slots := 0, locals := 22 }).room s9 m9 as9 bl9 me9 cd9 0 0 (MQ bl9 (vp_Si (fun r => r = bI (decide (z_li S ≤ zmix S t)))) as9 s9 0 0 (fun _ => False)) (v_ro D s9) 4 16 [(2, .int (nI (f))), (3, .int (nI (c))), (0, .ref (a 0)), (1, .int (nI (t)))] [] (wX cI cZ cQ a S) := by
    intro n16
    induction n16 with
    | zero => intro f c hm16 hf h1 h2 hfb; exact absurd hm16 (Nat.not_lt_zero _)
    | succ n16 ih16 =>
      intro f c hm16 hf h1 h2 hfb
      have hv := vd_le (z_P S t c) (z_F S t c)
      refine v_iload_n E dX1_isUnsteady_16 1 rfl rfl ?_
      refine v_aload_n E dX1_isUnsteady_17 2 rfl rfl ?_
      refine v_get E dX1_isUnsteady_18 0 9 hinX1 rfl rfl (by decide) (by decide +kernel) rfl rfl ?_
      refine n_icmp_ge E dX1_isUnsteady_21 (by omega) (by omega) (tgt := 46) (by decide) (fun c21 => ?_) (fun c21 => ?_)
      · have e : c = z_nc S := (by omega)
        subst e
        have e2 : f = zmix S t := hf
        refine v_iload_n E dX1_isUnsteady_46 0 rfl rfl ?_
        refine v_aload_n E dX1_isUnsteady_47 2 rfl rfl ?_
        refine v_get E dX1_isUnsteady_48 0 11 hinX1 rfl rfl (by decide) (by decide +kernel) rfl rfl ?_
        refine n_icmp_lt E dX1_isUnsteady_51 (by omega) (by omega) (tgt := 58) (by decide) (fun c51 => ?_) (fun c51 => ?_)
        · refine v_iconst E dX1_isUnsteady_58 (v := nI 0) rfl ?_
          exact v_retz E hr rfl (by have e3 : ¬ z_li S ≤ zmix S t := (by rw [← e2]; omega); show _ = bI (decide _); rw [decide_eq_false e3]; rfl) dX1_isUnsteady_59
        · refine v_iconst E dX1_isUnsteady_54 (v := nI 1) rfl ?_
          refine v_goto E dX1_isUnsteady_55 (tgt := 59) (by decide) ?_
          exact v_retz E hr rfl (by have e3 : z_li S ≤ zmix S t := (by rw [← e2]; omega); show _ = bI (decide _); rw [decide_eq_true e3]; rfl) dX1_isUnsteady_59
      · refine v_aload_n E dX1_isUnsteady_24 2 rfl rfl ?_
        refine v_get E dX1_isUnsteady_25 0 3 hinX1 rfl rfl (by decide) (by decide +kernel) rfl rfl ?_
        refine v_iload_n E dX1_isUnsteady_28 3 rfl rfl ?_
        refine v_iload_n E dX1_isUnsteady_29 1 rfl rfl ?_
        refine v_cVi' E dX1_isUnsteady_30 (x_X0_verdictAt l D cI cZ cQ cJ a S hok (t) (c) (by omega) (by omega)) (cwV 2 E.2.2.2.1 gX1_isUnsteady_X0_verdictAt rfl rfl rfl (by decide +kernel) ⟨Nat.le_of_ble_eq_true rfl, Nat.le_of_ble_eq_true rfl⟩) 4 rfl rfl rfl (fun _ h => h) rfl rfl ⟨Nat.le_of_ble_eq_true rfl, Nat.le_of_ble_eq_true rfl⟩ (Nat.le_of_ble_eq_true rfl) ?_
        refine v_iconst E dX1_isUnsteady_33 (v := nI 3) rfl ?_
        refine n_icmp_ne E dX1_isUnsteady_34 (by omega) (by omega) (tgt := 40) (by decide) (fun c34 => ?_) (fun c34 => ?_)
        · refine v_iinc E dX1_isUnsteady_40 1 rfl (nI_1 _) (by decide) rfl ?_
          refine v_goto E dX1_isUnsteady_43 (tgt := 16) (by decide) ?_
          refine v_lv [1, 0, 2, 3] rfl ?_
          exact ih16 (f) (c + 1) (by omega) (zsb_f hf (by omega) (decide_eq_false c34)) (by omega) (by omega) (by omega)
        · refine v_iinc E dX1_isUnsteady_37 0 rfl (nI_1 _) (by decide) rfl ?_
          refine v_iinc E dX1_isUnsteady_40 1 rfl (nI_1 _) (by decide) rfl ?_
          refine v_goto E dX1_isUnsteady_43 (tgt := 16) (by decide) ?_
          refine v_lv [1, 0, 2, 3] rfl ?_
          exact ih16 (f + 1) (c + 1) (by omega) (zsb_t hf (by omega) (decide_eq_true c34)) (by omega) (by omega) (by omega)
  refine v_lv [1, 0, 2, 3] rfl ?_
  exact L16_1 ((z_nc S - (z_nc S - z_wi S)) + 1) (0) (z_nc S - z_wi S) (by omega) (sr_0 _ _ _ (Nat.le_refl _)).symm (by omega) (by omega) (by omega)

set_option maxHeartbeats 4000000 in
set_option maxRecDepth 100000 in
theorem x_X1_suspectsOf (l : Launch) (D : va_G) (cI cZ cQ cJ : ClassId) (a : Nat → Nat) (S : zS) (hok : zOK S) (t : Nat) (ht : t < 12) (hT : z_T S t = true)  : v_Rdl l yX1_suspectsOf wsX1_suspectsOf { frames := 2, cells := 0, slots := 0, locals := 47 } D (wTy cI cZ cQ cJ) [.ref (a 0), .int (nI (t))] (wX cI cZ cQ a S) (lN (msk (sus S t) (z_B S t + 1))) := by
  refine v_reader (cc := cX1_suspectsOf) (maxL := 6) (ret := (some .long)) (own := RX1) (lv0 := [(0, .ref (a 0)), (1, .int (nI (t)))]) (by decide) rfl rfl (Nat.le_of_ble_eq_true rfl) rfl ?_
  intro p9 e9 s9 m9 as9 bl9 me9 cd9 E hr
  have hinX1 : ∀ w ∈ u_ws RX1 TX1 15, w ∈ wsX1_suspectsOf := by decide +kernel
  obtain ⟨⟨k1, k2, k3, k4, k5, k6, k7, k8⟩, k9, k10, k11, k12, k13⟩ := id hok
  obtain ⟨q1, q2, q3⟩ := k10 t hT
  refine v_aload_n E dX1_suspectsOf_0 0 rfl rfl ?_
  refine v_iload_n E dX1_suspectsOf_1 1 rfl rfl ?_
  refine v_cVi' E dX1_suspectsOf_2 (x_X1_allPartsOf l D cI cZ cQ cJ a S hok (t) (by omega)) (cwV 1 E.2.2.2.1 gX1_suspectsOf_X1_allPartsOf rfl rfl rfl (by decide +kernel) ⟨Nat.le_of_ble_eq_true rfl, Nat.le_of_ble_eq_true rfl⟩) 0 rfl rfl rfl (fun _ h => h) rfl rfl ⟨Nat.le_of_ble_eq_true rfl, Nat.le_of_ble_eq_true rfl⟩ (Nat.le_of_ble_eq_true rfl) ?_
  refine v_istore_n E dX1_suspectsOf_5 rfl (by decide) rfl ?_
  refine v_lconst E dX1_suspectsOf_6 (v := lN 0) rfl ?_
  refine v_lstore_n E dX1_suspectsOf_7 rfl (by decide) rfl ?_
  refine v_aload_n E dX1_suspectsOf_8 2 rfl rfl ?_
  refine v_get E dX1_suspectsOf_9 0 5 hinX1 rfl rfl (by decide) (by decide +kernel) rfl rfl ?_
  refine v_iload_n E dX1_suspectsOf_12 3 rfl rfl ?_
  refine v_iald E dX1_suspectsOf_13 6 0 rfl rfl (by omega) (by decide) rfl ?_
  refine v_iconst E dX1_suspectsOf_14 (v := nI 1) rfl ?_
  refine v_iadd E dX1_suspectsOf_15 (nI_add _ _) ?_
  refine v_istore E dX1_suspectsOf_16 (by decide) rfl ?_
  have L18_1 : ∀ (n18 : Nat) (mm : Nat) (c : Nat), z_B S t + 1 - c < n18 → (mm = msk (sus S t) c) → (z_G S t + 1 ≤ c) → (c ≤ z_B S t + 1) → V p9 l e9 (headSpec wsX1_suspectsOf { frames := 2, cells := 0, slots := 0, locals := 47 }).room s9 m9 as9 bl9 me9 cd9 0 0 (MQ bl9 (vp_Sl (fun r => r = lN (msk (sus S t) (z_B S t + 1)))) as9 s9 0 0 (fun _ => False)) (v_ro D s9) 6 18 [(3, .long (lN (mm))), (5, .int (nI (c))), (2, .int (nI (zre S (t)))), (0, .ref (a 0)), (1, .int (nI (t)))] [] (wX cI cZ cQ a S) := by
    intro n18
    induction n18 with
    | zero => intro mm c hm18 hm h1 h2; exact absurd hm18 (Nat.not_lt_zero _)
    | succ n18 ih18 =>
      intro mm c hm18 hm h1 h2
      refine v_iload E dX1_suspectsOf_18 1 rfl ?_
      refine v_aload_n E dX1_suspectsOf_20 3 rfl rfl ?_
      refine v_get E dX1_suspectsOf_21 0 6 hinX1 rfl rfl (by decide) (by decide +kernel) rfl rfl ?_
      refine v_iload_n E dX1_suspectsOf_24 4 rfl rfl ?_
      refine v_iald E dX1_suspectsOf_25 7 0 rfl rfl (by omega) (by decide) rfl ?_
      refine n_icmp_gt E dX1_suspectsOf_26 (by omega) (by omega) (tgt := 54) (by decide) (fun c26 => ?_) (fun c26 => ?_)
      · refine v_lload_n E dX1_suspectsOf_54 0 rfl rfl ?_
        exact v_retl E hr (congrArg lN (hm.trans (by rw [show c = z_B S t + 1 by omega]))) dX1_suspectsOf_55
      · refine v_aload_n E dX1_suspectsOf_29 3 rfl rfl ?_
        refine v_get E dX1_suspectsOf_30 0 1 hinX1 rfl rfl (by decide) (by decide +kernel) rfl rfl ?_
        refine v_iload E dX1_suspectsOf_33 1 rfl ?_
        refine v_iald E dX1_suspectsOf_35 2 0 rfl rfl (by omega) (by decide) rfl ?_
        refine v_iload_n E dX1_suspectsOf_36 2 rfl rfl ?_
        refine v_iand E dX1_suspectsOf_37 (nx_and _ _) ?_
        refine n_if_eq E dX1_suspectsOf_38 (Nat.lt_of_le_of_lt Nat.and_le_left (by have := (k9 c).2.1; omega)) (tgt := 48) (by decide) (fun c38 => ?_) (fun c38 => ?_)
        · refine v_iinc E dX1_suspectsOf_48 1 rfl (nI_1 _) (by decide) rfl ?_
          refine v_goto E dX1_suspectsOf_51 (tgt := 18) (by decide) ?_
          refine v_lv [1, 0, 2, 3, 4] rfl ?_
          exact ih18 (mm) (c + 1) (by omega) (msk_f hm (decide_eq_false (fun q => q.2.2 c38))) (by omega) (by omega)
        · refine v_lload_n E dX1_suspectsOf_41 0 rfl rfl ?_
          refine v_lconst E dX1_suspectsOf_42 (v := lN 1) rfl ?_
          refine v_iload E dX1_suspectsOf_43 1 rfl ?_
          refine v_lshl E dX1_suspectsOf_45 (l_shl1 (by omega)) ?_
          refine v_lor E dX1_suspectsOf_46 (lx_or _ _) ?_
          refine v_lstore_n E dX1_suspectsOf_47 rfl (by decide) rfl ?_
          refine v_iinc E dX1_suspectsOf_48 1 rfl (nI_1 _) (by decide) rfl ?_
          refine v_goto E dX1_suspectsOf_51 (tgt := 18) (by decide) ?_
          refine v_lv [1, 0, 2, 3, 4] rfl ?_
          exact ih18 ((mm) ||| (2 ^ (c))) (c + 1) (by omega) (msk_t hm (decide_eq_true ⟨by omega, by omega, Nat.ne_of_gt c38⟩)) (by omega) (by omega)
  refine v_lv [1, 0, 2, 3, 4] rfl ?_
  exact L18_1 ((z_B S t + 1 - (z_G S t + 1)) + 1) (0) (z_G S t + 1) (by omega) (msk_z _ (fun i hi => sus_lo (by omega))) (by omega) (by omega)

set_option maxHeartbeats 4000000 in
set_option maxRecDepth 100000 in
theorem x_X1_candidatesOf (l : Launch) (D : va_G) (cI cZ cQ cJ : ClassId) (a : Nat → Nat) (S : zS) (hok : zOK S) (t : Nat) (ht : t < 12) (hT : z_T S t = true)  : v_Rdl l yX1_candidatesOf wsX1_candidatesOf { frames := 3, cells := 0, slots := 0, locals := 72 } D (wTy cI cZ cQ cJ) [.ref (a 0), .int (nI (t))] (wX cI cZ cQ a S) (lN (msk (cnd S t) (z_B S t + 1))) := by
  refine v_reader (cc := cX1_candidatesOf) (maxL := 10) (ret := (some .long)) (own := RX1) (lv0 := [(0, .ref (a 0)), (1, .int (nI (t)))]) (by decide) rfl rfl (Nat.le_of_ble_eq_true rfl) rfl ?_
  intro p9 e9 s9 m9 as9 bl9 me9 cd9 E hr
  have hinX1 : ∀ w ∈ u_ws RX1 TX1 15, w ∈ wsX1_candidatesOf := by decide +kernel
  obtain ⟨⟨k1, k2, k3, k4, k5, k6, k7, k8⟩, k9, k10, k11, k12, k13⟩ := id hok
  obtain ⟨q1, q2, q3⟩ := k10 t hT
  have hz := fun q => zag_le hok (t := t) q (by omega)
  refine v_aload_n E dX1_candidatesOf_0 0 rfl rfl ?_
  refine v_iload_n E dX1_candidatesOf_1 1 rfl rfl ?_
  refine v_cVl' E dX1_candidatesOf_2 (x_X1_suspectsOf l D cI cZ cQ cJ a S hok (t) (by omega) hT) (cwV 1 E.2.2.2.1 gX1_candidatesOf_X1_suspectsOf rfl rfl rfl (by decide +kernel) ⟨Nat.le_of_ble_eq_true rfl, Nat.le_of_ble_eq_true rfl⟩) 0 rfl rfl rfl (fun _ h => h) rfl rfl ⟨Nat.le_of_ble_eq_true rfl, Nat.le_of_ble_eq_true rfl⟩ (Nat.le_of_ble_eq_true rfl) ?_
  refine v_lstore_n E dX1_candidatesOf_5 rfl (by decide) rfl ?_
  refine v_aload_n E dX1_candidatesOf_6 1 rfl rfl ?_
  refine v_get E dX1_candidatesOf_7 0 5 hinX1 rfl rfl (by decide) (by decide +kernel) rfl rfl ?_
  refine v_iload_n E dX1_candidatesOf_10 2 rfl rfl ?_
  refine v_iald E dX1_candidatesOf_11 6 0 rfl rfl (by omega) (by decide) rfl ?_
  refine v_istore E dX1_candidatesOf_12 (by decide) rfl ?_
  refine v_aload_n E dX1_candidatesOf_14 2 rfl rfl ?_
  refine v_get E dX1_candidatesOf_15 0 6 hinX1 rfl rfl (by decide) (by decide +kernel) rfl rfl ?_
  refine v_iload_n E dX1_candidatesOf_18 3 rfl rfl ?_
  refine v_iald E dX1_candidatesOf_19 7 0 rfl rfl (by omega) (by decide) rfl ?_
  refine v_istore E dX1_candidatesOf_20 (by decide) rfl ?_
  refine v_lconst E dX1_candidatesOf_22 (v := lN 0) rfl ?_
  refine v_lstore E dX1_candidatesOf_23 (by decide) rfl ?_
  refine v_aload_n E dX1_candidatesOf_25 4 rfl rfl ?_
  refine v_get E dX1_candidatesOf_26 0 3 hinX1 rfl rfl (by decide) (by decide +kernel) rfl rfl ?_
  refine v_iload_n E dX1_candidatesOf_29 5 rfl rfl ?_
  refine v_iload E dX1_candidatesOf_30 2 rfl ?_
  refine v_iload E dX1_candidatesOf_32 1 rfl ?_
  refine v_cVi' E dX1_candidatesOf_34 (x_X0_passesWithin l D cI cZ cQ cJ a S hok (t) (z_G S (t)) (z_B S (t)) (by omega) (by omega) (by omega)) (cwV 3 E.2.2.2.1 gX1_candidatesOf_X0_passesWithin rfl rfl rfl (by decide +kernel) ⟨Nat.le_of_ble_eq_true rfl, Nat.le_of_ble_eq_true rfl⟩) 4 rfl rfl rfl (fun _ h => h) rfl rfl ⟨Nat.le_of_ble_eq_true rfl, Nat.le_of_ble_eq_true rfl⟩ (Nat.le_of_ble_eq_true rfl) ?_
  refine v_istore E dX1_candidatesOf_37 (by decide) rfl ?_
  refine v_iload E dX1_candidatesOf_39 3 rfl ?_
  refine v_iconst E dX1_candidatesOf_41 (v := nI 1) rfl ?_
  refine v_iadd E dX1_candidatesOf_42 (nI_add _ _) ?_
  refine v_istore E dX1_candidatesOf_43 (by decide) rfl ?_
  have L45_1 : ∀ (n45 : Nat) (mm : Nat) (x : Nat) (c : Nat), z_B S t + 1 - c < n45 → (mm = msk (cnd S t) c) → (x = zag S t (c - 1)) → (z_G S t + 1 ≤ c) → (c ≤ z_B S t + 1) → V p9 l e9 (headSpec wsX1_candidatesOf { frames := 3, cells := 0, slots := 0, locals := 72 }).room s9 m9 as9 bl9 me9 cd9 0 0 (MQ bl9 (vp_Sl (fun r => r = lN (msk (cnd S t) (z_B S t + 1)))) as9 s9 0 0 (fun _ => False)) (v_ro D s9) 10 45 [(6, .long (lN (mm))), (8, .int (nI (x))), (9, .int (nI (c))), (5, .int (nI (z_B S (t)))), (4, .int (nI (z_G S (t)))), (2, .long (lN (msk (sus S (t)) (z_B S (t) + 1)))), (0, .ref (a 0)), (1, .int (nI (t)))] [] (wX cI cZ cQ a S) := by
    intro n45
    induction n45 with
    | zero => intro mm x c hm45 hm hx h1 h2; exact absurd hm45 (Nat.not_lt_zero _)
    | succ n45 ih45 =>
      intro mm x c hm45 hm hx h1 h2
      refine v_iload E dX1_candidatesOf_45 2 rfl ?_
      refine v_iload E dX1_candidatesOf_47 3 rfl ?_
      refine n_icmp_gt E dX1_candidatesOf_49 (by omega) (by omega) (tgt := 102) (by decide) (fun c49 => ?_) (fun c49 => ?_)
      · refine v_lload E dX1_candidatesOf_102 0 rfl ?_
        exact v_retl E hr (congrArg lN (hm.trans (by rw [show c = z_B S t + 1 by omega]))) dX1_candidatesOf_104
      · have hsu := sus_tb (S := S) (t := t) (c := c) (by omega)
        have hzc := hz c
        refine v_iload E dX1_candidatesOf_52 1 rfl ?_
        refine v_aload_n E dX1_candidatesOf_54 6 rfl rfl ?_
        refine v_get E dX1_candidatesOf_55 0 3 hinX1 rfl rfl (by decide) (by decide +kernel) rfl rfl ?_
        refine v_iload_n E dX1_candidatesOf_58 7 rfl rfl ?_
        refine v_iload E dX1_candidatesOf_59 2 rfl ?_
        refine v_iconst E dX1_candidatesOf_61 (v := nI 1) rfl ?_
        refine v_isub E dX1_candidatesOf_62 (pk_sub (by omega)) ?_
        refine v_cVi' E dX1_candidatesOf_63 (x_X0_riseBehind l D cI cZ cQ cJ a S hok (t) (c - 1) (by omega) (by omega)) (cwV 2 E.2.2.2.1 gX1_candidatesOf_X0_riseBehind rfl rfl rfl (by decide +kernel) ⟨Nat.le_of_ble_eq_true rfl, Nat.le_of_ble_eq_true rfl⟩) 4 rfl rfl rfl (fun _ h => h) rfl rfl ⟨Nat.le_of_ble_eq_true rfl, Nat.le_of_ble_eq_true rfl⟩ (Nat.le_of_ble_eq_true rfl) ?_
        refine v_iadd E dX1_candidatesOf_66 (z := nI (zag S t c)) (by rw [hx]; have := zag_i (S := S) (t := t) (q := c - 1) (by omega) (by omega); rw [show c - 1 + 1 = c by omega] at this; exact this) ?_
        refine v_istore E dX1_candidatesOf_67 (by decide) rfl ?_
        refine v_lload_n E dX1_candidatesOf_69 5 rfl rfl ?_
        refine v_iload E dX1_candidatesOf_70 2 rfl ?_
        refine v_cSi' E dX1_candidatesOf_72 (x_X1_has l D cI cZ cQ cJ (msk (sus S (t)) (z_B S (t) + 1)) (c) (Nat.lt_trans (msk_lt62 _ (by omega)) (by decide)) (by omega)) (va_cwS 2 E.2.2.2.1 gX1_candidatesOf_X1_has rfl rfl rfl (by decide +kernel) ⟨Nat.le_of_ble_eq_true rfl, Nat.le_of_ble_eq_true rfl⟩) (fun _ _ => v_nil _) rfl rfl ⟨Nat.le_of_ble_eq_true rfl, Nat.le_of_ble_eq_true rfl⟩ (Nat.le_of_ble_eq_true rfl) ?_
        refine b_if_eq E dX1_candidatesOf_75 (tgt := 96) (by decide) (fun c75 => ?_) (fun c75 => ?_)
        · refine v_iinc E dX1_candidatesOf_96 2 rfl (nI_1 _) (by decide) rfl ?_
          refine v_goto E dX1_candidatesOf_99 (tgt := 45) (by decide) ?_
          refine v_lv [2, 1, 0, 3, 4, 5, 6, 7] rfl ?_
          exact ih45 (mm) (zag S t c) (c + 1) (by omega) (msk_f hm (by unfold cnd; rw [← hsu, c75]; rfl)) rfl (by omega) (by omega)
        · refine v_iload E dX1_candidatesOf_78 0 rfl ?_
          refine v_aload_n E dX1_candidatesOf_80 6 rfl rfl ?_
          refine v_get E dX1_candidatesOf_81 0 13 hinX1 rfl rfl (by decide) (by decide +kernel) rfl rfl ?_
          refine n_icmp_gt E dX1_candidatesOf_84 (by omega) (by omega) (tgt := 96) (by decide) (fun c84 => ?_) (fun c84 => ?_)
          · refine v_iinc E dX1_candidatesOf_96 2 rfl (nI_1 _) (by decide) rfl ?_
            refine v_goto E dX1_candidatesOf_99 (tgt := 45) (by decide) ?_
            refine v_lv [2, 1, 0, 3, 4, 5, 6, 7] rfl ?_
            exact ih45 (mm) (zag S t c) (c + 1) (by omega) (msk_f hm (by unfold cnd; rw [decide_eq_false (Nat.not_le.mpr c84), Bool.and_false])) rfl (by omega) (by omega)
          · refine v_lload E dX1_candidatesOf_87 1 rfl ?_
            refine v_lconst E dX1_candidatesOf_89 (v := lN 1) rfl ?_
            refine v_iload E dX1_candidatesOf_90 2 rfl ?_
            refine v_lshl E dX1_candidatesOf_92 (l_shl1 (by omega)) ?_
            refine v_lor E dX1_candidatesOf_93 (lx_or _ _) ?_
            refine v_lstore E dX1_candidatesOf_94 (by decide) rfl ?_
            refine v_iinc E dX1_candidatesOf_96 2 rfl (nI_1 _) (by decide) rfl ?_
            refine v_goto E dX1_candidatesOf_99 (tgt := 45) (by decide) ?_
            refine v_lv [1, 2, 0, 3, 4, 5, 6, 7] rfl ?_
            exact ih45 ((mm) ||| (2 ^ (c))) (zag S t c) (c + 1) (by omega) (msk_t hm (by unfold cnd; rw [← hsu, c75, decide_eq_true c84]; rfl)) rfl (by omega) (by omega)
  refine v_lv [2, 1, 0, 3, 4, 5, 6, 7] rfl ?_
  exact L45_1 ((z_B S t + 1 - (z_G S t + 1)) + 1) (0) (sr (z_P S t) (z_G S t) (z_B S t + 1)) (z_G S t + 1) (by omega) (msk_z _ (fun i hi => cnd_lo (by omega))) (by rw [Nat.add_sub_cancel]; exact (zag_0 S t).symm) (by omega) (by omega)

set_option maxHeartbeats 4000000 in
set_option maxRecDepth 100000 in
theorem x_X1_likeliestOf (l : Launch) (D : va_G) (cI cZ cQ cJ : ClassId) (a : Nat → Nat) (S : zS) (hok : zOK S) (t : Nat) (ht : t < 12) (hT : z_T S t = true)  : v_Rdi l yX1_likeliestOf wsX1_likeliestOf { frames := 3, cells := 0, slots := 0, locals := 72 } D (wTy cI cZ cQ cJ) [.ref (a 0), .int (nI (t))] (wX cI cZ cQ a S) (oI (zlk S t (z_B S t + 1))) := by
  refine v_reader (cc := cX1_likeliestOf) (maxL := 10) (ret := (some .int)) (own := RX1) (lv0 := [(0, .ref (a 0)), (1, .int (nI (t)))]) (by decide) rfl rfl (Nat.le_of_ble_eq_true rfl) rfl ?_
  intro p9 e9 s9 m9 as9 bl9 me9 cd9 E hr
  have hinX1 : ∀ w ∈ u_ws RX1 TX1 15, w ∈ wsX1_likeliestOf := by decide +kernel
  obtain ⟨⟨k1, k2, k3, k4, k5, k6, k7, k8⟩, k9, k10, k11, k12, k13⟩ := id hok
  obtain ⟨q1, q2, q3⟩ := k10 t hT
  have hz := fun q => zag_le hok (t := t) q (by omega)
  refine v_aload_n E dX1_likeliestOf_0 0 rfl rfl ?_
  refine v_iload_n E dX1_likeliestOf_1 1 rfl rfl ?_
  refine v_cVl' E dX1_likeliestOf_2 (x_X1_suspectsOf l D cI cZ cQ cJ a S hok (t) (by omega) hT) (cwV 1 E.2.2.2.1 gX1_likeliestOf_X1_suspectsOf rfl rfl rfl (by decide +kernel) ⟨Nat.le_of_ble_eq_true rfl, Nat.le_of_ble_eq_true rfl⟩) 0 rfl rfl rfl (fun _ h => h) rfl rfl ⟨Nat.le_of_ble_eq_true rfl, Nat.le_of_ble_eq_true rfl⟩ (Nat.le_of_ble_eq_true rfl) ?_
  refine v_lstore_n E dX1_likeliestOf_5 rfl (by decide) rfl ?_
  refine v_aload_n E dX1_likeliestOf_6 1 rfl rfl ?_
  refine v_get E dX1_likeliestOf_7 0 5 hinX1 rfl rfl (by decide) (by decide +kernel) rfl rfl ?_
  refine v_iload_n E dX1_likeliestOf_10 2 rfl rfl ?_
  refine v_iald E dX1_likeliestOf_11 6 0 rfl rfl (by omega) (by decide) rfl ?_
  refine v_istore E dX1_likeliestOf_12 (by decide) rfl ?_
  refine v_aload_n E dX1_likeliestOf_14 2 rfl rfl ?_
  refine v_get E dX1_likeliestOf_15 0 6 hinX1 rfl rfl (by decide) (by decide +kernel) rfl rfl ?_
  refine v_iload_n E dX1_likeliestOf_18 3 rfl rfl ?_
  refine v_iald E dX1_likeliestOf_19 7 0 rfl rfl (by omega) (by decide) rfl ?_
  refine v_istore E dX1_likeliestOf_20 (by decide) rfl ?_
  refine v_iconst E dX1_likeliestOf_22 (v := (-1)) rfl ?_
  refine v_istore E dX1_likeliestOf_23 (by decide) rfl ?_
  refine v_iconst E dX1_likeliestOf_25 (v := nI 0) rfl ?_
  refine v_istore E dX1_likeliestOf_26 (by decide) rfl ?_
  refine v_aload_n E dX1_likeliestOf_28 5 rfl rfl ?_
  refine v_get E dX1_likeliestOf_29 0 3 hinX1 rfl rfl (by decide) (by decide +kernel) rfl rfl ?_
  refine v_iload_n E dX1_likeliestOf_32 6 rfl rfl ?_
  refine v_iload E dX1_likeliestOf_33 3 rfl ?_
  refine v_iload E dX1_likeliestOf_35 2 rfl ?_
  refine v_cVi' E dX1_likeliestOf_37 (x_X0_passesWithin l D cI cZ cQ cJ a S hok (t) (z_G S (t)) (z_B S (t)) (by omega) (by omega) (by omega)) (cwV 3 E.2.2.2.1 gX1_likeliestOf_X0_passesWithin rfl rfl rfl (by decide +kernel) ⟨Nat.le_of_ble_eq_true rfl, Nat.le_of_ble_eq_true rfl⟩) 4 rfl rfl rfl (fun _ h => h) rfl rfl ⟨Nat.le_of_ble_eq_true rfl, Nat.le_of_ble_eq_true rfl⟩ (Nat.le_of_ble_eq_true rfl) ?_
  refine v_istore E dX1_likeliestOf_40 (by decide) rfl ?_
  refine v_iload E dX1_likeliestOf_42 4 rfl ?_
  refine v_iconst E dX1_likeliestOf_44 (v := nI 1) rfl ?_
  refine v_iadd E dX1_likeliestOf_45 (nI_add _ _) ?_
  refine v_istore E dX1_likeliestOf_46 (by decide) rfl ?_
  have L48_1 : ∀ (n48 : Nat) (b : Nat) (fw : Nat) (x : Nat) (c : Nat), z_B S t + 1 - c < n48 → (b = zlk S t c) → (b ≠ 0 → fw = zag S t (b - 1)) → (fw ≤ 200) → (x = zag S t (c - 1)) → (z_G S t + 1 ≤ c) → (c ≤ z_B S t + 1) → V p9 l e9 (headSpec wsX1_likeliestOf { frames := 3, cells := 0, slots := 0, locals := 72 }).room s9 m9 as9 bl9 me9 cd9 0 0 (MQ bl9 (vp_Si (fun r => r = oI (zlk S t (z_B S t + 1)))) as9 s9 0 0 (fun _ => False)) (v_ro D s9) 10 48 [(6, .int (oI b)), (7, .int (nI (fw))), (8, .int (nI (x))), (9, .int (nI (c))), (5, .int (nI (z_B S (t)))), (4, .int (nI (z_G S (t)))), (2, .long (lN (msk (sus S (t)) (z_B S (t) + 1)))), (0, .ref (a 0)), (1, .int (nI (t)))] [] (wX cI cZ cQ a S) := by
    intro n48
    induction n48 with
    | zero => intro b fw x c hm48 hb hfw hfl hx h1 h2; exact absurd hm48 (Nat.not_lt_zero _)
    | succ n48 ih48 =>
      intro b fw x c hm48 hb hfw hfl hx h1 h2
      have hbl : b ≤ c := by rw [hb]; exact zlk_le S t c
      refine v_iload E dX1_likeliestOf_48 3 rfl ?_
      refine v_iload E dX1_likeliestOf_50 4 rfl ?_
      refine n_icmp_gt E dX1_likeliestOf_52 (by omega) (by omega) (tgt := 107) (by decide) (fun c52 => ?_) (fun c52 => ?_)
      · refine v_iload E dX1_likeliestOf_107 0 rfl ?_
        exact v_ret E hr (congrArg oI (hb.trans (by rw [show c = z_B S t + 1 by omega]))) dX1_likeliestOf_109
      · have hsu := sus_tb (S := S) (t := t) (c := c) (by omega)
        have hzc := hz c
        refine v_iload E dX1_likeliestOf_55 2 rfl ?_
        refine v_aload_n E dX1_likeliestOf_57 7 rfl rfl ?_
        refine v_get E dX1_likeliestOf_58 0 3 hinX1 rfl rfl (by decide) (by decide +kernel) rfl rfl ?_
        refine v_iload_n E dX1_likeliestOf_61 8 rfl rfl ?_
        refine v_iload E dX1_likeliestOf_62 3 rfl ?_
        refine v_iconst E dX1_likeliestOf_64 (v := nI 1) rfl ?_
        refine v_isub E dX1_likeliestOf_65 (pk_sub (by omega)) ?_
        refine v_cVi' E dX1_likeliestOf_66 (x_X0_riseBehind l D cI cZ cQ cJ a S hok (t) (c - 1) (by omega) (by omega)) (cwV 2 E.2.2.2.1 gX1_likeliestOf_X0_riseBehind rfl rfl rfl (by decide +kernel) ⟨Nat.le_of_ble_eq_true rfl, Nat.le_of_ble_eq_true rfl⟩) 4 rfl rfl rfl (fun _ h => h) rfl rfl ⟨Nat.le_of_ble_eq_true rfl, Nat.le_of_ble_eq_true rfl⟩ (Nat.le_of_ble_eq_true rfl) ?_
        refine v_iadd E dX1_likeliestOf_69 (z := nI (zag S t c)) (by rw [hx]; have := zag_i (S := S) (t := t) (q := c - 1) (by omega) (by omega); rw [show c - 1 + 1 = c by omega] at this; exact this) ?_
        refine v_istore E dX1_likeliestOf_70 (by decide) rfl ?_
        refine v_lload_n E dX1_likeliestOf_72 6 rfl rfl ?_
        refine v_iload E dX1_likeliestOf_73 3 rfl ?_
        refine v_cSi' E dX1_likeliestOf_75 (x_X1_has l D cI cZ cQ cJ (msk (sus S (t)) (z_B S (t) + 1)) (c) (Nat.lt_trans (msk_lt62 _ (by omega)) (by decide)) (by omega)) (va_cwS 2 E.2.2.2.1 gX1_likeliestOf_X1_has rfl rfl rfl (by decide +kernel) ⟨Nat.le_of_ble_eq_true rfl, Nat.le_of_ble_eq_true rfl⟩) (fun _ _ => v_nil _) rfl rfl ⟨Nat.le_of_ble_eq_true rfl, Nat.le_of_ble_eq_true rfl⟩ (Nat.le_of_ble_eq_true rfl) ?_
        refine b_if_eq E dX1_likeliestOf_78 (tgt := 101) (by decide) (fun c78 => ?_) (fun c78 => ?_)
        · refine v_iinc E dX1_likeliestOf_101 3 rfl (nI_1 _) (by decide) rfl ?_
          refine v_goto E dX1_likeliestOf_104 (tgt := 48) (by decide) ?_
          refine v_lv [2, 3, 1, 0, 4, 5, 6, 7, 8] rfl ?_
          exact ih48 (b) (fw) (zag S t c) (c + 1) (by omega) (zlk_f hb (fun q => by rw [← hsu, c78] at q; exact absurd q.1 (by decide))) hfw hfl rfl (by omega) (by omega)
        · refine v_iload E dX1_likeliestOf_81 1 rfl ?_
          refine v_if_lt E dX1_likeliestOf_83 (tgt := 93) (by decide) (fun c83 => ?_) (fun c83 => ?_)
          · have c83 := (oI_lt (by omega)).mp c83
            refine v_iload E dX1_likeliestOf_93 3 rfl ?_
            refine v_top (y := (oI (c + 1))) (oI_s c).symm ?_
            refine v_istore E dX1_likeliestOf_95 (by decide) rfl ?_
            refine v_iload E dX1_likeliestOf_97 1 rfl ?_
            refine v_istore E dX1_likeliestOf_99 (by decide) rfl ?_
            refine v_iinc E dX1_likeliestOf_101 3 rfl (nI_1 _) (by decide) rfl ?_
            refine v_goto E dX1_likeliestOf_104 (tgt := 48) (by decide) ?_
            refine v_lv [2, 1, 3, 0, 4, 5, 6, 7, 8] rfl ?_
            exact ih48 (c + 1) (zag S t c) (zag S t c) (c + 1) (by omega) (zlk_t hb (by rw [← hsu]; exact c78) (Or.inl c83)) (fun _ => rfl) hzc rfl (by omega) (by omega)
          · have c83 : b ≠ 0 := fun q => c83 ((oI_lt (by omega)).mpr q)
            refine v_iload E dX1_likeliestOf_86 0 rfl ?_
            refine v_iload E dX1_likeliestOf_88 2 rfl ?_
            refine n_icmp_ge E dX1_likeliestOf_90 (by omega) (by omega) (tgt := 101) (by decide) (fun c90 => ?_) (fun c90 => ?_)
            · refine v_iinc E dX1_likeliestOf_101 3 rfl (nI_1 _) (by decide) rfl ?_
              refine v_goto E dX1_likeliestOf_104 (tgt := 48) (by decide) ?_
              refine v_lv [2, 3, 1, 0, 4, 5, 6, 7, 8] rfl ?_
              exact ih48 (b) (fw) (zag S t c) (c + 1) (by omega) (zlk_f hb (fun q => by rcases q.2 with z | z; exact c83 z; rw [← hfw c83] at z; omega)) hfw hfl rfl (by omega) (by omega)
            · refine v_iload E dX1_likeliestOf_93 3 rfl ?_
              refine v_top (y := (oI (c + 1))) (oI_s c).symm ?_
              refine v_istore E dX1_likeliestOf_95 (by decide) rfl ?_
              refine v_iload E dX1_likeliestOf_97 1 rfl ?_
              refine v_istore E dX1_likeliestOf_99 (by decide) rfl ?_
              refine v_iinc E dX1_likeliestOf_101 3 rfl (nI_1 _) (by decide) rfl ?_
              refine v_goto E dX1_likeliestOf_104 (tgt := 48) (by decide) ?_
              refine v_lv [2, 1, 3, 0, 4, 5, 6, 7, 8] rfl ?_
              exact ih48 (c + 1) (zag S t c) (zag S t c) (c + 1) (by omega) (zlk_t hb (by rw [← hsu]; exact c78) (Or.inr (by rw [← hfw c83]; exact c90))) (fun _ => rfl) hzc rfl (by omega) (by omega)
  refine v_lv [3, 2, 1, 0, 4, 5, 6, 7, 8] rfl ?_
  exact L48_1 ((z_B S t + 1 - (z_G S t + 1)) + 1) (0) (0) (sr (z_P S t) (z_G S t) (z_B S t + 1)) (z_G S t + 1) (by omega) (zlk_z _ (fun i hi => sus_lo (by omega))) (fun q => absurd rfl q) (by omega) (by rw [Nat.add_sub_cancel]; exact (zag_0 S t).symm) (by omega) (by omega)

set_option maxHeartbeats 4000000 in
set_option maxRecDepth 100000 in
theorem x_X1_weightAt (l : Launch) (D : va_G) (cI cZ cQ cJ : ClassId) (mm c : Nat) (hm : mm < 2 ^ 41) (hc : c < 40)  : v_Rdi l yX1_weightAt wsX1_weightAt { frames := 1, cells := 0, slots := 0, locals := 21 } D (wTy cI cZ cQ cJ) [.long (lN (mm)), .int (nI (c))] [] (nI (zmax (pop mm - pop (mm / 2 ^ (c + 1))) (pop (mm / 2 ^ (c + 1))))) := by
  refine v_reader (cc := cX1_weightAt) (maxL := 5) (ret := (some .int)) (own := RX1) (lv0 := [(0, .long (lN (mm))), (2, .int (nI (c)))]) (by decide) rfl rfl (Nat.le_of_ble_eq_true rfl) rfl ?_
  intro p9 e9 s9 m9 as9 bl9 me9 cd9 E hr
  have p1 := pop_64 mm
  have p2 := pop_64 (mm / 2 ^ (c + 1))
  have p3 := pop_dl (m := mm) (by omega) (c + 1)
  refine v_lload_n E dX1_weightAt_0 0 rfl rfl ?_
  refine v_iload_n E dX1_weightAt_1 1 rfl rfl ?_
  refine v_iconst E dX1_weightAt_2 (v := nI 1) rfl ?_
  refine v_iadd E dX1_weightAt_3 (nI_add _ _) ?_
  refine v_lshr E dX1_weightAt_4 (z := lN (mm / 2 ^ (c + 1))) (l_shr (by omega) (by omega)) ?_
  refine v_cSi' E dX1_weightAt_5 (x_J13_bitCount_95d88 l D cI cZ cQ cJ (mm / 2 ^ (c + 1)) (Nat.lt_of_le_of_lt (Nat.div_le_self _ _) (by omega))) (va_cwS 1 E.2.2.2.1 gX1_weightAt_J13_bitCount_95d88 rfl rfl rfl (by decide +kernel) ⟨Nat.le_of_ble_eq_true rfl, Nat.le_of_ble_eq_true rfl⟩) (fun _ _ => v_nil _) rfl rfl ⟨Nat.le_of_ble_eq_true rfl, Nat.le_of_ble_eq_true rfl⟩ (Nat.le_of_ble_eq_true rfl) ?_
  refine v_istore_n E dX1_weightAt_8 rfl (by decide) rfl ?_
  refine v_lload_n E dX1_weightAt_9 1 rfl rfl ?_
  refine v_cSi' E dX1_weightAt_10 (x_J13_bitCount_95d88 l D cI cZ cQ cJ (mm) (by omega)) (va_cwS 1 E.2.2.2.1 gX1_weightAt_J13_bitCount_95d88 rfl rfl rfl (by decide +kernel) ⟨Nat.le_of_ble_eq_true rfl, Nat.le_of_ble_eq_true rfl⟩) (fun _ _ => v_nil _) rfl rfl ⟨Nat.le_of_ble_eq_true rfl, Nat.le_of_ble_eq_true rfl⟩ (Nat.le_of_ble_eq_true rfl) ?_
  refine v_iload_n E dX1_weightAt_13 0 rfl rfl ?_
  refine v_isub E dX1_weightAt_14 (pk_sub (by omega)) ?_
  refine v_istore E dX1_weightAt_15 (by decide) rfl ?_
  refine v_iload E dX1_weightAt_17 0 rfl ?_
  refine v_iload_n E dX1_weightAt_19 1 rfl rfl ?_
  refine v_mmax E dX1_weightAt_20 (z := nI (zmax (pop mm - pop (mm / 2 ^ (c + 1))) (pop (mm / 2 ^ (c + 1))))) (by decide +kernel) (by decide +kernel) (by decide +kernel) (by decide +kernel) (Nat.le_of_ble_eq_true rfl) (Nat.le_of_ble_eq_true rfl) ⟨Nat.le_of_ble_eq_true rfl, Nat.le_of_ble_eq_true rfl⟩ (n_mmax (by omega) (by omega)) ?_
  exact v_ret E hr rfl dX1_weightAt_23

set_option maxHeartbeats 4000000 in
set_option maxRecDepth 100000 in
theorem x_X1_firstInQueue (l : Launch) (D : va_G) (cI cZ cQ cJ : ClassId) (a : Nat → Nat) (S : zS) (hok : zOK S)   : v_Rdi l yX1_firstInQueue wsX1_firstInQueue { frames := 0, cells := 0, slots := 0, locals := 0 } D (wTy cI cZ cQ cJ) [.ref (a 0)] (wX cI cZ cQ a S) (zfq S) := by
  refine v_reader (cc := cX1_firstInQueue) (maxL := 2) (ret := (some .int)) (own := RX1) (lv0 := [(0, .ref (a 0))]) (by decide) rfl rfl (Nat.le_of_ble_eq_true rfl) rfl ?_
  intro p9 e9 s9 m9 as9 bl9 me9 cd9 E hr
  have hinX1 : ∀ w ∈ u_ws RX1 TX1 15, w ∈ wsX1_firstInQueue := by decide +kernel
  obtain ⟨⟨k1, k2, k3, k4, k5, k6, k7, k8⟩, k9, k10, k11, k12, k13⟩ := id hok
  have hqn := zqn_le hok
  refine v_iconst E dX1_firstInQueue_0 (v := nI 0) rfl ?_
  refine v_istore_n E dX1_firstInQueue_1 rfl (by decide) rfl ?_
  have L2_1 : ∀ (n2 : Nat) (c : Nat), z_nt S - c < n2 → (∀ j, j < c → plc (z_Q S) (z_qn S) j ≠ 1) → (c ≤ z_nt S) → V p9 l e9 (headSpec wsX1_firstInQueue { frames := 0, cells := 0, slots := 0, locals := 0 }).room s9 m9 as9 bl9 me9 cd9 0 0 (MQ bl9 (vp_Si (fun r => r = zfq S)) as9 s9 0 0 (fun _ => False)) (v_ro D s9) 2 2 [(1, .int (nI (c))), (0, .ref (a 0))] [] (wX cI cZ cQ a S) := by
    intro n2
    induction n2 with
    | zero => intro c hm2 hn h2; exact absurd hm2 (Nat.not_lt_zero _)
    | succ n2 ih2 =>
      intro c hm2 hn h2
      have hpl := plc_le (z_Q S) c (z_qn S)
      refine v_iload_n E dX1_firstInQueue_2 0 rfl rfl ?_
      refine v_aload_n E dX1_firstInQueue_3 1 rfl rfl ?_
      refine v_get E dX1_firstInQueue_4 0 10 hinX1 rfl rfl (by decide) (by decide +kernel) rfl rfl ?_
      refine n_icmp_ge E dX1_firstInQueue_7 (by omega) (by omega) (tgt := 28) (by decide) (fun c7 => ?_) (fun c7 => ?_)
      · refine v_iconst E dX1_firstInQueue_28 (v := (-1)) rfl ?_
        exact v_ret E hr (by have e : z_qn S = 0 := (by rcases Nat.eq_zero_or_pos (z_qn S) with q | q; exact q; exact absurd (plc_of (z_qn S) k11.2 q) (hn (z_Q S 0) (by have := (k10 _ (k11.1 0 q)).1; omega))); show _ = zfq S; unfold zfq; rw [if_pos e]) dX1_firstInQueue_29
      · refine v_aload_n E dX1_firstInQueue_10 1 rfl rfl ?_
        refine v_get E dX1_firstInQueue_11 0 7 hinX1 rfl rfl (by decide) (by decide +kernel) rfl rfl ?_
        refine v_iload_n E dX1_firstInQueue_14 0 rfl rfl ?_
        refine v_iald E dX1_firstInQueue_15 8 0 rfl rfl (by omega) (by decide) rfl ?_
        refine v_iconst E dX1_firstInQueue_16 (v := nI 1) rfl ?_
        refine n_icmp_ne E dX1_firstInQueue_17 (by omega) (by omega) (tgt := 22) (by decide) (fun c17 => ?_) (fun c17 => ?_)
        · refine v_iinc E dX1_firstInQueue_22 0 rfl (nI_1 _) (by decide) rfl ?_
          refine v_goto E dX1_firstInQueue_25 (tgt := 2) (by decide) ?_
          refine v_lv [0, 1] rfl ?_
          exact ih2 (c + 1) (by omega) (fun j hj => by by_cases e : j = c; subst e; exact c17; exact hn j (by omega)) (by omega)
        · refine v_iload_n E dX1_firstInQueue_20 0 rfl rfl ?_
          exact v_ret E hr (by obtain ⟨z1, z2⟩ := plc_at _ c17; show _ = zfq S; unfold zfq; rw [if_neg (by omega), z2]) dX1_firstInQueue_21
  refine v_lv [0, 1] rfl ?_
  exact L2_1 ((z_nt S - (0)) + 1) (0) (by omega) (fun j hj => absurd hj (Nat.not_lt_zero j)) (by omega)

