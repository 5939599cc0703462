/-! ===== the class: runs, triage, the queue ===== -/
def zadd (S : zS) (t c : Nat) (b : Bool) : zS := if z_R S t < 200 then srec S t c b else S
theorem stri_T (S : zS) (t g b : Nat) : z_T (stri S t g b) t = true := by
  show va_up (z_T S) t true t = true
  unfold va_up
  rw [if_pos rfl]
theorem stri_B (S : zS) (t g b : Nat) : z_B (stri S t g b) t = b := by
  show va_up (z_B S) t b t = b
  unfold va_up
  rw [if_pos rfl]
theorem plc_rm {Q : Nat → Nat} {n p : Nat} (hi : ∀ i j, i < n + 1 → j < n + 1 → Q i = Q j → i = j) (hp : p < n + 1) (j : Nat) : plc (zrm Q p n) n j = if j = Q p then 0 else if p + 1 < plc Q (n + 1) j then plc Q (n + 1) j - 1 else plc Q (n + 1) j := by
  by_cases h : ∃ k, k < n + 1 ∧ Q k = j
  · obtain ⟨k, hk, rfl⟩ := h
    have e := plc_of (n + 1) hi hk
    rw [e]
    by_cases e1 : k = p
    · subst e1
      rw [if_pos rfl]
      refine plc_0 n (fun i hi2 => ?_)
      obtain ⟨i2, a1, a2, a3⟩ := zrm_mem (Q := Q) (p := k) hi2
      rw [a3]
      exact fun z => a2 (hi _ _ a1 hk z)
    · rw [if_neg (fun z => e1 (hi _ _ hk hp z))]
      by_cases e2 : k < p
      · have z := plc_of (Q := zrm Q p n) (k := k) n (zrm_inj hi) (by omega)
        rw [zrm_lo e2] at z
        rw [z, if_neg (by omega)]
      · have z := plc_of (Q := zrm Q p n) (k := k - 1) n (zrm_inj hi) (by omega)
        rw [zrm_hi (by omega) (by omega), show k - 1 + 1 = k by omega] at z
        rw [z, if_pos (by omega)]
        omega
  · have h2 : ∀ k, k < n + 1 → Q k ≠ j := fun k hk e => h ⟨k, hk, e⟩
    rw [plc_0 (n + 1) h2, if_neg (fun z => h2 p hp z.symm), if_neg (by omega)]
    refine plc_0 n (fun i hi2 => ?_)
    obtain ⟨i2, a1, -, a3⟩ := zrm_mem (Q := Q) (p := p) hi2
    rw [a3]
    exact h2 i2 a1
section QW
variable {cI cZ cQ : ClassId} {a : Nat → Nat} {S : zS}
theorem join_w {t : Nat} (hp : ∀ k, k < z_qn S → z_Q S k ≠ t) : wXp cI cZ cQ a (zs_qn S (z_qn S + 1)) (va_up (fun j => plc (z_Q S) (z_qn S) j) t (z_qn S + 1)) = wX cI cZ cQ a (sjn S t) := by
  rw [← wXp_Q (S := zs_qn S (z_qn S + 1)) (va_up (z_Q S) (z_qn S) t)]
  refine wXp_of (S := zs_Q (zs_qn S (z_qn S + 1)) (va_up (z_Q S) (z_qn S) t)) (fun j => ?_)
  show (if va_up (z_Q S) (z_qn S) t (z_qn S) = j then z_qn S + 1 else plc (va_up (z_Q S) (z_qn S) t) (z_qn S) j) = va_up (fun j => plc (z_Q S) (z_qn S) j) t (z_qn S + 1) j
  have e : ∀ (n : Nat), n ≤ z_qn S → plc (va_up (z_Q S) (z_qn S) t) n j = plc (z_Q S) n j := by
    intro n
    induction n with
    | zero => exact fun _ => rfl
    | succ n ih =>
      intro hn
      show (if va_up (z_Q S) (z_qn S) t n = j then n + 1 else plc (va_up (z_Q S) (z_qn S) t) n j) = if z_Q S n = j then n + 1 else plc (z_Q S) n j
      rw [ih (by omega), show va_up (z_Q S) (z_qn S) t n = z_Q S n from if_neg (by omega)]
  rw [e _ (Nat.le_refl _), show va_up (z_Q S) (z_qn S) t (z_qn S) = t from if_pos rfl]
  unfold va_up
  by_cases d : j = t
  · rw [if_pos d.symm, if_pos d]
  · rw [if_neg (fun z => d z.symm), if_neg d]
theorem leave_w (hok : zOK S) {t : Nat} {pl : Nat → Nat} (h0 : 0 < plc (z_Q S) (z_qn S) t) (hpl : ∀ j, pl j = if j < z_nt S ∧ plc (z_Q S) (z_qn S) t < plc (z_Q S) (z_qn S) j then plc (z_Q S) (z_qn S) j - 1 else plc (z_Q S) (z_qn S) j) :
    wXp cI cZ cQ a (zs_qn S (z_qn S - 1)) (va_up pl t 0) = wX cI cZ cQ a (slv S t) := by
  rw [show slv S t = srm S (plc (z_Q S) (z_qn S) t - 1) from if_neg (by omega), ← wXp_Q (S := zs_qn S (z_qn S - 1)) (zrm (z_Q S) (plc (z_Q S) (z_qn S) t - 1) (z_qn S - 1))]
  refine wXp_of (S := zs_Q (zs_qn S (z_qn S - 1)) (zrm (z_Q S) (plc (z_Q S) (z_qn S) t - 1) (z_qn S - 1))) (fun j => ?_)
  have hl := plc_le (z_Q S) t (z_qn S)
  obtain ⟨q1, q2⟩ := plc_at (Q := z_Q S) (t := t) (k := plc (z_Q S) (z_qn S) t - 1) (z_qn S) (by omega)
  have e := plc_rm (Q := z_Q S) (n := z_qn S - 1) (p := plc (z_Q S) (z_qn S) t - 1) (fun i j a b => hok.2.2.2.1.2 i j (by omega) (by omega)) (by omega) j
  rw [show z_qn S - 1 + 1 = z_qn S by omega, q2] at e
  show plc (zrm (z_Q S) (plc (z_Q S) (z_qn S) t - 1) (z_qn S - 1)) (z_qn S - 1) j = va_up pl t 0 j
  rw [e]
  unfold va_up
  rw [hpl j]
  by_cases d : j = t
  · rw [if_pos d, if_pos d]
  · rw [if_neg d, if_neg d, show plc (z_Q S) (z_qn S) t - 1 + 1 = plc (z_Q S) (z_qn S) t by omega]
    by_cases g : plc (z_Q S) (z_qn S) t < plc (z_Q S) (z_qn S) j
    · have hj : j < z_nt S := by
        obtain ⟨k, hk⟩ : ∃ k, plc (z_Q S) (z_qn S) j = k + 1 := ⟨plc (z_Q S) (z_qn S) j - 1, by omega⟩
        obtain ⟨r1, r2⟩ := plc_at _ hk
        have := (hok.2.2.1 _ (hok.2.2.2.1.1 k r1)).1
        rw [r2] at this
        exact this
      rw [if_pos g, if_pos ⟨hj, g⟩]
    · rw [if_neg g, if_neg (fun z => g z.2)]
end QW
theorem lvq_f {f pl : Nat → Nat} {p c : Nat} (h : ∀ j, pl j = if j < c ∧ p < f j then f j - 1 else f j) (hc : pl c ≤ p) (j : Nat) : pl j = if j < c + 1 ∧ p < f j then f j - 1 else f j := by
  have h2 := h c
  rw [if_neg (by omega)] at h2
  rw [h j]
  by_cases e : j = c
  · subst e
    rw [if_neg (by omega), if_neg (by omega)]
  · by_cases d : j < c ∧ p < f j
    · rw [if_pos d, if_pos ⟨by omega, d.2⟩]
    · rw [if_neg d, if_neg (by omega)]
theorem lvq_t {f pl : Nat → Nat} {p c : Nat} (h : ∀ j, pl j = if j < c ∧ p < f j then f j - 1 else f j) (hc : p < pl c) (j : Nat) : va_up pl c (pl c - 1) j = if j < c + 1 ∧ p < f j then f j - 1 else f j := by
  have h2 := h c
  rw [if_neg (by omega)] at h2
  unfold va_up
  by_cases e : j = c
  · subst e
    rw [if_pos rfl, if_pos ⟨by omega, by omega⟩, h2]
  · rw [if_neg e, h j]
    by_cases d : j < c ∧ p < f j
    · rw [if_pos d, if_pos ⟨by omega, d.2⟩]
    · rw [if_neg d, if_neg (by omega)]
theorem zfq_s {S : zS} (h : 0 < z_qn S) : zfq S = nI (z_Q S 0) := if_neg (by omega)
theorem zfq_pos {S : zS} (h : 0 ≤ zfq S) : 0 < z_qn S := by
  rcases Nat.eq_zero_or_pos (z_qn S) with e | e
  · unfold zfq at h
    rw [if_pos e] at h
    exact absurd h (by decide)
  · exact e
theorem zfq_neg {S : zS} (hok : zOK S) (h : ¬ 0 ≤ zfq S) : z_qn S = 0 := by
  rcases Nat.eq_zero_or_pos (z_qn S) with e | e
  · exact e
  · rw [zfq_s e] at h
    have h1 := (hok.2.2.1 _ (hok.2.2.2.1.1 0 e)).1
    have h2 := hok.1.2.1
    exact absurd (nI_pos' (by omega)) h
theorem slv_first {S : zS} (hok : zOK S) (h : 0 < z_qn S) : slv S (z_Q S 0) = srm S 0 := by
  have e := plc_of (z_qn S) hok.2.2.2.1.2 h
  unfold slv
  rw [e]
  rfl
set_option maxHeartbeats 4000000 in
set_option maxRecDepth 100000 in
theorem x_X0_add (l : Launch) (D : va_G) (cI cZ cQ cJ : ClassId) (a : Nat → Nat) (S : zS) (hok : zOK S)  (t c : Nat) (b : Bool) (ht : t < 12) (hc : c < 40) : v_Thr l yX0_add wsX0_add { frames := 0, cells := 0, slots := 0, locals := 0 } D (wTy cI cZ cQ cJ) [.ref (a 4), .int (nI (t)), .int (nI (c)), .int (bI (b))] (wX cI cZ cQ a S) (0) exI (some (.int (bI (decide (z_R S t < 200))))) (wX cI cZ cQ a (zadd S t c b)) 0 0 := by
  refine v_thrower (cc := cX0_add) (maxL := 5) (ret := (some .boolean)) (own := RX0) (lv0 := [(0, .ref (a 4)), (1, .int (nI (t))), (2, .int (nI (c))), (3, .int (bI (b)))]) (by decide) rfl rfl (Nat.le_of_ble_eq_true rfl) rfl ?_
  intro p9 e9 s9 m9 as9 bl9 me9 cd9 A E hA htab hTx hr
  have hinX0 : ∀ w ∈ u_ws RX0 TX0 5, w ∈ wsX0_add := by decide +kernel
  obtain ⟨⟨k1, k2, k3, k4, k5, k6, k7, k8⟩, k9, k10, k11, k12, k13⟩ := id hok
  have hRt := (k12 t).1
  refine v_aload_n E dX0_add_0 0 rfl rfl ?_
  refine v_get E dX0_add_1 4 0 hinX0 rfl rfl (by decide) (by decide +kernel) rfl rfl ?_
  refine v_iload_n E dX0_add_4 1 rfl rfl ?_
  refine v_iald E dX0_add_5 9 0 rfl rfl (by omega) (by decide) rfl ?_
  refine v_istore E dX0_add_6 (by decide) rfl ?_
  refine v_iload E dX0_add_8 0 rfl ?_
  refine v_sipush E dX0_add_10 (v := nI 200) rfl ?_
  refine n_icmp_lt E dX0_add_13 (by omega) (by omega) (tgt := 18) (by decide) (fun c13 => ?_) (fun c13 => ?_)
  · refine v_aload_n E dX0_add_18 1 rfl rfl ?_
    refine v_get E dX0_add_19 4 1 hinX0 rfl rfl (by decide) (by decide +kernel) rfl rfl ?_
    refine v_iload_n E dX0_add_22 2 rfl rfl ?_
    refine v_aald E dX0_add_23 10 2 rfl rfl (by omega) (by decide) (zout_at (by omega)) ?_
    refine v_iload E dX0_add_24 0 rfl ?_
    refine v_iload_n E dX0_add_26 3 rfl rfl ?_
    refine v_iast E dX0_add_27 (14 + (t)) 0 (wX_row_rC (by omega)) rfl (by omega) (by decide) (w' := (wX cI cZ cQ a (zs_rC S (up2 (z_rC S) (t) (z_R S (t)) (c))))) (wX_set_rC (by omega)) ?_
    refine v_aload_n E dX0_add_28 1 rfl rfl ?_
    refine v_get E dX0_add_29 4 2 hinX0 rfl rfl (by decide) (by decide +kernel) rfl rfl ?_
    refine v_iload_n E dX0_add_32 2 rfl rfl ?_
    refine v_aald E dX0_add_33 11 2 rfl rfl (by omega) (by decide) (zout_at (by omega)) ?_
    refine v_iload E dX0_add_34 0 rfl ?_
    refine v_iload_n E dX0_add_36 4 rfl rfl ?_
    refine b_if_eq E dX0_add_37 (tgt := 44) (by decide) (fun c37 => ?_) (fun c37 => ?_)
    · subst c37
      refine v_iconst E dX0_add_44 (v := nI 0) rfl ?_
      refine v_iast E dX0_add_45 (26 + (t)) 0 (wX_row_rP (by omega)) rfl (by omega) (by decide) (w' := (wX cI cZ cQ a (zs_rP (zs_rC S (up2 (z_rC S) (t) (z_R S (t)) (c))) (up2 (z_rP (zs_rC S (up2 (z_rC S) (t) (z_R S (t)) (c)))) (t) (z_R S (t)) (0))))) (wX_set_rP (by omega)) ?_
      refine v_iload_n E dX0_add_46 4 rfl rfl ?_
      refine b_if_eq E dX0_add_47 (tgt := 65) (by decide) (fun c47 => ?_) (fun c47 => ?_)
      · refine v_aload_n E dX0_add_65 1 rfl rfl ?_
        refine v_get E dX0_add_66 4 4 hinX0 rfl rfl (by decide) (by decide +kernel) rfl rfl ?_
        refine v_iload_n E dX0_add_69 2 rfl rfl ?_
        refine v_aald E dX0_add_70 13 2 rfl rfl (by omega) (by decide) (zout_at (by omega)) ?_
        refine v_iload_n E dX0_add_71 3 rfl rfl ?_
        have hFt := zF_le hok t c
        refine v_dup2 E dX0_add_72 rfl rfl ?_
        refine v_iald E dX0_add_73 (50 + (t)) 0 (wX_row_F (by omega)) rfl (by omega) (by decide) rfl ?_
        refine v_iconst E dX0_add_74 (v := nI 1) rfl ?_
        refine v_iadd E dX0_add_75 (nI_add _ _) ?_
        refine v_iast E dX0_add_76 (50 + (t)) 0 (wX_row_F (by omega)) rfl (by omega) (by decide) (w' := (wX cI cZ cQ a (zs_F (zs_rP (zs_rC S (up2 (z_rC S) (t) (z_R S (t)) (c))) (up2 (z_rP (zs_rC S (up2 (z_rC S) (t) (z_R S (t)) (c)))) (t) (z_R S (t)) (0))) (up2 (z_F (zs_rP (zs_rC S (up2 (z_rC S) (t) (z_R S (t)) (c))) (up2 (z_rP (zs_rC S (up2 (z_rC S) (t) (z_R S (t)) (c)))) (t) (z_R S (t)) (0)))) (t) (c) (z_F (zs_rP (zs_rC S (up2 (z_rC S) (t) (z_R S (t)) (c))) (up2 (z_rP (zs_rC S (up2 (z_rC S) (t) (z_R S (t)) (c)))) (t) (z_R S (t)) (0))) (t) (c) + 1))))) (wX_set_F (by omega)) ?_
        refine v_aload_n E dX0_add_77 1 rfl rfl ?_
        refine v_get E dX0_add_78 4 0 hinX0 rfl rfl (by decide) (by decide +kernel) rfl rfl ?_
        refine v_iload_n E dX0_add_81 2 rfl rfl ?_
        refine v_iload E dX0_add_82 0 rfl ?_
        refine v_iconst E dX0_add_84 (v := nI 1) rfl ?_
        refine v_iadd E dX0_add_85 (nI_add _ _) ?_
        refine v_iast E dX0_add_86 9 0 rfl rfl (by omega) (by decide) (w' := (wX cI cZ cQ a (zs_R (zs_F (zs_rP (zs_rC S (up2 (z_rC S) (t) (z_R S (t)) (c))) (up2 (z_rP (zs_rC S (up2 (z_rC S) (t) (z_R S (t)) (c)))) (t) (z_R S (t)) (0))) (up2 (z_F (zs_rP (zs_rC S (up2 (z_rC S) (t) (z_R S (t)) (c))) (up2 (z_rP (zs_rC S (up2 (z_rC S) (t) (z_R S (t)) (c)))) (t) (z_R S (t)) (0)))) (t) (c) (z_F (zs_rP (zs_rC S (up2 (z_rC S) (t) (z_R S (t)) (c))) (up2 (z_rP (zs_rC S (up2 (z_rC S) (t) (z_R S (t)) (c)))) (t) (z_R S (t)) (0))) (t) (c) + 1))) (va_up (z_R (zs_F (zs_rP (zs_rC S (up2 (z_rC S) (t) (z_R S (t)) (c))) (up2 (z_rP (zs_rC S (up2 (z_rC S) (t) (z_R S (t)) (c)))) (t) (z_R S (t)) (0))) (up2 (z_F (zs_rP (zs_rC S (up2 (z_rC S) (t) (z_R S (t)) (c))) (up2 (z_rP (zs_rC S (up2 (z_rC S) (t) (z_R S (t)) (c)))) (t) (z_R S (t)) (0)))) (t) (c) (z_F (zs_rP (zs_rC S (up2 (z_rC S) (t) (z_R S (t)) (c))) (up2 (z_rP (zs_rC S (up2 (z_rC S) (t) (z_R S (t)) (c)))) (t) (z_R S (t)) (0))) (t) (c) + 1)))) (t) (z_R S (t) + 1))))) (wX_a_R _ _) ?_
        refine v_iconst E dX0_add_87 (v := nI 1) rfl ?_
        rw [show zadd S t c false = srec S t c false from if_pos c13]
        exact x_retz E hr rfl rfl (by rw [decide_eq_true c13]; rfl) (by decide) (by decide) dX0_add_88
      · exact absurd c47 (by decide)
    · subst c37
      refine v_iconst E dX0_add_40 (v := nI 1) rfl ?_
      refine v_goto E dX0_add_41 (tgt := 45) (by decide) ?_
      refine v_iast E dX0_add_45 (26 + (t)) 0 (wX_row_rP (by omega)) rfl (by omega) (by decide) (w' := (wX cI cZ cQ a (zs_rP (zs_rC S (up2 (z_rC S) (t) (z_R S (t)) (c))) (up2 (z_rP (zs_rC S (up2 (z_rC S) (t) (z_R S (t)) (c)))) (t) (z_R S (t)) (1))))) (wX_set_rP (by omega)) ?_
      refine v_iload_n E dX0_add_46 4 rfl rfl ?_
      refine b_if_eq E dX0_add_47 (tgt := 65) (by decide) (fun c47 => ?_) (fun c47 => ?_)
      · exact absurd c47 (by decide)
      · refine v_aload_n E dX0_add_50 1 rfl rfl ?_
        refine v_get E dX0_add_51 4 3 hinX0 rfl rfl (by decide) (by decide +kernel) rfl rfl ?_
        refine v_iload_n E dX0_add_54 2 rfl rfl ?_
        refine v_aald E dX0_add_55 12 2 rfl rfl (by omega) (by decide) (zout_at (by omega)) ?_
        refine v_iload_n E dX0_add_56 3 rfl rfl ?_
        have hPt := zP_le hok t c
        refine v_dup2 E dX0_add_57 rfl rfl ?_
        refine v_iald E dX0_add_58 (38 + (t)) 0 (wX_row_P (by omega)) rfl (by omega) (by decide) rfl ?_
        refine v_iconst E dX0_add_59 (v := nI 1) rfl ?_
        refine v_iadd E dX0_add_60 (nI_add _ _) ?_
        refine v_iast E dX0_add_61 (38 + (t)) 0 (wX_row_P (by omega)) rfl (by omega) (by decide) (w' := (wX cI cZ cQ a (zs_P (zs_rP (zs_rC S (up2 (z_rC S) (t) (z_R S (t)) (c))) (up2 (z_rP (zs_rC S (up2 (z_rC S) (t) (z_R S (t)) (c)))) (t) (z_R S (t)) (1))) (up2 (z_P (zs_rP (zs_rC S (up2 (z_rC S) (t) (z_R S (t)) (c))) (up2 (z_rP (zs_rC S (up2 (z_rC S) (t) (z_R S (t)) (c)))) (t) (z_R S (t)) (1)))) (t) (c) (z_P (zs_rP (zs_rC S (up2 (z_rC S) (t) (z_R S (t)) (c))) (up2 (z_rP (zs_rC S (up2 (z_rC S) (t) (z_R S (t)) (c)))) (t) (z_R S (t)) (1))) (t) (c) + 1))))) (wX_set_P (by omega)) ?_
        refine v_goto E dX0_add_62 (tgt := 77) (by decide) ?_
        refine v_aload_n E dX0_add_77 1 rfl rfl ?_
        refine v_get E dX0_add_78 4 0 hinX0 rfl rfl (by decide) (by decide +kernel) rfl rfl ?_
        refine v_iload_n E dX0_add_81 2 rfl rfl ?_
        refine v_iload E dX0_add_82 0 rfl ?_
        refine v_iconst E dX0_add_84 (v := nI 1) rfl ?_
        refine v_iadd E dX0_add_85 (nI_add _ _) ?_
        refine v_iast E dX0_add_86 9 0 rfl rfl (by omega) (by decide) (w' := (wX cI cZ cQ a (zs_R (zs_P (zs_rP (zs_rC S (up2 (z_rC S) (t) (z_R S (t)) (c))) (up2 (z_rP (zs_rC S (up2 (z_rC S) (t) (z_R S (t)) (c)))) (t) (z_R S (t)) (1))) (up2 (z_P (zs_rP (zs_rC S (up2 (z_rC S) (t) (z_R S (t)) (c))) (up2 (z_rP (zs_rC S (up2 (z_rC S) (t) (z_R S (t)) (c)))) (t) (z_R S (t)) (1)))) (t) (c) (z_P (zs_rP (zs_rC S (up2 (z_rC S) (t) (z_R S (t)) (c))) (up2 (z_rP (zs_rC S (up2 (z_rC S) (t) (z_R S (t)) (c)))) (t) (z_R S (t)) (1))) (t) (c) + 1))) (va_up (z_R (zs_P (zs_rP (zs_rC S (up2 (z_rC S) (t) (z_R S (t)) (c))) (up2 (z_rP (zs_rC S (up2 (z_rC S) (t) (z_R S (t)) (c)))) (t) (z_R S (t)) (1))) (up2 (z_P (zs_rP (zs_rC S (up2 (z_rC S) (t) (z_R S (t)) (c))) (up2 (z_rP (zs_rC S (up2 (z_rC S) (t) (z_R S (t)) (c)))) (t) (z_R S (t)) (1)))) (t) (c) (z_P (zs_rP (zs_rC S (up2 (z_rC S) (t) (z_R S (t)) (c))) (up2 (z_rP (zs_rC S (up2 (z_rC S) (t) (z_R S (t)) (c)))) (t) (z_R S (t)) (1))) (t) (c) + 1)))) (t) (z_R S (t) + 1))))) (wX_a_R _ _) ?_
        refine v_iconst E dX0_add_87 (v := nI 1) rfl ?_
        rw [show zadd S t c true = srec S t c true from if_pos c13]
        exact x_retz E hr rfl rfl (by rw [decide_eq_true c13]; rfl) (by decide) (by decide) dX0_add_88
  · refine v_iconst E dX0_add_16 (v := nI 0) rfl ?_
    rw [show zadd S t c b = S from if_neg (Nat.not_lt.mpr c13)]
    exact x_retz E hr rfl rfl (by rw [decide_eq_false (Nat.not_lt.mpr c13)]; rfl) (by decide) (by decide) dX0_add_17

set_option maxHeartbeats 4000000 in
set_option maxRecDepth 100000 in
theorem x_X1_record (l : Launch) (D : va_G) (cI cZ cQ cJ : ClassId) (a : Nat → Nat) (S : zS) (hok : zOK S) (hl : l.stackTraces = false) (u0 u1 : Int32) (b : Bool) : v_Thr l yX1_record wsX1_record { frames := 7, cells := 3, slots := 18, locals := 111 } D (wTy cI cZ cQ cJ) [.ref (a 0), .int (u0), .int (u1), .int (bI (b))] (wX cI cZ cQ a S) (kk2 (zin u0 (z_nt S) && zin u1 (z_nc S)) (decide (z_R S (iN u0) < 200))) exIS (some (.int (nI (vd (z_P (srec S (iN u0) (iN u1) b) (iN u0) (iN u1)) (z_F (srec S (iN u0) (iN u1) b) (iN u0) (iN u1)))))) (wX cI cZ cQ a (srec S (iN u0) (iN u1) b)) 3 18 := by
  refine v_thrower (cc := cX1_record) (maxL := 4) (ret := (some .int)) (own := RX1) (lv0 := [(0, .ref (a 0)), (1, .int (u0)), (2, .int (u1)), (3, .int (bI (b)))]) (by decide) rfl rfl (Nat.le_of_ble_eq_true rfl) rfl ?_
  intro p9 e9 s9 m9 as9 bl9 me9 cd9 A E hA htab hTx hr
  have hinX1 : ∀ w ∈ u_ws RX1 TX1 15, w ∈ wsX1_record := by decide +kernel
  obtain ⟨⟨k1, k2, k3, k4, k5, k6, k7, k8⟩, k9, k10, k11, k12, k13⟩ := id hok
  refine v_aload_n E dX1_record_0 0 rfl rfl ?_
  refine v_iload_n E dX1_record_1 1 rfl rfl ?_
  have hp2 : kk1 (zin ((u0)) (z_nt S)) ≠ 0 → kk2 (zin u0 (z_nt S) && zin u1 (z_nc S)) (decide (z_R S (iN u0) < 200)) ≠ 0 ∧ exI (kk1 (zin ((u0)) (z_nt S))) = exIS (kk2 (zin u0 (z_nt S) && zin u1 (z_nc S)) (decide (z_R S (iN u0) < 200))) := by
    intro hk
    have e9 : kk2 (zin u0 (z_nt S) && zin u1 (z_nc S)) (decide (z_R S (iN u0) < 200)) = 1 := kk2_f (by rw [kk1_n hk]; rfl)
    rw [e9]
    exact ⟨by decide, rfl⟩
  refine x_cVp E hA htab hTx dX1_record_2 (x_X1_needTest l D cI cZ cQ cJ a S hok hl ((u0))) (cwV 1 E.2.2.2.1 gX1_record_X1_needTest rfl rfl rfl (by decide +kernel) ⟨Nat.le_of_ble_eq_true rfl, Nat.le_of_ble_eq_true rfl⟩) 0 rfl rfl rfl rfl rfl ⟨Nat.le_of_ble_eq_true rfl, Nat.le_of_ble_eq_true rfl⟩ (Nat.le_of_ble_eq_true rfl) hp2 (by decide) (by decide) (fun hk2 => ?_)
  obtain ⟨t, ht, rfl⟩ := zin_of (by omega) (kk1_z hk2)
  try simp only [iN_nI (show t < 2 ^ 31 by omega)]
  have hzt := zin_n ht (show z_nt S ≤ 2 ^ 31 by omega)
  refine v_aload_n E dX1_record_5 0 rfl rfl ?_
  refine v_iload_n E dX1_record_6 2 rfl rfl ?_
  have hp7 : kk1 (zin ((u1)) (z_nc S)) ≠ 0 → kk2 (zin (nI (t)) (z_nt S) && zin u1 (z_nc S)) (decide (z_R S (t) < 200)) ≠ 0 ∧ exI (kk1 (zin ((u1)) (z_nc S))) = exIS (kk2 (zin (nI (t)) (z_nt S) && zin u1 (z_nc S)) (decide (z_R S (t) < 200))) := by
    intro hk
    have e9 : kk2 (zin (nI (t)) (z_nt S) && zin u1 (z_nc S)) (decide (z_R S (t) < 200)) = 1 := kk2_f (by rw [kk1_n hk, Bool.and_false])
    rw [e9]
    exact ⟨by decide, rfl⟩
  refine x_cVp E hA htab hTx dX1_record_7 (x_X1_needCommit l D cI cZ cQ cJ a S hok hl ((u1))) (cwV 1 E.2.2.2.1 gX1_record_X1_needCommit rfl rfl rfl (by decide +kernel) ⟨Nat.le_of_ble_eq_true rfl, Nat.le_of_ble_eq_true rfl⟩) 0 rfl rfl rfl rfl rfl ⟨Nat.le_of_ble_eq_true rfl, Nat.le_of_ble_eq_true rfl⟩ (Nat.le_of_ble_eq_true rfl) hp7 (by decide) (by decide) (fun hk7 => ?_)
  obtain ⟨c, hc, rfl⟩ := zin_of (by omega) (kk1_z hk7)
  try simp only [iN_nI (show c < 2 ^ 31 by omega)]
  have hzc := zin_n hc (show z_nc S ≤ 2 ^ 31 by omega)
  refine v_aload_n E dX1_record_10 0 rfl rfl ?_
  refine v_get E dX1_record_11 0 3 hinX1 rfl rfl (by decide) (by decide +kernel) rfl rfl ?_
  refine v_iload_n E dX1_record_14 1 rfl rfl ?_
  refine v_iload_n E dX1_record_15 2 rfl rfl ?_
  refine v_iload_n E dX1_record_16 3 rfl rfl ?_
  refine x_cVn E hA hTx dX1_record_17 (x_X0_add l D cI cZ cQ cJ a S hok (t) (c) b (by omega) (by omega)) (cwV 3 E.2.2.2.1 gX1_record_X0_add rfl rfl rfl (by decide +kernel) ⟨Nat.le_of_ble_eq_true rfl, Nat.le_of_ble_eq_true rfl⟩) 4 rfl rfl rfl rfl rfl ⟨Nat.le_of_ble_eq_true rfl, Nat.le_of_ble_eq_true rfl⟩ (Nat.le_of_ble_eq_true rfl) ?_
  refine b_if_ne E dX1_record_20 (tgt := 33) (by decide) (fun c20 => ?_) (fun c20 => ?_)
  · refine v_w (w' := (wX cI cZ cQ a (srec S t c b))) (by rw [show zadd S t c b = srec S t c b from if_pos (of_decide_eq_true c20)]) ?_
    refine v_aload_n E dX1_record_33 0 rfl rfl ?_
    refine v_get E dX1_record_34 0 3 hinX1 rfl rfl (by decide) (by decide +kernel) rfl rfl ?_
    refine v_iload_n E dX1_record_37 1 rfl rfl ?_
    refine v_iload_n E dX1_record_38 2 rfl rfl ?_
    refine v_cVi' E dX1_record_39 (x_X0_verdictAt l D cI cZ cQ cJ a (srec S t c b) (zOK_rec hok b hc (of_decide_eq_true c20)) (t) (c) (by omega) (by omega)) (cwV 2 E.2.2.2.1 gX1_record_X0_verdictAt rfl rfl rfl (by decide +kernel) ⟨Nat.le_of_ble_eq_true rfl, Nat.le_of_ble_eq_true rfl⟩) 4 rfl rfl rfl (fun _ h => h) rfl rfl ⟨Nat.le_of_ble_eq_true rfl, Nat.le_of_ble_eq_true rfl⟩ (Nat.le_of_ble_eq_true rfl) ?_
    exact x_ret E hr (kk2_t (by rw [hzt, hzc]; rfl) c20) rfl (by decide) (by decide) dX1_record_42
  · refine v_w (w' := (wX cI cZ cQ a S)) (by rw [show zadd S t c b = S from if_neg (of_decide_eq_false c20)]) ?_
    have hk9 : kk2 (zin (nI (t)) (z_nt S) && zin (nI (c)) (z_nc S)) (decide (z_R S (t) < 200)) = 2 := kk2_2 (by rw [hzt, hzc]; rfl) c20
    exact x_throwS E htab hTx hl (is := 98) (text := "the test has 200 runs") (by decide +kernel) dX1_record_23 dX1_record_26 dX1_record_27 dX1_record_29 dX1_record_32 (by decide +kernel) (by decide +kernel) (fun w h => List.mem_cons_of_mem _ (List.mem_append_left _ (List.mem_append_right _ h))) (by rw [hk9]; decide) (by rw [hk9]; rfl) (Nat.le_of_ble_eq_true rfl) (Nat.le_of_ble_eq_true rfl) (Nat.le_of_ble_eq_true rfl) (Nat.le_of_ble_eq_true rfl) (by decide) (by decide)

set_option maxHeartbeats 4000000 in
set_option maxRecDepth 100000 in
theorem x_X1_triage (l : Launch) (D : va_G) (cI cZ cQ cJ : ClassId) (a : Nat → Nat) (S : zS) (hok : zOK S) (hl : l.stackTraces = false) (u0 u1 u2 : Int32) : v_Thr l yX1_triage wsX1_triage { frames := 7, cells := 4, slots := 24, locals := 111 } D (wTy cI cZ cQ cJ) [.ref (a 0), .int (u0), .int (u1), .int (u2)] (wX cI cZ cQ a S) (kk2 (zin u0 (z_nt S) && zin u1 (z_nc S) && zin u2 (z_nc S)) (decide (iN u1 < iN u2))) exIG (some (.int (nI (zcc (stri S (iN u0) (iN u1) (iN u2)) (iN u0))))) (wX cI cZ cQ a (stri S (iN u0) (iN u1) (iN u2))) 4 24 := by
  refine v_thrower (cc := cX1_triage) (maxL := 4) (ret := (some .int)) (own := RX1) (lv0 := [(0, .ref (a 0)), (1, .int (u0)), (2, .int (u1)), (3, .int (u2))]) (by decide) rfl rfl (Nat.le_of_ble_eq_true rfl) rfl ?_
  intro p9 e9 s9 m9 as9 bl9 me9 cd9 A E hA htab hTx hr
  have hinX1 : ∀ w ∈ u_ws RX1 TX1 15, w ∈ wsX1_triage := by decide +kernel
  obtain ⟨⟨k1, k2, k3, k4, k5, k6, k7, k8⟩, k9, k10, k11, k12, k13⟩ := id hok
  refine v_aload_n E dX1_triage_0 0 rfl rfl ?_
  refine v_iload_n E dX1_triage_1 1 rfl rfl ?_
  have hp2 : kk1 (zin ((u0)) (z_nt S)) ≠ 0 → kk2 (zin u0 (z_nt S) && zin u1 (z_nc S) && zin u2 (z_nc S)) (decide (iN u1 < iN u2)) ≠ 0 ∧ exI (kk1 (zin ((u0)) (z_nt S))) = exIG (kk2 (zin u0 (z_nt S) && zin u1 (z_nc S) && zin u2 (z_nc S)) (decide (iN u1 < iN u2))) := by
    intro hk
    have e9 : kk2 (zin u0 (z_nt S) && zin u1 (z_nc S) && zin u2 (z_nc S)) (decide (iN u1 < iN u2)) = 1 := kk2_f (by rw [kk1_n hk]; rfl)
    rw [e9]
    exact ⟨by decide, rfl⟩
  refine x_cVp E hA htab hTx dX1_triage_2 (x_X1_needTest l D cI cZ cQ cJ a S hok hl ((u0))) (cwV 1 E.2.2.2.1 gX1_triage_X1_needTest rfl rfl rfl (by decide +kernel) ⟨Nat.le_of_ble_eq_true rfl, Nat.le_of_ble_eq_true rfl⟩) 0 rfl rfl rfl rfl rfl ⟨Nat.le_of_ble_eq_true rfl, Nat.le_of_ble_eq_true rfl⟩ (Nat.le_of_ble_eq_true rfl) hp2 (by decide) (by decide) (fun hk2 => ?_)
  obtain ⟨t, ht, rfl⟩ := zin_of (by omega) (kk1_z hk2)
  try simp only [iN_nI (show t < 2 ^ 31 by omega)]
  have hzt := zin_n ht (show z_nt S ≤ 2 ^ 31 by omega)
  refine v_aload_n E dX1_triage_5 0 rfl rfl ?_
  refine v_iload_n E dX1_triage_6 2 rfl rfl ?_
  have hp7 : kk1 (zin ((u1)) (z_nc S)) ≠ 0 → kk2 (zin (nI (t)) (z_nt S) && zin u1 (z_nc S) && zin u2 (z_nc S)) (decide (iN u1 < iN u2)) ≠ 0 ∧ exI (kk1 (zin ((u1)) (z_nc S))) = exIG (kk2 (zin (nI (t)) (z_nt S) && zin u1 (z_nc S) && zin u2 (z_nc S)) (decide (iN u1 < iN u2))) := by
    intro hk
    have e9 : kk2 (zin (nI (t)) (z_nt S) && zin u1 (z_nc S) && zin u2 (z_nc S)) (decide (iN u1 < iN u2)) = 1 := kk2_f (by rw [kk1_n hk, Bool.and_false]; rfl)
    rw [e9]
    exact ⟨by decide, rfl⟩
  refine x_cVp E hA htab hTx dX1_triage_7 (x_X1_needCommit l D cI cZ cQ cJ a S hok hl ((u1))) (cwV 1 E.2.2.2.1 gX1_triage_X1_needCommit rfl rfl rfl (by decide +kernel) ⟨Nat.le_of_ble_eq_true rfl, Nat.le_of_ble_eq_true rfl⟩) 0 rfl rfl rfl rfl rfl ⟨Nat.le_of_ble_eq_true rfl, Nat.le_of_ble_eq_true rfl⟩ (Nat.le_of_ble_eq_true rfl) hp7 (by decide) (by decide) (fun hk7 => ?_)
  obtain ⟨g, hg, rfl⟩ := zin_of (by omega) (kk1_z hk7)
  try simp only [iN_nI (show g < 2 ^ 31 by omega)]
  have hzg := zin_n hg (show z_nc S ≤ 2 ^ 31 by omega)
  refine v_aload_n E dX1_triage_10 0 rfl rfl ?_
  refine v_iload_n E dX1_triage_11 3 rfl rfl ?_
  have hp12 : kk1 (zin ((u2)) (z_nc S)) ≠ 0 → kk2 (zin (nI (t)) (z_nt S) && zin (nI (g)) (z_nc S) && zin u2 (z_nc S)) (decide (g < iN u2)) ≠ 0 ∧ exI (kk1 (zin ((u2)) (z_nc S))) = exIG (kk2 (zin (nI (t)) (z_nt S) && zin (nI (g)) (z_nc S) && zin u2 (z_nc S)) (decide (g < iN u2))) := by
    intro hk
    have e9 : kk2 (zin (nI (t)) (z_nt S) && zin (nI (g)) (z_nc S) && zin u2 (z_nc S)) (decide (g < iN u2)) = 1 := kk2_f (by rw [kk1_n hk, Bool.and_false])
    rw [e9]
    exact ⟨by decide, rfl⟩
  refine x_cVp E hA htab hTx dX1_triage_12 (x_X1_needCommit l D cI cZ cQ cJ a S hok hl ((u2))) (cwV 1 E.2.2.2.1 gX1_triage_X1_needCommit rfl rfl rfl (by decide +kernel) ⟨Nat.le_of_ble_eq_true rfl, Nat.le_of_ble_eq_true rfl⟩) 0 rfl rfl rfl rfl rfl ⟨Nat.le_of_ble_eq_true rfl, Nat.le_of_ble_eq_true rfl⟩ (Nat.le_of_ble_eq_true rfl) hp12 (by decide) (by decide) (fun hk12 => ?_)
  obtain ⟨bb, hbb, rfl⟩ := zin_of (by omega) (kk1_z hk12)
  try simp only [iN_nI (show bb < 2 ^ 31 by omega)]
  have hzbb := zin_n hbb (show z_nc S ≤ 2 ^ 31 by omega)
  refine v_iload_n E dX1_triage_15 3 rfl rfl ?_
  refine v_iload_n E dX1_triage_16 2 rfl rfl ?_
  refine n_icmp_gt E dX1_triage_17 (by omega) (by omega) (tgt := 30) (by decide) (fun c17 => ?_) (fun c17 => ?_)
  · refine v_aload_n E dX1_triage_30 0 rfl rfl ?_
    refine v_get E dX1_triage_31 0 4 hinX1 rfl rfl (by decide) (by decide +kernel) rfl rfl ?_
    refine v_iload_n E dX1_triage_34 1 rfl rfl ?_
    refine v_iconst E dX1_triage_35 (v := nI 1) rfl ?_
    refine v_top (y := bI (true)) rfl ?_
    refine v_zast E dX1_triage_36 5 1 rfl rfl (by omega) (by decide) (w' := (wX cI cZ cQ a (zs_T S (va_up (z_T S) (t) (true))))) (wX_a_T _ _) ?_
    refine v_aload_n E dX1_triage_37 0 rfl rfl ?_
    refine v_get E dX1_triage_38 0 5 hinX1 rfl rfl (by decide) (by decide +kernel) rfl rfl ?_
    refine v_iload_n E dX1_triage_41 1 rfl rfl ?_
    refine v_iload_n E dX1_triage_42 2 rfl rfl ?_
    refine v_iast E dX1_triage_43 6 0 rfl rfl (by omega) (by decide) (w' := (wX cI cZ cQ a (zs_G (zs_T S (va_up (z_T S) (t) (true))) (va_up (z_G (zs_T S (va_up (z_T S) (t) (true)))) (t) (g))))) (wX_a_G _ _) ?_
    refine v_aload_n E dX1_triage_44 0 rfl rfl ?_
    refine v_get E dX1_triage_45 0 6 hinX1 rfl rfl (by decide) (by decide +kernel) rfl rfl ?_
    refine v_iload_n E dX1_triage_48 1 rfl rfl ?_
    refine v_iload_n E dX1_triage_49 3 rfl rfl ?_
    refine v_iast E dX1_triage_50 7 0 rfl rfl (by omega) (by decide) (w' := (wX cI cZ cQ a (zs_B (zs_G (zs_T S (va_up (z_T S) (t) (true))) (va_up (z_G (zs_T S (va_up (z_T S) (t) (true)))) (t) (g))) (va_up (z_B (zs_G (zs_T S (va_up (z_T S) (t) (true))) (va_up (z_G (zs_T S (va_up (z_T S) (t) (true)))) (t) (g)))) (t) (bb))))) (wX_a_B _ _) ?_
    refine v_aload_n E dX1_triage_51 0 rfl rfl ?_
    refine v_iload_n E dX1_triage_52 1 rfl rfl ?_
    refine v_cVl' E dX1_triage_53 (x_X1_candidatesOf l D cI cZ cQ cJ a (stri S t g bb) (zOK_tri hok ht c17 hbb) (t) (by omega) (stri_T S t g bb)) (cwV 1 E.2.2.2.1 gX1_triage_X1_candidatesOf rfl rfl rfl (by decide +kernel) ⟨Nat.le_of_ble_eq_true rfl, Nat.le_of_ble_eq_true rfl⟩) 0 rfl rfl rfl (fun _ h => h) rfl rfl ⟨Nat.le_of_ble_eq_true rfl, Nat.le_of_ble_eq_true rfl⟩ (Nat.le_of_ble_eq_true rfl) ?_
    refine v_cSi' E dX1_triage_56 (x_J13_bitCount_95d88 l D cI cZ cQ cJ (msk (cnd (stri S t g bb) (t)) (z_B (stri S t g bb) (t) + 1)) (Nat.lt_trans (msk_lt62 _ (by rw [stri_B]; omega)) (by decide))) (va_cwS 1 E.2.2.2.1 gX1_triage_J13_bitCount_95d88 rfl rfl rfl (by decide +kernel) ⟨Nat.le_of_ble_eq_true rfl, Nat.le_of_ble_eq_true rfl⟩) (fun _ _ => v_nil _) rfl rfl ⟨Nat.le_of_ble_eq_true rfl, Nat.le_of_ble_eq_true rfl⟩ (Nat.le_of_ble_eq_true rfl) ?_
    exact x_ret E hr (kk2_t (by rw [hzt, hzg, hzbb]; rfl) (decide_eq_true c17)) (by unfold zcc; rw [pop_msk (n := z_B (stri S t g bb) t + 1) (by rw [stri_B]; omega)]) (by decide) (by decide) dX1_triage_59
  · have hk9 : kk2 (zin (nI (t)) (z_nt S) && zin (nI (g)) (z_nc S) && zin (nI (bb)) (z_nc S)) (decide (g < bb)) = 2 := kk2_2 (by rw [hzt, hzg, hzbb]; rfl) (decide_eq_false (by omega))
    exact x_throwG E htab hTx hl (is := 104) (text := "the bad commit is not later than the good one") (by decide +kernel) dX1_triage_20 dX1_triage_23 dX1_triage_24 dX1_triage_26 dX1_triage_29 (by decide +kernel) (by decide +kernel) (fun w h => List.mem_cons_of_mem _ (List.mem_append_left _ (List.mem_append_right _ h))) (by rw [hk9]; decide) (by rw [hk9]; rfl) (Nat.le_of_ble_eq_true rfl) (Nat.le_of_ble_eq_true rfl) (Nat.le_of_ble_eq_true rfl) (Nat.le_of_ble_eq_true rfl) (by decide) (by decide)

set_option maxHeartbeats 4000000 in
set_option maxRecDepth 100000 in
theorem x_X1_joinQueue (l : Launch) (D : va_G) (cI cZ cQ cJ : ClassId) (a : Nat → Nat) (S : zS) (hok : zOK S)  (t : Nat) (ht : t < 12) (hp : ∀ k, k < z_qn S → z_Q S k ≠ t) : v_Thr l yX1_joinQueue wsX1_joinQueue { frames := 0, cells := 0, slots := 0, locals := 0 } D (wTy cI cZ cQ cJ) [.ref (a 0), .int (nI (t))] (wX cI cZ cQ a S) (0) exI none (wX cI cZ cQ a (sjn S t)) 0 0 := by
  refine v_thrower (cc := cX1_joinQueue) (maxL := 2) (ret := none) (own := RX1) (lv0 := [(0, .ref (a 0)), (1, .int (nI (t)))]) (by decide) rfl rfl (Nat.le_of_ble_eq_true rfl) rfl ?_
  intro p9 e9 s9 m9 as9 bl9 me9 cd9 A E hA htab hTx hr
  have hinX1 : ∀ w ∈ u_ws RX1 TX1 15, w ∈ wsX1_joinQueue := by decide +kernel
  obtain ⟨⟨k1, k2, k3, k4, k5, k6, k7, k8⟩, k9, k10, k11, k12, k13⟩ := id hok
  have hqn := zqn_le hok
  refine v_w (w' := wXp cI cZ cQ a S (fun j => plc (z_Q S) (z_qn S) j)) wXp_self ?_
  refine v_aload_n E dX1_joinQueue_0 0 rfl rfl ?_
  refine v_dup E dX1_joinQueue_1 rfl ?_
  refine v_get E dX1_joinQueue_2 0 8 hinX1 rfl rfl (by decide) (by decide +kernel) rfl rfl ?_
  refine v_iconst E dX1_joinQueue_5 (v := nI 1) rfl ?_
  refine v_iadd E dX1_joinQueue_6 (nI_add _ _) ?_
  refine v_put E dX1_joinQueue_7 0 8 tyX1 tyX1_ok nmX1 hinX1 rfl rfl (by decide) (by decide +kernel) rfl rfl rfl rfl rfl (Nat.le_of_ble_eq_true rfl) (w' := (wXp cI cZ cQ a (zs_qn S (z_qn S + 1)) (fun j => plc (z_Q S) (z_qn S) j))) (wXp_qn _) ?_
  refine v_aload_n E dX1_joinQueue_10 0 rfl rfl ?_
  refine v_get E dX1_joinQueue_11 0 7 hinX1 rfl rfl (by decide) (by decide +kernel) rfl rfl ?_
  refine v_iload_n E dX1_joinQueue_14 1 rfl rfl ?_
  refine v_aload_n E dX1_joinQueue_15 0 rfl rfl ?_
  refine v_get E dX1_joinQueue_16 0 8 hinX1 rfl rfl (by decide) (by decide +kernel) rfl rfl ?_
  refine v_iast E dX1_joinQueue_19 8 0 rfl rfl (by omega) (by decide) (w' := (wXp cI cZ cQ a (zs_qn S (z_qn S + 1)) (va_up (fun j => plc (z_Q S) (z_qn S) j) (t) (z_qn (zs_qn S (z_qn S + 1)))))) (wXp_pl _ _) ?_
  refine v_w (w' := wX cI cZ cQ a (sjn S t)) (join_w hp) ?_
  exact x_retv E hr rfl rfl (by decide) (by decide) dX1_joinQueue_20

set_option maxHeartbeats 4000000 in
set_option maxRecDepth 100000 in
theorem x_X1_leaveQueue (l : Launch) (D : va_G) (cI cZ cQ cJ : ClassId) (a : Nat → Nat) (S : zS) (hok : zOK S)  (t : Nat) (ht : t < 12) : v_Thr l yX1_leaveQueue wsX1_leaveQueue { frames := 0, cells := 0, slots := 0, locals := 0 } D (wTy cI cZ cQ cJ) [.ref (a 0), .int (nI (t))] (wX cI cZ cQ a S) (0) exI none (wX cI cZ cQ a (slv S t)) 0 0 := by
  refine v_thrower (cc := cX1_leaveQueue) (maxL := 4) (ret := none) (own := RX1) (lv0 := [(0, .ref (a 0)), (1, .int (nI (t)))]) (by decide) rfl rfl (Nat.le_of_ble_eq_true rfl) rfl ?_
  intro p9 e9 s9 m9 as9 bl9 me9 cd9 A E hA htab hTx hr
  have hinX1 : ∀ w ∈ u_ws RX1 TX1 15, w ∈ wsX1_leaveQueue := by decide +kernel
  obtain ⟨⟨k1, k2, k3, k4, k5, k6, k7, k8⟩, k9, k10, k11, k12, k13⟩ := id hok
  have hqn := zqn_le hok
  have hpt := plc_le (z_Q S) t (z_qn S)
  refine v_aload_n E dX1_leaveQueue_0 0 rfl rfl ?_
  refine v_get E dX1_leaveQueue_1 0 7 hinX1 rfl rfl (by decide) (by decide +kernel) rfl rfl ?_
  refine v_iload_n E dX1_leaveQueue_4 1 rfl rfl ?_
  refine v_iald E dX1_leaveQueue_5 8 0 rfl rfl (by omega) (by decide) rfl ?_
  refine v_istore_n E dX1_leaveQueue_6 rfl (by decide) rfl ?_
  refine v_iload_n E dX1_leaveQueue_7 0 rfl rfl ?_
  refine n_if_ne E dX1_leaveQueue_8 (by omega) (tgt := 12) (by decide) (fun c8 => ?_) (fun c8 => ?_)
  · refine v_w (w' := wXp cI cZ cQ a S (fun j => plc (z_Q S) (z_qn S) j)) wXp_self ?_
    refine v_iconst E dX1_leaveQueue_12 (v := nI 0) rfl ?_
    refine v_istore_n E dX1_leaveQueue_13 rfl (by decide) rfl ?_
    have L14_1 : ∀ (n14 : Nat) (pl : Nat → Nat) (c : Nat), z_nt S - c < n14 → (∀ j, pl j = if j < c ∧ plc (z_Q S) (z_qn S) t < plc (z_Q S) (z_qn S) j then plc (z_Q S) (z_qn S) j - 1 else plc (z_Q S) (z_qn S) j) → (c ≤ z_nt S) → V p9 l e9 (headSpec wsX1_leaveQueue { frames := 0, cells := 0, slots := 0, locals := 0 }).room s9 m9 as9 bl9 me9 cd9 0 0 (vx_MQ bl9 (v_Qo D (wTy cI cZ cQ cJ) (0 = 0) none (wX cI cZ cQ a (slv S t)) A) (v_XC D (wTy cI cZ cQ cJ) (0) exI (wX cI cZ cQ a S) A) as9 s9 0 0 A) (v_rw D A s9) 4 14 [(3, .int (nI (c))), (2, .int (nI (plc (z_Q S) (z_qn S) (t)))), (0, .ref (a 0)), (1, .int (nI (t)))] [] (wXp cI cZ cQ a S pl) := by
      intro n14
      induction n14 with
      | zero => intro pl c hm14 hpl9 h2; exact absurd hm14 (Nat.not_lt_zero _)
      | succ n14 ih14 =>
        intro pl c hm14 hpl9 h2
        refine v_iload_n E dX1_leaveQueue_14 0 rfl rfl ?_
        refine v_aload_n E dX1_leaveQueue_15 2 rfl rfl ?_
        refine v_get E dX1_leaveQueue_16 0 10 hinX1 rfl rfl (by decide) (by decide +kernel) rfl rfl ?_
        refine n_icmp_ge E dX1_leaveQueue_19 (by omega) (by omega) (tgt := 48) (by decide) (fun c19 => ?_) (fun c19 => ?_)
        · refine v_aload_n E dX1_leaveQueue_48 2 rfl rfl ?_
          refine v_get E dX1_leaveQueue_49 0 7 hinX1 rfl rfl (by decide) (by decide +kernel) rfl rfl ?_
          refine v_iload_n E dX1_leaveQueue_52 3 rfl rfl ?_
          refine v_iconst E dX1_leaveQueue_53 (v := nI 0) rfl ?_
          refine v_iast E dX1_leaveQueue_54 8 0 rfl rfl (by omega) (by decide) (w' := (wXp cI cZ cQ a S (va_up pl (t) (0)))) (wXp_pl _ _) ?_
          refine v_aload_n E dX1_leaveQueue_55 2 rfl rfl ?_
          refine v_dup E dX1_leaveQueue_56 rfl ?_
          refine v_get E dX1_leaveQueue_57 0 8 hinX1 rfl rfl (by decide) (by decide +kernel) rfl rfl ?_
          refine v_iconst E dX1_leaveQueue_60 (v := nI 1) rfl ?_
          refine v_isub E dX1_leaveQueue_61 (pk_sub (by omega)) ?_
          refine v_put E dX1_leaveQueue_62 0 8 tyX1 tyX1_ok nmX1 hinX1 rfl rfl (by decide) (by decide +kernel) rfl rfl rfl rfl rfl (Nat.le_of_ble_eq_true rfl) (w' := (wXp cI cZ cQ a (zs_qn S (z_qn S - 1)) (va_up pl (t) (0)))) (wXp_qn _) ?_
          refine v_w (w' := wX cI cZ cQ a (slv S t)) (leave_w hok c8 (by rw [show c = z_nt S by omega] at hpl9; exact hpl9)) ?_
          exact x_retv E hr rfl rfl (by decide) (by decide) dX1_leaveQueue_65
        · refine v_aload_n E dX1_leaveQueue_22 2 rfl rfl ?_
          refine v_get E dX1_leaveQueue_23 0 7 hinX1 rfl rfl (by decide) (by decide +kernel) rfl rfl ?_
          refine v_iload_n E dX1_leaveQueue_26 0 rfl rfl ?_
          refine v_iald E dX1_leaveQueue_27 8 0 rfl rfl (by omega) (by decide) rfl ?_
          have hpc : pl c = plc (z_Q S) (z_qn S) c := by rw [hpl9, if_neg (by omega)]
          have hplc := plc_le (z_Q S) c (z_qn S)
          refine v_iload_n E dX1_leaveQueue_28 1 rfl rfl ?_
          refine n_icmp_le E dX1_leaveQueue_29 (by omega) (by omega) (tgt := 42) (by decide) (fun c29 => ?_) (fun c29 => ?_)
          · refine v_iinc E dX1_leaveQueue_42 0 rfl (nI_1 _) (by decide) rfl ?_
            refine v_goto E dX1_leaveQueue_45 (tgt := 14) (by decide) ?_
            refine v_lv [0, 1, 2, 3] rfl ?_
            exact ih14 (pl) (c + 1) (by omega) (lvq_f hpl9 c29) (by omega)
          · refine v_aload_n E dX1_leaveQueue_32 2 rfl rfl ?_
            refine v_get E dX1_leaveQueue_33 0 7 hinX1 rfl rfl (by decide) (by decide +kernel) rfl rfl ?_
            refine v_iload_n E dX1_leaveQueue_36 0 rfl rfl ?_
            refine v_dup2 E dX1_leaveQueue_37 rfl rfl ?_
            refine v_iald E dX1_leaveQueue_38 8 0 rfl rfl (by omega) (by decide) rfl ?_
            refine v_iconst E dX1_leaveQueue_39 (v := nI 1) rfl ?_
            refine v_isub E dX1_leaveQueue_40 (pk_sub (by omega)) ?_
            refine v_iast E dX1_leaveQueue_41 8 0 rfl rfl (by omega) (by decide) (w' := (wXp cI cZ cQ a S (va_up pl (c) (pl (c) - 1)))) (wXp_pl _ _) ?_
            refine v_iinc E dX1_leaveQueue_42 0 rfl (nI_1 _) (by decide) rfl ?_
            refine v_goto E dX1_leaveQueue_45 (tgt := 14) (by decide) ?_
            refine v_lv [0, 1, 2, 3] rfl ?_
            exact ih14 ((va_up pl (c) (pl (c) - 1))) (c + 1) (by omega) (lvq_t hpl9 c29) (by omega)
    refine v_lv [0, 1, 2, 3] rfl ?_
    exact L14_1 ((z_nt S - (0)) + 1) ((fun j => plc (z_Q S) (z_qn S) j)) (0) (by omega) (fun j => by rw [if_neg (by omega)]) (by omega)
  · refine v_w (w' := wX cI cZ cQ a (slv S t)) (by rw [show slv S t = S from if_pos c8]) ?_
    exact x_retv E hr rfl rfl (by decide) (by decide) dX1_leaveQueue_11

set_option maxHeartbeats 4000000 in
set_option maxRecDepth 100000 in
theorem x_X1_enqueue (l : Launch) (D : va_G) (cI cZ cQ cJ : ClassId) (a : Nat → Nat) (S : zS) (hok : zOK S) (hl : l.stackTraces = false) (u0 : Int32) : v_Thr l yX1_enqueue wsX1_enqueue { frames := 7, cells := 3, slots := 18, locals := 111 } D (wTy cI cZ cQ cJ) [.ref (a 0), .int (u0)] (wX cI cZ cQ a S) (kk2 (zin u0 (z_nt S)) (z_T S (iN u0) && decide (plc (z_Q S) (z_qn S) (iN u0) = 0))) exIS (some (.int (nI (z_qn S + 1)))) (wX cI cZ cQ a (sjn S (iN u0))) 3 18 := by
  refine v_thrower (cc := cX1_enqueue) (maxL := 2) (ret := (some .int)) (own := RX1) (lv0 := [(0, .ref (a 0)), (1, .int (u0))]) (by decide) rfl rfl (Nat.le_of_ble_eq_true rfl) rfl ?_
  intro p9 e9 s9 m9 as9 bl9 me9 cd9 A E hA htab hTx hr
  have hinX1 : ∀ w ∈ u_ws RX1 TX1 15, w ∈ wsX1_enqueue := by decide +kernel
  obtain ⟨⟨k1, k2, k3, k4, k5, k6, k7, k8⟩, k9, k10, k11, k12, k13⟩ := id hok
  refine v_aload_n E dX1_enqueue_0 0 rfl rfl ?_
  refine v_iload_n E dX1_enqueue_1 1 rfl rfl ?_
  have hp2 : kk1 (zin ((u0)) (z_nt S)) ≠ 0 → kk2 (zin u0 (z_nt S)) (z_T S (iN u0) && decide (plc (z_Q S) (z_qn S) (iN u0) = 0)) ≠ 0 ∧ exI (kk1 (zin ((u0)) (z_nt S))) = exIS (kk2 (zin u0 (z_nt S)) (z_T S (iN u0) && decide (plc (z_Q S) (z_qn S) (iN u0) = 0))) := by
    intro hk
    have e9 : kk2 (zin u0 (z_nt S)) (z_T S (iN u0) && decide (plc (z_Q S) (z_qn S) (iN u0) = 0)) = 1 := kk2_f (kk1_n hk)
    rw [e9]
    exact ⟨by decide, rfl⟩
  refine x_cVp E hA htab hTx dX1_enqueue_2 (x_X1_needTest l D cI cZ cQ cJ a S hok hl ((u0))) (cwV 1 E.2.2.2.1 gX1_enqueue_X1_needTest rfl rfl rfl (by decide +kernel) ⟨Nat.le_of_ble_eq_true rfl, Nat.le_of_ble_eq_true rfl⟩) 0 rfl rfl rfl rfl rfl ⟨Nat.le_of_ble_eq_true rfl, Nat.le_of_ble_eq_true rfl⟩ (Nat.le_of_ble_eq_true rfl) hp2 (by decide) (by decide) (fun hk2 => ?_)
  obtain ⟨t, ht, rfl⟩ := zin_of (by omega) (kk1_z hk2)
  try simp only [iN_nI (show t < 2 ^ 31 by omega)]
  have hzt := zin_n ht (show z_nt S ≤ 2 ^ 31 by omega)
  refine v_aload_n E dX1_enqueue_5 0 rfl rfl ?_
  refine v_iload_n E dX1_enqueue_6 1 rfl rfl ?_
  have hp7 : kk1 (z_T S (t)) ≠ 0 → kk2 (zin (nI (t)) (z_nt S)) (z_T S (t) && decide (plc (z_Q S) (z_qn S) (t) = 0)) ≠ 0 ∧ exS (kk1 (z_T S (t))) = exIS (kk2 (zin (nI (t)) (z_nt S)) (z_T S (t) && decide (plc (z_Q S) (z_qn S) (t) = 0))) := by
    intro hk
    have e9 : kk2 (zin (nI (t)) (z_nt S)) (z_T S (t) && decide (plc (z_Q S) (z_qn S) (t) = 0)) = 2 := kk2_2 hzt (by rw [kk1_n hk]; rfl)
    rw [e9]
    exact ⟨by decide, rfl⟩
  refine x_cVp E hA htab hTx dX1_enqueue_7 (x_X1_needTriage l D cI cZ cQ cJ a S hok hl (t) (by omega)) (cwV 1 E.2.2.2.1 gX1_enqueue_X1_needTriage rfl rfl rfl (by decide +kernel) ⟨Nat.le_of_ble_eq_true rfl, Nat.le_of_ble_eq_true rfl⟩) 0 rfl rfl rfl rfl rfl ⟨Nat.le_of_ble_eq_true rfl, Nat.le_of_ble_eq_true rfl⟩ (Nat.le_of_ble_eq_true rfl) hp7 (by decide) (by decide) (fun hk7 => ?_)
  have hT := kk1_z hk7
  obtain ⟨q1, q2, q3⟩ := k10 t hT
  refine v_aload_n E dX1_enqueue_10 0 rfl rfl ?_
  refine v_get E dX1_enqueue_11 0 7 hinX1 rfl rfl (by decide) (by decide +kernel) rfl rfl ?_
  refine v_iload_n E dX1_enqueue_14 1 rfl rfl ?_
  refine v_iald E dX1_enqueue_15 8 0 rfl rfl (by omega) (by decide) rfl ?_
  have hqn := zqn_le hok
  have hpt := plc_le (z_Q S) t (z_qn S)
  refine n_if_eq E dX1_enqueue_16 (by omega) (tgt := 29) (by decide) (fun c16 => ?_) (fun c16 => ?_)
  · refine v_aload_n E dX1_enqueue_29 0 rfl rfl ?_
    refine v_iload_n E dX1_enqueue_30 1 rfl rfl ?_
    refine x_cVn E hA hTx dX1_enqueue_31 (x_X1_joinQueue l D cI cZ cQ cJ a S hok (t) (by omega) (fun k hk => plc_n c16 k11.2 hk)) (cwV 1 E.2.2.2.1 gX1_enqueue_X1_joinQueue rfl rfl rfl (by decide +kernel) ⟨Nat.le_of_ble_eq_true rfl, Nat.le_of_ble_eq_true rfl⟩) 0 rfl rfl rfl rfl rfl ⟨Nat.le_of_ble_eq_true rfl, Nat.le_of_ble_eq_true rfl⟩ (Nat.le_of_ble_eq_true rfl) ?_
    refine v_aload_n E dX1_enqueue_34 0 rfl rfl ?_
    refine v_get E dX1_enqueue_35 0 8 hinX1 rfl rfl (by decide) (by decide +kernel) rfl rfl ?_
    exact x_ret E hr (kk2_t hzt (by rw [hT, decide_eq_true c16]; rfl)) rfl (by decide) (by decide) dX1_enqueue_38
  · have hk9 : kk2 (zin (nI (t)) (z_nt S)) (z_T S (t) && decide (plc (z_Q S) (z_qn S) (t) = 0)) = 2 := kk2_2 hzt (by rw [hT, decide_eq_false (Nat.ne_of_gt c16)]; rfl)
    exact x_throwS E htab hTx hl (is := 126) (text := "the test is in the queue already") (by decide +kernel) dX1_enqueue_19 dX1_enqueue_22 dX1_enqueue_23 dX1_enqueue_25 dX1_enqueue_28 (by decide +kernel) (by decide +kernel) (fun w h => List.mem_cons_of_mem _ (List.mem_append_left _ (List.mem_append_right _ h))) (by rw [hk9]; decide) (by rw [hk9]; rfl) (Nat.le_of_ble_eq_true rfl) (Nat.le_of_ble_eq_true rfl) (Nat.le_of_ble_eq_true rfl) (Nat.le_of_ble_eq_true rfl) (by decide) (by decide)

set_option maxHeartbeats 4000000 in
set_option maxRecDepth 100000 in
theorem x_X1_close (l : Launch) (D : va_G) (cI cZ cQ cJ : ClassId) (a : Nat → Nat) (S : zS) (hok : zOK S) (hl : l.stackTraces = false) (u0 : Int32) : v_Thr l yX1_close wsX1_close { frames := 7, cells := 2, slots := 12, locals := 111 } D (wTy cI cZ cQ cJ) [.ref (a 0), .int (u0)] (wX cI cZ cQ a S) (kk2 (zin u0 (z_nt S)) (z_T S (iN u0))) exIS (some (.int (zonly S (iN u0)))) (wX cI cZ cQ a (sclo S (iN u0))) 2 12 := by
  refine v_thrower (cc := cX1_close) (maxL := 3) (ret := (some .int)) (own := RX1) (lv0 := [(0, .ref (a 0)), (1, .int (u0))]) (by decide) rfl rfl (Nat.le_of_ble_eq_true rfl) rfl ?_
  intro p9 e9 s9 m9 as9 bl9 me9 cd9 A E hA htab hTx hr
  have hinX1 : ∀ w ∈ u_ws RX1 TX1 15, w ∈ wsX1_close := by decide +kernel
  obtain ⟨⟨k1, k2, k3, k4, k5, k6, k7, k8⟩, k9, k10, k11, k12, k13⟩ := id hok
  refine v_aload_n E dX1_close_0 0 rfl rfl ?_
  refine v_iload_n E dX1_close_1 1 rfl rfl ?_
  have hp2 : kk1 (zin ((u0)) (z_nt S)) ≠ 0 → kk2 (zin u0 (z_nt S)) (z_T S (iN u0)) ≠ 0 ∧ exI (kk1 (zin ((u0)) (z_nt S))) = exIS (kk2 (zin u0 (z_nt S)) (z_T S (iN u0))) := by
    intro hk
    have e9 : kk2 (zin u0 (z_nt S)) (z_T S (iN u0)) = 1 := kk2_f (kk1_n hk)
    rw [e9]
    exact ⟨by decide, rfl⟩
  refine x_cVp E hA htab hTx dX1_close_2 (x_X1_needTest l D cI cZ cQ cJ a S hok hl ((u0))) (cwV 1 E.2.2.2.1 gX1_close_X1_needTest rfl rfl rfl (by decide +kernel) ⟨Nat.le_of_ble_eq_true rfl, Nat.le_of_ble_eq_true rfl⟩) 0 rfl rfl rfl rfl rfl ⟨Nat.le_of_ble_eq_true rfl, Nat.le_of_ble_eq_true rfl⟩ (Nat.le_of_ble_eq_true rfl) hp2 (by decide) (by decide) (fun hk2 => ?_)
  obtain ⟨t, ht, rfl⟩ := zin_of (by omega) (kk1_z hk2)
  try simp only [iN_nI (show t < 2 ^ 31 by omega)]
  have hzt := zin_n ht (show z_nt S ≤ 2 ^ 31 by omega)
  refine v_aload_n E dX1_close_5 0 rfl rfl ?_
  refine v_iload_n E dX1_close_6 1 rfl rfl ?_
  have hp7 : kk1 (z_T S (t)) ≠ 0 → kk2 (zin (nI (t)) (z_nt S)) (z_T S (t)) ≠ 0 ∧ exS (kk1 (z_T S (t))) = exIS (kk2 (zin (nI (t)) (z_nt S)) (z_T S (t))) := by
    intro hk
    have e9 : kk2 (zin (nI (t)) (z_nt S)) (z_T S (t)) = 2 := kk2_2 hzt (kk1_n hk)
    rw [e9]
    exact ⟨by decide, rfl⟩
  refine x_cVp E hA htab hTx dX1_close_7 (x_X1_needTriage l D cI cZ cQ cJ a S hok hl (t) (by omega)) (cwV 1 E.2.2.2.1 gX1_close_X1_needTriage rfl rfl rfl (by decide +kernel) ⟨Nat.le_of_ble_eq_true rfl, Nat.le_of_ble_eq_true rfl⟩) 0 rfl rfl rfl rfl rfl ⟨Nat.le_of_ble_eq_true rfl, Nat.le_of_ble_eq_true rfl⟩ (Nat.le_of_ble_eq_true rfl) hp7 (by decide) (by decide) (fun hk7 => ?_)
  have hT := kk1_z hk7
  obtain ⟨q1, q2, q3⟩ := k10 t hT
  refine v_aload_n E dX1_close_10 0 rfl rfl ?_
  refine v_iload_n E dX1_close_11 1 rfl rfl ?_
  refine v_cVl' E dX1_close_12 (x_X1_candidatesOf l D cI cZ cQ cJ a S hok (t) (by omega) hT) (cwV 1 E.2.2.2.1 gX1_close_X1_candidatesOf rfl rfl rfl (by decide +kernel) ⟨Nat.le_of_ble_eq_true rfl, Nat.le_of_ble_eq_true rfl⟩) 0 rfl rfl rfl (fun _ h => h) rfl rfl ⟨Nat.le_of_ble_eq_true rfl, Nat.le_of_ble_eq_true rfl⟩ (Nat.le_of_ble_eq_true rfl) ?_
  refine v_cSi' E dX1_close_15 (x_J13_bitCount_95d88 l D cI cZ cQ cJ (msk (cnd S (t)) (z_B S (t) + 1)) (Nat.lt_trans (msk_lt62 _ (by omega)) (by decide))) (va_cwS 1 E.2.2.2.1 gX1_close_J13_bitCount_95d88 rfl rfl rfl (by decide +kernel) ⟨Nat.le_of_ble_eq_true rfl, Nat.le_of_ble_eq_true rfl⟩) (fun _ _ => v_nil _) rfl rfl ⟨Nat.le_of_ble_eq_true rfl, Nat.le_of_ble_eq_true rfl⟩ (Nat.le_of_ble_eq_true rfl) ?_
  have hp64 := pop_64 (msk (cnd S t) (z_B S t + 1))
  have hzc9 : pop (msk (cnd S t) (z_B S t + 1)) = zcc S t := pop_msk (by omega)
  refine v_iconst E dX1_close_18 (v := nI 1) rfl ?_
  refine n_icmp_ne E dX1_close_19 (by omega) (by omega) (tgt := 30) (by decide) (fun c19 => ?_) (fun c19 => ?_)
  · rw [hzc9] at c19
    refine v_iconst E dX1_close_30 (v := (-1)) rfl ?_
    refine v_istore_n E dX1_close_31 rfl (by decide) rfl ?_
    refine v_aload_n E dX1_close_32 1 rfl rfl ?_
    refine v_iload_n E dX1_close_33 2 rfl rfl ?_
    refine x_cVn E hA hTx dX1_close_34 (x_X1_leaveQueue l D cI cZ cQ cJ a S hok (t) (by omega)) (cwV 1 E.2.2.2.1 gX1_close_X1_leaveQueue rfl rfl rfl (by decide +kernel) ⟨Nat.le_of_ble_eq_true rfl, Nat.le_of_ble_eq_true rfl⟩) 0 rfl rfl rfl rfl rfl ⟨Nat.le_of_ble_eq_true rfl, Nat.le_of_ble_eq_true rfl⟩ (Nat.le_of_ble_eq_true rfl) ?_
    refine v_aload_n E dX1_close_37 1 rfl rfl ?_
    refine v_get E dX1_close_38 0 4 hinX1 rfl rfl (by decide) (by decide +kernel) rfl rfl ?_
    refine v_iload_n E dX1_close_41 2 rfl rfl ?_
    refine v_iconst E dX1_close_42 (v := nI 0) rfl ?_
    refine v_top (y := bI (false)) rfl ?_
    refine v_zast E dX1_close_43 5 1 rfl rfl (by omega) (by decide) (w' := (wX cI cZ cQ a (zs_T (slv S (t)) (va_up (z_T (slv S (t))) (t) (false))))) (wX_a_T _ _) ?_
    refine v_iload_n E dX1_close_44 0 rfl rfl ?_
    exact x_ret E hr (kk2_t hzt hT) (by unfold zonly; rw [if_neg c19]) (by decide) (by decide) dX1_close_45
  · rw [hzc9] at c19
    refine v_aload_n E dX1_close_22 0 rfl rfl ?_
    refine v_iload_n E dX1_close_23 1 rfl rfl ?_
    refine v_cVi' E dX1_close_24 (x_X1_likeliestOf l D cI cZ cQ cJ a S hok (t) (by omega) hT) (cwV 1 E.2.2.2.1 gX1_close_X1_likeliestOf rfl rfl rfl (by decide +kernel) ⟨Nat.le_of_ble_eq_true rfl, Nat.le_of_ble_eq_true rfl⟩) 0 rfl rfl rfl (fun _ h => h) rfl rfl ⟨Nat.le_of_ble_eq_true rfl, Nat.le_of_ble_eq_true rfl⟩ (Nat.le_of_ble_eq_true rfl) ?_
    refine v_goto E dX1_close_27 (tgt := 31) (by decide) ?_
    refine v_istore_n E dX1_close_31 rfl (by decide) rfl ?_
    refine v_aload_n E dX1_close_32 1 rfl rfl ?_
    refine v_iload_n E dX1_close_33 2 rfl rfl ?_
    refine x_cVn E hA hTx dX1_close_34 (x_X1_leaveQueue l D cI cZ cQ cJ a S hok (t) (by omega)) (cwV 1 E.2.2.2.1 gX1_close_X1_leaveQueue rfl rfl rfl (by decide +kernel) ⟨Nat.le_of_ble_eq_true rfl, Nat.le_of_ble_eq_true rfl⟩) 0 rfl rfl rfl rfl rfl ⟨Nat.le_of_ble_eq_true rfl, Nat.le_of_ble_eq_true rfl⟩ (Nat.le_of_ble_eq_true rfl) ?_
    refine v_aload_n E dX1_close_37 1 rfl rfl ?_
    refine v_get E dX1_close_38 0 4 hinX1 rfl rfl (by decide) (by decide +kernel) rfl rfl ?_
    refine v_iload_n E dX1_close_41 2 rfl rfl ?_
    refine v_iconst E dX1_close_42 (v := nI 0) rfl ?_
    refine v_top (y := bI (false)) rfl ?_
    refine v_zast E dX1_close_43 5 1 rfl rfl (by omega) (by decide) (w' := (wX cI cZ cQ a (zs_T (slv S (t)) (va_up (z_T (slv S (t))) (t) (false))))) (wX_a_T _ _) ?_
    refine v_iload_n E dX1_close_44 0 rfl rfl ?_
    exact x_ret E hr (kk2_t hzt hT) (by unfold zonly; rw [if_pos c19]) (by decide) (by decide) dX1_close_45

set_option maxHeartbeats 4000000 in
set_option maxRecDepth 100000 in
theorem x_X1_take (l : Launch) (D : va_G) (cI cZ cQ cJ : ClassId) (a : Nat → Nat) (S : zS) (hok : zOK S) (hl : l.stackTraces = false)  : v_Thr l yX1_take wsX1_take { frames := 6, cells := 1, slots := 6, locals := 101 } D (wTy cI cZ cQ cJ) [.ref (a 0)] (wX cI cZ cQ a S) (kk1 (decide (0 < z_qn S) && decide (0 < z_bu S))) exS (some (.int (nI (z_Q S 0)))) (wX cI cZ cQ a (stak S)) 1 6 := by
  refine v_thrower (cc := cX1_take) (maxL := 2) (ret := (some .int)) (own := RX1) (lv0 := [(0, .ref (a 0))]) (by decide) rfl rfl (Nat.le_of_ble_eq_true rfl) rfl ?_
  intro p9 e9 s9 m9 as9 bl9 me9 cd9 A E hA htab hTx hr
  have hinX1 : ∀ w ∈ u_ws RX1 TX1 15, w ∈ wsX1_take := by decide +kernel
  obtain ⟨⟨k1, k2, k3, k4, k5, k6, k7, k8⟩, k9, k10, k11, k12, k13⟩ := id hok
  refine v_aload_n E dX1_take_0 0 rfl rfl ?_
  refine v_cVi' E dX1_take_1 (x_X1_firstInQueue l D cI cZ cQ cJ a S hok ) (cwV 0 E.2.2.2.1 gX1_take_X1_firstInQueue rfl rfl rfl (by decide +kernel) ⟨Nat.le_of_ble_eq_true rfl, Nat.le_of_ble_eq_true rfl⟩) 0 rfl rfl rfl (fun _ h => h) rfl rfl ⟨Nat.le_of_ble_eq_true rfl, Nat.le_of_ble_eq_true rfl⟩ (Nat.le_of_ble_eq_true rfl) ?_
  refine v_istore_n E dX1_take_4 rfl (by decide) rfl ?_
  refine v_iload_n E dX1_take_5 0 rfl rfl ?_
  refine v_if_ge E dX1_take_6 (tgt := 19) (by decide) (fun c6 => ?_) (fun c6 => ?_)
  · have hq0 : 0 < z_qn S := zfq_pos c6
    have hT0 := k11.1 0 hq0
    obtain ⟨q1, q2, q3⟩ := k10 _ hT0
    rw [zfq_s hq0]
    refine v_aload_n E dX1_take_19 1 rfl rfl ?_
    refine v_get E dX1_take_20 0 14 hinX1 rfl rfl (by decide) (by decide +kernel) rfl rfl ?_
    refine n_if_ne E dX1_take_23 (by omega) (tgt := 36) (by decide) (fun c23 => ?_) (fun c23 => ?_)
    · refine v_aload_n E dX1_take_36 1 rfl rfl ?_
      refine v_dup E dX1_take_37 rfl ?_
      refine v_get E dX1_take_38 0 14 hinX1 rfl rfl (by decide) (by decide +kernel) rfl rfl ?_
      refine v_iconst E dX1_take_41 (v := nI 1) rfl ?_
      refine v_isub E dX1_take_42 (pk_sub (by omega)) ?_
      refine v_put E dX1_take_43 0 14 tyX1 tyX1_ok nmX1 hinX1 rfl rfl (by decide) (by decide +kernel) rfl rfl rfl rfl rfl (Nat.le_of_ble_eq_true rfl) (w' := (wX cI cZ cQ a (zs_bu S (z_bu S - 1)))) (wX_f_bu _) ?_
      refine v_aload_n E dX1_take_46 1 rfl rfl ?_
      refine v_iload_n E dX1_take_47 0 rfl rfl ?_
      refine x_cVn E hA hTx dX1_take_48 (x_X1_leaveQueue l D cI cZ cQ cJ a (zs_bu S (z_bu S - 1)) (zOK_bu hok (by omega)) (z_Q S 0) (by omega)) (cwV 1 E.2.2.2.1 gX1_take_X1_leaveQueue rfl rfl rfl (by decide +kernel) ⟨Nat.le_of_ble_eq_true rfl, Nat.le_of_ble_eq_true rfl⟩) 0 rfl rfl rfl rfl rfl ⟨Nat.le_of_ble_eq_true rfl, Nat.le_of_ble_eq_true rfl⟩ (Nat.le_of_ble_eq_true rfl) ?_
      have hok1 : zOK (zs_bu S (z_bu S - 1)) := zOK_bu hok (by omega)
      have hok2 : zOK (srm (zs_bu S (z_bu S - 1)) 0) := zOK_srm hok1 0 hq0
      have hz0 : slv (zs_bu S (z_bu S - 1)) (z_Q S 0) = (srm (zs_bu S (z_bu S - 1)) 0) := slv_first hok1 hq0
      refine v_w (w' := (wX cI cZ cQ a (srm (zs_bu S (z_bu S - 1)) 0))) (by rw [hz0]) ?_
      refine v_aload_n E dX1_take_51 1 rfl rfl ?_
      refine v_iload_n E dX1_take_52 0 rfl rfl ?_
      refine v_cVl' E dX1_take_53 (x_X1_candidatesOf l D cI cZ cQ cJ a (srm (zs_bu S (z_bu S - 1)) 0) hok2 (z_Q S 0) (by omega) hT0) (cwV 1 E.2.2.2.1 gX1_take_X1_candidatesOf rfl rfl rfl (by decide +kernel) ⟨Nat.le_of_ble_eq_true rfl, Nat.le_of_ble_eq_true rfl⟩) 0 rfl rfl rfl (fun _ h => h) rfl rfl ⟨Nat.le_of_ble_eq_true rfl, Nat.le_of_ble_eq_true rfl⟩ (Nat.le_of_ble_eq_true rfl) ?_
      refine v_cSi' E dX1_take_56 (x_J13_bitCount_95d88 l D cI cZ cQ cJ (msk (cnd (srm (zs_bu S (z_bu S - 1)) 0) (z_Q S 0)) (z_B (srm (zs_bu S (z_bu S - 1)) 0) (z_Q S 0) + 1)) (Nat.lt_trans (msk_lt62 _ (by show z_B S (z_Q S 0) + 1 ≤ 41; omega)) (by decide))) (va_cwS 1 E.2.2.2.1 gX1_take_J13_bitCount_95d88 rfl rfl rfl (by decide +kernel) ⟨Nat.le_of_ble_eq_true rfl, Nat.le_of_ble_eq_true rfl⟩) (fun _ _ => v_nil _) rfl rfl ⟨Nat.le_of_ble_eq_true rfl, Nat.le_of_ble_eq_true rfl⟩ (Nat.le_of_ble_eq_true rfl) ?_
      have hp64 := pop_64 (msk (cnd (srm (zs_bu S (z_bu S - 1)) 0) (z_Q S 0)) (z_B (srm (zs_bu S (z_bu S - 1)) 0) (z_Q S 0) + 1))
      have hzc9 : pop (msk (cnd (srm (zs_bu S (z_bu S - 1)) 0) (z_Q S 0)) (z_B (srm (zs_bu S (z_bu S - 1)) 0) (z_Q S 0) + 1)) = zcc S (z_Q S 0) := pop_msk (by show z_B S (z_Q S 0) + 1 ≤ 64; omega)
      refine v_iconst E dX1_take_59 (v := nI 1) rfl ?_
      refine n_icmp_le E dX1_take_60 (by omega) (by omega) (tgt := 68) (by decide) (fun c60 => ?_) (fun c60 => ?_)
      · refine v_iload_n E dX1_take_68 0 rfl rfl ?_
        rw [show stak S = (srm (zs_bu S (z_bu S - 1)) 0) from if_neg (by rw [← hzc9]; omega)]
        exact x_ret E hr (kk1_t (by simp [hq0, c23])) rfl (by decide) (by decide) dX1_take_69
      · refine v_aload_n E dX1_take_63 1 rfl rfl ?_
        refine v_iload_n E dX1_take_64 0 rfl rfl ?_
        refine x_cVn E hA hTx dX1_take_65 (x_X1_joinQueue l D cI cZ cQ cJ a (srm (zs_bu S (z_bu S - 1)) 0) hok2 (z_Q S 0) (by omega) (srm_out hok1 hq0)) (cwV 1 E.2.2.2.1 gX1_take_X1_joinQueue rfl rfl rfl (by decide +kernel) ⟨Nat.le_of_ble_eq_true rfl, Nat.le_of_ble_eq_true rfl⟩) 0 rfl rfl rfl rfl rfl ⟨Nat.le_of_ble_eq_true rfl, Nat.le_of_ble_eq_true rfl⟩ (Nat.le_of_ble_eq_true rfl) ?_
        refine v_iload_n E dX1_take_68 0 rfl rfl ?_
        rw [show stak S = sjn (srm (zs_bu S (z_bu S - 1)) 0) (z_Q S 0) from if_pos (by rw [← hzc9]; omega)]
        exact x_ret E hr (kk1_t (by simp [hq0, c23])) rfl (by decide) (by decide) dX1_take_69
    · have hk9 : kk1 (decide (0 < z_qn S) && decide (0 < z_bu S)) = 1 := kk1_f (by simp [c23])
      exact x_throwS E htab hTx hl (is := 139) (text := "nothing is left of the budget") (by decide +kernel) dX1_take_26 dX1_take_29 dX1_take_30 dX1_take_32 dX1_take_35 (by decide +kernel) (by decide +kernel) (fun w h => List.mem_cons_of_mem _ (List.mem_append_right _ h)) (by rw [hk9]; decide) (by rw [hk9]; rfl) (Nat.le_of_ble_eq_true rfl) (Nat.le_of_ble_eq_true rfl) (Nat.le_of_ble_eq_true rfl) (Nat.le_of_ble_eq_true rfl) (by decide) (by decide)
  · have hq0 : z_qn S = 0 := zfq_neg hok c6
    have hk9 : kk1 (decide (0 < z_qn S) && decide (0 < z_bu S)) = 1 := kk1_f (by simp [hq0])
    exact x_throwS E htab hTx hl (is := 137) (text := "the queue is empty") (by decide +kernel) dX1_take_9 dX1_take_12 dX1_take_13 dX1_take_15 dX1_take_18 (by decide +kernel) (by decide +kernel) (fun w h => List.mem_cons_of_mem _ (List.mem_append_right _ h)) (by rw [hk9]; decide) (by rw [hk9]; rfl) (Nat.le_of_ble_eq_true rfl) (Nat.le_of_ble_eq_true rfl) (Nat.le_of_ble_eq_true rfl) (Nat.le_of_ble_eq_true rfl) (by decide) (by decide)

