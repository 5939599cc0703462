/-! ===== the class: questions ===== -/
theorem sus_tb2 {S : zS} {t c : Nat} : (msk (sus S t) (z_B S t + 1)).testBit c = sus S t c := by
  by_cases h : c ≤ z_B S t
  · exact sus_tb h
  · rw [msk_tb, decide_eq_false (by omega), Bool.false_and, sus_hi (by omega)]
theorem zcon_zag {S : zS} (h : zOK S) {t q : Nat} (hb : z_B S t < 40) : ct (zcon S t (z_G S t) (z_B S t) q) (z_R S t) = zag S t q := by
  have h5 := (h.2.2.2.2.1 t).2
  have h6 := h.2.2.2.2.2 t
  unfold zag sr
  have e1 : ∀ i, i < z_B S t + 1 → (if z_G S t ≤ i then zagf S t q i else 0) = sm (fun r => if z_G S t ≤ i then b1 (hit S t i (if i < q then 0 else 1) r) else 0) (z_R S t) := by
    intro i _
    by_cases a : z_G S t ≤ i
    · rw [if_pos a, sm_cg (g := fun r => b1 (hit S t i (if i < q then 0 else 1) r)) (z_R S t) (fun r _ => if_pos a)]
      unfold zagf
      by_cases d : i < q
      · rw [if_pos d, if_pos d, (h6 i).2]
        rfl
      · rw [if_neg d, if_neg d, (h6 i).1]
        rfl
    · rw [if_neg a, sm_z (z_R S t) (fun r _ => if_neg a)]
  rw [sm_cg _ e1, sm_swap (fun i r => if z_G S t ≤ i then b1 (hit S t i (if i < q then 0 else 1) r) else 0) (z_R S t) (z_B S t + 1)]
  refine sm_cg _ (fun r hr => ?_)
  obtain ⟨q1, q2⟩ := h5 r hr
  have e2 : ∀ i, i < z_B S t + 1 → (if z_G S t ≤ i then b1 (hit S t i (if i < q then 0 else 1) r) else 0) = (if z_G S t ≤ z_rC S t r ∧ z_rP S t r = (if z_rC S t r < q then 0 else 1) then b1 (decide (z_rC S t r = i)) else 0) := by
    intro i _
    unfold hit
    by_cases e : z_rC S t r = i
    · subst e
      by_cases a : z_G S t ≤ z_rC S t r <;> by_cases d : z_rP S t r = (if z_rC S t r < q then 0 else 1) <;> simp [a, d, b1]
    · simp [e, b1]
  rw [sm_cg _ e2]
  by_cases a : z_G S t ≤ z_rC S t r ∧ z_rP S t r = (if z_rC S t r < q then 0 else 1)
  · rw [sm_cg (g := fun i => b1 (decide (z_rC S t r = i))) _ (fun i _ => if_pos a), sm_one]
    unfold zcon
    by_cases d : z_rC S t r < z_B S t + 1
    · rw [if_pos d, decide_eq_true]
      · rfl
      · refine ⟨⟨a.1, by omega⟩, ?_⟩
        have a2 := a.2
        split at a2 <;> omega
    · rw [if_neg d, decide_eq_false (by omega)]
      rfl
  · rw [sm_z _ (fun i _ => if_neg a)]
    unfold zcon
    rw [decide_eq_false]
    · rfl
    · intro z
      refine a ⟨z.1.1, ?_⟩
      split <;> omega
def zco (S : zS) (t c : Nat) : Int32 := if sus S t c = true then nI (zag S t c) else -1
theorem zwt_eq {S : zS} {t c : Nat} (hc : c < z_B S t) (hB : z_B S t < 40) : zmax (pop (msk (cnd S t) (z_B S t + 1)) - pop (msk (cnd S t) (z_B S t + 1) / 2 ^ (c + 1))) (pop (msk (cnd S t) (z_B S t + 1) / 2 ^ (c + 1))) = zwt S t c := by
  rw [pop_msk (by omega), pop_div (by omega)]
  have e := sr_ct (cnd S t) (c + 1) (z_B S t + 1) (by omega)
  unfold zwt zcc
  rw [show ct (cnd S t) (z_B S t + 1) - sr (fun i => b1 (cnd S t i)) (c + 1) (z_B S t + 1) = ct (cnd S t) (c + 1) by omega, show sr (fun i => b1 (cnd S t i)) (c + 1) (z_B S t + 1) = ct (cnd S t) (z_B S t + 1) - ct (cnd S t) (c + 1) by omega]
theorem zwt_le {S : zS} {t c : Nat} (hc : c < 40) (hB : z_B S t < 40) : zwt S t c ≤ 41 := by
  have h1 := ct_le (cnd S t) (c + 1)
  have h2 := ct_le (cnd S t) (z_B S t + 1)
  unfold zwt zmax zcc
  split <;> omega
theorem znx_t {S : zS} {t n b : Nat} (hb : b = znx S t n) (h1 : z_G S t < n ∧ n < z_B S t) (h2 : b = 0 ∨ zwt S t n < zwt S t (b - 1) ∨ (zwt S t n = zwt S t (b - 1) ∧ zrn S t n < zrn S t (b - 1))) : n + 1 = znx S t (n + 1) := by
  subst hb
  show _ = if _ then n + 1 else znx S t n
  rw [if_pos ⟨h1, h2⟩]
theorem znx_f {S : zS} {t n b : Nat} (hb : b = znx S t n) (h : ¬ ((z_G S t < n ∧ n < z_B S t) ∧ (b = 0 ∨ zwt S t n < zwt S t (b - 1) ∨ (zwt S t n = zwt S t (b - 1) ∧ zrn S t n < zrn S t (b - 1))))) : b = znx S t (n + 1) := by
  subst hb
  show _ = if _ then n + 1 else znx S t n
  rw [if_neg h]
theorem znx_z {S : zS} {t : Nat} : ∀ n, n ≤ z_G S t + 1 → 0 = znx S t n
  | 0, _ => rfl
  | n + 1, h => znx_f (znx_z n (by omega)) (by omega)
theorem znx_le (S : zS) (t : Nat) : ∀ n, znx S t n ≤ n
  | 0 => Nat.le_refl _
  | n + 1 => by
    show (if _ then n + 1 else znx S t n) ≤ n + 1
    split
    · exact Nat.le_refl _
    · exact Nat.le_succ_of_le (znx_le S t n)
set_option maxHeartbeats 4000000 in
set_option maxRecDepth 100000 in
theorem x_X1_commits (l : Launch) (D : va_G) (cI cZ cQ cJ : ClassId) (a : Nat → Nat) (S : zS) (hok : zOK S)   : v_Rdi l yX1_commits wsX1_commits { frames := 0, cells := 0, slots := 0, locals := 0 } D (wTy cI cZ cQ cJ) [.ref (a 0)] (wX cI cZ cQ a S) (nI (z_nc S)) := by
  refine v_reader (cc := cX1_commits) (maxL := 1) (ret := (some .int)) (own := RX1) (lv0 := [(0, .ref (a 0))]) (by decide) rfl rfl (Nat.le_of_ble_eq_true rfl) rfl ?_
  intro p9 e9 s9 m9 as9 bl9 me9 cd9 E hr
  have hinX1 : ∀ w ∈ u_ws RX1 TX1 15, w ∈ wsX1_commits := by decide +kernel
  refine v_aload_n E dX1_commits_0 0 rfl rfl ?_
  refine v_get E dX1_commits_1 0 9 hinX1 rfl rfl (by decide) (by decide +kernel) rfl rfl ?_
  exact v_ret E hr rfl dX1_commits_4

set_option maxHeartbeats 4000000 in
set_option maxRecDepth 100000 in
theorem x_X1_tests (l : Launch) (D : va_G) (cI cZ cQ cJ : ClassId) (a : Nat → Nat) (S : zS) (hok : zOK S)   : v_Rdi l yX1_tests wsX1_tests { frames := 0, cells := 0, slots := 0, locals := 0 } D (wTy cI cZ cQ cJ) [.ref (a 0)] (wX cI cZ cQ a S) (nI (z_nt S)) := by
  refine v_reader (cc := cX1_tests) (maxL := 1) (ret := (some .int)) (own := RX1) (lv0 := [(0, .ref (a 0))]) (by decide) rfl rfl (Nat.le_of_ble_eq_true rfl) rfl ?_
  intro p9 e9 s9 m9 as9 bl9 me9 cd9 E hr
  have hinX1 : ∀ w ∈ u_ws RX1 TX1 15, w ∈ wsX1_tests := by decide +kernel
  refine v_aload_n E dX1_tests_0 0 rfl rfl ?_
  refine v_get E dX1_tests_1 0 10 hinX1 rfl rfl (by decide) (by decide +kernel) rfl rfl ?_
  exact v_ret E hr rfl dX1_tests_4

set_option maxHeartbeats 4000000 in
set_option maxRecDepth 100000 in
theorem x_X1_budget (l : Launch) (D : va_G) (cI cZ cQ cJ : ClassId) (a : Nat → Nat) (S : zS) (hok : zOK S)   : v_Rdi l yX1_budget wsX1_budget { frames := 0, cells := 0, slots := 0, locals := 0 } D (wTy cI cZ cQ cJ) [.ref (a 0)] (wX cI cZ cQ a S) (nI (z_bu S)) := by
  refine v_reader (cc := cX1_budget) (maxL := 1) (ret := (some .int)) (own := RX1) (lv0 := [(0, .ref (a 0))]) (by decide) rfl rfl (Nat.le_of_ble_eq_true rfl) rfl ?_
  intro p9 e9 s9 m9 as9 bl9 me9 cd9 E hr
  have hinX1 : ∀ w ∈ u_ws RX1 TX1 15, w ∈ wsX1_budget := by decide +kernel
  refine v_aload_n E dX1_budget_0 0 rfl rfl ?_
  refine v_get E dX1_budget_1 0 14 hinX1 rfl rfl (by decide) (by decide +kernel) rfl rfl ?_
  exact v_ret E hr rfl dX1_budget_4

set_option maxHeartbeats 4000000 in
set_option maxRecDepth 100000 in
theorem x_X1_queued (l : Launch) (D : va_G) (cI cZ cQ cJ : ClassId) (a : Nat → Nat) (S : zS) (hok : zOK S)   : v_Rdi l yX1_queued wsX1_queued { frames := 0, cells := 0, slots := 0, locals := 0 } D (wTy cI cZ cQ cJ) [.ref (a 0)] (wX cI cZ cQ a S) (nI (z_qn S)) := by
  refine v_reader (cc := cX1_queued) (maxL := 1) (ret := (some .int)) (own := RX1) (lv0 := [(0, .ref (a 0))]) (by decide) rfl rfl (Nat.le_of_ble_eq_true rfl) rfl ?_
  intro p9 e9 s9 m9 as9 bl9 me9 cd9 E hr
  have hinX1 : ∀ w ∈ u_ws RX1 TX1 15, w ∈ wsX1_queued := by decide +kernel
  refine v_aload_n E dX1_queued_0 0 rfl rfl ?_
  refine v_get E dX1_queued_1 0 8 hinX1 rfl rfl (by decide) (by decide +kernel) rfl rfl ?_
  exact v_ret E hr rfl dX1_queued_4

set_option maxHeartbeats 4000000 in
set_option maxRecDepth 100000 in
theorem x_X1_partsOf (l : Launch) (D : va_G) (cI cZ cQ cJ : ClassId) (a : Nat → Nat) (S : zS) (hok : zOK S) (hl : l.stackTraces = false) (u0 : Int32) : v_Thr l yX1_partsOf wsX1_partsOf { frames := 7, cells := 1, slots := 6, locals := 111 } D (wTy cI cZ cQ cJ) [.ref (a 0), .int (u0)] (wX cI cZ cQ a S) (kk1 (zin u0 (z_nt S))) exI (some (.int (nI (zre S (iN u0))))) (wX cI cZ cQ a S) 1 6 := by
  refine v_thrower (cc := cX1_partsOf) (maxL := 2) (ret := (some .int)) (own := RX1) (lv0 := [(0, .ref (a 0)), (1, .int (u0))]) (by decide) rfl rfl (Nat.le_of_ble_eq_true rfl) rfl ?_
  intro p9 e9 s9 m9 as9 bl9 me9 cd9 A E hA htab hTx hr
  obtain ⟨⟨k1, k2, k3, k4, k5, k6, k7, k8⟩, k9, k10, k11, k12, k13⟩ := id hok
  refine v_aload_n E dX1_partsOf_0 0 rfl rfl ?_
  refine v_iload_n E dX1_partsOf_1 1 rfl rfl ?_
  have hp2 : kk1 (zin ((u0)) (z_nt S)) ≠ 0 → kk1 (zin u0 (z_nt S)) ≠ 0 ∧ exI (kk1 (zin ((u0)) (z_nt S))) = exI (kk1 (zin u0 (z_nt S))) := by
    intro hk
    have e9 : kk1 (zin u0 (z_nt S)) = 1 := kk1_f (kk1_n hk)
    rw [e9]
    exact ⟨by decide, rfl⟩
  refine x_cVp E hA htab hTx dX1_partsOf_2 (x_X1_needTest l D cI cZ cQ cJ a S hok hl ((u0))) (cwV 1 E.2.2.2.1 gX1_partsOf_X1_needTest rfl rfl rfl (by decide +kernel) ⟨Nat.le_of_ble_eq_true rfl, Nat.le_of_ble_eq_true rfl⟩) 0 rfl rfl rfl rfl rfl ⟨Nat.le_of_ble_eq_true rfl, Nat.le_of_ble_eq_true rfl⟩ (Nat.le_of_ble_eq_true rfl) hp2 (by decide) (by decide) (fun hk2 => ?_)
  obtain ⟨t, ht, rfl⟩ := zin_of (by omega) (kk1_z hk2)
  try simp only [iN_nI (show t < 2 ^ 31 by omega)]
  have hzt := zin_n ht (show z_nt S ≤ 2 ^ 31 by omega)
  refine v_aload_n E dX1_partsOf_5 0 rfl rfl ?_
  refine v_iload_n E dX1_partsOf_6 1 rfl rfl ?_
  refine v_cVi' E dX1_partsOf_7 (x_X1_allPartsOf l D cI cZ cQ cJ a S hok (t) (by omega)) (cwV 1 E.2.2.2.1 gX1_partsOf_X1_allPartsOf rfl rfl rfl (by decide +kernel) ⟨Nat.le_of_ble_eq_true rfl, Nat.le_of_ble_eq_true rfl⟩) 0 rfl rfl rfl (fun _ h => h) rfl rfl ⟨Nat.le_of_ble_eq_true rfl, Nat.le_of_ble_eq_true rfl⟩ (Nat.le_of_ble_eq_true rfl) ?_
  exact x_ret E hr (kk1_t hzt) rfl (by decide) (by decide) dX1_partsOf_10

set_option maxHeartbeats 4000000 in
set_option maxRecDepth 100000 in
theorem x_X1_runs (l : Launch) (D : va_G) (cI cZ cQ cJ : ClassId) (a : Nat → Nat) (S : zS) (hok : zOK S) (hl : l.stackTraces = false) (u0 : Int32) : v_Thr l yX1_runs wsX1_runs { frames := 7, cells := 1, slots := 6, locals := 111 } D (wTy cI cZ cQ cJ) [.ref (a 0), .int (u0)] (wX cI cZ cQ a S) (kk1 (zin u0 (z_nt S))) exI (some (.int (nI (z_R S (iN u0))))) (wX cI cZ cQ a S) 1 6 := by
  refine v_thrower (cc := cX1_runs) (maxL := 2) (ret := (some .int)) (own := RX1) (lv0 := [(0, .ref (a 0)), (1, .int (u0))]) (by decide) rfl rfl (Nat.le_of_ble_eq_true rfl) rfl ?_
  intro p9 e9 s9 m9 as9 bl9 me9 cd9 A E hA htab hTx hr
  have hinX1 : ∀ w ∈ u_ws RX1 TX1 15, w ∈ wsX1_runs := by decide +kernel
  obtain ⟨⟨k1, k2, k3, k4, k5, k6, k7, k8⟩, k9, k10, k11, k12, k13⟩ := id hok
  refine v_aload_n E dX1_runs_0 0 rfl rfl ?_
  refine v_iload_n E dX1_runs_1 1 rfl rfl ?_
  have hp2 : kk1 (zin ((u0)) (z_nt S)) ≠ 0 → kk1 (zin u0 (z_nt S)) ≠ 0 ∧ exI (kk1 (zin ((u0)) (z_nt S))) = exI (kk1 (zin u0 (z_nt S))) := by
    intro hk
    have e9 : kk1 (zin u0 (z_nt S)) = 1 := kk1_f (kk1_n hk)
    rw [e9]
    exact ⟨by decide, rfl⟩
  refine x_cVp E hA htab hTx dX1_runs_2 (x_X1_needTest l D cI cZ cQ cJ a S hok hl ((u0))) (cwV 1 E.2.2.2.1 gX1_runs_X1_needTest rfl rfl rfl (by decide +kernel) ⟨Nat.le_of_ble_eq_true rfl, Nat.le_of_ble_eq_true rfl⟩) 0 rfl rfl rfl rfl rfl ⟨Nat.le_of_ble_eq_true rfl, Nat.le_of_ble_eq_true rfl⟩ (Nat.le_of_ble_eq_true rfl) hp2 (by decide) (by decide) (fun hk2 => ?_)
  obtain ⟨t, ht, rfl⟩ := zin_of (by omega) (kk1_z hk2)
  try simp only [iN_nI (show t < 2 ^ 31 by omega)]
  have hzt := zin_n ht (show z_nt S ≤ 2 ^ 31 by omega)
  refine v_aload_n E dX1_runs_5 0 rfl rfl ?_
  refine v_get E dX1_runs_6 0 3 hinX1 rfl rfl (by decide) (by decide +kernel) rfl rfl ?_
  refine v_iload_n E dX1_runs_9 1 rfl rfl ?_
  refine v_cVi' E dX1_runs_10 (x_X0_countOf l D cI cZ cQ cJ a S hok (t) (by omega)) (cwV 1 E.2.2.2.1 gX1_runs_X0_countOf rfl rfl rfl (by decide +kernel) ⟨Nat.le_of_ble_eq_true rfl, Nat.le_of_ble_eq_true rfl⟩) 4 rfl rfl rfl (fun _ h => h) rfl rfl ⟨Nat.le_of_ble_eq_true rfl, Nat.le_of_ble_eq_true rfl⟩ (Nat.le_of_ble_eq_true rfl) ?_
  exact x_ret E hr (kk1_t hzt) rfl (by decide) (by decide) dX1_runs_13

set_option maxHeartbeats 4000000 in
set_option maxRecDepth 100000 in
theorem x_X1_failing (l : Launch) (D : va_G) (cI cZ cQ cJ : ClassId) (a : Nat → Nat) (S : zS) (hok : zOK S) (hl : l.stackTraces = false) (u0 : Int32) : v_Thr l yX1_failing wsX1_failing { frames := 7, cells := 1, slots := 6, locals := 111 } D (wTy cI cZ cQ cJ) [.ref (a 0), .int (u0)] (wX cI cZ cQ a S) (kk1 (zin u0 (z_nt S))) exI (some (.int (nI (zfai S (iN u0))))) (wX cI cZ cQ a S) 1 6 := by
  refine v_thrower (cc := cX1_failing) (maxL := 3) (ret := (some .int)) (own := RX1) (lv0 := [(0, .ref (a 0)), (1, .int (u0))]) (by decide) rfl rfl (Nat.le_of_ble_eq_true rfl) rfl ?_
  intro p9 e9 s9 m9 as9 bl9 me9 cd9 A E hA htab hTx hr
  have hinX1 : ∀ w ∈ u_ws RX1 TX1 15, w ∈ wsX1_failing := by decide +kernel
  obtain ⟨⟨k1, k2, k3, k4, k5, k6, k7, k8⟩, k9, k10, k11, k12, k13⟩ := id hok
  refine v_aload_n E dX1_failing_0 0 rfl rfl ?_
  refine v_iload_n E dX1_failing_1 1 rfl rfl ?_
  have hp2 : kk1 (zin ((u0)) (z_nt S)) ≠ 0 → kk1 (zin u0 (z_nt S)) ≠ 0 ∧ exI (kk1 (zin ((u0)) (z_nt S))) = exI (kk1 (zin u0 (z_nt S))) := by
    intro hk
    have e9 : kk1 (zin u0 (z_nt S)) = 1 := kk1_f (kk1_n hk)
    rw [e9]
    exact ⟨by decide, rfl⟩
  refine x_cVp E hA htab hTx dX1_failing_2 (x_X1_needTest l D cI cZ cQ cJ a S hok hl ((u0))) (cwV 1 E.2.2.2.1 gX1_failing_X1_needTest rfl rfl rfl (by decide +kernel) ⟨Nat.le_of_ble_eq_true rfl, Nat.le_of_ble_eq_true rfl⟩) 0 rfl rfl rfl rfl rfl ⟨Nat.le_of_ble_eq_true rfl, Nat.le_of_ble_eq_true rfl⟩ (Nat.le_of_ble_eq_true rfl) hp2 (by decide) (by decide) (fun hk2 => ?_)
  obtain ⟨t, ht, rfl⟩ := zin_of (by omega) (kk1_z hk2)
  try simp only [iN_nI (show t < 2 ^ 31 by omega)]
  have hzt := zin_n ht (show z_nt S ≤ 2 ^ 31 by omega)
  have hpf := zPF_sum hok t
  have hRt := (k12 t).1
  refine v_aload_n E dX1_failing_5 0 rfl rfl ?_
  refine v_get E dX1_failing_6 0 3 hinX1 rfl rfl (by decide) (by decide +kernel) rfl rfl ?_
  refine v_iload_n E dX1_failing_9 1 rfl rfl ?_
  refine v_cVi' E dX1_failing_10 (x_X0_countOf l D cI cZ cQ cJ a S hok (t) (by omega)) (cwV 1 E.2.2.2.1 gX1_failing_X0_countOf rfl rfl rfl (by decide +kernel) ⟨Nat.le_of_ble_eq_true rfl, Nat.le_of_ble_eq_true rfl⟩) 4 rfl rfl rfl (fun _ h => h) rfl rfl ⟨Nat.le_of_ble_eq_true rfl, Nat.le_of_ble_eq_true rfl⟩ (Nat.le_of_ble_eq_true rfl) ?_
  refine v_istore_n E dX1_failing_13 rfl (by decide) rfl ?_
  refine v_iload_n E dX1_failing_14 0 rfl rfl ?_
  refine n_if_ne E dX1_failing_15 (by omega) (tgt := 22) (by decide) (fun c15 => ?_) (fun c15 => ?_)
  · refine v_bipush E dX1_failing_22 (v := nI 100) rfl ?_
    refine v_aload_n E dX1_failing_24 1 rfl rfl ?_
    refine v_get E dX1_failing_25 0 3 hinX1 rfl rfl (by decide) (by decide +kernel) rfl rfl ?_
    refine v_iload_n E dX1_failing_28 2 rfl rfl ?_
    refine v_cVi' E dX1_failing_29 (x_X0_failuresOf l D cI cZ cQ cJ a S hok (t) (by omega)) (cwV 1 E.2.2.2.1 gX1_failing_X0_failuresOf rfl rfl rfl (by decide +kernel) ⟨Nat.le_of_ble_eq_true rfl, Nat.le_of_ble_eq_true rfl⟩) 4 rfl rfl rfl (fun _ h => h) rfl rfl ⟨Nat.le_of_ble_eq_true rfl, Nat.le_of_ble_eq_true rfl⟩ (Nat.le_of_ble_eq_true rfl) ?_
    refine v_imul E dX1_failing_32 (pk_mul _ _) ?_
    refine v_iload_n E dX1_failing_33 0 rfl rfl ?_
    refine v_idiv E dX1_failing_34 (n_ne0 (by omega) (by omega)) (pk_div (by omega) (by omega) (by omega)) ?_
    exact x_ret E hr (kk1_t hzt) (by unfold zfai; rw [if_neg (by omega)]) (by decide) (by decide) dX1_failing_35
  · refine v_iconst E dX1_failing_18 (v := nI 0) rfl ?_
    refine v_goto E dX1_failing_19 (tgt := 35) (by decide) ?_
    exact x_ret E hr (kk1_t hzt) (by unfold zfai; rw [if_pos c15]) (by decide) (by decide) dX1_failing_35

set_option maxHeartbeats 4000000 in
set_option maxRecDepth 100000 in
theorem x_X1_isQuarantined (l : Launch) (D : va_G) (cI cZ cQ cJ : ClassId) (a : Nat → Nat) (S : zS) (hok : zOK S) (hl : l.stackTraces = false) (u0 : Int32) : v_Thr l yX1_isQuarantined wsX1_isQuarantined { frames := 7, cells := 1, slots := 6, locals := 111 } D (wTy cI cZ cQ cJ) [.ref (a 0), .int (u0)] (wX cI cZ cQ a S) (kk1 (zin u0 (z_nt S))) exI (some (.int (bI (decide (z_li S ≤ zmix S (iN u0)))))) (wX cI cZ cQ a S) 1 6 := by
  refine v_thrower (cc := cX1_isQuarantined) (maxL := 2) (ret := (some .boolean)) (own := RX1) (lv0 := [(0, .ref (a 0)), (1, .int (u0))]) (by decide) rfl rfl (Nat.le_of_ble_eq_true rfl) rfl ?_
  intro p9 e9 s9 m9 as9 bl9 me9 cd9 A E hA htab hTx hr
  obtain ⟨⟨k1, k2, k3, k4, k5, k6, k7, k8⟩, k9, k10, k11, k12, k13⟩ := id hok
  refine v_aload_n E dX1_isQuarantined_0 0 rfl rfl ?_
  refine v_iload_n E dX1_isQuarantined_1 1 rfl rfl ?_
  have hp2 : kk1 (zin ((u0)) (z_nt S)) ≠ 0 → kk1 (zin u0 (z_nt S)) ≠ 0 ∧ exI (kk1 (zin ((u0)) (z_nt S))) = exI (kk1 (zin u0 (z_nt S))) := by
    intro hk
    have e9 : kk1 (zin u0 (z_nt S)) = 1 := kk1_f (kk1_n hk)
    rw [e9]
    exact ⟨by decide, rfl⟩
  refine x_cVp E hA htab hTx dX1_isQuarantined_2 (x_X1_needTest l D cI cZ cQ cJ a S hok hl ((u0))) (cwV 1 E.2.2.2.1 gX1_isQuarantined_X1_needTest rfl rfl rfl (by decide +kernel) ⟨Nat.le_of_ble_eq_true rfl, Nat.le_of_ble_eq_true rfl⟩) 0 rfl rfl rfl rfl rfl ⟨Nat.le_of_ble_eq_true rfl, Nat.le_of_ble_eq_true rfl⟩ (Nat.le_of_ble_eq_true rfl) hp2 (by decide) (by decide) (fun hk2 => ?_)
  obtain ⟨t, ht, rfl⟩ := zin_of (by omega) (kk1_z hk2)
  try simp only [iN_nI (show t < 2 ^ 31 by omega)]
  have hzt := zin_n ht (show z_nt S ≤ 2 ^ 31 by omega)
  refine v_aload_n E dX1_isQuarantined_5 0 rfl rfl ?_
  refine v_iload_n E dX1_isQuarantined_6 1 rfl rfl ?_
  refine v_cVi' E dX1_isQuarantined_7 (x_X1_isUnsteady l D cI cZ cQ cJ a S hok (t) (by omega)) (cwV 1 E.2.2.2.1 gX1_isQuarantined_X1_isUnsteady rfl rfl rfl (by decide +kernel) ⟨Nat.le_of_ble_eq_true rfl, Nat.le_of_ble_eq_true rfl⟩) 0 rfl rfl rfl (fun _ h => h) rfl rfl ⟨Nat.le_of_ble_eq_true rfl, Nat.le_of_ble_eq_true rfl⟩ (Nat.le_of_ble_eq_true rfl) ?_
  exact x_retz E hr (bI_narrow _) (kk1_t hzt) rfl (by decide) (by decide) dX1_isQuarantined_10

set_option maxHeartbeats 4000000 in
set_option maxRecDepth 100000 in
theorem x_X1_verdict (l : Launch) (D : va_G) (cI cZ cQ cJ : ClassId) (a : Nat → Nat) (S : zS) (hok : zOK S) (hl : l.stackTraces = false) (u0 u1 : Int32) : v_Thr l yX1_verdict wsX1_verdict { frames := 7, cells := 2, slots := 12, locals := 111 } D (wTy cI cZ cQ cJ) [.ref (a 0), .int (u0), .int (u1)] (wX cI cZ cQ a S) (kk1 (zin u0 (z_nt S) && zin u1 (z_nc S))) exI (some (.int (nI (vd (z_P S (iN u0) (iN u1)) (z_F S (iN u0) (iN u1)))))) (wX cI cZ cQ a S) 2 12 := by
  refine v_thrower (cc := cX1_verdict) (maxL := 3) (ret := (some .int)) (own := RX1) (lv0 := [(0, .ref (a 0)), (1, .int (u0)), (2, .int (u1))]) (by decide) rfl rfl (Nat.le_of_ble_eq_true rfl) rfl ?_
  intro p9 e9 s9 m9 as9 bl9 me9 cd9 A E hA htab hTx hr
  have hinX1 : ∀ w ∈ u_ws RX1 TX1 15, w ∈ wsX1_verdict := by decide +kernel
  obtain ⟨⟨k1, k2, k3, k4, k5, k6, k7, k8⟩, k9, k10, k11, k12, k13⟩ := id hok
  refine v_aload_n E dX1_verdict_0 0 rfl rfl ?_
  refine v_iload_n E dX1_verdict_1 1 rfl rfl ?_
  have hp2 : kk1 (zin ((u0)) (z_nt S)) ≠ 0 → kk1 (zin u0 (z_nt S) && zin u1 (z_nc S)) ≠ 0 ∧ exI (kk1 (zin ((u0)) (z_nt S))) = exI (kk1 (zin u0 (z_nt S) && zin u1 (z_nc S))) := by
    intro hk
    have e9 : kk1 (zin u0 (z_nt S) && zin u1 (z_nc S)) = 1 := kk1_f (by rw [kk1_n hk]; rfl)
    rw [e9]
    exact ⟨by decide, rfl⟩
  refine x_cVp E hA htab hTx dX1_verdict_2 (x_X1_needTest l D cI cZ cQ cJ a S hok hl ((u0))) (cwV 1 E.2.2.2.1 gX1_verdict_X1_needTest rfl rfl rfl (by decide +kernel) ⟨Nat.le_of_ble_eq_true rfl, Nat.le_of_ble_eq_true rfl⟩) 0 rfl rfl rfl rfl rfl ⟨Nat.le_of_ble_eq_true rfl, Nat.le_of_ble_eq_true rfl⟩ (Nat.le_of_ble_eq_true rfl) hp2 (by decide) (by decide) (fun hk2 => ?_)
  obtain ⟨t, ht, rfl⟩ := zin_of (by omega) (kk1_z hk2)
  try simp only [iN_nI (show t < 2 ^ 31 by omega)]
  have hzt := zin_n ht (show z_nt S ≤ 2 ^ 31 by omega)
  refine v_aload_n E dX1_verdict_5 0 rfl rfl ?_
  refine v_iload_n E dX1_verdict_6 2 rfl rfl ?_
  have hp7 : kk1 (zin ((u1)) (z_nc S)) ≠ 0 → kk1 (zin (nI (t)) (z_nt S) && zin u1 (z_nc S)) ≠ 0 ∧ exI (kk1 (zin ((u1)) (z_nc S))) = exI (kk1 (zin (nI (t)) (z_nt S) && zin u1 (z_nc S))) := by
    intro hk
    have e9 : kk1 (zin (nI (t)) (z_nt S) && zin u1 (z_nc S)) = 1 := kk1_f (by rw [kk1_n hk, Bool.and_false])
    rw [e9]
    exact ⟨by decide, rfl⟩
  refine x_cVp E hA htab hTx dX1_verdict_7 (x_X1_needCommit l D cI cZ cQ cJ a S hok hl ((u1))) (cwV 1 E.2.2.2.1 gX1_verdict_X1_needCommit rfl rfl rfl (by decide +kernel) ⟨Nat.le_of_ble_eq_true rfl, Nat.le_of_ble_eq_true rfl⟩) 0 rfl rfl rfl rfl rfl ⟨Nat.le_of_ble_eq_true rfl, Nat.le_of_ble_eq_true rfl⟩ (Nat.le_of_ble_eq_true rfl) hp7 (by decide) (by decide) (fun hk7 => ?_)
  obtain ⟨c, hc, rfl⟩ := zin_of (by omega) (kk1_z hk7)
  try simp only [iN_nI (show c < 2 ^ 31 by omega)]
  have hzc := zin_n hc (show z_nc S ≤ 2 ^ 31 by omega)
  refine v_aload_n E dX1_verdict_10 0 rfl rfl ?_
  refine v_get E dX1_verdict_11 0 3 hinX1 rfl rfl (by decide) (by decide +kernel) rfl rfl ?_
  refine v_iload_n E dX1_verdict_14 1 rfl rfl ?_
  refine v_iload_n E dX1_verdict_15 2 rfl rfl ?_
  refine v_cVi' E dX1_verdict_16 (x_X0_verdictAt l D cI cZ cQ cJ a S hok (t) (c) (by omega) (by omega)) (cwV 2 E.2.2.2.1 gX1_verdict_X0_verdictAt rfl rfl rfl (by decide +kernel) ⟨Nat.le_of_ble_eq_true rfl, Nat.le_of_ble_eq_true rfl⟩) 4 rfl rfl rfl (fun _ h => h) rfl rfl ⟨Nat.le_of_ble_eq_true rfl, Nat.le_of_ble_eq_true rfl⟩ (Nat.le_of_ble_eq_true rfl) ?_
  exact x_ret E hr (kk1_t (by rw [hzt, hzc]; rfl)) rfl (by decide) (by decide) dX1_verdict_19

set_option maxHeartbeats 4000000 in
set_option maxRecDepth 100000 in
theorem x_X1_touches (l : Launch) (D : va_G) (cI cZ cQ cJ : ClassId) (a : Nat → Nat) (S : zS) (hok : zOK S) (hl : l.stackTraces = false) (u0 : Int32) : v_Thr l yX1_touches wsX1_touches { frames := 7, cells := 1, slots := 6, locals := 111 } D (wTy cI cZ cQ cJ) [.ref (a 0), .int (u0)] (wX cI cZ cQ a S) (kk1 (zin u0 (z_nc S))) exI (some (.int (nI (msk (ztou S (iN u0)) (z_nt S))))) (wX cI cZ cQ a S) 1 6 := by
  refine v_thrower (cc := cX1_touches) (maxL := 4) (ret := (some .int)) (own := RX1) (lv0 := [(0, .ref (a 0)), (1, .int (u0))]) (by decide) rfl rfl (Nat.le_of_ble_eq_true rfl) rfl ?_
  intro p9 e9 s9 m9 as9 bl9 me9 cd9 A E hA htab hTx hr
  have hinX1 : ∀ w ∈ u_ws RX1 TX1 15, w ∈ wsX1_touches := by decide +kernel
  obtain ⟨⟨k1, k2, k3, k4, k5, k6, k7, k8⟩, k9, k10, k11, k12, k13⟩ := id hok
  refine v_aload_n E dX1_touches_0 0 rfl rfl ?_
  refine v_iload_n E dX1_touches_1 1 rfl rfl ?_
  have hp2 : kk1 (zin ((u0)) (z_nc S)) ≠ 0 → kk1 (zin u0 (z_nc S)) ≠ 0 ∧ exI (kk1 (zin ((u0)) (z_nc S))) = exI (kk1 (zin u0 (z_nc S))) := by
    intro hk
    have e9 : kk1 (zin u0 (z_nc S)) = 1 := kk1_f (kk1_n hk)
    rw [e9]
    exact ⟨by decide, rfl⟩
  refine x_cVp E hA htab hTx dX1_touches_2 (x_X1_needCommit l D cI cZ cQ cJ a S hok hl ((u0))) (cwV 1 E.2.2.2.1 gX1_touches_X1_needCommit rfl rfl rfl (by decide +kernel) ⟨Nat.le_of_ble_eq_true rfl, Nat.le_of_ble_eq_true rfl⟩) 0 rfl rfl rfl rfl rfl ⟨Nat.le_of_ble_eq_true rfl, Nat.le_of_ble_eq_true rfl⟩ (Nat.le_of_ble_eq_true rfl) hp2 (by decide) (by decide) (fun hk2 => ?_)
  obtain ⟨c, hc, rfl⟩ := zin_of (by omega) (kk1_z hk2)
  try simp only [iN_nI (show c < 2 ^ 31 by omega)]
  have hzc := zin_n hc (show z_nc S ≤ 2 ^ 31 by omega)
  refine v_iconst E dX1_touches_5 (v := nI 0) rfl ?_
  refine v_istore_n E dX1_touches_6 rfl (by decide) rfl ?_
  refine v_iconst E dX1_touches_7 (v := nI 0) rfl ?_
  refine v_istore_n E dX1_touches_8 rfl (by decide) rfl ?_
  have L9_1 : ∀ (n9 : Nat) (mm : Nat) (t : Nat), z_nt S - t < n9 → (mm = msk (ztou S c) t) → (t ≤ z_nt S) → V p9 l e9 (headSpec wsX1_touches { frames := 7, cells := 1, slots := 6, locals := 111 }).room s9 m9 as9 bl9 me9 cd9 1 6 (vx_MQ bl9 (v_Qo D (wTy cI cZ cQ cJ) (kk1 (zin (nI (c)) (z_nc S)) = 0) (some (.int (nI (msk (ztou S (c)) (z_nt S))))) (wX cI cZ cQ a S) A) (v_XC D (wTy cI cZ cQ cJ) (kk1 (zin (nI (c)) (z_nc S))) exI (wX cI cZ cQ a S) A) as9 s9 1 6 A) (v_rw D A s9) 4 9 [(2, .int (nI (mm))), (3, .int (nI (t))), (0, .ref (a 0)), (1, .int (nI (c)))] [] (wX cI cZ cQ a S) := by
    intro n9
    induction n9 with
    | zero => intro mm t hm9 hm h2; exact absurd hm9 (Nat.not_lt_zero _)
    | succ n9 ih9 =>
      intro mm t hm9 hm h2
      refine v_iload_n E dX1_touches_9 1 rfl rfl ?_
      refine v_aload_n E dX1_touches_10 2 rfl rfl ?_
      refine v_get E dX1_touches_11 0 10 hinX1 rfl rfl (by decide) (by decide +kernel) rfl rfl ?_
      refine n_icmp_ge E dX1_touches_14 (by omega) (by omega) (tgt := 44) (by decide) (fun c14 => ?_) (fun c14 => ?_)
      · refine v_iload_n E dX1_touches_44 0 rfl rfl ?_
        exact x_ret E hr (kk1_t hzc) (by rw [hm, show t = z_nt S by omega]) (by decide) (by decide) dX1_touches_45
      · refine v_aload_n E dX1_touches_17 2 rfl rfl ?_
        refine v_get E dX1_touches_18 0 1 hinX1 rfl rfl (by decide) (by decide +kernel) rfl rfl ?_
        refine v_iload_n E dX1_touches_21 3 rfl rfl ?_
        refine v_iald E dX1_touches_22 2 0 rfl rfl (by omega) (by decide) rfl ?_
        refine v_aload_n E dX1_touches_23 2 rfl rfl ?_
        refine v_iload_n E dX1_touches_24 1 rfl rfl ?_
        refine v_cVi' E dX1_touches_25 (x_X1_allPartsOf l D cI cZ cQ cJ a S hok (t) (by omega)) (cwV 1 E.2.2.2.1 gX1_touches_X1_allPartsOf rfl rfl rfl (by decide +kernel) ⟨Nat.le_of_ble_eq_true rfl, Nat.le_of_ble_eq_true rfl⟩) 0 rfl rfl rfl (fun _ h => h) rfl rfl ⟨Nat.le_of_ble_eq_true rfl, Nat.le_of_ble_eq_true rfl⟩ (Nat.le_of_ble_eq_true rfl) ?_
        refine v_iand E dX1_touches_28 (nx_and _ _) ?_
        refine n_if_eq E dX1_touches_29 (Nat.lt_of_le_of_lt Nat.and_le_left (by have := (k9 c).2.1; omega)) (tgt := 38) (by decide) (fun c29 => ?_) (fun c29 => ?_)
        · refine v_iinc E dX1_touches_38 1 rfl (nI_1 _) (by decide) rfl ?_
          refine v_goto E dX1_touches_41 (tgt := 9) (by decide) ?_
          refine v_lv [1, 0, 2, 3] rfl ?_
          exact ih9 (mm) (t + 1) (by omega) (msk_f hm (decide_eq_false (fun q => q c29))) (by omega)
        · refine v_iload_n E dX1_touches_32 0 rfl rfl ?_
          refine v_iconst E dX1_touches_33 (v := nI 1) rfl ?_
          refine v_iload_n E dX1_touches_34 1 rfl rfl ?_
          refine v_ishl E dX1_touches_35 (n_shl1 (by omega)) ?_
          refine v_ior E dX1_touches_36 (nx_or _ _) ?_
          refine v_istore_n E dX1_touches_37 rfl (by decide) rfl ?_
          refine v_iinc E dX1_touches_38 1 rfl (nI_1 _) (by decide) rfl ?_
          refine v_goto E dX1_touches_41 (tgt := 9) (by decide) ?_
          refine v_lv [1, 0, 2, 3] rfl ?_
          exact ih9 ((mm) ||| (2 ^ (t))) (t + 1) (by omega) (msk_t hm (decide_eq_true (Nat.ne_of_gt c29))) (by omega)
  refine v_lv [1, 0, 2, 3] rfl ?_
  exact L9_1 ((z_nt S - (0)) + 1) (0) (0) (by omega) rfl (by omega)

set_option maxHeartbeats 4000000 in
set_option maxRecDepth 100000 in
theorem x_X1_broken (l : Launch) (D : va_G) (cI cZ cQ cJ : ClassId) (a : Nat → Nat) (S : zS) (hok : zOK S) (hl : l.stackTraces = false) (u0 : Int32) : v_Thr l yX1_broken wsX1_broken { frames := 7, cells := 1, slots := 6, locals := 111 } D (wTy cI cZ cQ cJ) [.ref (a 0), .int (u0)] (wX cI cZ cQ a S) (kk1 (zin u0 (z_nc S))) exI (some (.int (nI (msk (zbro S (iN u0)) (z_nt S))))) (wX cI cZ cQ a S) 1 6 := by
  refine v_thrower (cc := cX1_broken) (maxL := 4) (ret := (some .int)) (own := RX1) (lv0 := [(0, .ref (a 0)), (1, .int (u0))]) (by decide) rfl rfl (Nat.le_of_ble_eq_true rfl) rfl ?_
  intro p9 e9 s9 m9 as9 bl9 me9 cd9 A E hA htab hTx hr
  have hinX1 : ∀ w ∈ u_ws RX1 TX1 15, w ∈ wsX1_broken := by decide +kernel
  obtain ⟨⟨k1, k2, k3, k4, k5, k6, k7, k8⟩, k9, k10, k11, k12, k13⟩ := id hok
  refine v_aload_n E dX1_broken_0 0 rfl rfl ?_
  refine v_iload_n E dX1_broken_1 1 rfl rfl ?_
  have hp2 : kk1 (zin ((u0)) (z_nc S)) ≠ 0 → kk1 (zin u0 (z_nc S)) ≠ 0 ∧ exI (kk1 (zin ((u0)) (z_nc S))) = exI (kk1 (zin u0 (z_nc S))) := by
    intro hk
    have e9 : kk1 (zin u0 (z_nc S)) = 1 := kk1_f (kk1_n hk)
    rw [e9]
    exact ⟨by decide, rfl⟩
  refine x_cVp E hA htab hTx dX1_broken_2 (x_X1_needCommit l D cI cZ cQ cJ a S hok hl ((u0))) (cwV 1 E.2.2.2.1 gX1_broken_X1_needCommit rfl rfl rfl (by decide +kernel) ⟨Nat.le_of_ble_eq_true rfl, Nat.le_of_ble_eq_true rfl⟩) 0 rfl rfl rfl rfl rfl ⟨Nat.le_of_ble_eq_true rfl, Nat.le_of_ble_eq_true rfl⟩ (Nat.le_of_ble_eq_true rfl) hp2 (by decide) (by decide) (fun hk2 => ?_)
  obtain ⟨c, hc, rfl⟩ := zin_of (by omega) (kk1_z hk2)
  try simp only [iN_nI (show c < 2 ^ 31 by omega)]
  have hzc := zin_n hc (show z_nc S ≤ 2 ^ 31 by omega)
  refine v_iconst E dX1_broken_5 (v := nI 0) rfl ?_
  refine v_istore_n E dX1_broken_6 rfl (by decide) rfl ?_
  refine v_iconst E dX1_broken_7 (v := nI 0) rfl ?_
  refine v_istore_n E dX1_broken_8 rfl (by decide) rfl ?_
  have L9_1 : ∀ (n9 : Nat) (mm : Nat) (t : Nat), z_nt S - t < n9 → (mm = msk (zbro S c) t) → (t ≤ z_nt S) → V p9 l e9 (headSpec wsX1_broken { frames := 7, cells := 1, slots := 6, locals := 111 }).room s9 m9 as9 bl9 me9 cd9 1 6 (vx_MQ bl9 (v_Qo D (wTy cI cZ cQ cJ) (kk1 (zin (nI (c)) (z_nc S)) = 0) (some (.int (nI (msk (zbro S (c)) (z_nt S))))) (wX cI cZ cQ a S) A) (v_XC D (wTy cI cZ cQ cJ) (kk1 (zin (nI (c)) (z_nc S))) exI (wX cI cZ cQ a S) A) as9 s9 1 6 A) (v_rw D A s9) 4 9 [(2, .int (nI (mm))), (3, .int (nI (t))), (0, .ref (a 0)), (1, .int (nI (c)))] [] (wX cI cZ cQ a S) := by
    intro n9
    induction n9 with
    | zero => intro mm t hm9 hm h2; exact absurd hm9 (Nat.not_lt_zero _)
    | succ n9 ih9 =>
      intro mm t hm9 hm h2
      refine v_iload_n E dX1_broken_9 1 rfl rfl ?_
      refine v_aload_n E dX1_broken_10 2 rfl rfl ?_
      refine v_get E dX1_broken_11 0 10 hinX1 rfl rfl (by decide) (by decide +kernel) rfl rfl ?_
      refine n_icmp_ge E dX1_broken_14 (by omega) (by omega) (tgt := 50) (by decide) (fun c14 => ?_) (fun c14 => ?_)
      · refine v_iload_n E dX1_broken_50 0 rfl rfl ?_
        exact x_ret E hr (kk1_t hzc) (by rw [hm, show t = z_nt S by omega]) (by decide) (by decide) dX1_broken_51
      · refine v_aload_n E dX1_broken_17 2 rfl rfl ?_
        refine v_get E dX1_broken_18 0 3 hinX1 rfl rfl (by decide) (by decide +kernel) rfl rfl ?_
        refine v_iload_n E dX1_broken_21 1 rfl rfl ?_
        refine v_iload_n E dX1_broken_22 3 rfl rfl ?_
        refine v_cVi' E dX1_broken_23 (x_X0_verdictAt l D cI cZ cQ cJ a S hok (t) (c) (by omega) (by omega)) (cwV 2 E.2.2.2.1 gX1_broken_X0_verdictAt rfl rfl rfl (by decide +kernel) ⟨Nat.le_of_ble_eq_true rfl, Nat.le_of_ble_eq_true rfl⟩) 4 rfl rfl rfl (fun _ h => h) rfl rfl ⟨Nat.le_of_ble_eq_true rfl, Nat.le_of_ble_eq_true rfl⟩ (Nat.le_of_ble_eq_true rfl) ?_
        have hv := vd_le (z_P S t c) (z_F S t c)
        refine v_iconst E dX1_broken_26 (v := nI 2) rfl ?_
        refine n_icmp_ne E dX1_broken_27 (by omega) (by omega) (tgt := 44) (by decide) (fun c27 => ?_) (fun c27 => ?_)
        · refine v_iinc E dX1_broken_44 1 rfl (nI_1 _) (by decide) rfl ?_
          refine v_goto E dX1_broken_47 (tgt := 9) (by decide) ?_
          refine v_lv [1, 0, 2, 3] rfl ?_
          exact ih9 (mm) (t + 1) (by omega) (msk_f hm (by unfold zbro; rw [decide_eq_false c27]; rfl)) (by omega)
        · refine v_aload_n E dX1_broken_30 2 rfl rfl ?_
          refine v_iload_n E dX1_broken_31 1 rfl rfl ?_
          refine v_cVi' E dX1_broken_32 (x_X1_isUnsteady l D cI cZ cQ cJ a S hok (t) (by omega)) (cwV 1 E.2.2.2.1 gX1_broken_X1_isUnsteady rfl rfl rfl (by decide +kernel) ⟨Nat.le_of_ble_eq_true rfl, Nat.le_of_ble_eq_true rfl⟩) 0 rfl rfl rfl (fun _ h => h) rfl rfl ⟨Nat.le_of_ble_eq_true rfl, Nat.le_of_ble_eq_true rfl⟩ (Nat.le_of_ble_eq_true rfl) ?_
          refine b_if_ne E dX1_broken_35 (tgt := 44) (by decide) (fun c35 => ?_) (fun c35 => ?_)
          · refine v_iinc E dX1_broken_44 1 rfl (nI_1 _) (by decide) rfl ?_
            refine v_goto E dX1_broken_47 (tgt := 9) (by decide) ?_
            refine v_lv [1, 0, 2, 3] rfl ?_
            exact ih9 (mm) (t + 1) (by omega) (msk_f hm (by unfold zbro; rw [c35, Bool.not_true, Bool.and_false])) (by omega)
          · refine v_iload_n E dX1_broken_38 0 rfl rfl ?_
            refine v_iconst E dX1_broken_39 (v := nI 1) rfl ?_
            refine v_iload_n E dX1_broken_40 1 rfl rfl ?_
            refine v_ishl E dX1_broken_41 (n_shl1 (by omega)) ?_
            refine v_ior E dX1_broken_42 (nx_or _ _) ?_
            refine v_istore_n E dX1_broken_43 rfl (by decide) rfl ?_
            refine v_iinc E dX1_broken_44 1 rfl (nI_1 _) (by decide) rfl ?_
            refine v_goto E dX1_broken_47 (tgt := 9) (by decide) ?_
            refine v_lv [1, 0, 2, 3] rfl ?_
            exact ih9 ((mm) ||| (2 ^ (t))) (t + 1) (by omega) (msk_t hm (by unfold zbro; rw [decide_eq_true c27, c35]; rfl)) (by omega)
  refine v_lv [1, 0, 2, 3] rfl ?_
  exact L9_1 ((z_nt S - (0)) + 1) (0) (0) (by omega) rfl (by omega)

set_option maxHeartbeats 4000000 in
set_option maxRecDepth 100000 in
theorem x_X1_suspects (l : Launch) (D : va_G) (cI cZ cQ cJ : ClassId) (a : Nat → Nat) (S : zS) (hok : zOK S) (hl : l.stackTraces = false) (u0 : Int32) : v_Thr l yX1_suspects wsX1_suspects { frames := 7, cells := 2, slots := 12, locals := 111 } D (wTy cI cZ cQ cJ) [.ref (a 0), .int (u0)] (wX cI cZ cQ a S) (kk2 (zin u0 (z_nt S)) (z_T S (iN u0))) exIS (some (.long (lN (msk (sus S (iN u0)) (z_B S (iN u0) + 1))))) (wX cI cZ cQ a S) 2 12 := by
  refine v_thrower (cc := cX1_suspects) (maxL := 2) (ret := (some .long)) (own := RX1) (lv0 := [(0, .ref (a 0)), (1, .int (u0))]) (by decide) rfl rfl (Nat.le_of_ble_eq_true rfl) rfl ?_
  intro p9 e9 s9 m9 as9 bl9 me9 cd9 A E hA htab hTx hr
  obtain ⟨⟨k1, k2, k3, k4, k5, k6, k7, k8⟩, k9, k10, k11, k12, k13⟩ := id hok
  refine v_aload_n E dX1_suspects_0 0 rfl rfl ?_
  refine v_iload_n E dX1_suspects_1 1 rfl rfl ?_
  have hp2 : kk1 (zin ((u0)) (z_nt S)) ≠ 0 → kk2 (zin u0 (z_nt S)) (z_T S (iN u0)) ≠ 0 ∧ exI (kk1 (zin ((u0)) (z_nt S))) = exIS (kk2 (zin u0 (z_nt S)) (z_T S (iN u0))) := by
    intro hk
    have e9 : kk2 (zin u0 (z_nt S)) (z_T S (iN u0)) = 1 := kk2_f (kk1_n hk)
    rw [e9]
    exact ⟨by decide, rfl⟩
  refine x_cVp E hA htab hTx dX1_suspects_2 (x_X1_needTest l D cI cZ cQ cJ a S hok hl ((u0))) (cwV 1 E.2.2.2.1 gX1_suspects_X1_needTest rfl rfl rfl (by decide +kernel) ⟨Nat.le_of_ble_eq_true rfl, Nat.le_of_ble_eq_true rfl⟩) 0 rfl rfl rfl rfl rfl ⟨Nat.le_of_ble_eq_true rfl, Nat.le_of_ble_eq_true rfl⟩ (Nat.le_of_ble_eq_true rfl) hp2 (by decide) (by decide) (fun hk2 => ?_)
  obtain ⟨t, ht, rfl⟩ := zin_of (by omega) (kk1_z hk2)
  try simp only [iN_nI (show t < 2 ^ 31 by omega)]
  have hzt := zin_n ht (show z_nt S ≤ 2 ^ 31 by omega)
  refine v_aload_n E dX1_suspects_5 0 rfl rfl ?_
  refine v_iload_n E dX1_suspects_6 1 rfl rfl ?_
  have hp7 : kk1 (z_T S (t)) ≠ 0 → kk2 (zin (nI (t)) (z_nt S)) (z_T S (t)) ≠ 0 ∧ exS (kk1 (z_T S (t))) = exIS (kk2 (zin (nI (t)) (z_nt S)) (z_T S (t))) := by
    intro hk
    have e9 : kk2 (zin (nI (t)) (z_nt S)) (z_T S (t)) = 2 := kk2_2 hzt (kk1_n hk)
    rw [e9]
    exact ⟨by decide, rfl⟩
  refine x_cVp E hA htab hTx dX1_suspects_7 (x_X1_needTriage l D cI cZ cQ cJ a S hok hl (t) (by omega)) (cwV 1 E.2.2.2.1 gX1_suspects_X1_needTriage rfl rfl rfl (by decide +kernel) ⟨Nat.le_of_ble_eq_true rfl, Nat.le_of_ble_eq_true rfl⟩) 0 rfl rfl rfl rfl rfl ⟨Nat.le_of_ble_eq_true rfl, Nat.le_of_ble_eq_true rfl⟩ (Nat.le_of_ble_eq_true rfl) hp7 (by decide) (by decide) (fun hk7 => ?_)
  have hT := kk1_z hk7
  obtain ⟨q1, q2, q3⟩ := k10 t hT
  refine v_aload_n E dX1_suspects_10 0 rfl rfl ?_
  refine v_iload_n E dX1_suspects_11 1 rfl rfl ?_
  refine v_cVl' E dX1_suspects_12 (x_X1_suspectsOf l D cI cZ cQ cJ a S hok (t) (by omega) hT) (cwV 1 E.2.2.2.1 gX1_suspects_X1_suspectsOf rfl rfl rfl (by decide +kernel) ⟨Nat.le_of_ble_eq_true rfl, Nat.le_of_ble_eq_true rfl⟩) 0 rfl rfl rfl (fun _ h => h) rfl rfl ⟨Nat.le_of_ble_eq_true rfl, Nat.le_of_ble_eq_true rfl⟩ (Nat.le_of_ble_eq_true rfl) ?_
  exact x_retl E hr (kk2_t hzt hT) rfl (by decide) (by decide) dX1_suspects_15

set_option maxHeartbeats 4000000 in
set_option maxRecDepth 100000 in
theorem x_X1_candidates (l : Launch) (D : va_G) (cI cZ cQ cJ : ClassId) (a : Nat → Nat) (S : zS) (hok : zOK S) (hl : l.stackTraces = false) (u0 : Int32) : v_Thr l yX1_candidates wsX1_candidates { frames := 7, cells := 2, slots := 12, locals := 111 } D (wTy cI cZ cQ cJ) [.ref (a 0), .int (u0)] (wX cI cZ cQ a S) (kk2 (zin u0 (z_nt S)) (z_T S (iN u0))) exIS (some (.long (lN (msk (cnd S (iN u0)) (z_B S (iN u0) + 1))))) (wX cI cZ cQ a S) 2 12 := by
  refine v_thrower (cc := cX1_candidates) (maxL := 2) (ret := (some .long)) (own := RX1) (lv0 := [(0, .ref (a 0)), (1, .int (u0))]) (by decide) rfl rfl (Nat.le_of_ble_eq_true rfl) rfl ?_
  intro p9 e9 s9 m9 as9 bl9 me9 cd9 A E hA htab hTx hr
  obtain ⟨⟨k1, k2, k3, k4, k5, k6, k7, k8⟩, k9, k10, k11, k12, k13⟩ := id hok
  refine v_aload_n E dX1_candidates_0 0 rfl rfl ?_
  refine v_iload_n E dX1_candidates_1 1 rfl rfl ?_
  have hp2 : kk1 (zin ((u0)) (z_nt S)) ≠ 0 → kk2 (zin u0 (z_nt S)) (z_T S (iN u0)) ≠ 0 ∧ exI (kk1 (zin ((u0)) (z_nt S))) = exIS (kk2 (zin u0 (z_nt S)) (z_T S (iN u0))) := by
    intro hk
    have e9 : kk2 (zin u0 (z_nt S)) (z_T S (iN u0)) = 1 := kk2_f (kk1_n hk)
    rw [e9]
    exact ⟨by decide, rfl⟩
  refine x_cVp E hA htab hTx dX1_candidates_2 (x_X1_needTest l D cI cZ cQ cJ a S hok hl ((u0))) (cwV 1 E.2.2.2.1 gX1_candidates_X1_needTest rfl rfl rfl (by decide +kernel) ⟨Nat.le_of_ble_eq_true rfl, Nat.le_of_ble_eq_true rfl⟩) 0 rfl rfl rfl rfl rfl ⟨Nat.le_of_ble_eq_true rfl, Nat.le_of_ble_eq_true rfl⟩ (Nat.le_of_ble_eq_true rfl) hp2 (by decide) (by decide) (fun hk2 => ?_)
  obtain ⟨t, ht, rfl⟩ := zin_of (by omega) (kk1_z hk2)
  try simp only [iN_nI (show t < 2 ^ 31 by omega)]
  have hzt := zin_n ht (show z_nt S ≤ 2 ^ 31 by omega)
  refine v_aload_n E dX1_candidates_5 0 rfl rfl ?_
  refine v_iload_n E dX1_candidates_6 1 rfl rfl ?_
  have hp7 : kk1 (z_T S (t)) ≠ 0 → kk2 (zin (nI (t)) (z_nt S)) (z_T S (t)) ≠ 0 ∧ exS (kk1 (z_T S (t))) = exIS (kk2 (zin (nI (t)) (z_nt S)) (z_T S (t))) := by
    intro hk
    have e9 : kk2 (zin (nI (t)) (z_nt S)) (z_T S (t)) = 2 := kk2_2 hzt (kk1_n hk)
    rw [e9]
    exact ⟨by decide, rfl⟩
  refine x_cVp E hA htab hTx dX1_candidates_7 (x_X1_needTriage l D cI cZ cQ cJ a S hok hl (t) (by omega)) (cwV 1 E.2.2.2.1 gX1_candidates_X1_needTriage rfl rfl rfl (by decide +kernel) ⟨Nat.le_of_ble_eq_true rfl, Nat.le_of_ble_eq_true rfl⟩) 0 rfl rfl rfl rfl rfl ⟨Nat.le_of_ble_eq_true rfl, Nat.le_of_ble_eq_true rfl⟩ (Nat.le_of_ble_eq_true rfl) hp7 (by decide) (by decide) (fun hk7 => ?_)
  have hT := kk1_z hk7
  obtain ⟨q1, q2, q3⟩ := k10 t hT
  refine v_aload_n E dX1_candidates_10 0 rfl rfl ?_
  refine v_iload_n E dX1_candidates_11 1 rfl rfl ?_
  refine v_cVl' E dX1_candidates_12 (x_X1_candidatesOf l D cI cZ cQ cJ a S hok (t) (by omega) hT) (cwV 1 E.2.2.2.1 gX1_candidates_X1_candidatesOf rfl rfl rfl (by decide +kernel) ⟨Nat.le_of_ble_eq_true rfl, Nat.le_of_ble_eq_true rfl⟩) 0 rfl rfl rfl (fun _ h => h) rfl rfl ⟨Nat.le_of_ble_eq_true rfl, Nat.le_of_ble_eq_true rfl⟩ (Nat.le_of_ble_eq_true rfl) ?_
  exact x_retl E hr (kk2_t hzt hT) rfl (by decide) (by decide) dX1_candidates_15

set_option maxHeartbeats 4000000 in
set_option maxRecDepth 100000 in
theorem x_X1_likeliest (l : Launch) (D : va_G) (cI cZ cQ cJ : ClassId) (a : Nat → Nat) (S : zS) (hok : zOK S) (hl : l.stackTraces = false) (u0 : Int32) : v_Thr l yX1_likeliest wsX1_likeliest { frames := 7, cells := 2, slots := 12, locals := 111 } D (wTy cI cZ cQ cJ) [.ref (a 0), .int (u0)] (wX cI cZ cQ a S) (kk2 (zin u0 (z_nt S)) (z_T S (iN u0))) exIS (some (.int (oI (zlk S (iN u0) (z_B S (iN u0) + 1))))) (wX cI cZ cQ a S) 2 12 := by
  refine v_thrower (cc := cX1_likeliest) (maxL := 2) (ret := (some .int)) (own := RX1) (lv0 := [(0, .ref (a 0)), (1, .int (u0))]) (by decide) rfl rfl (Nat.le_of_ble_eq_true rfl) rfl ?_
  intro p9 e9 s9 m9 as9 bl9 me9 cd9 A E hA htab hTx hr
  obtain ⟨⟨k1, k2, k3, k4, k5, k6, k7, k8⟩, k9, k10, k11, k12, k13⟩ := id hok
  refine v_aload_n E dX1_likeliest_0 0 rfl rfl ?_
  refine v_iload_n E dX1_likeliest_1 1 rfl rfl ?_
  have hp2 : kk1 (zin ((u0)) (z_nt S)) ≠ 0 → kk2 (zin u0 (z_nt S)) (z_T S (iN u0)) ≠ 0 ∧ exI (kk1 (zin ((u0)) (z_nt S))) = exIS (kk2 (zin u0 (z_nt S)) (z_T S (iN u0))) := by
    intro hk
    have e9 : kk2 (zin u0 (z_nt S)) (z_T S (iN u0)) = 1 := kk2_f (kk1_n hk)
    rw [e9]
    exact ⟨by decide, rfl⟩
  refine x_cVp E hA htab hTx dX1_likeliest_2 (x_X1_needTest l D cI cZ cQ cJ a S hok hl ((u0))) (cwV 1 E.2.2.2.1 gX1_likeliest_X1_needTest rfl rfl rfl (by decide +kernel) ⟨Nat.le_of_ble_eq_true rfl, Nat.le_of_ble_eq_true rfl⟩) 0 rfl rfl rfl rfl rfl ⟨Nat.le_of_ble_eq_true rfl, Nat.le_of_ble_eq_true rfl⟩ (Nat.le_of_ble_eq_true rfl) hp2 (by decide) (by decide) (fun hk2 => ?_)
  obtain ⟨t, ht, rfl⟩ := zin_of (by omega) (kk1_z hk2)
  try simp only [iN_nI (show t < 2 ^ 31 by omega)]
  have hzt := zin_n ht (show z_nt S ≤ 2 ^ 31 by omega)
  refine v_aload_n E dX1_likeliest_5 0 rfl rfl ?_
  refine v_iload_n E dX1_likeliest_6 1 rfl rfl ?_
  have hp7 : kk1 (z_T S (t)) ≠ 0 → kk2 (zin (nI (t)) (z_nt S)) (z_T S (t)) ≠ 0 ∧ exS (kk1 (z_T S (t))) = exIS (kk2 (zin (nI (t)) (z_nt S)) (z_T S (t))) := by
    intro hk
    have e9 : kk2 (zin (nI (t)) (z_nt S)) (z_T S (t)) = 2 := kk2_2 hzt (kk1_n hk)
    rw [e9]
    exact ⟨by decide, rfl⟩
  refine x_cVp E hA htab hTx dX1_likeliest_7 (x_X1_needTriage l D cI cZ cQ cJ a S hok hl (t) (by omega)) (cwV 1 E.2.2.2.1 gX1_likeliest_X1_needTriage rfl rfl rfl (by decide +kernel) ⟨Nat.le_of_ble_eq_true rfl, Nat.le_of_ble_eq_true rfl⟩) 0 rfl rfl rfl rfl rfl ⟨Nat.le_of_ble_eq_true rfl, Nat.le_of_ble_eq_true rfl⟩ (Nat.le_of_ble_eq_true rfl) hp7 (by decide) (by decide) (fun hk7 => ?_)
  have hT := kk1_z hk7
  obtain ⟨q1, q2, q3⟩ := k10 t hT
  refine v_aload_n E dX1_likeliest_10 0 rfl rfl ?_
  refine v_iload_n E dX1_likeliest_11 1 rfl rfl ?_
  refine v_cVi' E dX1_likeliest_12 (x_X1_likeliestOf l D cI cZ cQ cJ a S hok (t) (by omega) hT) (cwV 1 E.2.2.2.1 gX1_likeliest_X1_likeliestOf rfl rfl rfl (by decide +kernel) ⟨Nat.le_of_ble_eq_true rfl, Nat.le_of_ble_eq_true rfl⟩) 0 rfl rfl rfl (fun _ h => h) rfl rfl ⟨Nat.le_of_ble_eq_true rfl, Nat.le_of_ble_eq_true rfl⟩ (Nat.le_of_ble_eq_true rfl) ?_
  exact x_ret E hr (kk2_t hzt hT) rfl (by decide) (by decide) dX1_likeliest_15

set_option maxHeartbeats 4000000 in
set_option maxRecDepth 100000 in
theorem x_X1_contradictions (l : Launch) (D : va_G) (cI cZ cQ cJ : ClassId) (a : Nat → Nat) (S : zS) (hok : zOK S) (hl : l.stackTraces = false) (u0 u1 : Int32) : v_Thr l yX1_contradictions wsX1_contradictions { frames := 7, cells := 3, slots := 18, locals := 111 } D (wTy cI cZ cQ cJ) [.ref (a 0), .int (u0), .int (u1)] (wX cI cZ cQ a S) (kk2 (zin u0 (z_nt S) && zin u1 (z_nc S)) (z_T S (iN u0))) exIS (some (.int (zco S (iN u0) (iN u1)))) (wX cI cZ cQ a S) 3 18 := by
  refine v_thrower (cc := cX1_contradictions) (maxL := 3) (ret := (some .int)) (own := RX1) (lv0 := [(0, .ref (a 0)), (1, .int (u0)), (2, .int (u1))]) (by decide) rfl rfl (Nat.le_of_ble_eq_true rfl) rfl ?_
  intro p9 e9 s9 m9 as9 bl9 me9 cd9 A E hA htab hTx hr
  have hinX1 : ∀ w ∈ u_ws RX1 TX1 15, w ∈ wsX1_contradictions := by decide +kernel
  obtain ⟨⟨k1, k2, k3, k4, k5, k6, k7, k8⟩, k9, k10, k11, k12, k13⟩ := id hok
  refine v_aload_n E dX1_contradictions_0 0 rfl rfl ?_
  refine v_iload_n E dX1_contradictions_1 1 rfl rfl ?_
  have hp2 : kk1 (zin ((u0)) (z_nt S)) ≠ 0 → kk2 (zin u0 (z_nt S) && zin u1 (z_nc S)) (z_T S (iN u0)) ≠ 0 ∧ exI (kk1 (zin ((u0)) (z_nt S))) = exIS (kk2 (zin u0 (z_nt S) && zin u1 (z_nc S)) (z_T S (iN u0))) := by
    intro hk
    have e9 : kk2 (zin u0 (z_nt S) && zin u1 (z_nc S)) (z_T S (iN u0)) = 1 := kk2_f (by rw [kk1_n hk]; rfl)
    rw [e9]
    exact ⟨by decide, rfl⟩
  refine x_cVp E hA htab hTx dX1_contradictions_2 (x_X1_needTest l D cI cZ cQ cJ a S hok hl ((u0))) (cwV 1 E.2.2.2.1 gX1_contradictions_X1_needTest rfl rfl rfl (by decide +kernel) ⟨Nat.le_of_ble_eq_true rfl, Nat.le_of_ble_eq_true rfl⟩) 0 rfl rfl rfl rfl rfl ⟨Nat.le_of_ble_eq_true rfl, Nat.le_of_ble_eq_true rfl⟩ (Nat.le_of_ble_eq_true rfl) hp2 (by decide) (by decide) (fun hk2 => ?_)
  obtain ⟨t, ht, rfl⟩ := zin_of (by omega) (kk1_z hk2)
  try simp only [iN_nI (show t < 2 ^ 31 by omega)]
  have hzt := zin_n ht (show z_nt S ≤ 2 ^ 31 by omega)
  refine v_aload_n E dX1_contradictions_5 0 rfl rfl ?_
  refine v_iload_n E dX1_contradictions_6 2 rfl rfl ?_
  have hp7 : kk1 (zin ((u1)) (z_nc S)) ≠ 0 → kk2 (zin (nI (t)) (z_nt S) && zin u1 (z_nc S)) (z_T S (t)) ≠ 0 ∧ exI (kk1 (zin ((u1)) (z_nc S))) = exIS (kk2 (zin (nI (t)) (z_nt S) && zin u1 (z_nc S)) (z_T S (t))) := by
    intro hk
    have e9 : kk2 (zin (nI (t)) (z_nt S) && zin u1 (z_nc S)) (z_T S (t)) = 1 := kk2_f (by rw [kk1_n hk, Bool.and_false])
    rw [e9]
    exact ⟨by decide, rfl⟩
  refine x_cVp E hA htab hTx dX1_contradictions_7 (x_X1_needCommit l D cI cZ cQ cJ a S hok hl ((u1))) (cwV 1 E.2.2.2.1 gX1_contradictions_X1_needCommit rfl rfl rfl (by decide +kernel) ⟨Nat.le_of_ble_eq_true rfl, Nat.le_of_ble_eq_true rfl⟩) 0 rfl rfl rfl rfl rfl ⟨Nat.le_of_ble_eq_true rfl, Nat.le_of_ble_eq_true rfl⟩ (Nat.le_of_ble_eq_true rfl) hp7 (by decide) (by decide) (fun hk7 => ?_)
  obtain ⟨c, hc, rfl⟩ := zin_of (by omega) (kk1_z hk7)
  try simp only [iN_nI (show c < 2 ^ 31 by omega)]
  have hzc := zin_n hc (show z_nc S ≤ 2 ^ 31 by omega)
  refine v_aload_n E dX1_contradictions_10 0 rfl rfl ?_
  refine v_iload_n E dX1_contradictions_11 1 rfl rfl ?_
  have hp12 : kk1 (z_T S (t)) ≠ 0 → kk2 (zin (nI (t)) (z_nt S) && zin (nI (c)) (z_nc S)) (z_T S (t)) ≠ 0 ∧ exS (kk1 (z_T S (t))) = exIS (kk2 (zin (nI (t)) (z_nt S) && zin (nI (c)) (z_nc S)) (z_T S (t))) := by
    intro hk
    have e9 : kk2 (zin (nI (t)) (z_nt S) && zin (nI (c)) (z_nc S)) (z_T S (t)) = 2 := kk2_2 (by rw [hzt, hzc]; rfl) (kk1_n hk)
    rw [e9]
    exact ⟨by decide, rfl⟩
  refine x_cVp E hA htab hTx dX1_contradictions_12 (x_X1_needTriage l D cI cZ cQ cJ a S hok hl (t) (by omega)) (cwV 1 E.2.2.2.1 gX1_contradictions_X1_needTriage rfl rfl rfl (by decide +kernel) ⟨Nat.le_of_ble_eq_true rfl, Nat.le_of_ble_eq_true rfl⟩) 0 rfl rfl rfl rfl rfl ⟨Nat.le_of_ble_eq_true rfl, Nat.le_of_ble_eq_true rfl⟩ (Nat.le_of_ble_eq_true rfl) hp12 (by decide) (by decide) (fun hk12 => ?_)
  have hT := kk1_z hk12
  obtain ⟨q1, q2, q3⟩ := k10 t hT
  refine v_aload_n E dX1_contradictions_15 0 rfl rfl ?_
  refine v_iload_n E dX1_contradictions_16 1 rfl rfl ?_
  refine v_cVl' E dX1_contradictions_17 (x_X1_suspectsOf l D cI cZ cQ cJ a S hok (t) (by omega) hT) (cwV 1 E.2.2.2.1 gX1_contradictions_X1_suspectsOf rfl rfl rfl (by decide +kernel) ⟨Nat.le_of_ble_eq_true rfl, Nat.le_of_ble_eq_true rfl⟩) 0 rfl rfl rfl (fun _ h => h) rfl rfl ⟨Nat.le_of_ble_eq_true rfl, Nat.le_of_ble_eq_true rfl⟩ (Nat.le_of_ble_eq_true rfl) ?_
  refine v_iload_n E dX1_contradictions_20 2 rfl rfl ?_
  refine v_cSi' E dX1_contradictions_21 (x_X1_has l D cI cZ cQ cJ (msk (sus S (t)) (z_B S (t) + 1)) (c) (Nat.lt_trans (msk_lt62 _ (by omega)) (by decide)) (by omega)) (va_cwS 2 E.2.2.2.1 gX1_contradictions_X1_has rfl rfl rfl (by decide +kernel) ⟨Nat.le_of_ble_eq_true rfl, Nat.le_of_ble_eq_true rfl⟩) (fun _ _ => v_nil _) rfl rfl ⟨Nat.le_of_ble_eq_true rfl, Nat.le_of_ble_eq_true rfl⟩ (Nat.le_of_ble_eq_true rfl) ?_
  refine b_if_ne E dX1_contradictions_24 (tgt := 29) (by decide) (fun c24 => ?_) (fun c24 => ?_)
  · rw [sus_tb2] at c24
    refine v_aload_n E dX1_contradictions_29 0 rfl rfl ?_
    refine v_get E dX1_contradictions_30 0 3 hinX1 rfl rfl (by decide) (by decide +kernel) rfl rfl ?_
    refine v_iload_n E dX1_contradictions_33 1 rfl rfl ?_
    refine v_aload_n E dX1_contradictions_34 0 rfl rfl ?_
    refine v_get E dX1_contradictions_35 0 5 hinX1 rfl rfl (by decide) (by decide +kernel) rfl rfl ?_
    refine v_iload_n E dX1_contradictions_38 1 rfl rfl ?_
    refine v_iald E dX1_contradictions_39 6 0 rfl rfl (by omega) (by decide) rfl ?_
    refine v_aload_n E dX1_contradictions_40 0 rfl rfl ?_
    refine v_get E dX1_contradictions_41 0 6 hinX1 rfl rfl (by decide) (by decide +kernel) rfl rfl ?_
    refine v_iload_n E dX1_contradictions_44 1 rfl rfl ?_
    refine v_iald E dX1_contradictions_45 7 0 rfl rfl (by omega) (by decide) rfl ?_
    refine v_iload_n E dX1_contradictions_46 2 rfl rfl ?_
    refine v_cVi' E dX1_contradictions_47 (x_X0_contradicting l D cI cZ cQ cJ a S hok (t) (z_G S (t)) (z_B S (t)) (c) (by omega) (by omega) (by omega) (by omega)) (cwV 4 E.2.2.2.1 gX1_contradictions_X0_contradicting rfl rfl rfl (by decide +kernel) ⟨Nat.le_of_ble_eq_true rfl, Nat.le_of_ble_eq_true rfl⟩) 4 rfl rfl rfl (fun _ h => h) rfl rfl ⟨Nat.le_of_ble_eq_true rfl, Nat.le_of_ble_eq_true rfl⟩ (Nat.le_of_ble_eq_true rfl) ?_
    exact x_ret E hr (kk2_t (by rw [hzt, hzc]; rfl) hT) (by unfold zco; rw [if_pos c24, zcon_zag hok (by omega)]) (by decide) (by decide) dX1_contradictions_50
  · rw [sus_tb2] at c24
    refine v_iconst E dX1_contradictions_27 (v := (-1)) rfl ?_
    exact x_ret E hr (kk2_t (by rw [hzt, hzc]; rfl) hT) (by unfold zco; rw [if_neg (by rw [c24]; decide)]) (by decide) (by decide) dX1_contradictions_28

set_option maxHeartbeats 4000000 in
set_option maxRecDepth 100000 in
theorem x_X1_next (l : Launch) (D : va_G) (cI cZ cQ cJ : ClassId) (a : Nat → Nat) (S : zS) (hok : zOK S) (hl : l.stackTraces = false) (u0 : Int32) : v_Thr l yX1_next wsX1_next { frames := 7, cells := 2, slots := 12, locals := 111 } D (wTy cI cZ cQ cJ) [.ref (a 0), .int (u0)] (wX cI cZ cQ a S) (kk2 (zin u0 (z_nt S)) (z_T S (iN u0))) exIS (some (.int (oI (znx S (iN u0) (z_B S (iN u0)))))) (wX cI cZ cQ a S) 2 12 := by
  refine v_thrower (cc := cX1_next) (maxL := 10) (ret := (some .int)) (own := RX1) (lv0 := [(0, .ref (a 0)), (1, .int (u0))]) (by decide) rfl rfl (Nat.le_of_ble_eq_true rfl) rfl ?_
  intro p9 e9 s9 m9 as9 bl9 me9 cd9 A E hA htab hTx hr
  have hinX1 : ∀ w ∈ u_ws RX1 TX1 15, w ∈ wsX1_next := by decide +kernel
  obtain ⟨⟨k1, k2, k3, k4, k5, k6, k7, k8⟩, k9, k10, k11, k12, k13⟩ := id hok
  refine v_aload_n E dX1_next_0 0 rfl rfl ?_
  refine v_iload_n E dX1_next_1 1 rfl rfl ?_
  have hp2 : kk1 (zin ((u0)) (z_nt S)) ≠ 0 → kk2 (zin u0 (z_nt S)) (z_T S (iN u0)) ≠ 0 ∧ exI (kk1 (zin ((u0)) (z_nt S))) = exIS (kk2 (zin u0 (z_nt S)) (z_T S (iN u0))) := by
    intro hk
    have e9 : kk2 (zin u0 (z_nt S)) (z_T S (iN u0)) = 1 := kk2_f (kk1_n hk)
    rw [e9]
    exact ⟨by decide, rfl⟩
  refine x_cVp E hA htab hTx dX1_next_2 (x_X1_needTest l D cI cZ cQ cJ a S hok hl ((u0))) (cwV 1 E.2.2.2.1 gX1_next_X1_needTest rfl rfl rfl (by decide +kernel) ⟨Nat.le_of_ble_eq_true rfl, Nat.le_of_ble_eq_true rfl⟩) 0 rfl rfl rfl rfl rfl ⟨Nat.le_of_ble_eq_true rfl, Nat.le_of_ble_eq_true rfl⟩ (Nat.le_of_ble_eq_true rfl) hp2 (by decide) (by decide) (fun hk2 => ?_)
  obtain ⟨t, ht, rfl⟩ := zin_of (by omega) (kk1_z hk2)
  try simp only [iN_nI (show t < 2 ^ 31 by omega)]
  have hzt := zin_n ht (show z_nt S ≤ 2 ^ 31 by omega)
  refine v_aload_n E dX1_next_5 0 rfl rfl ?_
  refine v_iload_n E dX1_next_6 1 rfl rfl ?_
  have hp7 : kk1 (z_T S (t)) ≠ 0 → kk2 (zin (nI (t)) (z_nt S)) (z_T S (t)) ≠ 0 ∧ exS (kk1 (z_T S (t))) = exIS (kk2 (zin (nI (t)) (z_nt S)) (z_T S (t))) := by
    intro hk
    have e9 : kk2 (zin (nI (t)) (z_nt S)) (z_T S (t)) = 2 := kk2_2 hzt (kk1_n hk)
    rw [e9]
    exact ⟨by decide, rfl⟩
  refine x_cVp E hA htab hTx dX1_next_7 (x_X1_needTriage l D cI cZ cQ cJ a S hok hl (t) (by omega)) (cwV 1 E.2.2.2.1 gX1_next_X1_needTriage rfl rfl rfl (by decide +kernel) ⟨Nat.le_of_ble_eq_true rfl, Nat.le_of_ble_eq_true rfl⟩) 0 rfl rfl rfl rfl rfl ⟨Nat.le_of_ble_eq_true rfl, Nat.le_of_ble_eq_true rfl⟩ (Nat.le_of_ble_eq_true rfl) hp7 (by decide) (by decide) (fun hk7 => ?_)
  have hT := kk1_z hk7
  obtain ⟨q1, q2, q3⟩ := k10 t hT
  refine v_aload_n E dX1_next_10 0 rfl rfl ?_
  refine v_iload_n E dX1_next_11 1 rfl rfl ?_
  refine v_cVl' E dX1_next_12 (x_X1_candidatesOf l D cI cZ cQ cJ a S hok (t) (by omega) hT) (cwV 1 E.2.2.2.1 gX1_next_X1_candidatesOf rfl rfl rfl (by decide +kernel) ⟨Nat.le_of_ble_eq_true rfl, Nat.le_of_ble_eq_true rfl⟩) 0 rfl rfl rfl (fun _ h => h) rfl rfl ⟨Nat.le_of_ble_eq_true rfl, Nat.le_of_ble_eq_true rfl⟩ (Nat.le_of_ble_eq_true rfl) ?_
  refine v_lstore_n E dX1_next_15 rfl (by decide) rfl ?_
  refine v_iconst E dX1_next_16 (v := (-1)) rfl ?_
  refine v_istore E dX1_next_17 (by decide) rfl ?_
  refine v_iconst E dX1_next_19 (v := nI 0) rfl ?_
  refine v_istore E dX1_next_20 (by decide) rfl ?_
  refine v_iconst E dX1_next_22 (v := nI 0) rfl ?_
  refine v_istore E dX1_next_23 (by decide) rfl ?_
  refine v_aload_n E dX1_next_25 4 rfl rfl ?_
  refine v_get E dX1_next_26 0 5 hinX1 rfl rfl (by decide) (by decide +kernel) rfl rfl ?_
  refine v_iload_n E dX1_next_29 5 rfl rfl ?_
  refine v_iald E dX1_next_30 6 0 rfl rfl (by omega) (by decide) rfl ?_
  refine v_iconst E dX1_next_31 (v := nI 1) rfl ?_
  refine v_iadd E dX1_next_32 (nI_add _ _) ?_
  refine v_istore E dX1_next_33 (by decide) rfl ?_
  have L35_1 : ∀ (n35 : Nat) (b : Nat) (w : Nat) (rr : Nat) (c : Nat), z_B S t - c < n35 → (b = znx S t c) → (b ≠ 0 → w = zwt S t (b - 1) ∧ rr = zrn S t (b - 1)) → (w ≤ 41 ∧ rr ≤ 400) → (z_G S t + 1 ≤ c) → (c ≤ z_B S t) → V p9 l e9 (headSpec wsX1_next { frames := 7, cells := 2, slots := 12, locals := 111 }).room s9 m9 as9 bl9 me9 cd9 2 12 (vx_MQ bl9 (v_Qo D (wTy cI cZ cQ cJ) (kk2 (zin (nI (t)) (z_nt S)) (z_T S (t)) = 0) (some (.int (oI (znx S (t) (z_B S (t)))))) (wX cI cZ cQ a S) A) (v_XC D (wTy cI cZ cQ cJ) (kk2 (zin (nI (t)) (z_nt S)) (z_T S (t))) exIS (wX cI cZ cQ a S) A) as9 s9 2 12 A) (v_rw D A s9) 10 35 [(4, .int (oI b)), (5, .int (nI (w))), (6, .int (nI (rr))), (7, .int (nI (c))), (2, .long (lN (msk (cnd S (t)) (z_B S (t) + 1)))), (0, .ref (a 0)), (1, .int (nI (t)))] [] (wX cI cZ cQ a S) := by
    intro n35
    induction n35 with
    | zero => intro b w rr c hm35 hb hw hwl h1 h2; exact absurd hm35 (Nat.not_lt_zero _)
    | succ n35 ih35 =>
      intro b w rr c hm35 hb hw hwl h1 h2
      have hbl : b ≤ c := by rw [hb]; exact znx_le S t c
      obtain ⟨hw1, hr1⟩ := hwl
      refine v_iload E dX1_next_35 3 rfl ?_
      refine v_aload_n E dX1_next_37 5 rfl rfl ?_
      refine v_get E dX1_next_38 0 6 hinX1 rfl rfl (by decide) (by decide +kernel) rfl rfl ?_
      refine v_iload_n E dX1_next_41 6 rfl rfl ?_
      refine v_iald E dX1_next_42 7 0 rfl rfl (by omega) (by decide) rfl ?_
      refine n_icmp_ge E dX1_next_43 (by omega) (by omega) (tgt := 110) (by decide) (fun c43 => ?_) (fun c43 => ?_)
      · refine v_iload E dX1_next_110 0 rfl ?_
        exact x_ret E hr (kk2_t hzt hT) (by rw [hb, show c = z_B S t by omega]) (by decide) (by decide) dX1_next_112
      · have hzw := zwt_le (S := S) (t := t) (c := c) (by omega) (by omega)
        have hzr : zrn S t c ≤ 400 := by have z1 := zP_le hok t c; have z2 := zF_le hok t c; unfold zrn; omega
        refine v_lload_n E dX1_next_46 4 rfl rfl ?_
        refine v_iload E dX1_next_47 3 rfl ?_
        refine v_cSi' E dX1_next_49 (x_X1_weightAt l D cI cZ cQ cJ (msk (cnd S (t)) (z_B S (t) + 1)) (c) (msk_lt62 _ (by omega)) (by omega)) (va_cwS 2 E.2.2.2.1 gX1_next_X1_weightAt rfl rfl rfl (by decide +kernel) ⟨Nat.le_of_ble_eq_true rfl, Nat.le_of_ble_eq_true rfl⟩) (fun _ _ => v_nil _) rfl rfl ⟨Nat.le_of_ble_eq_true rfl, Nat.le_of_ble_eq_true rfl⟩ (Nat.le_of_ble_eq_true rfl) ?_
        refine v_top (y := nI (zwt S t c)) (by rw [zwt_eq (by omega) (by omega)]) ?_
        refine v_istore E dX1_next_52 (by decide) rfl ?_
        refine v_aload_n E dX1_next_54 6 rfl rfl ?_
        refine v_get E dX1_next_55 0 3 hinX1 rfl rfl (by decide) (by decide +kernel) rfl rfl ?_
        refine v_iload_n E dX1_next_58 7 rfl rfl ?_
        refine v_iload E dX1_next_59 4 rfl ?_
        refine v_cVi' E dX1_next_61 (x_X0_countAt l D cI cZ cQ cJ a S hok (t) (c) (by omega) (by omega)) (cwV 2 E.2.2.2.1 gX1_next_X0_countAt rfl rfl rfl (by decide +kernel) ⟨Nat.le_of_ble_eq_true rfl, Nat.le_of_ble_eq_true rfl⟩) 4 rfl rfl rfl (fun _ h => h) rfl rfl ⟨Nat.le_of_ble_eq_true rfl, Nat.le_of_ble_eq_true rfl⟩ (Nat.le_of_ble_eq_true rfl) ?_
        refine v_top (y := nI (zrn S t c)) rfl ?_
        refine v_istore E dX1_next_64 (by decide) rfl ?_
        refine v_iload E dX1_next_66 2 rfl ?_
        refine v_if_lt E dX1_next_68 (tgt := 92) (by decide) (fun c68 => ?_) (fun c68 => ?_)
        · have c68 := (oI_lt (by omega)).mp c68
          refine v_iload E dX1_next_92 5 rfl ?_
          refine v_top (y := (oI (c + 1))) (oI_s c).symm ?_
          refine v_istore E dX1_next_94 (by decide) rfl ?_
          refine v_iload E dX1_next_96 2 rfl ?_
          refine v_istore E dX1_next_98 (by decide) rfl ?_
          refine v_iload E dX1_next_100 2 rfl ?_
          refine v_istore E dX1_next_102 (by decide) rfl ?_
          refine v_iinc E dX1_next_104 5 rfl (nI_1 _) (by decide) rfl ?_
          refine v_goto E dX1_next_107 (tgt := 35) (by decide) ?_
          refine v_lv [3, 2, 1, 0, 6, 7, 8] rfl ?_
          exact ih35 (c + 1) (zwt S t c) (zrn S t c) (c + 1) (by omega) (znx_t hb ⟨by omega, c43⟩ (Or.inl c68)) (fun _ => ⟨rfl, rfl⟩) ⟨by omega, by omega⟩ (by omega) (by omega)
        · have c68 : b ≠ 0 := fun q => c68 ((oI_lt (by omega)).mpr q)
          refine v_iload E dX1_next_71 1 rfl ?_
          refine v_iload E dX1_next_73 3 rfl ?_
          refine n_icmp_lt E dX1_next_75 (by omega) (by omega) (tgt := 92) (by decide) (fun c75 => ?_) (fun c75 => ?_)
          · refine v_iload E dX1_next_92 5 rfl ?_
            refine v_top (y := (oI (c + 1))) (oI_s c).symm ?_
            refine v_istore E dX1_next_94 (by decide) rfl ?_
            refine v_iload E dX1_next_96 2 rfl ?_
            refine v_istore E dX1_next_98 (by decide) rfl ?_
            refine v_iload E dX1_next_100 2 rfl ?_
            refine v_istore E dX1_next_102 (by decide) rfl ?_
            refine v_iinc E dX1_next_104 5 rfl (nI_1 _) (by decide) rfl ?_
            refine v_goto E dX1_next_107 (tgt := 35) (by decide) ?_
            refine v_lv [3, 2, 1, 0, 6, 7, 8] rfl ?_
            exact ih35 (c + 1) (zwt S t c) (zrn S t c) (c + 1) (by omega) (znx_t hb ⟨by omega, c43⟩ (Or.inr (Or.inl (by rw [← (hw c68).1]; exact c75)))) (fun _ => ⟨rfl, rfl⟩) ⟨by omega, by omega⟩ (by omega) (by omega)
          · refine v_iload E dX1_next_78 1 rfl ?_
            refine v_iload E dX1_next_80 3 rfl ?_
            refine n_icmp_ne E dX1_next_82 (by omega) (by omega) (tgt := 104) (by decide) (fun c82 => ?_) (fun c82 => ?_)
            · refine v_iinc E dX1_next_104 5 rfl (nI_1 _) (by decide) rfl ?_
              refine v_goto E dX1_next_107 (tgt := 35) (by decide) ?_
              refine v_lv [3, 4, 5, 0, 6, 7, 8] rfl ?_
              exact ih35 (b) (w) (rr) (c + 1) (by omega) (znx_f hb (fun q => by obtain ⟨-, z⟩ := q; rw [← (hw c68).1, ← (hw c68).2] at z; omega)) hw ⟨hw1, hr1⟩ (by omega) (by omega)
            · refine v_iload E dX1_next_85 0 rfl ?_
              refine v_iload E dX1_next_87 4 rfl ?_
              refine n_icmp_ge E dX1_next_89 (by omega) (by omega) (tgt := 104) (by decide) (fun c89 => ?_) (fun c89 => ?_)
              · refine v_iinc E dX1_next_104 5 rfl (nI_1 _) (by decide) rfl ?_
                refine v_goto E dX1_next_107 (tgt := 35) (by decide) ?_
                refine v_lv [3, 4, 5, 0, 6, 7, 8] rfl ?_
                exact ih35 (b) (w) (rr) (c + 1) (by omega) (znx_f hb (fun q => by obtain ⟨-, z⟩ := q; rw [← (hw c68).1, ← (hw c68).2] at z; omega)) hw ⟨hw1, hr1⟩ (by omega) (by omega)
              · refine v_iload E dX1_next_92 5 rfl ?_
                refine v_top (y := (oI (c + 1))) (oI_s c).symm ?_
                refine v_istore E dX1_next_94 (by decide) rfl ?_
                refine v_iload E dX1_next_96 2 rfl ?_
                refine v_istore E dX1_next_98 (by decide) rfl ?_
                refine v_iload E dX1_next_100 2 rfl ?_
                refine v_istore E dX1_next_102 (by decide) rfl ?_
                refine v_iinc E dX1_next_104 5 rfl (nI_1 _) (by decide) rfl ?_
                refine v_goto E dX1_next_107 (tgt := 35) (by decide) ?_
                refine v_lv [3, 2, 1, 0, 6, 7, 8] rfl ?_
                exact ih35 (c + 1) (zwt S t c) (zrn S t c) (c + 1) (by omega) (znx_t hb ⟨by omega, c43⟩ (Or.inr (Or.inr ⟨by rw [← (hw c68).1]; exact c82, by rw [← (hw c68).2]; exact c89⟩))) (fun _ => ⟨rfl, rfl⟩) ⟨by omega, by omega⟩ (by omega) (by omega)
  refine v_lv [3, 2, 1, 0, 4, 5, 6] rfl ?_
  exact L35_1 ((z_B S t - (z_G S t + 1)) + 1) (0) (0) (0) (z_G S t + 1) (by omega) (znx_z _ (by omega)) (fun q => absurd rfl q) ⟨by omega, by omega⟩ (by omega) (by omega)

