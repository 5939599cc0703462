/-! ===== what holds of a state holds of the next one ===== -/
theorem up_lt {f : Nat → Nat} {i j n : Nat} (hf : ∀ k, f k < n) (hj : j < n) : ∀ k, va_up f i j k < n := fun k => by
  unfold va_up
  split
  · exact hj
  · exact hf k
theorem zOK_U {S : zS} (h : zOK S) (i : Nat) {j : Nat} (hj : j < 65536) : zOK (zs_U S (va_up (z_U S) i j)) :=
  ⟨h.1, fun k => ⟨up_lt (fun k => (h.2.1 k).1) hj k, (h.2.1 k).2⟩, h.2.2⟩
theorem zOK_adC {S : zS} (h : zOK S) {v : Nat} (hv : v < 65536) (hn : z_nc S < 40) : zOK (sadC S v) :=
  ⟨⟨hn, h.1.2⟩, fun k => ⟨(h.2.1 k).1, up_lt (fun k => (h.2.1 k).2.1) hv k, (h.2.1 k).2.2⟩, fun t ht => by
    obtain ⟨a, b, c⟩ := h.2.2.1 t ht
    exact ⟨a, b, Nat.lt_succ_of_lt c⟩, h.2.2.2⟩
theorem zOK_adT {S : zS} (h : zOK S) {v : Nat} (hv : v < 65536) (hn : z_nt S < 12) : zOK (sadT S v) :=
  ⟨⟨h.1.1, hn, h.1.2.2⟩, fun k => ⟨(h.2.1 k).1, (h.2.1 k).2.1, up_lt (fun k => (h.2.1 k).2.2) hv k⟩, fun t ht => by
    obtain ⟨a, b, c⟩ := h.2.2.1 t ht
    exact ⟨Nat.lt_succ_of_lt a, b, c⟩, h.2.2.2⟩
theorem zOK_qua {S : zS} (h : zOK S) {i j : Nat} (h1 : 1 ≤ i) (h2 : i < 11) (h3 : 1 ≤ j) (h4 : j < 41) : zOK (zs_wi (zs_li S i) j) :=
  ⟨⟨h.1.1, h.1.2.1, h1, Nat.le_of_lt_succ h2, h3, Nat.le_of_lt_succ h4, h.1.2.2.2.2.2.2⟩, h.2⟩
theorem zOK_no {S : zS} (h : zOK S) {i : Nat} (h2 : i < 21) : zOK (zs_no S i) :=
  ⟨⟨h.1.1, h.1.2.1, h.1.2.2.1, h.1.2.2.2.1, h.1.2.2.2.2.1, h.1.2.2.2.2.2.1, Nat.le_of_lt_succ h2, h.1.2.2.2.2.2.2.2⟩, h.2⟩
theorem zOK_bu {S : zS} (h : zOK S) {i : Nat} (h2 : i < 101) : zOK (zs_bu S i) :=
  ⟨⟨h.1.1, h.1.2.1, h.1.2.2.1, h.1.2.2.2.1, h.1.2.2.2.2.1, h.1.2.2.2.2.2.1, h.1.2.2.2.2.2.2.1, Nat.le_of_lt_succ h2⟩, h.2⟩
theorem zOK_tri {S : zS} (h : zOK S) {t g b : Nat} (ht : t < z_nt S) (hg : g < b) (hb : b < z_nc S) : zOK (stri S t g b) :=
  ⟨h.1, h.2.1, fun t' ht' => by
    have ht' : va_up (z_T S) t true t' = true := ht'
    show t' < z_nt S ∧ va_up (z_G S) t g t' < va_up (z_B S) t b t' ∧ va_up (z_B S) t b t' < z_nc S
    unfold va_up at ht' ⊢
    by_cases e : t' = t
    · rw [if_pos e, if_pos e]
      exact ⟨by omega, hg, hb⟩
    · rw [if_neg e] at ht'
      rw [if_neg e, if_neg e]
      exact h.2.2.1 t' ht', ⟨fun k hk => by
    show va_up (z_T S) t true (z_Q S k) = true
    unfold va_up
    split
    · rfl
    · exact h.2.2.2.1.1 k hk, h.2.2.2.1.2⟩, h.2.2.2.2⟩
theorem zrm_lo {Q : Nat → Nat} {p n j : Nat} (h : j < p) : zrm Q p n j = Q j := if_neg (by omega)
theorem zrm_hi {Q : Nat → Nat} {p n j : Nat} (h : p ≤ j) (h2 : j < n) : zrm Q p n j = Q (j + 1) := if_pos ⟨h, h2⟩
theorem zrm_inj {Q : Nat → Nat} {p n : Nat} (hi : ∀ i j, i < n + 1 → j < n + 1 → Q i = Q j → i = j) (i j : Nat) (h1 : i < n) (h2 : j < n) (e : zrm Q p n i = zrm Q p n j) : i = j := by
  by_cases a : p ≤ i <;> by_cases b : p ≤ j
  · rw [zrm_hi a h1, zrm_hi b h2] at e
    have := hi _ _ (by omega) (by omega) e
    omega
  · rw [zrm_hi a h1, zrm_lo (by omega)] at e
    have := hi _ _ (by omega) (by omega) e
    omega
  · rw [zrm_lo (by omega), zrm_hi b h2] at e
    have := hi _ _ (by omega) (by omega) e
    omega
  · rw [zrm_lo (by omega), zrm_lo (by omega)] at e
    exact hi _ _ (by omega) (by omega) e
theorem zrm_mem {Q : Nat → Nat} {p n j : Nat} (h : j < n) : ∃ k, k < n + 1 ∧ k ≠ p ∧ zrm Q p n j = Q k := by
  by_cases a : p ≤ j
  · exact ⟨j + 1, by omega, by omega, zrm_hi a h⟩
  · exact ⟨j, by omega, by omega, zrm_lo (by omega)⟩
theorem zOK_srm {S : zS} (h : zOK S) (p : Nat) (hq : 0 < z_qn S) : zOK (srm S p) :=
  ⟨h.1, h.2.1, h.2.2.1, ⟨fun k hk => by
    have hk : k < z_qn S - 1 := hk
    obtain ⟨j, h1, -, h2⟩ := zrm_mem (Q := z_Q S) (p := p) hk
    show z_T S (zrm (z_Q S) p (z_qn S - 1) k) = true
    rw [h2]
    exact h.2.2.2.1.1 j (by omega), fun i j h1 h2 e => by
    have h1 : i < z_qn S - 1 := h1
    have h2 : j < z_qn S - 1 := h2
    exact zrm_inj (p := p) (fun i j a b => h.2.2.2.1.2 i j (by omega) (by omega)) i j h1 h2 e⟩, h.2.2.2.2⟩
theorem zOK_slv {S : zS} (h : zOK S) (t : Nat) : zOK (slv S t) := by
  unfold slv
  split
  · exact h
  · have := plc_le (z_Q S) t (z_qn S)
    exact zOK_srm h _ (by omega)
theorem slv_T (S : zS) (t : Nat) : z_T (slv S t) = z_T S := by unfold slv; split <;> rfl
theorem slv_nt (S : zS) (t : Nat) : z_nt (slv S t) = z_nt S := by unfold slv; split <;> rfl
/-- one that has left isn't in the queue -/
theorem slv_out {S : zS} (h : zOK S) (t : Nat) : ∀ k, k < z_qn (slv S t) → z_Q (slv S t) k ≠ t := by
  unfold slv
  split
  · rename_i e
    exact fun k hk => plc_n e h.2.2.2.1.2 hk
  · rename_i e
    have hl := plc_le (z_Q S) t (z_qn S)
    obtain ⟨q1, q2⟩ := plc_at (Q := z_Q S) (t := t) (k := plc (z_Q S) (z_qn S) t - 1) (z_qn S) (by omega)
    intro k hk
    have hk : k < z_qn S - 1 := hk
    obtain ⟨j, h1, h2, h3⟩ := zrm_mem (Q := z_Q S) (p := plc (z_Q S) (z_qn S) t - 1) hk
    show zrm (z_Q S) (plc (z_Q S) (z_qn S) t - 1) (z_qn S - 1) k ≠ t
    rw [h3]
    intro e2
    exact h2 (h.2.2.2.1.2 _ _ (by omega) q1 (e2.trans q2.symm))
theorem zOK_clo {S : zS} (h : zOK S) (t : Nat) : zOK (sclo S t) := by
  have h2 := zOK_slv h t
  have h3 := slv_out h t
  exact ⟨h2.1, h2.2.1, fun t' ht' => by
    have ht' : va_up (z_T (slv S t)) t false t' = true := ht'
    unfold va_up at ht'
    by_cases e : t' = t
    · rw [if_pos e] at ht'
      exact absurd ht' (by decide)
    · rw [if_neg e] at ht'
      exact h2.2.2.1 t' ht', ⟨fun k hk => by
    show va_up (z_T (slv S t)) t false (z_Q (slv S t) k) = true
    unfold va_up
    rw [if_neg (h3 k hk)]
    exact h2.2.2.2.1.1 k hk, h2.2.2.2.1.2⟩, h2.2.2.2.2⟩
theorem zOK_jn {S : zS} (h : zOK S) {t : Nat} (hT : z_T S t = true) (hp : ∀ k, k < z_qn S → z_Q S k ≠ t) : zOK (sjn S t) :=
  ⟨h.1, h.2.1, h.2.2.1, ⟨fun k hk => by
    have hk : k < z_qn S + 1 := hk
    show z_T S (va_up (z_Q S) (z_qn S) t k) = true
    unfold va_up
    by_cases e : k = z_qn S
    · rw [if_pos e]
      exact hT
    · rw [if_neg e]
      exact h.2.2.2.1.1 k (by omega), fun i j h1 h2 e => by
    have h1 : i < z_qn S + 1 := h1
    have h2 : j < z_qn S + 1 := h2
    have e : va_up (z_Q S) (z_qn S) t i = va_up (z_Q S) (z_qn S) t j := e
    unfold va_up at e
    by_cases a : i = z_qn S <;> by_cases b : j = z_qn S
    · omega
    · rw [if_pos a, if_neg b] at e
      exact absurd e.symm (hp j (by omega))
    · rw [if_neg a, if_pos b] at e
      exact absurd e (hp i (by omega))
    · rw [if_neg a, if_neg b] at e
      exact h.2.2.2.1.2 i j (by omega) (by omega) e⟩, h.2.2.2.2⟩
theorem srm_out {S : zS} (h : zOK S) {p : Nat} (hp : p < z_qn S) : ∀ k, k < z_qn (srm S p) → z_Q (srm S p) k ≠ z_Q S p := by
  intro k hk
  have hk : k < z_qn S - 1 := hk
  obtain ⟨j, h1, h2, h3⟩ := zrm_mem (Q := z_Q S) (p := p) hk
  show zrm (z_Q S) p (z_qn S - 1) k ≠ _
  rw [h3]
  exact fun e2 => h2 (h.2.2.2.1.2 _ _ (by omega) hp e2)
theorem zOK_tak {S : zS} (h : zOK S) (hq : 0 < z_qn S) : zOK (stak S) := by
  have h0 : zOK (zs_bu S (z_bu S - 1)) := zOK_bu h (by have := h.1.2.2.2.2.2.2.2; omega)
  have h1 := zOK_srm h0 0 hq
  unfold stak
  split
  · exact zOK_jn h1 (h.2.2.2.1.1 0 hq) (srm_out h0 hq)
  · exact h1
theorem srec_P (S : zS) (t c : Nat) (b : Bool) (i j : Nat) : z_P (srec S t c b) i j = if i = t ∧ j = c ∧ b = true then z_P S t c + 1 else z_P S i j := by
  cases b
  · rw [if_neg (fun q => absurd q.2.2 (by decide))]
    rfl
  · show up2 (z_P S) t c (z_P S t c + 1) i j = _
    unfold up2
    by_cases a : i = t <;> by_cases d : j = c <;> simp [a, d]
theorem srec_F (S : zS) (t c : Nat) (b : Bool) (i j : Nat) : z_F (srec S t c b) i j = if i = t ∧ j = c ∧ b = false then z_F S t c + 1 else z_F S i j := by
  cases b
  · show up2 (z_F S) t c (z_F S t c + 1) i j = _
    unfold up2
    by_cases a : i = t <;> by_cases d : j = c <;> simp [a, d]
  · rw [if_neg (fun q => absurd q.2.2 (by decide))]
    rfl
theorem srec_nc (S : zS) (t c : Nat) (b : Bool) : z_nc (srec S t c b) = z_nc S := by cases b <;> rfl
theorem srec_nt (S : zS) (t c : Nat) (b : Bool) : z_nt (srec S t c b) = z_nt S := by cases b <;> rfl
theorem srec_li (S : zS) (t c : Nat) (b : Bool) : z_li (srec S t c b) = z_li S := by cases b <;> rfl
theorem srec_wi (S : zS) (t c : Nat) (b : Bool) : z_wi (srec S t c b) = z_wi S := by cases b <;> rfl
theorem srec_no (S : zS) (t c : Nat) (b : Bool) : z_no (srec S t c b) = z_no S := by cases b <;> rfl
theorem srec_bu (S : zS) (t c : Nat) (b : Bool) : z_bu (srec S t c b) = z_bu S := by cases b <;> rfl
theorem srec_U (S : zS) (t c : Nat) (b : Bool) : z_U (srec S t c b) = z_U S := by cases b <;> rfl
theorem srec_C (S : zS) (t c : Nat) (b : Bool) : z_C (srec S t c b) = z_C S := by cases b <;> rfl
theorem srec_D (S : zS) (t c : Nat) (b : Bool) : z_D (srec S t c b) = z_D S := by cases b <;> rfl
theorem srec_T (S : zS) (t c : Nat) (b : Bool) : z_T (srec S t c b) = z_T S := by cases b <;> rfl
theorem srec_G (S : zS) (t c : Nat) (b : Bool) : z_G (srec S t c b) = z_G S := by cases b <;> rfl
theorem srec_B (S : zS) (t c : Nat) (b : Bool) : z_B (srec S t c b) = z_B S := by cases b <;> rfl
theorem srec_Q (S : zS) (t c : Nat) (b : Bool) : z_Q (srec S t c b) = z_Q S := by cases b <;> rfl
theorem srec_qn (S : zS) (t c : Nat) (b : Bool) : z_qn (srec S t c b) = z_qn S := by cases b <;> rfl
theorem srec_R (S : zS) (t c : Nat) (b : Bool) : z_R (srec S t c b) = va_up (z_R S) t (z_R S t + 1) := rfl
theorem srec_rC (S : zS) (t c : Nat) (b : Bool) : z_rC (srec S t c b) = up2 (z_rC S) t (z_R S t) c := by cases b <;> rfl
theorem srec_rP (S : zS) (t c : Nat) (b : Bool) : z_rP (srec S t c b) = up2 (z_rP S) t (z_R S t) (b1 b) := by cases b <;> rfl
theorem srec_hit (S : zS) (t c : Nat) (b : Bool) (t' c' v : Nat) : ct (hit (srec S t c b) t' c' v) (z_R (srec S t c b) t') = ct (hit S t' c' v) (z_R S t') + (if t' = t ∧ c = c' ∧ b1 b = v then 1 else 0) := by
  rw [srec_R]
  unfold va_up
  by_cases e : t' = t
  · subst e
    rw [if_pos rfl, ct_s]
    have e1 : ct (hit (srec S t' c b) t' c' v) (z_R S t') = ct (hit S t' c' v) (z_R S t') := ct_cg _ (fun r hr => by
      unfold hit
      rw [srec_rC, srec_rP]
      unfold up2
      rw [if_pos rfl, if_pos rfl, if_neg (by omega), if_neg (by omega)])
    have e2 : hit (srec S t' c b) t' c' v (z_R S t') = decide (c = c' ∧ b1 b = v) := by
      unfold hit
      rw [srec_rC, srec_rP]
      unfold up2
      rw [if_pos rfl, if_pos rfl, if_pos rfl, if_pos rfl]
    rw [e1, e2]
    by_cases q : c = c' ∧ b1 b = v
    · rw [decide_eq_true q, if_pos ⟨rfl, q⟩]
      rfl
    · rw [decide_eq_false q, if_neg (fun z => q z.2)]
      rfl
  · rw [if_neg e, if_neg (fun z => e z.1)]
    exact ct_cg _ (fun r hr => by
      unfold hit
      rw [srec_rC, srec_rP]
      unfold up2
      rw [if_neg e, if_neg e])
theorem zOK_rec {S : zS} (h : zOK S) {t c : Nat} (b : Bool) (hc : c < z_nc S) (hr : z_R S t < 200) : zOK (srec S t c b) := by
  refine ⟨?_, ?_, ?_, ?_, ?_, ?_⟩
  · rw [srec_nc, srec_nt, srec_li, srec_wi, srec_no, srec_bu]
    exact h.1
  · rw [srec_U, srec_C, srec_D]
    exact h.2.1
  · rw [srec_T, srec_nt, srec_G, srec_B, srec_nc]
    exact h.2.2.1
  · rw [srec_qn, srec_T, srec_Q]
    exact h.2.2.2.1
  · intro t'
    obtain ⟨q1, q2⟩ := h.2.2.2.2.1 t'
    rw [srec_R, srec_rC, srec_rP]
    unfold va_up up2
    by_cases e : t' = t
    · subst e
      rw [if_pos rfl]
      refine ⟨by omega, fun r hr9 => ?_⟩
      rw [if_pos rfl, if_pos rfl]
      by_cases a : r = z_R S t'
      · rw [if_pos a, if_pos a]
        exact ⟨Nat.lt_of_lt_of_le hc h.1.1, b1_le b⟩
      · rw [if_neg a, if_neg a]
        exact q2 r (by omega)
    · rw [if_neg e]
      refine ⟨q1, fun r hr9 => ?_⟩
      rw [if_neg e, if_neg e]
      exact q2 r hr9
  · intro t' c'
    obtain ⟨q1, q2⟩ := h.2.2.2.2.2 t' c'
    rw [srec_hit, srec_hit, srec_P, srec_F, ← q1, ← q2]
    by_cases e : t' = t
    · by_cases d : c' = c
      · subst e; subst d
        cases b <;> simp [b1]
      · have d2 : ¬ c = c' := fun z => d z.symm
        simp [e, d, d2]
    · simp [e]
