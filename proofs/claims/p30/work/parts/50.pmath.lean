/-! ===== p30: plain facts ===== -/
/-! parts: what can be reached -/
def sub9 (a b : Nat) : Prop := ∀ i, a.testBit i = true → b.testBit i = true
theorem sub9_r (a : Nat) : sub9 a a := fun _ h => h
theorem sub9_t {a b c : Nat} (h : sub9 a b) (h2 : sub9 b c) : sub9 a c := fun i hi => h2 i (h i hi)
theorem sub9_l (a b : Nat) : sub9 a (a ||| b) := fun i hi => by rw [Nat.testBit_or, hi, Bool.true_or]
theorem sub9_rr (a b : Nat) : sub9 b (a ||| b) := fun i hi => by rw [Nat.testBit_or, hi, Bool.or_true]
theorem sub9_or {a b c : Nat} (h : sub9 a c) (h2 : sub9 b c) : sub9 (a ||| b) c := fun i hi => by
  rw [Nat.testBit_or] at hi
  cases ha : a.testBit i with
  | true => exact h i ha
  | false =>
    rw [ha, Bool.false_or] at hi
    exact h2 i hi
theorem sub9_0 (a : Nat) : sub9 0 a := fun i hi => by
  rw [Nat.zero_testBit] at hi
  exact absurd hi (by decide)
theorem sub9_eq {a b : Nat} (h : sub9 a b) (h2 : sub9 b a) : a = b := Nat.eq_of_testBit_eq fun i => by
  cases ha : a.testBit i with
  | true => exact (h i ha).symm
  | false =>
    cases hb : b.testBit i with
    | true => rw [h2 i hb] at ha; exact absurd ha (by decide)
    | false => rfl
theorem sub9_and {a b : Nat} (h : sub9 a b) : b &&& a = a := Nat.eq_of_testBit_eq fun i => by
  rw [Nat.testBit_and]
  cases ha : a.testBit i with
  | true => rw [h i ha]; rfl
  | false => rw [Bool.and_false]
def clo9 (U : Nat → Nat) (m : Nat) : Prop := ∀ k, k < 16 → m.testBit k = true → sub9 (U k) m
def fr9 (U : Nat → Nat) (m : Nat) : Nat → Nat
  | 0 => 0
  | k + 1 => fr9 U m k ||| (if m.testBit k then U k else 0)
theorem fr9_sub {U : Nat → Nat} {m : Nat} (hc : clo9 U m) : ∀ n, n ≤ 16 → sub9 (fr9 U m n) m
  | 0, _ => sub9_0 m
  | n + 1, h => by
    refine sub9_or (fr9_sub hc n (by omega)) ?_
    split
    · rename_i e
      exact hc n (by omega) e
    · exact sub9_0 m
theorem fr9_lt {U : Nat → Nat} (hU : ∀ j, U j < 65536) (m : Nat) : ∀ n, fr9 U m n < 65536
  | 0 => show (0 : Nat) < 65536 by decide
  | n + 1 => by
    refine Nat.or_lt_two_pow (n := 16) (fr9_lt hU m n) ?_
    split
    · exact hU n
    · decide
def gs9 (U : Nat → Nat) (d : Nat) : Nat → Nat
  | 0 => d
  | k + 1 => gs9 U d k ||| (if (gs9 U d k).testBit (k % 16) then U (k % 16) else 0)
theorem gs9_lt {U : Nat → Nat} (hU : ∀ j, U j < 65536) {d : Nat} (hd : d < 65536) : ∀ n, gs9 U d n < 65536
  | 0 => hd
  | n + 1 => by
    refine Nat.or_lt_two_pow (n := 16) (gs9_lt hU hd n) ?_
    split
    · exact hU _
    · decide
theorem gs9_up (U : Nat → Nat) (d k : Nat) : ∀ j, sub9 (gs9 U d k) (gs9 U d (k + j))
  | 0 => sub9_r _
  | j + 1 => sub9_t (gs9_up U d k j) (sub9_l _ _)
theorem gs9_in {U : Nat → Nat} {d M : Nat} (hc : clo9 U M) (hd : sub9 d M) : ∀ k, sub9 (gs9 U d k) M
  | 0 => hd
  | k + 1 => by
    refine sub9_or (gs9_in hc hd k) ?_
    split
    · rename_i e
      exact hc (k % 16) (Nat.mod_lt _ (by decide)) (gs9_in hc hd k _ e)
    · exact sub9_0 M
theorem stp_in {U : Nat → Nat} {m M : Nat} (hc : clo9 U M) (hm : sub9 m M) : ∀ n, n ≤ 16 → sub9 (stp U m n) M
  | 0, _ => hm
  | n + 1, h => by
    show sub9 (if m.testBit n then stp U m n ||| U n else stp U m n) M
    split
    · rename_i e
      exact sub9_or (stp_in hc hm n (by omega)) (hc n (by omega) (hm n e))
    · exact stp_in hc hm n (by omega)
theorem rch_in {U : Nat → Nat} {d M : Nat} (hc : clo9 U M) (hd : sub9 d M) : ∀ n, sub9 (rch U d n) M
  | 0 => hd
  | n + 1 => stp_in hc (rch_in hc hd n) 16 (Nat.le_refl _)
theorem stp_up (U : Nat → Nat) (m : Nat) (n : Nat) : sub9 m (stp U m n) := fun i hi => stp_sub U m i hi n
theorem rch_up (U : Nat → Nat) (d : Nat) : ∀ n, sub9 d (rch U d n)
  | 0 => sub9_r d
  | n + 1 => sub9_t (rch_up U d n) (stp_up U _ 16)
theorem stp_has {U : Nat → Nat} {m k : Nat} (hb : m.testBit k = true) : ∀ n, k < n → sub9 (U k) (stp U m n)
  | 0, h => absurd h (Nat.not_lt_zero _)
  | n + 1, h => by
    show sub9 (U k) (if m.testBit n then stp U m n ||| U n else stp U m n)
    by_cases e : k = n
    · subst e
      rw [if_pos hb]
      exact sub9_rr _ _
    · have := stp_has (U := U) hb n (by omega)
      split
      · exact sub9_t this (sub9_l _ _)
      · exact this
theorem clo_fix {U : Nat → Nat} {m : Nat} (h : stp U m 16 = m) : clo9 U m := fun k hk hb => by
  have := stp_has (U := U) hb 16 hk
  rw [h] at this
  exact this
theorem ct_full {p : Nat → Bool} : ∀ n, n ≤ ct p n → ∀ i, i < n → p i = true
  | 0, _, i, hi => absurd hi (Nat.not_lt_zero _)
  | n + 1, h, i, hi => by
    have h1 := ct_le p n
    have h2 := b1_le (p n)
    rw [ct_s] at h
    by_cases e : i = n
    · subst e
      cases q : p i with
      | true => rfl
      | false => rw [q, b1_f] at h; omega
    · exact ct_full n (by omega) i (by omega)
theorem clo_full {U : Nat → Nat} (hU : ∀ j, U j < 65536) {m : Nat} (h : 16 ≤ pb m) : clo9 U m := fun k _ _ i hi => by
  by_cases q : i < 16
  · exact ct_full 16 h i q
  · rw [Nat.testBit_lt_two_pow (Nat.lt_of_lt_of_le (show U k < 2 ^ 16 from hU k) (Nat.pow_le_pow_right (by decide) (show 16 ≤ i by omega)))] at hi
    exact absurd hi (by decide)
theorem rch_clo {U : Nat → Nat} (hU : ∀ j, U j < 65536) {d : Nat} (hd : d < 65536) : clo9 U (rch U d 16) := by
  have key : ∀ n, clo9 U (rch U d n) ∨ n ≤ pb (rch U d n) := by
    intro n
    induction n with
    | zero => exact Or.inr (Nat.zero_le _)
    | succ n ih =>
      rcases ih with h | h
      · refine Or.inl ?_
        have e : rch U d (n + 1) = rch U d n := sub9_eq (stp_in h (sub9_r _) 16 (Nat.le_refl _)) (stp_up U _ 16)
        rw [e]
        exact h
      · by_cases e : rch U d n = rch U d (n + 1)
        · refine Or.inl ?_
          rw [← e]
          exact clo_fix e.symm
        · refine Or.inr ?_
          have := pb_lt (rch_lt hU hd n) (rch_lt hU hd (n + 1)) (stp_up U _ 16) e
          omega
  rcases key 16 with h | h
  · exact h
  · exact clo_full hU h
theorem gs_clo {U : Nat → Nat} (hU : ∀ j, U j < 65536) {d : Nat} (hd : d < 65536) : clo9 U (gs9 U d 256) := by
  have key : ∀ n, clo9 U (gs9 U d (16 * n)) ∨ n ≤ pb (gs9 U d (16 * n)) := by
    intro n
    induction n with
    | zero => exact Or.inr (Nat.zero_le _)
    | succ n ih =>
      rw [show 16 * (n + 1) = 16 * n + 16 by omega]
      rcases ih with h | h
      · refine Or.inl ?_
        have e : gs9 U d (16 * n + 16) = gs9 U d (16 * n) := by
          have h2 : ∀ j, gs9 U d (16 * n + j) = gs9 U d (16 * n) := by
            intro j
            induction j with
            | zero => rfl
            | succ j ihj =>
              refine sub9_eq ?_ (gs9_up U d _ (j + 1))
              show sub9 (gs9 U d (16 * n + j) ||| (if (gs9 U d (16 * n + j)).testBit ((16 * n + j) % 16) then U ((16 * n + j) % 16) else 0)) _
              rw [ihj]
              refine sub9_or (sub9_r _) ?_
              split
              · rename_i e
                exact h _ (Nat.mod_lt _ (by decide)) e
              · exact sub9_0 _
          exact h2 16
        rw [e]
        exact h
      · by_cases e : gs9 U d (16 * n) = gs9 U d (16 * n + 16)
        · refine Or.inl ?_
          intro k hk hb
          rw [← e] at hb
          have h1 : (gs9 U d (16 * n + k)).testBit k = true := gs9_up U d _ k k hb
          have h2 : sub9 (U k) (gs9 U d (16 * n + k + 1)) := by
            show sub9 (U k) (gs9 U d (16 * n + k) ||| (if (gs9 U d (16 * n + k)).testBit ((16 * n + k) % 16) then U ((16 * n + k) % 16) else 0))
            rw [show (16 * n + k) % 16 = k by omega, if_pos h1]
            exact sub9_rr _ _
          have h3 := gs9_up U d (16 * n + k + 1) (15 - k)
          rw [show 16 * n + k + 1 + (15 - k) = 16 * n + 16 by omega] at h3
          exact sub9_t h2 h3
        · refine Or.inr ?_
          have := pb_lt (gs9_lt hU hd (16 * n)) (gs9_lt hU hd (16 * n + 16)) (gs9_up U d _ 16) e
          omega
  rcases key 16 with h | h
  · exact h
  · exact clo_full hU h
theorem gs_rch {U : Nat → Nat} (hU : ∀ j, U j < 65536) {d : Nat} (hd : d < 65536) : gs9 U d 256 = rch U d 16 :=
  sub9_eq (gs9_in (rch_clo hU hd) (rch_up U d 16) 256) (rch_in (gs_clo hU hd) (gs9_up U d 0 256) 16)
theorem zre_gs {S : zS} (h : zOK S) (t : Nat) : gs9 (z_U S) (z_D S t) 256 = zre S t := gs_rch (fun j => (h.2.1 j).1) (h.2.1 t).2.2
theorem zre_D {S : zS} (t : Nat) : zre S t &&& z_D S t = z_D S t := sub9_and (rch_up _ _ 16)
theorem zre_fr {S : zS} (h : zOK S) (t : Nat) : zre S t &&& fr9 (z_U S) (zre S t) 16 = fr9 (z_U S) (zre S t) 16 := sub9_and (fr9_sub (rch_clo (fun j => (h.2.1 j).1) (h.2.1 t).2.2) 16 (Nat.le_refl _))
theorem bit1 {m k : Nat} (h : m / 2 ^ k % 2 = 1) : m.testBit k = true := tb_t (by omega)
theorem bit0 {m k : Nat} (h : m / 2 ^ k % 2 ≠ 1) : m.testBit k = false := tb_f (by omega)
/-! verdicts -/
theorem vd_lt (p f : Nat) : vd p f < 4 := by unfold vd; split <;> split <;> omega
theorem vd_1 {p f : Nat} (h : 0 < vd p f) : 1 ≤ p + f := by unfold vd at h; split at h <;> split at h <;> omega
theorem vd_z {p f : Nat} (h : vd p f = 0) : p = 0 ∧ f = 0 := by
  unfold vd at h
  by_cases a : 0 < p
  · rw [if_pos a] at h; omega
  · by_cases b : 0 < f
    · rw [if_pos b] at h; omega
    · omega
def so9 (S : zS) (t i : Nat) : Bool := decide (0 < vd (z_P S t i) (z_F S t i))
/-- no run is at a commit that isn't there -/
def zN (S : zS) : Prop := ∀ t c, z_nc S ≤ c → z_P S t c = 0 ∧ z_F S t c = 0
theorem so9_le {S : zS} (h : zOK S) (t : Nat) {n : Nat} (hn : n ≤ 40) : ct (so9 S t) n ≤ z_R S t := by
  have h1 := zPF_sum h t
  rw [← sm_add] at h1
  have h2 : ct (so9 S t) n ≤ sm (fun i => z_P S t i + z_F S t i) n := sm_le n (fun i _ => by
    unfold so9 b1
    split
    · rename_i e
      exact vd_1 (of_decide_eq_true e)
    · exact Nat.zero_le _)
  have h3 := sm_mono (fun i => z_P S t i + z_F S t i) n 40 hn
  omega
theorem so9_0 {S : zS} (h : zOK S) (hN : zN S) (t : Nat) (h0 : ct (so9 S t) (z_nc S) = 0) : z_R S t = 0 := by
  have h1 := zPF_sum h t
  rw [← sm_add] at h1
  rw [← h1]
  refine sm_z 40 (fun i _ => ?_)
  by_cases e : i < z_nc S
  · have h2 := sm_at (fun i => b1 (so9 S t i)) (z_nc S) e
    have h3 : sm (fun i => b1 (so9 S t i)) (z_nc S) = 0 := h0
    rw [h3] at h2
    have h4 : b1 (so9 S t i) = 0 := Nat.le_zero.mp h2
    unfold so9 b1 at h4
    split at h4
    · exact absurd h4 (by decide)
    · rename_i e2
      have e3 : vd (z_P S t i) (z_F S t i) = 0 := Nat.eq_zero_of_not_pos (fun z => e2 (decide_eq_true z))
      obtain ⟨a, b⟩ := vd_z e3
      omega
  · obtain ⟨a, b⟩ := hN t i (by omega)
    omega
theorem zmix_s {S : zS} {t k mi : Nat} (h : mi = sr (fun i => b1 (zmx S t i)) (z_nc S - z_wi S) k) : mi + b1 (zmx S t k && decide (z_nc S - z_wi S ≤ k)) = sr (fun i => b1 (zmx S t i)) (z_nc S - z_wi S) (k + 1) := by
  subst h
  show _ = sm _ k + (if z_nc S - z_wi S ≤ k then b1 (zmx S t k) else 0)
  by_cases e : z_nc S - z_wi S ≤ k
  · rw [if_pos e, decide_eq_true e, Bool.and_true]
    rfl
  · rw [if_neg e, decide_eq_false e, Bool.and_false]
    rfl
theorem sub_lt {k a b : Nat} (hk : k < 2 ^ 30) (ha : a < 2 ^ 30) (hb : b < 2 ^ 30) : nI k < nI a - nI b ↔ k < a - b := by
  by_cases h : b ≤ a
  · rw [pk_sub h]
    exact nI_ltI (by omega) (by omega)
  · have h2 := pk_sneg (a := a) (b := b) (by omega) (by omega)
    constructor
    · intro h3
      rw [i_lt, nI_toInt (by omega)] at h3
      rw [i_lt, i_0] at h2
      omega
    · omega
theorem sm_cl {f : Nat → Nat} {n : Nat} (h : 0 < n) : sm f n = sm f n := rfl
/-! culprits -/
theorem msk_bit {p : Nat → Bool} {n i : Nat} (h : i < n) : msk p n / 2 ^ i % 2 = b1 (p i) := by
  have e := msk_tb p i n
  rw [decide_eq_true h, Bool.true_and, Nat.testBit_eq_decide_div_mod_eq] at e
  cases q : p i with
  | true =>
    rw [q] at e
    exact of_decide_eq_true e
  | false =>
    rw [q] at e
    have := of_decide_eq_false e
    show _ = 0
    omega
theorem zag_R {S : zS} (h : zOK S) {t : Nat} (q : Nat) (hb : z_B S t < 40) : zag S t q ≤ z_R S t := by
  have h1 := zPF_sum h t
  have h3 : zag S t q ≤ sm (fun i => z_P S t i + z_F S t i) 40 :=
    Nat.le_trans (sr_le_sm _ _ _ 40 (by omega)) (sm_le 40 (fun i _ => by unfold zagf; split <;> omega))
  rw [sm_add] at h3
  omega
theorem zlk_up {S : zS} {t n : Nat} : ∀ k, z_B S t < n → zlk S t (n + k) = zlk S t n
  | 0, _ => rfl
  | k + 1, h => by
    show (if sus S t (n + k) = true ∧ _ then _ else zlk S t (n + k)) = _
    rw [if_neg (fun z => by rw [sus_hi (by omega)] at z; exact absurd z.1 (by decide)), zlk_up k h]
theorem zlk_to {S : zS} {t n : Nat} (h : z_B S t < n) : zlk S t n = zlk S t (z_B S t + 1) := by
  have e := zlk_up (S := S) (t := t) (n := z_B S t + 1) (n - (z_B S t + 1)) (Nat.lt_succ_self _)
  rw [show z_B S t + 1 + (n - (z_B S t + 1)) = n by omega] at e
  exact e
theorem sus_to {S : zS} {t n : Nat} (h : z_B S t < n) : msk (sus S t) n = msk (sus S t) (z_B S t + 1) := msk_to (by omega) (fun i hi => sus_hi (by omega))
theorem cnd_to {S : zS} {t n : Nat} (h : z_B S t < n) : msk (cnd S t) n = msk (cnd S t) (z_B S t + 1) := msk_to (by omega) (fun i hi => cnd_hi (by omega))
def po9 (m : Nat) : Nat := ct (fun i => m.testBit i) 40
theorem po9_le (m : Nat) : po9 m ≤ 40 := ct_le _ _
theorem po9_msk {p : Nat → Bool} {n : Nat} (h : n ≤ 40) : po9 (msk p n) = ct p n := by
  unfold po9 ct
  have e : ∀ i, b1 ((msk p n).testBit i) = if i < n then b1 (p i) else 0 := fun i => by
    rw [msk_tb]
    by_cases q : i < n
    · rw [if_pos q, decide_eq_true q, Bool.true_and]
    · rw [if_neg q, decide_eq_false q, Bool.false_and]
      rfl
  rw [sm_cg 40 (fun i _ => e i), sm_up h (fun i hi => if_neg (by omega))]
  exact sm_cg n (fun i hi => if_pos hi)
theorem po9_lo {p : Nat → Bool} {n k : Nat} (h : n ≤ 40) (hk : k ≤ n) : po9 (msk p n &&& (2 ^ k - 1)) = ct p k := by
  rw [Nat.and_two_pow_sub_one_eq_mod]
  unfold po9 ct
  have e : ∀ i, b1 ((msk p n % 2 ^ k).testBit i) = if i < k then b1 (p i) else 0 := fun i => by
    rw [Nat.testBit_mod_two_pow, msk_tb]
    by_cases q : i < k
    · rw [if_pos q, decide_eq_true q, decide_eq_true (by omega), Bool.true_and, Bool.true_and]
    · rw [if_neg q, decide_eq_false q, Bool.false_and]
      rfl
  rw [sm_cg 40 (fun i _ => e i), sm_up (n := k) (m := 40) (by omega) (fun i hi => if_neg (by omega))]
  exact sm_cg k (fun i hi => if_pos hi)
def lm9 (S : zS) (t : Nat) : Nat → Nat
  | 0 => 99
  | n + 1 => if (z_G S t < n ∧ n < z_B S t) ∧ zwt S t n < lm9 S t n then zwt S t n else lm9 S t n
theorem lm9_z {S : zS} {t : Nat} : ∀ n, n ≤ z_G S t + 1 → 99 = lm9 S t n
  | 0, _ => rfl
  | n + 1, h => by
    show _ = if (z_G S t < n ∧ n < z_B S t) ∧ _ then _ else lm9 S t n
    rw [if_neg (fun z => absurd z.1.1 (by omega)), ← lm9_z n (by omega)]
theorem lm9_le (S : zS) (t : Nat) : ∀ n, lm9 S t n ≤ 99
  | 0 => Nat.le_refl _
  | n + 1 => by
    show (if _ then zwt S t n else lm9 S t n) ≤ 99
    have := lm9_le S t n
    split
    · rename_i e
      omega
    · exact this
theorem znx_lm {S : zS} {t : Nat} (hB : z_B S t < 40) : ∀ n, (znx S t n = 0 ∧ lm9 S t n = 99 ∧ ∀ k, k < n → ¬ (z_G S t < k ∧ k < z_B S t)) ∨ (∃ c, znx S t n = c + 1 ∧ c < n ∧ z_G S t < c ∧ c < z_B S t ∧ lm9 S t n = zwt S t c)
  | 0 => Or.inl ⟨rfl, rfl, fun k hk => absurd hk (Nat.not_lt_zero _)⟩
  | n + 1 => by
    by_cases e : z_G S t < n ∧ n < z_B S t
    · have hw : zwt S t n ≤ 41 := zwt_le (by omega) hB
      have hl : lm9 S t (n + 1) = if zwt S t n < lm9 S t n then zwt S t n else lm9 S t n := by
        show (if (z_G S t < n ∧ n < z_B S t) ∧ zwt S t n < lm9 S t n then zwt S t n else lm9 S t n) = _
        by_cases q : zwt S t n < lm9 S t n
        · rw [if_pos ⟨e, q⟩, if_pos q]
        · rw [if_neg (fun z => q z.2), if_neg q]
      rcases znx_lm hB n with ⟨h1, h2, h3⟩ | ⟨c, h1, h2, h3, h4, h5⟩
      · refine Or.inr ⟨n, ?_, Nat.lt_succ_self _, e.1, e.2, ?_⟩
        · show (if (z_G S t < n ∧ n < z_B S t) ∧ _ then n + 1 else znx S t n) = _
          rw [if_pos ⟨e, Or.inl h1⟩]
        · rw [hl, if_pos (by omega)]
      · by_cases q : (zwt S t n < zwt S t c ∨ (zwt S t n = zwt S t c ∧ zrn S t n < zrn S t c))
        · refine Or.inr ⟨n, ?_, Nat.lt_succ_self _, e.1, e.2, ?_⟩
          · show (if (z_G S t < n ∧ n < z_B S t) ∧ _ then n + 1 else znx S t n) = _
            rw [if_pos ⟨e, Or.inr (by rw [h1, Nat.add_sub_cancel]; exact q)⟩]
          · rw [hl, h5]
            split
            · rfl
            · omega
        · refine Or.inr ⟨c, ?_, by omega, h3, h4, ?_⟩
          · show (if (z_G S t < n ∧ n < z_B S t) ∧ _ then n + 1 else znx S t n) = _
            rw [if_neg (fun z => by
              rcases z.2 with z | z
              · omega
              · rw [h1, Nat.add_sub_cancel] at z
                exact q z), h1]
          · rw [hl, h5, if_neg (by omega)]
    · have hl : lm9 S t (n + 1) = lm9 S t n := by
        show (if (z_G S t < n ∧ n < z_B S t) ∧ zwt S t n < lm9 S t n then zwt S t n else lm9 S t n) = _
        rw [if_neg (fun z => e z.1)]
      have hn : znx S t (n + 1) = znx S t n := by
        show (if (z_G S t < n ∧ n < z_B S t) ∧ _ then n + 1 else znx S t n) = _
        rw [if_neg (fun z => e z.1)]
      rw [hl, hn]
      rcases znx_lm hB n with ⟨h1, h2, h3⟩ | ⟨c, h1, h2, h3, h4, h5⟩
      · refine Or.inl ⟨h1, h2, fun k hk => ?_⟩
        by_cases q : k = n
        · subst q
          exact e
        · exact h3 k (by omega)
      · exact Or.inr ⟨c, h1, by omega, h3, h4, h5⟩
/-! a run -/
def mo9 (S : zS) (t c : Nat) (b : Bool) (k : Nat) : Bool := decide (z_G S t ≤ c ∧ c ≤ z_B S t ∧ (b = true ↔ k ≤ c))
theorem sm_pt1 {f g : Nat → Nat} {c d : Nat} (h : ∀ i, i ≠ c → g i = f i) (hc : g c = f c + d) : ∀ n, sm g n = sm f n + (if c < n then d else 0)
  | 0 => by rw [if_neg (Nat.not_lt_zero _)]; rfl
  | n + 1 => by
    show sm g n + g n = sm f n + f n + _
    rw [sm_pt1 h hc n]
    by_cases e : c = n
    · subst e
      rw [hc, if_neg (Nat.lt_irrefl _), if_pos (Nat.lt_succ_self _)]
      omega
    · rw [h n (fun z => e z.symm)]
      by_cases q : c < n
      · rw [if_pos q, if_pos (by omega)]
        omega
      · rw [if_neg q, if_neg (by omega)]
        omega
theorem zag_rec (S : zS) (t c : Nat) (b : Bool) (k : Nat) : zag (srec S t c b) t k = zag S t k + b1 (mo9 S t c b k) := by
  unfold zag sr
  rw [srec_G, srec_B]
  have h := sm_pt1 (f := fun i => if z_G S t ≤ i then zagf S t k i else 0) (g := fun i => if z_G S t ≤ i then zagf (srec S t c b) t k i else 0) (c := c) (d := if z_G S t ≤ c ∧ (b = true ↔ k ≤ c) then 1 else 0) (fun i hi => by
    have e1 : z_P (srec S t c b) t i = z_P S t i := by rw [srec_P, if_neg (fun z => hi z.2.1)]
    have e2 : z_F (srec S t c b) t i = z_F S t i := by rw [srec_F, if_neg (fun z => hi z.2.1)]
    try dsimp only
    unfold zagf
    rw [e1, e2]) (by
    try dsimp only
    unfold zagf
    rw [srec_P, srec_F]
    by_cases q : z_G S t ≤ c
    · rw [if_pos q, if_pos q]
      by_cases r : c < k
      · rw [if_pos r, if_pos r]
        cases b with
        | true => rw [if_neg (fun z => absurd z.2.2 (by decide)), if_neg (fun z => absurd (z.2.mp rfl) (by omega))]; rfl
        | false => rw [if_pos ⟨rfl, rfl, rfl⟩, if_pos ⟨q, ⟨fun z => absurd z (by decide), fun z => absurd z (by omega)⟩⟩]
      · rw [if_neg r, if_neg r]
        cases b with
        | true => rw [if_pos ⟨rfl, rfl, rfl⟩, if_pos ⟨q, ⟨fun _ => by omega, fun _ => rfl⟩⟩]
        | false => rw [if_neg (fun z => absurd z.2.2 (by decide)), if_neg (fun z => absurd (z.2.mpr (by omega)) (by decide))]; rfl
    · rw [if_neg q, if_neg q, if_neg (fun z => q z.1)]) (z_B S t + 1)
  rw [h]
  refine congrArg (sm _ (z_B S t + 1) + ·) ?_
  unfold mo9
  by_cases q : z_G S t ≤ c ∧ c ≤ z_B S t ∧ (b = true ↔ k ≤ c)
  · rw [decide_eq_true q, if_pos (by omega), if_pos ⟨q.1, q.2.2⟩]
    rfl
  · rw [decide_eq_false q]
    by_cases r : c < z_B S t + 1
    · rw [if_pos r, if_neg (fun z => q ⟨z.1, by omega, z.2⟩)]
      rfl
    · rw [if_neg r]
      rfl
theorem zre_rec (S : zS) (t c : Nat) (b : Bool) (t' : Nat) : zre (srec S t c b) t' = zre S t' := by
  unfold zre
  rw [srec_U, srec_D]
theorem sus_rec (S : zS) (t c : Nat) (b : Bool) (t' k : Nat) : sus (srec S t c b) t' k = sus S t' k := by
  unfold sus
  rw [srec_G, srec_B, srec_C, zre_rec]
/-- what a suspect's contradictions are behind a run -/
def du9 (S : zS) (t c : Nat) (b : Bool) (k : Nat) : Int32 := if sus S t k = true then nI (zag S t k + b1 (mo9 S t c b k)) else -1
theorem zco_rec (S : zS) (t c : Nat) (b : Bool) (k : Nat) : zco (srec S t c b) t k = du9 S t c b k := by
  unfold zco du9
  rw [sus_rec, zag_rec]
def h9 (f : Nat → Int32) : Nat → Int64
  | 0 => lN 0
  | n + 1 => 211 * h9 f n + (f n).toInt64
theorem h9_cg {f g : Nat → Int32} (h : ∀ i, f i = g i) : ∀ n, h9 f n = h9 g n
  | 0 => rfl
  | n + 1 => by
    show 211 * h9 f n + (f n).toInt64 = _
    rw [h9_cg h n, h n]
    rfl
theorem nI_i64 {n : Nat} (h : n < 2 ^ 31) : (nI n).toInt64 = lN n := nI_l h
theorem du_ok {S : zS} {t c : Nat} {b : Bool} {k : Nat} (hz : zag S t k ≤ 200) (m : Nat) (hm : m = if sus S t k = true then b1 (mo9 S t c b k) else 0) (x : Int64) : 211 * x + (zco S t k).toInt64 + (nI m).toInt64 = 211 * x + (du9 S t c b k).toInt64 := by
  subst hm
  unfold zco du9
  by_cases e : sus S t k = true
  · have := b1_le (mo9 S t c b k)
    rw [if_pos e, if_pos e, if_pos e, nI_i64 (by omega), nI_i64 (by omega), nI_i64 (by omega), Int64.add_assoc]
    refine congrArg (211 * x + ·) ?_
    refine Int64.toBitVec_inj.mp (BitVec.eq_of_toNat_eq ?_)
    rw [Int64.toBitVec_add, BitVec.toNat_add, wb_tn (by omega), wb_tn (by omega), wb_tn (by omega), Nat.mod_eq_of_lt (by omega)]
  · rw [if_neg e, if_neg e, if_neg e]
    have : (nI 0).toInt64 = 0 := by decide
    rw [this, Int64.add_zero]
theorem smF_rec (S : zS) {t c : Nat} (b : Bool) (hc : c < 40) : sm (z_F (srec S t c b) t) 40 = sm (z_F S t) 40 + b1 (!b) := by
  have h := sm_pt1 (f := z_F S t) (g := z_F (srec S t c b) t) (c := c) (d := b1 (!b)) (fun i hi => by rw [srec_F, if_neg (fun z => hi z.2.1)]) (by
    rw [srec_F]
    cases b with
    | true => rw [if_neg (fun z => absurd z.2.2 (by decide))]; rfl
    | false => rw [if_pos ⟨rfl, rfl, rfl⟩]; rfl) 40
  rw [h, if_pos hc]
theorem smF_other (S : zS) {t c : Nat} (b : Bool) {i : Nat} (h : i ≠ t) : sm (z_F (srec S t c b) i) 40 = sm (z_F S i) 40 := sm_cg 40 (fun j _ => by rw [srec_F, if_neg (fun z => h z.1)])
theorem vd_rec (S : zS) (t c : Nat) (b : Bool) : vd (z_P (srec S t c b) t c) (z_F (srec S t c b) t c) = vd (z_P S t c) (z_F S t c) ||| (if b then 1 else 2) := by
  rw [srec_P, srec_F]
  have e : ∀ p f, vd (p + 1) f = vd p f ||| 1 := fun p f => by
    unfold vd
    rw [if_pos (Nat.succ_pos p)]
    by_cases a : 0 < p <;> by_cases d : 0 < f <;> simp [a, d]
  have e2 : ∀ p f, vd p (f + 1) = vd p f ||| 2 := fun p f => by
    unfold vd
    rw [if_pos (Nat.succ_pos f)]
    by_cases a : 0 < p <;> by_cases d : 0 < f <;> simp [a, d]
  cases b with
  | true => rw [if_pos ⟨rfl, rfl, rfl⟩, if_neg (fun z => absurd z.2.2 (by decide)), e]; rfl
  | false => rw [if_neg (fun z => absurd z.2.2 (by decide)), if_pos ⟨rfl, rfl, rfl⟩, e2]; rfl
theorem zN_rec {S : zS} (h : zN S) (t : Nat) {c : Nat} (b : Bool) (hc : c < z_nc S) : zN (srec S t c b) := fun t' c' h' => by
  rw [srec_nc] at h'
  rw [srec_P, srec_F, if_neg (fun z => by omega), if_neg (fun z => by omega)]
  exact h t' c' h'
/-! leaving -/
theorem only_eq {S : zS} {t o : Nat} (hG : z_G S t < z_B S t) (hB : z_B S t < 40) (h1 : zcc S t = 1) (hlo : ∀ j, j < o → cnd S t j = false) (ho : o = 40 ∨ cnd S t o = true) (ho2 : o ≤ 40) : oI (zlk S t (z_B S t + 1)) = nI o := by
  rw [← zonly_eq h1]
  have h1 : ct (cnd S t) (z_B S t + 1) = 1 := h1
  obtain ⟨c, c1, c2, c3⟩ := zfd_at (S := S) (t := t) (z_B S t + 1) (by rw [h1]; decide)
  have hoc : cnd S t o = true := by
    rcases ho with h | h
    · rw [hlo c (by omega)] at c2
      exact absurd c2 (by decide)
    · exact h
  have hoB : o < z_B S t + 1 := Nat.lt_of_not_le (fun z => by
    rw [cnd_hi (by omega)] at hoc
    exact absurd hoc (by decide))
  have e := ct_one (p := cnd S t) (z_B S t + 1) h1 c1 hoB c2 hoc
  subst e
  rw [c3, oI_s]
/-- the queue without the test at place p, made by copying: what stands after k of n steps -/
def cp9 (Q : Nat → Nat) (p n k : Nat) : Nat → Nat := fun j => if p ≤ j ∧ j + 1 < k then Q (j + 1) else Q j
