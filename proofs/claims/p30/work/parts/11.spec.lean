/-! ===== what the system answers, as numbers; facts about it ===== -/
theorem stp_lt {U : Nat → Nat} (hU : ∀ j, U j < 65536) {m : Nat} (hm : m < 65536) : ∀ n, stp U m n < 65536
  | 0 => hm
  | n + 1 => by
    show (if m.testBit n then stp U m n ||| U n else stp U m n) < 65536
    split
    · exact Nat.or_lt_two_pow (n := 16) (stp_lt hU hm n) (hU n)
    · exact stp_lt hU hm n
theorem rch_lt {U : Nat → Nat} (hU : ∀ j, U j < 65536) {m : Nat} (hm : m < 65536) : ∀ n, rch U m n < 65536
  | 0 => hm
  | n + 1 => stp_lt hU (rch_lt hU hm n) 16
theorem stp_t {U : Nat → Nat} {m w n : Nat} (hw : w = stp U m n) (h : m.testBit n = true) : w ||| U n = stp U m (n + 1) := by
  show _ = if m.testBit n then stp U m n ||| U n else stp U m n
  rw [if_pos h, hw]
theorem stp_f {U : Nat → Nat} {m w n : Nat} (hw : w = stp U m n) (h : m.testBit n = false) : w = stp U m (n + 1) := by
  show _ = if m.testBit n then stp U m n ||| U n else stp U m n
  rw [if_neg (by rw [h]; decide), hw]
theorem rch_fix {U : Nat → Nat} {d r : Nat} (h : stp U (rch U d r) 16 = rch U d r) : ∀ k, rch U d (r + k) = rch U d r
  | 0 => rfl
  | k + 1 => by
    show stp U (rch U d (r + k)) 16 = _
    rw [rch_fix h k, h]
/-- the parts of a test -/
def zre (S : zS) (t : Nat) : Nat := rch (z_U S) (z_D S t) 16
theorem zre_lt {S : zS} (h : zOK S) (t : Nat) : zre S t < 65536 := rch_lt (fun j => (h.2.1 j).1) (h.2.1 t).2.2 16
theorem zre_of {S : zS} {t r m : Nat} (hm : m = rch (z_U S) (z_D S t) r) (h : stp (z_U S) m 16 = m) (hr : r ≤ 16) : m = zre S t := by
  subst hm
  have e := rch_fix h (16 - r)
  rw [show r + (16 - r) = 16 by omega] at e
  exact e.symm
/-! masks -/
theorem msk_tb (p : Nat → Bool) (i : Nat) : ∀ n, (msk p n).testBit i = (decide (i < n) && p i)
  | 0 => by
    show (0 : Nat).testBit i = _
    rw [Nat.zero_testBit, decide_eq_false (Nat.not_lt_zero i), Bool.false_and]
  | n + 1 => by
    show (msk p n ||| (if p n then 2 ^ n else 0)).testBit i = _
    rw [Nat.testBit_or, msk_tb p i n]
    by_cases e : n = i
    · subst e
      rw [decide_eq_false (Nat.lt_irrefl _), decide_eq_true (Nat.lt_succ_self _), Bool.false_and, Bool.false_or, Bool.true_and]
      cases h : p n
      · rw [if_neg (by decide), Nat.zero_testBit]
      · rw [if_pos rfl, Nat.testBit_two_pow_self]
    · have e2 : (if p n then 2 ^ n else 0).testBit i = false := by
        split
        · exact Nat.testBit_two_pow_of_ne e
        · exact Nat.zero_testBit i
      rw [e2, Bool.or_false]
      by_cases q : i < n
      · rw [decide_eq_true q, decide_eq_true (by omega)]
      · rw [decide_eq_false q, decide_eq_false (by omega)]
theorem msk_lt (p : Nat → Bool) : ∀ n, msk p n < 2 ^ n
  | 0 => Nat.one_pos
  | n + 1 => by
    show (msk p n ||| (if p n then 2 ^ n else 0)) < 2 ^ (n + 1)
    refine Nat.or_lt_two_pow ?_ ?_
    · exact Nat.lt_trans (msk_lt p n) (Nat.pow_lt_pow_right (by decide) (Nat.lt_succ_self n))
    · split
      · exact Nat.pow_lt_pow_right (by decide) (Nat.lt_succ_self n)
      · exact Nat.two_pow_pos _
theorem msk_lt62 (p : Nat → Bool) {n : Nat} (h : n ≤ 41) : msk p n < 2 ^ 41 := Nat.lt_of_lt_of_le (msk_lt p n) (Nat.pow_le_pow_right (by decide) h)
theorem msk_t {p : Nat → Bool} {m n : Nat} (h : m = msk p n) (hp : p n = true) : m ||| 2 ^ n = msk p (n + 1) := by
  show _ = msk p n ||| (if p n then 2 ^ n else 0)
  rw [if_pos hp, h]
theorem msk_f {p : Nat → Bool} {m n : Nat} (h : m = msk p n) (hp : p n = false) : m = msk p (n + 1) := by
  show _ = msk p n ||| (if p n then 2 ^ n else 0)
  rw [if_neg (by rw [hp]; decide), Nat.or_zero, h]
theorem msk_z {p : Nat → Bool} : ∀ n, (∀ i, i < n → p i = false) → 0 = msk p n
  | 0, _ => rfl
  | n + 1, h => msk_f (msk_z n (fun i hi => h i (by omega))) (h n (by omega))
theorem msk_up {p : Nat → Bool} {n : Nat} : ∀ k, (∀ i, n ≤ i → p i = false) → msk p (n + k) = msk p n
  | 0, _ => rfl
  | k + 1, h => (msk_f (msk_up k h).symm (h (n + k) (by omega))).symm
theorem msk_to {p : Nat → Bool} {n m : Nat} (hn : n ≤ m) (h : ∀ i, n ≤ i → p i = false) : msk p m = msk p n := by
  have e := msk_up (p := p) (m - n) h
  rw [show n + (m - n) = m by omega] at e
  exact e
theorem sm_up {f : Nat → Nat} {n m : Nat} (hn : n ≤ m) (h : ∀ i, n ≤ i → f i = 0) : sm f m = sm f n := by
  obtain ⟨k, rfl⟩ : ∃ k, m = n + k := ⟨m - n, by omega⟩
  rw [sm_split, sm_z k (fun i _ => h (n + i) (by omega))]
  rfl
theorem pop_msk {p : Nat → Bool} {n : Nat} (hn : n ≤ 64) : pop (msk p n) = ct p n := by
  unfold pop ct
  have e : ∀ i, b1 ((msk p n).testBit i) = if i < n then b1 (p i) else 0 := fun i => by
    rw [msk_tb]
    by_cases q : i < n
    · rw [if_pos q, decide_eq_true q, Bool.true_and]
    · rw [if_neg q, decide_eq_false q, Bool.false_and]
      rfl
  rw [sm_cg 64 (fun i _ => e i), sm_up hn (fun i hi => if_neg (by omega))]
  exact sm_cg n (fun i hi => if_pos hi)
theorem pop_div {p : Nat → Bool} {n k : Nat} (hn : n ≤ 64) : pop (msk p n / 2 ^ k) = sr (fun i => b1 (p i)) k n := by
  unfold pop ct sr
  have e : ∀ i, b1 ((msk p n / 2 ^ k).testBit i) = (fun j => if k ≤ j then (if j < n then b1 (p j) else 0) else 0) (k + i) := fun i => by
    try dsimp only
    rw [Nat.testBit_div_two_pow, msk_tb, if_pos (Nat.le_add_right k i), Nat.add_comm i k]
    by_cases q : k + i < n
    · rw [if_pos q, decide_eq_true q, Bool.true_and]
    · rw [if_neg q, decide_eq_false q, Bool.false_and]
      rfl
  rw [sm_cg 64 (fun i _ => e i)]
  have e2 := sm_split (fun j => if k ≤ j then (if j < n then b1 (p j) else 0) else 0) k 64
  rw [sm_z k (fun i hi => if_neg (by omega)), Nat.zero_add] at e2
  rw [← e2]
  have e3 : sm (fun j => if k ≤ j then (if j < n then b1 (p j) else 0) else 0) (k + 64) = sm (fun j => if k ≤ j then (if j < n then b1 (p j) else 0) else 0) n := by
    by_cases q : n ≤ k + 64
    · exact sm_up q (fun i hi => by rw [if_neg (show ¬ i < n by omega)]; split <;> rfl)
    · omega
  rw [e3]
  exact sm_cg n (fun i hi => by rw [if_pos hi])
theorem sr_ct (p : Nat → Bool) (k : Nat) : ∀ n, k ≤ n → sr (fun i => b1 (p i)) k n + ct p k = ct p n
  | 0, h => by
    have : k = 0 := by omega
    subst this
    rfl
  | n + 1, h => by
    by_cases e : k = n + 1
    · subst e
      rw [sr_0 _ _ _ (Nat.le_refl _), Nat.zero_add]
    · have := sr_ct p k n (by omega)
      rw [sr_s _ (by omega), ct_s]
      omega
/-! suspects, contradictions, candidates -/
def sus (S : zS) (t c : Nat) : Bool := decide (z_G S t < c ∧ c ≤ z_B S t ∧ (z_C S c &&& zre S t) ≠ 0)
def zagf (S : zS) (t q : Nat) : Nat → Nat := fun i => if i < q then z_F S t i else z_P S t i
/-- how many runs contradict a commit -/
def zag (S : zS) (t q : Nat) : Nat := sr (zagf S t q) (z_G S t) (z_B S t + 1)
def cnd (S : zS) (t c : Nat) : Bool := sus S t c && decide (zag S t c ≤ z_no S)
theorem sus_lo {S : zS} {t c : Nat} (h : c ≤ z_G S t) : sus S t c = false := decide_eq_false (by omega)
theorem sus_hi {S : zS} {t c : Nat} (h : z_B S t < c) : sus S t c = false := decide_eq_false (by omega)
theorem cnd_lo {S : zS} {t c : Nat} (h : c ≤ z_G S t) : cnd S t c = false := by unfold cnd; rw [sus_lo h]; rfl
theorem cnd_hi {S : zS} {t c : Nat} (h : z_B S t < c) : cnd S t c = false := by unfold cnd; rw [sus_hi h]; rfl
theorem sm_pt {f g : Nat → Nat} {q : Nat} (h : ∀ i, i ≠ q → f i = g i) : ∀ n, q < n → sm f n + g q = sm g n + f q
  | 0, hq => absurd hq (Nat.not_lt_zero _)
  | n + 1, hq => by
    show sm f n + f n + g q = sm g n + g n + f q
    by_cases e : q = n
    · subst e
      rw [sm_cg q (fun i hi => h i (by omega))]
      omega
    · have := sm_pt h n (by omega)
      rw [h n (by omega)]
      omega
theorem zag_0 (S : zS) (t : Nat) : zag S t (z_G S t) = sr (z_P S t) (z_G S t) (z_B S t + 1) := by
  unfold zag sr zagf
  refine sm_cg _ (fun i _ => ?_)
  try dsimp only
  by_cases q : z_G S t ≤ i
  · rw [if_pos q, if_pos q, if_neg (by omega)]
  · rw [if_neg q, if_neg q]
theorem zag_s {S : zS} {t q : Nat} (h1 : z_G S t ≤ q) (h2 : q ≤ z_B S t) : zag S t (q + 1) + z_P S t q = zag S t q + z_F S t q := by
  have h := sm_pt (f := fun i => if z_G S t ≤ i then zagf S t (q + 1) i else 0) (g := fun i => if z_G S t ≤ i then zagf S t q i else 0) (q := q) (fun i hi => by
    try dsimp only
    unfold zagf
    by_cases a : i < q
    · rw [if_pos a, if_pos (show i < q + 1 by omega)]
    · rw [if_neg a, if_neg (show ¬ i < q + 1 by omega)]) (z_B S t + 1) (by omega)
  try dsimp only at h
  rw [if_pos h1, if_pos h1] at h
  unfold zagf at h
  rw [if_neg (Nat.lt_irrefl q), if_pos (Nat.lt_succ_self q)] at h
  exact h
theorem zag_i {S : zS} {t q : Nat} (h1 : z_G S t ≤ q) (h2 : q ≤ z_B S t) : nI (zag S t q) + (nI (z_F S t q) - nI (z_P S t q)) = nI (zag S t (q + 1)) := by
  have h : nI (zag S t (q + 1)) + nI (z_P S t q) = nI (zag S t q) + nI (z_F S t q) := by rw [nI_add, nI_add, zag_s h1 h2]
  rw [Int32.sub_eq_add_neg, ← Int32.add_assoc, ← h, Int32.add_assoc, Int32.add_right_neg, Int32.add_zero]
theorem zag_le {S : zS} (h : zOK S) {t : Nat} (q : Nat) (hb : z_B S t < 40) : zag S t q ≤ 200 := by
  have h1 := zPF_sum h t
  have h2 := (h.2.2.2.2.1 t).1
  have h3 : zag S t q ≤ sm (fun i => z_P S t i + z_F S t i) 40 :=
    Nat.le_trans (sr_le_sm _ _ _ 40 (by omega)) (sm_le 40 (fun i _ => by unfold zagf; split <;> omega))
  rw [sm_add] at h3
  omega
/-! the likeliest suspect below n, from 1 on; 0: none -/
def zlk (S : zS) (t : Nat) : Nat → Nat
  | 0 => 0
  | n + 1 => if sus S t n = true ∧ (zlk S t n = 0 ∨ zag S t n < zag S t (zlk S t n - 1)) then n + 1 else zlk S t n
def oI (b : Nat) : Int32 := if b = 0 then -1 else nI (b - 1)
theorem oI_0 : oI 0 = -1 := rfl
theorem oI_s (n : Nat) : oI (n + 1) = nI n := by
  unfold oI
  rw [if_neg (Nat.succ_ne_zero n), Nat.add_sub_cancel]
theorem oI_lt {b : Nat} (hb : b < 2 ^ 31) : oI b < 0 ↔ b = 0 := by
  cases b with
  | zero => exact ⟨fun _ => rfl, fun _ => by decide⟩
  | succ n =>
    rw [oI_s]
    refine ⟨fun h => absurd h ?_, fun h => absurd h (Nat.succ_ne_zero n)⟩
    exact nI_pos (by omega)
theorem zlk_le (S : zS) (t : Nat) : ∀ n, zlk S t n ≤ n
  | 0 => Nat.le_refl _
  | n + 1 => by
    show (if _ then n + 1 else zlk S t n) ≤ n + 1
    split
    · exact Nat.le_refl _
    · exact Nat.le_succ_of_le (zlk_le S t n)
theorem zlk_t {S : zS} {t n b : Nat} (hb : b = zlk S t n) (h1 : sus S t n = true) (h2 : b = 0 ∨ zag S t n < zag S t (b - 1)) : n + 1 = zlk S t (n + 1) := by
  subst hb
  show _ = if _ then n + 1 else zlk S t n
  rw [if_pos ⟨h1, h2⟩]
theorem zlk_f {S : zS} {t n b : Nat} (hb : b = zlk S t n) (h : ¬ (sus S t n = true ∧ (b = 0 ∨ zag S t n < zag S t (b - 1)))) : b = zlk S t (n + 1) := by
  subst hb
  show _ = if _ then n + 1 else zlk S t n
  rw [if_neg h]
theorem zlk_z {S : zS} {t : Nat} : ∀ n, (∀ i, i < n → sus S t i = false) → 0 = zlk S t n
  | 0, _ => rfl
  | n + 1, h => zlk_f (zlk_z n (fun i hi => h i (by omega))) (by rw [h n (by omega)]; exact fun q => absurd q.1 (by decide))
/-! places in the queue -/
theorem plc_le (Q : Nat → Nat) (t : Nat) : ∀ n, plc Q n t ≤ n
  | 0 => Nat.le_refl _
  | n + 1 => by
    show (if Q n = t then n + 1 else plc Q n t) ≤ n + 1
    split
    · exact Nat.le_refl _
    · exact Nat.le_succ_of_le (plc_le Q t n)
theorem plc_at {Q : Nat → Nat} {t k : Nat} : ∀ n, plc Q n t = k + 1 → k < n ∧ Q k = t
  | 0, h => absurd h (Nat.succ_ne_zero k).symm
  | n + 1, h => by
    have h : (if Q n = t then n + 1 else plc Q n t) = k + 1 := h
    by_cases e : Q n = t
    · rw [if_pos e] at h
      have : n = k := by omega
      subst this
      exact ⟨Nat.lt_succ_self _, e⟩
    · rw [if_neg e] at h
      have := plc_at n h
      exact ⟨by omega, this.2⟩
theorem plc_of {Q : Nat → Nat} {k : Nat} : ∀ n, (∀ i j, i < n → j < n → Q i = Q j → i = j) → k < n → plc Q n (Q k) = k + 1
  | 0, _, h => absurd h (Nat.not_lt_zero _)
  | n + 1, hi, h => by
    show (if Q n = Q k then n + 1 else plc Q n (Q k)) = k + 1
    by_cases e : Q n = Q k
    · rw [if_pos e, hi n k (by omega) h e]
    · rw [if_neg e]
      refine plc_of n (fun i j a b => hi i j (by omega) (by omega)) ?_
      by_cases q : k = n
      · subst q
        exact absurd rfl e
      · omega
theorem plc_0 {Q : Nat → Nat} {t : Nat} : ∀ n, (∀ k, k < n → Q k ≠ t) → plc Q n t = 0
  | 0, _ => rfl
  | n + 1, h => by
    show (if Q n = t then n + 1 else plc Q n t) = 0
    rw [if_neg (h n (by omega)), plc_0 n (fun k hk => h k (by omega))]
theorem plc_n {Q : Nat → Nat} {t n k : Nat} (h : plc Q n t = 0) (hi : ∀ i j, i < n → j < n → Q i = Q j → i = j) (hk : k < n) : Q k ≠ t := fun e => by
  have := plc_of n hi hk
  rw [e, h] at this
  omega
/-- the first of the queue -/
def zfq (S : zS) : Int32 := if z_qn S = 0 then -1 else nI (z_Q S 0)
/-! quarantine -/
def zmx (S : zS) (t i : Nat) : Bool := decide (vd (z_P S t i) (z_F S t i) = 3)
def zmix (S : zS) (t : Nat) : Nat := sr (fun i => b1 (zmx S t i)) (z_nc S - z_wi S) (z_nc S)
theorem mx_sub {a b : Nat} (ha : a ≤ 40) (hb : b ≤ 40) : (if nI 0 < nI a - nI b then nI a - nI b else nI 0) = nI (a - b) := by
  by_cases h : b ≤ a
  · rw [pk_sub h]
    by_cases e : a - b = 0
    · rw [e, if_neg (by decide)]
    · rw [if_pos ((nI_ltI (by decide) (by omega)).mpr (by omega))]
  · have h2 := pk_sneg (a := a) (b := b) (by omega) (by omega)
    rw [show a - b = 0 by omega, if_neg ?_]
    intro h3
    have h4 : (0 : Int32) < nI a - nI b := h3
    exact Int32.lt_irrefl (Int32.lt_trans h2 h4)
/-! bits of a long -/
theorem l_shr {m k : Nat} (hm : m < 2 ^ 62) (hk : k < 64) : lN m >>> ((nI k).toInt64 &&& 63) = lN (m / 2 ^ k) := by
  rw [wb_c k hk]
  refine pf_shr ?_ hm
  show ((BitVec.ofNat 64 k).smod 64).toNat = k
  rw [wb_sm k hk, BitVec.toNat_ofNat, Nat.mod_eq_of_lt (by omega)]
theorem l_and1 {m : Nat} (hm : m < 2 ^ 64) : lN m &&& lN 1 = lN (m % 2) := by
  rw [wb_and hm (by decide), show (1 : Nat) = 2 ^ 1 - 1 from rfl, Nat.and_two_pow_sub_one_eq_mod]
theorem l_cmp2 {m : Nat} : lg_cmp (lN (m % 2)) (lN 0) = nI (m % 2) := by
  rcases (show m % 2 = 0 ∨ m % 2 = 1 by omega) with e | e <;> rw [e] <;> rfl
theorem tb_f {m k : Nat} (h : m / 2 ^ k % 2 = 0) : m.testBit k = false := by
  rw [Nat.testBit_eq_decide_div_mod_eq, h]
  rfl
theorem tb_t {m k : Nat} (h : 0 < m / 2 ^ k % 2) : m.testBit k = true := by
  rw [Nat.testBit_eq_decide_div_mod_eq, show m / 2 ^ k % 2 = 1 by omega]
  rfl
