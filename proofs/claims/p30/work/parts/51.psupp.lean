/-! ===== p30: the law's rows as functions of the state ===== -/
theorem lcmp_self (x : Int64) : lg_cmp x x = nI 0 := by
  unfold lg_cmp
  rw [if_neg (by simp), if_pos rfl]
  rfl
def g9 (S : zS) : Nat → Int32 := fun j => if j < z_nt S then zgood S j else 0
def f9 (S : zS) : Nat → Nat := fun j => sm (z_F S j) 40
def n9 (a b c d e : Nat) : Nat → Nat := fun j => if j = 0 then a else if j = 1 then b else if j = 2 then c else if j = 3 then d else if j = 4 then e else 0
theorem n9_up0 {a b c d e v : Nat} : va_up (n9 a b c d e) 0 v = n9 v b c d e := by
  funext j
  unfold va_up n9
  by_cases h : j = 0 <;> simp [h]
theorem n9_up1 {a b c d e v : Nat} : va_up (n9 a b c d e) 1 v = n9 a v c d e := by
  funext j
  unfold va_up n9
  by_cases h : j = 1
  · subst h; simp
  · simp [h]
theorem n9_up2 {a b c d e v : Nat} : va_up (n9 a b c d e) 2 v = n9 a b v d e := by
  funext j
  unfold va_up n9
  by_cases h : j = 2
  · subst h; simp
  · simp [h]
theorem n9_up3 {a b c d e v : Nat} : va_up (n9 a b c d e) 3 v = n9 a b c v e := by
  funext j
  unfold va_up n9
  by_cases h : j = 3
  · subst h; simp
  · simp [h]
theorem n9_up4 {a b c d e v : Nat} : va_up (n9 a b c d e) 4 v = n9 a b c d v := by
  funext j
  unfold va_up n9
  by_cases h : j = 4
  · subst h; simp
  · simp [h]
section LSETN
variable {cI : ClassId} {bx : Nat → Nat} {u c t : Nat → Nat} {g : Nat → Int32} {bb f q : Nat → Nat} {w2 : va_W} {n0 n1 n2 n3 n4 : Nat}
theorem wA_n0 (v : Nat) : (wA cI bx u c t g bb f q (n9 n0 n1 n2 n3 n4) ++ w2).set 7 (bx 7, .inl (cI, 5, .inl (upd (fun j => nI (n9 n0 n1 n2 n3 n4 j)) 0 (nI v)))) = wA cI bx u c t g bb f q (n9 v n1 n2 n3 n4) ++ w2 := by rw [wA_n, n9_up0]
theorem wA_n1 (v : Nat) : (wA cI bx u c t g bb f q (n9 n0 n1 n2 n3 n4) ++ w2).set 7 (bx 7, .inl (cI, 5, .inl (upd (fun j => nI (n9 n0 n1 n2 n3 n4 j)) 1 (nI v)))) = wA cI bx u c t g bb f q (n9 n0 v n2 n3 n4) ++ w2 := by rw [wA_n, n9_up1]
theorem wA_n2 (v : Nat) : (wA cI bx u c t g bb f q (n9 n0 n1 n2 n3 n4) ++ w2).set 7 (bx 7, .inl (cI, 5, .inl (upd (fun j => nI (n9 n0 n1 n2 n3 n4 j)) 2 (nI v)))) = wA cI bx u c t g bb f q (n9 n0 n1 v n3 n4) ++ w2 := by rw [wA_n, n9_up2]
theorem wA_n3 (v : Nat) : (wA cI bx u c t g bb f q (n9 n0 n1 n2 n3 n4) ++ w2).set 7 (bx 7, .inl (cI, 5, .inl (upd (fun j => nI (n9 n0 n1 n2 n3 n4 j)) 3 (nI v)))) = wA cI bx u c t g bb f q (n9 n0 n1 n2 v n4) ++ w2 := by rw [wA_n, n9_up3]
theorem wA_n4 (v : Nat) : (wA cI bx u c t g bb f q (n9 n0 n1 n2 n3 n4) ++ w2).set 7 (bx 7, .inl (cI, 5, .inl (upd (fun j => nI (n9 n0 n1 n2 n3 n4 j)) 4 (nI v)))) = wA cI bx u c t g bb f q (n9 n0 n1 n2 n3 v) ++ w2 := by rw [wA_n, n9_up4]
end LSETN
theorem f9_le {S : zS} (h : zOK S) (t : Nat) : f9 S t ≤ 200 := by
  have h1 := zPF_sum h t
  have h2 := (h.2.2.2.2.1 t).1
  unfold f9
  omega
theorem g9_t {S : zS} {t : Nat} (ht : t < z_nt S) (hT : z_T S t = true) : g9 S t = nI (z_G S t) := (if_pos ht).trans (zgood_t hT)
theorem g9_f {S : zS} {t : Nat} (ht : t < z_nt S) (hT : z_T S t = false) : g9 S t = -1 := (if_pos ht).trans (zgood_f hT)
/-! culprits -/
theorem sus_tou {S : zS} {t k : Nat} (h1 : z_G S t < k) (h2 : k ≤ z_B S t) : sus S t k = ztou S k t := by
  unfold sus ztou
  by_cases e : z_C S k &&& zre S t = 0
  · rw [decide_eq_false (fun z => z.2.2 e), decide_eq_false (fun z => z e)]
  · rw [decide_eq_true ⟨h1, h2, e⟩, decide_eq_true e]
theorem b1_nf {b : Bool} (h : b1 b ≠ 1) : b = false := by cases b with | true => exact absurd rfl h | false => rfl
theorem b1_nt {b : Bool} (h : b1 b = 1) : b = true := by cases b with | true => rfl | false => exact absurd h (by decide)
theorem zlk_in {S : zS} {t : Nat} : ∀ (n c : Nat), zlk S t n = c + 1 → sus S t c = true ∧ c < n
  | 0, c, h => absurd h (Nat.succ_ne_zero c).symm
  | n + 1, c, h => by
    have h : (if sus S t n = true ∧ (zlk S t n = 0 ∨ zag S t n < zag S t (zlk S t n - 1)) then n + 1 else zlk S t n) = c + 1 := h
    split at h
    · rename_i e
      have : n = c := by omega
      subst this
      exact ⟨e.1, Nat.lt_succ_self _⟩
    · have := zlk_in n c h
      exact ⟨this.1, by omega⟩
theorem l_dec2 (j : Nat) : lN (2 * 2 ^ j) - lN 1 = lN (2 ^ (j + 1) - 1) := by
  have e : 2 * 2 ^ j = (2 ^ (j + 1) - 1) + 1 := by
    have := Nat.two_pow_pos (j + 1)
    rw [Nat.pow_succ] at this ⊢
    omega
  rw [e]
  refine wb_inj ?_
  rw [Int64.toBitVec_sub]
  show BitVec.ofNat 64 (2 ^ (j + 1) - 1 + 1) - BitVec.ofNat 64 1 = BitVec.ofNat 64 (2 ^ (j + 1) - 1)
  rw [BitVec.ofNat_add, BitVec.add_sub_cancel]
theorem l_lt2 {j : Nat} (h : j < 41) : 2 ^ (j + 1) - 1 < 2 ^ 64 := Nat.lt_of_lt_of_le (Nat.sub_lt (Nat.two_pow_pos _) (by decide)) (Nat.pow_le_pow_right (by decide) (by omega))
theorem zwt_a {S : zS} {t j : Nat} (h : zcc S t - ct (cnd S t) (j + 1) < ct (cnd S t) (j + 1)) : nI (ct (cnd S t) (j + 1)) = nI (zwt S t j) := by
  unfold zwt zmax
  rw [if_neg (by omega)]
theorem zwt_b {S : zS} {t j : Nat} (h : ct (cnd S t) (j + 1) ≤ zcc S t - ct (cnd S t) (j + 1)) : nI (zcc S t - ct (cnd S t) (j + 1)) = nI (zwt S t j) := by
  unfold zwt zmax
  by_cases e : ct (cnd S t) (j + 1) < zcc S t - ct (cnd S t) (j + 1)
  · rw [if_pos e]
  · rw [if_neg e, show ct (cnd S t) (j + 1) = zcc S t - ct (cnd S t) (j + 1) by omega]
    rw [show zcc S t - (zcc S t - ct (cnd S t) (j + 1)) = zcc S t - ct (cnd S t) (j + 1) by omega]
theorem nI_nlm {c : Nat} (h : c < 2 ^ 31) : ¬ nI c < -1 := fun z => by
  rw [i_lt, nI_toInt h] at z
  have : (-1 : Int32).toInt = -1 := rfl
  omega
/-! a run -/
theorem zco_neg {S : zS} {t k : Nat} (hz : zag S t k ≤ 200) (h : zco S t k < 0) : sus S t k = false := by
  cases e : sus S t k with
  | false => rfl
  | true =>
    unfold zco at h
    rw [if_pos e] at h
    exact absurd h (nI_pos (by omega))
theorem zco_pos {S : zS} {t k : Nat} (h : ¬ zco S t k < 0) : sus S t k = true := by
  cases e : sus S t k with
  | true => rfl
  | false =>
    unfold zco at h
    rw [if_neg (by rw [e]; decide)] at h
    exact absurd (by decide) h
def mm9 (S : zS) (t c : Nat) (b : Bool) (k : Nat) : Nat := if sus S t k = true then b1 (mo9 S t c b k) else 0
theorem mm9_le (S : zS) (t c : Nat) (b : Bool) (k : Nat) : mm9 S t c b k ≤ 1 := by
  unfold mm9
  have := b1_le (mo9 S t c b k)
  split <;> omega
def srr (S : zS) (t c : Nat) (b : Bool) : zS := if z_R S t < 200 then srec S t c b else S
theorem g9_rec (S : zS) (t c : Nat) (b : Bool) : g9 (srec S t c b) = g9 S := by
  unfold g9 zgood
  rw [srec_nt, srec_T, srec_G]
theorem f9_rec (S : zS) (t : Nat) {c : Nat} (b : Bool) (hc : c < 40) : f9 (srec S t c b) = va_up (f9 S) t (f9 S t + b1 (!b)) := by
  funext j
  unfold f9 va_up
  by_cases e : j = t
  · subst e
    rw [if_pos rfl]
    exact smF_rec S b hc
  · rw [if_neg e]
    exact smF_other S b e
theorem w_rec {cI : ClassId} {bx : Nat → Nat} {S : zS} {t c : Nat} {b : Bool} {qf : Nat → Nat} (hc : c < 40) (hR : z_R S t < 200) (ww : zS → va_W) : wA cI bx (z_U S) (z_C S) (z_D S) (g9 S) (z_B S) (va_up (f9 S) t (f9 S t + b1 (!b))) qf (n9 (z_no S) (z_li S) (z_wi S) (z_bu S) (z_qn S)) ++ ww (srec S t c b) = wA cI bx (z_U (srr S t c b)) (z_C (srr S t c b)) (z_D (srr S t c b)) (g9 (srr S t c b)) (z_B (srr S t c b)) (f9 (srr S t c b)) qf (n9 (z_no (srr S t c b)) (z_li (srr S t c b)) (z_wi (srr S t c b)) (z_bu (srr S t c b)) (z_qn (srr S t c b))) ++ ww (srr S t c b) := by
  rw [show srr S t c b = srec S t c b from if_pos hR, f9_rec S t b hc, g9_rec, srec_U, srec_C, srec_D, srec_B, srec_no, srec_li, srec_wi, srec_bu, srec_qn]
theorem srr_n {S : zS} {t c : Nat} {b : Bool} (hR : ¬ z_R S t < 200) : srr S t c b = S := if_neg hR
/-! taking -/
def sh9 (f : Nat → Nat) (k : Nat) : Nat → Nat := fun j => if j + 1 < k then f (j + 1) else f j
theorem sh9_1 (f : Nat → Nat) : f = sh9 f 1 := by
  funext j
  unfold sh9
  rw [if_neg (by omega)]
theorem sh9_s {f : Nat → Nat} {k : Nat} (h : 1 ≤ k) : va_up (sh9 f k) (k - 1) (f k) = sh9 f (k + 1) := by
  funext j
  unfold va_up sh9
  by_cases e : j = k - 1
  · subst e
    rw [if_pos rfl, if_pos (by omega), show k - 1 + 1 = k by omega]
  · rw [if_neg e]
    by_cases q : j + 1 < k
    · rw [if_pos q, if_pos (by omega)]
    · rw [if_neg q, if_neg (by omega)]
def tk9 (S : zS) : zS := if z_qn S = 0 ∨ z_bu S = 0 then S else stak S
def qt9 (S : zS) (f : Nat → Nat) : Nat → Nat := if z_qn S = 0 ∨ z_bu S = 0 then f else va_up (sh9 f (z_qn S)) (z_qn S - 1) (z_Q S 0)
theorem tk9_f {S : zS} (h : z_qn S = 0 ∨ z_bu S = 0) : tk9 S = S := if_pos h
theorem qt9_f {S : zS} {f : Nat → Nat} (h : z_qn S = 0 ∨ z_bu S = 0) : qt9 S f = f := if_pos h
theorem g9_eq {S S' : zS} (h1 : z_nt S' = z_nt S) (h2 : z_T S' = z_T S) (h3 : z_G S' = z_G S) : g9 S' = g9 S := by
  unfold g9 zgood
  rw [h1, h2, h3]
theorem w_tk {cI : ClassId} {bx : Nat → Nat} {S : zS} {f : Nat → Nat} (h1 : 0 < z_qn S) (h2 : 0 < z_bu S) (ww : zS → va_W) : wA cI bx (z_U S) (z_C S) (z_D S) (g9 S) (z_B S) (f9 S) (va_up (sh9 f (z_qn S)) (z_qn S - 1) (z_Q S 0)) (n9 (z_no S) (z_li S) (z_wi S) (z_bu S - 1) (z_qn S - b1 (!decide (1 < zcc S (z_Q S 0))))) ++ ww (stak S) = wA cI bx (z_U (tk9 S)) (z_C (tk9 S)) (z_D (tk9 S)) (g9 (tk9 S)) (z_B (tk9 S)) (f9 (tk9 S)) (qt9 S f) (n9 (z_no (tk9 S)) (z_li (tk9 S)) (z_wi (tk9 S)) (z_bu (tk9 S)) (z_qn (tk9 S))) ++ ww (tk9 S) := by
  have hne : ¬ (z_qn S = 0 ∨ z_bu S = 0) := by omega
  rw [show tk9 S = stak S from if_neg hne, show qt9 S f = va_up (sh9 f (z_qn S)) (z_qn S - 1) (z_Q S 0) from if_neg hne]
  have hq : z_qn (stak S) = z_qn S - b1 (!decide (1 < zcc S (z_Q S 0))) := by
    unfold stak
    by_cases e : 1 < zcc S (z_Q S 0)
    · rw [if_pos e, decide_eq_true e]
      show z_qn S - 1 + 1 = z_qn S - 0
      omega
    · rw [if_neg e, decide_eq_false e]
      rfl
  rw [← hq]
  unfold stak
  split <;> rfl
theorem qt9_ok {S : zS} {f : Nat → Nat} (hf : ∀ i, i < z_qn S → f i = z_Q S i) : ∀ i, i < z_qn (tk9 S) → qt9 S f i = z_Q (tk9 S) i := by
  by_cases hne : z_qn S = 0 ∨ z_bu S = 0
  · rw [tk9_f hne, qt9_f hne]
    exact hf
  · rw [show tk9 S = stak S from if_neg hne, show qt9 S f = va_up (sh9 f (z_qn S)) (z_qn S - 1) (z_Q S 0) from if_neg hne]
    unfold stak
    intro i hi
    by_cases e : 1 < zcc S (z_Q S 0)
    · rw [if_pos e] at hi ⊢
      have hi : i < z_qn S - 1 + 1 := hi
      show va_up (sh9 f (z_qn S)) (z_qn S - 1) (z_Q S 0) i = va_up (zrm (z_Q S) 0 (z_qn S - 1)) (z_qn S - 1) (z_Q S 0) i
      unfold va_up
      by_cases q : i = z_qn S - 1
      · rw [if_pos q, if_pos q]
      · rw [if_neg q, if_neg q, zrm_hi (Nat.zero_le _) (by omega)]
        unfold sh9
        rw [if_pos (by omega)]
        exact hf (i + 1) (by omega)
    · rw [if_neg e] at hi ⊢
      have hi : i < z_qn S - 1 := hi
      show va_up (sh9 f (z_qn S)) (z_qn S - 1) (z_Q S 0) i = zrm (z_Q S) 0 (z_qn S - 1) i
      unfold va_up
      rw [if_neg (by omega), zrm_hi (Nat.zero_le _) hi]
      unfold sh9
      rw [if_pos (by omega)]
      exact hf (i + 1) (by omega)
/-! leaving -/
theorem cnd_bit (S : zS) (t o : Nat) : (msk (cnd S t) (z_B S t + 1)).testBit o = cnd S t o := by
  rw [msk_tb]
  by_cases e : o < z_B S t + 1
  · rw [decide_eq_true e, Bool.true_and]
  · rw [decide_eq_false e, Bool.false_and, cnd_hi (by omega)]
theorem lo_s {p : Nat → Bool} {o : Nat} (h : ∀ j, j < o → p j = false) (h2 : p o = false) : ∀ j, j < o + 1 → p j = false := fun j hj => by
  by_cases e : j = o
  · exact e ▸ h2
  · exact h j (by omega)
def lv9 (p k : Nat) : Nat := if p = 0 ∨ k < p then k else k - 1
def cq9 (f : Nat → Nat) (p k : Nat) : Nat → Nat := fun j => if p ≠ 0 ∧ p - 1 ≤ j ∧ j + 1 < k then f (j + 1) else f j
theorem lv9_le (p k : Nat) : lv9 p k ≤ k := by unfold lv9; split <;> omega
theorem cq9_0 (f : Nat → Nat) (p : Nat) : f = cq9 f p 0 := by
  funext j
  unfold cq9
  rw [if_neg (by omega)]
theorem cq9_k (f : Nat → Nat) (p k : Nat) : cq9 f p k k = f k := if_neg (by omega)
theorem cq9_k1 (f : Nat → Nat) (p k : Nat) : cq9 f p (k + 1) k = f k := if_neg (by omega)
theorem cq9_s (f : Nat → Nat) (p k : Nat) : va_up (cq9 f p k) (lv9 p k) (f k) = cq9 f p (k + 1) := by
  funext j
  unfold va_up cq9 lv9
  by_cases h : p = 0 ∨ k < p
  · rw [if_pos h]
    by_cases e : j = k
    · subst e
      rw [if_pos rfl, if_neg (by omega)]
    · rw [if_neg e]
      by_cases q : p ≠ 0 ∧ p - 1 ≤ j ∧ j + 1 < k
      · omega
      · rw [if_neg q, if_neg (by omega)]
  · rw [if_neg h]
    by_cases e : j = k - 1
    · subst e
      rw [if_pos rfl, if_pos (by omega), show k - 1 + 1 = k by omega]
    · rw [if_neg e]
      by_cases q : p ≠ 0 ∧ p - 1 ≤ j ∧ j + 1 < k
      · rw [if_pos q, if_pos (by omega)]
      · rw [if_neg q, if_neg (by omega)]
theorem plc_is {Q : Nat → Nat} {t n k : Nat} (hi : ∀ i j, i < n → j < n → Q i = Q j → i = j) (hk : k < n) : Q k = t ↔ plc Q n t = k + 1 := by
  constructor
  · intro e
    subst e
    exact plc_of n hi hk
  · intro e
    exact (plc_at n e).2
theorem lv9_s {Q : Nat → Nat} {t n k : Nat} (hi : ∀ i j, i < n → j < n → Q i = Q j → i = j) (hk : k < n) : lv9 (plc Q n t) k + (if Q k = t then 0 else 1) = lv9 (plc Q n t) (k + 1) := by
  have h := plc_is (t := t) hi hk
  unfold lv9
  by_cases e : Q k = t
  · rw [if_pos e]
    have := h.mp e
    rw [if_pos (by omega), if_neg (by omega)]
    omega
  · rw [if_neg e]
    have : plc Q n t ≠ k + 1 := fun z => e (h.mpr z)
    by_cases q : plc Q n t = 0 ∨ k < plc Q n t
    · rw [if_pos q, if_pos (by omega)]
    · rw [if_neg q, if_neg (by omega)]
      omega
theorem clo_qn (S : zS) (t : Nat) : z_qn (sclo S t) = lv9 (plc (z_Q S) (z_qn S) t) (z_qn S) := by
  have := plc_le (z_Q S) t (z_qn S)
  show z_qn (slv S t) = _
  unfold slv lv9
  by_cases e : plc (z_Q S) (z_qn S) t = 0
  · rw [if_pos e, if_pos (Or.inl e)]
  · rw [if_neg e, if_neg (by omega)]
    rfl
theorem g9_clo {S : zS} {t : Nat} : g9 (sclo S t) = if t < z_nt S then upd (g9 S) t (-1) else g9 S := by
  have e1 : z_T (sclo S t) = va_up (z_T S) t false := by
    show va_up (z_T (slv S t)) t false = _
    rw [slv_T]
  have e2 : z_nt (sclo S t) = z_nt S := slv_nt S t
  have e3 : z_G (sclo S t) = z_G S := by
    show z_G (slv S t) = _
    unfold slv
    split <;> rfl
  funext j
  unfold g9 zgood
  rw [e1, e2, e3]
  by_cases h : t < z_nt S
  · rw [if_pos h]
    unfold upd va_up
    by_cases q : j = t
    · subst q
      rw [if_pos h, if_pos rfl, if_pos rfl]
      rfl
    · rw [if_neg q, if_neg q]
  · rw [if_neg h]
    unfold va_up
    by_cases q : j = t
    · subst q
      rw [if_neg h, if_neg h]
    · rw [if_neg q]
theorem w_clo {cI : ClassId} {bx : Nat → Nat} {S : zS} {t to : Nat} {q : Nat → Nat} (ht : t < z_nt S) (hto : to = lv9 (plc (z_Q S) (z_qn S) t) (z_qn S)) (ww : zS → va_W) : wA cI bx (z_U S) (z_C S) (z_D S) (upd (g9 S) t (-1)) (z_B S) (f9 S) q (n9 (z_no S) (z_li S) (z_wi S) (z_bu S) to) ++ ww (sclo S t) = wA cI bx (z_U (sclo S t)) (z_C (sclo S t)) (z_D (sclo S t)) (g9 (sclo S t)) (z_B (sclo S t)) (f9 (sclo S t)) q (n9 (z_no (sclo S t)) (z_li (sclo S t)) (z_wi (sclo S t)) (z_bu (sclo S t)) (z_qn (sclo S t))) ++ ww (sclo S t) := by
  rw [g9_clo, if_pos ht, clo_qn, ← hto]
  have e : ∀ {α : Type} (f : zS → α), (f (sclo S t) = f S) → f (sclo S t) = f S := fun _ h => h
  have h1 : z_U (sclo S t) = z_U S := by show z_U (slv S t) = _; unfold slv; split <;> rfl
  have h2 : z_C (sclo S t) = z_C S := by show z_C (slv S t) = _; unfold slv; split <;> rfl
  have h3 : z_D (sclo S t) = z_D S := by show z_D (slv S t) = _; unfold slv; split <;> rfl
  have h4 : z_B (sclo S t) = z_B S := by show z_B (slv S t) = _; unfold slv; split <;> rfl
  have h5 : f9 (sclo S t) = f9 S := by
    have : z_F (sclo S t) = z_F S := by show z_F (slv S t) = _; unfold slv; split <;> rfl
    unfold f9
    rw [this]
  have h6 : z_no (sclo S t) = z_no S := by show z_no (slv S t) = _; unfold slv; split <;> rfl
  have h7 : z_li (sclo S t) = z_li S := by show z_li (slv S t) = _; unfold slv; split <;> rfl
  have h8 : z_wi (sclo S t) = z_wi S := by show z_wi (slv S t) = _; unfold slv; split <;> rfl
  have h9 : z_bu (sclo S t) = z_bu S := by show z_bu (slv S t) = _; unfold slv; split <;> rfl
  rw [h1, h2, h3, h4, h5, h6, h7, h8, h9]
theorem cq9_ok {S : zS} {t : Nat} {f : Nat → Nat} (hf : ∀ i, i < z_qn S → f i = z_Q S i) : ∀ i, i < z_qn (sclo S t) → cq9 f (plc (z_Q S) (z_qn S) t) (z_qn S) i = z_Q (sclo S t) i := by
  have hp := plc_le (z_Q S) t (z_qn S)
  intro i hi
  rw [clo_qn] at hi
  show _ = z_Q (slv S t) i
  unfold slv lv9 at *
  unfold cq9
  by_cases e : plc (z_Q S) (z_qn S) t = 0
  · rw [if_pos (Or.inl e)] at hi
    rw [if_pos e, if_neg (fun z => z.1 e)]
    exact hf i hi
  · rw [if_neg (by omega)] at hi
    rw [if_neg e]
    show _ = zrm (z_Q S) (plc (z_Q S) (z_qn S) t - 1) (z_qn S - 1) i
    by_cases q : plc (z_Q S) (z_qn S) t - 1 ≤ i
    · rw [zrm_hi q hi, if_pos ⟨e, q, by omega⟩]
      exact hf (i + 1) (by omega)
    · rw [zrm_lo (by omega), if_neg (fun z => q z.2.1)]
      exact hf i (by omega)
