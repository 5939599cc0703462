/-! ===== p30: what a step makes of the state ===== -/
def st9 (y : Int32) : Nat := ((2 ^ (lo9 y % 16)) ||| (2 ^ (lo9 (y >>> (nI (4) &&& 31)) % 6))) ||| (if lo9 (y >>> (nI (8) &&& 31)) % 3 = 0 then 2 ^ (lo9 (y >>> (nI (10) &&& 31)) % 16) else 0)
theorem p16_lt {n : Nat} (h : n < 16) : 2 ^ n < 65536 := show 2 ^ n < 2 ^ 16 from Nat.pow_lt_pow_right (by decide) h
theorem st9_lt (y : Int32) : st9 y < 65536 := by
  unfold st9
  refine Nat.or_lt_two_pow (n := 16) (Nat.or_lt_two_pow (n := 16) (p16_lt (Nat.mod_lt _ (by decide))) (p16_lt (Nat.lt_of_lt_of_le (Nat.mod_lt _ (by decide)) (by decide)))) ?_
  split
  · exact p16_lt (Nat.mod_lt _ (by decide))
  · decide
theorem upd_same (g : Nat → Int32) (t : Nat) : upd g t (g t) = g := by
  funext j
  unfold upd
  by_cases e : j = t
  · subst e; rw [if_pos rfl]
  · rw [if_neg e]
theorem up_same (f : Nat → Nat) (t : Nat) : va_up f t (f t) = f := by
  funext j
  unfold va_up
  by_cases e : j = t
  · subst e; rw [if_pos rfl]
  · rw [if_neg e]
theorem g9_adT {S : zS} (h : zOK S) (v : Nat) : g9 (sadT S v) = upd (g9 S) (z_nt S) (-1) := by
  funext j
  show (if j < z_nt S + 1 then zgood S j else 0) = upd (g9 S) (z_nt S) (-1) j
  unfold upd
  by_cases e : j = z_nt S
  · subst e
    rw [if_pos (Nat.lt_succ_self _), if_pos rfl]
    refine zgood_f ?_
    cases q : z_T S (z_nt S) with
    | false => rfl
    | true => exact absurd (h.2.2.1 _ q).1 (Nat.lt_irrefl _)
  · rw [if_neg e]
    show _ = if j < z_nt S then zgood S j else 0
    by_cases q : j < z_nt S
    · rw [if_pos q, if_pos (by omega)]
    · rw [if_neg q, if_neg (by omega)]
theorem g9_tri {S : zS} {t g b : Nat} (ht : t < z_nt S) : g9 (stri S t g b) = upd (g9 S) t (nI g) := by
  funext j
  show (if j < z_nt S then zgood (stri S t g b) j else 0) = upd (g9 S) t (nI g) j
  unfold upd
  have e1 : zgood (stri S t g b) j = if va_up (z_T S) t true j then nI (va_up (z_G S) t g j) else -1 := rfl
  rw [e1]
  unfold va_up
  by_cases e : j = t
  · subst e
    rw [if_pos ht]
    simp
  · rw [if_neg e, if_neg e, if_neg e]
    rfl
theorem w_adT {cI : ClassId} {bx : Nat → Nat} {S : zS} {v : Nat} {qf : Nat → Nat} (h : zOK S) (ww : zS → va_W) : wA cI bx (z_U S) (z_C S) (va_up (z_D S) (z_nt S) v) (upd (g9 S) (z_nt S) (-1)) (z_B S) (f9 S) qf (n9 (z_no S) (z_li S) (z_wi S) (z_bu S) (z_qn S)) ++ ww (sadT S v) = wA cI bx (z_U (sadT S v)) (z_C (sadT S v)) (z_D (sadT S v)) (g9 (sadT S v)) (z_B (sadT S v)) (f9 (sadT S v)) qf (n9 (z_no (sadT S v)) (z_li (sadT S v)) (z_wi (sadT S v)) (z_bu (sadT S v)) (z_qn (sadT S v))) ++ ww (sadT S v) := by
  rw [g9_adT h]
  rfl
theorem w_tri {cI : ClassId} {bx : Nat → Nat} {S : zS} {t g b : Nat} {qf : Nat → Nat} (ht : t < z_nt S) (ww : zS → va_W) : wA cI bx (z_U S) (z_C S) (z_D S) (upd (g9 S) t (nI g)) (va_up (z_B S) t b) (f9 S) qf (n9 (z_no S) (z_li S) (z_wi S) (z_bu S) (z_qn S)) ++ ww (stri S t g b) = wA cI bx (z_U (stri S t g b)) (z_C (stri S t g b)) (z_D (stri S t g b)) (g9 (stri S t g b)) (z_B (stri S t g b)) (f9 (stri S t g b)) qf (n9 (z_no (stri S t g b)) (z_li (stri S t g b)) (z_wi (stri S t g b)) (z_bu (stri S t g b)) (z_qn (stri S t g b))) ++ ww (stri S t g b) := by
  rw [g9_tri ht]
  rfl
/-! in the queue -/
def in9 (Q : Nat → Nat) (t : Nat) : Nat → Bool
  | 0 => false
  | k + 1 => in9 Q t k || decide (Q k = t)
theorem in9_t {Q : Nat → Nat} {t k : Nat} (h : in9 Q t k = true) : in9 Q t (k + 1) = true := by
  show (in9 Q t k || _) = true
  rw [h, Bool.true_or]
theorem in9_e {Q : Nat → Nat} {t k : Nat} (h : Q k = t) : in9 Q t (k + 1) = true := by
  show (_ || decide (Q k = t)) = true
  rw [decide_eq_true h, Bool.or_true]
theorem in9_n {Q : Nat → Nat} {t k : Nat} (h0 : in9 Q t k = false) (h : Q k ≠ t) : in9 Q t (k + 1) = false := by
  show (in9 Q t k || decide (Q k = t)) = false
  rw [h0, decide_eq_false h]
  rfl
theorem in9_plc {Q : Nat → Nat} {t : Nat} : ∀ n, in9 Q t n = false ↔ plc Q n t = 0
  | 0 => ⟨fun _ => rfl, fun _ => rfl⟩
  | n + 1 => by
    show (in9 Q t n || decide (Q n = t)) = false ↔ (if Q n = t then n + 1 else plc Q n t) = 0
    by_cases e : Q n = t
    · rw [decide_eq_true e, if_pos e, Bool.or_true]
      exact ⟨fun h => absurd h (by decide), fun h => absurd h (Nat.succ_ne_zero n)⟩
    · rw [decide_eq_false e, if_neg e, Bool.or_false]
      exact in9_plc n
/-! four runs -/
def cc9 (y : Int32) (n k : Nat) : Nat := lo9 (y >>> (nI (5 * k) &&& 31)) % n
def dd9 (y : Int32) (n k : Nat) : Nat := lo9 (y >>> (nI (5 * k + 3) &&& 31)) % (n + 4)
def pp9 (y : Int32) (n k : Nat) : Bool := decide (cc9 y n k < dd9 y n k)
theorem cc9_lt (y : Int32) {n : Nat} (k : Nat) (h : 0 < n) : cc9 y n k < n := Nat.mod_lt _ h
theorem dd9_lt (y : Int32) (n k : Nat) : dd9 y n k < n + 4 := Nat.mod_lt _ (by omega)
def rr9 (S : zS) (t : Nat) (y : Int32) : Nat → zS
  | 0 => S
  | k + 1 => srr (rr9 S t y k) t (cc9 y (z_nc S) k) (pp9 y (z_nc S) k)
def same9 (S S' : zS) : Prop := z_nt S' = z_nt S ∧ z_nc S' = z_nc S ∧ z_qn S' = z_qn S ∧ z_Q S' = z_Q S ∧ z_bu S' = z_bu S
theorem srr_ok {S : zS} (h : zOK S) (hN : zN S) (t : Nat) {c : Nat} (b : Bool) (hc : c < z_nc S) : zOK (srr S t c b) ∧ zN (srr S t c b) ∧ same9 S (srr S t c b) := by
  unfold srr
  split
  · rename_i e
    exact ⟨zOK_rec h b hc e, zN_rec hN t b hc, srec_nt _ _ _ _, srec_nc _ _ _ _, srec_qn _ _ _ _, srec_Q _ _ _ _, srec_bu _ _ _ _⟩
  · exact ⟨h, hN, rfl, rfl, rfl, rfl, rfl⟩
theorem rr9_ok {S : zS} (h : zOK S) (hN : zN S) (t : Nat) (y : Int32) (h0 : 0 < z_nc S) : ∀ k, zOK (rr9 S t y k) ∧ zN (rr9 S t y k) ∧ same9 S (rr9 S t y k)
  | 0 => ⟨h, hN, rfl, rfl, rfl, rfl, rfl⟩
  | k + 1 => by
    obtain ⟨a, b, c1, c2, c3, c4, c5⟩ := rr9_ok h hN t y h0 k
    have hc : cc9 y (z_nc S) k < z_nc (rr9 S t y k) := by rw [c2]; exact cc9_lt y k h0
    obtain ⟨q1, q2, q3, q4, q5, q6, q7⟩ := srr_ok a b t (pp9 y (z_nc S) k) hc
    exact ⟨q1, q2, q3.trans c1, q4.trans c2, q5.trans c3, q6.trans c4, q7.trans c5⟩
