/-! ===== which arguments are refused; what each call makes of the state ===== -/
def iN (p : Int32) : Nat := p.toNatClampNeg
theorem iN_nI {n : Nat} (h : n < 2 ^ 31) : iN (nI n) = n := nI_clamp h
def zin (p : Int32) (n : Nat) : Bool := decide (0 ≤ p.toInt ∧ p.toInt < (n : Int))
def zin1 (p : Int32) (n : Nat) : Bool := decide (1 ≤ p.toInt ∧ p.toInt < (n : Int))
def kk1 (b : Bool) : Nat := if b then 0 else 1
def kk2 (b c : Bool) : Nat := if b then (if c then 0 else 2) else 1
theorem kk1_t {b : Bool} (h : b = true) : kk1 b = 0 := by rw [h]; rfl
theorem kk1_f {b : Bool} (h : b = false) : kk1 b = 1 := by rw [h]; rfl
theorem kk1_z {b : Bool} (h : kk1 b = 0) : b = true := by cases b; exact absurd h (by decide); rfl
theorem kk1_n {b : Bool} (h : kk1 b ≠ 0) : b = false := by cases b; rfl; exact absurd rfl h
theorem kk2_t {b c : Bool} (h : b = true) (h2 : c = true) : kk2 b c = 0 := by rw [h, h2]; rfl
theorem kk2_f {b c : Bool} (h : b = false) : kk2 b c = 1 := by rw [h]; rfl
theorem kk2_2 {b c : Bool} (h : b = true) (h2 : c = false) : kk2 b c = 2 := by rw [h, h2]; rfl
theorem i_lt (a b : Int32) : a < b ↔ a.toInt < b.toInt := Int32.lt_iff_toInt_lt
theorem i_le (a b : Int32) : a ≤ b ↔ a.toInt ≤ b.toInt := Int32.le_iff_toInt_le
theorem i_eq {a b : Int32} (h : a.toInt = b.toInt) : a = b := Int32.toInt_inj.mp h
theorem i_0 : (0 : Int32).toInt = 0 := rfl
theorem zin_lo {p : Int32} {n : Nat} (h : p < 0) : zin p n = false := by
  rw [i_lt, i_0] at h
  exact decide_eq_false (by omega)
theorem zin_ge {p : Int32} {n : Nat} (hn : n < 2 ^ 31) (h : ¬ p < nI n) : zin p n = false := by
  rw [i_lt, nI_toInt hn] at h
  exact decide_eq_false (by omega)
theorem zin_gt {p : Int32} {n : Nat} (hn : n < 2 ^ 31) (h : ¬ p ≤ nI n) : zin p (n + 1) = false := by
  rw [i_le, nI_toInt hn] at h
  exact decide_eq_false (by omega)
theorem zin_of {p : Int32} {n : Nat} (hn : n ≤ 2 ^ 31) (h : zin p n = true) : ∃ j, j < n ∧ p = nI j := by
  have h := of_decide_eq_true h
  refine ⟨p.toInt.toNat, by omega, i_eq ?_⟩
  rw [nI_toInt (by omega)]
  omega
theorem zin_n {j n : Nat} (hj : j < n) (hn : n ≤ 2 ^ 31) : zin (nI j) n = true := by
  refine decide_eq_true ?_
  rw [nI_toInt (by omega)]
  omega
theorem zin_ok {p : Int32} {n : Nat} (hn : n < 2 ^ 31) (h0 : ¬ p < 0) (h : p < nI n) : ∃ j, j < n ∧ p = nI j := by
  rw [i_lt, i_0] at h0
  rw [i_lt, nI_toInt hn] at h
  exact zin_of (by omega) (decide_eq_true (by omega))
theorem zin_le {p : Int32} {n : Nat} (hn : n + 1 < 2 ^ 31) (h0 : ¬ p < 0) (h : p ≤ nI n) : ∃ j, j < n + 1 ∧ p = nI j := by
  rw [i_lt, i_0] at h0
  rw [i_le, nI_toInt (by omega)] at h
  exact zin_of (by omega) (decide_eq_true (by omega))
theorem zin1_lo {p : Int32} {n : Nat} (h : p < nI 1) : zin1 p n = false := by
  rw [i_lt, nI_toInt (by decide)] at h
  exact decide_eq_false (by omega)
theorem zin1_gt {p : Int32} {n : Nat} (hn : n < 2 ^ 31) (h : ¬ p ≤ nI n) : zin1 p (n + 1) = false := by
  rw [i_le, nI_toInt hn] at h
  exact decide_eq_false (by omega)
theorem zin1_of {p : Int32} {n : Nat} (hn : n ≤ 2 ^ 31) (h : zin1 p n = true) : ∃ j, 1 ≤ j ∧ j < n ∧ p = nI j := by
  have h := of_decide_eq_true h
  refine ⟨p.toInt.toNat, by omega, by omega, i_eq ?_⟩
  rw [nI_toInt (by omega)]
  omega
theorem zin1_n {j n : Nat} (h1 : 1 ≤ j) (hj : j < n) (hn : n ≤ 2 ^ 31) : zin1 (nI j) n = true := by
  refine decide_eq_true ?_
  rw [nI_toInt (by omega)]
  omega
theorem zin1_le {p : Int32} {n : Nat} (hn : n + 1 < 2 ^ 31) (h0 : ¬ p < nI 1) (h : p ≤ nI n) : ∃ j, 1 ≤ j ∧ j < n + 1 ∧ p = nI j := by
  rw [i_lt, nI_toInt (by decide)] at h0
  rw [i_le, nI_toInt (by omega)] at h
  exact zin1_of (by omega) (decide_eq_true (by omega))
abbrev exIG : Nat → String := fun k => if k = 1 then xI else xG
abbrev exGS : Nat → String := fun k => if k = 1 then xG else xS
abbrev exIS : Nat → String := fun k => if k = 1 then xI else xS
abbrev exI : Nat → String := fun _ => xI
abbrev exG : Nat → String := fun _ => xG
abbrev exS : Nat → String := fun _ => xS
/-! the new states -/
def zrm (Q : Nat → Nat) (p n : Nat) : Nat → Nat := fun j => if p ≤ j ∧ j < n then Q (j + 1) else Q j
/-- the test at place p (from 0 on) leaves the queue -/
def srm (S : zS) (p : Nat) : zS := zs_qn (zs_Q S (zrm (z_Q S) p (z_qn S - 1))) (z_qn S - 1)
def slv (S : zS) (t : Nat) : zS := if plc (z_Q S) (z_qn S) t = 0 then S else srm S (plc (z_Q S) (z_qn S) t - 1)
def sjn (S : zS) (t : Nat) : zS := zs_qn (zs_Q S (va_up (z_Q S) (z_qn S) t)) (z_qn S + 1)
def srec (S : zS) (t c : Nat) (b : Bool) : zS :=
  let S1 := zs_rP (zs_rC S (up2 (z_rC S) t (z_R S t) c)) (up2 (z_rP S) t (z_R S t) (b1 b))
  let S2 := if b then zs_P S1 (up2 (z_P S) t c (z_P S t c + 1)) else zs_F S1 (up2 (z_F S) t c (z_F S t c + 1))
  zs_R S2 (va_up (z_R S) t (z_R S t + 1))
def stri (S : zS) (t g b : Nat) : zS := zs_B (zs_G (zs_T S (va_up (z_T S) t true)) (va_up (z_G S) t g)) (va_up (z_B S) t b)
def sclo (S : zS) (t : Nat) : zS := zs_T (slv S t) (va_up (z_T (slv S t)) t false)
def zcc (S : zS) (t : Nat) : Nat := ct (cnd S t) (z_B S t + 1)
def zonly (S : zS) (t : Nat) : Int32 := if zcc S t = 1 then oI (zlk S t (z_B S t + 1)) else -1
def stak (S : zS) : zS := if 1 < zcc S (z_Q S 0) then sjn (srm (zs_bu S (z_bu S - 1)) 0) (z_Q S 0) else srm (zs_bu S (z_bu S - 1)) 0
def sadC (S : zS) (v : Nat) : zS := zs_nc (zs_C S (va_up (z_C S) (z_nc S) v)) (z_nc S + 1)
def sadT (S : zS) (v : Nat) : zS := zs_nt (zs_D S (va_up (z_D S) (z_nt S) v)) (z_nt S + 1)
def zwt (S : zS) (t c : Nat) : Nat := zmax (ct (cnd S t) (c + 1)) (zcc S t - ct (cnd S t) (c + 1))
def zrn (S : zS) (t c : Nat) : Nat := z_P S t c + z_F S t c
def znx (S : zS) (t : Nat) : Nat → Nat
  | 0 => 0
  | n + 1 => if (z_G S t < n ∧ n < z_B S t) ∧ (znx S t n = 0 ∨ zwt S t n < zwt S t (znx S t n - 1) ∨ (zwt S t n = zwt S t (znx S t n - 1) ∧ zrn S t n < zrn S t (znx S t n - 1))) then n + 1 else znx S t n
def ztou (S : zS) (c t : Nat) : Bool := decide ((z_C S c &&& zre S t) ≠ 0)
def zbro (S : zS) (c t : Nat) : Bool := decide (vd (z_P S t c) (z_F S t c) = 2) && !decide (z_li S ≤ zmix S t)
def zfai (S : zS) (t : Nat) : Nat := if z_R S t = 0 then 0 else 100 * sm (z_F S t) 40 / z_R S t
