/-! ===== the model: plain facts ===== -/
def zbt (v lo hi : Int32) : Bool := decide (lo.toInt ≤ v.toInt ∧ v.toInt ≤ hi.toInt)
theorem zbt_f1 {v lo hi : Int32} (h : v < lo) : zbt v lo hi = false := by
  rw [i_lt] at h
  exact decide_eq_false (by omega)
theorem zbt_f2 {v lo hi : Int32} (h : ¬ v ≤ hi) : zbt v lo hi = false := by
  rw [i_le] at h
  exact decide_eq_false (by omega)
theorem zbt_t {v lo hi : Int32} (h1 : ¬ v < lo) (h2 : v ≤ hi) : zbt v lo hi = true := by
  rw [i_lt] at h1
  rw [i_le] at h2
  exact decide_eq_true (by omega)
theorem zbt_z (p : Int32) {n : Nat} (hn : n + 1 < 2 ^ 31) : zbt p (nI 0) (nI n) = zin p (n + 1) := by
  unfold zbt zin
  rw [nI_toInt (show 0 < 2 ^ 31 by decide), nI_toInt (show n < 2 ^ 31 by omega)]
  exact decide_eq_decide.mpr (by omega)
theorem zbt_1 (p : Int32) {n : Nat} (hn : n + 1 < 2 ^ 31) : zbt p (nI 1) (nI n) = zin1 p (n + 1) := by
  unfold zbt zin1
  rw [nI_toInt (show 1 < 2 ^ 31 by decide), nI_toInt (show n < 2 ^ 31 by omega)]
  exact decide_eq_decide.mpr (by omega)
theorem zbt_n (p : Int32) {n : Nat} (hn : n < 2 ^ 30) : zbt p (nI 0) (nI n - nI 1) = zin p n := by
  unfold zbt zin
  rw [nI_toInt (show 0 < 2 ^ 31 by decide), pk_sub_toInt hn (by decide)]
  exact decide_eq_decide.mpr (by omega)
theorem zin_lt {p : Int32} {n : Nat} (hn : n ≤ 2 ^ 31) (h : zin p n = true) : ∃ j, j < n ∧ p = nI j := zin_of hn h
theorem kk2_and (b c : Bool) : kk2 b (b && c) = kk2 b c := by cases b <;> cases c <;> rfl
theorem kk2_tt (b : Bool) : kk2 b true = kk1 b := by cases b <;> rfl
theorem kk2_0 {b c : Bool} (h : kk2 b c = 0) : b = true ∧ c = true := by
  cases b <;> cases c <;> first | exact ⟨rfl, rfl⟩ | exact absurd h (by decide)
def mS (k : Nat) (x y : zS) : zS := if k = 0 then x else y
def mV (k : Nat) (v : Int32) : Int32 := if k = 0 then v else nI 0
def mB (k : Nat) (v : Bool) : Bool := if k = 0 then v else false
def mL (k : Nat) (v : Int64) : Int64 := if k = 0 then v else lN 0
theorem mS_0 {k : Nat} {x y : zS} (h : k = 0) : mS k x y = x := if_pos h
theorem mS_n {k : Nat} {x y : zS} (h : k ≠ 0) : mS k x y = y := if_neg h
theorem mV_0 {k : Nat} {x : Int32} (h : k = 0) : mV k x = x := if_pos h
theorem mV_n {k : Nat} {x : Int32} (h : k ≠ 0) : mV k x = nI 0 := if_neg h
theorem mB_0 {k : Nat} {x : Bool} (h : k = 0) : mB k x = x := if_pos h
theorem mB_n {k : Nat} {x : Bool} (h : k ≠ 0) : mB k x = false := if_neg h
theorem mL_0 {k : Nat} {x : Int64} (h : k = 0) : mL k x = x := if_pos h
theorem mL_n {k : Nat} {x : Int64} (h : k ≠ 0) : mL k x = lN 0 := if_neg h
theorem zgood_t {S : zS} {t : Nat} (h : z_T S t = true) : zgood S t = nI (z_G S t) := by
  unfold zgood
  rw [if_pos h]
theorem zgood_f {S : zS} {t : Nat} (h : z_T S t = false) : zgood S t = -1 := by
  unfold zgood
  rw [if_neg (by rw [h]; decide)]
theorem nI_m1 {n : Nat} (h : n < 2 ^ 31) : nI n ≠ -1 := fun e => by
  have h1 := congrArg Int32.toInt e
  rw [nI_toInt h] at h1
  have h2 : (-1 : Int32).toInt = -1 := rfl
  rw [h2] at h1
  omega
theorem zgood_1 {S : zS} (hok : zOK S) {t : Nat} (h : zgood S t = -1) : z_T S t = false := by
  cases e : z_T S t with
  | false => rfl
  | true =>
    rw [zgood_t e] at h
    have h1 := hok.2.2.1 t e
    have h2 := hok.1.1
    exact absurd h (nI_m1 (by omega))
theorem zgood_2 {S : zS} {t : Nat} (h : ¬ zgood S t = -1) : z_T S t = true := by
  cases e : z_T S t with
  | true => rfl
  | false => exact absurd (zgood_f e) h
theorem zP_e {S : zS} {t c : Nat} (hc : c < 40) : nI (z_P S ((40 * t + c) / 40) ((40 * t + c) % 40)) = nI (z_P S t c) := by
  rw [show (40 * t + c) / 40 = t by omega, show (40 * t + c) % 40 = c by omega]
theorem zF_e {S : zS} {t c : Nat} (hc : c < 40) : nI (z_F S ((40 * t + c) / 40) ((40 * t + c) % 40)) = nI (z_F S t c) := by
  rw [show (40 * t + c) / 40 = t by omega, show (40 * t + c) % 40 = c by omega]
section MSET
variable {cI : ClassId} {b : Nat → Nat} {S : zS} {th : Nat}
theorem up_40 (f : Nat → Nat → Nat) {t c : Nat} (v : Nat) (hc : c < 40) : upd (fun j => nI (f (j / 40) (j % 40))) (40 * t + c) (nI v) = fun j => nI (up2 f t c v (j / 40) (j % 40)) := by
  funext j
  unfold upd up2
  by_cases h : j = 40 * t + c
  · rw [if_pos h, if_pos (show j / 40 = t by omega), if_pos (show j % 40 = c by omega)]
  · rw [if_neg h]
    by_cases h1 : j / 40 = t
    · rw [if_pos h1, if_neg (show ¬ j % 40 = c by omega)]
    · rw [if_neg h1]
theorem wM_a_P {t c v : Nat} (hc : c < 40) : (wM cI b S th).set 4 (b 4, .inl (cI, 480, .inl (upd (fun j => nI (z_P S (j / 40) (j % 40))) (40 * t + c) (nI v)))) = wM cI b (zs_P S (up2 (z_P S) t c v)) th := by
  rw [up_40 _ _ hc]
  unfold wM zgood
  rw [zl_U_P, zl_C_P, zl_D_P, zl_T_P, zl_G_P, zl_B_P, zl_Q_P, zl_qn_P, zl_nc_P, zl_nt_P, zl_li_P, zl_wi_P, zl_no_P, zl_bu_P, zl_F_P, zl_P_P]
  rfl
theorem wM_a_F {t c v : Nat} (hc : c < 40) : (wM cI b S th).set 5 (b 5, .inl (cI, 480, .inl (upd (fun j => nI (z_F S (j / 40) (j % 40))) (40 * t + c) (nI v)))) = wM cI b (zs_F S (up2 (z_F S) t c v)) th := by
  rw [up_40 _ _ hc]
  unfold wM zgood
  rw [zl_U_F, zl_C_F, zl_D_F, zl_T_F, zl_G_F, zl_B_F, zl_Q_F, zl_qn_F, zl_nc_F, zl_nt_F, zl_li_F, zl_wi_F, zl_no_F, zl_bu_F, zl_F_F, zl_P_F]
  rfl
theorem up_good1 (t g : Nat) : upd (zgood S) t (nI g) = zgood (zs_G (zs_T S (va_up (z_T S) t true)) (va_up (z_G S) t g)) := by
  funext j
  show (if j = t then nI g else zgood S j) = if va_up (z_T S) t true j then nI (va_up (z_G S) t g j) else -1
  unfold va_up zgood
  by_cases h : j = t
  · rw [if_pos h, if_pos h, if_pos h, if_pos rfl]
  · rw [if_neg h, if_neg h, if_neg h]
theorem up_good0 (t : Nat) : upd (zgood S) t (-1) = zgood (zs_T S (va_up (z_T S) t false)) := by
  funext j
  show (if j = t then -1 else zgood S j) = if va_up (z_T S) t false j then nI (z_G S j) else -1
  unfold va_up zgood
  by_cases h : j = t
  · rw [if_pos h, if_pos h, if_neg (by decide)]
  · rw [if_neg h, if_neg h]
theorem wM_gset {S' : zS} (h0 : wM cI b S' th = (wM cI b S th).set 6 (b 6, .inl (cI, 12, .inl (zgood S')))) {f : Nat → Int32} (hf : f = zgood S') : (wM cI b S th).set 6 (b 6, .inl (cI, 12, .inl f)) = wM cI b S' th := by
  rw [h0, hf]
theorem wM_a_G1 (t g : Nat) : (wM cI b S th).set 6 (b 6, .inl (cI, 12, .inl (upd (zgood S) t (nI g)))) = wM cI b (zs_G (zs_T S (va_up (z_T S) t true)) (va_up (z_G S) t g)) th := wM_gset rfl (up_good1 t g)
theorem wM_a_G0 (t : Nat) : (wM cI b S th).set 6 (b 6, .inl (cI, 12, .inl (upd (zgood S) t (-1)))) = wM cI b (zs_T S (va_up (z_T S) t false)) th := wM_gset rfl (up_good0 t)
theorem wM_ext {S' : zS} (h1 : z_nc S = z_nc S') (h2 : z_nt S = z_nt S') (h3 : z_li S = z_li S') (h4 : z_wi S = z_wi S') (h5 : z_no S = z_no S') (h6 : z_bu S = z_bu S') (h7 : z_U S = z_U S') (h8 : z_C S = z_C S') (h9 : z_D S = z_D S') (h10 : z_P S = z_P S') (h11 : z_F S = z_F S') (h12 : z_T S = z_T S') (h13 : z_G S = z_G S') (h14 : z_B S = z_B S') (h15 : z_Q S = z_Q S') (h16 : z_qn S = z_qn S') : wM cI b S th = wM cI b S' th := by
  unfold wM zgood
  rw [h1, h2, h3, h4, h5, h6, h7, h8, h9, h10, h11, h12, h13, h14, h15, h16]
theorem up2_same (f : Nat → Nat → Nat) (t c : Nat) : up2 f t c (f t c + 0) = f := by
  funext i j
  unfold up2
  by_cases h : i = t
  · rw [if_pos h]
    by_cases h2 : j = c
    · rw [if_pos h2, h, h2]
      rfl
    · rw [if_neg h2]
  · rw [if_neg h]
theorem wM_PF {S' : zS} {P' F' : Nat → Nat → Nat} (h1 : z_nc S = z_nc S') (h2 : z_nt S = z_nt S') (h3 : z_li S = z_li S') (h4 : z_wi S = z_wi S') (h5 : z_no S = z_no S') (h6 : z_bu S = z_bu S') (h7 : z_U S = z_U S') (h8 : z_C S = z_C S') (h9 : z_D S = z_D S') (h10 : P' = z_P S') (h11 : F' = z_F S') (h12 : z_T S = z_T S') (h13 : z_G S = z_G S') (h14 : z_B S = z_B S') (h15 : z_Q S = z_Q S') (h16 : z_qn S = z_qn S') : wM cI b (zs_F (zs_P S P') F') th = wM cI b S' th := by
  refine wM_ext ?_ ?_ ?_ ?_ ?_ ?_ ?_ ?_ ?_ ?_ ?_ ?_ ?_ ?_ ?_ ?_
  · rw [zl_nc_F, zl_nc_P, h1]
  · rw [zl_nt_F, zl_nt_P, h2]
  · rw [zl_li_F, zl_li_P, h3]
  · rw [zl_wi_F, zl_wi_P, h4]
  · rw [zl_no_F, zl_no_P, h5]
  · rw [zl_bu_F, zl_bu_P, h6]
  · rw [zl_U_F, zl_U_P, h7]
  · rw [zl_C_F, zl_C_P, h8]
  · rw [zl_D_F, zl_D_P, h9]
  · rw [zl_P_F, zl_P_P, h10]
  · rw [zl_F_F, h11]
  · rw [zl_T_F, zl_T_P, h12]
  · rw [zl_G_F, zl_G_P, h13]
  · rw [zl_B_F, zl_B_P, h14]
  · rw [zl_Q_F, zl_Q_P, h15]
  · rw [zl_qn_F, zl_qn_P, h16]
theorem rec_wt (t c : Nat) : wM cI b (zs_F (zs_P S (up2 (z_P S) t c (z_P S t c + 1))) (up2 (z_F S) t c (z_F S t c + 0))) th = wM cI b (srec S t c true) th := by
  rw [up2_same]
  have hP : up2 (z_P S) t c (z_P S t c + 1) = z_P (srec S t c true) := by
    funext i j
    rw [srec_P]
    unfold up2
    by_cases a : i = t <;> by_cases d : j = c <;> simp [a, d]
  have hF : z_F S = z_F (srec S t c true) := by
    funext i j
    rw [srec_F]
    rw [if_neg (fun q => absurd q.2.2 (by decide))]

  exact wM_PF (srec_nc S t c true).symm (srec_nt S t c true).symm (srec_li S t c true).symm (srec_wi S t c true).symm (srec_no S t c true).symm (srec_bu S t c true).symm (srec_U S t c true).symm (srec_C S t c true).symm (srec_D S t c true).symm hP hF (srec_T S t c true).symm (srec_G S t c true).symm (srec_B S t c true).symm (srec_Q S t c true).symm (srec_qn S t c true).symm
theorem rec_wf (t c : Nat) : wM cI b (zs_F (zs_P S (up2 (z_P S) t c (z_P S t c + 0))) (up2 (z_F S) t c (z_F S t c + 1))) th = wM cI b (srec S t c false) th := by
  rw [up2_same]
  have hP : z_P S = z_P (srec S t c false) := by
    funext i j
    rw [srec_P]
    rw [if_neg (fun q => absurd q.2.2 (by decide))]

  have hF : up2 (z_F S) t c (z_F S t c + 1) = z_F (srec S t c false) := by
    funext i j
    rw [srec_F]
    unfold up2
    by_cases a : i = t <;> by_cases d : j = c <;> simp [a, d]
  exact wM_PF (srec_nc S t c false).symm (srec_nt S t c false).symm (srec_li S t c false).symm (srec_wi S t c false).symm (srec_no S t c false).symm (srec_bu S t c false).symm (srec_U S t c false).symm (srec_C S t c false).symm (srec_D S t c false).symm hP hF (srec_T S t c false).symm (srec_G S t c false).symm (srec_B S t c false).symm (srec_Q S t c false).symm (srec_qn S t c false).symm
end MSET
/-! what is reached: the model goes on until nothing is added -/
theorem stp_sub (U : Nat → Nat) (m i : Nat) (h : m.testBit i = true) : ∀ n, (stp U m n).testBit i = true
  | 0 => h
  | n + 1 => by
    show (if m.testBit n then stp U m n ||| U n else stp U m n).testBit i = true
    split
    · rw [Nat.testBit_or, stp_sub U m i h n, Bool.true_or]
    · exact stp_sub U m i h n
def pb (m : Nat) : Nat := ct (fun i => m.testBit i) 16
theorem pb_le (m : Nat) : pb m ≤ 16 := ct_le _ _
theorem b1_mono {b c : Bool} (h : b = true → c = true) : b1 b ≤ b1 c := by
  cases b
  · exact Nat.zero_le _
  · rw [h rfl]
    exact Nat.le_refl _
theorem ct_lt {p q : Nat → Bool} (h : ∀ i, p i = true → q i = true) : ∀ (n : Nat), (∃ i, i < n ∧ p i = false ∧ q i = true) → ct p n < ct q n
  | 0, ⟨i, hi, _⟩ => absurd hi (Nat.not_lt_zero _)
  | n + 1, ⟨i, hi, h1, h2⟩ => by
    rw [ct_s, ct_s]
    have hm := b1_mono (h n)
    by_cases e : i = n
    · subst e
      rw [h1, h2]
      have : ct p i ≤ ct q i := sm_le i (fun j _ => b1_mono (h j))
      show ct p i + 0 < ct q i + 1
      omega
    · have := ct_lt h n ⟨i, by omega, h1, h2⟩
      omega
theorem pb_lt {m w : Nat} (hm : m < 65536) (hw : w < 65536) (hs : ∀ i, m.testBit i = true → w.testBit i = true) (hne : m ≠ w) : pb m < pb w := by
  refine ct_lt hs 16 ?_
  refine Classical.byContradiction fun hn => hne ?_
  refine Nat.eq_of_testBit_eq fun i => ?_
  by_cases hi : i < 16
  · cases a : m.testBit i with
    | true => exact (hs i a).symm
    | false =>
      cases c : w.testBit i with
      | false => rfl
      | true => exact absurd ⟨i, hi, a, c⟩ hn
  · rw [Nat.testBit_lt_two_pow (Nat.lt_of_lt_of_le (show m < 2 ^ 16 from hm) (Nat.pow_le_pow_right (by decide) (show 16 ≤ i by omega))), Nat.testBit_lt_two_pow (Nat.lt_of_lt_of_le (show w < 2 ^ 16 from hw) (Nat.pow_le_pow_right (by decide) (show 16 ≤ i by omega)))]
theorem stp_0 (U : Nat → Nat) : ∀ n, stp U 0 n = 0
  | 0 => rfl
  | n + 1 => by
    show (if (0 : Nat).testBit n then stp U 0 n ||| U n else stp U 0 n) = 0
    rw [Nat.zero_testBit, if_neg (by decide), stp_0 U n]
/-- a bit of a set, as the model asks it -/
theorem n_bit {m k : Nat} (hm : m < 2 ^ 31) (hk : k < 31) : (nI m >>> (nI k &&& 31)) &&& nI 1 = nI (m / 2 ^ k % 2) := by
  have e : ∀ j, j < 31 → ((nI j &&& 31 : Int32).toBitVec.smod 32).toNat = j := by decide +kernel
  rw [pk_shrN hm _ k (e k hk), nx_and, show (1 : Nat) = 2 ^ 1 - 1 from rfl, Nat.and_two_pow_sub_one_eq_mod]
/-! the likeliest suspect: its marks, whichever way one looks for it -/
def zbest (S : zS) (t lo hi b : Nat) : Prop := (b = 0 ∧ ∀ j, lo ≤ j → j < hi → sus S t j = false) ∨ ∃ c, b = c + 1 ∧ lo ≤ c ∧ c < hi ∧ sus S t c = true ∧ ∀ j, lo ≤ j → j < hi → sus S t j = true → zag S t c ≤ zag S t j ∧ (j < c → zag S t c < zag S t j)
theorem zbest_one {S : zS} {t lo hi b b' : Nat} (h : zbest S t lo hi b) (h' : zbest S t lo hi b') : b = b' := by
  rcases h with ⟨e, h⟩ | ⟨c, e, h1, h2, h3, h4⟩ <;> rcases h' with ⟨e', h'⟩ | ⟨c', e', h1', h2', h3', h4'⟩
  · rw [e, e']
  · have := h c' h1' h2'
    rw [h3'] at this
    exact absurd this (by decide)
  · have := h' c h1 h2
    rw [h3] at this
    exact absurd this (by decide)
  · have a1 := h4 c' h1' h2' h3'
    have a2 := h4' c h1 h2 h3
    rcases Nat.lt_trichotomy c c' with q | q | q
    · have := a2.2 q
      omega
    · omega
    · have := a1.2 q
      omega
theorem zlk_best (S : zS) (t lo : Nat) : ∀ n, (∀ j, j < lo → sus S t j = false) → zbest S t lo n (zlk S t n)
  | 0, _ => Or.inl ⟨rfl, fun j _ h => absurd h (Nat.not_lt_zero _)⟩
  | n + 1, hlo => by
    have ih := zlk_best S t lo n hlo
    show zbest S t lo (n + 1) (if sus S t n = true ∧ (zlk S t n = 0 ∨ zag S t n < zag S t (zlk S t n - 1)) then n + 1 else zlk S t n)
    by_cases hs : sus S t n = true
    · have hn : lo ≤ n := Nat.not_lt.mp (fun q => by rw [hlo n q] at hs; exact absurd hs (by decide))
      rcases ih with ⟨e, h⟩ | ⟨c, e, h1, h2, h3, h4⟩
      · rw [if_pos ⟨hs, Or.inl e⟩]
        refine Or.inr ⟨n, rfl, hn, Nat.lt_succ_self _, hs, fun j a b d => ?_⟩
        by_cases q : j = n
        · subst q
          exact ⟨Nat.le_refl _, fun z => absurd z (Nat.lt_irrefl _)⟩
        · rw [h j a (by omega)] at d
          exact absurd d (by decide)
      · rw [e, Nat.add_sub_cancel]
        by_cases q : zag S t n < zag S t c
        · rw [if_pos ⟨hs, Or.inr q⟩]
          refine Or.inr ⟨n, rfl, hn, Nat.lt_succ_self _, hs, fun j a b d => ?_⟩
          by_cases q2 : j = n
          · subst q2
            exact ⟨Nat.le_refl _, fun z => absurd z (Nat.lt_irrefl _)⟩
          · have := (h4 j a (by omega) d).1
            exact ⟨by omega, fun _ => by omega⟩
        · rw [if_neg (fun z => by rcases z.2 with z | z; exact absurd z (Nat.succ_ne_zero c); exact q z)]
          refine Or.inr ⟨c, rfl, h1, by omega, h3, fun j a b d => ?_⟩
          by_cases q2 : j = n
          · subst q2
            exact ⟨by omega, fun z => by omega⟩
          · exact h4 j a (by omega) d
    · rw [if_neg (fun z => hs z.1)]
      rcases ih with ⟨e, h⟩ | ⟨c, e, h1, h2, h3, h4⟩
      · refine Or.inl ⟨e, fun j a b => ?_⟩
        by_cases q : j = n
        · subst q
          cases z : sus S t j
          · rfl
          · exact absurd z hs
        · exact h j a (by omega)
      · refine Or.inr ⟨c, e, h1, by omega, h3, fun j a b d => ?_⟩
        by_cases q : j = n
        · subst q
          exact absurd d hs
        · exact h4 j a (by omega) d
theorem zbest_f {S : zS} {t k hi b : Nat} (h : zbest S t (k + 1) hi b) (hs : ¬ (sus S t k = true ∧ (b = 0 ∨ zag S t k ≤ zag S t (b - 1)))) : zbest S t k hi b := by
  rcases h with ⟨e, h⟩ | ⟨c, e, h1, h2, h3, h4⟩
  · refine Or.inl ⟨e, fun j a b => ?_⟩
    by_cases q : j = k
    · subst q
      cases z : sus S t j
      · rfl
      · exact absurd ⟨z, Or.inl e⟩ hs
    · exact h j (by omega) b
  · refine Or.inr ⟨c, e, by omega, h2, h3, fun j a b d => ?_⟩
    by_cases q : j = k
    · subst q
      subst e
      rw [Nat.add_sub_cancel] at hs
      have : ¬ zag S t j ≤ zag S t c := fun z => hs ⟨d, Or.inr z⟩
      exact ⟨by omega, fun _ => by omega⟩
    · exact h4 j (by omega) b d
theorem zbest_t {S : zS} {t k hi b : Nat} (h : zbest S t (k + 1) hi b) (hk : k < hi) (hs : sus S t k = true) (hb : b = 0 ∨ zag S t k ≤ zag S t (b - 1)) : zbest S t k hi (k + 1) := by
  refine Or.inr ⟨k, rfl, Nat.le_refl _, hk, hs, fun j a b9 d => ?_⟩
  by_cases q : j = k
  · subst q
    exact ⟨Nat.le_refl _, fun z => absurd z (Nat.lt_irrefl _)⟩
  · refine ⟨?_, fun z => by omega⟩
    rcases h with ⟨e, h⟩ | ⟨c, e, h1, h2, h3, h4⟩
    · rw [h j (by omega) b9] at d
      exact absurd d (by decide)
    · subst e
      rw [Nat.add_sub_cancel] at hb
      have := (h4 j (by omega) b9 d).1
      rcases hb with z | z
      · exact absurd z (Nat.succ_ne_zero c)
      · omega
theorem zbest_le {S : zS} {t lo hi b : Nat} (h : zbest S t lo hi b) : b ≤ hi := by
  rcases h with ⟨e, -⟩ | ⟨c, e, -, h2, -⟩ <;> omega
/-- the last candidate, from 1 on -/
def zfd (S : zS) (t : Nat) : Nat → Nat
  | 0 => 0
  | n + 1 => if cnd S t n then n + 1 else zfd S t n
theorem zfd_t {S : zS} {t n b : Nat} (h : cnd S t n = true) : n + 1 = zfd S t (n + 1) := by
  show _ = if cnd S t n then n + 1 else zfd S t n
  rw [if_pos h]
theorem zfd_f {S : zS} {t n b : Nat} (hb : b = zfd S t n) (h : cnd S t n = false) : b = zfd S t (n + 1) := by
  show _ = if cnd S t n then n + 1 else zfd S t n
  rw [if_neg (by rw [h]; decide), hb]
theorem zfd_z {S : zS} {t : Nat} : ∀ n, (∀ i, i < n → cnd S t i = false) → 0 = zfd S t n
  | 0, _ => rfl
  | n + 1, h => zfd_f (zfd_z n (fun i hi => h i (by omega))) (h n (by omega))
theorem zfd_le (S : zS) (t : Nat) : ∀ n, zfd S t n ≤ n
  | 0 => Nat.le_refl _
  | n + 1 => by
    show (if cnd S t n then n + 1 else zfd S t n) ≤ n + 1
    split
    · exact Nat.le_refl _
    · exact Nat.le_succ_of_le (zfd_le S t n)
theorem zfd_at {S : zS} {t : Nat} : ∀ n, 0 < ct (cnd S t) n → ∃ c, c < n ∧ cnd S t c = true ∧ zfd S t n = c + 1
  | 0, h => absurd h (Nat.lt_irrefl _)
  | n + 1, h => by
    rw [ct_s] at h
    cases e : cnd S t n with
    | true => exact ⟨n, Nat.lt_succ_self _, e, (zfd_t (b := 0) e).symm⟩
    | false =>
      rw [e] at h
      obtain ⟨c, h1, h2, h3⟩ := zfd_at n h
      exact ⟨c, by omega, h2, by rw [← h3]; exact (zfd_f rfl e).symm⟩
theorem ct_one {p : Nat → Bool} {i j : Nat} : ∀ n, ct p n = 1 → i < n → j < n → p i = true → p j = true → i = j
  | 0, h, _, _, _, _ => absurd (show (0 : Nat) = 1 from h) (by decide)
  | n + 1, h, hi, hj, pi, pj => by
    rw [ct_s] at h
    by_cases a : i = n <;> by_cases c : j = n
    · omega
    · subst a
      rw [pi] at h
      have h0 : ct p i = 0 := by
        have : b1 true = 1 := rfl
        omega
      have := sm_at (fun i => b1 (p i)) i (show j < i by omega)
      have h1 : b1 (p j) = 1 := by rw [pj]; rfl
      have h2 : sm (fun i => b1 (p i)) i = 0 := h0
      have h3 : (fun i => b1 (p i)) j ≤ sm (fun i => b1 (p i)) i := this
      dsimp only at h3
      omega
    · subst c
      rw [pj] at h
      have h0 : ct p j = 0 := by
        have : b1 true = 1 := rfl
        omega
      have := sm_at (fun i => b1 (p i)) j (show i < j by omega)
      have h1 : b1 (p i) = 1 := by rw [pi]; rfl
      have h2 : sm (fun i => b1 (p i)) j = 0 := h0
      have h3 : (fun i => b1 (p i)) i ≤ sm (fun i => b1 (p i)) j := this
      dsimp only at h3
      omega
    · cases e : p n with
      | true =>
        rw [e] at h
        have h0 : ct p n = 0 := by
          have : b1 true = 1 := rfl
          omega
        have := sm_at (fun i => b1 (p i)) n (show i < n by omega)
        have h1 : b1 (p i) = 1 := by rw [pi]; rfl
        have h2 : sm (fun i => b1 (p i)) n = 0 := h0
        have h3 : (fun i => b1 (p i)) i ≤ sm (fun i => b1 (p i)) n := this
        dsimp only at h3
        omega
      | false =>
        rw [e] at h
        exact ct_one n h (by omega) (by omega) pi pj
/-- an only candidate is the likeliest suspect -/
theorem zonly_eq {S : zS} {t : Nat} (h : zcc S t = 1) : zfd S t (z_B S t + 1) = zlk S t (z_B S t + 1) := by
  obtain ⟨c, h1, h2, h3⟩ := zfd_at (S := S) (t := t) (z_B S t + 1) (by unfold zcc at h; omega)
  rw [h3]
  unfold zcc at h
  have hc : sus S t c = true ∧ zag S t c ≤ z_no S := by
    unfold cnd at h2
    rw [Bool.and_eq_true] at h2
    exact ⟨h2.1, of_decide_eq_true h2.2⟩
  rcases zlk_best S t 0 (z_B S t + 1) (fun j hj => absurd hj (Nat.not_lt_zero _)) with ⟨e, g⟩ | ⟨d, e, g1, g2, g3, g4⟩
  · have := g c (Nat.zero_le _) h1
    rw [hc.1] at this
    exact absurd this (by decide)
  · rw [e]
    have hd : cnd S t d = true := by
      unfold cnd
      rw [g3, decide_eq_true (show zag S t d ≤ z_no S from Nat.le_trans (g4 c (Nat.zero_le _) h1 hc.1).1 hc.2)]
      rfl
    rw [ct_one _ h h1 g2 h2 hd]
theorem sr_cnd {S : zS} {t n : Nat} (h : z_G S t + 1 ≤ n) : sr (fun i => b1 (cnd S t i)) (z_G S t + 1) n = ct (cnd S t) n := by
  have h1 := sr_ct (cnd S t) (z_G S t + 1) n h
  have h2 : ct (cnd S t) (z_G S t + 1) = 0 := sm_z _ (fun i hi => by rw [cnd_lo (by omega)]; rfl)
  omega
