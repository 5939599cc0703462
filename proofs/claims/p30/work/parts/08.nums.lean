/-! ===== plain facts (some rows of kit/laws, turned) ===== -/
theorem nx_and (a b : Nat) : nI a &&& nI b = nI (a &&& b) := by
  apply Int32.toBitVec_inj.1
  show BitVec.ofNat 32 a &&& BitVec.ofNat 32 b = BitVec.ofNat 32 (a &&& b)
  apply BitVec.eq_of_getLsbD_eq
  intro i hi
  simp [hi]
theorem wb_tb (n : Nat) : (lN n).toBitVec = BitVec.ofNat 64 n := rfl
theorem wb_inj {a b : Int64} (h : a.toBitVec = b.toBitVec) : a = b := Int64.toBitVec_inj.mp h
theorem wb_tn {n : Nat} (h : n < 2 ^ 64) : (lN n).toBitVec.toNat = n := by rw [wb_tb, BitVec.toNat_ofNat, Nat.mod_eq_of_lt h]
theorem wb_c : ∀ k, k < 64 → ((nI k).toInt64 &&& 63) = lN k := by decide +kernel
theorem wb_sm : ∀ k, k < 64 → (BitVec.ofNat 64 k).smod 64 = BitVec.ofNat 64 k := by decide +kernel
theorem wb_cu : ∀ k, k < 64 → ((nI k).toInt64.toUInt64 &&& Int64.toUInt64 63) = UInt64.ofNat k := by decide +kernel
theorem wb_shl (n : Nat) {k : Nat} (hk : k < 64) : lN n <<< ((nI k).toInt64 &&& 63) = lN (n * 2 ^ k) := by
  rw [wb_c k hk]
  apply wb_inj
  rw [Int64.toBitVec_shiftLeft, wb_tb, wb_tb, wb_tb, wb_sm k hk]
  apply BitVec.eq_of_toNat_eq
  rw [BitVec.shiftLeft_eq', BitVec.toNat_shiftLeft, BitVec.toNat_ofNat, BitVec.toNat_ofNat, BitVec.toNat_ofNat, Nat.mod_eq_of_lt (show k < 2 ^ 64 by omega), Nat.shiftLeft_eq, Nat.mul_mod, Nat.mod_mod, ← Nat.mul_mod]
theorem wb_shr {n k : Nat} (hn : n < 2 ^ 64) (hk : k < 64) : ((lN n).toUInt64 >>> ((nI k).toInt64.toUInt64 &&& Int64.toUInt64 63)).toInt64 = lN (n / 2 ^ k) := by
  rw [wb_cu k hk]
  apply wb_inj
  apply BitVec.eq_of_toNat_eq
  show ((lN n).toUInt64 >>> UInt64.ofNat k).toNat = (BitVec.ofNat 64 _).toNat
  have h1 : (UInt64.ofNat k).toNat = k := by
    show (BitVec.ofNat 64 k).toNat = k
    rw [BitVec.toNat_ofNat, Nat.mod_eq_of_lt (by omega)]
  have h2 : (lN n).toUInt64.toNat = n := wb_tn hn
  rw [UInt64.toNat_shiftRight, h1, h2, Nat.mod_eq_of_lt hk, Nat.shiftRight_eq_div_pow, BitVec.toNat_ofNat, Nat.mod_eq_of_lt (Nat.lt_of_le_of_lt (Nat.div_le_self _ _) hn)]
theorem wb_and {a b : Nat} (ha : a < 2 ^ 64) (hb : b < 2 ^ 64) : lN a &&& lN b = lN (a &&& b) := by
  apply wb_inj
  rw [Int64.toBitVec_and, wb_tb, wb_tb, wb_tb]
  apply BitVec.eq_of_toNat_eq
  rw [BitVec.toNat_and, BitVec.toNat_ofNat, BitVec.toNat_ofNat, BitVec.toNat_ofNat, Nat.mod_eq_of_lt ha, Nat.mod_eq_of_lt hb, Nat.mod_eq_of_lt (Nat.and_lt_two_pow _ hb)]
theorem wb_or {a b : Nat} (ha : a < 2 ^ 64) (hb : b < 2 ^ 64) : lN a ||| lN b = lN (a ||| b) := by
  apply wb_inj
  rw [Int64.toBitVec_or, wb_tb, wb_tb, wb_tb]
  apply BitVec.eq_of_toNat_eq
  rw [BitVec.toNat_or, BitVec.toNat_ofNat, BitVec.toNat_ofNat, BitVec.toNat_ofNat, Nat.mod_eq_of_lt ha, Nat.mod_eq_of_lt hb, Nat.mod_eq_of_lt (Nat.or_lt_two_pow ha hb)]
theorem pf_lI {a : Nat} (h : a < 2 ^ 63) : (lN a).toInt = (a : Int) := lg_ofNat_toInt h
theorem pf_shr {a d : Nat} {D : Int64} (hD : (D.toBitVec.smod 64).toNat = d) (h : a < 2 ^ 62) : lN a >>> D = lN (a / 2 ^ d) := by
  have hd : a / 2 ^ d ≤ a := Nat.div_le_self _ _
  apply Int64.toInt_inj.mp
  have e : (lN a >>> D).toInt = (lN a).toInt >>> d := by
    rw [← hD]
    exact BitVec.toInt_sshiftRight ..
  rw [e, Int.shiftRight_eq_div_pow, pf_lI (by omega), pf_lI (by omega)]
  rfl
theorem nx_or (a b : Nat) : nI a ||| nI b = nI (a ||| b) := by
  apply Int32.toBitVec_inj.1
  show BitVec.ofNat 32 a ||| BitVec.ofNat 32 b = BitVec.ofNat 32 (a ||| b)
  apply BitVec.eq_of_getLsbD_eq
  intro i hi
  simp [hi]
theorem lx_or (a b : Nat) : lN a ||| lN b = lN (a ||| b) := by
  apply Int64.toBitVec_inj.1
  show BitVec.ofNat 64 a ||| BitVec.ofNat 64 b = BitVec.ofNat 64 (a ||| b)
  apply BitVec.eq_of_getLsbD_eq
  intro i hi
  simp [hi]
theorem n_dec {n : Nat} (h : 0 < n) : nI n + Int32.ofInt (-1) = nI (n - 1) := by
  obtain ⟨k, rfl⟩ : ∃ k, n = k + 1 := ⟨n - 1, by omega⟩
  exact pk_m1 k
theorem n_ne0 {n : Nat} (h : 0 < n) (h2 : n < 2 ^ 31) : ¬ nI n = 0 := nI_ne0 h h2
theorem n_shl1 {k : Nat} (h : k < 31) : nI 1 <<< (nI k &&& 31) = nI (2 ^ k) := by
  have e : ∀ j, j < 31 → nI 1 <<< (nI j &&& 31) = nI (2 ^ j) := by decide +kernel
  exact e k h
theorem l_shl1 {k : Nat} (h : k < 64) : lN 1 <<< ((nI k).toInt64 &&& 63) = lN (2 ^ k) := by
  rw [wb_shl 1 h, Nat.one_mul]
theorem zout_at {a : Nat → Nat} {b i : Nat} (h : i < 12) : zout a b i = some (a (b + i)) := if_pos h
theorem lt12 {t : Nat} (h : t < 12) : t = 0 ∨ t = 1 ∨ t = 2 ∨ t = 3 ∨ t = 4 ∨ t = 5 ∨ t = 6 ∨ t = 7 ∨ t = 8 ∨ t = 9 ∨ t = 10 ∨ t = 11 := by omega
section LOOK
variable {cI cZ cQ : ClassId} {a : Nat → Nat} {S : zS}
theorem wX_row_rC {t : Nat} (h : t < 12) : (wX cI cZ cQ a S)[14 + t]? = some (a (20 + t), .inl (cI, 200, .inl (fun j => nI (z_rC S t j)))) := by
  rcases lt12 h with rfl | rfl | rfl | rfl | rfl | rfl | rfl | rfl | rfl | rfl | rfl | rfl <;> rfl
theorem wX_row_rP {t : Nat} (h : t < 12) : (wX cI cZ cQ a S)[26 + t]? = some (a (40 + t), .inl (cI, 200, .inl (fun j => nI (z_rP S t j)))) := by
  rcases lt12 h with rfl | rfl | rfl | rfl | rfl | rfl | rfl | rfl | rfl | rfl | rfl | rfl <;> rfl
theorem wX_row_P {t : Nat} (h : t < 12) : (wX cI cZ cQ a S)[38 + t]? = some (a (60 + t), .inl (cI, 40, .inl (fun j => nI (z_P S t j)))) := by
  rcases lt12 h with rfl | rfl | rfl | rfl | rfl | rfl | rfl | rfl | rfl | rfl | rfl | rfl <;> rfl
theorem wX_row_F {t : Nat} (h : t < 12) : (wX cI cZ cQ a S)[50 + t]? = some (a (80 + t), .inl (cI, 40, .inl (fun j => nI (z_F S t j)))) := by
  rcases lt12 h with rfl | rfl | rfl | rfl | rfl | rfl | rfl | rfl | rfl | rfl | rfl | rfl <;> rfl
end LOOK
theorem up_nI (f : Nat → Nat) (k v : Nat) : upd (fun j => nI (f j)) k (nI v) = fun j => nI (va_up f k v j) := by
  funext j
  unfold upd va_up
  by_cases h : j = k
  · rw [if_pos h, if_pos h]
  · rw [if_neg h, if_neg h]
theorem up_bI (f : Nat → Bool) (k : Nat) (v : Bool) : upd (fun j => bI (f j)) k (bI v) = fun j => bI (va_up f k v j) := by
  funext j
  unfold upd va_up
  by_cases h : j = k
  · rw [if_pos h, if_pos h]
  · rw [if_neg h, if_neg h]
/-! sums -/
def sr (f : Nat → Nat) (lo hi : Nat) : Nat := sm (fun i => if lo ≤ i then f i else 0) hi
theorem sr_0 (f : Nat → Nat) : ∀ (hi lo : Nat), hi ≤ lo → sr f lo hi = 0
  | 0, lo, _ => rfl
  | n + 1, lo, h => by
    show sr f lo n + (if lo ≤ n then f n else 0) = 0
    rw [sr_0 f n lo (by omega), if_neg (by omega)]
theorem sr_s (f : Nat → Nat) {lo hi : Nat} (h : lo ≤ hi) : sr f lo (hi + 1) = sr f lo hi + f hi := by
  show sr f lo hi + (if lo ≤ hi then f hi else 0) = _
  rw [if_pos h]
theorem sm_le {f g : Nat → Nat} : ∀ n, (∀ i, i < n → f i ≤ g i) → sm f n ≤ sm g n
  | 0, _ => Nat.le_refl _
  | n + 1, h => Nat.add_le_add (sm_le n (fun i hi => h i (by omega))) (h n (by omega))
theorem sm_cg {f g : Nat → Nat} : ∀ n, (∀ i, i < n → f i = g i) → sm f n = sm g n
  | 0, _ => rfl
  | n + 1, h => by
    show sm f n + f n = sm g n + g n
    rw [sm_cg n (fun i hi => h i (by omega)), h n (by omega)]
theorem sm_add (f g : Nat → Nat) : ∀ n, sm (fun i => f i + g i) n = sm f n + sm g n
  | 0 => rfl
  | n + 1 => by
    show sm (fun i => f i + g i) n + (f n + g n) = sm f n + f n + (sm g n + g n)
    rw [sm_add f g n]
    omega
theorem sm_c (c : Nat) : ∀ n, sm (fun _ => c) n = n * c
  | 0 => by rw [Nat.zero_mul]; rfl
  | n + 1 => by
    show sm (fun _ => c) n + c = _
    rw [sm_c c n, Nat.succ_mul]
theorem sm_z {f : Nat → Nat} (n : Nat) (h : ∀ i, i < n → f i = 0) : sm f n = 0 := by
  rw [sm_cg (g := fun _ => 0) n h, sm_c, Nat.mul_zero]
theorem sm_mono (f : Nat → Nat) (m : Nat) : ∀ n, m ≤ n → sm f m ≤ sm f n
  | 0, h => by
    have : m = 0 := by omega
    subst this
    exact Nat.le_refl _
  | n + 1, h => by
    by_cases e : m = n + 1
    · subst e
      exact Nat.le_refl _
    · exact Nat.le_trans (sm_mono f m n (by omega)) (Nat.le_add_right _ _)
theorem sm_at (f : Nat → Nat) {i : Nat} : ∀ n, i < n → f i ≤ sm f n
  | 0, h => absurd h (Nat.not_lt_zero _)
  | n + 1, h => by
    by_cases e : i = n
    · subst e
      exact Nat.le_add_left _ _
    · exact Nat.le_trans (sm_at f n (by omega)) (Nat.le_add_right _ _)
theorem sm_swap (f : Nat → Nat → Nat) (m : Nat) : ∀ n, sm (fun i => sm (f i) m) n = sm (fun j => sm (fun i => f i j) n) m
  | 0 => (sm_z m (fun _ _ => rfl)).symm
  | n + 1 => by
    show sm (fun i => sm (f i) m) n + sm (f n) m = sm (fun j => sm (fun i => f i j) n + f n j) m
    rw [sm_swap f m n, sm_add]
theorem sr_le_sm (f : Nat → Nat) (lo hi n : Nat) (h : hi ≤ n) : sr f lo hi ≤ sm f n :=
  Nat.le_trans (sm_le hi (fun i _ => by show (if lo ≤ i then f i else 0) ≤ f i; split <;> omega)) (sm_mono f hi n h)
theorem b1_t : b1 true = 1 := rfl
theorem b1_f : b1 false = 0 := rfl
theorem b1_le (b : Bool) : b1 b ≤ 1 := by cases b <;> decide
theorem ct_s (p : Nat → Bool) (n : Nat) : ct p (n + 1) = ct p n + b1 (p n) := rfl
theorem ct_le (p : Nat → Bool) (n : Nat) : ct p n ≤ n := by
  have h := sm_le (f := fun i => b1 (p i)) (g := fun _ => 1) n (fun i _ => b1_le (p i))
  rw [sm_c, Nat.mul_one] at h
  exact h
theorem ct_cg {p q : Nat → Bool} (n : Nat) (h : ∀ i, i < n → p i = q i) : ct p n = ct q n := sm_cg n (fun i hi => by rw [h i hi])
theorem ct_mono (p : Nat → Bool) (m n : Nat) (h : m ≤ n) : ct p m ≤ ct p n := sm_mono _ m n h
/-- one place alone counts, and that just where p holds -/
theorem sm_one (c : Nat) : ∀ n, sm (fun i => b1 (decide (c = i))) n = if c < n then 1 else 0
  | 0 => rfl
  | n + 1 => by
    show sm (fun i => b1 (decide (c = i))) n + b1 (decide (c = n)) = _
    rw [sm_one c n]
    by_cases h : c = n
    · subst h
      rw [if_neg (Nat.lt_irrefl _), if_pos (Nat.lt_succ_self _), decide_eq_true rfl]
      rfl
    · rw [decide_eq_false h]
      by_cases h2 : c < n
      · rw [if_pos h2, if_pos (by omega)]
        rfl
      · rw [if_neg h2, if_neg (by omega)]
        rfl
theorem zsm_s {F : Nat → Nat} {f n : Nat} (h : f = sm F n) : f + F n = sm F (n + 1) := by rw [h]; rfl
theorem zsr_s {F : Nat → Nat} {f lo n : Nat} (h : f = sr F lo n) (hl : lo ≤ n) : f + F n = sr F lo (n + 1) := by rw [sr_s F hl, h]
theorem zct_t {p : Nat → Bool} {f n : Nat} (h : f = ct p n) (hp : p n = true) : f + 1 = ct p (n + 1) := by rw [ct_s, hp, h]; rfl
theorem zct_f {p : Nat → Bool} {f n : Nat} (h : f = ct p n) (hp : p n = false) : f = ct p (n + 1) := by rw [ct_s, hp, h]; rfl
/-! what zOK says of the counts -/
theorem zP_le {S : zS} (h : zOK S) (t c : Nat) : z_P S t c ≤ 200 := by
  obtain ⟨-, -, -, -, h5, h6⟩ := h
  rw [(h6 t c).1]
  exact Nat.le_trans (ct_le _ _) (h5 t).1
theorem zF_le {S : zS} (h : zOK S) (t c : Nat) : z_F S t c ≤ 200 := by
  obtain ⟨-, -, -, -, h5, h6⟩ := h
  rw [(h6 t c).2]
  exact Nat.le_trans (ct_le _ _) (h5 t).1
/-- the runs of a test, counted by commits: those that passed and those that failed -/
theorem zPF_sum {S : zS} (h : zOK S) (t : Nat) : sm (z_P S t) 40 + sm (z_F S t) 40 = z_R S t := by
  obtain ⟨-, -, -, -, h5, h6⟩ := h
  rw [sm_cg 40 (fun c _ => (h6 t c).1), sm_cg 40 (fun c _ => (h6 t c).2), ← sm_add]
  have e : ∀ c, ct (hit S t c 1) (z_R S t) + ct (hit S t c 0) (z_R S t) = sm (fun r => b1 (hit S t c 1 r) + b1 (hit S t c 0 r)) (z_R S t) := fun c => (sm_add _ _ _).symm
  rw [sm_cg 40 (fun c _ => e c), sm_swap (fun c r => b1 (hit S t c 1 r) + b1 (hit S t c 0 r)) (z_R S t) 40]
  have e2 : ∀ r, r < z_R S t → sm (fun c => b1 (hit S t c 1 r) + b1 (hit S t c 0 r)) 40 = 1 := by
    intro r hr
    obtain ⟨q1, q2⟩ := (h5 t).2 r hr
    have e3 : ∀ c, c < 40 → b1 (hit S t c 1 r) + b1 (hit S t c 0 r) = b1 (decide (z_rC S t r = c)) := by
      intro c _
      unfold hit
      rcases (show z_rP S t r = 0 ∨ z_rP S t r = 1 by omega) with z | z <;> rw [z] <;> by_cases y : z_rC S t r = c <;> simp [y, b1]
    rw [sm_cg 40 e3, sm_one, if_pos q1]
  rw [sm_cg _ e2, sm_c, Nat.mul_one]
theorem zP_sum {S : zS} (h : zOK S) (t lo hi : Nat) (hh : hi ≤ 40) : sr (z_P S t) lo hi ≤ 200 := by
  have h1 := zPF_sum h t
  have h2 := sr_le_sm (z_P S t) lo hi 40 hh
  have h3 := (h.2.2.2.2.1 t).1
  omega
theorem zF_sum {S : zS} (h : zOK S) (t lo hi : Nat) (hh : hi ≤ 40) : sr (z_F S t) lo hi ≤ 200 := by
  have h1 := zPF_sum h t
  have h2 := sr_le_sm (z_F S t) lo hi 40 hh
  have h3 := (h.2.2.2.2.1 t).1
  omega
