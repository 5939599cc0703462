/-! ===== how many bits are set: the sums by pairs, fours and bytes ===== -/
def mk (c : Nat) : Nat → Nat
  | 0 => 0
  | k + 1 => 256 * mk c k + c
def g1 (k n : Nat) : Nat := n - (n / 2 ^ 1 &&& mk 85 k)
def g2 (k x : Nat) : Nat := (x &&& mk 51 k) + (x / 2 ^ 2 &&& mk 51 k)
def g3 (k x : Nat) : Nat := (x + x / 2 ^ 4) &&& mk 15 k
def h1 (b : Nat) : Nat := b - (b / 2 ^ 1 &&& 85)
def h2 (x : Nat) : Nat := (x &&& 51) + (x / 2 ^ 2 &&& 51)
def h3 (x : Nat) : Nat := (x + x / 2 ^ 4) &&& 15
def pop (n : Nat) : Nat := ct (fun i => n.testBit i) 64
theorem tb256 (h : Nat) {b : Nat} (hb : b < 256) (j : Nat) : (256 * h + b).testBit j = if j < 8 then b.testBit j else h.testBit (j - 8) := Nat.testBit_two_pow_mul_add (i := 8) h hb j
theorem and_256 (h M : Nat) {b c : Nat} (s : Nat) (hb : b < 256) (hc : c < 256) (hz : ∀ i, 8 ≤ i + s → i < 8 → c.testBit i = false) : ((256 * h + b) / 2 ^ s &&& (256 * M + c)) = 256 * (h / 2 ^ s &&& M) + (b / 2 ^ s &&& c) := by
  have hz2 : (b / 2 ^ s &&& c) < 256 := Nat.lt_of_le_of_lt Nat.and_le_right hc
  apply Nat.eq_of_testBit_eq
  intro j
  rw [Nat.testBit_and, Nat.testBit_div_two_pow, tb256 h hb, tb256 M hc, tb256 _ hz2, Nat.testBit_and, Nat.testBit_and, Nat.testBit_div_two_pow, Nat.testBit_div_two_pow]
  by_cases q : j < 8
  · rw [if_pos q, if_pos q]
    by_cases q2 : j + s < 8
    · rw [if_pos q2]
    · rw [hz j (by omega) q, Bool.and_false, Bool.and_false]
  · rw [if_neg q, if_neg q, if_neg (show ¬ j + s < 8 by omega), show j + s - 8 = j - 8 + s by omega]
theorem hz85 : ∀ i, 8 ≤ i + 1 → i < 8 → (85 : Nat).testBit i = false := by
  have e : ∀ i, i < 8 → 8 ≤ i + 1 → (85 : Nat).testBit i = false := by decide
  exact fun i a b => e i b a
theorem hz51 : ∀ i, 8 ≤ i + 2 → i < 8 → (51 : Nat).testBit i = false := by
  have e : ∀ i, i < 8 → 8 ≤ i + 2 → (51 : Nat).testBit i = false := by decide
  exact fun i a b => e i b a
theorem hz0 {c : Nat} : ∀ i, 8 ≤ i + 0 → i < 8 → c.testBit i = false := fun i a b => absurd a (by omega)
theorem g1_s (k h : Nat) {b : Nat} (hb : b < 256) : g1 (k + 1) (256 * h + b) = 256 * g1 k h + h1 b := by
  unfold g1 h1
  rw [show mk 85 (k + 1) = 256 * mk 85 k + 85 from rfl]
  rw [and_256 h (mk 85 k) 1 hb (by decide) hz85]
  have a1 : (h / 2 ^ 1 &&& mk 85 k) ≤ h := Nat.le_trans Nat.and_le_left (Nat.div_le_self _ _)
  have a2 : (b / 2 ^ 1 &&& 85) ≤ b := Nat.le_trans Nat.and_le_left (Nat.div_le_self _ _)
  omega
theorem g2_s (k h : Nat) {b : Nat} (hb : b < 256) : g2 (k + 1) (256 * h + b) = 256 * g2 k h + h2 b := by
  unfold g2 h2
  rw [show mk 51 (k + 1) = 256 * mk 51 k + 51 from rfl]
  have e := and_256 h (mk 51 k) 0 hb (c := 51) (by decide) hz0
  rw [Nat.pow_zero, Nat.div_one, Nat.div_one, Nat.div_one] at e
  rw [e, and_256 h (mk 51 k) 2 hb (by decide) hz51]
  omega
theorem g3_s (k h : Nat) {b : Nat} (hb : b < 256) (h4 : h % 16 ≤ 4) (b4 : b % 16 ≤ 4) (b5 : b / 16 ≤ 4) : g3 (k + 1) (256 * h + b) = 256 * g3 k h + h3 b := by
  unfold g3 h3
  rw [show mk 15 (k + 1) = 256 * mk 15 k + 15 from rfl]
  have e : 256 * h + b + (256 * h + b) / 2 ^ 4 = 256 * (h + h / 2 ^ 4) + (b + b / 16 + 16 * (h % 16)) := by omega
  have e2 : b + b / 16 + 16 * (h % 16) < 256 := by omega
  have e3 := and_256 (h + h / 2 ^ 4) (mk 15 k) 0 e2 (c := 15) (by decide) hz0
  rw [Nat.pow_zero, Nat.div_one, Nat.div_one, Nat.div_one] at e3
  rw [e, e3]
  have e4 : (b + b / 16 + 16 * (h % 16) &&& 15) = (b + b / 2 ^ 4 &&& 15) := by
    rw [show (15 : Nat) = 2 ^ 4 - 1 from rfl, Nat.and_two_pow_sub_one_eq_mod, Nat.and_two_pow_sub_one_eq_mod]
    omega
  rw [e4]
theorem byte_1 : ∀ b, b < 256 → h1 b < 256 ∧ h2 (h1 b) < 256 ∧ h2 (h1 b) % 16 ≤ 4 ∧ h2 (h1 b) / 16 ≤ 4 ∧ h3 (h2 (h1 b)) = ct (fun i => b.testBit i) 8 ∧ ct (fun i => b.testBit i) 8 ≤ 8 := by decide +kernel
theorem nib (k h : Nat) : g2 k (g1 k h) % 16 ≤ 4 := by
  cases k with
  | zero =>
    have e : g2 0 (g1 0 h) = 0 := by
      unfold g2 mk
      rw [Nat.and_zero, Nat.and_zero]
    rw [e]
    omega
  | succ k =>
    have hb : h % 256 < 256 := Nat.mod_lt _ (by decide)
    have e : h = 256 * (h / 256) + h % 256 := by omega
    obtain ⟨q1, q2, q3, -⟩ := byte_1 _ hb
    rw [e, g1_s k _ hb, g2_s k _ q1]
    omega
theorem G_s (k h : Nat) {b : Nat} (hb : b < 256) : g3 (k + 1) (g2 (k + 1) (g1 (k + 1) (256 * h + b))) = 256 * g3 k (g2 k (g1 k h)) + ct (fun i => b.testBit i) 8 := by
  obtain ⟨q1, q2, q3, q4, q5, -⟩ := byte_1 b hb
  rw [g1_s k h hb, g2_s k _ q1, g3_s k _ q2 (nib k h) q3 q4, q5]
theorem sm_split (f : Nat → Nat) (m : Nat) : ∀ n, sm f (m + n) = sm f m + sm (fun i => f (m + i)) n
  | 0 => rfl
  | n + 1 => by
    show sm f (m + n) + f (m + n) = sm f m + (sm (fun i => f (m + i)) n + f (m + n))
    rw [sm_split f m n]
    omega
theorem pop_s (h k : Nat) {b : Nat} (hb : b < 256) : ct (fun i => (256 * h + b).testBit i) (8 + k) = ct (fun i => b.testBit i) 8 + ct (fun i => h.testBit i) k := by
  unfold ct
  rw [sm_split]
  congr 1
  · exact sm_cg 8 (fun i hi => by dsimp only; rw [tb256 h hb, if_pos hi])
  · exact sm_cg k (fun i _ => by dsimp only; rw [tb256 h hb, if_neg (by omega), Nat.add_sub_cancel_left])
theorem byte_of (n : Nat) : n = 256 * (n / 256) + n % 256 ∧ n % 256 < 256 := ⟨by omega, Nat.mod_lt _ (by decide)⟩
theorem ct_8 (b : Nat) (hb : b < 256) : ct (fun i => b.testBit i) 8 ≤ 8 := (byte_1 b hb).2.2.2.2.2
theorem pop_G {n : Nat} : ∃ c0 c1 c2 c3 c4 c5 c6 c7 : Nat, c0 ≤ 8 ∧ c1 ≤ 8 ∧ c2 ≤ 8 ∧ c3 ≤ 8 ∧ c4 ≤ 8 ∧ c5 ≤ 8 ∧ c6 ≤ 8 ∧ c7 ≤ 8 ∧ pop n = c0 + c1 + c2 + c3 + c4 + c5 + c6 + c7 ∧ g3 8 (g2 8 (g1 8 n)) = c0 + 256 * c1 + 65536 * c2 + 16777216 * c3 + 4294967296 * c4 + 1099511627776 * c5 + 281474976710656 * c6 + 72057594037927936 * c7 := by
  have st : ∀ (k m : Nat), ∃ c, c ≤ 8 ∧ ct (fun i => m.testBit i) (8 + k) = c + ct (fun i => (m / 256).testBit i) k ∧ ∀ j, g3 (j + 1) (g2 (j + 1) (g1 (j + 1) m)) = 256 * g3 j (g2 j (g1 j (m / 256))) + c := by
    intro k m
    obtain ⟨e, hb⟩ := byte_of m
    refine ⟨ct (fun i => (m % 256).testBit i) 8, ct_8 _ hb, ?_, fun j => ?_⟩
    · have := pop_s (m / 256) k hb
      rw [← e] at this
      exact this
    · have := G_s j (m / 256) hb
      rw [← e] at this
      exact this
  obtain ⟨c0, a0, p0, q0⟩ := st 56 n
  obtain ⟨c1, a1, p1, q1⟩ := st 48 (n / 256)
  obtain ⟨c2, a2, p2, q2⟩ := st 40 (n / 256 / 256)
  obtain ⟨c3, a3, p3, q3⟩ := st 32 (n / 256 / 256 / 256)
  obtain ⟨c4, a4, p4, q4⟩ := st 24 (n / 256 / 256 / 256 / 256)
  obtain ⟨c5, a5, p5, q5⟩ := st 16 (n / 256 / 256 / 256 / 256 / 256)
  obtain ⟨c6, a6, p6, q6⟩ := st 8 (n / 256 / 256 / 256 / 256 / 256 / 256)
  obtain ⟨c7, a7, p7, q7⟩ := st 0 (n / 256 / 256 / 256 / 256 / 256 / 256 / 256)
  have z : ∀ x : Nat, g3 0 (g2 0 (g1 0 x)) = 0 := fun x => by
    unfold g3 mk
    rw [Nat.and_zero]
  have z2 : ∀ f : Nat → Bool, ct f 0 = 0 := fun _ => rfl
  refine ⟨c0, c1, c2, c3, c4, c5, c6, c7, a0, a1, a2, a3, a4, a5, a6, a7, ?_, ?_⟩
  · unfold pop
    rw [show (64 : Nat) = 8 + 56 from rfl, p0, show (56 : Nat) = 8 + 48 from rfl, p1, show (48 : Nat) = 8 + 40 from rfl, p2, show (40 : Nat) = 8 + 32 from rfl, p3, show (32 : Nat) = 8 + 24 from rfl, p4, show (24 : Nat) = 8 + 16 from rfl, p5, show (16 : Nat) = 8 + 8 from rfl, p6, show (8 : Nat) = 8 + 0 from rfl, p7, z2]
    omega
  · rw [q0 7, q1 6, q2 5, q3 4, q4 3, q5 2, q6 1, q7 0, z]
    omega
def g4 (x : Nat) : Nat := x + x / 2 ^ 8
def g5 (x : Nat) : Nat := x + x / 2 ^ 16
def g6 (x : Nat) : Nat := x + x / 2 ^ 32
theorem pop_eq (n : Nat) : (g6 (g5 (g4 (g3 8 (g2 8 (g1 8 n))))) &&& 127) = pop n ∧ g3 8 (g2 8 (g1 8 n)) ≤ 600000000000000000 := by
  obtain ⟨c0, c1, c2, c3, c4, c5, c6, c7, a0, a1, a2, a3, a4, a5, a6, a7, hp, hg⟩ := pop_G (n := n)
  rw [hg, hp, show (127 : Nat) = 2 ^ 7 - 1 from rfl, Nat.and_two_pow_sub_one_eq_mod]
  refine ⟨?_, by omega⟩
  have e4 : g4 (c0 + 256 * c1 + 65536 * c2 + 16777216 * c3 + 4294967296 * c4 + 1099511627776 * c5 + 281474976710656 * c6 + 72057594037927936 * c7) = (c0 + c1) + 256 * (c1 + c2) + 65536 * (c2 + c3) + 16777216 * (c3 + c4) + 4294967296 * (c4 + c5) + 1099511627776 * (c5 + c6) + 281474976710656 * (c6 + c7) + 72057594037927936 * c7 := by
    unfold g4
    omega
  rw [e4]
  have e5 : ∀ d0 d1 d2 d3 d4 d5 d6 d7 : Nat, d0 ≤ 16 → d1 ≤ 16 → d2 ≤ 16 → d3 ≤ 16 → d4 ≤ 16 → d5 ≤ 16 → d6 ≤ 16 → d7 ≤ 16 → g5 (d0 + 256 * d1 + 65536 * d2 + 16777216 * d3 + 4294967296 * d4 + 1099511627776 * d5 + 281474976710656 * d6 + 72057594037927936 * d7) = (d0 + d2) + 256 * (d1 + d3) + 65536 * (d2 + d4) + 16777216 * (d3 + d5) + 4294967296 * (d4 + d6) + 1099511627776 * (d5 + d7) + 281474976710656 * d6 + 72057594037927936 * d7 := by
    intro d0 d1 d2 d3 d4 d5 d6 d7 _ _ _ _ _ _ _ _
    unfold g5
    omega
  rw [e5 _ _ _ _ _ _ _ _ (by omega) (by omega) (by omega) (by omega) (by omega) (by omega) (by omega) (by omega)]
  have e6 : ∀ d0 d1 d2 d3 d4 d5 d6 d7 : Nat, d0 ≤ 32 → d1 ≤ 32 → d2 ≤ 32 → d3 ≤ 32 → d4 ≤ 32 → d5 ≤ 32 → d6 ≤ 32 → d7 ≤ 32 → d0 + d4 < 128 → g6 (d0 + 256 * d1 + 65536 * d2 + 16777216 * d3 + 4294967296 * d4 + 1099511627776 * d5 + 281474976710656 * d6 + 72057594037927936 * d7) % 2 ^ 7 = d0 + d4 := by
    intro d0 d1 d2 d3 d4 d5 d6 d7 _ _ _ _ _ _ _ _ _
    have q : (d0 + 256 * d1 + 65536 * d2 + 16777216 * d3 + 4294967296 * d4 + 1099511627776 * d5 + 281474976710656 * d6 + 72057594037927936 * d7) / 2 ^ 32 = d4 + 256 * d5 + 65536 * d6 + 16777216 * d7 := by omega
    unfold g6
    rw [q]
    have q2 : d0 + 256 * d1 + 65536 * d2 + 16777216 * d3 + 4294967296 * d4 + 1099511627776 * d5 + 281474976710656 * d6 + 72057594037927936 * d7 + (d4 + 256 * d5 + 65536 * d6 + 16777216 * d7) = (d0 + d4) + 128 * (2 * d1 + 512 * d2 + 131072 * d3 + 33554432 * d4 + 8589934592 * d5 + 2199023255552 * d6 + 562949953421312 * d7 + (2 * d5 + 512 * d6 + 131072 * d7)) := by omega
    rw [q2, show (2 : Nat) ^ 7 = 128 from rfl, Nat.add_mul_mod_self_left]
    exact Nat.mod_eq_of_lt (by omega)
  rw [e6 _ _ _ _ _ _ _ _ (by omega) (by omega) (by omega) (by omega) (by omega) (by omega) (by omega) (by omega) (by omega)]
  omega
theorem g1_le (k n : Nat) : g1 k n ≤ n := Nat.sub_le _ _
theorem mk51 : mk 51 8 = 3689348814741910323 := by decide +kernel
theorem mk85 : mk 85 8 = 6148914691236517205 := by decide +kernel
theorem mk15 : mk 15 8 = 1085102592571150095 := by decide +kernel
theorem g2_le (n : Nat) : g2 8 n ≤ 7378697629483820646 := by
  unfold g2
  rw [mk51]
  have a1 : (n &&& 3689348814741910323) ≤ 3689348814741910323 := Nat.and_le_right
  have a2 : (n / 2 ^ 2 &&& 3689348814741910323) ≤ 3689348814741910323 := Nat.and_le_right
  omega
theorem g1_L {n : Nat} (hn : n < 2 ^ 64) : lN n - lN (n / 2 ^ 1 &&& 6148914691236517205) = lN (g1 8 n) := by
  unfold g1
  rw [mk85]
  exact lN_sub (Nat.le_trans Nat.and_le_left (Nat.div_le_self _ _))
theorem g2_L (n : Nat) : lN (n &&& 3689348814741910323) + lN (n / 2 ^ 2 &&& 3689348814741910323) = lN (g2 8 n) := by
  unfold g2
  rw [mk51]
  exact lN_add _ _
theorem g3_L {n : Nat} (hn : n ≤ 7378697629483820646) : lN (n + n / 2 ^ 4) &&& lN 1085102592571150095 = lN (g3 8 n) := by
  unfold g3
  rw [mk15]
  exact wb_and (by omega) (by decide)
theorem pop_64 (n : Nat) : pop n ≤ 64 := ct_le _ _
set_option maxHeartbeats 4000000 in
set_option maxRecDepth 100000 in
theorem x_J13_bitCount_95d88 (l : Launch) (D : va_G) (cI cZ cQ cJ : ClassId) (n : Nat) (hn : n < 2 ^ 64)  : v_Rdi l yJ13_bitCount_95d88 wsJ13_bitCount_95d88 { frames := 0, cells := 0, slots := 0, locals := 0 } D (wTy cI cZ cQ cJ) [.long (lN (n))] [] (nI (pop n)) := by
  refine v_reader (cc := cJ13_bitCount_95d88) (maxL := 2) (ret := (some .int)) (own := RJ13) (lv0 := [(0, .long (lN (n)))]) (by decide) rfl rfl (Nat.le_of_ble_eq_true rfl) rfl ?_
  intro p9 e9 s9 m9 as9 bl9 me9 cd9 E hr
  have b1n := Nat.lt_of_le_of_lt (g1_le 8 n) hn
  have b2n := g2_le (g1 8 n)
  obtain ⟨hpop, b3n⟩ := pop_eq n
  refine v_lload_n E dJ13_bitCount_95d88_0 0 rfl rfl ?_
  refine v_lload_n E dJ13_bitCount_95d88_1 0 rfl rfl ?_
  refine v_iconst E dJ13_bitCount_95d88_2 (v := nI 1) rfl ?_
  refine v_lushr E dJ13_bitCount_95d88_3 (z := lN (n / 2 ^ 1)) (wb_shr hn (by decide)) ?_
  refine v_ldc2 E dJ13_bitCount_95d88_4 (v := 6148914691236517205) (x := lN 6148914691236517205) (by decide +kernel) rfl ?_
  refine v_land E dJ13_bitCount_95d88_7 (z := lN (n / 2 ^ 1 &&& 6148914691236517205)) (wb_and (Nat.lt_of_le_of_lt (Nat.div_le_self _ _) hn) (by decide)) ?_
  refine v_lsub E dJ13_bitCount_95d88_8 (z := lN (g1 8 n)) (g1_L hn) ?_
  refine v_lstore_n E dJ13_bitCount_95d88_9 rfl (by decide) rfl ?_
  refine v_lload_n E dJ13_bitCount_95d88_10 0 rfl rfl ?_
  refine v_ldc2 E dJ13_bitCount_95d88_11 (v := 3689348814741910323) (x := lN 3689348814741910323) (by decide +kernel) rfl ?_
  refine v_land E dJ13_bitCount_95d88_14 (z := lN (g1 8 n &&& 3689348814741910323)) (wb_and b1n (by decide)) ?_
  refine v_lload_n E dJ13_bitCount_95d88_15 0 rfl rfl ?_
  refine v_iconst E dJ13_bitCount_95d88_16 (v := nI 2) rfl ?_
  refine v_lushr E dJ13_bitCount_95d88_17 (z := lN (g1 8 n / 2 ^ 2)) (wb_shr b1n (by decide)) ?_
  refine v_ldc2 E dJ13_bitCount_95d88_18 (v := 3689348814741910323) (x := lN 3689348814741910323) (by decide +kernel) rfl ?_
  refine v_land E dJ13_bitCount_95d88_21 (z := lN (g1 8 n / 2 ^ 2 &&& 3689348814741910323)) (wb_and (Nat.lt_of_le_of_lt (Nat.div_le_self _ _) b1n) (by decide)) ?_
  refine v_ladd E dJ13_bitCount_95d88_22 (z := lN (g2 8 (g1 8 n))) (g2_L _) ?_
  refine v_lstore_n E dJ13_bitCount_95d88_23 rfl (by decide) rfl ?_
  refine v_lload_n E dJ13_bitCount_95d88_24 0 rfl rfl ?_
  refine v_lload_n E dJ13_bitCount_95d88_25 0 rfl rfl ?_
  refine v_iconst E dJ13_bitCount_95d88_26 (v := nI 4) rfl ?_
  refine v_lushr E dJ13_bitCount_95d88_27 (z := lN (g2 8 (g1 8 n) / 2 ^ 4)) (wb_shr (by omega) (by decide)) ?_
  refine v_ladd E dJ13_bitCount_95d88_28 (z := lN (g2 8 (g1 8 n) + g2 8 (g1 8 n) / 2 ^ 4)) (lN_add _ _) ?_
  refine v_ldc2 E dJ13_bitCount_95d88_29 (v := 1085102592571150095) (x := lN 1085102592571150095) (by decide +kernel) rfl ?_
  refine v_land E dJ13_bitCount_95d88_32 (z := lN (g3 8 (g2 8 (g1 8 n)))) (g3_L b2n) ?_
  refine v_lstore_n E dJ13_bitCount_95d88_33 rfl (by decide) rfl ?_
  refine v_lload_n E dJ13_bitCount_95d88_34 0 rfl rfl ?_
  refine v_lload_n E dJ13_bitCount_95d88_35 0 rfl rfl ?_
  refine v_bipush E dJ13_bitCount_95d88_36 (v := nI 8) rfl ?_
  refine v_lushr E dJ13_bitCount_95d88_38 (z := lN (g3 8 (g2 8 (g1 8 n)) / 2 ^ 8)) (wb_shr (by omega) (by decide)) ?_
  refine v_ladd E dJ13_bitCount_95d88_39 (z := lN (g4 (g3 8 (g2 8 (g1 8 n))))) (lN_add _ _) ?_
  refine v_lstore_n E dJ13_bitCount_95d88_40 rfl (by decide) rfl ?_
  refine v_lload_n E dJ13_bitCount_95d88_41 0 rfl rfl ?_
  refine v_lload_n E dJ13_bitCount_95d88_42 0 rfl rfl ?_
  refine v_bipush E dJ13_bitCount_95d88_43 (v := nI 16) rfl ?_
  refine v_lushr E dJ13_bitCount_95d88_45 (z := lN (g4 (g3 8 (g2 8 (g1 8 n))) / 2 ^ 16)) (wb_shr (by unfold g4; omega) (by decide)) ?_
  refine v_ladd E dJ13_bitCount_95d88_46 (z := lN (g5 (g4 (g3 8 (g2 8 (g1 8 n)))))) (lN_add _ _) ?_
  refine v_lstore_n E dJ13_bitCount_95d88_47 rfl (by decide) rfl ?_
  refine v_lload_n E dJ13_bitCount_95d88_48 0 rfl rfl ?_
  refine v_lload_n E dJ13_bitCount_95d88_49 0 rfl rfl ?_
  refine v_bipush E dJ13_bitCount_95d88_50 (v := nI 32) rfl ?_
  refine v_lushr E dJ13_bitCount_95d88_52 (z := lN (g5 (g4 (g3 8 (g2 8 (g1 8 n)))) / 2 ^ 32)) (wb_shr (by unfold g5 g4; omega) (by decide)) ?_
  refine v_ladd E dJ13_bitCount_95d88_53 (z := lN (g6 (g5 (g4 (g3 8 (g2 8 (g1 8 n))))))) (lN_add _ _) ?_
  refine v_lstore_n E dJ13_bitCount_95d88_54 rfl (by decide) rfl ?_
  refine v_lload_n E dJ13_bitCount_95d88_55 0 rfl rfl ?_
  refine v_l2i E dJ13_bitCount_95d88_56 (z := nI (g6 (g5 (g4 (g3 8 (g2 8 (g1 8 n))))))) (lN_i _) ?_
  refine v_bipush E dJ13_bitCount_95d88_57 (v := nI 127) rfl ?_
  refine v_iand E dJ13_bitCount_95d88_59 (z := nI (pop n)) (by rw [nx_and, hpop]) ?_
  exact v_ret E hr rfl dJ13_bitCount_95d88_60

