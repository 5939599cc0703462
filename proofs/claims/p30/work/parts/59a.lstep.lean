/-! ===== the law: a step ===== -/
theorem zN_of {S S' : zS} (h : zN S) (h1 : z_nc S ≤ z_nc S') (h2 : z_P S' = z_P S) (h3 : z_F S' = z_F S) : zN S' := fun t c hc => by
  rw [h2, h3]
  exact h t c (by omega)
theorem clo_same (S : zS) (t : Nat) : z_nc (sclo S t) = z_nc S ∧ z_P (sclo S t) = z_P S ∧ z_F (sclo S t) = z_F S := by
  refine ⟨?_, ?_, ?_⟩
  · show z_nc (slv S t) = _
    unfold slv
    split <;> rfl
  · show z_P (slv S t) = _
    unfold slv
    split <;> rfl
  · show z_F (slv S t) = _
    unfold slv
    split <;> rfl
theorem tk9_same (S : zS) : z_nc (tk9 S) = z_nc S ∧ z_P (tk9 S) = z_P S ∧ z_F (tk9 S) = z_F S := by
  unfold tk9
  split
  · exact ⟨rfl, rfl, rfl⟩
  · unfold stak
    split <;> exact ⟨rfl, rfl, rfl⟩
theorem tk9_zok {S : zS} (h : zOK S) : zOK (tk9 S) := by
  unfold tk9
  split
  · exact h
  · exact zOK_tak h (by omega)
set_option maxHeartbeats 8000000 in
theorem acts_ex (l : Launch) (D : va_G) (cI cZ cQ cJ : ClassId) (a bx : Nat → Nat) (S : zS) (hok : zOK S) (hl : l.stackTraces = false) (qf : Nat → Nat) (hN : zN S) (hq : ∀ i, i < z_qn S → qf i = z_Q S i) (u0 u1 : Int32) : ∃ (S' : zS) (qf' : Nat → Nat), zOK S' ∧ zN S' ∧ (∀ i, i < z_qn S' → qf' i = z_Q S' i) ∧ v_Thr l yL_acts wsL_acts { frames := 10, cells := 1002, slots := 6012, locals := 193 } D (wTy cI cZ cQ cJ) [.ref (a 0), .ref (bx 0), .ref (bx 1), .ref (bx 2), .ref (bx 3), .ref (bx 4), .ref (bx 5), .ref (bx 6), .ref (bx 7), .int (u0), .int (u1)] ((wA cI bx (z_U S) (z_C S) (z_D S) (g9 S) (z_B S) (f9 S) qf (n9 (z_no S) (z_li S) (z_wi S) (z_bu S) (z_qn S))) ++ wX cI cZ cQ a S) 0 exI (some (.int (nI 1))) ((wA cI bx (z_U (S')) (z_C (S')) (z_D (S')) (g9 (S')) (z_B (S')) (f9 (S')) qf' (n9 (z_no (S')) (z_li (S')) (z_wi (S')) (z_bu (S')) (z_qn (S')))) ++ wX cI cZ cQ a (S')) 1002 6012 := by
  have hv : st9 u1 < 65536 := st9_lt u1
  by_cases hA : lo9 u0 % 24 = 0 ∨ z_nt S = 0
  · by_cases hlt : z_nt S < 12
    · exact ⟨sadT S (st9 u1), qf, zOK_adT hok hv hlt, zN_of hN (Nat.le_refl _) rfl rfl, hq, z_acts_A l D cI cZ cQ cJ a bx S hok hl qf u0 u1 (lo9 u0 % 24) (st9 u1) rfl rfl hA hlt⟩
    · exact ⟨S, qf, hok, hN, hq, z_acts_A2 l D cI cZ cQ cJ a bx S hok hl qf u0 u1 (lo9 u0 % 24) (st9 u1) rfl rfl hA hlt⟩
  have hnt : 0 < z_nt S := by omega
  have hk0 : 0 < lo9 u0 % 24 := by omega
  by_cases hB : lo9 u0 % 24 < 6 ∨ z_nc S = 0
  · by_cases hlt : z_nc S < 40
    · exact ⟨sadC S (st9 u1), qf, zOK_adC hok hv hlt, zN_of hN (Nat.le_succ _) rfl rfl, hq, z_acts_B l D cI cZ cQ cJ a bx S hok hl qf u0 u1 (lo9 u0 % 24) (st9 u1) rfl rfl hnt hk0 hB hlt⟩
    · exact ⟨S, qf, hok, hN, hq, z_acts_B2 l D cI cZ cQ cJ a bx S hok hl qf u0 u1 (lo9 u0 % 24) (st9 u1) rfl rfl hnt hk0 hB hlt⟩
  have hnc : 0 < z_nc S := by omega
  have ht : (lo9 (u0 >>> (nI (5) &&& 31)) % z_nt S) < z_nt S := Nat.mod_lt _ hnt
  have hc : (lo9 u1 % z_nc S) < z_nc S := Nat.mod_lt _ hnc
  by_cases h6 : lo9 u0 % 24 = 6
  · have hw : (if lo9 (u1 >>> (nI (8) &&& 31)) % 3 = 0 then 0 else st9 u1) < 65536 := by
      split
      · decide
      · exact hv
    exact ⟨zs_U S (va_up (z_U S) (lo9 (u1 >>> (nI (4) &&& 31)) % 16) (if lo9 (u1 >>> (nI (8) &&& 31)) % 3 = 0 then 0 else st9 u1)), qf, zOK_U hok _ hw, zN_of hN (Nat.le_refl _) rfl rfl, hq, z_acts_C l D cI cZ cQ cJ a bx S hok hl qf u0 u1 (lo9 u0 % 24) (st9 u1) (lo9 (u0 >>> (nI (5) &&& 31)) % z_nt S) (lo9 u1 % z_nc S) (lo9 (u1 >>> (nI (4) &&& 31)) % 16) (if lo9 (u1 >>> (nI (8) &&& 31)) % 3 = 0 then 0 else st9 u1) rfl rfl rfl rfl hnt hnc h6 rfl rfl⟩
  by_cases h7 : lo9 u0 % 24 = 7
  · have he5 : (if lo9 (u1 >>> (nI (9) &&& 31)) % 2 = 0 then 40 else 6) = 40 ∨ (if lo9 (u1 >>> (nI (9) &&& 31)) % 2 = 0 then 40 else 6) = 6 := by
      split
      · exact Or.inl rfl
      · exact Or.inr rfl
    have he2 : (1 + (lo9 (u1 >>> (nI (3) &&& 31)) % (if lo9 (u1 >>> (nI (9) &&& 31)) % 2 = 0 then 40 else 6))) < 41 := by
      have := Nat.mod_lt (lo9 (u1 >>> (nI (3) &&& 31))) (show 0 < (if lo9 (u1 >>> (nI (9) &&& 31)) % 2 = 0 then 40 else 6) by omega)
      omega
    exact ⟨zs_no (zs_wi (zs_li S (1 + (lo9 u1 % 3))) (1 + (lo9 (u1 >>> (nI (3) &&& 31)) % (if lo9 (u1 >>> (nI (9) &&& 31)) % 2 = 0 then 40 else 6)))) (lo9 (u1 >>> (nI (10) &&& 31)) % 4), qf, zOK_no (zOK_qua hok (by omega) (by omega) (by omega) he2) (by omega), zN_of hN (Nat.le_refl _) rfl rfl, hq, z_acts_D l D cI cZ cQ cJ a bx S hok hl qf u0 u1 (lo9 u0 % 24) (st9 u1) (lo9 (u0 >>> (nI (5) &&& 31)) % z_nt S) (lo9 u1 % z_nc S) (1 + (lo9 u1 % 3)) (if lo9 (u1 >>> (nI (9) &&& 31)) % 2 = 0 then 40 else 6) (1 + (lo9 (u1 >>> (nI (3) &&& 31)) % (if lo9 (u1 >>> (nI (9) &&& 31)) % 2 = 0 then 40 else 6))) (lo9 (u1 >>> (nI (10) &&& 31)) % 4) rfl rfl rfl rfl hnt hnc h7 rfl rfl rfl rfl⟩
  by_cases h9 : lo9 u0 % 24 < 10
  · have h8 : 8 ≤ lo9 u0 % 24 ∧ lo9 u0 % 24 < 10 := by omega
    have ho : (lo9 (u1 >>> (nI (9) &&& 31)) % z_nc S) < z_nc S := Nat.mod_lt _ hnc
    by_cases hco : (lo9 u1 % z_nc S) < (lo9 (u1 >>> (nI (9) &&& 31)) % z_nc S)
    · exact ⟨stri S (lo9 (u0 >>> (nI (5) &&& 31)) % z_nt S) (lo9 u1 % z_nc S) (lo9 (u1 >>> (nI (9) &&& 31)) % z_nc S), qf, zOK_tri hok ht hco ho, zN_of hN (Nat.le_refl _) rfl rfl, hq, z_acts_E1 l D cI cZ cQ cJ a bx S hok hl qf u0 u1 (lo9 u0 % 24) (st9 u1) (lo9 (u0 >>> (nI (5) &&& 31)) % z_nt S) (lo9 u1 % z_nc S) (lo9 (u1 >>> (nI (9) &&& 31)) % z_nc S) rfl rfl rfl rfl hnt hnc h8 rfl hco⟩
    · exact ⟨S, qf, hok, hN, hq, z_acts_E2 l D cI cZ cQ cJ a bx S hok hl qf u0 u1 (lo9 u0 % 24) (st9 u1) (lo9 (u0 >>> (nI (5) &&& 31)) % z_nt S) (lo9 u1 % z_nc S) (lo9 (u1 >>> (nI (9) &&& 31)) % z_nc S) rfl rfl rfl rfl hnt hnc h8 rfl hco⟩
  by_cases h10 : lo9 u0 % 24 = 10
  · rcases Bool.eq_false_or_eq_true (z_T S (lo9 (u0 >>> (nI (5) &&& 31)) % z_nt S)) with hT | hT
    · obtain ⟨s1, s2, s3⟩ := clo_same S (lo9 (u0 >>> (nI (5) &&& 31)) % z_nt S)
      exact ⟨sclo S (lo9 (u0 >>> (nI (5) &&& 31)) % z_nt S), cq9 qf (plc (z_Q S) (z_qn S) (lo9 (u0 >>> (nI (5) &&& 31)) % z_nt S)) (z_qn S), zOK_clo hok _, zN_of hN (by omega) s2 s3, cq9_ok hq, z_acts_F2 l D cI cZ cQ cJ a bx S hok hl qf u0 u1 (lo9 u0 % 24) (st9 u1) (lo9 (u0 >>> (nI (5) &&& 31)) % z_nt S) (lo9 u1 % z_nc S) rfl rfl rfl rfl hnt hnc h10 hT hq⟩
    · exact ⟨S, qf, hok, hN, hq, z_acts_F1 l D cI cZ cQ cJ a bx S hok hl qf u0 u1 (lo9 u0 % 24) (st9 u1) (lo9 (u0 >>> (nI (5) &&& 31)) % z_nt S) (lo9 u1 % z_nc S) rfl rfl rfl rfl hnt hnc h10 hT⟩
  by_cases h12 : lo9 u0 % 24 < 13
  · have h11 : 11 ≤ lo9 u0 % 24 ∧ lo9 u0 % 24 < 13 := by omega
    rcases Bool.eq_false_or_eq_true (z_T S (lo9 (u0 >>> (nI (5) &&& 31)) % z_nt S)) with hT | hT
    · by_cases hp : plc (z_Q S) (z_qn S) (lo9 (u0 >>> (nI (5) &&& 31)) % z_nt S) = 0
      · refine ⟨sjn S (lo9 (u0 >>> (nI (5) &&& 31)) % z_nt S), va_up qf (z_qn S) (lo9 (u0 >>> (nI (5) &&& 31)) % z_nt S), zOK_jn hok hT (fun k hk => plc_n hp hok.2.2.2.1.2 hk), zN_of hN (Nat.le_refl _) rfl rfl, fun i hi => ?_, z_acts_G3 l D cI cZ cQ cJ a bx S hok hl qf u0 u1 (lo9 u0 % 24) (st9 u1) (lo9 (u0 >>> (nI (5) &&& 31)) % z_nt S) (lo9 u1 % z_nc S) rfl rfl rfl rfl hnt hnc h11 hq hT hp⟩
        have hi : i < z_qn S + 1 := hi
        show va_up qf (z_qn S) (lo9 (u0 >>> (nI (5) &&& 31)) % z_nt S) i = va_up (z_Q S) (z_qn S) (lo9 (u0 >>> (nI (5) &&& 31)) % z_nt S) i
        unfold va_up
        by_cases e : i = z_qn S
        · rw [if_pos e, if_pos e]
        · rw [if_neg e, if_neg e]
          exact hq i (by omega)
      · exact ⟨S, qf, hok, hN, hq, z_acts_G2 l D cI cZ cQ cJ a bx S hok hl qf u0 u1 (lo9 u0 % 24) (st9 u1) (lo9 (u0 >>> (nI (5) &&& 31)) % z_nt S) (lo9 u1 % z_nc S) rfl rfl rfl rfl hnt hnc h11 hq hT hp⟩
    · exact ⟨S, qf, hok, hN, hq, z_acts_G1 l D cI cZ cQ cJ a bx S hok hl qf u0 u1 (lo9 u0 % 24) (st9 u1) (lo9 (u0 >>> (nI (5) &&& 31)) % z_nt S) (lo9 u1 % z_nc S) rfl rfl rfl rfl hnt hnc h11 hq hT⟩
  by_cases h13 : lo9 u0 % 24 = 13
  · exact ⟨zs_bu S (lo9 u1 % 5), qf, zOK_bu hok (by omega), zN_of hN (Nat.le_refl _) rfl rfl, hq, z_acts_H l D cI cZ cQ cJ a bx S hok hl qf u0 u1 (lo9 u0 % 24) (st9 u1) (lo9 (u0 >>> (nI (5) &&& 31)) % z_nt S) (lo9 u1 % z_nc S) (lo9 u1 % 5) rfl rfl rfl rfl hnt hnc h13 rfl⟩
  by_cases h16 : lo9 u0 % 24 < 16
  · have h14 : 14 ≤ lo9 u0 % 24 ∧ lo9 u0 % 24 < 16 := by omega
    obtain ⟨s1, s2, s3⟩ := tk9_same S
    exact ⟨tk9 S, qt9 S qf, tk9_zok hok, zN_of hN (by omega) s2 s3, qt9_ok hq, z_acts_I l D cI cZ cQ cJ a bx S hok hl qf u0 u1 (lo9 u0 % 24) (st9 u1) (lo9 (u0 >>> (nI (5) &&& 31)) % z_nt S) (lo9 u1 % z_nc S) rfl rfl rfl rfl hnt hnc h14 hq⟩
  · obtain ⟨r1, r2, r3, r4, r5, r6, r7⟩ := rr9_ok hok hN (lo9 (u0 >>> (nI (5) &&& 31)) % z_nt S) u1 hnc 4
    exact ⟨rr9 S (lo9 (u0 >>> (nI (5) &&& 31)) % z_nt S) u1 4, qf, r1, r2, fun i hi => by rw [r6]; exact hq i (by omega), z_acts_J l D cI cZ cQ cJ a bx S hok hl qf u0 u1 (lo9 u0 % 24) (st9 u1) (lo9 (u0 >>> (nI (5) &&& 31)) % z_nt S) (lo9 u1 % z_nc S) rfl rfl rfl rfl hnt hnc (by omega) hN⟩
