/-! ===== rows of the law ===== -/
def vp9U (f : Nat → Int64) (v : Int64) : Nat → Int64 := vp_updL f 0 v
theorem updL_0 (f : Nat → Int64) (v : Int64) : vp_updL f 0 v 0 = v := by
  unfold vp_updL
  exact if_pos rfl
theorem lcmp_self (x : Int64) : lg_cmp x x = 0 := by
  unfold lg_cmp
  rw [if_neg (by simp), if_pos rfl]
theorem out_i {k : Nat} (hk : k = 0) (f : Nat → Int64) (v : Int32) : lg_cmp (mF k (vp_updL f 0 v.toInt64) f 0) (mV k v).toInt64 = 0 := by
  rw [mF_0 hk, mV_0 hk, updL_0]
  exact lcmp_self _
theorem out_l {k : Nat} (hk : k = 0) (f : Nat → Int64) (v : Int64) : lg_cmp (mF k (vp_updL f 0 v) f 0) (mL k v) = 0 := by
  rw [mF_0 hk, mL_0 hk, updL_0]
  exact lcmp_self _
theorem out_b {k : Nat} (hk : k = 0) (f : Nat → Int64) (v : Bool) : lg_cmp (mF k (vp_updL f 0 (zL v)) f 0) (zL (mB k v)) = 0 := by
  rw [mF_0 hk, mB_0 hk, updL_0]
  exact lcmp_self _
theorem kk2_lt (b c : Bool) : kk2 b c < 3 := by cases b <;> cases c <;> decide
theorem kk1_lt (b : Bool) : kk1 b < 3 := by cases b <;> decide
theorem and_31 (x : Int32) : ∃ d : Nat, d < 32 ∧ x &&& nI 31 = nI d := by
  have h1 : (x &&& nI 31).toBitVec.toNat < 32 := by
    rw [Int32.toBitVec_and, BitVec.toNat_and]
    exact Nat.lt_of_le_of_lt Nat.and_le_right (by decide)
  refine ⟨(x &&& nI 31).toBitVec.toNat, h1, ?_⟩
  refine Int32.toBitVec_inj.mp (BitVec.eq_of_toNat_eq ?_)
  show _ = (nI _).toBitVec.toNat
  have e : ∀ j, j < 32 → (nI j).toBitVec.toNat = j := by decide +kernel
  rw [e _ h1]
section LAWROW
variable {p : Program} {l : Launch} {e : Env} {R : Room} {s : State} {m : MethodId} {args : Array Value} {below : List Frame} {meth : Method} {c : Code} {cells slots : Nat} {Q : State → Prop} {nL : Nat}
variable {D : va_G} {tys : List (ClassId × FieldType)} {cc : ByteArray} {Ts : List Cond} {own : String} {Ph : va_W → Heap → List Loc → Prop}
variable {pc : Nat} {lv : List (Nat × Value)} {st : List Value} {w w' w2 : va_W} {A : Nat → Prop}
variable {mc1 ms1 : Nat} {ex : Nat → String} {o : Option Value}
theorem v_sld (E : v_E p s m args meth c D tys cc nL Ts own (v_rw D A s)) {b L i : Nat} {xs : Nat → Int32} (hdg : decode cc pc = .ok (.iaload, 1)) (hX : va_X b L xs s s.heap) (hbl : b < s.heap.size) (hbA : ¬ A b) (hi : i < L) (hL : L < 2 ^ 31) (k : V p l e R s m args below meth c cells slots Q (v_rw D A s) nL (pc + 1) lv (.int (xs i) :: st) w) : V p l e R s m args below meth c cells slots Q (v_rw D A s) nL pc lv (.int (nI i) :: .ref b :: st) w :=
  fun H locs ls hP hl => va_sld E.1 E.2.1 hX hbl hbA hP.2.2 (vp_in_nI hi hL) hdg (by rw [nI_clamp (Nat.lt_trans hi hL)]; exact k H locs ls hP hl)
theorem v_slen (E : v_E p s m args meth c D tys cc nL Ts own (v_rw D A s)) {b L : Nat} {xs : Nat → Int32} (hdg : decode cc pc = .ok (.arraylength, 1)) (hX : va_X b L xs s s.heap) (hbl : b < s.heap.size) (hbA : ¬ A b) (k : V p l e R s m args below meth c cells slots Q (v_rw D A s) nL (pc + 1) lv (.int (nI L) :: st) w) : V p l e R s m args below meth c cells slots Q (v_rw D A s) nL pc lv (.ref b :: st) w :=
  fun H locs ls hP hl => va_slen E.1 E.2.1 hX hbl hbA hP.2.2 hdg (k H locs ls hP hl)
theorem v_tabIn (E : v_E p s m args meth c D tys cc nL Ts own Ph) {dflt lo hi : Int} {offs : Array Int} {len d : Nat} {off : Int} {tgt : Nat} (hdg : decode cc pc = .ok (.tableswitch dflt lo hi offs, len)) (hd : d < 2 ^ 31) (h1 : ¬ (d : Int) < lo) (h2 : ¬ hi < (d : Int)) (ho : offs[((d : Int) - lo).toNat]? = some off) (ht : (pc : Int) + off = (tgt : Int)) (k : V p l e R s m args below meth c cells slots Q Ph nL tgt lv st w) : V p l e R s m args below meth c cells slots Q Ph nL pc lv (.int (nI d) :: st) w :=
  fun H locs ls hP hl => lv_tableIn E.1 E.2.1 hdg (by rw [nI_toInt hd]; exact h1) (by rw [nI_toInt hd]; exact h2) (by rw [nI_toInt hd]; exact ho) ht (k H locs ls hP hl)
theorem v_tabOut (E : v_E p s m args meth c D tys cc nL Ts own Ph) {dflt lo hi : Int} {offs : Array Int} {len d : Nat} {tgt : Nat} (hdg : decode cc pc = .ok (.tableswitch dflt lo hi offs, len)) (hd : d < 2 ^ 31) (h1 : hi < (d : Int)) (ht : (pc : Int) + dflt = (tgt : Int)) (k : V p l e R s m args below meth c cells slots Q Ph nL tgt lv st w) : V p l e R s m args below meth c cells slots Q Ph nL pc lv (.int (nI d) :: st) w :=
  fun H locs ls hP hl => lv_tableOut E.1 E.2.1 hdg (Or.inr (by rw [nI_toInt hd]; exact h1)) ht (k H locs ls hP hl)
/-- a static callee with a table that can't throw -/
theorem x_cSn (E : v_E p s m args meth c D tys cc nL Ts own (v_rw D A s)) (hA : ∀ q : Nat, s.heap.size ≤ q → A q) (hT : z_Tx A s s.heap) {y : MethodName} {index n maxL : Nat} {bytes : ByteArray} {ret : Option FieldType} {hh : List (Nat × Nat × Nat × Nat)} {ws' : List Cond} {rm : Room} {As st0 : List Value} (hdg : decode cc pc = .ok (.invokestatic index, 3))
    (hM : v_Thr l y ws' rm D tys As w 0 ex o w' mc1 ms1) (cw : vx_CSW R s args own index y bytes maxL ret hh ws' rm mc1 ms1 n) (hn : As.length = n) (hst : st0 = As.reverse ++ st) (hcs : cells + mc1 ≤ R.cells ∧ slots + ms1 ≤ R.slots) (hrm : (st.map fun v => v.category).sum ≤ 8)
    (kk : V p l e R s m args below meth c (cells + mc1) (slots + ms1) Q (v_rw D A s) nL (pc + 3) lv (o.toList ++ st) w') : V p l e R s m args below meth c cells slots Q (v_rw D A s) nL pc lv st0 w := by
  intro H locs ls hP hl
  exact v_behind E hA hP hl (vx_runSX (As := As) (rest := st) ⟨E.1, E.2.1, E.2.2.1, E.2.2.2.2.1, E.2.2.2.1⟩ (hM H.size) cw ⟨v_preXB, v_preXof E hA hT hP⟩ rfl hn hl.1 hst (lv_room hrm) hdg hcs) (fun h => absurd rfl h) (fun _ => kk)
end LAWROW
/-! the law's world -/
abbrev wL (cI cZ cQ cJ : ClassId) (a bb : Nat → Nat) (o : Nat) (S : zS) (f : Nat → Int64) (th : Nat) : va_W := outE cJ o f :: (wM cI bb S th ++ wX cI cZ cQ a S)
theorem perm1 {cJ : ClassId} {o : Nat} {f : Nat → Int64} {w1 w2 : va_W} : (outE cJ o f :: (w1 ++ w2)).Perm ((outE cJ o f :: w2) ++ w1) := List.Perm.cons _ List.perm_append_comm
theorem perm2 {cJ : ClassId} {o : Nat} {f : Nat → Int64} {w1 w2 : va_W} : (outE cJ o f :: (w1 ++ w2)).Perm (w1 ++ (outE cJ o f :: w2)) := List.perm_middle.symm
theorem perm3 {cJ : ClassId} {o : Nat} {f : Nat → Int64} {w1 w2 : va_W} : (outE cJ o f :: (w1 ++ w2)).Perm (w2 ++ (outE cJ o f :: w1)) := (List.Perm.cons _ List.perm_append_comm).trans perm2
theorem perm3x {cJ : ClassId} {o : Nat} {f : Nat → Int64} {w1 w2 : va_W} : (outE cJ o f :: (w1 ++ w2)).Perm (w2 ++ (outE cJ o f :: w1)) := perm3
theorem subM {D : va_G} {cJ : ClassId} {o : Nat} {f : Nat → Int64} {w1 w2 : va_W} (H : Heap) (h : va_P D vwCl (outE cJ o f :: (w1 ++ w2)) H) : va_P D vwCl w1 H := (va_P_app.mp ((va_P_perm perm2).mp h)).1
theorem subX {D : va_G} {cJ : ClassId} {o : Nat} {f : Nat → Int64} {w1 w2 : va_W} (H : Heap) (h : va_P D vwCl (outE cJ o f :: (w1 ++ w2)) H) : va_P D vwCl w2 H := (va_P_app.mp ((va_P_perm perm3).mp h)).1
/-! the state behind each call -/
theorem zOK_m {k : Nat} {S S' : zS} (h : zOK S) (h2 : k = 0 → zOK S') : zOK (mS k S' S) := by
  by_cases e : k = 0
  · rw [mS_0 e]
    exact h2 e
  · rw [mS_n e]
    exact h
theorem zin_iN {p : Int32} {n : Nat} (hn : n ≤ 2 ^ 31) (h : zin p n = true) : iN p < n := by
  obtain ⟨j, hj, rfl⟩ := zin_of hn h
  rw [iN_nI (by omega)]
  exact hj
theorem zin1_iN {p : Int32} {n : Nat} (hn : n ≤ 2 ^ 31) (h : zin1 p n = true) : 1 ≤ iN p ∧ iN p < n := by
  obtain ⟨j, h1, hj, rfl⟩ := zin1_of hn h
  rw [iN_nI (by omega)]
  exact ⟨h1, hj⟩
theorem zm_setUses {S : zS} (hok : zOK S) (u0 u1 u2 : Int32) (pp : Bool) : zOK (mS (kk2 (zin u0 16) (zin u1 65536)) (zs_U S (va_up (z_U S) (iN u0) (iN u1))) S) := zOK_m hok (fun h => zOK_U hok _ (zin_iN (by decide) (kk2_0 h).2))
theorem zm_addCommit {S : zS} (hok : zOK S) (u0 u1 u2 : Int32) (pp : Bool) : zOK (mS (kk2 (zin u0 65536) (decide (z_nc S < 40))) (sadC S (iN u0)) S) := zOK_m hok (fun h => zOK_adC hok (zin_iN (by decide) (kk2_0 h).1) (of_decide_eq_true (kk2_0 h).2))
theorem zm_addTest {S : zS} (hok : zOK S) (u0 u1 u2 : Int32) (pp : Bool) : zOK (mS (kk2 (zin u0 65536) (decide (z_nt S < 12))) (sadT S (iN u0)) S) := zOK_m hok (fun h => zOK_adT hok (zin_iN (by decide) (kk2_0 h).1) (of_decide_eq_true (kk2_0 h).2))
theorem zm_setQuarantine {S : zS} (hok : zOK S) (u0 u1 u2 : Int32) (pp : Bool) : zOK (mS (kk1 (zin1 u0 11 && zin1 u1 41)) (zs_wi (zs_li S (iN u0)) (iN u1)) S) := zOK_m hok (fun h => by
  obtain ⟨h1, h2⟩ := and_tt (kk1_z h)
  obtain ⟨a1, a2⟩ := zin1_iN (by decide) h1
  obtain ⟨b1, b2⟩ := zin1_iN (by decide) h2
  exact zOK_qua hok a1 a2 b1 b2)
theorem zm_setNoise {S : zS} (hok : zOK S) (u0 u1 u2 : Int32) (pp : Bool) : zOK (mS (kk1 (zin u0 21)) (zs_no S (iN u0)) S) := zOK_m hok (fun h => zOK_no hok (zin_iN (by decide) (kk1_z h)))
theorem zm_newDay {S : zS} (hok : zOK S) (u0 u1 u2 : Int32) (pp : Bool) : zOK (mS (kk1 (zin u0 101)) (zs_bu S (iN u0)) S) := zOK_m hok (fun h => zOK_bu hok (zin_iN (by decide) (kk1_z h)))
theorem zm_record {S : zS} (hok : zOK S) (u0 u1 u2 : Int32) (pp : Bool) : zOK (mS (kk2 (zin u0 (z_nt S) && zin u1 (z_nc S)) (decide (z_R S (iN u0) < 200))) (srec S (iN u0) (iN u1) pp) S) := zOK_m hok (fun h => by
  obtain ⟨h1, h2⟩ := kk2_0 h
  have hn := hok.1.1
  exact zOK_rec hok pp (zin_iN (by omega) (and_tt h1).2) (of_decide_eq_true h2))
theorem zm_triage {S : zS} (hok : zOK S) (u0 u1 u2 : Int32) (pp : Bool) : zOK (mS (kk2 (zin u0 (z_nt S) && zin u1 (z_nc S) && zin u2 (z_nc S)) (decide (iN u1 < iN u2))) (stri S (iN u0) (iN u1) (iN u2)) S) := zOK_m hok (fun h => by
  obtain ⟨h1, h2⟩ := kk2_0 h
  obtain ⟨h3, h4⟩ := and_tt h1
  have hn := hok.1.1
  have hn2 := hok.1.2.1
  exact zOK_tri hok (zin_iN (by omega) (and_tt h3).1) (of_decide_eq_true h2) (zin_iN (by omega) h4))
theorem zm_close {S : zS} (hok : zOK S) (u0 u1 u2 : Int32) (pp : Bool) : zOK (mS (kk2 (zin u0 (z_nt S)) (z_T S (iN u0))) (sclo S (iN u0)) S) := zOK_m hok (fun _ => zOK_clo hok _)
theorem zm_enqueue {S : zS} (hok : zOK S) (u0 u1 u2 : Int32) (pp : Bool) : zOK (mS (kk2 (zin u0 (z_nt S)) (z_T S (iN u0) && decide (plc (z_Q S) (z_qn S) (iN u0) = 0))) (sjn S (iN u0)) S) := zOK_m hok (fun h => by
  obtain ⟨h1, h2⟩ := kk2_0 h
  obtain ⟨h3, h4⟩ := and_tt h2
  exact zOK_jn hok h3 (fun k hk => plc_n (of_decide_eq_true h4) hok.2.2.2.1.2 hk))
theorem zm_take {S : zS} (hok : zOK S) (u0 u1 u2 : Int32) (pp : Bool) : zOK (mS (kk1 (decide (0 < z_qn S) && decide (0 < z_bu S))) (stak S) S) := zOK_m hok (fun h => zOK_tak hok (of_decide_eq_true (and_tt (kk1_z h)).1))
