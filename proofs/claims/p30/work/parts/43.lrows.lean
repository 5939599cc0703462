/-! ===== rows of the law ===== -/
section LROW
variable {p : Program} {l : Launch} {e : Env} {R : Room} {s : State} {m : MethodId} {args : Array Value} {below : List Frame} {meth : Method} {c : Code} {cells slots : Nat} {Q : State → Prop} {nL : Nat}
variable {D : va_G} {tys : List (ClassId × FieldType)} {cc : ByteArray} {Ts : List Cond} {own : String} {Ph : va_W → Heap → List Loc → Prop}
variable {pc : Nat} {lv : List (Nat × Value)} {st : List Value} {w w' w2 : va_W} {A : Nat → Prop}
variable {mc1 ms1 : Nat} {ex : Nat → String} {o : Option Value}
theorem v_more {c2 s2 : Nat} (hc : cells ≤ c2) (hs : slots ≤ s2) (k : V p l e R s m args below meth c c2 s2 Q Ph nL pc lv st w) : V p l e R s m args below meth c cells slots Q Ph nL pc lv st w := fun H locs ls hP hl => W.widen hc hs (k H locs ls hP hl)
theorem v_lvE {lv' : List (Nat × Value)} (h : lv = lv') (k : V p l e R s m args below meth c cells slots Q Ph nL pc lv' st w) : V p l e R s m args below meth c cells slots Q Ph nL pc lv st w := h ▸ k
theorem v_irem (E : v_E p s m args meth c D tys cc nL Ts own Ph) {x y z : Int32} (hdg : decode cc pc = .ok (.irem, 1)) (hne : ¬ y = 0) (hz : x - x / y * y = z) (k : V p l e R s m args below meth c cells slots Q Ph nL (pc + 1) lv (.int z :: st) w) : V p l e R s m args below meth c cells slots Q Ph nL pc lv (.int y :: .int x :: st) w :=
  fun H locs ls hP hl => by subst hz; exact lv_irem E.1 E.2.1 hdg hne (k H locs ls hP hl)
theorem v_lmul (E : v_E p s m args meth c D tys cc nL Ts own Ph) {x y z : Int64} (hdg : decode cc pc = .ok (.lmul, 1)) (hz : x * y = z) (k : V p l e R s m args below meth c cells slots Q Ph nL (pc + 1) lv (.long z :: st) w) : V p l e R s m args below meth c cells slots Q Ph nL pc lv (.long y :: .long x :: st) w :=
  fun H locs ls hP hl => by subst hz; exact lv_lmul E.1 E.2.1 hdg (k H locs ls hP hl)
/-- a static callee with a table that can't throw -/
theorem x_cSn (E : v_E p s m args meth c D tys cc nL Ts own (v_rw D A s)) (hA : ∀ q : Nat, s.heap.size ≤ q → A q) (hT : z_Tx A s s.heap) {y : MethodName} {index n maxL : Nat} {bytes : ByteArray} {ret : Option FieldType} {hh : List (Nat × Nat × Nat × Nat)} {ws' : List Cond} {rm : Room} {As st0 : List Value} (hdg : decode cc pc = .ok (.invokestatic index, 3))
    (hM : v_Thr l y ws' rm D tys As w 0 ex o w' mc1 ms1) (cw : vx_CSW R s args own index y bytes maxL ret hh ws' rm mc1 ms1 n) (hn : As.length = n) (hst : st0 = As.reverse ++ st) (hcs : cells + mc1 ≤ R.cells ∧ slots + ms1 ≤ R.slots) (hrm : (st.map fun v => v.category).sum ≤ 8)
    (kk : V p l e R s m args below meth c (cells + mc1) (slots + ms1) Q (v_rw D A s) nL (pc + 3) lv (o.toList ++ st) w') : V p l e R s m args below meth c cells slots Q (v_rw D A s) nL pc lv st0 w := by
  intro H locs ls hP hl
  exact v_behind E hA hP hl (vx_runSX (As := As) (rest := st) ⟨E.1, E.2.1, E.2.2.1, E.2.2.2.2.1, E.2.2.2.1⟩ (hM H.size) cw ⟨v_preXB, v_preXof E hA hT hP⟩ rfl hn hl.1 hst (lv_room hrm) hdg hcs) (fun h => absurd rfl h) (fun _ => kk)
/-- one without -/
theorem x_cSz (E : v_E p s m args meth c D tys cc nL Ts own (v_rw D A s)) (hA : ∀ q : Nat, s.heap.size ≤ q → A q) (hT : z_Tx A s s.heap) {y : MethodName} {index n maxL : Nat} {bytes : ByteArray} {ret : Option FieldType} {ws' : List Cond} {rm : Room} {As st0 : List Value} (hdg : decode cc pc = .ok (.invokestatic index, 3))
    (hM : v_Thr l y ws' rm D tys As w 0 ex o w' mc1 ms1) (cw : CallB R s args own index y bytes maxL ret ws' rm mc1 ms1 n ∧ (Cond.static y).before args s = true) (hn : As.length = n) (hst : st0 = As.reverse ++ st) (hcs : cells + mc1 ≤ R.cells ∧ slots + ms1 ≤ R.slots) (hrm : (st.map fun v => v.category).sum ≤ 8)
    (kk : V p l e R s m args below meth c (cells + mc1) (slots + ms1) Q (v_rw D A s) nL (pc + 3) lv (o.toList ++ st) w') : V p l e R s m args below meth c cells slots Q (v_rw D A s) nL pc lv st0 w :=
  x_cS E hA hT hdg hM cw hn hst hcs hrm (fun h => absurd rfl h) (fun _ => kk)
theorem v_sldR (E : v_E p s m args meth c D tys cc nL Ts own (v_ro D s)) {b L i : Nat} {xs : Nat → Int32} (hdg : decode cc pc = .ok (.iaload, 1)) (hX : va_X b L xs s s.heap) (hbl : b < s.heap.size) (hi : i < L) (hL : L < 2 ^ 31) (k : V p l e R s m args below meth c cells slots Q (v_ro D s) nL (pc + 1) lv (.int (xs i) :: st) w) : V p l e R s m args below meth c cells slots Q (v_ro D s) nL pc lv (.int (nI i) :: .ref b :: st) w :=
  fun H locs ls hP hl => va_sld (A := fun _ => False) E.1 E.2.1 hX hbl (fun z => z) (by rw [hP.2.1, hP.2.2]; exact va_S.rf) (vp_in_nI hi hL) hdg (by rw [nI_clamp (Nat.lt_trans hi hL)]; exact k H locs ls hP hl)
theorem v_slenR (E : v_E p s m args meth c D tys cc nL Ts own (v_ro D s)) {b L : Nat} {xs : Nat → Int32} (hdg : decode cc pc = .ok (.arraylength, 1)) (hX : va_X b L xs s s.heap) (hbl : b < s.heap.size) (k : V p l e R s m args below meth c cells slots Q (v_ro D s) nL (pc + 1) lv (.int (nI L) :: st) w) : V p l e R s m args below meth c cells slots Q (v_ro D s) nL pc lv (.ref b :: st) w :=
  fun H locs ls hP hl => va_slen (A := fun _ => False) E.1 E.2.1 hX hbl (fun z => z) (by rw [hP.2.1, hP.2.2]; exact va_S.rf) hdg (k H locs ls hP hl)
def v_preS (D : va_G) (tys : List (ClassId × FieldType)) (b L : Nat) (xs : Nat → Int32) : State → Prop := fun U => va_K D vwCl tys U ∧ va_X b L xs U U.heap ∧ b < U.heap.size
theorem v_preSB {av : List Value} {b L : Nat} {xs : Nat → Int32} : FrameBlind (va_Pc av (v_preS D tys b L xs)) := fun a U g mk q => ⟨q.1, va_K.moved (u := U) (U := U.calling g mk a) (Vm.Alike.refl U.vm) q.2.1, va_X.moved (u := U) (U := U.calling g mk a) (Vm.Alike.refl U.vm) q.2.2.1, q.2.2.2⟩
/-- a call that reads the script -/
theorem x_cAt (E : v_E p s m args meth c D tys cc nL Ts own (v_rw D A s)) {y : MethodName} {index n maxL b L : Nat} {xs : Nat → Int32} {bytes : ByteArray} {ret : Option FieldType} {ws' : List Cond} {rm : Room} {As st0 : List Value} {v : Int32} (hdg : decode cc pc = .ok (.invokestatic index, 3))
    (hM : Met l y ws' rm (va_Pc As (v_preS D tys b L xs)) (vp_Si (fun r => r = v)) 0 0 (fun _ => False)) (cw : CallB R s args own index y bytes maxL ret ws' rm 0 0 n ∧ (Cond.static y).before args s = true) (hX : va_X b L xs s s.heap) (hbl : b < s.heap.size) (hbA : ¬ A b) (hn : As.length = n) (hst : st0 = As.reverse ++ st) (hcs : cells ≤ R.cells ∧ slots ≤ R.slots) (hrm : (st.map fun v => v.category).sum ≤ 8)
    (k : V p l e R s m args below meth c cells slots Q (v_rw D A s) nL (pc + 3) lv (.int v :: st) w) : V p l e R s m args below meth c cells slots Q (v_rw D A s) nL pc lv st0 w := by
  intro H locs ls hP hl
  have hq : H[b]? = s.heap[b]? := hP.2.2.2.1 b hbl hbA
  exact vp_callSi (W.runS (As := As) (rest := st) ⟨E.1, E.2.1, E.2.2.1, E.2.2.2.2.1, E.2.2.2.1⟩ hM cw ⟨v_preSB, fun U hU hW => ⟨rfl, va_K.moved hW.alike E.2.2.2.2.2.1, by rw [hU]; exact (hX.moved hW.alike).kept hq, by rw [hU]; exact Nat.lt_of_lt_of_le hbl hP.2.2.1⟩⟩ rfl hn hl.1 hst (lv_room hrm) hdg ⟨hcs.1, hcs.2⟩) (fun r hr => by have e9 : r = v := hr; subst e9; exact k H locs ls hP hl)
end LROW
def at9 (L : Nat) (xs : Nat → Int32) (k : Nat) : Int32 := if k < L then xs k else nI 1257691169 * (nI k + nI 1) + nI 333806493
set_option maxHeartbeats 4000000 in
set_option maxRecDepth 100000 in
theorem x_L_at (l : Launch) (D : va_G) (tys : List (ClassId × FieldType)) (b L : Nat) (xs : Nat → Int32) (k : Nat) (hk : k < 2 ^ 30) (hL : L < 2 ^ 31) : Met l yL_at wsL_at { frames := 0, cells := 0, slots := 0, locals := 0 } (va_Pc [.ref b, .int (nI k)] (v_preS D tys b L xs)) (vp_Si (fun r => r = at9 L xs k)) 0 0 (fun _ => False) := by
  refine Met.ofW (cc := cL_at) (maxL := 2) (ret := some .int) (by decide) rfl ?_
  intro p e s m args below meth c s₁ B hml hv
  obtain ⟨rfl, hK, hX, hbl⟩ := hv
  have hr := B.returns
  have E : v_E p s m ([.ref b, .int (nI k)] : List Value).toArray meth c D tys cL_at 2 wsL_at RL (v_ro D s) := ⟨B.exec, B.bytes, hml, atoms_spec (ws := wsL_at) B.pre, findClass_of_methodNamed B.named, hK, B.notSynchronized, fun _ _ _ q => q.1⟩
  rw [lg_entry_eq]
  have hl := lv_entry ([.ref b, .int (nI k)] : List Value) (n := 2) (Nat.le_of_ble_eq_true rfl)
  refine (?_ : V p l e (headSpec wsL_at { frames := 0, cells := 0, slots := 0, locals := 0 }).room s m ([.ref b, .int (nI k)] : List Value).toArray below meth c 0 0 (MQ below (vp_Si (fun r => r = at9 L xs k)) ([.ref b, .int (nI k)] : List Value).toArray s 0 0 (fun _ => False)) (v_ro D s) 2 0 [(0, .ref b), (1, .int (nI k))] [] []) s.heap [] _ ⟨v_nil _, rfl, rfl⟩ hl
  refine v_iload_n E dL_at_0 1 rfl rfl ?_
  refine v_aload_n E dL_at_1 0 rfl rfl ?_
  refine v_slenR E dL_at_2 hX hbl ?_
  refine n_icmp_ge E dL_at_3 (by omega) (by omega) (tgt := 12) (by decide) (fun c3 => ?_) (fun c3 => ?_)
  · refine v_ldc E dL_at_12 (v := 1257691169) (x := nI 1257691169) (by decide +kernel) rfl ?_
    refine v_iload_n E dL_at_14 1 rfl rfl ?_
    refine v_iconst E dL_at_15 (v := nI 1) rfl ?_
    refine v_iadd E dL_at_16 (z := nI k + nI 1) rfl ?_
    refine v_imul E dL_at_17 (z := nI 1257691169 * (nI k + nI 1)) rfl ?_
    refine v_ldc E dL_at_18 (v := 333806493) (x := nI 333806493) (by decide +kernel) rfl ?_
    refine v_iadd E dL_at_20 (z := nI 1257691169 * (nI k + nI 1) + nI 333806493) rfl ?_
    exact v_ret E hr (by show _ = at9 L xs k; unfold at9; rw [if_neg (by omega)]) dL_at_21
  · refine v_aload_n E dL_at_6 0 rfl rfl ?_
    refine v_iload_n E dL_at_7 1 rfl rfl ?_
    refine v_sldR E dL_at_8 hX hbl c3 hL ?_
    refine v_goto E dL_at_9 (tgt := 21) (by decide) ?_
    exact v_ret E hr (by show _ = at9 L xs k; unfold at9; rw [if_pos c3]) dL_at_21
def lo9 (v : Int32) : Nat := v.toBitVec.toNat % 2 ^ 31
theorem lo9_lt (v : Int32) : lo9 v < 2 ^ 31 := Nat.mod_lt _ (by decide)
theorem and_max (v : Int32) : v &&& nI 2147483647 = nI (lo9 v) := by
  refine Int32.toBitVec_inj.mp (BitVec.eq_of_toNat_eq ?_)
  have e1 : (nI 2147483647).toBitVec.toNat = 2 ^ 31 - 1 := by decide
  have e2 : (nI (lo9 v)).toBitVec.toNat = lo9 v := by
    show (BitVec.ofNat 32 (lo9 v)).toNat = lo9 v
    rw [BitVec.toNat_ofNat, Nat.mod_eq_of_lt (Nat.lt_trans (lo9_lt v) (by decide))]
  rw [Int32.toBitVec_and, BitVec.toNat_and, e1, e2, Nat.and_two_pow_sub_one_eq_mod]
  rfl
set_option maxHeartbeats 4000000 in
set_option maxRecDepth 100000 in
theorem x_L_low (l : Launch) (D : va_G) (cI cZ cQ cJ : ClassId) (u0 : Int32) (n : Nat) (h0 : 0 < n) (hn : n < 2 ^ 31) : v_Rdi l yL_low wsL_low { frames := 0, cells := 0, slots := 0, locals := 0 } D (wTy cI cZ cQ cJ) [.int u0, .int (nI n)] [] (nI (lo9 u0 % n)) := by
  refine v_reader (cc := cL_low) (maxL := 2) (ret := some .int) (own := RL) (lv0 := [(0, .int u0), (1, .int (nI n))]) (by decide) rfl rfl (Nat.le_of_ble_eq_true rfl) rfl ?_
  intro p9 e9 s9 m9 as9 bl9 me9 cd9 E hr
  refine v_iload_n E dL_low_0 0 rfl rfl ?_
  refine v_ldc E dL_low_1 (v := 2147483647) (x := nI 2147483647) (by decide +kernel) rfl ?_
  refine v_iand E dL_low_3 (and_max u0) ?_
  refine v_iload_n E dL_low_4 1 rfl rfl ?_
  refine v_irem E dL_low_5 (n_ne0 h0 hn) (pk_rem (lo9_lt u0) h0 hn) ?_
  exact v_ret E hr rfl dL_low_6
/-! the law's rows of numbers -/
def wA (cI : ClassId) (b : Nat → Nat) (u c t : Nat → Nat) (g : Nat → Int32) (bb f q n : Nat → Nat) : va_W :=
  [(b 0, .inl (cI, 16, .inl (fun j => nI (u j)))), (b 1, .inl (cI, 40, .inl (fun j => nI (c j)))), (b 2, .inl (cI, 12, .inl (fun j => nI (t j)))), (b 3, .inl (cI, 12, .inl g)), (b 4, .inl (cI, 12, .inl (fun j => nI (bb j)))), (b 5, .inl (cI, 12, .inl (fun j => nI (f j)))), (b 6, .inl (cI, 12, .inl (fun j => nI (q j)))), (b 7, .inl (cI, 5, .inl (fun j => nI (n j))))]
section LSET
variable {cI : ClassId} {b : Nat → Nat} {u c t : Nat → Nat} {g : Nat → Int32} {bb f q n : Nat → Nat} {w2 : va_W}
theorem wA_u (i v : Nat) : (wA cI b u c t g bb f q n ++ w2).set 0 (b 0, .inl (cI, 16, .inl (upd (fun j => nI (u j)) i (nI v)))) = wA cI b (va_up u i v) c t g bb f q n ++ w2 := by rw [up_nI]; rfl
theorem wA_c (i v : Nat) : (wA cI b u c t g bb f q n ++ w2).set 1 (b 1, .inl (cI, 40, .inl (upd (fun j => nI (c j)) i (nI v)))) = wA cI b u (va_up c i v) t g bb f q n ++ w2 := by rw [up_nI]; rfl
theorem wA_t (i v : Nat) : (wA cI b u c t g bb f q n ++ w2).set 2 (b 2, .inl (cI, 12, .inl (upd (fun j => nI (t j)) i (nI v)))) = wA cI b u c (va_up t i v) g bb f q n ++ w2 := by rw [up_nI]; rfl
theorem wA_g (i : Nat) (v : Int32) : (wA cI b u c t g bb f q n ++ w2).set 3 (b 3, .inl (cI, 12, .inl (upd g i v))) = wA cI b u c t (upd g i v) bb f q n ++ w2 := rfl
theorem wA_b (i v : Nat) : (wA cI b u c t g bb f q n ++ w2).set 4 (b 4, .inl (cI, 12, .inl (upd (fun j => nI (bb j)) i (nI v)))) = wA cI b u c t g (va_up bb i v) f q n ++ w2 := by rw [up_nI]; rfl
theorem wA_f (i v : Nat) : (wA cI b u c t g bb f q n ++ w2).set 5 (b 5, .inl (cI, 12, .inl (upd (fun j => nI (f j)) i (nI v)))) = wA cI b u c t g bb (va_up f i v) q n ++ w2 := by rw [up_nI]; rfl
theorem wA_q (i v : Nat) : (wA cI b u c t g bb f q n ++ w2).set 6 (b 6, .inl (cI, 12, .inl (upd (fun j => nI (q j)) i (nI v)))) = wA cI b u c t g bb f (va_up q i v) n ++ w2 := by rw [up_nI]; rfl
theorem wA_n (i v : Nat) : (wA cI b u c t g bb f q n ++ w2).set 7 (b 7, .inl (cI, 5, .inl (upd (fun j => nI (n j)) i (nI v)))) = wA cI b u c t g bb f q (va_up n i v) ++ w2 := by rw [up_nI]; rfl
end LSET
theorem subR {D : va_G} {w1 w2 : va_W} (H : Heap) (h : va_P D vwCl (w1 ++ w2) H) : va_P D vwCl w2 H := (va_P_app.mp h).2
theorem thr_fr {D : va_G} {w1 w1' : va_W} {l : Launch} {y : MethodName} {ws : List Cond} {rm : Room} {tys : List (ClassId × FieldType)} {av : List Value} {k mc ms : Nat} {ex : Nat → String} {o : Option Value} (w2 : va_W) (hM : v_Thr l y ws rm D tys av w1 k ex o w1' mc ms) : v_Thr l y ws rm D tys av (w2 ++ w1) k ex o (w2 ++ w1') mc ms := thr_perm hM w2 List.perm_append_comm List.perm_append_comm
