/-! ===== the V layer: writing, entering, leaving, calling ===== -/
section VCALL
variable {p : Program} {l : Launch} {e : Env} {R : Room} {s : State} {m : MethodId} {args : Array Value} {below : List Frame} {meth : Method} {c : Code} {cells slots : Nat} {Q : State → Prop} {Ph : va_W → Heap → List Loc → Prop} {nL : Nat}
variable {D : va_G} {tys : List (ClassId × FieldType)} {cc : ByteArray} {Ts : List Cond} {own : String}
variable {pc : Nat} {lv : List (Nat × Value)} {st : List Value} {w : va_W}
variable {A : Nat → Prop}
theorem v_put (E : v_E p s m args meth c D tys cc nL Ts own (v_rw D A s)) {a : Nat} {ref C : String} {T : u_T} {N ci index : Nat} {fs : List Value} {v : Value} {ty : FieldType} {w' : va_W} (hdg : decode cc pc = .ok (.putfield index, 3)) (q0 : Nat) (f : Nat) (ty0 : Nat → FieldType) (hty : ∀ k, k < N → parseFieldDescriptor (T k).2.2.1 = some (ty0 k)) (hnm : ∀ a, a < N → ∀ b, b < N → a ≠ b → (T a).2.1 ≠ (T b).2.1) (hin : ∀ w ∈ u_ws C T N, w ∈ Ts) (he : w[q0]? = some (a, .inr (ci, fs))) (hc : vwCl[ci]? = some (C, T, N)) (hk : f < N) (hlink : Cond.fieldLink own index ref (T f).2.1 (T f).2.2.1 ∈ Ts) (hsame : (T f).1 = ref) (hfin : (T f).2.2.2 = false) (hd : parseFieldDescriptor (T f).2.2.1 = some ty) (hn : narrow ty v = v) (hfit : fits ty v = true) (hl : f < fs.length) (hw : w.set q0 (a, .inr (ci, fs.set f v)) = w')
    (k : V p l e R s m args below meth c cells slots Q (v_rw D A s) nL (pc + 3) lv st w') : V p l e R s m args below meth c cells slots Q (v_rw D A s) nL pc lv (v :: .ref a :: st) w :=
  fun H locs ls hP hl9 => va_put (ty := ty) E.1 E.2.1 E.2.2.2.1 hin ty0 hty hnm E.2.2.2.2.1 E.2.2.2.2.2.1 hP.1 hP.2.1 hP.2.2 q0 he hc f hk (E.2.2.2.1 _ hlink) (fun _ h9 => by rw [← hsame]; exact h9) hfin hd hn hfit hl hdg (fun H1 locs1 h1 h2 h3 => k H1 locs1 ls ⟨by rw [← hw]; exact h1, by rw [← hw]; exact h2, h3⟩ hl9)
theorem v_iast (E : v_E p s m args meth c D tys cc nL Ts own (v_rw D A s)) {a n i : Nat} {cA : ClassId} {f : Nat → Int32} {x : Int32} {w' : va_W} (hdg : decode cc pc = .ok (.iastore, 1)) (q0 t0 : Nat) (ha : w[q0]? = some (a, .inl (cA, n, .inl f))) (ht : tys[t0]? = some (cA, .int)) (hi : i < n) (hn : n < 2 ^ 31) (hw : w.set q0 (a, .inl (cA, n, .inl (upd f i x))) = w')
    (k : V p l e R s m args below meth c cells slots Q (v_rw D A s) nL (pc + 1) lv st w') : V p l e R s m args below meth c cells slots Q (v_rw D A s) nL pc lv (.int x :: .int (nI i) :: .ref a :: st) w :=
  fun H locs ls hP hl9 => va_iast E.1 E.2.1 E.2.2.2.2.2.1 hP.1 hP.2.1 hP.2.2 q0 t0 ha ht (vp_in_nI hi hn) hdg (fun H1 locs1 h1 h2 h3 => by
    rw [nI_clamp (Nat.lt_trans hi hn)] at h1 h2
    exact k H1 locs1 ls ⟨by rw [← hw]; exact h1, by rw [← hw]; exact h2, h3⟩ hl9)
theorem v_last (E : v_E p s m args meth c D tys cc nL Ts own (v_rw D A s)) {a n i : Nat} {cA : ClassId} {f : Nat → Int64} {x : Int64} {w' : va_W} (hdg : decode cc pc = .ok (.lastore, 1)) (q0 t0 : Nat) (ha : w[q0]? = some (a, .inl (cA, n, .inr (.inl f)))) (ht : tys[t0]? = some (cA, .long)) (hi : i < n) (hn : n < 2 ^ 31) (hw : w.set q0 (a, .inl (cA, n, .inr (.inl (vp_updL f i x)))) = w')
    (k : V p l e R s m args below meth c cells slots Q (v_rw D A s) nL (pc + 1) lv st w') : V p l e R s m args below meth c cells slots Q (v_rw D A s) nL pc lv (.long x :: .int (nI i) :: .ref a :: st) w :=
  fun H locs ls hP hl9 => va_last E.1 E.2.1 E.2.2.2.2.2.1 hP.1 hP.2.1 hP.2.2 q0 t0 ha ht (vp_in_nI hi hn) hdg (fun H1 locs1 h1 h2 h3 => by
    rw [nI_clamp (Nat.lt_trans hi hn)] at h1 h2
    exact k H1 locs1 ls ⟨by rw [← hw]; exact h1, by rw [← hw]; exact h2, h3⟩ hl9)
theorem v_zast (E : v_E p s m args meth c D tys cc nL Ts own (v_rw D A s)) {a n i : Nat} {cA : ClassId} {f : Nat → Int32} {b : Bool} {w' : va_W} (hdg : decode cc pc = .ok (.bastore, 1)) (q0 t0 : Nat) (ha : w[q0]? = some (a, .inl (cA, n, .inl f))) (ht : tys[t0]? = some (cA, .boolean)) (hi : i < n) (hn : n < 2 ^ 31) (hw : w.set q0 (a, .inl (cA, n, .inl (upd f i (bI b)))) = w')
    (k : V p l e R s m args below meth c cells slots Q (v_rw D A s) nL (pc + 1) lv st w') : V p l e R s m args below meth c cells slots Q (v_rw D A s) nL pc lv (.int (bI b) :: .int (nI i) :: .ref a :: st) w :=
  fun H locs ls hP hl9 => va_zast E.1 E.2.1 E.2.2.2.2.2.1 hP.1 hP.2.1 hP.2.2 q0 t0 ha ht (vp_in_nI hi hn) hdg (fun H1 locs1 h1 h2 h3 => by
    have e9 : vp_nar .boolean (bI b) = bI b := by cases b <;> rfl
    rw [nI_clamp (Nat.lt_trans hi hn), e9] at h1 h2
    exact k H1 locs1 ls ⟨by rw [← hw]; exact h1, by rw [← hw]; exact h2, h3⟩ hl9)
def v_pre (D : va_G) (tys : List (ClassId × FieldType)) (w : va_W) : State → Prop := fun U => va_P D vwCl w U.heap ∧ va_K D vwCl tys U
theorem v_preB {av : List Value} : FrameBlind (va_Pc av (v_pre D tys w)) := fun a U g mk q => ⟨q.1, q.2.1, va_K.moved (u := U) (U := U.calling g mk a) (Vm.Alike.refl U.vm) q.2.2⟩
theorem v_reader {y : MethodName} {ws ws' : List Cond} {rm : Room} {maxL : Nat} {ret : Option FieldType} {Qc : Array Value → State → Outcome → State → Prop} {av : List Value} {lv0 : List (Nat × Value)}
    (hy : plainName y.cls = true) (hw : ws = Cond.code y cc maxL ret :: ws') (ho : y.cls = own) (hn : (lg_sl av).length ≤ maxL) (hlv : lv_args 0 av = lv0)
    (body : ∀ (p : Program) (e : Env) (s : State) (m : MethodId) (args : Array Value) (below : List Frame) (meth : Method) (c : Code), v_E p s m args meth c D tys cc maxL ws own (v_ro D s) → meth.sig.returnType = ret →
      V p l e (headSpec ws rm).room s m args below meth c 0 0 (MQ below Qc args s 0 0 (fun _ => False)) (v_ro D s) maxL 0 lv0 [] w) : Met l y ws rm (va_Pc av (v_pre D tys w)) Qc 0 0 (fun _ => False) := by
  refine Met.ofW hy hw ?_
  intro p e s m args below meth c s₁ B hml hv
  obtain ⟨rfl, hP, hK⟩ := hv
  have h := body p e s m av.toArray below meth c ⟨B.exec, B.bytes, hml, atoms_spec (ws := ws) B.pre, by rw [← ho]; exact findClass_of_methodNamed B.named, hK, B.notSynchronized, fun _ _ _ q => q.1⟩ B.returns
  rw [lg_entry_eq]
  have hl := lv_entry av (n := maxL) hn
  rw [hlv] at hl
  exact h s.heap [] _ ⟨hP, rfl, rfl⟩ hl
theorem v_ret (E : v_E p s m args meth c D tys cc nL Ts own (v_ro D s)) {post : Int32 → Prop} {v : Int32} (hr : meth.sig.returnType = some .int) (hp : post v) (hdg : decode cc pc = .ok (.ireturn, 1)) : V p l e R s m args below meth c cells slots (MQ below (vp_Si post) args s cells slots (fun _ => False)) (v_ro D s) nL pc lv [.int v] w :=
  fun H locs ls hP hl => W.iret E.1 E.2.1 hr (fun t ht _ => ⟨v, rfl, hp, ht.trans hP.2.1⟩) (fun q hq => by rw [hP.2.2] at hq; cases hq) hdg E.2.2.2.2.2.2.1
theorem v_retz (E : v_E p s m args meth c D tys cc nL Ts own (v_ro D s)) {post : Int32 → Prop} {v : Int32} (hr : meth.sig.returnType = some .boolean) (hz : narrow .boolean (.int v) = .int v) (hp : post v) (hdg : decode cc pc = .ok (.ireturn, 1)) : V p l e R s m args below meth c cells slots (MQ below (vp_Si post) args s cells slots (fun _ => False)) (v_ro D s) nL pc lv [.int v] w :=
  fun H locs ls hP hl => W.zret E.1 E.2.1 hr hz (fun t ht _ => ⟨v, rfl, hp, ht.trans hP.2.1⟩) (fun q hq => by rw [hP.2.2] at hq; cases hq) hdg E.2.2.2.2.2.2.1
theorem v_retl (E : v_E p s m args meth c D tys cc nL Ts own (v_ro D s)) {post : Int64 → Prop} {v : Int64} (hr : meth.sig.returnType = some .long) (hp : post v) (hdg : decode cc pc = .ok (.lreturn, 1)) : V p l e R s m args below meth c cells slots (MQ below (vp_Sl post) args s cells slots (fun _ => False)) (v_ro D s) nL pc lv [.long v] w :=
  fun H locs ls hP hl => W.lret E.1 E.2.1 hr (fun t ht _ => ⟨v, rfl, hp, ht.trans hP.2.1⟩) (fun q hq => by rw [hP.2.2] at hq; cases hq) hdg E.2.2.2.2.2.2.1
theorem v_cVi (E : v_E p s m args meth c D tys cc nL Ts own Ph) {y : MethodName} {C : String} {index n maxL : Nat} {bytes : ByteArray} {ret : Option FieldType} {ws' : List Cond} {rm : Room} {b ci : Nat} {fs : List Value} {As st0 : List Value} {q : vw_C} {post : Int32 → Prop} {w' : va_W} (hdg : decode cc pc = .ok (.invokevirtual index, 3))
    (hM : Met l y ws' rm (va_Pc (.ref b :: As) (v_pre D tys w')) (vp_Si post) 0 0 (fun _ => False)) (cw : CallW R s args own C index y bytes maxL ret ws' rm 0 0 n) (q0 : Nat) (he : w[q0]? = some (b, .inr (ci, fs))) (hc : vwCl[ci]? = some q) (hC : q.1 = C) (hsub : ∀ H : Heap, va_P D vwCl w H → va_P D vwCl w' H) (hn : As.length = n) (hst : st0 = As.reverse ++ .ref b :: st) (hcs : cells ≤ R.cells ∧ slots ≤ R.slots) (hrm : (st.map fun v => v.category).sum ≤ 8)
    (k : ∀ r : Int32, post r → V p l e R s m args below meth c cells slots Q Ph nL (pc + 3) lv (.int r :: st) w) : V p l e R s m args below meth c cells slots Q Ph nL pc lv st0 w := by
  intro H locs ls hP hl
  have hPw := E.2.2.2.2.2.2.2 _ _ _ hP
  subst hC
  exact vp_callSi (W.runV (As := As) (rest := st) ⟨E.1, E.2.1, E.2.2.1, E.2.2.2.2.1, E.2.2.2.1⟩ hM cw ⟨v_preB, va_recv E.2.2.2.2.2.1 hPw hc he, fun U hU hW => ⟨rfl, by rw [hU]; exact hsub _ hPw, va_K.moved hW.alike E.2.2.2.2.2.1⟩⟩ rfl hn hl.1 hst (lv_room hrm) hdg ⟨hcs.1, hcs.2⟩) (fun r hr => k r hr H locs ls hP hl)
theorem v_cSi (E : v_E p s m args meth c D tys cc nL Ts own Ph) {y : MethodName} {index n maxL : Nat} {bytes : ByteArray} {ret : Option FieldType} {ws' : List Cond} {rm : Room} {As st0 : List Value} {post : Int32 → Prop} {w' : va_W} (hdg : decode cc pc = .ok (.invokestatic index, 3))
    (hM : Met l y ws' rm (va_Pc As (v_pre D tys w')) (vp_Si post) 0 0 (fun _ => False)) (cw : CallB R s args own index y bytes maxL ret ws' rm 0 0 n ∧ (Cond.static y).before args s = true) (hsub : ∀ H : Heap, va_P D vwCl w H → va_P D vwCl w' H) (hn : As.length = n) (hst : st0 = As.reverse ++ st) (hcs : cells ≤ R.cells ∧ slots ≤ R.slots) (hrm : (st.map fun v => v.category).sum ≤ 8)
    (k : ∀ r : Int32, post r → V p l e R s m args below meth c cells slots Q Ph nL (pc + 3) lv (.int r :: st) w) : V p l e R s m args below meth c cells slots Q Ph nL pc lv st0 w := by
  intro H locs ls hP hl
  have hPw := E.2.2.2.2.2.2.2 _ _ _ hP
  exact vp_callSi (W.runS (As := As) (rest := st) ⟨E.1, E.2.1, E.2.2.1, E.2.2.2.2.1, E.2.2.2.1⟩ hM cw ⟨v_preB, fun U hU hW => ⟨rfl, by rw [hU]; exact hsub _ hPw, va_K.moved hW.alike E.2.2.2.2.2.1⟩⟩ rfl hn hl.1 hst (lv_room hrm) hdg ⟨hcs.1, hcs.2⟩) (fun r hr => k r hr H locs ls hP hl)
theorem v_cVl (E : v_E p s m args meth c D tys cc nL Ts own Ph) {y : MethodName} {C : String} {index n maxL : Nat} {bytes : ByteArray} {ret : Option FieldType} {ws' : List Cond} {rm : Room} {b ci : Nat} {fs : List Value} {As st0 : List Value} {q : vw_C} {post : Int64 → Prop} {w' : va_W} (hdg : decode cc pc = .ok (.invokevirtual index, 3))
    (hM : Met l y ws' rm (va_Pc (.ref b :: As) (v_pre D tys w')) (vp_Sl post) 0 0 (fun _ => False)) (cw : CallW R s args own C index y bytes maxL ret ws' rm 0 0 n) (q0 : Nat) (he : w[q0]? = some (b, .inr (ci, fs))) (hc : vwCl[ci]? = some q) (hC : q.1 = C) (hsub : ∀ H : Heap, va_P D vwCl w H → va_P D vwCl w' H) (hn : As.length = n) (hst : st0 = As.reverse ++ .ref b :: st) (hcs : cells ≤ R.cells ∧ slots ≤ R.slots) (hrm : (st.map fun v => v.category).sum ≤ 8)
    (k : ∀ r : Int64, post r → V p l e R s m args below meth c cells slots Q Ph nL (pc + 3) lv (.long r :: st) w) : V p l e R s m args below meth c cells slots Q Ph nL pc lv st0 w := by
  intro H locs ls hP hl
  have hPw := E.2.2.2.2.2.2.2 _ _ _ hP
  subst hC
  exact vp_callSl (W.runV (As := As) (rest := st) ⟨E.1, E.2.1, E.2.2.1, E.2.2.2.2.1, E.2.2.2.1⟩ hM cw ⟨v_preB, va_recv E.2.2.2.2.2.1 hPw hc he, fun U hU hW => ⟨rfl, by rw [hU]; exact hsub _ hPw, va_K.moved hW.alike E.2.2.2.2.2.1⟩⟩ rfl hn hl.1 hst (lv_room hrm) hdg ⟨hcs.1, hcs.2⟩) (fun r hr => k r hr H locs ls hP hl)
theorem v_cSl (E : v_E p s m args meth c D tys cc nL Ts own Ph) {y : MethodName} {index n maxL : Nat} {bytes : ByteArray} {ret : Option FieldType} {ws' : List Cond} {rm : Room} {As st0 : List Value} {post : Int64 → Prop} {w' : va_W} (hdg : decode cc pc = .ok (.invokestatic index, 3))
    (hM : Met l y ws' rm (va_Pc As (v_pre D tys w')) (vp_Sl post) 0 0 (fun _ => False)) (cw : CallB R s args own index y bytes maxL ret ws' rm 0 0 n ∧ (Cond.static y).before args s = true) (hsub : ∀ H : Heap, va_P D vwCl w H → va_P D vwCl w' H) (hn : As.length = n) (hst : st0 = As.reverse ++ st) (hcs : cells ≤ R.cells ∧ slots ≤ R.slots) (hrm : (st.map fun v => v.category).sum ≤ 8)
    (k : ∀ r : Int64, post r → V p l e R s m args below meth c cells slots Q Ph nL (pc + 3) lv (.long r :: st) w) : V p l e R s m args below meth c cells slots Q Ph nL pc lv st0 w := by
  intro H locs ls hP hl
  have hPw := E.2.2.2.2.2.2.2 _ _ _ hP
  exact vp_callSl (W.runS (As := As) (rest := st) ⟨E.1, E.2.1, E.2.2.1, E.2.2.2.2.1, E.2.2.2.1⟩ hM cw ⟨v_preB, fun U hU hW => ⟨rfl, by rw [hU]; exact hsub _ hPw, va_K.moved hW.alike E.2.2.2.2.2.1⟩⟩ rfl hn hl.1 hst (lv_room hrm) hdg ⟨hcs.1, hcs.2⟩) (fun r hr => k r hr H locs ls hP hl)
theorem v_nil (H : Heap) : va_P D vwCl [] H := fun k q h => by simp at h
theorem v_mmax (E : v_E p s m args meth c D tys cc nL Ts own Ph) {index : Nat} {x y z : Int32} (hdg : decode cc pc = .ok (.invokestatic index, 3)) (h1 : Cond.methodLink own index Lib.Math.max.name ∈ Ts) (h2 : Cond.static Lib.Math.max.name ∈ Ts) (h3 : Cond.initialized "java/lang/Math" ∈ Ts) (h4 : Cond.code Lib.Math.max.name Lib.Math.max.code 2 (some .int) ∈ Ts) (hf : 1 ≤ R.frames) (hlo : (st.map fun v => v.category).sum + 13 ≤ R.locals) (hcs : cells ≤ R.cells ∧ slots ≤ R.slots) (hz : (if x < y then y else x) = z)
    (k : V p l e R s m args below meth c cells slots Q Ph nL (pc + 3) lv (.int z :: st) w) : V p l e R s m args below meth c cells slots Q Ph nL pc lv (.int y :: .int x :: st) w :=
  fun H locs ls hP hl => by subst hz; exact va_mmax E.1 E.2.1 (E.2.2.1.trans hl.1.symm) E.2.2.2.2.1 (E.2.2.2.1 _ h1) (E.2.2.2.1 _ h2) (E.2.2.2.1 _ h3) (E.2.2.2.1 _ h4) hf hlo hcs.1 hcs.2 hdg (k H locs ls hP hl)
end VCALL
section VRD
variable {p : Program} {l : Launch} {e : Env} {R : Room} {s : State} {m : MethodId} {args : Array Value} {below : List Frame} {meth : Method} {c : Code} {cells slots : Nat} {Q : State → Prop} {Ph : va_W → Heap → List Loc → Prop} {nL : Nat}
variable {D : va_G} {tys : List (ClassId × FieldType)} {cc : ByteArray} {Ts : List Cond} {own : String}
variable {pc : Nat} {lv : List (Nat × Value)} {st : List Value} {w : va_W}
/-- a reader's contract: from a heap that holds w it answers v, and leaves the heap -/
abbrev v_Rdi (l : Launch) (y : MethodName) (ws : List Cond) (rm : Room) (D : va_G) (tys : List (ClassId × FieldType)) (av : List Value) (w : va_W) (v : Int32) : Prop := Met l y ws rm (va_Pc av (v_pre D tys w)) (vp_Si (fun r => r = v)) 0 0 (fun _ => False)
abbrev v_Rdl (l : Launch) (y : MethodName) (ws : List Cond) (rm : Room) (D : va_G) (tys : List (ClassId × FieldType)) (av : List Value) (w : va_W) (v : Int64) : Prop := Met l y ws rm (va_Pc av (v_pre D tys w)) (vp_Sl (fun r => r = v)) 0 0 (fun _ => False)
theorem v_cVi' (E : v_E p s m args meth c D tys cc nL Ts own Ph) {y : MethodName} {C : String} {index n maxL : Nat} {bytes : ByteArray} {ret : Option FieldType} {ws' : List Cond} {rm : Room} {b ci : Nat} {fs : List Value} {As st0 : List Value} {q : vw_C} {v : Int32} {w' : va_W} (hdg : decode cc pc = .ok (.invokevirtual index, 3))
    (hM : v_Rdi l y ws' rm D tys (.ref b :: As) w' v) (cw : CallW R s args own C index y bytes maxL ret ws' rm 0 0 n) (q0 : Nat) (he : w[q0]? = some (b, .inr (ci, fs))) (hc : vwCl[ci]? = some q) (hC : q.1 = C) (hsub : ∀ H : Heap, va_P D vwCl w H → va_P D vwCl w' H) (hn : As.length = n) (hst : st0 = As.reverse ++ .ref b :: st) (hcs : cells ≤ R.cells ∧ slots ≤ R.slots) (hrm : (st.map fun v => v.category).sum ≤ 8)
    (k : V p l e R s m args below meth c cells slots Q Ph nL (pc + 3) lv (.int v :: st) w) : V p l e R s m args below meth c cells slots Q Ph nL pc lv st0 w := v_cVi E hdg hM cw q0 he hc hC hsub hn hst hcs hrm (fun r h => by have e9 : r = v := h; subst e9; exact k)
theorem v_cSi' (E : v_E p s m args meth c D tys cc nL Ts own Ph) {y : MethodName} {index n maxL : Nat} {bytes : ByteArray} {ret : Option FieldType} {ws' : List Cond} {rm : Room} {As st0 : List Value} {v : Int32} {w' : va_W} (hdg : decode cc pc = .ok (.invokestatic index, 3))
    (hM : v_Rdi l y ws' rm D tys As w' v) (cw : CallB R s args own index y bytes maxL ret ws' rm 0 0 n ∧ (Cond.static y).before args s = true) (hsub : ∀ H : Heap, va_P D vwCl w H → va_P D vwCl w' H) (hn : As.length = n) (hst : st0 = As.reverse ++ st) (hcs : cells ≤ R.cells ∧ slots ≤ R.slots) (hrm : (st.map fun v => v.category).sum ≤ 8)
    (k : V p l e R s m args below meth c cells slots Q Ph nL (pc + 3) lv (.int v :: st) w) : V p l e R s m args below meth c cells slots Q Ph nL pc lv st0 w := v_cSi E hdg hM cw hsub hn hst hcs hrm (fun r h => by have e9 : r = v := h; subst e9; exact k)
theorem v_cVl' (E : v_E p s m args meth c D tys cc nL Ts own Ph) {y : MethodName} {C : String} {index n maxL : Nat} {bytes : ByteArray} {ret : Option FieldType} {ws' : List Cond} {rm : Room} {b ci : Nat} {fs : List Value} {As st0 : List Value} {q : vw_C} {v : Int64} {w' : va_W} (hdg : decode cc pc = .ok (.invokevirtual index, 3))
    (hM : v_Rdl l y ws' rm D tys (.ref b :: As) w' v) (cw : CallW R s args own C index y bytes maxL ret ws' rm 0 0 n) (q0 : Nat) (he : w[q0]? = some (b, .inr (ci, fs))) (hc : vwCl[ci]? = some q) (hC : q.1 = C) (hsub : ∀ H : Heap, va_P D vwCl w H → va_P D vwCl w' H) (hn : As.length = n) (hst : st0 = As.reverse ++ .ref b :: st) (hcs : cells ≤ R.cells ∧ slots ≤ R.slots) (hrm : (st.map fun v => v.category).sum ≤ 8)
    (k : V p l e R s m args below meth c cells slots Q Ph nL (pc + 3) lv (.long v :: st) w) : V p l e R s m args below meth c cells slots Q Ph nL pc lv st0 w := v_cVl E hdg hM cw q0 he hc hC hsub hn hst hcs hrm (fun r h => by have e9 : r = v := h; subst e9; exact k)
theorem v_cSl' (E : v_E p s m args meth c D tys cc nL Ts own Ph) {y : MethodName} {index n maxL : Nat} {bytes : ByteArray} {ret : Option FieldType} {ws' : List Cond} {rm : Room} {As st0 : List Value} {v : Int64} {w' : va_W} (hdg : decode cc pc = .ok (.invokestatic index, 3))
    (hM : v_Rdl l y ws' rm D tys As w' v) (cw : CallB R s args own index y bytes maxL ret ws' rm 0 0 n ∧ (Cond.static y).before args s = true) (hsub : ∀ H : Heap, va_P D vwCl w H → va_P D vwCl w' H) (hn : As.length = n) (hst : st0 = As.reverse ++ st) (hcs : cells ≤ R.cells ∧ slots ≤ R.slots) (hrm : (st.map fun v => v.category).sum ≤ 8)
    (k : V p l e R s m args below meth c cells slots Q Ph nL (pc + 3) lv (.long v :: st) w) : V p l e R s m args below meth c cells slots Q Ph nL pc lv st0 w := v_cSl E hdg hM cw hsub hn hst hcs hrm (fun r h => by have e9 : r = v := h; subst e9; exact k)
end VRD
