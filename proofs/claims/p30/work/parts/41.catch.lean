/-! ===== the law's own callers: an exception is caught ===== -/
abbrev outE (cJ : ClassId) (o : Nat) (f : Nat → Int64) : Nat × va_E := (o, .inl (cJ, 1, .inr (.inl f)))
def mF (k : Nat) (g f : Nat → Int64) : Nat → Int64 := if k = 0 then g else f
theorem mF_0 {k : Nat} {g f : Nat → Int64} (h : k = 0) : mF k g f = g := if_pos h
theorem mF_n {k : Nat} {g f : Nat → Int64} (h : k ≠ 0) : mF k g f = f := if_neg h
theorem kk2_12 (b c : Bool) : kk2 b c = 0 ∨ kk2 b c = 1 ∨ kk2 b c = 2 := by cases b <;> cases c <;> decide
theorem kk1_12 (b : Bool) : kk1 b = 0 ∨ kk1 b = 1 := by cases b <;> decide
section VCATCH
variable {p : Program} {l : Launch} {e : Env} {R : Room} {s : State} {m : MethodId} {args : Array Value} {below : List Frame} {meth : Method} {c : Code} {cells slots : Nat} {Q : State → Prop} {nL : Nat}
variable {D : va_G} {tys : List (ClassId × FieldType)} {cc : ByteArray} {Ts : List Cond} {own : String}
variable {pc : Nat} {lv : List (Nat × Value)} {st : List Value} {w w' w2 : va_W} {A : Nat → Prop}
variable {k mc ms mc1 ms1 : Nat} {ex : Nat → String} {o : Option Value} {kz : Prop}
theorem v_throwerH {y : MethodName} {ws ws' : List Cond} {rm : Room} {maxL : Nat} {ret : Option FieldType} {hh : List (Nat × Nat × Nat × Nat)} {av : List Value} {lv0 : List (Nat × Value)}
    (hy : plainName y.cls = true) (hw : ws = Cond.codeWith y cc maxL ret hh :: ws') (ho : y.cls = own) (hn : (lg_sl av).length ≤ maxL) (hlv : lv_args 0 av = lv0)
    (body : ∀ (p : Program) (e : Env) (s : State) (m : MethodId) (args : Array Value) (below : List Frame) (meth : Method) (c : Code) (A : Nat → Prop), v_E p s m args meth c D tys cc maxL ws own (v_rw D A s) → (∀ q : Nat, s.heap.size ≤ q → A q) → c.exceptionTable.toList = tableOf hh → z_Tx A s s.heap → meth.sig.returnType = ret →
      V p l e (headSpec ws rm).room s m args below meth c 0 0 (vx_MQ below (v_Qo D tys (k = 0) o w' A) (v_XC D tys k ex w A) args s mc ms A) (v_rw D A s) maxL 0 lv0 [] w) : v_Thr l y ws rm D tys av w k ex o w' mc ms := by
  intro sz
  refine vx_ofWH hy hw ?_
  intro p e s m args below meth c s₁ B hml hv
  have htab := vx_table (x := y) B (atoms_spec (ws := ws) B.pre _ (by rw [hw]; exact List.mem_cons_self))
  obtain ⟨rfl, rfl, hP, hK, hD, hT⟩ := hv
  have hDs := hD.self (sz := s.heap.size)
  have h := body p e s m av.toArray below meth c (va_A w s.heap.size) ⟨B.exec, B.bytes, hml, atoms_spec (ws := ws) B.pre, by rw [← ho]; exact findClass_of_methodNamed B.named, hK, B.notSynchronized, fun _ _ _ q => q.1⟩ (fun q h => Or.inr h) htab hT B.returns
  rw [lg_entry_eq]
  have hl := lv_entry av (n := maxL) hn
  rw [hlv] at hl
  exact h s.heap [] _ ⟨hP, hDs, va_S.rf⟩ hl
theorem x_cast (hT : z_Tx A s s.heap) {n : String} (hn : n ∈ [xI, xG, xS]) : (Cond.castable n n).before args s = true := va_Nw.use rfl (hT.2.2.2.1 n hn)
/-- one handler -/
theorem x_cVc1 (E : v_E p s m args meth c D tys cc nL Ts own (v_rw D A s)) (hA : ∀ q : Nat, s.heap.size ≤ q → A q) (hT : z_Tx A s s.heap) {C : String} {b ci : Nat} {fs : List Value} {q : vw_C} {y : MethodName} {index n maxL : Nat} {bytes : ByteArray} {ret : Option FieldType} {ws' : List Cond} {rm : Room} {As st0 : List Value} (hdg : decode cc pc = .ok (.invokevirtual index, 3))
    (hM : v_Thr l y ws' rm D tys (.ref b :: As) w k ex o w' mc1 ms1) (cw : CallW R s args own C index y bytes maxL ret ws' rm mc1 ms1 n) (q0 : Nat) (he : w[q0]? = some (b, .inr (ci, fs))) (hc : vwCl[ci]? = some q) (hC : q.1 = C) (hn : As.length = n) (hst : st0 = As.reverse ++ .ref b :: st) (hcs : cells + mc1 ≤ R.cells ∧ slots + ms1 ≤ R.slots) (hrm : (st.map fun v => v.category).sum ≤ 8)
    {x : ExceptionTableEntry} {n1 : String} (htab : c.exceptionTable.toList = [x]) (hx : covers x pc = true) (h0 : x.catchType ≠ 0) (hl1 : Cond.classLink own x.catchType n1 ∈ Ts) (hn1 : n1 ∈ [xI, xG, xS]) (hE : k ≠ 0 → ex k = n1)
    (kx : k ≠ 0 → ∀ q9 : Nat, V p l e R s m args below meth c (cells + mc1) (slots + ms1) Q (v_rw D A s) nL x.handlerPc lv [.ref q9] w)
    (kk : k = 0 → V p l e R s m args below meth c (cells + mc1) (slots + ms1) Q (v_rw D A s) nL (pc + 3) lv (o.toList ++ st) w') : V p l e R s m args below meth c cells slots Q (v_rw D A s) nL pc lv st0 w :=
  x_cV E hA hT hdg hM cw q0 he hc hC hn hst hcs hrm (fun hk H1 locs1 ls q9 ce hP hl hce hcv hcl => by
    rw [hE hk] at hcl
    exact vx_catch (own := own) (name := n1) E.2.2.2.2.1 [] x [] htab (fun z hz => absurd hz (by simp)) hx h0 (E.2.2.2.1 _ hl1) (x_cast hT hn1) hce hcv hcl (kx hk q9 H1 locs1 ls hP hl)) kk
/-- two handlers -/
theorem x_cVc2 (E : v_E p s m args meth c D tys cc nL Ts own (v_rw D A s)) (hA : ∀ q : Nat, s.heap.size ≤ q → A q) (hT : z_Tx A s s.heap) {C : String} {b ci : Nat} {fs : List Value} {q : vw_C} {y : MethodName} {index n maxL : Nat} {bytes : ByteArray} {ret : Option FieldType} {ws' : List Cond} {rm : Room} {As st0 : List Value} (hdg : decode cc pc = .ok (.invokevirtual index, 3))
    (hM : v_Thr l y ws' rm D tys (.ref b :: As) w k ex o w' mc1 ms1) (cw : CallW R s args own C index y bytes maxL ret ws' rm mc1 ms1 n) (q0 : Nat) (he : w[q0]? = some (b, .inr (ci, fs))) (hc : vwCl[ci]? = some q) (hC : q.1 = C) (hn : As.length = n) (hst : st0 = As.reverse ++ .ref b :: st) (hcs : cells + mc1 ≤ R.cells ∧ slots + ms1 ≤ R.slots) (hrm : (st.map fun v => v.category).sum ≤ 8)
    {x x2 : ExceptionTableEntry} {n1 n2 : String} (htab : c.exceptionTable.toList = [x, x2]) (hx : covers x pc = true) (h0 : x.catchType ≠ 0) (hl1 : Cond.classLink own x.catchType n1 ∈ Ts) (hn1 : n1 ∈ [xI, xG, xS]) (hx2 : covers x2 pc = true) (h02 : x2.catchType ≠ 0) (hl2 : Cond.classLink own x2.catchType n2 ∈ Ts) (hn2 : n2 ∈ [xI, xG, xS]) (hne : n2 ≠ n1) (h12 : k = 0 ∨ k = 1 ∨ k = 2) (hE1 : ex 1 = n1) (hE2 : ex 2 = n2)
    (kx : k = 1 → ∀ q9 : Nat, V p l e R s m args below meth c (cells + mc1) (slots + ms1) Q (v_rw D A s) nL x.handlerPc lv [.ref q9] w)
    (kx2 : k = 2 → ∀ q9 : Nat, V p l e R s m args below meth c (cells + mc1) (slots + ms1) Q (v_rw D A s) nL x2.handlerPc lv [.ref q9] w)
    (kk : k = 0 → V p l e R s m args below meth c (cells + mc1) (slots + ms1) Q (v_rw D A s) nL (pc + 3) lv (o.toList ++ st) w') : V p l e R s m args below meth c cells slots Q (v_rw D A s) nL pc lv st0 w :=
  x_cV E hA hT hdg hM cw q0 he hc hC hn hst hcs hrm (fun hk H1 locs1 ls q9 ce hP hl hce hcv hcl => by
    rcases h12 with h | h | h
    · exact absurd h hk
    · rw [h, hE1] at hcl
      exact vx_catch (own := own) (name := n1) E.2.2.2.2.1 [] x [x2] htab (fun z hz => absurd hz (by simp)) hx h0 (E.2.2.2.1 _ hl1) (x_cast hT hn1) hce hcv hcl (kx h q9 H1 locs1 ls hP hl)
    · rw [h, hE2] at hcl
      exact vx_catch (own := own) (name := n2) E.2.2.2.2.1 [x] x2 [] htab (fun z hz => by
        rw [List.mem_singleton] at hz
        subst hz
        exact Or.inr ⟨h0, n1, E.2.2.2.1 _ hl1, hT.2.2.2.2.2 n2 hn2 n1 hn1 hne⟩) hx2 h02 (E.2.2.2.1 _ hl2) (x_cast hT hn2) hce hcv hcl (kx2 h q9 H1 locs1 ls hP hl)) kk
end VCATCH
theorem outE_perm {cJ : ClassId} {o : Nat} {f : Nat → Int64} {w : va_W} : (outE cJ o f :: w).Perm (w ++ [outE cJ o f]) := List.perm_append_comm (l₁ := [outE cJ o f])
