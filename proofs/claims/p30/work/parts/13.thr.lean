/-! ===== writers and throwers ===== -/
def xI : String := "java/lang/IndexOutOfBoundsException"
def xG : String := "java/lang/IllegalArgumentException"
def xS : String := "java/lang/IllegalStateException"
abbrev xnm : List String := ["java/lang/RuntimeException", "java/lang/Exception"]
def zstr : List (Nat × String) := [(63, "no such part"), (74, "there are 40 commits"), (77, "there are 12 tests"), (81, "the limit is not 1 to 10"), (84, "the window is not 1 to 40"), (86, "the noise is not 0 to 20"), (98, "the test has 200 runs"), (104, "the bad commit is not later than the good one"), (126, "the test is in the queue already"), (131, "the budget is not 0 to 100"), (137, "the queue is empty"), (139, "nothing is left of the budget"), (173, "parts are not 0 to 65535"), (175, "no such test"), (177, "no such commit"), (179, "the test is not in triage")]
def zdec : List MethodName := [Bundle.initS "java/lang/RuntimeException", Bundle.initS "java/lang/Exception", Bundle.initS Bundle.tN]
/-- what the Statement gives of the start for throws: the two statics, the texts, the classes -/
def z_Tx (A : Nat → Prop) (U : State) (H : Heap) : Prop :=
  vx_Zq Bundle.tN "UNASSIGNED_STACK" Bundle.steD A U H ∧ vx_Zq Bundle.tN "SUPPRESSED_SENTINEL" Bundle.listD A U H ∧ (∀ y ∈ zdec, va_Nw (.declares y) U) ∧ (∀ X ∈ [xI, xG, xS], va_Nw (.castable X X) U) ∧ (∀ x ∈ zstr, ∃ q : Nat, vk_R RX1 x.1 x.2 q U) ∧ (∀ X ∈ [xI, xG, xS], ∀ Y ∈ [xI, xG, xS], X ≠ Y → va_Nc X Y U)
theorem va_Nc.moved9 {C T : String} {u U : State} (hvm : u.vm.Alike U.vm) (h : va_Nc C T u) : va_Nc C T U := by
  obtain ⟨c, t, h1, h2, h3⟩ := h
  exact ⟨c, t, by rw [hvm.findClass]; exact h1, by rw [hvm.findClass]; exact h2, by rw [← h3]; exact hvm.assignable c t⟩
theorem z_Tx.go {A A' : Nat → Prop} {s U : State} {H H' : Heap} (h : z_Tx A s H) (hW : s.WarmedH U.vm) (hq : ∀ a : Nat, a < H.size → ¬ A a → H'[a]? = H[a]?) (hA : ∀ q, A' q → A q) : z_Tx A' U H' :=
  ⟨((h.1.moved hW.alike).kept hq).narrow hA, ((h.2.1.moved hW.alike).kept hq).narrow hA, fun y hy => va_Nw.warmD hW (h.2.2.1 y hy), fun X hX => va_Nw.warmC hW (h.2.2.2.1 X hX), fun x hx => by
    obtain ⟨q, hq⟩ := h.2.2.2.2.1 x hx
    exact ⟨q, vk_R.warm hW hq⟩, fun X hX Y hY hne => va_Nc.moved9 hW.alike (h.2.2.2.2.2 X hX Y hY hne)⟩
section VTHR
variable {p : Program} {l : Launch} {e : Env} {R : Room} {s : State} {m : MethodId} {args : Array Value} {below : List Frame} {meth : Method} {c : Code} {cells slots : Nat} {Q : State → Prop} {nL : Nat}
variable {D : va_G} {tys : List (ClassId × FieldType)} {cc : ByteArray} {Ts : List Cond} {own : String}
variable {pc : Nat} {lv : List (Nat × Value)} {st : List Value} {w w' w2 : va_W} {A : Nat → Prop}
variable {k k2 mc ms mc1 ms1 : Nat} {ex ex2 : Nat → String} {o o2 : Option Value} {kz : Prop}
def v_preX (D : va_G) (tys : List (ClassId × FieldType)) (w : va_W) (sz : Nat) : State → Prop := fun U => U.heap.size = sz ∧ va_P D vwCl w U.heap ∧ va_K D vwCl tys U ∧ va_D (fun _ => True) w ∧ z_Tx (va_A w sz) U U.heap
theorem v_preXB {av : List Value} {sz : Nat} : FrameBlind (va_Pc av (v_preX D tys w sz)) := fun a U g mk q => ⟨q.1, q.2.1, q.2.2.1, va_K.moved (u := U) (U := U.calling g mk a) (Vm.Alike.refl U.vm) q.2.2.2.1, q.2.2.2.2.1, z_Tx.go (s := U) (U := U.calling g mk a) q.2.2.2.2.2 (State.WarmedH.refl U) (fun _ _ _ => rfl) (fun _ h => h)⟩
/-- a return: the value, the world behind it -/
def v_Qo (D : va_G) (tys : List (ClassId × FieldType)) (kz : Prop) (o : Option Value) (w : va_W) (A : Nat → Prop) : Array Value → State → Outcome → State → Prop := fun _ st oc t => (kz ∧ oc = .returned o ∧ va_P D vwCl w t.heap ∧ va_K D vwCl tys t ∧ va_D A w) ∧ va_F A st t
/-- a throw: its class, the world as it was -/
def v_XC (D : va_G) (tys : List (ClassId × FieldType)) (k : Nat) (ex : Nat → String) (w : va_W) (A : Nat → Prop) : String → State → State → Prop := fun E st t => k ≠ 0 ∧ E = ex k ∧ va_P D vwCl w t.heap ∧ va_K D vwCl tys t ∧ va_D A w ∧ va_F A st t
/-- the contract of a method that writes or throws: k = 0: it returns o, the world becomes w'; else it throws ex k, the world stays -/
def v_Thr (l : Launch) (y : MethodName) (ws : List Cond) (rm : Room) (D : va_G) (tys : List (ClassId × FieldType)) (av : List Value) (w : va_W) (k : Nat) (ex : Nat → String) (o : Option Value) (w' : va_W) (mc ms : Nat) : Prop :=
  ∀ sz : Nat, vx_Met l y ws rm (va_Pc av (v_preX D tys w sz)) (v_Qo D tys (k = 0) o w' (va_A w sz)) (v_XC D tys k ex w (va_A w sz)) mc ms (va_A w sz)
theorem v_thrower {y : MethodName} {ws ws' : List Cond} {rm : Room} {maxL : Nat} {ret : Option FieldType} {av : List Value} {lv0 : List (Nat × Value)}
    (hy : plainName y.cls = true) (hw : ws = Cond.code y cc maxL ret :: ws') (ho : y.cls = own) (hn : (lg_sl av).length ≤ maxL) (hlv : lv_args 0 av = lv0)
    (body : ∀ (p : Program) (e : Env) (s : State) (m : MethodId) (args : Array Value) (below : List Frame) (meth : Method) (c : Code) (A : Nat → Prop), v_E p s m args meth c D tys cc maxL ws own (v_rw D A s) → (∀ q : Nat, s.heap.size ≤ q → A q) → (∀ x ∈ c.exceptionTable.toList, False) → z_Tx A s s.heap → meth.sig.returnType = ret →
      V p l e (headSpec ws rm).room s m args below meth c 0 0 (vx_MQ below (v_Qo D tys (k = 0) o w' A) (v_XC D tys k ex w A) args s mc ms A) (v_rw D A s) maxL 0 lv0 [] w) : v_Thr l y ws rm D tys av w k ex o w' mc ms := by
  intro sz
  refine vx_ofW hy hw ?_
  intro p e s m args below meth c s₁ B hml htab hv
  obtain ⟨rfl, rfl, hP, hK, hD, hT⟩ := hv
  have hDs := hD.self (sz := s.heap.size)
  have h := body p e s m av.toArray below meth c (va_A w s.heap.size) ⟨B.exec, B.bytes, hml, atoms_spec (ws := ws) B.pre, by rw [← ho]; exact findClass_of_methodNamed B.named, hK, B.notSynchronized, fun _ _ _ q => q.1⟩ (fun q h => Or.inr h) htab hT B.returns
  rw [lg_entry_eq]
  have hl := lv_entry av (n := maxL) hn
  rw [hlv] at hl
  exact h s.heap [] _ ⟨hP, hDs, va_S.rf⟩ hl
theorem x_ret (E : v_E p s m args meth c D tys cc nL Ts own (v_rw D A s)) {v : Int32} (hr : meth.sig.returnType = some .int) (hk : kz) (ho : o = (some (.int v))) (hc : cells ≤ mc) (hs : slots ≤ ms) (hdg : decode cc pc = .ok (.ireturn, 1)) : V p l e R s m args below meth c cells slots (vx_MQ below (v_Qo D tys kz o w A) (v_XC D tys k ex w2 A) args s mc ms A) (v_rw D A s) nL pc lv [.int v] w := by
  subst ho
  intro H locs ls hP hl
  refine W.widen (k := mc) (n := ms) hc hs (vx_ret ?_)
  exact W.iret E.1 E.2.1 hr (fun t ht hW => ⟨⟨hk, rfl, by rw [ht]; exact hP.1, va_K.moved hW.alike E.2.2.2.2.2.1, hP.2.1⟩, hP.2.2.F ht⟩) hP.2.2.2.2 hdg E.2.2.2.2.2.2.1
theorem x_retz (E : v_E p s m args meth c D tys cc nL Ts own (v_rw D A s)) {v : Int32} (hr : meth.sig.returnType = some .boolean) (hz : narrow .boolean (.int v) = .int v) (hk : kz) (ho : o = (some (.int v))) (hc : cells ≤ mc) (hs : slots ≤ ms) (hdg : decode cc pc = .ok (.ireturn, 1)) : V p l e R s m args below meth c cells slots (vx_MQ below (v_Qo D tys kz o w A) (v_XC D tys k ex w2 A) args s mc ms A) (v_rw D A s) nL pc lv [.int v] w := by
  subst ho
  intro H locs ls hP hl
  refine W.widen (k := mc) (n := ms) hc hs (vx_ret ?_)
  exact W.zret E.1 E.2.1 hr hz (fun t ht hW => ⟨⟨hk, rfl, by rw [ht]; exact hP.1, va_K.moved hW.alike E.2.2.2.2.2.1, hP.2.1⟩, hP.2.2.F ht⟩) hP.2.2.2.2 hdg E.2.2.2.2.2.2.1
theorem x_retv (E : v_E p s m args meth c D tys cc nL Ts own (v_rw D A s)) (hr : meth.sig.returnType = none) (hk : kz) (ho : o = none) (hc : cells ≤ mc) (hs : slots ≤ ms) (hdg : decode cc pc = .ok (.return_, 1)) : V p l e R s m args below meth c cells slots (vx_MQ below (v_Qo D tys kz o w A) (v_XC D tys k ex w2 A) args s mc ms A) (v_rw D A s) nL pc lv [] w := by
  subst ho
  intro H locs ls hP hl
  refine W.widen (k := mc) (n := ms) hc hs (vx_ret ?_)
  exact W.vret E.1 E.2.1 hr (fun t ht hW => ⟨⟨hk, rfl, by rw [ht]; exact hP.1, va_K.moved hW.alike E.2.2.2.2.2.1, hP.2.1⟩, hP.2.2.F ht⟩) hP.2.2.2.2 hdg E.2.2.2.2.2.2.1
theorem x_retl (E : v_E p s m args meth c D tys cc nL Ts own (v_rw D A s)) {v : Int64} (hr : meth.sig.returnType = some .long) (hk : kz) (ho : o = (some (.long v))) (hc : cells ≤ mc) (hs : slots ≤ ms) (hdg : decode cc pc = .ok (.lreturn, 1)) : V p l e R s m args below meth c cells slots (vx_MQ below (v_Qo D tys kz o w A) (v_XC D tys k ex w2 A) args s mc ms A) (v_rw D A s) nL pc lv [.long v] w := by
  subst ho
  intro H locs ls hP hl
  refine W.widen (k := mc) (n := ms) hc hs (vx_ret ?_)
  exact W.lret E.1 E.2.1 hr (fun t ht hW => ⟨⟨hk, rfl, by rw [ht]; exact hP.1, va_K.moved hW.alike E.2.2.2.2.2.1, hP.2.1⟩, hP.2.2.F ht⟩) hP.2.2.2.2 hdg E.2.2.2.2.2.2.1
theorem x_wordsI {args : Array Value} {s : State} {A : Nat → Prop} {H : Heap} (hT : z_Tx A s H) (h1 : ∀ w ∈ (vx_atS RX1 65 "java/lang/IndexOutOfBoundsException" xnm).filter goodWord, w.before args s = true) : ∀ w ∈ vx_atS RX1 65 "java/lang/IndexOutOfBoundsException" xnm, w.before args s = true :=
  vx_hat (B := [.declares (Bundle.initS "java/lang/RuntimeException"), .declares (Bundle.initS "java/lang/Exception"), .declares (Bundle.initS Bundle.tN), .castable "java/lang/IndexOutOfBoundsException" "java/lang/IndexOutOfBoundsException"]) h1 (by decide +kernel) (vx_c (va_Nw.use rfl (hT.2.2.1 _ (by decide +kernel))) (vx_c (va_Nw.use rfl (hT.2.2.1 _ (by decide +kernel))) (vx_c (va_Nw.use rfl (hT.2.2.1 _ (by decide +kernel))) (vx_c (va_Nw.use rfl (hT.2.2.2.1 _ (by decide +kernel))) vx_n))))
theorem x_throwI {cc : ByteArray} (E : v_E p s m args meth c D tys cc nL Ts RX1 (v_rw D A s)) (htab : ∀ x ∈ c.exceptionTable.toList, False) (hT : z_Tx A s s.heap) (hl : l.stackTraces = false) {is : Nat} {text : String} (hs9 : (is, text) ∈ zstr)
    (d0 : decode cc pc = .ok (.new 61, 3)) (d3 : decode cc (pc + 3) = .ok (.dup, 1)) (d4 : decode cc (pc + 4) = .ok (.ldc is, 2)) (d6 : decode cc (pc + 6) = .ok (.invokespecial 65, 3)) (d9 : decode cc (pc + 9) = .ok (.athrow, 1))
    (h1 : Cond.classLink RX1 61 "java/lang/IndexOutOfBoundsException" ∈ Ts) (h2 : Cond.initialized "java/lang/IndexOutOfBoundsException" ∈ Ts) (h3 : ∀ w ∈ (vx_atS RX1 65 "java/lang/IndexOutOfBoundsException" xnm).filter goodWord, w ∈ Ts) (hk : k ≠ 0) (hx : ex k = "java/lang/IndexOutOfBoundsException")
    (hRf : 5 < R.frames) (hRl : (st.map fun v => v.category).sum + 82 ≤ R.locals) (hRc : cells + 1 ≤ R.cells) (hRs : slots + 6 ≤ R.slots) (hc : cells + 1 ≤ mc) (hs : slots + 6 ≤ ms) : V p l e R s m args below meth c cells slots (vx_MQ below (v_Qo D tys kz o w' A) (v_XC D tys k ex w A) args s mc ms A) (v_rw D A s) nL pc lv st w := by
  intro H locs ls hP hlv
  obtain ⟨sa, hsa⟩ := hT.2.2.2.2.1 _ hs9
  exact vx_throwS (cls := "java/lang/IndexOutOfBoundsException") (names := xnm) (sa := sa) (A := A) E.1 E.2.1 hl E.2.2.2.2.1 (by decide +kernel) (by decide +kernel) (E.2.2.2.1 _ h1) (E.2.2.2.1 _ h2) hsa (x_wordsI hT (fun w h => E.2.2.2.1 w (h3 w h))) (by decide +kernel) hT.1 hT.2.1 hP.2.2 (hlv.1.trans E.2.2.1.symm) d0 d3 d4 d6 d9 (fun x hx9 => (htab x hx9).elim) hRf hRl hRc hRs E.2.2.2.2.2.2.1
    (fun t hal hz hq => ⟨hk, hx.symm, hP.1.kept (fun k9 x9 h9 => hq _ (hP.1 k9 x9 h9).lt), va_K.moved hal E.2.2.2.2.2.1, hP.2.1, ⟨Nat.le_trans hP.2.2.1 hz, fun q h9 h8 => (hq q (Nat.lt_of_lt_of_le h9 hP.2.2.1)).trans (hP.2.2.2.1 q h9 h8)⟩⟩)
    hP.2.2.2.2 hc hs
theorem x_wordsG {args : Array Value} {s : State} {A : Nat → Prop} {H : Heap} (hT : z_Tx A s H) (h1 : ∀ w ∈ (vx_atS RX1 83 "java/lang/IllegalArgumentException" xnm).filter goodWord, w.before args s = true) : ∀ w ∈ vx_atS RX1 83 "java/lang/IllegalArgumentException" xnm, w.before args s = true :=
  vx_hat (B := [.declares (Bundle.initS "java/lang/RuntimeException"), .declares (Bundle.initS "java/lang/Exception"), .declares (Bundle.initS Bundle.tN), .castable "java/lang/IllegalArgumentException" "java/lang/IllegalArgumentException"]) h1 (by decide +kernel) (vx_c (va_Nw.use rfl (hT.2.2.1 _ (by decide +kernel))) (vx_c (va_Nw.use rfl (hT.2.2.1 _ (by decide +kernel))) (vx_c (va_Nw.use rfl (hT.2.2.1 _ (by decide +kernel))) (vx_c (va_Nw.use rfl (hT.2.2.2.1 _ (by decide +kernel))) vx_n))))
theorem x_throwG {cc : ByteArray} (E : v_E p s m args meth c D tys cc nL Ts RX1 (v_rw D A s)) (htab : ∀ x ∈ c.exceptionTable.toList, False) (hT : z_Tx A s s.heap) (hl : l.stackTraces = false) {is : Nat} {text : String} (hs9 : (is, text) ∈ zstr)
    (d0 : decode cc pc = .ok (.new 79, 3)) (d3 : decode cc (pc + 3) = .ok (.dup, 1)) (d4 : decode cc (pc + 4) = .ok (.ldc is, 2)) (d6 : decode cc (pc + 6) = .ok (.invokespecial 83, 3)) (d9 : decode cc (pc + 9) = .ok (.athrow, 1))
    (h1 : Cond.classLink RX1 79 "java/lang/IllegalArgumentException" ∈ Ts) (h2 : Cond.initialized "java/lang/IllegalArgumentException" ∈ Ts) (h3 : ∀ w ∈ (vx_atS RX1 83 "java/lang/IllegalArgumentException" xnm).filter goodWord, w ∈ Ts) (hk : k ≠ 0) (hx : ex k = "java/lang/IllegalArgumentException")
    (hRf : 5 < R.frames) (hRl : (st.map fun v => v.category).sum + 82 ≤ R.locals) (hRc : cells + 1 ≤ R.cells) (hRs : slots + 6 ≤ R.slots) (hc : cells + 1 ≤ mc) (hs : slots + 6 ≤ ms) : V p l e R s m args below meth c cells slots (vx_MQ below (v_Qo D tys kz o w' A) (v_XC D tys k ex w A) args s mc ms A) (v_rw D A s) nL pc lv st w := by
  intro H locs ls hP hlv
  obtain ⟨sa, hsa⟩ := hT.2.2.2.2.1 _ hs9
  exact vx_throwS (cls := "java/lang/IllegalArgumentException") (names := xnm) (sa := sa) (A := A) E.1 E.2.1 hl E.2.2.2.2.1 (by decide +kernel) (by decide +kernel) (E.2.2.2.1 _ h1) (E.2.2.2.1 _ h2) hsa (x_wordsG hT (fun w h => E.2.2.2.1 w (h3 w h))) (by decide +kernel) hT.1 hT.2.1 hP.2.2 (hlv.1.trans E.2.2.1.symm) d0 d3 d4 d6 d9 (fun x hx9 => (htab x hx9).elim) hRf hRl hRc hRs E.2.2.2.2.2.2.1
    (fun t hal hz hq => ⟨hk, hx.symm, hP.1.kept (fun k9 x9 h9 => hq _ (hP.1 k9 x9 h9).lt), va_K.moved hal E.2.2.2.2.2.1, hP.2.1, ⟨Nat.le_trans hP.2.2.1 hz, fun q h9 h8 => (hq q (Nat.lt_of_lt_of_le h9 hP.2.2.1)).trans (hP.2.2.2.1 q h9 h8)⟩⟩)
    hP.2.2.2.2 hc hs
theorem x_wordsS {args : Array Value} {s : State} {A : Nat → Prop} {H : Heap} (hT : z_Tx A s H) (h1 : ∀ w ∈ (vx_atS RX1 76 "java/lang/IllegalStateException" xnm).filter goodWord, w.before args s = true) : ∀ w ∈ vx_atS RX1 76 "java/lang/IllegalStateException" xnm, w.before args s = true :=
  vx_hat (B := [.declares (Bundle.initS "java/lang/RuntimeException"), .declares (Bundle.initS "java/lang/Exception"), .declares (Bundle.initS Bundle.tN), .castable "java/lang/IllegalStateException" "java/lang/IllegalStateException"]) h1 (by decide +kernel) (vx_c (va_Nw.use rfl (hT.2.2.1 _ (by decide +kernel))) (vx_c (va_Nw.use rfl (hT.2.2.1 _ (by decide +kernel))) (vx_c (va_Nw.use rfl (hT.2.2.1 _ (by decide +kernel))) (vx_c (va_Nw.use rfl (hT.2.2.2.1 _ (by decide +kernel))) vx_n))))
theorem x_throwS {cc : ByteArray} (E : v_E p s m args meth c D tys cc nL Ts RX1 (v_rw D A s)) (htab : ∀ x ∈ c.exceptionTable.toList, False) (hT : z_Tx A s s.heap) (hl : l.stackTraces = false) {is : Nat} {text : String} (hs9 : (is, text) ∈ zstr)
    (d0 : decode cc pc = .ok (.new 72, 3)) (d3 : decode cc (pc + 3) = .ok (.dup, 1)) (d4 : decode cc (pc + 4) = .ok (.ldc is, 2)) (d6 : decode cc (pc + 6) = .ok (.invokespecial 76, 3)) (d9 : decode cc (pc + 9) = .ok (.athrow, 1))
    (h1 : Cond.classLink RX1 72 "java/lang/IllegalStateException" ∈ Ts) (h2 : Cond.initialized "java/lang/IllegalStateException" ∈ Ts) (h3 : ∀ w ∈ (vx_atS RX1 76 "java/lang/IllegalStateException" xnm).filter goodWord, w ∈ Ts) (hk : k ≠ 0) (hx : ex k = "java/lang/IllegalStateException")
    (hRf : 5 < R.frames) (hRl : (st.map fun v => v.category).sum + 82 ≤ R.locals) (hRc : cells + 1 ≤ R.cells) (hRs : slots + 6 ≤ R.slots) (hc : cells + 1 ≤ mc) (hs : slots + 6 ≤ ms) : V p l e R s m args below meth c cells slots (vx_MQ below (v_Qo D tys kz o w' A) (v_XC D tys k ex w A) args s mc ms A) (v_rw D A s) nL pc lv st w := by
  intro H locs ls hP hlv
  obtain ⟨sa, hsa⟩ := hT.2.2.2.2.1 _ hs9
  exact vx_throwS (cls := "java/lang/IllegalStateException") (names := xnm) (sa := sa) (A := A) E.1 E.2.1 hl E.2.2.2.2.1 (by decide +kernel) (by decide +kernel) (E.2.2.2.1 _ h1) (E.2.2.2.1 _ h2) hsa (x_wordsS hT (fun w h => E.2.2.2.1 w (h3 w h))) (by decide +kernel) hT.1 hT.2.1 hP.2.2 (hlv.1.trans E.2.2.1.symm) d0 d3 d4 d6 d9 (fun x hx9 => (htab x hx9).elim) hRf hRl hRc hRs E.2.2.2.2.2.2.1
    (fun t hal hz hq => ⟨hk, hx.symm, hP.1.kept (fun k9 x9 h9 => hq _ (hP.1 k9 x9 h9).lt), va_K.moved hal E.2.2.2.2.2.1, hP.2.1, ⟨Nat.le_trans hP.2.2.1 hz, fun q h9 h8 => (hq q (Nat.lt_of_lt_of_le h9 hP.2.2.1)).trans (hP.2.2.2.1 q h9 h8)⟩⟩)
    hP.2.2.2.2 hc hs
theorem v_freeA (hA : ∀ q : Nat, s.heap.size ≤ q → A q) {H : Heap} {locs : List Loc} (hP : v_rw D A s w H locs) : ∀ q, va_A w H.size q → A q := by
  intro q h
  rcases h with ⟨k9, e9, h⟩ | h
  · exact hP.2.1.2 k9 (q, e9) h
  · exact hA q (Nat.le_trans hP.2.2.1 h)
theorem v_preXof (E : v_E p s m args meth c D tys cc nL Ts own (v_rw D A s)) (hA : ∀ q : Nat, s.heap.size ≤ q → A q) (hT : z_Tx A s s.heap) {H : Heap} {locs : List Loc} (hP : v_rw D A s w H locs) {av : List Value} : ∀ U : State, U.heap = H → s.WarmedH U.vm → va_Pc av (v_preX D tys w H.size) av.toArray U := fun U hU hW =>
  ⟨rfl, by rw [hU], by rw [hU]; exact hP.1, va_K.moved hW.alike E.2.2.2.2.2.1, hP.2.1.weaken (fun _ _ _ _ => trivial), hT.go hW (fun a h1 h2 => by rw [hU]; exact hP.2.2.2.1 a h1 h2) (v_freeA hA hP)⟩
/-- behind a run of a writer: it came back, or it threw -/
theorem v_behind (E : v_E p s m args meth c D tys cc nL Ts own (v_rw D A s)) (hA : ∀ q : Nat, s.heap.size ≤ q → A q) {H : Heap} {locs : List Loc} {ls : Array Slot} (hP : v_rw D A s w H locs) (hl : lv_has ls nL lv) {av : Array Value} {st0 : List Value}
    (hr : vx_Run p l e R s m args below meth c H locs cells slots mc1 ms1 (F0 m pc ls st0) st (v_Qo D tys (k = 0) o w' (va_A w H.size) av) (v_XC D tys k ex w (va_A w H.size)) (va_A w H.size))
    (kx : k ≠ 0 → ∀ (H1 : Heap) (locs1 : List Loc) (ls : Array Slot) (q9 : Addr) (ce : Cell), v_rw D A s w H1 locs1 → lv_has ls nL lv → H1[q9]? = some ce → ce.vm = .none → s.vm.findClass (ex k) = some ce.cls → vx_W p l e R s m args below meth c H1 locs1 (cells + mc1) (slots + ms1) Q (F0 m pc ls st) q9)
    (kk : k = 0 → V p l e R s m args below meth c (cells + mc1) (slots + ms1) Q (v_rw D A s) nL (pc + 3) lv (o.toList ++ st) w') : W p l e R s m args below meth c H locs cells slots Q (F0 m pc ls st0) := by
  have hF9 := v_freeA hA hP
  intro T hT X
  rcases hr T hT X with ⟨v, st₀, t, T', L, h0, X', hL, e1, e2, ⟨⟨hk0, hv, hP', -, hD'⟩, hF⟩, stp⟩ | ⟨q, st₀, t, T', L, E', ce, h0, X', hL, e1, e2, ⟨hk0, hE, hP', -, hD', hF⟩, hce, hcv, hcl, stp⟩
  · cases hv
    obtain ⟨-, -, k3⟩ := vx_keep h0 e1 hP.2.2 (fun q _ h => hF9 q h) hF9 hL hF
    obtain ⟨t2, a1, b1⟩ := kk hk0 T'.heap (locs ++ L) ls ⟨by rw [e1]; exact hP', hD'.weaken (fun k9 q _ h => hF9 q.1 h), k3⟩ hl T' rfl X'
    exact ⟨t2, stp t2 a1, b1⟩
  · subst hE
    obtain ⟨-, -, k3⟩ := vx_keep h0 e1 hP.2.2 (fun q _ h => hF9 q h) hF9 hL hF
    obtain ⟨t2, a1, b1⟩ := kx hk0 T'.heap (locs ++ L) ls q ce ⟨by rw [e1]; exact hP', hD'.weaken (fun k9 q _ h => hF9 q.1 h), k3⟩ hl (by rw [e1]; exact hce) hcv hcl T' rfl X'
    exact ⟨t2, stp.trans a1, b1⟩
theorem x_cV (E : v_E p s m args meth c D tys cc nL Ts own (v_rw D A s)) (hA : ∀ q : Nat, s.heap.size ≤ q → A q) (hT : z_Tx A s s.heap) {C : String} {b ci : Nat} {fs : List Value} {q : vw_C} {y : MethodName} {index n maxL : Nat} {bytes : ByteArray} {ret : Option FieldType} {ws' : List Cond} {rm : Room} {As st0 : List Value} (hdg : decode cc pc = .ok (.invokevirtual index, 3))
    (hM : v_Thr l y ws' rm D tys (.ref b :: As) w k ex o w' mc1 ms1) (cw : CallW R s args own C index y bytes maxL ret ws' rm mc1 ms1 n) (q0 : Nat) (he : w[q0]? = some (b, .inr (ci, fs))) (hc : vwCl[ci]? = some q) (hC : q.1 = C) (hn : As.length = n) (hst : st0 = As.reverse ++ .ref b :: st) (hcs : cells + mc1 ≤ R.cells ∧ slots + ms1 ≤ R.slots) (hrm : (st.map fun v => v.category).sum ≤ 8)
    (kx : k ≠ 0 → ∀ (H1 : Heap) (locs1 : List Loc) (ls : Array Slot) (q9 : Addr) (ce : Cell), v_rw D A s w H1 locs1 → lv_has ls nL lv → H1[q9]? = some ce → ce.vm = .none → s.vm.findClass (ex k) = some ce.cls → vx_W p l e R s m args below meth c H1 locs1 (cells + mc1) (slots + ms1) Q (F0 m pc ls st) q9)
    (kk : k = 0 → V p l e R s m args below meth c (cells + mc1) (slots + ms1) Q (v_rw D A s) nL (pc + 3) lv (o.toList ++ st) w') : V p l e R s m args below meth c cells slots Q (v_rw D A s) nL pc lv st0 w := by
  intro H locs ls hP hl
  subst hC
  exact v_behind E hA hP hl (vx_runV (As := As) (rest := st) ⟨E.1, E.2.1, E.2.2.1, E.2.2.2.2.1, E.2.2.2.1⟩ (hM H.size) cw ⟨v_preXB, va_recv E.2.2.2.2.2.1 hP.1 hc he, v_preXof E hA hT hP⟩ rfl hn hl.1 hst (lv_room hrm) hdg hcs) kx kk
theorem x_cS (E : v_E p s m args meth c D tys cc nL Ts own (v_rw D A s)) (hA : ∀ q : Nat, s.heap.size ≤ q → A q) (hT : z_Tx A s s.heap) {y : MethodName} {index n maxL : Nat} {bytes : ByteArray} {ret : Option FieldType} {ws' : List Cond} {rm : Room} {As st0 : List Value} (hdg : decode cc pc = .ok (.invokestatic index, 3))
    (hM : v_Thr l y ws' rm D tys As w k ex o w' mc1 ms1) (cw : CallB R s args own index y bytes maxL ret ws' rm mc1 ms1 n ∧ (Cond.static y).before args s = true) (hn : As.length = n) (hst : st0 = As.reverse ++ st) (hcs : cells + mc1 ≤ R.cells ∧ slots + ms1 ≤ R.slots) (hrm : (st.map fun v => v.category).sum ≤ 8)
    (kx : k ≠ 0 → ∀ (H1 : Heap) (locs1 : List Loc) (ls : Array Slot) (q9 : Addr) (ce : Cell), v_rw D A s w H1 locs1 → lv_has ls nL lv → H1[q9]? = some ce → ce.vm = .none → s.vm.findClass (ex k) = some ce.cls → vx_W p l e R s m args below meth c H1 locs1 (cells + mc1) (slots + ms1) Q (F0 m pc ls st) q9)
    (kk : k = 0 → V p l e R s m args below meth c (cells + mc1) (slots + ms1) Q (v_rw D A s) nL (pc + 3) lv (o.toList ++ st) w') : V p l e R s m args below meth c cells slots Q (v_rw D A s) nL pc lv st0 w := by
  intro H locs ls hP hl
  exact v_behind E hA hP hl (vx_runS (As := As) (rest := st) ⟨E.1, E.2.1, E.2.2.1, E.2.2.2.2.1, E.2.2.2.1⟩ (hM H.size) cw ⟨v_preXB, v_preXof E hA hT hP⟩ rfl hn hl.1 hst (lv_room hrm) hdg hcs) kx kk
theorem x_cVp (E : v_E p s m args meth c D tys cc nL Ts own (v_rw D A s)) (hA : ∀ q : Nat, s.heap.size ≤ q → A q) (htab : ∀ x ∈ c.exceptionTable.toList, False) (hT : z_Tx A s s.heap) {C : String} {b ci : Nat} {fs : List Value} {q : vw_C} {y : MethodName} {index n maxL : Nat} {bytes : ByteArray} {ret : Option FieldType} {ws' : List Cond} {rm : Room} {As st0 : List Value} (hdg : decode cc pc = .ok (.invokevirtual index, 3))
    (hM : v_Thr l y ws' rm D tys (.ref b :: As) w k ex o w' mc1 ms1) (cw : CallW R s args own C index y bytes maxL ret ws' rm mc1 ms1 n) (q0 : Nat) (he : w[q0]? = some (b, .inr (ci, fs))) (hc : vwCl[ci]? = some q) (hC : q.1 = C) (hn : As.length = n) (hst : st0 = As.reverse ++ .ref b :: st) (hcs : cells + mc1 ≤ R.cells ∧ slots + ms1 ≤ R.slots) (hrm : (st.map fun v => v.category).sum ≤ 8)
    (hp : k ≠ 0 → k2 ≠ 0 ∧ ex k = ex2 k2) (hcm : cells + mc1 ≤ mc) (hsm : slots + ms1 ≤ ms)
    (kk : k = 0 → V p l e R s m args below meth c (cells + mc1) (slots + ms1) (vx_MQ below (v_Qo D tys kz o2 w2 A) (v_XC D tys k2 ex2 w A) args s mc ms A) (v_rw D A s) nL (pc + 3) lv (o.toList ++ st) w') : V p l e R s m args below meth c cells slots (vx_MQ below (v_Qo D tys kz o2 w2 A) (v_XC D tys k2 ex2 w A) args s mc ms A) (v_rw D A s) nL pc lv st0 w :=
  x_cV E hA hT hdg hM cw q0 he hc hC hn hst hcs hrm (fun hk H1 locs1 ls q9 ce hP hl hce hcv hcl => vx_out (E := ex k) (fun x hx9 => (htab x hx9).elim) E.2.2.2.2.2.2.1 hce hcv hcl (fun t ht hal => ⟨(hp hk).1, (hp hk).2, by rw [ht]; exact hP.1, va_K.moved hal E.2.2.2.2.2.1, hP.2.1, hP.2.2.F ht⟩) hP.2.2.2.2 hcm hsm) kk
theorem x_cSp (E : v_E p s m args meth c D tys cc nL Ts own (v_rw D A s)) (hA : ∀ q : Nat, s.heap.size ≤ q → A q) (htab : ∀ x ∈ c.exceptionTable.toList, False) (hT : z_Tx A s s.heap) {y : MethodName} {index n maxL : Nat} {bytes : ByteArray} {ret : Option FieldType} {ws' : List Cond} {rm : Room} {As st0 : List Value} (hdg : decode cc pc = .ok (.invokestatic index, 3))
    (hM : v_Thr l y ws' rm D tys As w k ex o w' mc1 ms1) (cw : CallB R s args own index y bytes maxL ret ws' rm mc1 ms1 n ∧ (Cond.static y).before args s = true) (hn : As.length = n) (hst : st0 = As.reverse ++ st) (hcs : cells + mc1 ≤ R.cells ∧ slots + ms1 ≤ R.slots) (hrm : (st.map fun v => v.category).sum ≤ 8)
    (hp : k ≠ 0 → k2 ≠ 0 ∧ ex k = ex2 k2) (hcm : cells + mc1 ≤ mc) (hsm : slots + ms1 ≤ ms)
    (kk : k = 0 → V p l e R s m args below meth c (cells + mc1) (slots + ms1) (vx_MQ below (v_Qo D tys kz o2 w2 A) (v_XC D tys k2 ex2 w A) args s mc ms A) (v_rw D A s) nL (pc + 3) lv (o.toList ++ st) w') : V p l e R s m args below meth c cells slots (vx_MQ below (v_Qo D tys kz o2 w2 A) (v_XC D tys k2 ex2 w A) args s mc ms A) (v_rw D A s) nL pc lv st0 w :=
  x_cS E hA hT hdg hM cw hn hst hcs hrm (fun hk H1 locs1 ls q9 ce hP hl hce hcv hcl => vx_out (E := ex k) (fun x hx9 => (htab x hx9).elim) E.2.2.2.2.2.2.1 hce hcv hcl (fun t ht hal => ⟨(hp hk).1, (hp hk).2, by rw [ht]; exact hP.1, va_K.moved hal E.2.2.2.2.2.1, hP.2.1, hP.2.2.F ht⟩) hP.2.2.2.2 hcm hsm) kk
/-- a writer that can't throw -/
theorem x_cVn (E : v_E p s m args meth c D tys cc nL Ts own (v_rw D A s)) (hA : ∀ q : Nat, s.heap.size ≤ q → A q) (hT : z_Tx A s s.heap) {C : String} {b ci : Nat} {fs : List Value} {q : vw_C} {y : MethodName} {index n maxL : Nat} {bytes : ByteArray} {ret : Option FieldType} {ws' : List Cond} {rm : Room} {As st0 : List Value} (hdg : decode cc pc = .ok (.invokevirtual index, 3))
    (hM : v_Thr l y ws' rm D tys (.ref b :: As) w 0 ex o w' mc1 ms1) (cw : CallW R s args own C index y bytes maxL ret ws' rm mc1 ms1 n) (q0 : Nat) (he : w[q0]? = some (b, .inr (ci, fs))) (hc : vwCl[ci]? = some q) (hC : q.1 = C) (hn : As.length = n) (hst : st0 = As.reverse ++ .ref b :: st) (hcs : cells + mc1 ≤ R.cells ∧ slots + ms1 ≤ R.slots) (hrm : (st.map fun v => v.category).sum ≤ 8)
    (kk : V p l e R s m args below meth c (cells + mc1) (slots + ms1) Q (v_rw D A s) nL (pc + 3) lv (o.toList ++ st) w') : V p l e R s m args below meth c cells slots Q (v_rw D A s) nL pc lv st0 w :=
  x_cV E hA hT hdg hM cw q0 he hc hC hn hst hcs hrm (fun hk => absurd rfl hk) (fun _ => kk)
end VTHR
