/-! ===== making: new objects and arrays, constructors ===== -/
theorem ra_eq {U : State} {c1 c2 : ClassId} {ty : FieldType} (h1 : va_RA U c1 ty) (h2 : va_RA U c2 ty) : c1 = c2 := by
  cases ty with
  | object C =>
    obtain ⟨_, _, _, _, _, h⟩ := h1
    obtain ⟨_, _, _, _, _, h'⟩ := h2
    exact Option.some.inj (h.symm.trans h')
  | _ => exact Option.some.inj (Eq.trans (Eq.symm (show U.vm.findClass _ = some c1 from h1)) h2)
section VINI
variable {p : Program} {l : Launch} {e : Env} {R : Room} {s : State} {m : MethodId} {args : Array Value} {below : List Frame} {meth : Method} {c : Code} {cells slots : Nat} {Q : State → Prop} {nL : Nat}
variable {D : va_G} {tys : List (ClassId × FieldType)} {cc : ByteArray} {Ts : List Cond} {own : String}
variable {pc : Nat} {lv : List (Nat × Value)} {st : List Value} {w w' w2 : va_W} {A : Nat → Prop} {mc ms mc1 ms1 : Nat}
theorem v_perm (hp : w.Perm w') (k : V p l e R s m args below meth c cells slots Q (v_rw D A s) nL pc lv st w') : V p l e R s m args below meth c cells slots Q (v_rw D A s) nL pc lv st w :=
  fun H locs ls hP hl => k H locs ls ⟨(va_P_perm hp).mp hP.1, (va_D_perm hp).mp hP.2.1, hP.2.2⟩ hl
theorem v_room {cells' slots' : Nat} (h1 : cells = cells') (h2 : slots = slots') (k : V p l e R s m args below meth c cells' slots' Q (v_rw D A s) nL pc lv st w) : V p l e R s m args below meth c cells slots Q (v_rw D A s) nL pc lv st w := by
  subst h1
  subst h2
  exact k
theorem v_obj0 (E : v_E p s m args meth c D tys cc nL Ts own (v_rw D A s)) {idx a : Nat} (hdg : decode cc pc = .ok (.invokespecial idx, 3)) (h1 : Cond.methodLink own idx objectInit ∈ Ts) (h2 : Cond.instanceMethod objectInit ∈ Ts) (h3 : Cond.code objectInit ⟨#[0xb1]⟩ 1 none ∈ Ts) (hR : 1 ≤ R.frames) (hR2 : (st.map fun v => v.category).sum + 12 ≤ R.locals)
    (k : V p l e R s m args below meth c cells slots Q (v_rw D A s) nL (pc + 3) lv st w) : V p l e R s m args below meth c cells slots Q (v_rw D A s) nL pc lv (.ref a :: st) w := by
  intro H locs ls hP hl
  refine W.objInit E.1 E.2.1 E.2.2.2.2.1 (E.2.2.2.1 _ h1) (E.2.2.2.1 _ h2) (E.2.2.2.1 _ h3) rfl (by rw [E.2.2.1]; exact hl.1) rfl hdg hR (by show 2 * 0 + _ + 12 ≤ _; omega) ?_
  refine W.eq (g2 := F0 m (pc + 3) ls st) rfl ?_
  exact k H locs ls hP hl
theorem v_new (E : v_E p s m args meth c D tys cc nL Ts own (v_rw D A s)) (hA : ∀ q : Nat, s.heap.size ≤ q → A q) {C : String} {T : u_T} {N ci index : Nat} (hdg : decode cc pc = .ok (.new index, 3)) (hin : ∀ w ∈ u_ws C T N, w ∈ Ts) (ty : Nat → FieldType) (hty : ∀ k, k < N → parseFieldDescriptor (T k).2.2.1 = some (ty k)) (h1 : Cond.classLink own index C ∈ Ts) (h2 : Cond.instantiable C N ∈ Ts) (h3 : Cond.initialized C ∈ Ts) (hc : vwCl[ci]? = some (C, T, N)) {fs : List Value} (hfs : ∀ j, j < N → defaultValue (ty j) = vp_V fs j) (hcells : cells + 1 ≤ R.cells) (hslots : slots + N ≤ R.slots)
    (k : ∀ q : Nat, V p l e R s m args below meth c (cells + 1) (slots + N) Q (v_rw D A s) nL (pc + 3) lv (.ref q :: st) (w ++ [(q, .inr (ci, fs))])) : V p l e R s m args below meth c cells slots Q (v_rw D A s) nL pc lv st w :=
  fun H locs ls hP hl => va_new E.1 E.2.1 E.2.2.2.1 hin ty hty E.2.2.2.2.1 (E.2.2.2.1 _ h1) (E.2.2.2.1 _ h2) (E.2.2.2.1 _ h3) E.2.2.2.2.2.1 hP.1 hP.2.1 hP.2.2 hA hc hfs hcells hslots hdg (fun q H1 a1 a2 a3 => k q H1 locs ls ⟨a1, a2, a3⟩ hl)
theorem v_newa (E : v_E p s m args meth c D tys cc nL Ts own (v_rw D A s)) (hA : ∀ q : Nat, s.heap.size ≤ q → A q) {atype : ArrayType} {ty : FieldType} {cA : ClassId} {n : Nat} {a0 : vp_A} (hdg : decode cc pc = .ok (.newarray atype, 2)) (t0 : Nat) (ht : tys[t0]? = some (cA, ty)) (harr : Cond.arrayClass (newarray.typeOf atype) ∈ Ts) (hty : newarray.typeOf atype = ty) (ha : ∀ cA : ClassId, vp_cell cA a0 = arrV cA n (fun _ => defaultValue ty)) (hn : n < 2 ^ 20) (hcb : componentBytes ty ≤ 8) (hcells : cells + 1 ≤ R.cells) (hslots : slots + n ≤ R.slots)
    (k : ∀ q : Nat, V p l e R s m args below meth c (cells + 1) (slots + n) Q (v_rw D A s) nL (pc + 2) lv (.ref q :: st) (w ++ [(q, .inl (cA, a0))])) : V p l e R s m args below meth c cells slots Q (v_rw D A s) nL pc lv (.int (nI n) :: st) w := by
  intro H locs ls hP hl
  have hb : n * componentBytes ty ≤ 536870912 := Nat.le_trans (Nat.mul_le_mul_left n hcb) (by omega)
  refine va_newa E.1 E.2.1 (E.2.2.2.1 _ harr) hty E.2.2.2.2.2.1 hP.1 hP.2.1 hP.2.2 hA ha (nI_pos (by omega)) (nI_clamp (by omega)) hb hcells hslots hdg (fun q cA' H1 b1 b2 b3 b4 => ?_)
  have e9 : cA' = cA := by
    have h1 := (b1.2 tys.length (cA', ty) (by rw [List.getElem?_append_right (Nat.le_refl _), Nat.sub_self]; rfl)).2
    exact ra_eq h1 (E.2.2.2.2.2.1.2 t0 _ ht).2
  subst e9
  exact k q H1 locs ls ⟨b2, b3, b4⟩ hl
theorem v_putF (E : v_E p s m args meth c D tys cc nL Ts own (v_rw D A s)) (hini : meth.name = "<init>") {a : Nat} {ref C : String} {T : u_T} {N ci index : Nat} {fs : List Value} {v : Value} {ty : FieldType} {w' : va_W} (hdg : decode cc pc = .ok (.putfield index, 3)) (q0 : Nat) (f : Nat) (ty0 : Nat → FieldType) (hty : ∀ k, k < N → parseFieldDescriptor (T k).2.2.1 = some (ty0 k)) (hnm : ∀ a, a < N → ∀ b, b < N → a ≠ b → (T a).2.1 ≠ (T b).2.1) (hin : ∀ w ∈ u_ws C T N, w ∈ Ts) (he : w[q0]? = some (a, .inr (ci, fs))) (hc : vwCl[ci]? = some (C, T, N)) (hk : f < N) (hlink : Cond.fieldLink own index ref (T f).2.1 (T f).2.2.1 ∈ Ts) (hsame : (T f).1 = ref) (hfin : (T f).2.2.2 = true) (hdecl : (T f).1 = own) (hd : parseFieldDescriptor (T f).2.2.1 = some ty) (hn : narrow ty v = v) (hfit : fits ty v = true) (hl : f < fs.length) (hw : w.set q0 (a, .inr (ci, fs.set f v)) = w')
    (k : V p l e R s m args below meth c cells slots Q (v_rw D A s) nL (pc + 3) lv st w') : V p l e R s m args below meth c cells slots Q (v_rw D A s) nL pc lv (v :: .ref a :: st) w :=
  fun H locs ls hP hl9 => va_putF (ty := ty) E.1 E.2.1 E.2.2.2.1 hin ty0 hty hnm E.2.2.2.2.1 E.2.2.2.2.2.1 hP.1 hP.2.1 hP.2.2 q0 he hc f hk (E.2.2.2.1 _ hlink) (fun _ h9 => by rw [← hsame]; exact h9) hfin hini hdecl hd hn hfit hl hdg (fun H1 locs1 h1 h2 h3 => k H1 locs1 ls ⟨by rw [← hw]; exact h1, by rw [← hw]; exact h2, h3⟩ hl9)
theorem v_mna (E : v_E p s m args meth c D tys cc nL Ts own (v_rw D A s)) (hA : ∀ q : Nat, s.heap.size ≤ q → A q) {index : Nat} {cy cQ : ClassId} {N K : Nat} (hdg : decode cc pc = .ok (.multianewarray index 2, 4)) (h1 : Cond.classLink own index "[[I" ∈ Ts) (hover : va_AOA .int s) (h2 : Cond.arrayClass .int ∈ Ts) (t0 t1 : Nat) (ht0 : tys[t0]? = some (cy, .int)) (ht1 : tys[t1]? = some (cQ, .array .int)) (hN : N < 2 ^ 20) (hK : K < 2 ^ 20) (hcells : cells + (1 + N) ≤ R.cells) (hslots : slots + (N + N * K) ≤ R.slots)
    (k : ∀ (q : Nat) (r : Nat → Nat), V p l e R s m args below meth c (cells + 1 + N) (slots + N + N * K) Q (v_rw D A s) nL (pc + 4) lv (.ref q :: st) (w ++ ((q, .inl (cQ, N, .inr (.inr (.inr (.inr (fun i => if i < N then some (r i) else none)))))) :: (List.range N).map (fun i => (r i, .inl (cy, K, .inl (fun _ => 0))))))) : V p l e R s m args below meth c cells slots Q (v_rw D A s) nL pc lv (.int (nI K) :: .int (nI N) :: st) w := by
  intro H locs ls hP hl
  have hcy : s.vm.findClass (FieldType.array .int).toString = some cy := (E.2.2.2.2.2.1.2 t0 _ ht0).2
  refine va_mna (X := w) (L := []) (f := fun _ => .inr (0, [])) (ty := .int) (cy := cy) (z := (K, .inl (fun _ => 0))) E.1 E.2.1 E.2.2.2.2.1 (E.2.2.2.1 _ h1) hover (E.2.2.2.1 _ h2) hcy E.2.2.2.2.2.1 (by show va_P D vwCl (w ++ []) H; rw [List.append_nil]; exact hP.1) (by show va_D A (w ++ []); rw [List.append_nil]; exact hP.2.1) hP.2.2 hA (nI_pos (by omega)) (nI_pos (by omega)) (nI_clamp (by omega)) (nI_clamp (by omega)) (by omega) (by show K * 4 ≤ _; omega) (by omega) rfl rfl hcells hslots (fun c => ?_) hdg (fun q r cA H1 b1 b2 b3 b4 b5 b6 => ?_)
  · rw [vp_cell_i]
    exact arrV_new c K (.int 0)
  · have e9 : cA = cQ := by
      have h1 := (b3.2 tys.length (cA, .array .int) (by rw [List.getElem?_append_right (Nat.le_refl _), Nat.sub_self]; rfl)).2
      exact ra_eq h1 (E.2.2.2.2.2.1.2 t1 _ ht1).2
    subst e9
    rw [← vr_rows (fun a _ h => by cases h)] at b4 b5
    have e8 : (w ++ [(q, Sum.inl (cA, N, Sum.inr (Sum.inr (Sum.inr (Sum.inr (fun i => if i < N then some (r i) else none))))))]) ++ (va_pl [] (fun _ => Sum.inr (0, [])) ++ ((List.range N).map r).map (fun a => (a, Sum.inl (cy, K, Sum.inl (fun _ => 0))))) = (w ++ ((q, Sum.inl (cA, N, Sum.inr (Sum.inr (Sum.inr (Sum.inr (fun i => if i < N then some (r i) else none)))))) :: (List.range N).map (fun i => (r i, Sum.inl (cy, K, Sum.inl (fun _ => 0)))))  : va_W) := by
      rw [List.append_assoc, List.map_map]
      rfl
    rw [e8] at b4 b5
    exact k q r H1 locs ls ⟨b4, b5, b6⟩ hl
/-! a constructor's contract -/
def zini (U : State) : Prop := va_AOA .int U ∧ va_Nw (.methodLinkNest RX1 21 yX0_init "FlakeTriage") U
theorem zini.go {U : State} (h : zini s) (hW : s.WarmedH U.vm) : zini U := ⟨va_AOA.moved hW.alike h.1, va_Nw.warmM hW h.2⟩
def v_preI (D : va_G) (tys : List (ClassId × FieldType)) (w : va_W) (sz : Nat) : State → Prop := fun U => U.heap.size = sz ∧ va_P D vwCl w U.heap ∧ va_K D vwCl tys U ∧ va_D (fun _ => True) w ∧ zini U
theorem v_preIB {av : List Value} {sz : Nat} : FrameBlind (va_Pc av (v_preI D tys w sz)) := fun a U g mk q => ⟨q.1, q.2.1, q.2.2.1, va_K.moved (u := U) (U := U.calling g mk a) (Vm.Alike.refl U.vm) q.2.2.2.1, q.2.2.2.2.1, zini.go (s := U) (U := U.calling g mk a) q.2.2.2.2.2 (State.WarmedH.refl U)⟩
/-- it returns nothing; its world is one of the form Wn -/
def v_Qi (D : va_G) (tys : List (ClassId × FieldType)) (Wn : (Nat → Nat) → va_W) (cd : (Nat → Nat) → Prop) (A : Nat → Prop) : Array Value → State → Outcome → State → Prop := fun _ st oc t => (∃ a, cd a ∧ oc = .returned none ∧ va_P D vwCl (Wn a) t.heap ∧ va_K D vwCl tys t ∧ va_D A (Wn a)) ∧ va_F A st t
def v_Ini (l : Launch) (y : MethodName) (ws : List Cond) (rm : Room) (D : va_G) (tys : List (ClassId × FieldType)) (av : List Value) (w : va_W) (Wn : (Nat → Nat) → va_W) (cd : (Nat → Nat) → Prop) (mc ms : Nat) : Prop :=
  ∀ sz : Nat, Met l y ws rm (va_Pc av (v_preI D tys w sz)) (v_Qi D tys Wn cd (va_A w sz)) mc ms (va_A w sz)
theorem v_inits {y : MethodName} {ws ws' : List Cond} {rm : Room} {maxL : Nat} {av : List Value} {lv0 : List (Nat × Value)} {Wn : (Nat → Nat) → va_W} {cd : (Nat → Nat) → Prop}
    (hy : plainName y.cls = true) (hw : ws = Cond.code y cc maxL none :: ws') (ho : y.cls = own) (hyn : y.name = "<init>") (hn : (lg_sl av).length ≤ maxL) (hlv : lv_args 0 av = lv0)
    (body : ∀ (p : Program) (e : Env) (s : State) (m : MethodId) (args : Array Value) (below : List Frame) (meth : Method) (c : Code) (A : Nat → Prop), v_E p s m args meth c D tys cc maxL ws own (v_rw D A s) → (∀ q : Nat, s.heap.size ≤ q → A q) → zini s → meth.name = "<init>" → meth.sig.returnType = none →
      V p l e (headSpec ws rm).room s m args below meth c 0 0 (MQ below (v_Qi D tys Wn cd A) args s mc ms A) (v_rw D A s) maxL 0 lv0 [] w) : v_Ini l y ws rm D tys av w Wn cd mc ms := by
  intro sz
  refine Met.ofW (cc := cc) (maxL := maxL) (ret := none) hy hw ?_
  intro p e s m args below meth c s₁ B hml hv
  obtain ⟨rfl, rfl, hP, hK, hD, hT⟩ := hv
  have hDs := hD.self (sz := s.heap.size)
  have h := body p e s m av.toArray below meth c (va_A w s.heap.size) ⟨B.exec, B.bytes, hml, atoms_spec (ws := ws) B.pre, by rw [← ho]; exact findClass_of_methodNamed B.named, hK, B.notSynchronized, fun _ _ _ q => q.1⟩ (fun q h => Or.inr h) hT (by rw [← hyn]; exact (name_of_methodNamed B.named B.method).1) B.returns
  rw [lg_entry_eq]
  have hl := lv_entry av (n := maxL) hn
  rw [hlv] at hl
  exact h s.heap [] _ ⟨hP, hDs, va_S.rf⟩ hl
theorem i_ret (E : v_E p s m args meth c D tys cc nL Ts own (v_rw D A s)) {Wn : (Nat → Nat) → va_W} {cd : (Nat → Nat) → Prop} (hr : meth.sig.returnType = none) (a : Nat → Nat) (hcd : cd a) (hw : w = Wn a) (hc : cells = mc) (hs : slots = ms) (hdg : decode cc pc = .ok (.return_, 1)) : V p l e R s m args below meth c cells slots (MQ below (v_Qi D tys Wn cd A) args s mc ms A) (v_rw D A s) nL pc lv [] w := by
  intro H locs ls hP hl
  subst hc
  subst hs
  subst hw
  exact W.vret E.1 E.2.1 hr (fun t ht hW => ⟨⟨a, hcd, rfl, by rw [ht]; exact hP.1, va_K.moved hW.alike E.2.2.2.2.2.1, hP.2.1⟩, hP.2.2.F ht⟩) hP.2.2.2.2 hdg E.2.2.2.2.2.2.1
theorem v_preIof (E : v_E p s m args meth c D tys cc nL Ts own (v_rw D A s)) (hZ : zini s) {H : Heap} {locs : List Loc} (hP : v_rw D A s (w ++ w2) H locs) {av : List Value} : ∀ U : State, U.heap = H → s.WarmedH U.vm → va_Pc av (v_preI D tys w H.size) av.toArray U := fun U hU hW =>
  ⟨rfl, by rw [hU], by rw [hU]; exact (va_P_app.mp hP.1).1, va_K.moved hW.alike E.2.2.2.2.2.1, (va_D_app.mp hP.2.1).1.weaken (fun _ _ _ _ => trivial), hZ.go hW⟩
/-- behind a constructor -/
theorem v_behindI (E : v_E p s m args meth c D tys cc nL Ts own (v_rw D A s)) (hA : ∀ q : Nat, s.heap.size ≤ q → A q) {H : Heap} {locs : List Loc} {ls : Array Slot} {Wn : (Nat → Nat) → va_W} {cd : (Nat → Nat) → Prop} (hP : v_rw D A s (w ++ w2) H locs) (hl : lv_has ls nL lv) {av : Array Value} {st0 : List Value}
    (hr : va_Run p l e R s m args below meth c H locs cells slots mc1 ms1 (F0 m pc ls st0) st (v_Qi D tys Wn cd (va_A w H.size) av) (va_A w H.size))
    (kk : ∀ a, cd a → V p l e R s m args below meth c (cells + mc1) (slots + ms1) Q (v_rw D A s) nL (pc + 3) lv st (Wn a ++ w2)) : W p l e R s m args below meth c H locs cells slots Q (F0 m pc ls st0) := by
  have hF9 : ∀ q, va_A w H.size q → A q := fun q h => v_freeA hA hP q (va_A_sub (fun x hx => List.mem_append_left _ hx) h)
  intro T hT X
  obtain ⟨v, st₀, t, T', L, h0, X', hL, e1, e2, ⟨⟨a, hcd, hv, hP', -, hD'⟩, hF⟩, stp⟩ := hr T hT X
  cases hv
  obtain ⟨-, -, k3⟩ := vx_keep h0 e1 hP.2.2 (fun q _ h => hF9 q h) hF9 hL hF
  obtain ⟨r1, r2, -⟩ := fr_behind (U := st₀) (t := t) (by rw [h0]) (by rw [h0]; exact hP.1) (hP.2.1.weaken (fun _ _ _ _ => trivial)) hP' hD' hF
  obtain ⟨t2, a1, b1⟩ := kk a hcd T'.heap (locs ++ L) ls ⟨by rw [e1]; exact r1, r2.weaken (fun k9 q _ h => v_freeA hA hP q.1 h), k3⟩ hl T' rfl X'
  exact ⟨t2, stp t2 a1, b1⟩
end VINI
