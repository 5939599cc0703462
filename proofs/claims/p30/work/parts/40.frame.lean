/-! ===== a contract over a part of the world ===== -/
section FRAME
variable {D : va_G} {cl : List vw_C} {w w' w1 w1' w2 : va_W} {H : Heap} {A : Nat → Prop} {sz : Nat}
theorem va_P_mem : va_P D cl w H ↔ ∀ q ∈ w, va_at D cl q H := by
  refine ⟨fun h q hq => ?_, fun h k q hk => h q (List.mem_of_getElem? hk)⟩
  obtain ⟨k, hk⟩ := List.getElem?_of_mem hq
  exact h k q hk
theorem va_D_mem : va_D A w ↔ (w.map (·.1)).Nodup ∧ ∀ q ∈ w, A q.1 := by
  constructor
  · intro h
    refine ⟨?_, fun q hq => ?_⟩
    · show List.Pairwise (· ≠ ·) _
      rw [List.pairwise_iff_getElem]
      intro i j hi hj hij heq
      rw [List.length_map] at hi hj
      rw [List.getElem_map, List.getElem_map] at heq
      have := h.1 i j _ _ (List.getElem?_eq_getElem hi) (List.getElem?_eq_getElem hj) heq
      omega
    · obtain ⟨k, hk⟩ := List.getElem?_of_mem hq
      exact h.2 k q hk
  · rintro ⟨h1, h2⟩
    refine ⟨fun i j p q hi hj e => ?_, fun k q hk => h2 q (List.mem_of_getElem? hk)⟩
    have h1 : List.Pairwise (· ≠ ·) (w.map (·.1)) := h1
    rw [List.pairwise_iff_getElem] at h1
    obtain ⟨hi1, hi2⟩ := List.getElem?_eq_some_iff.mp hi
    obtain ⟨hj1, hj2⟩ := List.getElem?_eq_some_iff.mp hj
    have hii : (w.map (·.1))[i]'(by rw [List.length_map]; exact hi1) = p.1 := by rw [List.getElem_map, hi2]
    have hjj : (w.map (·.1))[j]'(by rw [List.length_map]; exact hj1) = q.1 := by rw [List.getElem_map, hj2]
    rcases Nat.lt_trichotomy i j with a | a | a
    · exact absurd (by rw [hii, hjj, e]) (h1 i j (by rw [List.length_map]; exact hi1) (by rw [List.length_map]; exact hj1) a)
    · exact a
    · exact absurd (by rw [hii, hjj, e]) (h1 j i (by rw [List.length_map]; exact hj1) (by rw [List.length_map]; exact hi1) a)
theorem va_A_mem {q : Nat} : va_A w sz q ↔ q ∈ w.map (·.1) ∨ sz ≤ q := by
  constructor
  · rintro (⟨k, e, h⟩ | h)
    · exact Or.inl (List.mem_map.mpr ⟨(q, e), List.mem_of_getElem? h, rfl⟩)
    · exact Or.inr h
  · rintro (h | h)
    · obtain ⟨x, hx, rfl⟩ := List.mem_map.mp h
      obtain ⟨k, hk⟩ := List.getElem?_of_mem hx
      exact Or.inl ⟨k, x.2, hk⟩
    · exact Or.inr h
theorem va_P_app : va_P D cl (w1 ++ w2) H ↔ va_P D cl w1 H ∧ va_P D cl w2 H := by
  rw [va_P_mem, va_P_mem, va_P_mem]
  constructor
  · exact fun h => ⟨fun q hq => h q (List.mem_append_left _ hq), fun q hq => h q (List.mem_append_right _ hq)⟩
  · rintro ⟨h1, h2⟩ q hq
    rcases List.mem_append.mp hq with h | h
    · exact h1 q h
    · exact h2 q h
theorem va_P_perm (hp : w.Perm w') : va_P D cl w H ↔ va_P D cl w' H := by
  rw [va_P_mem, va_P_mem]
  exact ⟨fun h q hq => h q (hp.mem_iff.mpr hq), fun h q hq => h q (hp.mem_iff.mp hq)⟩
theorem va_D_perm (hp : w.Perm w') : va_D A w ↔ va_D A w' := by
  rw [va_D_mem, va_D_mem, (hp.map _).nodup_iff]
  exact ⟨fun h => ⟨h.1, fun q hq => h.2 q (hp.mem_iff.mpr hq)⟩, fun h => ⟨h.1, fun q hq => h.2 q (hp.mem_iff.mp hq)⟩⟩
theorem va_A_perm (hp : w.Perm w') {q : Nat} : va_A w sz q ↔ va_A w' sz q := by
  rw [va_A_mem, va_A_mem, (hp.map _).mem_iff]
theorem va_D_app : va_D A (w1 ++ w2) ↔ va_D A w1 ∧ va_D A w2 ∧ ∀ q1 ∈ w1, ∀ q2 ∈ w2, q1.1 ≠ q2.1 := by
  rw [va_D_mem, va_D_mem, va_D_mem, List.map_append, List.nodup_append]
  constructor
  · rintro ⟨⟨h1, h2, h3⟩, h4⟩
    exact ⟨⟨h1, fun q hq => h4 q (List.mem_append_left _ hq)⟩, ⟨h2, fun q hq => h4 q (List.mem_append_right _ hq)⟩, fun q1 hq1 q2 hq2 => h3 q1.1 (List.mem_map.mpr ⟨q1, hq1, rfl⟩) q2.1 (List.mem_map.mpr ⟨q2, hq2, rfl⟩)⟩
  · rintro ⟨⟨h1, h2⟩, ⟨h3, h4⟩, h5⟩
    refine ⟨⟨h1, h3, fun a ha b hb => ?_⟩, fun q hq => ?_⟩
    · obtain ⟨x, hx, rfl⟩ := List.mem_map.mp ha
      obtain ⟨y, hy, rfl⟩ := List.mem_map.mp hb
      exact h5 x hx y hy
    · rcases List.mem_append.mp hq with h | h
      · exact h2 q h
      · exact h4 q h
/-- what is behind a call on a part: the rest stands -/
theorem fr_behind {U t : State} (hsz : U.heap.size = sz) (hP : va_P D cl (w1 ++ w2) U.heap) (hD : va_D (fun _ => True) (w1 ++ w2)) (hP1 : va_P D cl w1' t.heap) (hD1 : va_D (va_A w1 sz) w1') (hF : va_F (va_A w1 sz) U t) :
    va_P D cl (w1' ++ w2) t.heap ∧ va_D (va_A (w1 ++ w2) sz) (w1' ++ w2) ∧ va_F (va_A (w1 ++ w2) sz) U t := by
  obtain ⟨hPa, hPb⟩ := va_P_app.mp hP
  obtain ⟨hDa, hDb, hDc⟩ := va_D_app.mp hD
  have hlt : ∀ q ∈ w2, q.1 < sz ∧ ¬ va_A w1 sz q.1 := by
    intro q hq
    have hl := (va_P_mem.mp hPb q hq).lt
    rw [hsz] at hl
    refine ⟨hl, fun h => ?_⟩
    rcases va_A_mem.mp h with h | h
    · obtain ⟨x, hx, e⟩ := List.mem_map.mp h
      exact hDc x hx q hq e
    · omega
  have hsub : ∀ q, va_A w1 sz q → va_A (w1 ++ w2) sz q := by
    intro q h
    rw [va_A_mem, List.map_append]
    rcases va_A_mem.mp h with h | h
    · exact Or.inl (List.mem_append_left _ h)
    · exact Or.inr h
  refine ⟨va_P_app.mpr ⟨hP1, va_P_mem.mpr fun q hq => ?_⟩, va_D_app.mpr ⟨hD1.weaken fun k q _ h => hsub _ h, ?_, fun q1 hq1 q2 hq2 e => ?_⟩, hF.1, fun q h1 h2 => hF.2 q h1 (fun h => h2 (hsub q h))⟩
  · obtain ⟨h1, h2⟩ := hlt q hq
    exact (va_P_mem.mp hPb q hq).kept (hF.2 q.1 (by rw [hsz]; exact h1) h2)
  · rw [va_D_mem] at hDb ⊢
    refine ⟨hDb.1, fun q hq => va_A_mem.mpr (Or.inl ?_)⟩
    rw [List.map_append]
    exact List.mem_append_right _ (List.mem_map.mpr ⟨q, hq, rfl⟩)
  · have h1 := (va_D_mem.mp hD1).2 q1 hq1
    rw [e] at h1
    exact (hlt q2 hq2).2 h1
theorem z_Tx.mono {A A' : Nat → Prop} {U : State} {H : Heap} (h : z_Tx A U H) (hA : ∀ q, A' q → A q) : z_Tx A' U H :=
  ⟨h.1.narrow hA, h.2.1.narrow hA, h.2.2⟩
theorem va_A_sub (h : ∀ q ∈ w1, q ∈ w) {q : Nat} (hq : va_A w1 sz q) : va_A w sz q := by
  rw [va_A_mem] at hq ⊢
  rcases hq with h1 | h1
  · obtain ⟨x, hx, rfl⟩ := List.mem_map.mp h1
    exact Or.inl (List.mem_map.mpr ⟨x, h x hx, rfl⟩)
  · exact Or.inr h1
/-- a contract over a part is a contract over the whole -/
theorem thr_perm {l : Launch} {y : MethodName} {ws : List Cond} {rm : Room} {tys : List (ClassId × FieldType)} {av : List Value} {k mc ms : Nat} {ex : Nat → String} {o : Option Value} (hM : v_Thr l y ws rm D tys av w1 k ex o w1' mc ms) (w2 : va_W) (hp : w.Perm (w1 ++ w2)) (hp' : w'.Perm (w1' ++ w2)) : v_Thr l y ws rm D tys av w k ex o w' mc ms := by
  intro sz
  have hsub : ∀ q, va_A w1 sz q → va_A w sz q := fun q h => va_A_sub (fun x hx => hp.mem_iff.mpr (List.mem_append_left _ hx)) h
  refine (hM sz).mono (fun a U h => ?_) (fun _ _ _ _ _ h => h) (fun a U oc t h hq => ?_)
  · obtain ⟨rfl, h1, h2, h3, h4, h5⟩ := h
    exact ⟨rfl, h1, (va_P_app.mp ((va_P_perm hp).mp h2)).1, h3, (va_D_app.mp ((va_D_perm hp).mp h4)).1, h5.mono hsub⟩
  · obtain ⟨rfl, h1, h2, h3, h4, h5⟩ := h
    have hP := (va_P_perm hp).mp h2
    have hD := (va_D_perm hp).mp h4
    rcases hq with ⟨⟨⟨hk, ho, q1, q2, q3⟩, q4⟩, L, hL, hf⟩ | ⟨q, rfl, E, ce, L, ⟨hk, hE, q1, q2, q3, q4⟩, q5, q6, q7, q8, q9, q10⟩
    · obtain ⟨r1, r2, r3⟩ := fr_behind h1 hP hD q1 q3 q4
      refine Or.inl ⟨⟨⟨hk, ho, (va_P_perm hp').mpr r1, q2, (va_D_perm hp').mpr (r2.weaken fun k q _ h => (va_A_perm hp).mpr h)⟩, r3.1, fun q a b => r3.2 q a (fun z => b ((va_A_perm hp).mpr z))⟩, L, hL, fun q hq => hsub _ (hf q hq)⟩
    · obtain ⟨r1, r2, r3⟩ := fr_behind h1 hP hD q1 q3 q4
      refine Or.inr ⟨q, rfl, E, ce, L, ⟨hk, hE, (va_P_perm hp).mpr r1, q2, (va_D_perm hp).mpr (r2.weaken fun k q _ h => (va_A_perm hp).mpr h), r3.1, fun q a b => r3.2 q a (fun z => b ((va_A_perm hp).mpr z))⟩, q5, q6, q7, q8, q9, fun z hz => hsub _ (q10 z hz)⟩
end FRAME
